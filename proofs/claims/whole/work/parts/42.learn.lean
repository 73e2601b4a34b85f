section
variable {sc : SC} {I : HI} {L : HL} {R : HR} {N : HN} {n : Nat} {Q : HQ}
set_option maxRecDepth 20000 in
theorem sX2_differenceFrom (hs : SK R N) {p : PL} {C : VV} {k pl z s : Nat} (hb : ∀ j, j < 31 → I 72 j = pBr p j) (hp : R k 2 = some pl) (hN : N pl = 24) (hz : I k 1 = nI z) (h24 : z ≤ 24) (hc : ∀ j, j < 24 → I pl j = C (24 * s + j)) (hq : Q (vI (dfK p C s z)) I L R N n) : CA sc 3 0 0 mX2_differenceFrom [vR 2 59, vR 4 k] I L R N n Q := by
  have lp : ∀ (m j : Nat), j + m = 24 → WP sc 3 0 0 mX2_differenceFrom 4 [vR 2 59, vR 4 k, vI (dfK p C s (min j z)), vI (nI j)] [] I L R N n Q := by
    intro k
    induction k with
    | zero =>
      intro j hj
      refine w_iload_n dX2_differenceFrom_4 rfl ?_
      refine w_bipush dX2_differenceFrom_5 bp_24 ?_
      refine w_icmp_ge (tgt := 47) dX2_differenceFrom_7 (by decide) (fun c7 => ?_) (fun c7 => ?_)
      · refine w_iload_n dX2_differenceFrom_47 rfl ?_
        refine w_ireturn dX2_differenceFrom_48 rfl rfl ?_
        exact q_e (by rw [show min j z = z by omega]) hq
      · exact absurd (nI_le (a := 24) (by omega) (by omega)) c7
    | succ k ih =>
      intro j hj
      refine w_iload_n dX2_differenceFrom_4 rfl ?_
      refine w_bipush dX2_differenceFrom_5 bp_24 ?_
      refine w_icmp_ge (tgt := 47) dX2_differenceFrom_7 (by decide) (fun c7 => ?_) (fun c7 => ?_)
      · exact absurd ((nI_leI (a := 24) (by omega) (by omega)).mp c7) (by omega)
      · refine w_aload_n dX2_differenceFrom_10 rfl ?_
        refine w_iload_n dX2_differenceFrom_11 rfl ?_
        refine c_V (t := 4) (as := [_]) (d' := 2) dX2_differenceFrom_12 mlX2_124 moX4_hasNumber mvX4_hasNumber ⟨rfl, rfl⟩ rfl rfl rfl rfl rfl (by decide) (sX4_hasNumber hp hN hz h24 (by omega) ?_)
        refine w_top (y := bI (j < z ∧ C (24 * s + j) ≠ -1000000005)) (by rw [hc j (by omega)]) ?_
        refine w_ifB_eq (tgt := 41) dX2_differenceFrom_15 (by decide) (fun c15 => ?_) (fun c15 => ?_)
        · refine w_iinc (al' := [_, _, _, _]) dX2_differenceFrom_41 rfl rfl ic_1 rfl ?_
          refine w_goto (tgt := 4) dX2_differenceFrom_44 (by decide) ?_
          simp only [nI_1]
          have hgo := ih (j + 1) (by omega)
          by_cases hjz : j < z
          · rw [show min (j + 1) z = j + 1 by omega, dfK, if_pos (Classical.not_not.mp (fun q => c15 ⟨hjz, q⟩)), Int32.add_zero] at hgo
            rw [show min j z = j by omega]
            exact hgo
          · rw [show min (j + 1) z = min j z by omega] at hgo
            exact hgo
        · refine w_iload_n dX2_differenceFrom_18 rfl ?_
          refine w_aload_n dX2_differenceFrom_19 rfl ?_
          refine w_getR dX2_differenceFrom_20 flX2_129 rfl hp ?_
          refine w_iload_n dX2_differenceFrom_23 rfl ?_
          refine w_iald dX2_differenceFrom_24 rfl hN (by omega) ?_
          refine w_top (y := C (24 * s + j)) (hc j (by omega)) ?_
          refine w_aload_n dX2_differenceFrom_25 rfl ?_
          refine w_getR dX2_differenceFrom_26 flX2_33 rfl (hs.r (a := 59) (j := 6) (b := 72) 71 rfl) ?_
          refine w_iload_n dX2_differenceFrom_29 rfl ?_
          refine w_iald dX2_differenceFrom_30 rfl (hs.n (a := 72) (z := 31) 50 rfl) (by omega) ?_
          refine w_top (y := pBr p j) (hb j (by omega)) ?_
          refine w_sipush dX2_differenceFrom_31 sp_10000 ?_
          refine w_idiv dX2_differenceFrom_34 (by decide) ?_
          refine w_isub dX2_differenceFrom_35 ?_
          refine w_abs dX2_differenceFrom_36 mlX2_132 st_abs iiJ9 co_abs (by decide) (Nat.le_of_ble_eq_true rfl) ?_
          refine w_iadd dX2_differenceFrom_39 ?_
          refine w_istore_n (al' := [_, _, _, _]) dX2_differenceFrom_40 rfl rfl rfl ?_
          refine w_iinc (al' := [_, _, _, _]) dX2_differenceFrom_41 rfl rfl ic_1 rfl ?_
          refine w_goto (tgt := 4) dX2_differenceFrom_44 (by decide) ?_
          simp only [nI_1]
          have hgo := ih (j + 1) (by omega)
          rw [show min (j + 1) z = j + 1 by omega, dfK, if_neg c15.2] at hgo
          have hmj : min j z = j := by omega
          rw [hmj]
          exact hgo
  refine ca_in (al := [_, _, _, _]) rfl ?_
  refine w_iconst dX2_differenceFrom_0 ic_0 ?_
  refine w_istore_n (al' := [_, _, _, _]) dX2_differenceFrom_1 rfl rfl rfl ?_
  refine w_iconst dX2_differenceFrom_2 ic_0 ?_
  refine w_istore_n (al' := [_, _, _, _]) dX2_differenceFrom_3 rfl rfl rfl ?_
  have hgo := lp 24 0 rfl
  rw [Nat.zero_min] at hgo
  exact hgo

set_option maxRecDepth 20000 in
theorem lX9_learn (hs : SK R N) {V : VV} (hV : VO V) (hC : WC I R N n 1 V) {X : X3} (hO : SO X.1 X.2.1) (hS : SHC I X.1 X.2.1 X.2.2) {s z : Nat} (hs4 : s ≤ 3) (hz : X.2.1 s = nI z) (hz24 : z ≤ 24) {I1 : HI} (hI1 : ∀ q, q ≠ 13 → (q < 60 ∨ 74 ≤ q) → I1 q = I q) (ho : (∀ i, i < 31 → I1 60 i = owV V i)) (hf : (∀ s, s < nS V → ∀ j, j < 31 → I1 (62 + s) j = forgV V (V (6 + 7 * s + 1)) (told (V 4)) (nI j))) (hq : ∀ I' : HI, (∀ q, q ≠ 13 → (q < 60 ∨ 74 ≤ q) → I' q = I q) → Q (vI (told (lnF (fun i => dfK (planV V i) X.2.2 s z) (nS V)).1)) I' L R N n) : WP sc 6 0 0 mX9_learn 45 [vR 9 0, vI (nI s), vR 4 (84 + 2 * s), vI (-1000000005), vI 0, vI (nI 0), vU] [] I1 L R N n Q := by
  have h6 := hV.1.2
  have hsh := hs.sheets (show s < 4 by omega)
  obtain ⟨k0, k1, k2⟩ := hS s (by omega)
  have lp : ∀ (k j : Nat) (I1 : HI), j + k = nS V → (∀ q, q ≠ 13 → (q < 60 ∨ 74 ≤ q) → I1 q = I q) → (∀ i, i < 31 → I1 60 i = owV V i) → (∀ s, s < nS V → ∀ j, j < 31 → I1 (62 + s) j = forgV V (V (6 + 7 * s + 1)) (told (V 4)) (nI j)) → WP sc 6 0 0 mX9_learn 45 [vR 9 0, vI (nI s), vR 4 (84 + 2 * s), vI (told (lnF (fun i => dfK (planV V i) X.2.2 s z) j).1), vI (lnF (fun i => dfK (planV V i) X.2.2 s z) j).2, vI (nI j), vU] [] I1 L R N n Q := by
    intro k
    induction k with
    | zero =>
      intro j I1 hj hI1 ho hf
      refine w_iload dX9_learn_45 rfl ?_
      refine w_aload_n dX9_learn_47 rfl ?_
      refine w_getR dX9_learn_48 flX9_10 rfl (hs.r (a := 0) (j := 0) (b := 1) 0 rfl) ?_
      refine w_getI dX9_learn_51 flX9_94 rfl ?_
      refine w_top (y := nI (nS V)) ((congrFun (hI1 1 (by decide) (by decide)) 1).trans (hC.1.1.trans hV.1.1)) ?_
      refine w_icmp_ge (tgt := 106) dX9_learn_54 (by decide) (fun c54 => ?_) (fun c54 => ?_)
      · obtain rfl : j = nS V := by omega
        refine w_iload_n dX9_learn_106 rfl ?_
        refine w_ireturn dX9_learn_107 rfl rfl ?_
        exact hq I1 hI1
      · exact absurd (nI_le (a := nS V) (by omega) (by omega)) c54
    | succ k ih =>
      intro j I1 hj hI1 ho hf
      refine w_iload dX9_learn_45 rfl ?_
      refine w_aload_n dX9_learn_47 rfl ?_
      refine w_getR dX9_learn_48 flX9_10 rfl (hs.r (a := 0) (j := 0) (b := 1) 0 rfl) ?_
      refine w_getI dX9_learn_51 flX9_94 rfl ?_
      refine w_top (y := nI (nS V)) ((congrFun (hI1 1 (by decide) (by decide)) 1).trans (hC.1.1.trans hV.1.1)) ?_
      refine w_icmp_ge (tgt := 106) dX9_learn_54 (by decide) (fun c54 => ?_) (fun c54 => ?_)
      · exact absurd ((nI_leI (by omega) (by omega)).mp c54) (by omega)
      · have hss : j < nS V := by omega
        have hC1 : WC I1 R N n 1 V := hC.keep hV (fun q hz => hI1 q (by unfold WA at hz; omega) (by unfold WA at hz; omega))
        have hlr : (lnF (fun i => dfK (planV V i) X.2.2 s z) j).1 = -1 ∨ ∃ i, i < 8 ∧ (lnF (fun i => dfK (planV V i) X.2.2 s z) j).1 = nI i := (ln_rng (fun i => dfK (planV V i) X.2.2 s z) j).imp id (fun ⟨i, h1, h2⟩ => ⟨i, by omega, h2⟩)
        refine w_aload_n dX9_learn_57 rfl ?_
        refine w_getR dX9_learn_58 flX9_26 rfl (hs.r (a := 0) (j := 3) (b := 59) 2 rfl) ?_
        refine w_aload_n dX9_learn_61 rfl ?_
        refine w_getR dX9_learn_62 flX9_10 rfl (hs.r (a := 0) (j := 0) (b := 1) 0 rfl) ?_
        refine w_iload dX9_learn_65 rfl ?_
        refine c_Vv (t := 2) (as := [_, _]) (d' := 4) dX9_learn_67 mlX9_169 moX2_follow mvX2_follow ⟨rfl, rfl⟩ rfl rfl rfl rfl rfl (by decide) (sX2_follow hs (Or.inl rfl) hV hC1 hss (oF := owV V) (cd := told (V 4)) ho (fun i hi => hf j hss i hi) (fun I2 hI2 hF2 => ?_))
        refine w_aload_n dX9_learn_70 rfl ?_
        refine w_getR dX9_learn_71 flX9_26 rfl (hs.r (a := 0) (j := 3) (b := 59) 2 rfl) ?_
        refine w_aload_n dX9_learn_74 rfl ?_
        refine c_V (t := 2) (as := [_]) (d' := 3) dX9_learn_75 mlX9_285 moX2_differenceFrom mvX2_differenceFrom ⟨rfl, rfl⟩ rfl rfl rfl rfl rfl (by decide) (sX2_differenceFrom hs (p := planV V j) (C := X.2.2) (s := s) (z := z) (fun i hi => (hF2 i hi).2.2.2.2.1) hsh.2.1 hsh.2.2 (by rw [hI2 (84 + 2 * s) (by omega) (by omega), hI1 (84 + 2 * s) (by omega) (by omega), k1, hz]) hz24 (fun i hi => by rw [hI2 (85 + 2 * s) (by omega) (by omega), hI1 (85 + 2 * s) (by omega) (by omega)]; exact k2 i hi) ?_)
        refine w_istore (al' := [_, _, _, _, _, _, _]) dX9_learn_78 rfl rfl rfl ?_
        refine w_iload_n dX9_learn_80 rfl ?_
        refine w_ldc dX9_learn_81 kcX9_141 ?_
        refine w_icmp_eq (tgt := 93) dX9_learn_83 (by decide) (fun c83 => ?_) (fun c83 => ?_)
        · refine w_iload dX9_learn_93 rfl ?_
          refine w_istore_n (al' := [_, _, _, _, _, _, _]) dX9_learn_95 rfl rfl rfl ?_
          refine w_iload dX9_learn_96 rfl ?_
          refine w_istore (al' := [_, _, _, _, _, _, _]) dX9_learn_98 rfl rfl rfl ?_
          refine w_iinc (al' := [_, _, _, _, _, _, _]) dX9_learn_100 rfl rfl ic_1 rfl ?_
          refine w_goto (tgt := 45) dX9_learn_103 (by decide) ?_
          refine w_kill (i := 6) (al' := [_, _, _, _, _, _, _]) rfl ?_
          simp only [nI_1]
          have hgo := ih (j + 1) I2 (by omega) (fun q a1 a2 => (hI2 q a1 (by omega)).trans (hI1 q a1 a2)) (fun i hi => by rw [hI2 60 (by decide) (by decide)]; exact ho i hi) (fun s9 hs9 i hi => by rw [hI2 (62 + s9) (by omega) (by omega)]; exact hf s9 hs9 i hi)
          rw [ln_t (Or.inl ((told_no hlr).mp c83)), told_s (k := j) rfl (by omega)] at hgo
          exact hgo
        · refine w_iload dX9_learn_86 rfl ?_
          refine w_iload dX9_learn_88 rfl ?_
          refine w_icmp_ge (tgt := 100) dX9_learn_90 (by decide) (fun c90 => ?_) (fun c90 => ?_)
          · refine w_iinc (al' := [_, _, _, _, _, _, _]) dX9_learn_100 rfl rfl ic_1 rfl ?_
            refine w_goto (tgt := 45) dX9_learn_103 (by decide) ?_
            refine w_kill (i := 6) (al' := [_, _, _, _, _, _, _]) rfl ?_
            simp only [nI_1]
            have hgo := ih (j + 1) I2 (by omega) (fun q a1 a2 => (hI2 q a1 (by omega)).trans (hI1 q a1 a2)) (fun i hi => by rw [hI2 60 (by decide) (by decide)]; exact ho i hi) (fun s9 hs9 i hi => by rw [hI2 (62 + s9) (by omega) (by omega)]; exact hf s9 hs9 i hi)
            rw [ln_f (fun q => q.elim (fun q => c83 ((told_no hlr).mpr q)) (fun q => absurd q (Int32.not_lt.mpr c90)))] at hgo
            exact hgo
          · refine w_iload dX9_learn_93 rfl ?_
            refine w_istore_n (al' := [_, _, _, _, _, _, _]) dX9_learn_95 rfl rfl rfl ?_
            refine w_iload dX9_learn_96 rfl ?_
            refine w_istore (al' := [_, _, _, _, _, _, _]) dX9_learn_98 rfl rfl rfl ?_
            refine w_iinc (al' := [_, _, _, _, _, _, _]) dX9_learn_100 rfl rfl ic_1 rfl ?_
            refine w_goto (tgt := 45) dX9_learn_103 (by decide) ?_
            refine w_kill (i := 6) (al' := [_, _, _, _, _, _, _]) rfl ?_
            simp only [nI_1]
            have hgo := ih (j + 1) I2 (by omega) (fun q a1 a2 => (hI2 q a1 (by omega)).trans (hI1 q a1 a2)) (fun i hi => by rw [hI2 60 (by decide) (by decide)]; exact ho i hi) (fun s9 hs9 i hi => by rw [hI2 (62 + s9) (by omega) (by omega)]; exact hf s9 hs9 i hi)
            rw [ln_t (Or.inr (Int32.not_le.mp c90)), told_s (k := j) rfl (by omega)] at hgo
            exact hgo
  exact lp (nS V) 0 I1 (Nat.zero_add _) hI1 ho hf

set_option maxRecDepth 20000 in
theorem sX9_learn (hs : SK R N) {V : VV} (hV : VO V) (hC : WC I R N n 1 V) {X : X3} (hO : SO X.1 X.2.1) (hS : SHC I X.1 X.2.1 X.2.2) {a : Int32} (hq : ∀ I' : HI, (∀ q, FC q → I' q = I q) → WC I' R N n 1 V → Q (vI (oLearn V X a)) I' L R N n) : CA sc 6 0 0 mX9_learn [vR 9 0, vI a] I L R N n Q := by
  refine ca_in (al := [_, _, _, _, _, _, _]) rfl ?_
  refine w_aload_n dX9_learn_0 rfl ?_
  refine w_iload_n dX9_learn_1 rfl ?_
  by_cases ha : 0 ≤ a ∧ a ≤ 3
  · obtain ⟨s, hs4, rfl⟩ := in_of (m := 3) (by decide) ha
    have hsh := hs.sheets (show s < 4 by omega)
    have hcl : (nI s).toNatClampNeg = s := nI_clamp (by omega)
    obtain ⟨k0, k1, k2⟩ := hS s (by omega)
    obtain ⟨o1, z, -, hz24, hz⟩ := hO s (by omega)
    refine c_V (t := 9) (as := [_]) (d' := 1) dX9_learn_2 mlX9_262 moX9_sheetAt mvX9_sheetAt ⟨rfl, rfl⟩ rfl rfl rfl rfl rfl (by decide) (sX9_sheetAtS hs (show s < 4 by omega) ?_)
    refine w_astore_n (al' := [_, _, _, _, _, _, _]) dX9_learn_5 rfl rfl rfl ?_
    refine w_aload_n dX9_learn_6 rfl ?_
    refine w_ifnonnullR (tgt := 13) dX9_learn_7 (by decide) ?_
    refine w_aload_n dX9_learn_13 rfl ?_
    refine w_getI dX9_learn_14 flX9_272 rfl ?_
    refine w_top (y := X.1 s) (k0) ?_
    refine w_iconst dX9_learn_17 ic_m1 ?_
    refine w_icmp_ne (tgt := 25) dX9_learn_18 (by decide) (fun c18 => ?_) (fun c18 => ?_)
    · refine w_aload_n dX9_learn_25 rfl ?_
      refine w_getR dX9_learn_26 flX9_26 rfl (hs.r (a := 0) (j := 3) (b := 59) 2 rfl) ?_
      refine w_aload_n dX9_learn_29 rfl ?_
      refine w_getR dX9_learn_30 flX9_10 rfl (hs.r (a := 0) (j := 0) (b := 1) 0 rfl) ?_
      refine c_Vv (t := 2) (as := [_]) (d' := 5) dX9_learn_33 mlX9_165 moX2_take mvX2_take ⟨rfl, rfl⟩ rfl rfl rfl rfl rfl (by decide) (sX2_take hs (Or.inl rfl) hV hC (fun I2 hI2 ho2 hf2 => ?_))
      refine w_ldc dX9_learn_36 kcX9_141 ?_
      refine w_istore_n (al' := [_, _, _, _, _, _, _]) dX9_learn_38 rfl rfl rfl ?_
      refine w_iconst dX9_learn_39 ic_0 ?_
      refine w_istore (al' := [_, _, _, _, _, _, _]) dX9_learn_40 rfl rfl rfl ?_
      refine w_iconst dX9_learn_42 ic_0 ?_
      refine w_istore (al' := [_, _, _, _, _, _, _]) dX9_learn_43 rfl rfl rfl ?_
      have e : oLearn V X (nI s) = told (lnF (fun i => dfK (planV V i) X.2.2 s z) (nS V)).1 := by unfold oLearn; rw [cif_t ha, hcl, hz, nI_clamp (by omega)]; exact cif_f c18
      rw [e] at hq
      exact lX9_learn hs hV hC hO hS hs4 hz hz24 (fun q a1 a2 => hI2 q a1 (by omega)) ho2 hf2 (fun I' h1 => hq I' (fun q h => h1 q (by unfold FC at h; omega) (by unfold FC at h; omega)) (hC.keep hV (fun q hz => h1 q (by unfold WA at hz; omega) (by unfold WA at hz; omega))))
    · refine w_ldcw dX9_learn_21 kcX9_275 ?_
      refine w_ireturn dX9_learn_24 rfl rfl ?_
      have e : oLearn V X (nI s) = -1000000011 := by unfold oLearn; rw [cif_t ha, hcl, hz, nI_clamp (by omega)]; exact cif_t c18
      rw [e] at hq
      exact hq I (fun _ _ => rfl) hC
  · refine c_V (t := 9) (as := [_]) (d' := 1) dX9_learn_2 mlX9_262 moX9_sheetAt mvX9_sheetAt ⟨rfl, rfl⟩ rfl rfl rfl rfl rfl (by decide) (sX9_sheetAtN hs ha ?_)
    refine w_astore_nN (al' := [_, _, _, _, _, _, _]) dX9_learn_5 rfl rfl rfl ?_
    refine w_aload_nN dX9_learn_6 rfl ?_
    refine w_ifnonnullN dX9_learn_7 ?_
    refine w_ldc dX9_learn_10 kcX9_77 ?_
    refine w_ireturn dX9_learn_12 rfl rfl ?_
    have e : oLearn V X a = -1000000001 := cif_f (fun z => ha z)
    rw [e] at hq
    exact hq I (fun _ _ => rfl) hC

set_option maxRecDepth 20000 in
theorem lX10_learnA (hs : SK R N) {p : PL} {X : X3} {s z i : Nat} {be le : Int32} (hs4 : s ≤ 3) (hZ : I 138 = X.2.1) (hCe : I 139 = X.2.2) (hz : X.2.1 s = nI z) (hz24 : z ≤ 24) (hb : ∀ j, j < 31 → I 127 j = pBr p j) (hk : WP sc 4 0 0 mX10_learn 133 [vR 10 117, vI (nI s), vI be, vI le, vI (nI i), vI (dfK p X.2.2 s z), vI (nI z), vU, vU] [] I L R N n Q) : WP sc 4 0 0 mX10_learn 57 [vR 10 117, vI (nI s), vI be, vI le, vI (nI i), vI 0, vI (nI 0), vU, vU] [] I L R N n Q := by
  have lp : ∀ (k j : Nat), j + k = z → WP sc 4 0 0 mX10_learn 57 [vR 10 117, vI (nI s), vI be, vI le, vI (nI i), vI (dfK p X.2.2 s j), vI (nI j), vU, vU] [] I L R N n Q := by
    intro k
    induction k with
    | zero =>
      intro j hj
      refine w_iload dX10_learn_57 rfl ?_
      refine w_aload_n dX10_learn_59 rfl ?_
      refine w_getR dX10_learn_60 flX10_72 rfl (hs.r (a := 117) (j := 35) (b := 138) 136 rfl) ?_
      refine w_iload_n dX10_learn_63 rfl ?_
      refine w_iald dX10_learn_64 rfl (hs.n (a := 138) (z := 4) 92 rfl) (by omega) ?_
      refine w_top (y := nI z) ((congrFun hZ s).trans hz) ?_
      refine w_icmp_ge (tgt := 133) dX10_learn_65 (by decide) (fun c65 => ?_) (fun c65 => ?_)
      · obtain rfl : j = z := by omega
        exact hk
      · exact absurd (nI_le (a := z) (by omega) (by omega)) c65
    | succ k ih =>
      intro j hj
      refine w_iload dX10_learn_57 rfl ?_
      refine w_aload_n dX10_learn_59 rfl ?_
      refine w_getR dX10_learn_60 flX10_72 rfl (hs.r (a := 117) (j := 35) (b := 138) 136 rfl) ?_
      refine w_iload_n dX10_learn_63 rfl ?_
      refine w_iald dX10_learn_64 rfl (hs.n (a := 138) (z := 4) 92 rfl) (by omega) ?_
      refine w_top (y := nI z) ((congrFun hZ s).trans hz) ?_
      refine w_icmp_ge (tgt := 133) dX10_learn_65 (by decide) (fun c65 => ?_) (fun c65 => ?_)
      · exact absurd ((nI_leI (by omega) (by omega)).mp c65) (by omega)
      · refine w_aload_n dX10_learn_68 rfl ?_
        refine w_getR dX10_learn_69 flX10_75 rfl (hs.r (a := 117) (j := 36) (b := 139) 137 rfl) ?_
        refine w_bipush dX10_learn_72 bp_24 ?_
        refine w_iload_n dX10_learn_74 rfl ?_
        refine w_imul dX10_learn_75 ?_
        refine w_iload dX10_learn_76 rfl ?_
        refine w_iadd dX10_learn_78 ?_
        refine w_top (y := nI (24 * s + j)) (by show nI 24 * nI s + nI j = _; rw [nI_mul, nI_add]) ?_
        refine w_iald dX10_learn_79 rfl (hs.n (a := 139) (z := 96) 93 rfl) (by omega) ?_
        refine w_top (y := X.2.2 (24 * s + j)) (congrFun hCe _) ?_
        refine w_istore (al' := [_, _, _, _, _, _, _, _, _]) dX10_learn_80 rfl rfl rfl ?_
        refine w_iload dX10_learn_82 rfl ?_
        refine w_aload_n dX10_learn_84 rfl ?_
        refine w_getR dX10_learn_85 flX10_38 rfl (hs.r (a := 117) (j := 10) (b := 127) 125 rfl) ?_
        refine w_iload dX10_learn_88 rfl ?_
        refine w_iald dX10_learn_90 rfl (hs.n (a := 127) (z := 31) 81 rfl) (by omega) ?_
        refine w_top (y := pBr p j) (hb j (by omega)) ?_
        refine w_sipush dX10_learn_91 sp_10000 ?_
        refine w_idiv dX10_learn_94 (by decide) ?_
        refine w_isub dX10_learn_95 ?_
        refine w_istore (al' := [_, _, _, _, _, _, _, _, _]) dX10_learn_96 rfl rfl rfl ?_
        refine w_iload dX10_learn_98 rfl ?_
        refine w_iload dX10_learn_100 rfl ?_
        refine w_ldc dX10_learn_102 kcX10_96 ?_
        refine w_icmp_ne (tgt := 111) dX10_learn_104 (by decide) (fun c104 => ?_) (fun c104 => ?_)
        · refine w_iload dX10_learn_111 rfl ?_
          refine w_if_ge (tgt := 122) dX10_learn_113 (by decide) (fun c113 => ?_) (fun c113 => ?_)
          · refine w_iload dX10_learn_122 rfl ?_
            refine w_top (y := if X.2.2 (24 * s + j) = -1000000005 then 0 else absI (X.2.2 (24 * s + j) - pBr p j / 10000)) (by rw [if_neg c104, absI, if_pos c113]) ?_
            refine w_iadd dX10_learn_124 ?_
            refine w_istore (al' := [_, _, _, _, _, _, _, _, _]) dX10_learn_125 rfl rfl rfl ?_
            refine w_iinc (al' := [_, _, _, _, _, _, _, _, _]) dX10_learn_127 rfl rfl ic_1 rfl ?_
            refine w_goto (tgt := 57) dX10_learn_130 (by decide) ?_
            refine w_kill (i := 8) (al' := [_, _, _, _, _, _, _, _, _]) rfl ?_
            refine w_kill (i := 7) (al' := [_, _, _, _, _, _, _, _, _]) rfl ?_
            simp only [nI_1]
            exact ih (j + 1) (by omega)
          · refine w_iload dX10_learn_116 rfl ?_
            refine w_ineg dX10_learn_118 ?_
            refine w_top (y := if X.2.2 (24 * s + j) = -1000000005 then 0 else absI (X.2.2 (24 * s + j) - pBr p j / 10000)) (by rw [if_neg c104, absI, if_neg c113, Int32.sub_eq_add_neg (a := 0), Int32.zero_add]) ?_
            refine w_goto (tgt := 124) dX10_learn_119 (by decide) ?_
            refine w_iadd dX10_learn_124 ?_
            refine w_istore (al' := [_, _, _, _, _, _, _, _, _]) dX10_learn_125 rfl rfl rfl ?_
            refine w_iinc (al' := [_, _, _, _, _, _, _, _, _]) dX10_learn_127 rfl rfl ic_1 rfl ?_
            refine w_goto (tgt := 57) dX10_learn_130 (by decide) ?_
            refine w_kill (i := 8) (al' := [_, _, _, _, _, _, _, _, _]) rfl ?_
            refine w_kill (i := 7) (al' := [_, _, _, _, _, _, _, _, _]) rfl ?_
            simp only [nI_1]
            exact ih (j + 1) (by omega)
        · refine w_iconst dX10_learn_107 ic_0 ?_
          refine w_top (y := if X.2.2 (24 * s + j) = -1000000005 then 0 else absI (X.2.2 (24 * s + j) - pBr p j / 10000)) ((if_pos c104).symm) ?_
          refine w_goto (tgt := 124) dX10_learn_108 (by decide) ?_
          refine w_iadd dX10_learn_124 ?_
          refine w_istore (al' := [_, _, _, _, _, _, _, _, _]) dX10_learn_125 rfl rfl rfl ?_
          refine w_iinc (al' := [_, _, _, _, _, _, _, _, _]) dX10_learn_127 rfl rfl ic_1 rfl ?_
          refine w_goto (tgt := 57) dX10_learn_130 (by decide) ?_
          refine w_kill (i := 8) (al' := [_, _, _, _, _, _, _, _, _]) rfl ?_
          refine w_kill (i := 7) (al' := [_, _, _, _, _, _, _, _, _]) rfl ?_
          simp only [nI_1]
          exact ih (j + 1) (by omega)
  exact lp z 0 (Nat.zero_add _)

set_option maxRecDepth 20000 in
theorem lX10_learn (hs : SK R N) {V : VV} (hI : I 118 = V) (hV : VO V) {X : X3} (hO : SO X.1 X.2.1) (hS : I 137 = X.1) (hZ : I 138 = X.2.1) (hCe : I 139 = X.2.2) {s z : Nat} (hs4 : s ≤ 3) (hz : X.2.1 s = nI z) (hz24 : z ≤ 24) {I1 : HI} (hI1 : ∀ q, q ≠ 135 → q ≠ 136 → (q < 121 ∨ 129 ≤ q) → I1 q = I q) (ho : (∀ i, i < 31 → I1 121 i = owV V i)) (hq : ∀ I' : HI, (∀ q, q ≠ 135 → q ≠ 136 → (q < 121 ∨ 129 ≤ q) → I' q = I q) → Q (vI (told (lnF (fun i => dfK (planV V i) X.2.2 s z) (nS V)).1)) I' L R N n) : WP sc 4 0 0 mX10_learn 34 [vR 10 117, vI (nI s), vI (-1), vI 0, vI (nI 0), vU, vU, vU, vU] [] I1 L R N n Q := by
  have h6 := hV.1.2
  have lp : ∀ (k j : Nat) (I1 : HI), j + k = nS V → (∀ q, q ≠ 135 → q ≠ 136 → (q < 121 ∨ 129 ≤ q) → I1 q = I q) → (∀ i, i < 31 → I1 121 i = owV V i) → WP sc 4 0 0 mX10_learn 34 [vR 10 117, vI (nI s), vI (lnF (fun i => dfK (planV V i) X.2.2 s z) j).1, vI (lnF (fun i => dfK (planV V i) X.2.2 s z) j).2, vI (nI j), vU, vU, vU, vU] [] I1 L R N n Q := by
    intro k
    induction k with
    | zero =>
      intro j I1 hj hI1 ho
      refine w_iload dX10_learn_34 rfl ?_
      refine w_aload_n dX10_learn_36 rfl ?_
      refine w_getR dX10_learn_37 flX10_9 rfl (hs.r (a := 117) (j := 0) (b := 118) 116 rfl) ?_
      refine w_iconst dX10_learn_40 ic_1 ?_
      refine w_iald (q := 1) dX10_learn_41 rfl (hs.n (a := 118) (z := 1452) 72 rfl) (by decide) ?_
      refine w_top (y := nI (nS V)) (by rw [hI1 118 (by decide) (by decide) (by decide), hI]; exact hV.1.1) ?_
      refine w_icmp_ge (tgt := 169) dX10_learn_42 (by decide) (fun c42 => ?_) (fun c42 => ?_)
      · obtain rfl : j = nS V := by omega
        refine w_iload_n dX10_learn_169 rfl ?_
        refine c_S (as := [_]) (d' := 0) dX10_learn_170 (Or.inl mlX10_162) moX10_told0 msX10_told0 rfl rfl rfl rfl rfl (by decide) (sX10_told0 ?_)
        refine w_ireturn dX10_learn_173 rfl rfl ?_
        exact hq I1 hI1
      · exact absurd (nI_le (a := nS V) (by omega) (by omega)) c42
    | succ k ih =>
      intro j I1 hj hI1 ho
      refine w_iload dX10_learn_34 rfl ?_
      refine w_aload_n dX10_learn_36 rfl ?_
      refine w_getR dX10_learn_37 flX10_9 rfl (hs.r (a := 117) (j := 0) (b := 118) 116 rfl) ?_
      refine w_iconst dX10_learn_40 ic_1 ?_
      refine w_iald (q := 1) dX10_learn_41 rfl (hs.n (a := 118) (z := 1452) 72 rfl) (by decide) ?_
      refine w_top (y := nI (nS V)) (by rw [hI1 118 (by decide) (by decide) (by decide), hI]; exact hV.1.1) ?_
      refine w_icmp_ge (tgt := 169) dX10_learn_42 (by decide) (fun c42 => ?_) (fun c42 => ?_)
      · exact absurd ((nI_leI (by omega) (by omega)).mp c42) (by omega)
      · refine w_aload_n dX10_learn_45 rfl ?_
        refine w_iload dX10_learn_46 rfl ?_
        have hss : j < nS V := by omega
        refine c_Vv (t := 10) (as := [_]) (d' := 3) dX10_learn_48 mlX10_175 moX10_findDays mvX10_findDays ⟨rfl, rfl⟩ rfl rfl rfl rfl rfl (by decide) (sX10_findDays hs ((hI1 118 (by decide) (by decide) (by decide)).trans hI) hV hss ho (fun I2 hI2 hM2 h128 => ?_))
        refine w_iconst dX10_learn_51 ic_0 ?_
        refine w_istore (al' := [_, _, _, _, _, _, _, _, _]) dX10_learn_52 rfl rfl rfl ?_
        refine w_iconst dX10_learn_54 ic_0 ?_
        refine w_istore (al' := [_, _, _, _, _, _, _, _, _]) dX10_learn_55 rfl rfl rfl ?_
        refine lX10_learnA hs (p := planV V j) (X := X) (z := z) hs4 ((hI2 138 (by decide) (by decide) (by decide)).trans ((hI1 138 (by decide) (by decide) (by decide)).trans hZ)) ((hI2 139 (by decide) (by decide) (by decide)).trans ((hI1 139 (by decide) (by decide) (by decide)).trans hCe)) hz hz24 (fun i hi => (hM2 i hi).2.2.2.2.2.1) ?_
        refine w_iload_n dX10_learn_133 rfl ?_
        refine w_if_lt (tgt := 143) dX10_learn_134 (by decide) (fun c134 => ?_) (fun c134 => ?_)
        · refine w_iload dX10_learn_143 rfl ?_
          refine w_goto (tgt := 149) dX10_learn_145 (by decide) ?_
          refine w_istore_n (al' := [_, _, _, _, _, _, _, _, _]) dX10_learn_149 rfl rfl rfl ?_
          refine w_iload_n dX10_learn_150 rfl ?_
          refine w_iload dX10_learn_151 rfl ?_
          refine w_icmp_ne (tgt := 161) dX10_learn_153 (by decide) (fun c153 => ?_) (fun c153 => ?_)
          · exact absurd rfl c153
          · refine w_iload dX10_learn_156 rfl ?_
            refine w_goto (tgt := 162) dX10_learn_158 (by decide) ?_
            refine w_istore_n (al' := [_, _, _, _, _, _, _, _, _]) dX10_learn_162 rfl rfl rfl ?_
            refine w_iinc (al' := [_, _, _, _, _, _, _, _, _]) dX10_learn_163 rfl rfl ic_1 rfl ?_
            refine w_goto (tgt := 34) dX10_learn_166 (by decide) ?_
            refine w_kill (i := 6) (al' := [_, _, _, _, _, _, _, _, _]) rfl ?_
            refine w_kill (i := 5) (al' := [_, _, _, _, _, _, _, _, _]) rfl ?_
            simp only [nI_1]
            have hgo := ih (j + 1) I2 (by omega) (fun q a1 a2 a3 => (hI2 q a1 a2 (by omega)).trans (hI1 q a1 a2 a3)) (fun i hi => by rw [hI2 121 (by decide) (by decide) (by decide)]; exact ho i hi)
            rw [ln_t (Or.inl c134)] at hgo
            exact hgo
        · refine w_iload dX10_learn_137 rfl ?_
          refine w_iload_n dX10_learn_139 rfl ?_
          refine w_icmp_ge (tgt := 148) dX10_learn_140 (by decide) (fun c140 => ?_) (fun c140 => ?_)
          · have hbj : (lnF (fun i => dfK (planV V i) X.2.2 s z) j).1 ≠ nI j := by
              rcases ln_rng (fun i => dfK (planV V i) X.2.2 s z) j with e9 | ⟨i9, h9, e9⟩
              · rw [e9]; exact fun q => absurd (q ▸ nI_pos' (show j < 2147483648 by omega)) (by decide)
              · rw [e9]; exact fun q => by have := (nI_eq (by omega) (by omega)).mp q; omega
            refine w_iload_n dX10_learn_148 rfl ?_
            refine w_istore_n (al' := [_, _, _, _, _, _, _, _, _]) dX10_learn_149 rfl rfl rfl ?_
            refine w_iload_n dX10_learn_150 rfl ?_
            refine w_iload dX10_learn_151 rfl ?_
            refine w_icmp_ne (tgt := 161) dX10_learn_153 (by decide) (fun c153 => ?_) (fun c153 => ?_)
            · refine w_iload_n dX10_learn_161 rfl ?_
              refine w_istore_n (al' := [_, _, _, _, _, _, _, _, _]) dX10_learn_162 rfl rfl rfl ?_
              refine w_iinc (al' := [_, _, _, _, _, _, _, _, _]) dX10_learn_163 rfl rfl ic_1 rfl ?_
              refine w_goto (tgt := 34) dX10_learn_166 (by decide) ?_
              refine w_kill (i := 6) (al' := [_, _, _, _, _, _, _, _, _]) rfl ?_
              refine w_kill (i := 5) (al' := [_, _, _, _, _, _, _, _, _]) rfl ?_
              simp only [nI_1]
              have hgo := ih (j + 1) I2 (by omega) (fun q a1 a2 a3 => (hI2 q a1 a2 (by omega)).trans (hI1 q a1 a2 a3)) (fun i hi => by rw [hI2 121 (by decide) (by decide) (by decide)]; exact ho i hi)
              rw [ln_f (fun q => q.elim c134 (fun q => absurd q (Int32.not_lt.mpr c140)))] at hgo
              exact hgo
            · exact absurd c153 hbj
          · refine w_iload dX10_learn_143 rfl ?_
            refine w_goto (tgt := 149) dX10_learn_145 (by decide) ?_
            refine w_istore_n (al' := [_, _, _, _, _, _, _, _, _]) dX10_learn_149 rfl rfl rfl ?_
            refine w_iload_n dX10_learn_150 rfl ?_
            refine w_iload dX10_learn_151 rfl ?_
            refine w_icmp_ne (tgt := 161) dX10_learn_153 (by decide) (fun c153 => ?_) (fun c153 => ?_)
            · exact absurd rfl c153
            · refine w_iload dX10_learn_156 rfl ?_
              refine w_goto (tgt := 162) dX10_learn_158 (by decide) ?_
              refine w_istore_n (al' := [_, _, _, _, _, _, _, _, _]) dX10_learn_162 rfl rfl rfl ?_
              refine w_iinc (al' := [_, _, _, _, _, _, _, _, _]) dX10_learn_163 rfl rfl ic_1 rfl ?_
              refine w_goto (tgt := 34) dX10_learn_166 (by decide) ?_
              refine w_kill (i := 6) (al' := [_, _, _, _, _, _, _, _, _]) rfl ?_
              refine w_kill (i := 5) (al' := [_, _, _, _, _, _, _, _, _]) rfl ?_
              simp only [nI_1]
              have hgo := ih (j + 1) I2 (by omega) (fun q a1 a2 a3 => (hI2 q a1 a2 (by omega)).trans (hI1 q a1 a2 a3)) (fun i hi => by rw [hI2 121 (by decide) (by decide) (by decide)]; exact ho i hi)
              rw [ln_t (Or.inr (Int32.not_le.mp c140))] at hgo
              exact hgo
  exact lp (nS V) 0 I1 (Nat.zero_add _) hI1 ho

set_option maxRecDepth 20000 in
theorem sX10_learn (hs : SK R N) {V : VV} (hI : I 118 = V) (hV : VO V) {X : X3} (hO : SO X.1 X.2.1) (hS : I 137 = X.1) (hZ : I 138 = X.2.1) (hCe : I 139 = X.2.2) {a : Int32} (hq : ∀ I' : HI, (∀ q, FM q → I' q = I q) → I' 118 = V → Q (vI (oLearn V X a)) I' L R N n) : CA sc 4 0 0 mX10_learn [vR 10 117, vI a] I L R N n Q := by
  refine ca_in (al := [_, _, _, _, _, _, _, _, _]) rfl ?_
  refine w_iload_n dX10_learn_0 rfl ?_
  refine c_S (as := [_]) (d' := 1) dX10_learn_1 (Or.inl mlX10_275) moX10_isSheet msX10_isSheet rfl rfl rfl rfl rfl (by decide) (sX10_isSheet ?_)
  refine w_ifB_ne (tgt := 10) dX10_learn_4 (by decide) (fun c4 => ?_) (fun c4 => ?_)
  · have ha := c4
    obtain ⟨s, hs4, rfl⟩ := in_of (m := 3) (by decide) c4
    have hcl : (nI s).toNatClampNeg = s := nI_clamp (by omega)
    obtain ⟨o1, z, -, hz24, hz⟩ := hO s (by omega)
    have hm1 := m1_lt o1
    refine w_aload_n dX10_learn_10 rfl ?_
    refine w_getR dX10_learn_11 flX10_69 rfl (hs.r (a := 117) (j := 34) (b := 137) 135 rfl) ?_
    refine w_iload_n dX10_learn_14 rfl ?_
    refine w_iald dX10_learn_15 rfl (hs.n (a := 137) (z := 4) 91 rfl) (by omega) ?_
    refine w_top (y := X.1 s) (congrFun hS s) ?_
    refine w_if_ge (tgt := 23) dX10_learn_16 (by decide) (fun c16 => ?_) (fun c16 => ?_)
    · have c33 : ¬ X.1 s = -1 := fun q => Int32.not_lt.mpr c16 (hm1.mp q)
      have e : oLearn V X (nI s) = told (lnF (fun i => dfK (planV V i) X.2.2 s z) (nS V)).1 := by unfold oLearn; rw [cif_t ha, hcl, hz, nI_clamp (by omega)]; exact cif_f c33
      rw [e] at hq
      refine w_aload_n dX10_learn_23 rfl ?_
      refine c_Vv (t := 10) (as := []) (d' := 3) dX10_learn_24 mlX10_172 moX10_findOwed mvX10_findOwed ⟨rfl, rfl⟩ rfl rfl rfl rfl rfl (by decide) (sX10_findOwed hs hI hV (fun I2 hI2 ho2 => ?_))
      refine w_iconst dX10_learn_27 ic_m1 ?_
      refine w_istore_n (al' := [_, _, _, _, _, _, _, _, _]) dX10_learn_28 rfl rfl rfl ?_
      refine w_iconst dX10_learn_29 ic_0 ?_
      refine w_istore_n (al' := [_, _, _, _, _, _, _, _, _]) dX10_learn_30 rfl rfl rfl ?_
      refine w_iconst dX10_learn_31 ic_0 ?_
      refine w_istore (al' := [_, _, _, _, _, _, _, _, _]) dX10_learn_32 rfl rfl rfl ?_
      exact lX10_learn hs hI hV hO hS hZ hCe hs4 hz hz24 (fun q a1 a2 a3 => hI2 q a1 a2 (by omega)) ho2 (fun I' h1 => hq I' (fun q h => h1 q (by unfold FM at h; omega) (by unfold FM at h; omega) (by unfold FM at h; omega)) ((h1 118 (by decide) (by decide) (by decide)).trans hI))
    · have c33 : X.1 s = -1 := hm1.mpr (Int32.not_le.mp c16)
      refine w_ldcw dX10_learn_19 kcX10_279 ?_
      refine w_ireturn dX10_learn_22 rfl rfl ?_
      have e : oLearn V X (nI s) = -1000000011 := by unfold oLearn; rw [cif_t ha, hcl, hz, nI_clamp (by omega)]; exact cif_t c33
      rw [e] at hq
      exact hq I (fun _ _ => rfl) hI
  · refine w_ldc dX10_learn_7 kcX10_101 ?_
    refine w_ireturn dX10_learn_9 rfl rfl ?_
    have e : oLearn V X a = -1000000001 := cif_f (fun z => c4 z)
    rw [e] at hq
    exact hq I (fun _ _ => rfl) hI

end
