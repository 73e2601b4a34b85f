section
variable {sc : SC} {I : HI} {L : HL} {R : HR} {N : HN} {n : Nat} {Q : HQ}
def rdP (V : VV) (X : X3) (s z r : Nat) (k : Nat) : Prop := k < z ∧ X.2.2 (24 * s + k) ≠ -1000000005 ∧ X.2.2 (24 * s + k) ≠ owAt V r k
noncomputable def oReads (V : VV) (X : X3) (a b : Int32) : Int32 := cif ((0 ≤ a ∧ a ≤ 3) ∧ isR V b) (cif (X.1 a.toNatClampNeg = -1) (-1000000011) (frst (rdP V X a.toNatClampNeg (X.2.1 a.toNatClampNeg).toNatClampNeg b.toNatClampNeg) 24 0)) (-1000000001)
theorem frst_none {P : Nat → Prop} : ∀ (k j : Nat), (∀ i, j ≤ i → ¬ P i) → frst P k j = -1000000005
  | 0, _, _ => rfl
  | k + 1, j, h => (cif_f (h j (Nat.le_refl _))).trans (frst_none k (j + 1) (fun i hi => h i (by omega)))
def absI (x : Int32) : Int32 := if 0 ≤ x then x else 0 - x
noncomputable def dfK (p : PL) (C : VV) (s : Nat) : Nat → Int32
  | 0 => 0
  | k + 1 => dfK p C s k + (if C (24 * s + k) = -1000000005 then 0 else absI (C (24 * s + k) - pBr p k / 10000))
noncomputable def lnF (f : Nat → Int32) : Nat → Int32 × Int32
  | 0 => (-1, 0)
  | s + 1 => cif ((lnF f s).1 < 0 ∨ f s < (lnF f s).2) (nI s, f s) (lnF f s)
theorem ln_rng (f : Nat → Int32) : ∀ k, (lnF f k).1 = -1 ∨ ∃ i, i < k ∧ (lnF f k).1 = nI i
  | 0 => Or.inl rfl
  | k + 1 => by
    unfold lnF
    by_cases h : (lnF f k).1 < 0 ∨ f k < (lnF f k).2
    · rw [cif_t h]; exact Or.inr ⟨k, by omega, rfl⟩
    · rw [cif_f h]
      rcases ln_rng f k with e | ⟨i, h1, h2⟩
      · exact Or.inl e
      · exact Or.inr ⟨i, by omega, h2⟩
noncomputable def oLearn (V : VV) (X : X3) (a : Int32) : Int32 := cif (0 ≤ a ∧ a ≤ 3) (cif (X.1 a.toNatClampNeg = -1) (-1000000011) (told (lnF (fun i => dfK (planV V i) X.2.2 a.toNatClampNeg (X.2.1 a.toNatClampNeg).toNatClampNeg) (nS V)).1)) (-1000000001)
theorem ln_t {f : Nat → Int32} {k : Nat} (h : (lnF f k).1 < 0 ∨ f k < (lnF f k).2) : lnF f (k + 1) = (nI k, f k) := cif_t h
theorem ln_f {f : Nat → Int32} {k : Nat} (h : ¬ ((lnF f k).1 < 0 ∨ f k < (lnF f k).2)) : lnF f (k + 1) = lnF f k := cif_f h

set_option maxRecDepth 20000 in
theorem lX9_reads (hs : SK R N) {V : VV} (hV : VO V) (hC : WC I R N n 1 V) {X : X3} (hO : SO X.1 X.2.1) (hS : SHC I X.1 X.2.1 X.2.2) {s z r : Nat} (hs4 : s ≤ 3) (hr : r < nRu V) (hz : X.2.1 s = nI z) (hz24 : z ≤ 24) (hq : ∀ I' : HI, (∀ q, q ≠ 13 → I' q = I q) → Q (vI (frst (rdP V X s z r) 24 0)) I' L R N n) : WP sc 3 0 0 mX9_reads 43 [vR 9 0, vI (nI s), vI (nI r), vR 4 (84 + 2 * s), vR 3 (1 + 13 + 2 * r), vI (nI 0)] [] I L R N n Q := by
  have h8 := hV.2.1.2
  have hsh := hs.sheets (show s < 4 by omega)
  have hrl := hs.rules (Or.inl rfl) (show r < 8 by omega)
  obtain ⟨k0, k1, k2⟩ := hS s (by omega)
  have lp : ∀ (k j : Nat) (I1 : HI), j + k = 24 → (∀ q, q ≠ 13 → I1 q = I q) → (∀ I' : HI, (∀ q, q ≠ 13 → I' q = I q) → Q (vI (frst (rdP V X s z r) k j)) I' L R N n) → WP sc 3 0 0 mX9_reads 43 [vR 9 0, vI (nI s), vI (nI r), vR 4 (84 + 2 * s), vR 3 (1 + 13 + 2 * r), vI (nI j)] [] I1 L R N n Q := by
    intro k
    induction k with
    | zero =>
      intro j I1 hj hI1 hq
      refine w_iload dX9_reads_43 rfl ?_
      refine w_bipush dX9_reads_45 bp_24 ?_
      refine w_icmp_ge (tgt := 89) dX9_reads_47 (by decide) (fun c47 => ?_) (fun c47 => ?_)
      · refine w_ldc dX9_reads_89 kcX9_141 ?_
        refine w_ireturn dX9_reads_91 rfl rfl ?_
        exact hq I1 hI1
      · exact absurd (nI_le (a := 24) (by omega) (by omega)) c47
    | succ k ih =>
      intro j I1 hj hI1 hq
      refine w_iload dX9_reads_43 rfl ?_
      refine w_bipush dX9_reads_45 bp_24 ?_
      refine w_icmp_ge (tgt := 89) dX9_reads_47 (by decide) (fun c47 => ?_) (fun c47 => ?_)
      · exact absurd ((nI_leI (a := 24) (by omega) (by omega)).mp c47) (by omega)
      · refine w_aload_n dX9_reads_50 rfl ?_
        refine w_iload dX9_reads_51 rfl ?_
        have hC1 : WC I1 R N n 1 V := hC.keep hV (fun q hz => hI1 q (by unfold WA at hz; omega))
        have k2j : I1 (85 + 2 * s) j = X.2.2 (24 * s + j) := by rw [hI1 (85 + 2 * s) (by omega)]; exact k2 j (by omega)
        refine c_V (t := 4) (as := [_]) (d' := 2) dX9_reads_53 mlX9_289 moX4_hasNumber mvX4_hasNumber ⟨rfl, rfl⟩ rfl rfl rfl rfl rfl (by decide) (sX4_hasNumber hsh.2.1 hsh.2.2 (z := z) (by rw [hI1 (84 + 2 * s) (by omega), k1, hz]) hz24 (by omega) ?_)
        refine w_top (y := bI (j < z ∧ X.2.2 (24 * s + j) ≠ -1000000005)) (by rw [k2j]) ?_
        refine w_ifB_eq (tgt := 83) dX9_reads_56 (by decide) (fun c56 => ?_) (fun c56 => ?_)
        · refine w_iinc (al' := [_, _, _, _, _, _]) dX9_reads_83 rfl rfl ic_1 rfl ?_
          refine w_goto (tgt := 43) dX9_reads_86 (by decide) ?_
          have hP : ¬ rdP V X s z r j := fun q => c56 ⟨q.1, q.2.1⟩
          simp only [nI_1]
          exact ih (j + 1) I1 (by omega) hI1 (fun I' h1 => q_e (cif_f hP) (hq I' h1))
        · refine w_aload_n dX9_reads_59 rfl ?_
          refine w_getR dX9_reads_60 flX9_282 rfl hsh.2.1 ?_
          refine w_iload dX9_reads_63 rfl ?_
          refine w_iald dX9_reads_65 rfl hsh.2.2 (by omega) ?_
          refine w_top (y := X.2.2 (24 * s + j)) (k2j) ?_
          refine w_aload_n dX9_reads_66 rfl ?_
          refine w_getR dX9_reads_67 flX9_10 rfl (hs.r (a := 0) (j := 0) (b := 1) 0 rfl) ?_
          refine w_aload dX9_reads_70 rfl ?_
          refine w_iload dX9_reads_72 rfl ?_
          refine c_V (t := 8) (as := [_, _]) (d' := 2) dX9_reads_74 mlX9_137 moX8_owedBy mvX8_owedBy ⟨rfl, rfl⟩ rfl rfl rfl rfl rfl (by decide) (sX8_owedBy hs (Or.inl rfl) hV hC1 hrl.2.1 hrl.2.2 (rule_c hV hC1 hr) (by omega) (by omega) (fun I2 hI2 => ?_))
          refine w_top (y := owAt V r j) (by rw [← ow_own hC1 hr]; rfl) ?_
          refine w_icmp_eq (tgt := 83) dX9_reads_77 (by decide) (fun c77 => ?_) (fun c77 => ?_)
          · refine w_iinc (al' := [_, _, _, _, _, _]) dX9_reads_83 rfl rfl ic_1 rfl ?_
            refine w_goto (tgt := 43) dX9_reads_86 (by decide) ?_
            have hP : ¬ rdP V X s z r j := fun q => q.2.2 c77
            simp only [nI_1]
            exact ih (j + 1) I2 (by omega) (fun q h => (hI2 q h).trans (hI1 q h)) (fun I' h1 => q_e (cif_f hP) (hq I' h1))
          · refine w_iload dX9_reads_80 rfl ?_
            refine w_ireturn dX9_reads_82 rfl rfl ?_
            exact q_e (cif_t (p := rdP V X s z r j) ⟨c56.1, c56.2, c77⟩) (hq I2 (fun q h => (hI2 q h).trans (hI1 q h)))
  exact lp 24 0 I rfl (fun _ _ => rfl) hq

set_option maxRecDepth 20000 in
theorem sX9_reads (hs : SK R N) {V : VV} (hV : VO V) (hC : WC I R N n 1 V) {X : X3} (hO : SO X.1 X.2.1) (hS : SHC I X.1 X.2.1 X.2.2) {a b : Int32} (hq : ∀ I' : HI, (∀ q, FC q → I' q = I q) → WC I' R N n 1 V → Q (vI (oReads V X a b)) I' L R N n) : CA sc 3 0 0 mX9_reads [vR 9 0, vI a, vI b] I L R N n Q := by
  refine ca_in (al := [_, _, _, _, _, _]) rfl ?_
  refine w_aload_n dX9_reads_0 rfl ?_
  refine w_iload_n dX9_reads_1 rfl ?_
  by_cases ha : 0 ≤ a ∧ a ≤ 3
  · obtain ⟨s, hs4, rfl⟩ := in_of (m := 3) (by decide) ha
    have hsh := hs.sheets (show s < 4 by omega)
    have hcl : (nI s).toNatClampNeg = s := nI_clamp (by omega)
    obtain ⟨k0, k1, k2⟩ := hS s (by omega)
    obtain ⟨o1, z, -, hz24, hz⟩ := hO s (by omega)
    refine c_V (t := 9) (as := [_]) (d' := 1) dX9_reads_2 mlX9_262 moX9_sheetAt mvX9_sheetAt ⟨rfl, rfl⟩ rfl rfl rfl rfl rfl (by decide) (sX9_sheetAtS hs (show s < 4 by omega) ?_)
    refine w_astore_n (al' := [_, _, _, _, _, _]) dX9_reads_5 rfl rfl rfl ?_
    refine w_aload_n dX9_reads_6 rfl ?_
    refine w_getR dX9_reads_7 flX9_10 rfl (hs.r (a := 0) (j := 0) (b := 1) 0 rfl) ?_
    refine w_iload_n dX9_reads_10 rfl ?_
    by_cases hb : isR V b
    · obtain ⟨r, hr, rfl⟩ := isR_of hV hb
      have h8 := hV.2.1.2
      have hcr : (nI r).toNatClampNeg = r := nI_clamp (by omega)
      refine c_V (t := 8) (as := [_]) (d' := 1) dX9_reads_11 mlX9_116 moX8_ruleAt mvX8_ruleAt ⟨rfl, rfl⟩ rfl rfl rfl rfl rfl (by decide) (sX8_ruleAtS hs (Or.inl rfl) (hC.1.2.1.trans hV.2.1.1) h8 hr ?_)
      refine w_astore (al' := [_, _, _, _, _, _]) dX9_reads_14 rfl rfl rfl ?_
      refine w_aload_n dX9_reads_16 rfl ?_
      refine w_ifnullR dX9_reads_17 ?_
      refine w_aload dX9_reads_20 rfl ?_
      refine w_ifnonnullR (tgt := 28) dX9_reads_22 (by decide) ?_
      refine w_aload_n dX9_reads_28 rfl ?_
      refine w_getI dX9_reads_29 flX9_272 rfl ?_
      refine w_top (y := X.1 s) (k0) ?_
      refine w_iconst dX9_reads_32 ic_m1 ?_
      refine w_icmp_ne (tgt := 40) dX9_reads_33 (by decide) (fun c33 => ?_) (fun c33 => ?_)
      · refine w_iconst dX9_reads_40 ic_0 ?_
        refine w_istore (al' := [_, _, _, _, _, _]) dX9_reads_41 rfl rfl rfl ?_
        have e : oReads V X (nI s) (nI r) = frst (rdP V X s z r) 24 0 := by unfold oReads; rw [cif_t ⟨ha, hb⟩, hcl, hcr, hz, nI_clamp (by omega)]; exact cif_f c33
        rw [e] at hq
        exact lX9_reads hs hV hC hO hS hs4 hr hz hz24 (fun I' h1 => hq I' (fun q h => h1 q (by unfold FC at h; omega)) (hC.keep hV (fun q hz => h1 q (by unfold WA at hz; omega))))
      · refine w_ldcw dX9_reads_36 kcX9_275 ?_
        refine w_ireturn dX9_reads_39 rfl rfl ?_
        have e : oReads V X (nI s) (nI r) = -1000000011 := by unfold oReads; rw [cif_t ⟨ha, hb⟩, hcl, hcr, hz, nI_clamp (by omega)]; exact cif_t c33
        rw [e] at hq
        exact hq I (fun _ _ => rfl) hC
    · refine c_V (t := 8) (as := [_]) (d' := 1) dX9_reads_11 mlX9_116 moX8_ruleAt mvX8_ruleAt ⟨rfl, rfl⟩ rfl rfl rfl rfl rfl (by decide) (sX8_ruleAtN hs (Or.inl rfl) (by rw [hC.1.2.1]; exact hb) ?_)
      refine w_astoreN (al' := [_, _, _, _, _, _]) dX9_reads_14 rfl rfl rfl ?_
      refine w_aload_n dX9_reads_16 rfl ?_
      refine w_ifnullR dX9_reads_17 ?_
      refine w_aloadN dX9_reads_20 rfl ?_
      refine w_ifnonnullN dX9_reads_22 ?_
      refine w_ldc dX9_reads_25 kcX9_77 ?_
      refine w_ireturn dX9_reads_27 rfl rfl ?_
      have e : oReads V X (nI s) b = -1000000001 := cif_f (fun z => hb z.2)
      rw [e] at hq
      exact hq I (fun _ _ => rfl) hC
  · refine c_V (t := 9) (as := [_]) (d' := 1) dX9_reads_2 mlX9_262 moX9_sheetAt mvX9_sheetAt ⟨rfl, rfl⟩ rfl rfl rfl rfl rfl (by decide) (sX9_sheetAtN hs ha ?_)
    refine w_astore_nN (al' := [_, _, _, _, _, _]) dX9_reads_5 rfl rfl rfl ?_
    refine w_aload_n dX9_reads_6 rfl ?_
    refine w_getR dX9_reads_7 flX9_10 rfl (hs.r (a := 0) (j := 0) (b := 1) 0 rfl) ?_
    refine w_iload_n dX9_reads_10 rfl ?_
    by_cases hb : isR V b
    · obtain ⟨r, hr, rfl⟩ := isR_of hV hb
      have h8 := hV.2.1.2
      have hcr : (nI r).toNatClampNeg = r := nI_clamp (by omega)
      refine c_V (t := 8) (as := [_]) (d' := 1) dX9_reads_11 mlX9_116 moX8_ruleAt mvX8_ruleAt ⟨rfl, rfl⟩ rfl rfl rfl rfl rfl (by decide) (sX8_ruleAtS hs (Or.inl rfl) (hC.1.2.1.trans hV.2.1.1) h8 hr ?_)
      refine w_astore (al' := [_, _, _, _, _, _]) dX9_reads_14 rfl rfl rfl ?_
      refine w_aload_nN dX9_reads_16 rfl ?_
      refine w_ifnullN (tgt := 25) dX9_reads_17 (by decide) ?_
      refine w_ldc dX9_reads_25 kcX9_77 ?_
      refine w_ireturn dX9_reads_27 rfl rfl ?_
      have e : oReads V X a (nI r) = -1000000001 := cif_f (fun z => ha z.1)
      rw [e] at hq
      exact hq I (fun _ _ => rfl) hC
    · refine c_V (t := 8) (as := [_]) (d' := 1) dX9_reads_11 mlX9_116 moX8_ruleAt mvX8_ruleAt ⟨rfl, rfl⟩ rfl rfl rfl rfl rfl (by decide) (sX8_ruleAtN hs (Or.inl rfl) (by rw [hC.1.2.1]; exact hb) ?_)
      refine w_astoreN (al' := [_, _, _, _, _, _]) dX9_reads_14 rfl rfl rfl ?_
      refine w_aload_nN dX9_reads_16 rfl ?_
      refine w_ifnullN (tgt := 25) dX9_reads_17 (by decide) ?_
      refine w_ldc dX9_reads_25 kcX9_77 ?_
      refine w_ireturn dX9_reads_27 rfl rfl ?_
      have e : oReads V X a b = -1000000001 := cif_f (fun z => ha z.1)
      rw [e] at hq
      exact hq I (fun _ _ => rfl) hC

set_option maxRecDepth 20000 in
theorem lX10_reads (hs : SK R N) {V : VV} (hI : I 118 = V) (hV : VO V) {X : X3} (hO : SO X.1 X.2.1) (hS : I 137 = X.1) (hZ : I 138 = X.2.1) (hCe : I 139 = X.2.2) {s z r : Nat} (hs4 : s ≤ 3) (hr : r < nRu V) (hz : X.2.1 s = nI z) (hz24 : z ≤ 24) (hq : ∀ I' : HI, (∀ q, q ≠ 135 → q ≠ 136 → I' q = I q) → Q (vI (frst (rdP V X s z r) 24 0)) I' L R N n) : WP sc 3 0 0 mX10_reads 33 [vR 10 117, vI (nI s), vI (nI r), vI (nI 0), vU] [] I L R N n Q := by
  have h8 := hV.2.1.2
  have lp : ∀ (k j : Nat) (I1 : HI), j + k = z → (∀ q, q ≠ 135 → q ≠ 136 → I1 q = I q) → (∀ I' : HI, (∀ q, q ≠ 135 → q ≠ 136 → I' q = I q) → Q (vI (frst (rdP V X s z r) (24 - j) j)) I' L R N n) → WP sc 3 0 0 mX10_reads 33 [vR 10 117, vI (nI s), vI (nI r), vI (nI j), vU] [] I1 L R N n Q := by
    intro k
    induction k with
    | zero =>
      intro j I1 hj hI1 hq
      refine w_iload_n dX10_reads_33 rfl ?_
      refine w_aload_n dX10_reads_34 rfl ?_
      refine w_getR dX10_reads_35 flX10_72 rfl (hs.r (a := 117) (j := 35) (b := 138) 136 rfl) ?_
      refine w_iload_n dX10_reads_38 rfl ?_
      refine w_iald dX10_reads_39 rfl (hs.n (a := 138) (z := 4) 92 rfl) (by omega) ?_
      refine w_top (y := nI z) (by rw [hI1 138 (by decide) (by decide), hZ]; exact hz) ?_
      refine w_icmp_ge (tgt := 82) dX10_reads_40 (by decide) (fun c40 => ?_) (fun c40 => ?_)
      · refine w_ldc dX10_reads_82 kcX10_96 ?_
        refine w_ireturn dX10_reads_84 rfl rfl ?_
        exact q_e (frst_none _ _ (fun i hi q => by have := q.1; omega)) (hq I1 hI1)
      · exact absurd (nI_le (a := z) (by omega) (by omega)) c40
    | succ k ih =>
      intro j I1 hj hI1 hq
      refine w_iload_n dX10_reads_33 rfl ?_
      refine w_aload_n dX10_reads_34 rfl ?_
      refine w_getR dX10_reads_35 flX10_72 rfl (hs.r (a := 117) (j := 35) (b := 138) 136 rfl) ?_
      refine w_iload_n dX10_reads_38 rfl ?_
      refine w_iald dX10_reads_39 rfl (hs.n (a := 138) (z := 4) 92 rfl) (by omega) ?_
      refine w_top (y := nI z) (by rw [hI1 138 (by decide) (by decide), hZ]; exact hz) ?_
      refine w_icmp_ge (tgt := 82) dX10_reads_40 (by decide) (fun c40 => ?_) (fun c40 => ?_)
      · exact absurd ((nI_leI (by omega) (by omega)).mp c40) (by omega)
      · refine w_aload_n dX10_reads_43 rfl ?_
        refine w_getR dX10_reads_44 flX10_75 rfl (hs.r (a := 117) (j := 36) (b := 139) 137 rfl) ?_
        refine w_bipush dX10_reads_47 bp_24 ?_
        refine w_iload_n dX10_reads_49 rfl ?_
        refine w_imul dX10_reads_50 ?_
        refine w_iload_n dX10_reads_51 rfl ?_
        refine w_iadd dX10_reads_52 ?_
        refine w_top (y := nI (24 * s + j)) (by show nI 24 * nI s + nI j = _; rw [nI_mul, nI_add]) ?_
        refine w_iald dX10_reads_53 rfl (hs.n (a := 139) (z := 96) 93 rfl) (by omega) ?_
        refine w_top (y := X.2.2 (24 * s + j)) (by rw [hI1 139 (by decide) (by decide), hCe]) ?_
        refine w_istore (al' := [_, _, _, _, _]) dX10_reads_54 rfl rfl rfl ?_
        refine w_iload dX10_reads_56 rfl ?_
        refine w_ldc dX10_reads_58 kcX10_96 ?_
        refine w_icmp_eq (tgt := 76) dX10_reads_60 (by decide) (fun c60 => ?_) (fun c60 => ?_)
        · refine w_iinc (al' := [_, _, _, _, _]) dX10_reads_76 rfl rfl ic_1 rfl ?_
          refine w_goto (tgt := 33) dX10_reads_79 (by decide) ?_
          refine w_kill (i := 4) (al' := [_, _, _, _, _]) rfl ?_
          have hfs : frst (rdP V X s z r) (24 - j) j = cif (rdP V X s z r j) (nI j) (frst (rdP V X s z r) (24 - (j + 1)) (j + 1)) := by rw [show 24 - j = (24 - (j + 1)) + 1 by omega]; rfl
          have hP : ¬ rdP V X s z r j := fun q => q.2.1 c60
          simp only [nI_1]
          exact ih (j + 1) I1 (by omega) hI1 (fun I' h1 => q_e (hfs.trans (cif_f hP)) (hq I' h1))
        · refine w_iload dX10_reads_63 rfl ?_
          refine w_aload_n dX10_reads_65 rfl ?_
          refine w_iload_n dX10_reads_66 rfl ?_
          refine w_iload_n dX10_reads_67 rfl ?_
          refine c_V (t := 10) (as := [_, _]) (d' := 2) dX10_reads_68 mlX10_159 moX10_owedBy mvX10_owedBy ⟨rfl, rfl⟩ rfl rfl rfl rfl rfl (by decide) (sX10_owedBy hs ((hI1 118 (by decide) (by decide)).trans hI) hV hr (fun I2 hI2 => ?_))
          refine w_top (y := owAt V r j) (rfl) ?_
          refine w_icmp_eq (tgt := 76) dX10_reads_71 (by decide) (fun c71 => ?_) (fun c71 => ?_)
          · refine w_iinc (al' := [_, _, _, _, _]) dX10_reads_76 rfl rfl ic_1 rfl ?_
            refine w_goto (tgt := 33) dX10_reads_79 (by decide) ?_
            refine w_kill (i := 4) (al' := [_, _, _, _, _]) rfl ?_
            have hfs : frst (rdP V X s z r) (24 - j) j = cif (rdP V X s z r j) (nI j) (frst (rdP V X s z r) (24 - (j + 1)) (j + 1)) := by rw [show 24 - j = (24 - (j + 1)) + 1 by omega]; rfl
            have hP : ¬ rdP V X s z r j := fun q => q.2.2 c71
            simp only [nI_1]
            exact ih (j + 1) I2 (by omega) (fun q a1 a2 => (hI2 q a1 a2).trans (hI1 q a1 a2)) (fun I' h1 => q_e (hfs.trans (cif_f hP)) (hq I' h1))
          · refine w_iload_n dX10_reads_74 rfl ?_
            refine w_ireturn dX10_reads_75 rfl rfl ?_
            have hfs : frst (rdP V X s z r) (24 - j) j = cif (rdP V X s z r j) (nI j) (frst (rdP V X s z r) (24 - (j + 1)) (j + 1)) := by rw [show 24 - j = (24 - (j + 1)) + 1 by omega]; rfl
            exact q_e (hfs.trans (cif_t ⟨by omega, c60, c71⟩)) (hq I2 (fun q a1 a2 => (hI2 q a1 a2).trans (hI1 q a1 a2)))
  exact lp z 0 I (Nat.zero_add _) (fun _ _ _ => rfl) hq

set_option maxRecDepth 20000 in
theorem sX10_reads (hs : SK R N) {V : VV} (hI : I 118 = V) (hV : VO V) {X : X3} (hO : SO X.1 X.2.1) (hS : I 137 = X.1) (hZ : I 138 = X.2.1) (hCe : I 139 = X.2.2) {a b : Int32} (hq : ∀ I' : HI, (∀ q, FM q → I' q = I q) → I' 118 = V → Q (vI (oReads V X a b)) I' L R N n) : CA sc 3 0 0 mX10_reads [vR 10 117, vI a, vI b] I L R N n Q := by
  refine ca_in (al := [_, _, _, _, _]) rfl ?_
  refine w_iload_n dX10_reads_0 rfl ?_
  refine c_S (as := [_]) (d' := 1) dX10_reads_1 (Or.inl mlX10_275) moX10_isSheet msX10_isSheet rfl rfl rfl rfl rfl (by decide) (sX10_isSheet ?_)
  refine w_ifB_eq (tgt := 15) dX10_reads_4 (by decide) (fun c4 => ?_) (fun c4 => ?_)
  · refine w_ldc dX10_reads_15 kcX10_101 ?_
    refine w_ireturn dX10_reads_17 rfl rfl ?_
    have e : oReads V X a b = -1000000001 := cif_f (fun z => c4 z.1)
    rw [e] at hq
    exact hq I (fun _ _ => rfl) hI
  · refine w_aload_n dX10_reads_7 rfl ?_
    refine w_iload_n dX10_reads_8 rfl ?_
    refine c_V (t := 10) (as := [_]) (d' := 1) dX10_reads_9 mlX10_134 moX10_isRule mvX10_isRule ⟨rfl, rfl⟩ rfl rfl rfl rfl rfl (by decide) (sX10_isRule hs ?_)
    refine w_ifB_ne (tgt := 18) dX10_reads_12 (by decide) (fun c12 => ?_) (fun c12 => ?_)
    · have hb : isR V b := by unfold isR; rw [← hI]; exact c12
      have ha := c4
      obtain ⟨s, hs4, rfl⟩ := in_of (m := 3) (by decide) c4
      have hcl : (nI s).toNatClampNeg = s := nI_clamp (by omega)
      obtain ⟨o1, z, -, hz24, hz⟩ := hO s (by omega)
      have hm1 := m1_lt o1
      obtain ⟨r, hr, rfl⟩ := isR_of hV hb
      have h8 := hV.2.1.2
      have hcr : (nI r).toNatClampNeg = r := nI_clamp (by omega)
      refine w_aload_n dX10_reads_18 rfl ?_
      refine w_getR dX10_reads_19 flX10_69 rfl (hs.r (a := 117) (j := 34) (b := 137) 135 rfl) ?_
      refine w_iload_n dX10_reads_22 rfl ?_
      refine w_iald dX10_reads_23 rfl (hs.n (a := 137) (z := 4) 91 rfl) (by omega) ?_
      refine w_top (y := X.1 s) (congrFun hS s) ?_
      refine w_if_ge (tgt := 31) dX10_reads_24 (by decide) (fun c24 => ?_) (fun c24 => ?_)
      · have c33 : ¬ X.1 s = -1 := fun q => Int32.not_lt.mpr c24 (hm1.mp q)
        have e : oReads V X (nI s) (nI r) = frst (rdP V X s z r) 24 0 := by unfold oReads; rw [cif_t ⟨ha, hb⟩, hcl, hcr, hz, nI_clamp (by omega)]; exact cif_f c33
        rw [e] at hq
        refine w_iconst dX10_reads_31 ic_0 ?_
        refine w_istore_n (al' := [_, _, _, _, _]) dX10_reads_32 rfl rfl rfl ?_
        exact lX10_reads hs hI hV hO hS hZ hCe hs4 hr hz hz24 (fun I' h1 => hq I' (fun q h => h1 q (by unfold FM at h; omega) (by unfold FM at h; omega)) ((h1 118 (by decide) (by decide)).trans hI))
      · have c33 : X.1 s = -1 := hm1.mpr (Int32.not_le.mp c24)
        refine w_ldcw dX10_reads_27 kcX10_279 ?_
        refine w_ireturn dX10_reads_30 rfl rfl ?_
        have e : oReads V X (nI s) (nI r) = -1000000011 := by unfold oReads; rw [cif_t ⟨ha, hb⟩, hcl, hcr, hz, nI_clamp (by omega)]; exact cif_t c33
        rw [e] at hq
        exact hq I (fun _ _ => rfl) hI
    · have hb : ¬ isR V b := by unfold isR; rw [← hI]; exact c12
      refine w_ldc dX10_reads_15 kcX10_101 ?_
      refine w_ireturn dX10_reads_17 rfl rfl ?_
      have e : oReads V X a b = -1000000001 := cif_f (fun z => hb z.2)
      rw [e] at hq
      exact hq I (fun _ _ => rfl) hI

end
