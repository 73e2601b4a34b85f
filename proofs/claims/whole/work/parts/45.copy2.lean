section
variable {sc : SC} {I : HI} {L : HL} {R : HR} {N : HN} {n : Nat} {Q : HQ}
def rowOk (Z p m : Int32) : Prop := (0 ≤ p ∧ p ≤ Z) ∧ (0 ≤ m ∧ m ≤ Z - p)
theorem row_of {z : Nat} (hz : z ≤ 24) {p m : Int32} (h : rowOk (nI z) p m) : ∃ u w, u + w ≤ z ∧ p = nI u ∧ m = nI w := by
  obtain ⟨u, hu, rfl⟩ := in_of (by omega) h.1
  have h2 := h.2
  rw [nI_sub hu] at h2
  obtain ⟨w, hw, rfl⟩ := in_of (by omega) h2
  exact ⟨u, w, by omega, rfl, rfl⟩
theorem row_to {z u w : Nat} (hz : z ≤ 24) (h : u + w ≤ z) : rowOk (nI z) (nI u) (nI w) := by
  refine ⟨in_to (by omega) (by omega), ?_⟩
  rw [nI_sub (by omega)]
  exact in_to (by omega) (by omega)
theorem row_iff {z : Nat} (hz : z ≤ 24) {p m : Int32} : rowOk (nI z) p m ↔ (¬ p < 0 ∧ ¬ m < 0 ∧ ¬ nI z - m < p) := by
  constructor
  · intro h
    obtain ⟨u, w, huw, rfl, rfl⟩ := row_of hz h
    refine ⟨nI_pos (by omega), nI_pos (by omega), ?_⟩
    rw [nI_sub (by omega)]
    exact nI_nlt (by omega) (by omega)
  · intro ⟨h1, h2, h3⟩
    obtain ⟨u, hu, rfl⟩ := nI_of h1
    obtain ⟨w, hw, rfl⟩ := nI_of h2
    by_cases hwz : w ≤ z
    · rw [nI_sub hwz] at h3
      have : ¬ z - w < u := fun q => h3 (nI_lt q hu)
      exact row_to hz (by omega)
    · exfalso
      apply h3
      apply Int32.lt_iff_toInt_lt.mpr
      rw [Int32.toInt_sub, nI_toInt (by omega), nI_toInt hw, nI_toInt hu, Int.bmod_eq_of_le (by omega) (by omega)]
      omega
noncomputable def oCopy (X : X3) (a p b q m : Int32) : VV × Int32 := cif ((0 ≤ a ∧ a ≤ 3) ∧ (0 ≤ b ∧ b ≤ 3)) (cif (X.1 a.toNatClampNeg = -1 ∨ X.1 b.toNatClampNeg = -1) (X.2.2, -1000000011) (cif (X.1 a.toNatClampNeg = X.1 b.toNatClampNeg) (cif (rowOk (X.2.1 a.toNatClampNeg) p m ∧ rowOk (X.2.1 b.toNatClampNeg) q m) (va_cpy X.2.2 X.2.2 (24 * a.toNatClampNeg + p.toNatClampNeg) (24 * b.toNatClampNeg + q.toNatClampNeg) m.toNatClampNeg, m) (X.2.2, -1000000013)) (X.2.2, -1000000012))) (X.2.2, -1000000001)
theorem SHC.cpy {I' : HI} {S Z C : VV} (h : SHC I S Z C) {s t u v w : Nat} (hs : s < 4) (ht : t < 4) (hu : u + w ≤ 24) (hv : v + w ≤ 24) (hI : ∀ q, q ≠ 85 + 2 * t → I' q = I q) (h0 : I' (85 + 2 * t) = va_cpy (I (85 + 2 * s)) (I (85 + 2 * t)) u v w) : SHC I' S Z (va_cpy C C (24 * s + u) (24 * t + v) w) := by
  intro r hr
  rw [hI (84 + 2 * r) (by omega)]
  refine ⟨(h r hr).1, (h r hr).2.1, fun j hj => ?_⟩
  unfold va_cpy
  by_cases e : r = t
  · subst e
    rw [h0]
    unfold va_cpy
    by_cases e2 : v ≤ j ∧ j < v + w
    · rw [if_pos e2, if_pos (by omega), (h s hs).2.2 _ (by omega)]
      congr 1
      omega
    · rw [if_neg e2, if_neg (by omega)]; exact (h r hr).2.2 j hj
  · rw [hI (85 + 2 * r) (by omega), if_neg (by omega)]; exact (h r hr).2.2 j hj

set_option maxRecDepth 20000 in
theorem sX9_copy (hs : SK R N) {X : X3} (hO : SO X.1 X.2.1) (hS : SHC I X.1 X.2.1 X.2.2) {a p b q m : Int32} (hq : ∀ I' : HI, (∀ q, (q < 84 ∨ 92 ≤ q) → I' q = I q) → SHC I' X.1 X.2.1 (oCopy X a p b q m).1 → Q (vI (oCopy X a p b q m).2) I' L R N n) : CA sc 2 0 0 mX9_copy [vR 9 0, vI a, vI p, vI b, vI q, vI m] I L R N n Q := by
  refine ca_in (al := [_, _, _, _, _, _, _, _]) rfl ?_
  refine w_aload_n dX9_copy_0 rfl ?_
  refine w_iload_n dX9_copy_1 rfl ?_
  by_cases ha : 0 ≤ a ∧ a ≤ 3
  · obtain ⟨s, hs4, rfl⟩ := in_of (m := 3) (by decide) ha
    have hsh1 := hs.sheets (show s < 4 by omega)
    have hcl1 : (nI s).toNatClampNeg = s := nI_clamp (by omega)
    obtain ⟨k01, k11, k21⟩ := hS s (by omega)
    obtain ⟨o11, z1, -, hz241, hz1⟩ := hO s (by omega)
    refine c_V (t := 9) (as := [_]) (d' := 1) dX9_copy_2 mlX9_262 moX9_sheetAt mvX9_sheetAt ⟨rfl, rfl⟩ rfl rfl rfl rfl rfl (by decide) (sX9_sheetAtS hs (show s < 4 by omega) ?_)
    refine w_astore (al' := [_, _, _, _, _, _, _, _]) dX9_copy_5 rfl rfl rfl ?_
    refine w_aload_n dX9_copy_7 rfl ?_
    refine w_iload_n dX9_copy_8 rfl ?_
    by_cases hb : 0 ≤ b ∧ b ≤ 3
    · obtain ⟨t, ht4, rfl⟩ := in_of (m := 3) (by decide) hb
      have hsh2 := hs.sheets (show t < 4 by omega)
      have hcl2 : (nI t).toNatClampNeg = t := nI_clamp (by omega)
      obtain ⟨k02, k12, k22⟩ := hS t (by omega)
      obtain ⟨o12, z2, -, hz242, hz2⟩ := hO t (by omega)
      refine c_V (t := 9) (as := [_]) (d' := 1) dX9_copy_9 mlX9_262 moX9_sheetAt mvX9_sheetAt ⟨rfl, rfl⟩ rfl rfl rfl rfl rfl (by decide) (sX9_sheetAtS hs (show t < 4 by omega) ?_)
      refine w_astore (al' := [_, _, _, _, _, _, _, _]) dX9_copy_12 rfl rfl rfl ?_
      refine w_aload dX9_copy_14 rfl ?_
      refine w_ifnullR dX9_copy_16 ?_
      refine w_aload dX9_copy_19 rfl ?_
      refine w_ifnonnullR (tgt := 27) dX9_copy_21 (by decide) ?_
      refine w_aload dX9_copy_27 rfl ?_
      refine w_getI dX9_copy_29 flX9_272 rfl ?_
      refine w_top (y := X.1 s) (k01) ?_
      refine w_iconst dX9_copy_32 ic_m1 ?_
      refine w_icmp_eq (tgt := 45) dX9_copy_33 (by decide) (fun c33 => ?_) (fun c33 => ?_)
      · refine w_ldcw dX9_copy_45 kcX9_275 ?_
        refine w_ireturn dX9_copy_48 rfl rfl ?_
        have e : oCopy X (nI s) p (nI t) q m = (X.2.2, -1000000011) := by
          unfold oCopy
          rw [hcl1, hcl2]
          exact ((cif_t ⟨ha, hb⟩)).trans ((cif_t (by first | exact Or.inl c33 | exact Or.inr c42)))
        rw [e] at hq
        exact hq I (fun _ _ => rfl) hS
      · refine w_aload dX9_copy_36 rfl ?_
        refine w_getI dX9_copy_38 flX9_272 rfl ?_
        refine w_top (y := X.1 t) (k02) ?_
        refine w_iconst dX9_copy_41 ic_m1 ?_
        refine w_icmp_ne (tgt := 49) dX9_copy_42 (by decide) (fun c42 => ?_) (fun c42 => ?_)
        · have hm : ¬ (X.1 s = -1 ∨ X.1 t = -1) := fun z => z.elim c33 c42
          refine w_aload dX9_copy_49 rfl ?_
          refine w_getI dX9_copy_51 flX9_272 rfl ?_
          refine w_top (y := X.1 s) (k01) ?_
          refine w_aload dX9_copy_54 rfl ?_
          refine w_getI dX9_copy_56 flX9_272 rfl ?_
          refine w_top (y := X.1 t) (k02) ?_
          refine w_icmp_eq (tgt := 65) dX9_copy_59 (by decide) (fun c59 => ?_) (fun c59 => ?_)
          · refine w_aload dX9_copy_65 rfl ?_
            refine w_iload_n dX9_copy_67 rfl ?_
            refine w_iload dX9_copy_68 rfl ?_
            refine c_V (t := 4) (as := [_, _]) (d' := 1) dX9_copy_70 mlX9_292 moX4_hasRow mvX4_hasRow ⟨rfl, rfl⟩ rfl rfl rfl rfl rfl (by decide) (sX4_hasRow (k11.trans hz1) ?_)
            refine w_ifB_eq (tgt := 88) dX9_copy_73 (by decide) (fun c73 => ?_) (fun c73 => ?_)
            · refine w_ldcw dX9_copy_88 kcX9_279 ?_
              refine w_ireturn dX9_copy_91 rfl rfl ?_
              have e : oCopy X (nI s) p (nI t) q m = (X.2.2, -1000000013) := by
                unfold oCopy
                rw [hcl1, hcl2]
                exact ((cif_t ⟨ha, hb⟩)).trans (((cif_f hm)).trans (((cif_t c59)).trans ((cif_f (fun z => by rw [hz1, hz2] at z; first | exact c73 z.1 | exact c85 z.2)))))
              rw [e] at hq
              exact hq I (fun _ _ => rfl) hS
            · refine w_aload dX9_copy_76 rfl ?_
              refine w_iload dX9_copy_78 rfl ?_
              refine w_iload dX9_copy_80 rfl ?_
              refine c_V (t := 4) (as := [_, _]) (d' := 1) dX9_copy_82 mlX9_292 moX4_hasRow mvX4_hasRow ⟨rfl, rfl⟩ rfl rfl rfl rfl rfl (by decide) (sX4_hasRow (k12.trans hz2) ?_)
              refine w_ifB_ne (tgt := 92) dX9_copy_85 (by decide) (fun c85 => ?_) (fun c85 => ?_)
              · obtain ⟨u, w, huw, rfl, rfl⟩ := row_of hz241 c73
                have hrb := c85
                obtain ⟨v, w2, hvw, rfl, ew⟩ := row_of hz242 hrb
                have ew2 : w2 = w := ((nI_eq (by omega) (by omega)).mp ew).symm
                subst ew2
                have e : oCopy X (nI s) (nI u) (nI t) (nI v) (nI w2) = (va_cpy X.2.2 X.2.2 (24 * s + u) (24 * t + v) w2, nI w2) := by
                  unfold oCopy
                  rw [hcl1, hcl2, nI_clamp (n := u) (by omega), nI_clamp (n := v) (by omega), nI_clamp (n := w2) (by omega)]
                  exact ((cif_t ⟨ha, hb⟩)).trans (((cif_f hm)).trans (((cif_t c59)).trans ((cif_t ⟨by rw [hz1]; exact row_to hz241 (by omega), by rw [hz2]; exact row_to hz242 (by omega)⟩))))
                rw [e] at hq
                refine w_aload dX9_copy_92 rfl ?_
                refine w_getR dX9_copy_94 flX9_282 rfl hsh1.2.1 ?_
                refine w_iload_n dX9_copy_97 rfl ?_
                refine w_aload dX9_copy_98 rfl ?_
                refine w_getR dX9_copy_100 flX9_282 rfl hsh2.2.1 ?_
                refine w_iload dX9_copy_103 rfl ?_
                refine w_iload dX9_copy_105 rfl ?_
                refine w_acopy dX9_copy_107 mlX9_295 nat_acopy st_acopy iiJ10 (by decide) (Nat.le_of_ble_eq_true rfl) (u := u) (v := v) (w := w2) rfl rfl rfl (by rw [hsh1.2.2]; omega) (by rw [hsh2.2.2]; omega) (by rw [hsh1.2.2]; decide) (by rw [hsh2.2.2]; decide) ?_
                refine w_iload dX9_copy_110 rfl ?_
                refine w_ireturn dX9_copy_112 rfl rfl ?_
                exact hq _ (fun q h => va_up_ne _ _ (by omega)) (hS.cpy (by omega) (by omega) (by omega) (by omega) (fun q h => va_up_ne _ _ h) (va_up_self _ _ _))
              · refine w_ldcw dX9_copy_88 kcX9_279 ?_
                refine w_ireturn dX9_copy_91 rfl rfl ?_
                have e : oCopy X (nI s) p (nI t) q m = (X.2.2, -1000000013) := by
                  unfold oCopy
                  rw [hcl1, hcl2]
                  exact ((cif_t ⟨ha, hb⟩)).trans (((cif_f hm)).trans (((cif_t c59)).trans ((cif_f (fun z => by rw [hz1, hz2] at z; first | exact c73 z.1 | exact c85 z.2)))))
                rw [e] at hq
                exact hq I (fun _ _ => rfl) hS
          · refine w_ldc dX9_copy_62 kcX9_133 ?_
            refine w_ireturn dX9_copy_64 rfl rfl ?_
            have e : oCopy X (nI s) p (nI t) q m = (X.2.2, -1000000012) := by
              unfold oCopy
              rw [hcl1, hcl2]
              exact ((cif_t ⟨ha, hb⟩)).trans (((cif_f hm)).trans ((cif_f c59)))
            rw [e] at hq
            exact hq I (fun _ _ => rfl) hS
        · refine w_ldcw dX9_copy_45 kcX9_275 ?_
          refine w_ireturn dX9_copy_48 rfl rfl ?_
          have e : oCopy X (nI s) p (nI t) q m = (X.2.2, -1000000011) := by
            unfold oCopy
            rw [hcl1, hcl2]
            exact ((cif_t ⟨ha, hb⟩)).trans ((cif_t (by first | exact Or.inl c33 | exact Or.inr c42)))
          rw [e] at hq
          exact hq I (fun _ _ => rfl) hS
    · refine c_V (t := 9) (as := [_]) (d' := 1) dX9_copy_9 mlX9_262 moX9_sheetAt mvX9_sheetAt ⟨rfl, rfl⟩ rfl rfl rfl rfl rfl (by decide) (sX9_sheetAtN hs hb ?_)
      refine w_astoreN (al' := [_, _, _, _, _, _, _, _]) dX9_copy_12 rfl rfl rfl ?_
      refine w_aload dX9_copy_14 rfl ?_
      refine w_ifnullR dX9_copy_16 ?_
      refine w_aloadN dX9_copy_19 rfl ?_
      refine w_ifnonnullN dX9_copy_21 ?_
      refine w_ldc dX9_copy_24 kcX9_77 ?_
      refine w_ireturn dX9_copy_26 rfl rfl ?_
      have e : oCopy X (nI s) p b q m = (X.2.2, -1000000001) := cif_f (fun z => hb z.2)
      rw [e] at hq
      exact hq I (fun _ _ => rfl) hS
  · refine c_V (t := 9) (as := [_]) (d' := 1) dX9_copy_2 mlX9_262 moX9_sheetAt mvX9_sheetAt ⟨rfl, rfl⟩ rfl rfl rfl rfl rfl (by decide) (sX9_sheetAtN hs ha ?_)
    refine w_astoreN (al' := [_, _, _, _, _, _, _, _]) dX9_copy_5 rfl rfl rfl ?_
    refine w_aload_n dX9_copy_7 rfl ?_
    refine w_iload_n dX9_copy_8 rfl ?_
    by_cases hb : 0 ≤ b ∧ b ≤ 3
    · obtain ⟨t, ht4, rfl⟩ := in_of (m := 3) (by decide) hb
      have hsh2 := hs.sheets (show t < 4 by omega)
      have hcl2 : (nI t).toNatClampNeg = t := nI_clamp (by omega)
      obtain ⟨k02, k12, k22⟩ := hS t (by omega)
      obtain ⟨o12, z2, -, hz242, hz2⟩ := hO t (by omega)
      refine c_V (t := 9) (as := [_]) (d' := 1) dX9_copy_9 mlX9_262 moX9_sheetAt mvX9_sheetAt ⟨rfl, rfl⟩ rfl rfl rfl rfl rfl (by decide) (sX9_sheetAtS hs (show t < 4 by omega) ?_)
      refine w_astore (al' := [_, _, _, _, _, _, _, _]) dX9_copy_12 rfl rfl rfl ?_
      refine w_aloadN dX9_copy_14 rfl ?_
      refine w_ifnullN (tgt := 24) dX9_copy_16 (by decide) ?_
      refine w_ldc dX9_copy_24 kcX9_77 ?_
      refine w_ireturn dX9_copy_26 rfl rfl ?_
      have e : oCopy X a p (nI t) q m = (X.2.2, -1000000001) := cif_f (fun z => ha z.1)
      rw [e] at hq
      exact hq I (fun _ _ => rfl) hS
    · refine c_V (t := 9) (as := [_]) (d' := 1) dX9_copy_9 mlX9_262 moX9_sheetAt mvX9_sheetAt ⟨rfl, rfl⟩ rfl rfl rfl rfl rfl (by decide) (sX9_sheetAtN hs hb ?_)
      refine w_astoreN (al' := [_, _, _, _, _, _, _, _]) dX9_copy_12 rfl rfl rfl ?_
      refine w_aloadN dX9_copy_14 rfl ?_
      refine w_ifnullN (tgt := 24) dX9_copy_16 (by decide) ?_
      refine w_ldc dX9_copy_24 kcX9_77 ?_
      refine w_ireturn dX9_copy_26 rfl rfl ?_
      have e : oCopy X a p b q m = (X.2.2, -1000000001) := cif_f (fun z => ha z.1)
      rw [e] at hq
      exact hq I (fun _ _ => rfl) hS

set_option maxRecDepth 20000 in
theorem lX10_copy2 (hs : SK R N) {C : VV} {s t u v w : Nat} (hs4 : s < 4) (ht4 : t < 4) (hu : u + w ≤ 24) (hv : v + w ≤ 24) {I0 : HI} (hC0 : I0 139 = C) (hm : ∀ i, i < w → I0 144 i = C (24 * s + u + i)) (hk : ∀ I' : HI, (∀ q, q ≠ 139 → I' q = I0 q) → I' 139 = va_cpy C C (24 * s + u) (24 * t + v) w → Q (vI (nI w)) I' L R N n) : WP sc 2 0 0 mX10_copy 142 [vR 10 117, vI (nI s), vI (nI u), vI (nI t), vI (nI v), vI (nI w), vI (nI 0)] [] I0 L R N n Q := by
  have lp : ∀ (k j : Nat) (I1 : HI), j + k = w → (∀ q, q ≠ 139 → I1 q = I0 q) → I1 139 = va_cpy C C (24 * s + u) (24 * t + v) j → WP sc 2 0 0 mX10_copy 142 [vR 10 117, vI (nI s), vI (nI u), vI (nI t), vI (nI v), vI (nI w), vI (nI j)] [] I1 L R N n Q := by
    intro k
    induction k with
    | zero =>
      intro j I1 hj hI1 hC1
      refine w_iload dX10_copy_142 rfl ?_
      refine w_iload dX10_copy_144 rfl ?_
      refine w_icmp_ge (tgt := 177) dX10_copy_146 (by decide) (fun c146 => ?_) (fun c146 => ?_)
      · obtain rfl : j = w := by omega
        refine w_iload dX10_copy_177 rfl ?_
        refine w_ireturn dX10_copy_179 rfl rfl ?_
        exact hk I1 hI1 hC1
      · exact absurd (nI_le (a := w) (by omega) (by omega)) c146
    | succ k ih =>
      intro j I1 hj hI1 hC1
      refine w_iload dX10_copy_142 rfl ?_
      refine w_iload dX10_copy_144 rfl ?_
      refine w_icmp_ge (tgt := 177) dX10_copy_146 (by decide) (fun c146 => ?_) (fun c146 => ?_)
      · exact absurd ((nI_leI (by omega) (by omega)).mp c146) (by omega)
      · refine w_aload_n dX10_copy_149 rfl ?_
        refine w_getR dX10_copy_150 flX10_75 rfl (hs.r (a := 117) (j := 36) (b := 139) 137 rfl) ?_
        refine w_bipush dX10_copy_153 bp_24 ?_
        refine w_iload_n dX10_copy_155 rfl ?_
        refine w_imul dX10_copy_156 ?_
        refine w_iload dX10_copy_157 rfl ?_
        refine w_iadd dX10_copy_159 ?_
        refine w_iload dX10_copy_160 rfl ?_
        refine w_iadd dX10_copy_162 ?_
        refine w_top (y := nI (24 * t + v + j)) (by show nI 24 * nI t + nI v + nI j = _; rw [nI_mul, nI_add, nI_add]) ?_
        refine w_aload_n dX10_copy_163 rfl ?_
        refine w_getR dX10_copy_164 flX10_90 rfl (hs.r (a := 117) (j := 41) (b := 144) 142 rfl) ?_
        refine w_iload dX10_copy_167 rfl ?_
        refine w_iald dX10_copy_169 rfl (hs.n (a := 144) (z := 24) 98 rfl) (by omega) ?_
        refine w_top (y := C (24 * s + u + j)) (by rw [hI1 144 (by decide)]; exact hm j (by omega)) ?_
        refine w_iast dX10_copy_170 rfl (hs.n (a := 139) (z := 96) 93 rfl) (by omega) ?_
        refine w_iinc (al' := [_, _, _, _, _, _, _]) dX10_copy_171 rfl rfl ic_1 rfl ?_
        refine w_goto (tgt := 142) dX10_copy_174 (by decide) ?_
        simp only [nI_1]
        refine ih (j + 1) _ (by omega) (fun q h => (va_up_ne _ _ h).trans (hI1 q h)) ?_
        rw [va_up_self, hC1]
        funext i
        unfold va_cpy
        by_cases e : i = 24 * t + v + j
        · subst e; rw [va_up_self, if_pos (by omega), show 24 * t + v + j - (24 * t + v) = j by omega]
        · rw [va_up_ne _ _ e]
          by_cases e2 : 24 * t + v ≤ i ∧ i < 24 * t + v + j
          · rw [if_pos e2, if_pos (by omega)]
          · rw [if_neg e2, if_neg (by omega)]
  exact lp w 0 I0 (Nat.zero_add _) (fun _ _ => rfl) (by rw [hC0]; funext i; unfold va_cpy; rw [if_neg (by omega)])

set_option maxRecDepth 20000 in
theorem lX10_copy1 (hs : SK R N) {C : VV} {s t u v w : Nat} (hs4 : s < 4) (ht4 : t < 4) (hu : u + w ≤ 24) (hv : v + w ≤ 24) (hC0 : I 139 = C) (hk : ∀ I' : HI, (∀ q, q ≠ 139 → q ≠ 144 → I' q = I q) → I' 139 = va_cpy C C (24 * s + u) (24 * t + v) w → Q (vI (nI w)) I' L R N n) : WP sc 2 0 0 mX10_copy 105 [vR 10 117, vI (nI s), vI (nI u), vI (nI t), vI (nI v), vI (nI w), vI (nI 0)] [] I L R N n Q := by
  have lp : ∀ (k j : Nat) (I1 : HI), j + k = w → (∀ q, q ≠ 144 → I1 q = I q) → (∀ i, i < j → I1 144 i = C (24 * s + u + i)) → WP sc 2 0 0 mX10_copy 105 [vR 10 117, vI (nI s), vI (nI u), vI (nI t), vI (nI v), vI (nI w), vI (nI j)] [] I1 L R N n Q := by
    intro k
    induction k with
    | zero =>
      intro j I1 hj hI1 hm
      refine w_iload dX10_copy_105 rfl ?_
      refine w_iload dX10_copy_107 rfl ?_
      refine w_icmp_ge (tgt := 139) dX10_copy_109 (by decide) (fun c109 => ?_) (fun c109 => ?_)
      · obtain rfl : j = w := by omega
        refine w_iconst dX10_copy_139 ic_0 ?_
        refine w_istore (al' := [_, _, _, _, _, _, _]) dX10_copy_140 rfl rfl rfl ?_
        exact lX10_copy2 hs hs4 ht4 hu hv ((hI1 139 (by decide)).trans hC0) hm (fun I' a1 a2 => hk I' (fun q b1 b2 => (a1 q b1).trans (hI1 q b2)) a2)
      · exact absurd (nI_le (a := w) (by omega) (by omega)) c109
    | succ k ih =>
      intro j I1 hj hI1 hm
      refine w_iload dX10_copy_105 rfl ?_
      refine w_iload dX10_copy_107 rfl ?_
      refine w_icmp_ge (tgt := 139) dX10_copy_109 (by decide) (fun c109 => ?_) (fun c109 => ?_)
      · exact absurd ((nI_leI (by omega) (by omega)).mp c109) (by omega)
      · refine w_aload_n dX10_copy_112 rfl ?_
        refine w_getR dX10_copy_113 flX10_90 rfl (hs.r (a := 117) (j := 41) (b := 144) 142 rfl) ?_
        refine w_iload dX10_copy_116 rfl ?_
        refine w_aload_n dX10_copy_118 rfl ?_
        refine w_getR dX10_copy_119 flX10_75 rfl (hs.r (a := 117) (j := 36) (b := 139) 137 rfl) ?_
        refine w_bipush dX10_copy_122 bp_24 ?_
        refine w_iload_n dX10_copy_124 rfl ?_
        refine w_imul dX10_copy_125 ?_
        refine w_iload_n dX10_copy_126 rfl ?_
        refine w_iadd dX10_copy_127 ?_
        refine w_iload dX10_copy_128 rfl ?_
        refine w_iadd dX10_copy_130 ?_
        refine w_top (y := nI (24 * s + u + j)) (by show nI 24 * nI s + nI u + nI j = _; rw [nI_mul, nI_add, nI_add]) ?_
        refine w_iald dX10_copy_131 rfl (hs.n (a := 139) (z := 96) 93 rfl) (by omega) ?_
        refine w_top (y := C (24 * s + u + j)) (by rw [hI1 139 (by decide), hC0]) ?_
        refine w_iast dX10_copy_132 rfl (hs.n (a := 144) (z := 24) 98 rfl) (by omega) ?_
        refine w_iinc (al' := [_, _, _, _, _, _, _]) dX10_copy_133 rfl rfl ic_1 rfl ?_
        refine w_goto (tgt := 105) dX10_copy_136 (by decide) ?_
        simp only [nI_1]
        refine ih (j + 1) _ (by omega) (fun q h => (va_up_ne _ _ h).trans (hI1 q h)) (fun i hi => ?_)
        rw [va_up_self]
        by_cases e : i = j
        · subst e; rw [va_up_self]
        · rw [va_up_ne _ _ e]; exact hm i (by omega)
  exact lp w 0 I (Nat.zero_add _) (fun _ _ => rfl) (fun i hi => absurd hi (Nat.not_lt_zero i))

set_option maxRecDepth 20000 in
theorem sX10_copy (hs : SK R N) {X : X3} (hO : SO X.1 X.2.1) (hS : I 137 = X.1) (hZ : I 138 = X.2.1) (hCe : I 139 = X.2.2) {a p b q m : Int32} (hq : ∀ I' : HI, (∀ q, q ≠ 139 → q ≠ 144 → I' q = I q) → I' 139 = (oCopy X a p b q m).1 → Q (vI (oCopy X a p b q m).2) I' L R N n) : CA sc 2 0 0 mX10_copy [vR 10 117, vI a, vI p, vI b, vI q, vI m] I L R N n Q := by
  refine ca_in (al := [_, _, _, _, _, _, _]) rfl ?_
  refine w_iload_n dX10_copy_0 rfl ?_
  refine c_S (as := [_]) (d' := 1) dX10_copy_1 (Or.inl mlX10_275) moX10_isSheet msX10_isSheet rfl rfl rfl rfl rfl (by decide) (sX10_isSheet ?_)
  refine w_ifB_eq (tgt := 14) dX10_copy_4 (by decide) (fun c4 => ?_) (fun c4 => ?_)
  · refine w_ldc dX10_copy_14 kcX10_101 ?_
    refine w_ireturn dX10_copy_16 rfl rfl ?_
    have e : oCopy X a p b q m = (X.2.2, -1000000001) := cif_f (fun z => c4 z.1)
    rw [e] at hq
    exact hq I (fun _ _ _ => rfl) hCe
  · refine w_iload_n dX10_copy_7 rfl ?_
    refine c_S (as := [_]) (d' := 1) dX10_copy_8 (Or.inl mlX10_275) moX10_isSheet msX10_isSheet rfl rfl rfl rfl rfl (by decide) (sX10_isSheet ?_)
    refine w_ifB_ne (tgt := 17) dX10_copy_11 (by decide) (fun c11 => ?_) (fun c11 => ?_)
    · have ha := c4
      obtain ⟨s, hs4, rfl⟩ := in_of (m := 3) (by decide) c4
      have hcl1 : (nI s).toNatClampNeg = s := nI_clamp (by omega)
      obtain ⟨o11, z1, -, hz241, hz1⟩ := hO s (by omega)
      have hm1 := m1_lt o11
      have hb := c11
      obtain ⟨t, ht4, rfl⟩ := in_of (m := 3) (by decide) c11
      have hcl2 : (nI t).toNatClampNeg = t := nI_clamp (by omega)
      obtain ⟨o12, z2, -, hz242, hz2⟩ := hO t (by omega)
      have hm2 := m1_lt o12
      refine w_aload_n dX10_copy_17 rfl ?_
      refine w_getR dX10_copy_18 flX10_69 rfl (hs.r (a := 117) (j := 34) (b := 137) 135 rfl) ?_
      refine w_iload_n dX10_copy_21 rfl ?_
      refine w_iald dX10_copy_22 rfl (hs.n (a := 137) (z := 4) 91 rfl) (by omega) ?_
      refine w_top (y := X.1 s) (congrFun hS s) ?_
      refine w_if_lt (tgt := 35) dX10_copy_23 (by decide) (fun c23 => ?_) (fun c23 => ?_)
      · refine w_ldcw dX10_copy_35 kcX10_279 ?_
        refine w_ireturn dX10_copy_38 rfl rfl ?_
        have e : oCopy X (nI s) p (nI t) q m = (X.2.2, -1000000011) := by
          unfold oCopy
          rw [hcl1, hcl2]
          exact ((cif_t ⟨ha, hb⟩)).trans ((cif_t (by first | exact Or.inl (hm1.mpr c23) | exact Or.inr (hm2.mpr (Int32.not_le.mp c32)))))
        rw [e] at hq
        exact hq I (fun _ _ _ => rfl) hCe
      · refine w_aload_n dX10_copy_26 rfl ?_
        refine w_getR dX10_copy_27 flX10_69 rfl (hs.r (a := 117) (j := 34) (b := 137) 135 rfl) ?_
        refine w_iload_n dX10_copy_30 rfl ?_
        refine w_iald dX10_copy_31 rfl (hs.n (a := 137) (z := 4) 91 rfl) (by omega) ?_
        refine w_top (y := X.1 t) (congrFun hS t) ?_
        refine w_if_ge (tgt := 39) dX10_copy_32 (by decide) (fun c32 => ?_) (fun c32 => ?_)
        · have hm : ¬ (X.1 s = -1 ∨ X.1 t = -1) := fun z => z.elim (fun q => c23 (hm1.mp q)) (fun q => Int32.not_lt.mpr c32 (hm2.mp q))
          refine w_aload_n dX10_copy_39 rfl ?_
          refine w_getR dX10_copy_40 flX10_69 rfl (hs.r (a := 117) (j := 34) (b := 137) 135 rfl) ?_
          refine w_iload_n dX10_copy_43 rfl ?_
          refine w_iald dX10_copy_44 rfl (hs.n (a := 137) (z := 4) 91 rfl) (by omega) ?_
          refine w_top (y := X.1 s) (congrFun hS s) ?_
          refine w_aload_n dX10_copy_45 rfl ?_
          refine w_getR dX10_copy_46 flX10_69 rfl (hs.r (a := 117) (j := 34) (b := 137) 135 rfl) ?_
          refine w_iload_n dX10_copy_49 rfl ?_
          refine w_iald dX10_copy_50 rfl (hs.n (a := 137) (z := 4) 91 rfl) (by omega) ?_
          refine w_top (y := X.1 t) (congrFun hS t) ?_
          refine w_icmp_eq (tgt := 57) dX10_copy_51 (by decide) (fun c51 => ?_) (fun c51 => ?_)
          · refine w_iload_n dX10_copy_57 rfl ?_
            refine w_if_lt (tgt := 98) dX10_copy_58 (by decide) (fun c58 => ?_) (fun c58 => ?_)
            · refine w_ldcw dX10_copy_98 kcX10_280 ?_
              refine w_ireturn dX10_copy_101 rfl rfl ?_
              have e : oCopy X (nI s) p (nI t) q m = (X.2.2, -1000000013) := by
                unfold oCopy
                rw [hcl1, hcl2]
                exact ((cif_t ⟨ha, hb⟩)).trans (((cif_f hm)).trans (((cif_t c51)).trans ((cif_f (fun z => by rw [hz1, hz2, row_iff hz241, row_iff hz242] at z; first | exact z.1.1 c58 | exact z.2.1 c63 | exact z.1.2.1 c68 | exact z.1.2.2 c81 | exact z.2.2.2 (Int32.not_le.mp c95))))))
              rw [e] at hq
              exact hq I (fun _ _ _ => rfl) hCe
            · refine w_iload dX10_copy_61 rfl ?_
              refine w_if_lt (tgt := 98) dX10_copy_63 (by decide) (fun c63 => ?_) (fun c63 => ?_)
              · refine w_ldcw dX10_copy_98 kcX10_280 ?_
                refine w_ireturn dX10_copy_101 rfl rfl ?_
                have e : oCopy X (nI s) p (nI t) q m = (X.2.2, -1000000013) := by
                  unfold oCopy
                  rw [hcl1, hcl2]
                  exact ((cif_t ⟨ha, hb⟩)).trans (((cif_f hm)).trans (((cif_t c51)).trans ((cif_f (fun z => by rw [hz1, hz2, row_iff hz241, row_iff hz242] at z; first | exact z.1.1 c58 | exact z.2.1 c63 | exact z.1.2.1 c68 | exact z.1.2.2 c81 | exact z.2.2.2 (Int32.not_le.mp c95))))))
                rw [e] at hq
                exact hq I (fun _ _ _ => rfl) hCe
              · refine w_iload dX10_copy_66 rfl ?_
                refine w_if_lt (tgt := 98) dX10_copy_68 (by decide) (fun c68 => ?_) (fun c68 => ?_)
                · refine w_ldcw dX10_copy_98 kcX10_280 ?_
                  refine w_ireturn dX10_copy_101 rfl rfl ?_
                  have e : oCopy X (nI s) p (nI t) q m = (X.2.2, -1000000013) := by
                    unfold oCopy
                    rw [hcl1, hcl2]
                    exact ((cif_t ⟨ha, hb⟩)).trans (((cif_f hm)).trans (((cif_t c51)).trans ((cif_f (fun z => by rw [hz1, hz2, row_iff hz241, row_iff hz242] at z; first | exact z.1.1 c58 | exact z.2.1 c63 | exact z.1.2.1 c68 | exact z.1.2.2 c81 | exact z.2.2.2 (Int32.not_le.mp c95))))))
                  rw [e] at hq
                  exact hq I (fun _ _ _ => rfl) hCe
                · refine w_iload_n dX10_copy_71 rfl ?_
                  refine w_aload_n dX10_copy_72 rfl ?_
                  refine w_getR dX10_copy_73 flX10_72 rfl (hs.r (a := 117) (j := 35) (b := 138) 136 rfl) ?_
                  refine w_iload_n dX10_copy_76 rfl ?_
                  refine w_iald dX10_copy_77 rfl (hs.n (a := 138) (z := 4) 92 rfl) (by omega) ?_
                  refine w_top (y := nI z1) ((congrFun hZ s).trans hz1) ?_
                  refine w_iload dX10_copy_78 rfl ?_
                  refine w_isub dX10_copy_80 ?_
                  refine w_icmp_gt (tgt := 98) dX10_copy_81 (by decide) (fun c81 => ?_) (fun c81 => ?_)
                  · refine w_ldcw dX10_copy_98 kcX10_280 ?_
                    refine w_ireturn dX10_copy_101 rfl rfl ?_
                    have e : oCopy X (nI s) p (nI t) q m = (X.2.2, -1000000013) := by
                      unfold oCopy
                      rw [hcl1, hcl2]
                      exact ((cif_t ⟨ha, hb⟩)).trans (((cif_f hm)).trans (((cif_t c51)).trans ((cif_f (fun z => by rw [hz1, hz2, row_iff hz241, row_iff hz242] at z; first | exact z.1.1 c58 | exact z.2.1 c63 | exact z.1.2.1 c68 | exact z.1.2.2 c81 | exact z.2.2.2 (Int32.not_le.mp c95))))))
                    rw [e] at hq
                    exact hq I (fun _ _ _ => rfl) hCe
                  · refine w_iload dX10_copy_84 rfl ?_
                    refine w_aload_n dX10_copy_86 rfl ?_
                    refine w_getR dX10_copy_87 flX10_72 rfl (hs.r (a := 117) (j := 35) (b := 138) 136 rfl) ?_
                    refine w_iload_n dX10_copy_90 rfl ?_
                    refine w_iald dX10_copy_91 rfl (hs.n (a := 138) (z := 4) 92 rfl) (by omega) ?_
                    refine w_top (y := nI z2) ((congrFun hZ t).trans hz2) ?_
                    refine w_iload dX10_copy_92 rfl ?_
                    refine w_isub dX10_copy_94 ?_
                    refine w_icmp_le (tgt := 102) dX10_copy_95 (by decide) (fun c95 => ?_) (fun c95 => ?_)
                    · have c73 : rowOk (nI z1) p m := (row_iff hz241).mpr ⟨c58, c68, c81⟩
                      have c85 : rowOk (nI z2) q m := (row_iff hz242).mpr ⟨c63, c68, Int32.not_lt.mpr c95⟩
                      obtain ⟨u, w, huw, rfl, rfl⟩ := row_of hz241 c73
                      have hrb := c85
                      obtain ⟨v, w2, hvw, rfl, ew⟩ := row_of hz242 hrb
                      have ew2 : w2 = w := ((nI_eq (by omega) (by omega)).mp ew).symm
                      subst ew2
                      have e : oCopy X (nI s) (nI u) (nI t) (nI v) (nI w2) = (va_cpy X.2.2 X.2.2 (24 * s + u) (24 * t + v) w2, nI w2) := by
                        unfold oCopy
                        rw [hcl1, hcl2, nI_clamp (n := u) (by omega), nI_clamp (n := v) (by omega), nI_clamp (n := w2) (by omega)]
                        exact ((cif_t ⟨ha, hb⟩)).trans (((cif_f hm)).trans (((cif_t c51)).trans ((cif_t ⟨by rw [hz1]; exact row_to hz241 (by omega), by rw [hz2]; exact row_to hz242 (by omega)⟩))))
                      rw [e] at hq
                      refine w_iconst dX10_copy_102 ic_0 ?_
                      refine w_istore (al' := [_, _, _, _, _, _, _]) dX10_copy_103 rfl rfl rfl ?_
                      exact lX10_copy1 hs (by omega) (by omega) (by omega) (by omega) hCe hq
                    · refine w_ldcw dX10_copy_98 kcX10_280 ?_
                      refine w_ireturn dX10_copy_101 rfl rfl ?_
                      have e : oCopy X (nI s) p (nI t) q m = (X.2.2, -1000000013) := by
                        unfold oCopy
                        rw [hcl1, hcl2]
                        exact ((cif_t ⟨ha, hb⟩)).trans (((cif_f hm)).trans (((cif_t c51)).trans ((cif_f (fun z => by rw [hz1, hz2, row_iff hz241, row_iff hz242] at z; first | exact z.1.1 c58 | exact z.2.1 c63 | exact z.1.2.1 c68 | exact z.1.2.2 c81 | exact z.2.2.2 (Int32.not_le.mp c95))))))
                      rw [e] at hq
                      exact hq I (fun _ _ _ => rfl) hCe
          · refine w_ldc dX10_copy_54 kcX10_143 ?_
            refine w_ireturn dX10_copy_56 rfl rfl ?_
            have e : oCopy X (nI s) p (nI t) q m = (X.2.2, -1000000012) := by
              unfold oCopy
              rw [hcl1, hcl2]
              exact ((cif_t ⟨ha, hb⟩)).trans (((cif_f hm)).trans ((cif_f c51)))
            rw [e] at hq
            exact hq I (fun _ _ _ => rfl) hCe
        · refine w_ldcw dX10_copy_35 kcX10_279 ?_
          refine w_ireturn dX10_copy_38 rfl rfl ?_
          have e : oCopy X (nI s) p (nI t) q m = (X.2.2, -1000000011) := by
            unfold oCopy
            rw [hcl1, hcl2]
            exact ((cif_t ⟨ha, hb⟩)).trans ((cif_t (by first | exact Or.inl (hm1.mpr c23) | exact Or.inr (hm2.mpr (Int32.not_le.mp c32)))))
          rw [e] at hq
          exact hq I (fun _ _ _ => rfl) hCe
    · refine w_ldc dX10_copy_14 kcX10_101 ?_
      refine w_ireturn dX10_copy_16 rfl rfl ?_
      have e : oCopy X a p b q m = (X.2.2, -1000000001) := cif_f (fun z => c11 z.2)
      rw [e] at hq
      exact hq I (fun _ _ _ => rfl) hCe

end
