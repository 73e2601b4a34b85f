section
variable {sc : SC} {I : HI} {L : HL} {R : HR} {N : HN} {n : Nat} {Q : HQ}
abbrev X3 : Type := VV × VV × VV
def shN (b c : Int32) : Int32 := if b = -1 then 0 else c
def clrC (C : VV) (s : Nat) : VV := fun j => if 24 * s ≤ j ∧ j < 24 * s + 24 then 0 else C j
noncomputable def oSheet (X : X3) (a b c : Int32) : X3 × Int32 := cif ((0 ≤ a ∧ a ≤ 3) ∧ (-1 ≤ b ∧ b ≤ 1) ∧ (b = -1 ∨ c ≤ 24)) (cif (b = -1 ∨ 0 ≤ c) ((va_up X.1 a.toNatClampNeg b, va_up X.2.1 a.toNatClampNeg (shN b c), clrC X.2.2 a.toNatClampNeg), shN b c) (X, -1000000014)) (X, -1000000001)
def shv (b v : Int32) : Int32 := if b = 0 then v.toInt16.toInt32 else v
noncomputable def oMark (X : X3) (a p v : Int32) : VV × Int32 := cif (0 ≤ a ∧ a ≤ 3) (cif (X.1 a.toNatClampNeg = -1) (X.2.2, -1000000011) (cif (0 ≤ p ∧ p ≤ X.2.1 a.toNatClampNeg - 1) (cif (X.1 a.toNatClampNeg = 0 ∧ v = -1000000005) (X.2.2, -1000000012) (cif (X.1 a.toNatClampNeg = 1 ∧ v ≠ -1000000005 ∧ ¬ (-99999 ≤ v ∧ v ≤ 99999)) (X.2.2, -1000000001) (va_up X.2.2 (24 * a.toNatClampNeg + p.toNatClampNeg) (shv (X.1 a.toNatClampNeg) v), 1))) (X.2.2, -1000000013))) (X.2.2, -1000000001)
theorem b_of {b : Int32} (h : -1 ≤ b ∧ b ≤ 1) : b = -1 ∨ b = 0 ∨ b = 1 := by
  have h1 : (-1 : Int) ≤ b.toInt := Int32.le_iff_toInt_le.mp h.1
  have h2 : b.toInt ≤ (1 : Int) := Int32.le_iff_toInt_le.mp h.2
  rcases (show b.toInt = -1 ∨ b.toInt = 0 ∨ b.toInt = 1 by omega) with e | e | e
  · exact Or.inl (Int32.toInt_inj.mp e)
  · exact Or.inr (Or.inl (Int32.toInt_inj.mp e))
  · exact Or.inr (Or.inr (Int32.toInt_inj.mp e))
theorem SO_oSheet {X : X3} (h : SO X.1 X.2.1) (a b c : Int32) : SO (oSheet X a b c).1.1 (oSheet X a b c).1.2.1 := by
  unfold oSheet
  by_cases h1 : (0 ≤ a ∧ a ≤ 3) ∧ (-1 ≤ b ∧ b ≤ 1) ∧ (b = -1 ∨ c ≤ 24)
  · rw [cif_t h1]
    by_cases h2 : b = -1 ∨ 0 ≤ c
    · rw [cif_t h2]
      intro s hs
      show (va_up X.1 a.toNatClampNeg b s = -1 ∨ va_up X.1 a.toNatClampNeg b s = 0 ∨ va_up X.1 a.toNatClampNeg b s = 1) ∧ inN (va_up X.2.1 a.toNatClampNeg (shN b c) s) 0 24
      by_cases e : s = a.toNatClampNeg
      · rw [e, va_up_self, va_up_self]
        refine ⟨b_of h1.2.1, ?_⟩
        unfold shN
        by_cases e2 : b = -1
        · rw [if_pos e2]; exact ⟨0, by omega, by omega, rfl⟩
        · rw [if_neg e2]; exact inN_of (m := 24) (by decide) ⟨h2.resolve_left e2, h1.2.2.resolve_left e2⟩
      · rw [va_up_ne _ _ e, va_up_ne _ _ e]; exact h s hs
    · rw [cif_f h2]; exact h
  · rw [cif_f h1]; exact h
theorem SHC.sheet {I' : HI} {X : X3} (h : SHC I X.1 X.2.1 X.2.2) {s : Nat} (hs : s < 4) {b z : Int32} (hI : ∀ q, q ≠ 84 + 2 * s → q ≠ 85 + 2 * s → I' q = I q) (h0 : I' (84 + 2 * s) 0 = b) (h1 : I' (84 + 2 * s) 1 = z) (hc : ∀ j, j < 24 → I' (85 + 2 * s) j = 0) : SHC I' (va_up X.1 s b) (va_up X.2.1 s z) (clrC X.2.2 s) := by
  intro t ht
  by_cases e : t = s
  · subst e
    rw [va_up_self, va_up_self]
    exact ⟨h0, h1, fun j hj => (hc j hj).trans (if_pos (by omega)).symm⟩
  · rw [va_up_ne _ _ e, va_up_ne _ _ e, hI (84 + 2 * t) (by omega) (by omega), hI (85 + 2 * t) (by omega) (by omega)]
    exact ⟨(h t ht).1, (h t ht).2.1, fun j hj => ((h t ht).2.2 j hj).trans (if_neg (by omega)).symm⟩
theorem SHC.mark {I' : HI} {S Z C : VV} (h : SHC I S Z C) {s p : Nat} (hs : s < 4) (hp : p < 24) {v : Int32} (hI : ∀ q, q ≠ 85 + 2 * s → I' q = I q) (h0 : ∀ j, I' (85 + 2 * s) j = if j = p then v else I (85 + 2 * s) j) : SHC I' S Z (va_up C (24 * s + p) v) := by
  intro t ht
  rw [hI (84 + 2 * t) (by omega)]
  refine ⟨(h t ht).1, (h t ht).2.1, fun j hj => ?_⟩
  by_cases e : t = s
  · subst e
    rw [h0]
    by_cases e2 : j = p
    · subst e2; rw [if_pos rfl, va_up_self]
    · rw [if_neg e2, va_up_ne _ _ (by omega)]; exact (h t ht).2.2 j hj
  · rw [hI (85 + 2 * t) (by omega), va_up_ne _ _ (by omega)]; exact (h t ht).2.2 j hj

set_option maxRecDepth 20000 in
theorem sX9_sheet (hs : SK R N) {X : X3} (hO : SO X.1 X.2.1) (hS : SHC I X.1 X.2.1 X.2.2) {a b c : Int32} (hq : ∀ I' : HI, (∀ q, (q < 84 ∨ 92 ≤ q) → I' q = I q) → SHC I' (oSheet X a b c).1.1 (oSheet X a b c).1.2.1 (oSheet X a b c).1.2.2 → Q (vI (oSheet X a b c).2) I' L R N n) : CA sc 2 0 0 mX9_sheet [vR 9 0, vI a, vI b, vI c] I L R N n Q := by
  refine ca_in (al := [_, _, _, _, _]) rfl ?_
  refine w_aload_n dX9_sheet_0 rfl ?_
  refine w_iload_n dX9_sheet_1 rfl ?_
  by_cases ha : 0 ≤ a ∧ a ≤ 3
  · obtain ⟨s, hs4, rfl⟩ := in_of (m := 3) (by decide) ha
    have hsh := hs.sheets (show s < 4 by omega)
    have hcl : (nI s).toNatClampNeg = s := nI_clamp (by omega)
    obtain ⟨k0, k1, k2⟩ := hS s (by omega)
    obtain ⟨o1, z, -, hz24, hz⟩ := hO s (by omega)
    refine c_V (t := 9) (as := [_]) (d' := 1) dX9_sheet_2 mlX9_262 moX9_sheetAt mvX9_sheetAt ⟨rfl, rfl⟩ rfl rfl rfl rfl rfl (by decide) (sX9_sheetAtS hs (show s < 4 by omega) ?_)
    refine w_astore (al' := [_, _, _, _, _]) dX9_sheet_5 rfl rfl rfl ?_
    refine w_aload dX9_sheet_7 rfl ?_
    refine w_ifnullR dX9_sheet_9 ?_
    refine w_iload_n dX9_sheet_12 rfl ?_
    refine w_iconst dX9_sheet_13 ic_m1 ?_
    refine w_iconst dX9_sheet_14 ic_1 ?_
    refine c_S (as := [_, _, _]) (d' := 0) dX9_sheet_15 (Or.inl mlX9_86) moX9_within msX9_within rfl rfl rfl rfl rfl (by decide) (sX9_within ?_)
    refine w_ifB_eq (tgt := 32) dX9_sheet_18 (by decide) (fun c18 => ?_) (fun c18 => ?_)
    · refine w_ldc dX9_sheet_32 kcX9_77 ?_
      refine w_ireturn dX9_sheet_34 rfl rfl ?_
      have e : oSheet X (nI s) b c = (X, -1000000001) := cif_f (fun z => c18 z.2.1)
      rw [e] at hq
      exact hq I (fun _ _ => rfl) hS
    · refine w_iload_n dX9_sheet_21 rfl ?_
      refine w_iconst dX9_sheet_22 ic_m1 ?_
      refine w_icmp_eq (tgt := 35) dX9_sheet_23 (by decide) (fun c23 => ?_) (fun c23 => ?_)
      · have hbc : b = -1 ∨ c ≤ 24 := Or.inl c23
        refine w_iload_n dX9_sheet_35 rfl ?_
        refine w_iconst dX9_sheet_36 ic_m1 ?_
        refine w_icmp_eq (tgt := 48) dX9_sheet_37 (by decide) (fun c37 => ?_) (fun c37 => ?_)
        · have hsz : b = -1 ∨ 0 ≤ c := Or.inl c37
          have e : oSheet X (nI s) b c = ((va_up X.1 s b, va_up X.2.1 s (shN b c), clrC X.2.2 s), shN b c) := by unfold oSheet; rw [cif_t ⟨ha, c18, hbc⟩, cif_t hsz, hcl]
          rw [e] at hq
          refine w_aload dX9_sheet_48 rfl ?_
          refine w_iload_n dX9_sheet_50 rfl ?_
          refine w_iload_n dX9_sheet_51 rfl ?_
          refine w_iconst dX9_sheet_52 ic_m1 ?_
          refine w_icmp_ne (tgt := 60) dX9_sheet_53 (by decide) (fun c53 => ?_) (fun c53 => ?_)
          · refine w_iload_n dX9_sheet_60 rfl ?_
            refine w_top (y := shN b c) ((if_neg c53).symm) ?_
            refine c_Vv (t := 4) (as := [_, _]) (d' := 1) dX9_sheet_61 mlX9_267 moX4_renew mvX4_renew ⟨rfl, rfl⟩ rfl rfl rfl rfl rfl (by decide) (sX4_renew hsh.2.1 hsh.2.2 (by omega) (fun I2 hI2 h20 h21 h22 => ?_))
            refine w_aload dX9_sheet_64 rfl ?_
            refine w_getI dX9_sheet_66 flX9_271 rfl ?_
            refine w_top (y := shN b c) (h21) ?_
            refine w_ireturn dX9_sheet_69 rfl rfl ?_
            exact hq I2 (fun q h => hI2 q (by omega) (by omega)) (hS.sheet (by omega) hI2 h20 h21 h22)
          · refine w_iconst dX9_sheet_56 ic_0 ?_
            refine w_top (y := shN b c) ((if_pos c53).symm) ?_
            refine w_goto (tgt := 61) dX9_sheet_57 (by decide) ?_
            refine c_Vv (t := 4) (as := [_, _]) (d' := 1) dX9_sheet_61 mlX9_267 moX4_renew mvX4_renew ⟨rfl, rfl⟩ rfl rfl rfl rfl rfl (by decide) (sX4_renew hsh.2.1 hsh.2.2 (by omega) (fun I2 hI2 h20 h21 h22 => ?_))
            refine w_aload dX9_sheet_64 rfl ?_
            refine w_getI dX9_sheet_66 flX9_271 rfl ?_
            refine w_top (y := shN b c) (h21) ?_
            refine w_ireturn dX9_sheet_69 rfl rfl ?_
            exact hq I2 (fun q h => hI2 q (by omega) (by omega)) (hS.sheet (by omega) hI2 h20 h21 h22)
        · exact absurd c23 c37
      · refine w_iload_n dX9_sheet_26 rfl ?_
        refine w_bipush dX9_sheet_27 bp_24 ?_
        refine w_icmp_le (tgt := 35) dX9_sheet_29 (by decide) (fun c29 => ?_) (fun c29 => ?_)
        · have hbc : b = -1 ∨ c ≤ 24 := Or.inr c29
          refine w_iload_n dX9_sheet_35 rfl ?_
          refine w_iconst dX9_sheet_36 ic_m1 ?_
          refine w_icmp_eq (tgt := 48) dX9_sheet_37 (by decide) (fun c37 => ?_) (fun c37 => ?_)
          · exact absurd c37 c23
          · refine w_iload_n dX9_sheet_40 rfl ?_
            refine w_if_ge (tgt := 48) dX9_sheet_41 (by decide) (fun c41 => ?_) (fun c41 => ?_)
            · have hsz : b = -1 ∨ 0 ≤ c := Or.inr c41
              have e : oSheet X (nI s) b c = ((va_up X.1 s b, va_up X.2.1 s (shN b c), clrC X.2.2 s), shN b c) := by unfold oSheet; rw [cif_t ⟨ha, c18, hbc⟩, cif_t hsz, hcl]
              rw [e] at hq
              refine w_aload dX9_sheet_48 rfl ?_
              refine w_iload_n dX9_sheet_50 rfl ?_
              refine w_iload_n dX9_sheet_51 rfl ?_
              refine w_iconst dX9_sheet_52 ic_m1 ?_
              refine w_icmp_ne (tgt := 60) dX9_sheet_53 (by decide) (fun c53 => ?_) (fun c53 => ?_)
              · refine w_iload_n dX9_sheet_60 rfl ?_
                refine w_top (y := shN b c) ((if_neg c53).symm) ?_
                refine c_Vv (t := 4) (as := [_, _]) (d' := 1) dX9_sheet_61 mlX9_267 moX4_renew mvX4_renew ⟨rfl, rfl⟩ rfl rfl rfl rfl rfl (by decide) (sX4_renew hsh.2.1 hsh.2.2 (by omega) (fun I2 hI2 h20 h21 h22 => ?_))
                refine w_aload dX9_sheet_64 rfl ?_
                refine w_getI dX9_sheet_66 flX9_271 rfl ?_
                refine w_top (y := shN b c) (h21) ?_
                refine w_ireturn dX9_sheet_69 rfl rfl ?_
                exact hq I2 (fun q h => hI2 q (by omega) (by omega)) (hS.sheet (by omega) hI2 h20 h21 h22)
              · refine w_iconst dX9_sheet_56 ic_0 ?_
                refine w_top (y := shN b c) ((if_pos c53).symm) ?_
                refine w_goto (tgt := 61) dX9_sheet_57 (by decide) ?_
                refine c_Vv (t := 4) (as := [_, _]) (d' := 1) dX9_sheet_61 mlX9_267 moX4_renew mvX4_renew ⟨rfl, rfl⟩ rfl rfl rfl rfl rfl (by decide) (sX4_renew hsh.2.1 hsh.2.2 (by omega) (fun I2 hI2 h20 h21 h22 => ?_))
                refine w_aload dX9_sheet_64 rfl ?_
                refine w_getI dX9_sheet_66 flX9_271 rfl ?_
                refine w_top (y := shN b c) (h21) ?_
                refine w_ireturn dX9_sheet_69 rfl rfl ?_
                exact hq I2 (fun q h => hI2 q (by omega) (by omega)) (hS.sheet (by omega) hI2 h20 h21 h22)
            · refine w_ldcw dX9_sheet_44 kcX9_266 ?_
              refine w_ireturn dX9_sheet_47 rfl rfl ?_
              have e : oSheet X (nI s) b c = (X, -1000000014) := (cif_t ⟨ha, c18, hbc⟩).trans (cif_f (fun z => z.elim c37 c41))
              rw [e] at hq
              exact hq I (fun _ _ => rfl) hS
        · refine w_ldc dX9_sheet_32 kcX9_77 ?_
          refine w_ireturn dX9_sheet_34 rfl rfl ?_
          have e : oSheet X (nI s) b c = (X, -1000000001) := cif_f (fun z => z.2.2.elim c23 c29)
          rw [e] at hq
          exact hq I (fun _ _ => rfl) hS
  · refine c_V (t := 9) (as := [_]) (d' := 1) dX9_sheet_2 mlX9_262 moX9_sheetAt mvX9_sheetAt ⟨rfl, rfl⟩ rfl rfl rfl rfl rfl (by decide) (sX9_sheetAtN hs ha ?_)
    refine w_astoreN (al' := [_, _, _, _, _]) dX9_sheet_5 rfl rfl rfl ?_
    refine w_aloadN dX9_sheet_7 rfl ?_
    refine w_ifnullN (tgt := 32) dX9_sheet_9 (by decide) ?_
    refine w_ldc dX9_sheet_32 kcX9_77 ?_
    refine w_ireturn dX9_sheet_34 rfl rfl ?_
    have e : oSheet X a b c = (X, -1000000001) := cif_f (fun z => ha z.1)
    rw [e] at hq
    exact hq I (fun _ _ => rfl) hS

set_option maxRecDepth 20000 in
theorem lX10_sheet (hs : SK R N) {X : X3} {s : Nat} (hs4 : s < 4) {b c : Int32} {I0 : HI} (hC0 : I0 139 = X.2.2) (hk : ∀ I' : HI, (∀ q, q ≠ 139 → I' q = I0 q) → I' 139 = clrC X.2.2 s → Q (vI (I0 138 s)) I' L R N n) : WP sc 2 0 0 mX10_sheet 66 [vR 10 117, vI (nI s), vI b, vI c, vI (nI 0)] [] I0 L R N n Q := by
  have lp : ∀ (k j : Nat) (I1 : HI), j + k = 24 → (∀ q, q ≠ 139 → I1 q = I0 q) → I1 139 = (fun i => if 24 * s ≤ i ∧ i < 24 * s + j then 0 else X.2.2 i) → WP sc 2 0 0 mX10_sheet 66 [vR 10 117, vI (nI s), vI b, vI c, vI (nI j)] [] I1 L R N n Q := by
    intro k
    induction k with
    | zero =>
      intro j I1 hj hI1 hC1
      refine w_iload dX10_sheet_66 rfl ?_
      refine w_bipush dX10_sheet_68 bp_24 ?_
      refine w_icmp_ge (tgt := 92) dX10_sheet_70 (by decide) (fun c70 => ?_) (fun c70 => ?_)
      · obtain rfl : j = 24 := by omega
        refine w_aload_n dX10_sheet_92 rfl ?_
        refine w_getR dX10_sheet_93 flX10_72 rfl (hs.r (a := 117) (j := 35) (b := 138) 136 rfl) ?_
        refine w_iload_n dX10_sheet_96 rfl ?_
        refine w_iald dX10_sheet_97 rfl (hs.n (a := 138) (z := 4) 92 rfl) (by omega) ?_
        refine w_ireturn dX10_sheet_98 rfl rfl ?_
        rw [hI1 138 (by decide)]
        exact hk I1 hI1 hC1
      · exact absurd (nI_le (a := 24) (by omega) (by omega)) c70
    | succ k ih =>
      intro j I1 hj hI1 hC1
      refine w_iload dX10_sheet_66 rfl ?_
      refine w_bipush dX10_sheet_68 bp_24 ?_
      refine w_icmp_ge (tgt := 92) dX10_sheet_70 (by decide) (fun c70 => ?_) (fun c70 => ?_)
      · exact absurd ((nI_leI (a := 24) (by omega) (by omega)).mp c70) (by omega)
      · refine w_aload_n dX10_sheet_73 rfl ?_
        refine w_getR dX10_sheet_74 flX10_75 rfl (hs.r (a := 117) (j := 36) (b := 139) 137 rfl) ?_
        refine w_bipush dX10_sheet_77 bp_24 ?_
        refine w_iload_n dX10_sheet_79 rfl ?_
        refine w_imul dX10_sheet_80 ?_
        refine w_iload dX10_sheet_81 rfl ?_
        refine w_iadd dX10_sheet_83 ?_
        refine w_top (y := nI (24 * s + j)) (by show nI 24 * nI s + nI j = _; rw [nI_mul, nI_add]) ?_
        refine w_iconst dX10_sheet_84 ic_0 ?_
        refine w_iast dX10_sheet_85 rfl (hs.n (a := 139) (z := 96) 93 rfl) (by omega) ?_
        refine w_iinc (al' := [_, _, _, _, _]) dX10_sheet_86 rfl rfl ic_1 rfl ?_
        refine w_goto (tgt := 66) dX10_sheet_89 (by decide) ?_
        simp only [nI_1]
        refine ih (j + 1) _ (by omega) (fun q h => (va_up_ne _ _ h).trans (hI1 q h)) ?_
        rw [va_up_self, hC1]
        funext i
        by_cases e : i = 24 * s + j
        · subst e; rw [va_up_self, if_pos (by omega)]
        · rw [va_up_ne _ _ e]
          by_cases e2 : 24 * s ≤ i ∧ i < 24 * s + j
          · rw [if_pos e2, if_pos (by omega)]
          · rw [if_neg e2, if_neg (by omega)]
  exact lp 24 0 I0 rfl (fun _ _ => rfl) (by rw [hC0]; funext i; rw [if_neg (by omega)])

set_option maxRecDepth 20000 in
theorem sX10_sheet (hs : SK R N) {X : X3} (hO : SO X.1 X.2.1) (hS : I 137 = X.1) (hZ : I 138 = X.2.1) (hCe : I 139 = X.2.2) {a b c : Int32} (hq : ∀ I' : HI, (∀ q, q ≠ 137 → q ≠ 138 → q ≠ 139 → I' q = I q) → I' 137 = (oSheet X a b c).1.1 → I' 138 = (oSheet X a b c).1.2.1 → I' 139 = (oSheet X a b c).1.2.2 → Q (vI (oSheet X a b c).2) I' L R N n) : CA sc 2 0 0 mX10_sheet [vR 10 117, vI a, vI b, vI c] I L R N n Q := by
  refine ca_in (al := [_, _, _, _, _]) rfl ?_
  refine w_iload_n dX10_sheet_0 rfl ?_
  refine c_S (as := [_]) (d' := 1) dX10_sheet_1 (Or.inl mlX10_275) moX10_isSheet msX10_isSheet rfl rfl rfl rfl rfl (by decide) (sX10_isSheet ?_)
  refine w_ifB_eq (tgt := 26) dX10_sheet_4 (by decide) (fun c4 => ?_) (fun c4 => ?_)
  · refine w_ldc dX10_sheet_26 kcX10_101 ?_
    refine w_ireturn dX10_sheet_28 rfl rfl ?_
    have e : oSheet X a b c = (X, -1000000001) := cif_f (fun z => c4 z.1)
    rw [e] at hq
    exact hq I (fun _ _ _ _ => rfl) hS hZ hCe
  · refine w_iload_n dX10_sheet_7 rfl ?_
    refine w_iconst dX10_sheet_8 ic_m1 ?_
    refine w_iconst dX10_sheet_9 ic_1 ?_
    refine c_S (as := [_, _, _]) (d' := 0) dX10_sheet_10 (Or.inl mlX10_97) moX10_in msX10_in rfl rfl rfl rfl rfl (by decide) (sX10_in ?_)
    refine w_ifB_eq (tgt := 26) dX10_sheet_13 (by decide) (fun c13 => ?_) (fun c13 => ?_)
    · refine w_ldc dX10_sheet_26 kcX10_101 ?_
      refine w_ireturn dX10_sheet_28 rfl rfl ?_
      have e : oSheet X a b c = (X, -1000000001) := cif_f (fun z => c13 z.2.1)
      rw [e] at hq
      exact hq I (fun _ _ _ _ => rfl) hS hZ hCe
    · have hbm := m1_lt (b_of c13)
      refine w_iload_n dX10_sheet_16 rfl ?_
      refine w_if_lt (tgt := 29) dX10_sheet_17 (by decide) (fun c17 => ?_) (fun c17 => ?_)
      · have hbc : b = -1 ∨ c ≤ 24 := Or.inl (hbm.mpr c17)
        refine w_iload_n dX10_sheet_29 rfl ?_
        refine w_if_lt (tgt := 41) dX10_sheet_30 (by decide) (fun c30 => ?_) (fun c30 => ?_)
        · have hsz : b = -1 ∨ 0 ≤ c := Or.inl (hbm.mpr c30)
          have hca := c4
          obtain ⟨s, hs4, rfl⟩ := in_of (m := 3) (by decide) c4
          have hcl : (nI s).toNatClampNeg = s := nI_clamp (by omega)
          have e : oSheet X (nI s) b c = ((va_up X.1 s b, va_up X.2.1 s (shN b c), clrC X.2.2 s), shN b c) := by unfold oSheet; rw [cif_t ⟨hca, c13, hbc⟩, cif_t hsz, hcl]
          rw [e] at hq
          refine w_aload_n dX10_sheet_41 rfl ?_
          refine w_getR dX10_sheet_42 flX10_69 rfl (hs.r (a := 117) (j := 34) (b := 137) 135 rfl) ?_
          refine w_iload_n dX10_sheet_45 rfl ?_
          refine w_iload_n dX10_sheet_46 rfl ?_
          refine w_iast dX10_sheet_47 rfl (hs.n (a := 137) (z := 4) 91 rfl) (by omega) ?_
          refine w_aload_n dX10_sheet_48 rfl ?_
          refine w_getR dX10_sheet_49 flX10_72 rfl (hs.r (a := 117) (j := 35) (b := 138) 136 rfl) ?_
          refine w_iload_n dX10_sheet_52 rfl ?_
          refine w_iload_n dX10_sheet_53 rfl ?_
          refine w_if_ge (tgt := 61) dX10_sheet_54 (by decide) (fun c54 => ?_) (fun c54 => ?_)
          · refine w_iload_n dX10_sheet_61 rfl ?_
            refine w_top (y := shN b c) ((if_neg (fun q => Int32.not_lt.mpr c54 (hbm.mp q))).symm) ?_
            refine w_iast dX10_sheet_62 rfl (hs.n (a := 138) (z := 4) 92 rfl) (by omega) ?_
            refine w_iconst dX10_sheet_63 ic_0 ?_
            refine w_istore (al' := [_, _, _, _, _]) dX10_sheet_64 rfl rfl rfl ?_
            refine lX10_sheet hs (by omega) (by rw [va_up_ne _ _ (by decide), va_up_ne _ _ (by decide)]; exact hCe) (fun I3 hI3 hC3 => ?_)
            refine q_e (by rw [va_up_self, va_up_self]) (hq I3 (fun q a1 a2 a3 => by rw [hI3 q a3, va_up_ne _ _ a2, va_up_ne _ _ a1]) ?_ ?_ hC3)
            · rw [hI3 137 (by decide), va_up_ne _ _ (by decide), va_up_self, hS]
            · rw [hI3 138 (by decide), va_up_self, va_up_ne _ _ (by decide), hZ]
          · refine w_iconst dX10_sheet_57 ic_0 ?_
            refine w_top (y := shN b c) ((if_pos (hbm.mpr (Int32.not_le.mp c54))).symm) ?_
            refine w_goto (tgt := 62) dX10_sheet_58 (by decide) ?_
            refine w_iast dX10_sheet_62 rfl (hs.n (a := 138) (z := 4) 92 rfl) (by omega) ?_
            refine w_iconst dX10_sheet_63 ic_0 ?_
            refine w_istore (al' := [_, _, _, _, _]) dX10_sheet_64 rfl rfl rfl ?_
            refine lX10_sheet hs (by omega) (by rw [va_up_ne _ _ (by decide), va_up_ne _ _ (by decide)]; exact hCe) (fun I3 hI3 hC3 => ?_)
            refine q_e (by rw [va_up_self, va_up_self]) (hq I3 (fun q a1 a2 a3 => by rw [hI3 q a3, va_up_ne _ _ a2, va_up_ne _ _ a1]) ?_ ?_ hC3)
            · rw [hI3 137 (by decide), va_up_ne _ _ (by decide), va_up_self, hS]
            · rw [hI3 138 (by decide), va_up_self, va_up_ne _ _ (by decide), hZ]
        · exact absurd c17 c30
      · refine w_iload_n dX10_sheet_20 rfl ?_
        refine w_bipush dX10_sheet_21 bp_24 ?_
        refine w_icmp_le (tgt := 29) dX10_sheet_23 (by decide) (fun c23 => ?_) (fun c23 => ?_)
        · have hbc : b = -1 ∨ c ≤ 24 := Or.inr c23
          refine w_iload_n dX10_sheet_29 rfl ?_
          refine w_if_lt (tgt := 41) dX10_sheet_30 (by decide) (fun c30 => ?_) (fun c30 => ?_)
          · exact absurd c30 c17
          · refine w_iload_n dX10_sheet_33 rfl ?_
            refine w_if_ge (tgt := 41) dX10_sheet_34 (by decide) (fun c34 => ?_) (fun c34 => ?_)
            · have hsz : b = -1 ∨ 0 ≤ c := Or.inr c34
              have hca := c4
              obtain ⟨s, hs4, rfl⟩ := in_of (m := 3) (by decide) c4
              have hcl : (nI s).toNatClampNeg = s := nI_clamp (by omega)
              have e : oSheet X (nI s) b c = ((va_up X.1 s b, va_up X.2.1 s (shN b c), clrC X.2.2 s), shN b c) := by unfold oSheet; rw [cif_t ⟨hca, c13, hbc⟩, cif_t hsz, hcl]
              rw [e] at hq
              refine w_aload_n dX10_sheet_41 rfl ?_
              refine w_getR dX10_sheet_42 flX10_69 rfl (hs.r (a := 117) (j := 34) (b := 137) 135 rfl) ?_
              refine w_iload_n dX10_sheet_45 rfl ?_
              refine w_iload_n dX10_sheet_46 rfl ?_
              refine w_iast dX10_sheet_47 rfl (hs.n (a := 137) (z := 4) 91 rfl) (by omega) ?_
              refine w_aload_n dX10_sheet_48 rfl ?_
              refine w_getR dX10_sheet_49 flX10_72 rfl (hs.r (a := 117) (j := 35) (b := 138) 136 rfl) ?_
              refine w_iload_n dX10_sheet_52 rfl ?_
              refine w_iload_n dX10_sheet_53 rfl ?_
              refine w_if_ge (tgt := 61) dX10_sheet_54 (by decide) (fun c54 => ?_) (fun c54 => ?_)
              · refine w_iload_n dX10_sheet_61 rfl ?_
                refine w_top (y := shN b c) ((if_neg (fun q => Int32.not_lt.mpr c54 (hbm.mp q))).symm) ?_
                refine w_iast dX10_sheet_62 rfl (hs.n (a := 138) (z := 4) 92 rfl) (by omega) ?_
                refine w_iconst dX10_sheet_63 ic_0 ?_
                refine w_istore (al' := [_, _, _, _, _]) dX10_sheet_64 rfl rfl rfl ?_
                refine lX10_sheet hs (by omega) (by rw [va_up_ne _ _ (by decide), va_up_ne _ _ (by decide)]; exact hCe) (fun I3 hI3 hC3 => ?_)
                refine q_e (by rw [va_up_self, va_up_self]) (hq I3 (fun q a1 a2 a3 => by rw [hI3 q a3, va_up_ne _ _ a2, va_up_ne _ _ a1]) ?_ ?_ hC3)
                · rw [hI3 137 (by decide), va_up_ne _ _ (by decide), va_up_self, hS]
                · rw [hI3 138 (by decide), va_up_self, va_up_ne _ _ (by decide), hZ]
              · refine w_iconst dX10_sheet_57 ic_0 ?_
                refine w_top (y := shN b c) ((if_pos (hbm.mpr (Int32.not_le.mp c54))).symm) ?_
                refine w_goto (tgt := 62) dX10_sheet_58 (by decide) ?_
                refine w_iast dX10_sheet_62 rfl (hs.n (a := 138) (z := 4) 92 rfl) (by omega) ?_
                refine w_iconst dX10_sheet_63 ic_0 ?_
                refine w_istore (al' := [_, _, _, _, _]) dX10_sheet_64 rfl rfl rfl ?_
                refine lX10_sheet hs (by omega) (by rw [va_up_ne _ _ (by decide), va_up_ne _ _ (by decide)]; exact hCe) (fun I3 hI3 hC3 => ?_)
                refine q_e (by rw [va_up_self, va_up_self]) (hq I3 (fun q a1 a2 a3 => by rw [hI3 q a3, va_up_ne _ _ a2, va_up_ne _ _ a1]) ?_ ?_ hC3)
                · rw [hI3 137 (by decide), va_up_ne _ _ (by decide), va_up_self, hS]
                · rw [hI3 138 (by decide), va_up_self, va_up_ne _ _ (by decide), hZ]
            · refine w_ldcw dX10_sheet_37 kcX10_278 ?_
              refine w_ireturn dX10_sheet_40 rfl rfl ?_
              have e : oSheet X a b c = (X, -1000000014) := (cif_t ⟨c4, c13, hbc⟩).trans (cif_f (fun z => z.elim (fun q => c30 (hbm.mp q)) c34))
              rw [e] at hq
              exact hq I (fun _ _ _ _ => rfl) hS hZ hCe
        · refine w_ldc dX10_sheet_26 kcX10_101 ?_
          refine w_ireturn dX10_sheet_28 rfl rfl ?_
          have e : oSheet X a b c = (X, -1000000001) := cif_f (fun z => z.2.2.elim (fun q => c17 (hbm.mp q)) c23)
          rw [e] at hq
          exact hq I (fun _ _ _ _ => rfl) hS hZ hCe

set_option maxRecDepth 20000 in
theorem sX9_mark (hs : SK R N) {X : X3} (hO : SO X.1 X.2.1) (hS : SHC I X.1 X.2.1 X.2.2) {a p v : Int32} (hq : ∀ I' : HI, (∀ q, (q < 84 ∨ 92 ≤ q) → I' q = I q) → SHC I' X.1 X.2.1 (oMark X a p v).1 → Q (vI (oMark X a p v).2) I' L R N n) : CA sc 2 0 0 mX9_mark [vR 9 0, vI a, vI p, vI v] I L R N n Q := by
  refine ca_in (al := [_, _, _, _, _]) rfl ?_
  refine w_aload_n dX9_mark_0 rfl ?_
  refine w_iload_n dX9_mark_1 rfl ?_
  by_cases ha : 0 ≤ a ∧ a ≤ 3
  · obtain ⟨s, hs4, rfl⟩ := in_of (m := 3) (by decide) ha
    have hsh := hs.sheets (show s < 4 by omega)
    have hcl : (nI s).toNatClampNeg = s := nI_clamp (by omega)
    obtain ⟨k0, k1, k2⟩ := hS s (by omega)
    obtain ⟨o1, z, -, hz24, hz⟩ := hO s (by omega)
    refine c_V (t := 9) (as := [_]) (d' := 1) dX9_mark_2 mlX9_262 moX9_sheetAt mvX9_sheetAt ⟨rfl, rfl⟩ rfl rfl rfl rfl rfl (by decide) (sX9_sheetAtS hs (show s < 4 by omega) ?_)
    refine w_astore (al' := [_, _, _, _, _]) dX9_mark_5 rfl rfl rfl ?_
    refine w_aload dX9_mark_7 rfl ?_
    refine w_ifnonnullR (tgt := 15) dX9_mark_9 (by decide) ?_
    refine w_aload dX9_mark_15 rfl ?_
    refine w_getI dX9_mark_17 flX9_272 rfl ?_
    refine w_top (y := X.1 s) (k0) ?_
    refine w_iconst dX9_mark_20 ic_m1 ?_
    refine w_icmp_ne (tgt := 28) dX9_mark_21 (by decide) (fun c21 => ?_) (fun c21 => ?_)
    · refine w_aload dX9_mark_28 rfl ?_
      refine w_iload_n dX9_mark_30 rfl ?_
      refine c_V (t := 4) (as := [_]) (d' := 1) dX9_mark_31 mlX9_276 moX4_has mvX4_has ⟨rfl, rfl⟩ rfl rfl rfl rfl rfl (by decide) (sX4_has (k1.trans hz) hz24 ?_)
      refine w_ifB_ne (tgt := 41) dX9_mark_34 (by decide) (fun c34 => ?_) (fun c34 => ?_)
      · have hP := (show 0 ≤ p ∧ p ≤ X.2.1 s - 1 by rw [hz]; exact c34)
        obtain ⟨j, hj, rfl⟩ := pr_of (by omega) c34
        have hcj : (nI j).toNatClampNeg = j := nI_clamp (by omega)
        refine w_aload dX9_mark_41 rfl ?_
        refine w_getI dX9_mark_43 flX9_272 rfl ?_
        refine w_top (y := X.1 s) (k0) ?_
        refine w_if_ne (tgt := 58) dX9_mark_46 (by decide) (fun c46 => ?_) (fun c46 => ?_)
        · have hk9 : ¬ (X.1 s = 0 ∧ v = -1000000005) := fun q => c46 q.1
          refine w_aload dX9_mark_58 rfl ?_
          refine w_getI dX9_mark_60 flX9_272 rfl ?_
          refine w_top (y := X.1 s) (k0) ?_
          refine w_iconst dX9_mark_63 ic_1 ?_
          refine w_icmp_ne (tgt := 89) dX9_mark_64 (by decide) (fun c64 => ?_) (fun c64 => ?_)
          · have hf9 : ¬ (X.1 s = 1 ∧ v ≠ -1000000005 ∧ ¬ (-99999 ≤ v ∧ v ≤ 99999)) := fun q => c64 q.1
            have e : oMark X (nI s) (nI j) v = (va_up X.2.2 (24 * s + j) (shv (X.1 s) v), 1) := by
              unfold oMark
              rw [hcl, hcj]
              exact ((cif_t ha)).trans (((cif_f c21)).trans (((cif_t hP)).trans (((cif_f hk9)).trans ((cif_f hf9)))))
            rw [e] at hq
            refine w_aload dX9_mark_89 rfl ?_
            refine w_getR dX9_mark_91 flX9_282 rfl hsh.2.1 ?_
            refine w_iload_n dX9_mark_94 rfl ?_
            refine w_aload dX9_mark_95 rfl ?_
            refine w_getI dX9_mark_97 flX9_272 rfl ?_
            refine w_top (y := X.1 s) (k0) ?_
            refine w_if_ne (tgt := 108) dX9_mark_100 (by decide) (fun c100 => ?_) (fun c100 => ?_)
            · refine w_iload_n dX9_mark_108 rfl ?_
              refine w_top (y := shv (X.1 s) v) ((if_neg c100).symm) ?_
              refine w_iast dX9_mark_109 rfl hsh.2.2 (by omega) ?_
              refine w_iconst dX9_mark_110 ic_1 ?_
              refine w_ireturn dX9_mark_111 rfl rfl ?_
              refine hq _ (fun q h => va_up_ne _ _ (by omega)) (hS.mark (by omega) (by omega) (fun q h => va_up_ne _ _ h) (fun i => ?_))
              rw [va_up_self]
              rfl
            · refine w_iload_n dX9_mark_103 rfl ?_
              refine w_i2s dX9_mark_104 ?_
              refine w_top (y := shv (X.1 s) v) ((if_pos c100).symm) ?_
              refine w_goto (tgt := 109) dX9_mark_105 (by decide) ?_
              refine w_iast dX9_mark_109 rfl hsh.2.2 (by omega) ?_
              refine w_iconst dX9_mark_110 ic_1 ?_
              refine w_ireturn dX9_mark_111 rfl rfl ?_
              refine hq _ (fun q h => va_up_ne _ _ (by omega)) (hS.mark (by omega) (by omega) (fun q h => va_up_ne _ _ h) (fun i => ?_))
              rw [va_up_self]
              rfl
          · refine w_iload_n dX9_mark_67 rfl ?_
            refine w_ldc dX9_mark_68 kcX9_141 ?_
            refine w_icmp_eq (tgt := 89) dX9_mark_70 (by decide) (fun c70 => ?_) (fun c70 => ?_)
            · have hf9 : ¬ (X.1 s = 1 ∧ v ≠ -1000000005 ∧ ¬ (-99999 ≤ v ∧ v ≤ 99999)) := fun q => q.2.1 c70
              have e : oMark X (nI s) (nI j) v = (va_up X.2.2 (24 * s + j) (shv (X.1 s) v), 1) := by
                unfold oMark
                rw [hcl, hcj]
                exact ((cif_t ha)).trans (((cif_f c21)).trans (((cif_t hP)).trans (((cif_f hk9)).trans ((cif_f hf9)))))
              rw [e] at hq
              refine w_aload dX9_mark_89 rfl ?_
              refine w_getR dX9_mark_91 flX9_282 rfl hsh.2.1 ?_
              refine w_iload_n dX9_mark_94 rfl ?_
              refine w_aload dX9_mark_95 rfl ?_
              refine w_getI dX9_mark_97 flX9_272 rfl ?_
              refine w_top (y := X.1 s) (k0) ?_
              refine w_if_ne (tgt := 108) dX9_mark_100 (by decide) (fun c100 => ?_) (fun c100 => ?_)
              · refine w_iload_n dX9_mark_108 rfl ?_
                refine w_top (y := shv (X.1 s) v) ((if_neg c100).symm) ?_
                refine w_iast dX9_mark_109 rfl hsh.2.2 (by omega) ?_
                refine w_iconst dX9_mark_110 ic_1 ?_
                refine w_ireturn dX9_mark_111 rfl rfl ?_
                refine hq _ (fun q h => va_up_ne _ _ (by omega)) (hS.mark (by omega) (by omega) (fun q h => va_up_ne _ _ h) (fun i => ?_))
                rw [va_up_self]
                rfl
              · refine w_iload_n dX9_mark_103 rfl ?_
                refine w_i2s dX9_mark_104 ?_
                refine w_top (y := shv (X.1 s) v) ((if_pos c100).symm) ?_
                refine w_goto (tgt := 109) dX9_mark_105 (by decide) ?_
                refine w_iast dX9_mark_109 rfl hsh.2.2 (by omega) ?_
                refine w_iconst dX9_mark_110 ic_1 ?_
                refine w_ireturn dX9_mark_111 rfl rfl ?_
                refine hq _ (fun q h => va_up_ne _ _ (by omega)) (hS.mark (by omega) (by omega) (fun q h => va_up_ne _ _ h) (fun i => ?_))
                rw [va_up_self]
                rfl
            · refine w_iload_n dX9_mark_73 rfl ?_
              refine w_ldcw dX9_mark_74 kcX9_280 ?_
              refine w_ldcw dX9_mark_77 kcX9_281 ?_
              refine c_S (as := [_, _, _]) (d' := 0) dX9_mark_80 (Or.inl mlX9_86) moX9_within msX9_within rfl rfl rfl rfl rfl (by decide) (sX9_within ?_)
              refine w_ifB_ne (tgt := 89) dX9_mark_83 (by decide) (fun c83 => ?_) (fun c83 => ?_)
              · have hf9 : ¬ (X.1 s = 1 ∧ v ≠ -1000000005 ∧ ¬ (-99999 ≤ v ∧ v ≤ 99999)) := fun q => q.2.2 c83
                have e : oMark X (nI s) (nI j) v = (va_up X.2.2 (24 * s + j) (shv (X.1 s) v), 1) := by
                  unfold oMark
                  rw [hcl, hcj]
                  exact ((cif_t ha)).trans (((cif_f c21)).trans (((cif_t hP)).trans (((cif_f hk9)).trans ((cif_f hf9)))))
                rw [e] at hq
                refine w_aload dX9_mark_89 rfl ?_
                refine w_getR dX9_mark_91 flX9_282 rfl hsh.2.1 ?_
                refine w_iload_n dX9_mark_94 rfl ?_
                refine w_aload dX9_mark_95 rfl ?_
                refine w_getI dX9_mark_97 flX9_272 rfl ?_
                refine w_top (y := X.1 s) (k0) ?_
                refine w_if_ne (tgt := 108) dX9_mark_100 (by decide) (fun c100 => ?_) (fun c100 => ?_)
                · refine w_iload_n dX9_mark_108 rfl ?_
                  refine w_top (y := shv (X.1 s) v) ((if_neg c100).symm) ?_
                  refine w_iast dX9_mark_109 rfl hsh.2.2 (by omega) ?_
                  refine w_iconst dX9_mark_110 ic_1 ?_
                  refine w_ireturn dX9_mark_111 rfl rfl ?_
                  refine hq _ (fun q h => va_up_ne _ _ (by omega)) (hS.mark (by omega) (by omega) (fun q h => va_up_ne _ _ h) (fun i => ?_))
                  rw [va_up_self]
                  rfl
                · refine w_iload_n dX9_mark_103 rfl ?_
                  refine w_i2s dX9_mark_104 ?_
                  refine w_top (y := shv (X.1 s) v) ((if_pos c100).symm) ?_
                  refine w_goto (tgt := 109) dX9_mark_105 (by decide) ?_
                  refine w_iast dX9_mark_109 rfl hsh.2.2 (by omega) ?_
                  refine w_iconst dX9_mark_110 ic_1 ?_
                  refine w_ireturn dX9_mark_111 rfl rfl ?_
                  refine hq _ (fun q h => va_up_ne _ _ (by omega)) (hS.mark (by omega) (by omega) (fun q h => va_up_ne _ _ h) (fun i => ?_))
                  rw [va_up_self]
                  rfl
              · refine w_ldc dX9_mark_86 kcX9_77 ?_
                refine w_ireturn dX9_mark_88 rfl rfl ?_
                have e : oMark X (nI s) (nI j) v = (X.2.2, -1000000001) := by
                  unfold oMark
                  rw [hcl]
                  exact ((cif_t ha)).trans (((cif_f c21)).trans (((cif_t hP)).trans (((cif_f hk9)).trans ((cif_t ⟨c64, c70, c83⟩)))))
                rw [e] at hq
                exact hq I (fun _ _ => rfl) hS
        · refine w_iload_n dX9_mark_49 rfl ?_
          refine w_ldc dX9_mark_50 kcX9_141 ?_
          refine w_icmp_ne (tgt := 58) dX9_mark_52 (by decide) (fun c52 => ?_) (fun c52 => ?_)
          · have hk9 : ¬ (X.1 s = 0 ∧ v = -1000000005) := fun q => c52 q.2
            refine w_aload dX9_mark_58 rfl ?_
            refine w_getI dX9_mark_60 flX9_272 rfl ?_
            refine w_top (y := X.1 s) (k0) ?_
            refine w_iconst dX9_mark_63 ic_1 ?_
            refine w_icmp_ne (tgt := 89) dX9_mark_64 (by decide) (fun c64 => ?_) (fun c64 => ?_)
            · have hf9 : ¬ (X.1 s = 1 ∧ v ≠ -1000000005 ∧ ¬ (-99999 ≤ v ∧ v ≤ 99999)) := fun q => c64 q.1
              have e : oMark X (nI s) (nI j) v = (va_up X.2.2 (24 * s + j) (shv (X.1 s) v), 1) := by
                unfold oMark
                rw [hcl, hcj]
                exact ((cif_t ha)).trans (((cif_f c21)).trans (((cif_t hP)).trans (((cif_f hk9)).trans ((cif_f hf9)))))
              rw [e] at hq
              refine w_aload dX9_mark_89 rfl ?_
              refine w_getR dX9_mark_91 flX9_282 rfl hsh.2.1 ?_
              refine w_iload_n dX9_mark_94 rfl ?_
              refine w_aload dX9_mark_95 rfl ?_
              refine w_getI dX9_mark_97 flX9_272 rfl ?_
              refine w_top (y := X.1 s) (k0) ?_
              refine w_if_ne (tgt := 108) dX9_mark_100 (by decide) (fun c100 => ?_) (fun c100 => ?_)
              · refine w_iload_n dX9_mark_108 rfl ?_
                refine w_top (y := shv (X.1 s) v) ((if_neg c100).symm) ?_
                refine w_iast dX9_mark_109 rfl hsh.2.2 (by omega) ?_
                refine w_iconst dX9_mark_110 ic_1 ?_
                refine w_ireturn dX9_mark_111 rfl rfl ?_
                refine hq _ (fun q h => va_up_ne _ _ (by omega)) (hS.mark (by omega) (by omega) (fun q h => va_up_ne _ _ h) (fun i => ?_))
                rw [va_up_self]
                rfl
              · refine w_iload_n dX9_mark_103 rfl ?_
                refine w_i2s dX9_mark_104 ?_
                refine w_top (y := shv (X.1 s) v) ((if_pos c100).symm) ?_
                refine w_goto (tgt := 109) dX9_mark_105 (by decide) ?_
                refine w_iast dX9_mark_109 rfl hsh.2.2 (by omega) ?_
                refine w_iconst dX9_mark_110 ic_1 ?_
                refine w_ireturn dX9_mark_111 rfl rfl ?_
                refine hq _ (fun q h => va_up_ne _ _ (by omega)) (hS.mark (by omega) (by omega) (fun q h => va_up_ne _ _ h) (fun i => ?_))
                rw [va_up_self]
                rfl
            · refine w_iload_n dX9_mark_67 rfl ?_
              refine w_ldc dX9_mark_68 kcX9_141 ?_
              refine w_icmp_eq (tgt := 89) dX9_mark_70 (by decide) (fun c70 => ?_) (fun c70 => ?_)
              · have hf9 : ¬ (X.1 s = 1 ∧ v ≠ -1000000005 ∧ ¬ (-99999 ≤ v ∧ v ≤ 99999)) := fun q => q.2.1 c70
                have e : oMark X (nI s) (nI j) v = (va_up X.2.2 (24 * s + j) (shv (X.1 s) v), 1) := by
                  unfold oMark
                  rw [hcl, hcj]
                  exact ((cif_t ha)).trans (((cif_f c21)).trans (((cif_t hP)).trans (((cif_f hk9)).trans ((cif_f hf9)))))
                rw [e] at hq
                refine w_aload dX9_mark_89 rfl ?_
                refine w_getR dX9_mark_91 flX9_282 rfl hsh.2.1 ?_
                refine w_iload_n dX9_mark_94 rfl ?_
                refine w_aload dX9_mark_95 rfl ?_
                refine w_getI dX9_mark_97 flX9_272 rfl ?_
                refine w_top (y := X.1 s) (k0) ?_
                refine w_if_ne (tgt := 108) dX9_mark_100 (by decide) (fun c100 => ?_) (fun c100 => ?_)
                · refine w_iload_n dX9_mark_108 rfl ?_
                  refine w_top (y := shv (X.1 s) v) ((if_neg c100).symm) ?_
                  refine w_iast dX9_mark_109 rfl hsh.2.2 (by omega) ?_
                  refine w_iconst dX9_mark_110 ic_1 ?_
                  refine w_ireturn dX9_mark_111 rfl rfl ?_
                  refine hq _ (fun q h => va_up_ne _ _ (by omega)) (hS.mark (by omega) (by omega) (fun q h => va_up_ne _ _ h) (fun i => ?_))
                  rw [va_up_self]
                  rfl
                · refine w_iload_n dX9_mark_103 rfl ?_
                  refine w_i2s dX9_mark_104 ?_
                  refine w_top (y := shv (X.1 s) v) ((if_pos c100).symm) ?_
                  refine w_goto (tgt := 109) dX9_mark_105 (by decide) ?_
                  refine w_iast dX9_mark_109 rfl hsh.2.2 (by omega) ?_
                  refine w_iconst dX9_mark_110 ic_1 ?_
                  refine w_ireturn dX9_mark_111 rfl rfl ?_
                  refine hq _ (fun q h => va_up_ne _ _ (by omega)) (hS.mark (by omega) (by omega) (fun q h => va_up_ne _ _ h) (fun i => ?_))
                  rw [va_up_self]
                  rfl
              · refine w_iload_n dX9_mark_73 rfl ?_
                refine w_ldcw dX9_mark_74 kcX9_280 ?_
                refine w_ldcw dX9_mark_77 kcX9_281 ?_
                refine c_S (as := [_, _, _]) (d' := 0) dX9_mark_80 (Or.inl mlX9_86) moX9_within msX9_within rfl rfl rfl rfl rfl (by decide) (sX9_within ?_)
                refine w_ifB_ne (tgt := 89) dX9_mark_83 (by decide) (fun c83 => ?_) (fun c83 => ?_)
                · have hf9 : ¬ (X.1 s = 1 ∧ v ≠ -1000000005 ∧ ¬ (-99999 ≤ v ∧ v ≤ 99999)) := fun q => q.2.2 c83
                  have e : oMark X (nI s) (nI j) v = (va_up X.2.2 (24 * s + j) (shv (X.1 s) v), 1) := by
                    unfold oMark
                    rw [hcl, hcj]
                    exact ((cif_t ha)).trans (((cif_f c21)).trans (((cif_t hP)).trans (((cif_f hk9)).trans ((cif_f hf9)))))
                  rw [e] at hq
                  refine w_aload dX9_mark_89 rfl ?_
                  refine w_getR dX9_mark_91 flX9_282 rfl hsh.2.1 ?_
                  refine w_iload_n dX9_mark_94 rfl ?_
                  refine w_aload dX9_mark_95 rfl ?_
                  refine w_getI dX9_mark_97 flX9_272 rfl ?_
                  refine w_top (y := X.1 s) (k0) ?_
                  refine w_if_ne (tgt := 108) dX9_mark_100 (by decide) (fun c100 => ?_) (fun c100 => ?_)
                  · refine w_iload_n dX9_mark_108 rfl ?_
                    refine w_top (y := shv (X.1 s) v) ((if_neg c100).symm) ?_
                    refine w_iast dX9_mark_109 rfl hsh.2.2 (by omega) ?_
                    refine w_iconst dX9_mark_110 ic_1 ?_
                    refine w_ireturn dX9_mark_111 rfl rfl ?_
                    refine hq _ (fun q h => va_up_ne _ _ (by omega)) (hS.mark (by omega) (by omega) (fun q h => va_up_ne _ _ h) (fun i => ?_))
                    rw [va_up_self]
                    rfl
                  · refine w_iload_n dX9_mark_103 rfl ?_
                    refine w_i2s dX9_mark_104 ?_
                    refine w_top (y := shv (X.1 s) v) ((if_pos c100).symm) ?_
                    refine w_goto (tgt := 109) dX9_mark_105 (by decide) ?_
                    refine w_iast dX9_mark_109 rfl hsh.2.2 (by omega) ?_
                    refine w_iconst dX9_mark_110 ic_1 ?_
                    refine w_ireturn dX9_mark_111 rfl rfl ?_
                    refine hq _ (fun q h => va_up_ne _ _ (by omega)) (hS.mark (by omega) (by omega) (fun q h => va_up_ne _ _ h) (fun i => ?_))
                    rw [va_up_self]
                    rfl
                · refine w_ldc dX9_mark_86 kcX9_77 ?_
                  refine w_ireturn dX9_mark_88 rfl rfl ?_
                  have e : oMark X (nI s) (nI j) v = (X.2.2, -1000000001) := by
                    unfold oMark
                    rw [hcl]
                    exact ((cif_t ha)).trans (((cif_f c21)).trans (((cif_t hP)).trans (((cif_f hk9)).trans ((cif_t ⟨c64, c70, c83⟩)))))
                  rw [e] at hq
                  exact hq I (fun _ _ => rfl) hS
          · refine w_ldc dX9_mark_55 kcX9_133 ?_
            refine w_ireturn dX9_mark_57 rfl rfl ?_
            have e : oMark X (nI s) (nI j) v = (X.2.2, -1000000012) := by
              unfold oMark
              rw [hcl]
              exact ((cif_t ha)).trans (((cif_f c21)).trans (((cif_t hP)).trans ((cif_t ⟨c46, c52⟩))))
            rw [e] at hq
            exact hq I (fun _ _ => rfl) hS
      · refine w_ldcw dX9_mark_37 kcX9_279 ?_
        refine w_ireturn dX9_mark_40 rfl rfl ?_
        have e : oMark X (nI s) p v = (X.2.2, -1000000013) := by
          unfold oMark
          rw [hcl]
          exact ((cif_t ha)).trans (((cif_f c21)).trans ((cif_f (fun q => c34 (by rw [hz] at q; exact q)))))
        rw [e] at hq
        exact hq I (fun _ _ => rfl) hS
    · refine w_ldcw dX9_mark_24 kcX9_275 ?_
      refine w_ireturn dX9_mark_27 rfl rfl ?_
      have e : oMark X (nI s) p v = (X.2.2, -1000000011) := by
        unfold oMark
        rw [hcl]
        exact ((cif_t ha)).trans ((cif_t c21))
      rw [e] at hq
      exact hq I (fun _ _ => rfl) hS
  · refine c_V (t := 9) (as := [_]) (d' := 1) dX9_mark_2 mlX9_262 moX9_sheetAt mvX9_sheetAt ⟨rfl, rfl⟩ rfl rfl rfl rfl rfl (by decide) (sX9_sheetAtN hs ha ?_)
    refine w_astoreN (al' := [_, _, _, _, _]) dX9_mark_5 rfl rfl rfl ?_
    refine w_aloadN dX9_mark_7 rfl ?_
    refine w_ifnonnullN dX9_mark_9 ?_
    refine w_ldc dX9_mark_12 kcX9_77 ?_
    refine w_ireturn dX9_mark_14 rfl rfl ?_
    have e : oMark X a p v = (X.2.2, -1000000001) := cif_f ha
    rw [e] at hq
    exact hq I (fun _ _ => rfl) hS

set_option maxRecDepth 20000 in
theorem sX10_mark (hs : SK R N) {X : X3} (hO : SO X.1 X.2.1) (hS : I 137 = X.1) (hZ : I 138 = X.2.1) (hCe : I 139 = X.2.2) {a p v : Int32} (hq : ∀ I' : HI, (∀ q, q ≠ 139 → I' q = I q) → I' 139 = (oMark X a p v).1 → Q (vI (oMark X a p v).2) I' L R N n) : CA sc 2 0 0 mX10_mark [vR 10 117, vI a, vI p, vI v] I L R N n Q := by
  refine ca_in (al := [_, _, _, _]) rfl ?_
  refine w_iload_n dX10_mark_0 rfl ?_
  refine c_S (as := [_]) (d' := 1) dX10_mark_1 (Or.inl mlX10_275) moX10_isSheet msX10_isSheet rfl rfl rfl rfl rfl (by decide) (sX10_isSheet ?_)
  refine w_ifB_ne (tgt := 10) dX10_mark_4 (by decide) (fun c4 => ?_) (fun c4 => ?_)
  · have ha := c4
    obtain ⟨s, hs4, rfl⟩ := in_of (m := 3) (by decide) c4
    have hcl : (nI s).toNatClampNeg = s := nI_clamp (by omega)
    obtain ⟨o1, z, -, hz24, hz⟩ := hO s (by omega)
    have hm1 := m1_lt o1
    refine w_aload_n dX10_mark_10 rfl ?_
    refine w_getR dX10_mark_11 flX10_69 rfl (hs.r (a := 117) (j := 34) (b := 137) 135 rfl) ?_
    refine w_iload_n dX10_mark_14 rfl ?_
    refine w_iald dX10_mark_15 rfl (hs.n (a := 137) (z := 4) 91 rfl) (by omega) ?_
    refine w_top (y := X.1 s) (congrFun hS s) ?_
    refine w_if_ge (tgt := 23) dX10_mark_16 (by decide) (fun c16 => ?_) (fun c16 => ?_)
    · have c21 : ¬ X.1 s = -1 := fun q => Int32.not_lt.mpr c16 (hm1.mp q)
      refine w_iload_n dX10_mark_23 rfl ?_
      refine w_iconst dX10_mark_24 ic_0 ?_
      refine w_aload_n dX10_mark_25 rfl ?_
      refine w_getR dX10_mark_26 flX10_72 rfl (hs.r (a := 117) (j := 35) (b := 138) 136 rfl) ?_
      refine w_iload_n dX10_mark_29 rfl ?_
      refine w_iald dX10_mark_30 rfl (hs.n (a := 138) (z := 4) 92 rfl) (by omega) ?_
      refine w_top (y := nI z) ((congrFun hZ s).trans hz) ?_
      refine w_iconst dX10_mark_31 ic_1 ?_
      refine w_isub dX10_mark_32 ?_
      refine c_S (as := [_, _, _]) (d' := 0) dX10_mark_33 (Or.inl mlX10_97) moX10_in msX10_in rfl rfl rfl rfl rfl (by decide) (sX10_in ?_)
      refine w_ifB_ne (tgt := 43) dX10_mark_36 (by decide) (fun c36 => ?_) (fun c36 => ?_)
      · have hP := (show 0 ≤ p ∧ p ≤ X.2.1 s - 1 by rw [hz]; exact c36)
        obtain ⟨j, hj, rfl⟩ := pr_of (by omega) c36
        have hcj : (nI j).toNatClampNeg = j := nI_clamp (by omega)
        refine w_aload_n dX10_mark_43 rfl ?_
        refine w_getR dX10_mark_44 flX10_69 rfl (hs.r (a := 117) (j := 34) (b := 137) 135 rfl) ?_
        refine w_iload_n dX10_mark_47 rfl ?_
        refine w_iald dX10_mark_48 rfl (hs.n (a := 137) (z := 4) 91 rfl) (by omega) ?_
        refine w_top (y := X.1 s) (congrFun hS s) ?_
        refine w_if_ne (tgt := 61) dX10_mark_49 (by decide) (fun c49 => ?_) (fun c49 => ?_)
        · have hk9 : ¬ (X.1 s = 0 ∧ v = -1000000005) := fun q => c49 q.1
          refine w_aload_n dX10_mark_61 rfl ?_
          refine w_getR dX10_mark_62 flX10_69 rfl (hs.r (a := 117) (j := 34) (b := 137) 135 rfl) ?_
          refine w_iload_n dX10_mark_65 rfl ?_
          refine w_iald dX10_mark_66 rfl (hs.n (a := 137) (z := 4) 91 rfl) (by omega) ?_
          refine w_top (y := X.1 s) (congrFun hS s) ?_
          refine w_iconst dX10_mark_67 ic_1 ?_
          refine w_icmp_ne (tgt := 93) dX10_mark_68 (by decide) (fun c68 => ?_) (fun c68 => ?_)
          · have hf9 : ¬ (X.1 s = 1 ∧ v ≠ -1000000005 ∧ ¬ (-99999 ≤ v ∧ v ≤ 99999)) := fun q => c68 q.1
            have e : oMark X (nI s) (nI j) v = (va_up X.2.2 (24 * s + j) (shv (X.1 s) v), 1) := by
              unfold oMark
              rw [hcl, hcj]
              exact ((cif_t ha)).trans (((cif_f c21)).trans (((cif_t hP)).trans (((cif_f hk9)).trans ((cif_f hf9)))))
            rw [e] at hq
            refine w_aload_n dX10_mark_93 rfl ?_
            refine w_getR dX10_mark_94 flX10_75 rfl (hs.r (a := 117) (j := 36) (b := 139) 137 rfl) ?_
            refine w_bipush dX10_mark_97 bp_24 ?_
            refine w_iload_n dX10_mark_99 rfl ?_
            refine w_imul dX10_mark_100 ?_
            refine w_iload_n dX10_mark_101 rfl ?_
            refine w_iadd dX10_mark_102 ?_
            refine w_top (y := nI (24 * s + j)) (by show nI 24 * nI s + nI j = _; rw [nI_mul, nI_add]) ?_
            refine w_aload_n dX10_mark_103 rfl ?_
            refine w_getR dX10_mark_104 flX10_69 rfl (hs.r (a := 117) (j := 34) (b := 137) 135 rfl) ?_
            refine w_iload_n dX10_mark_107 rfl ?_
            refine w_iald dX10_mark_108 rfl (hs.n (a := 137) (z := 4) 91 rfl) (by omega) ?_
            refine w_top (y := X.1 s) (congrFun hS s) ?_
            refine w_if_ne (tgt := 117) dX10_mark_109 (by decide) (fun c109 => ?_) (fun c109 => ?_)
            · refine w_iload_n dX10_mark_117 rfl ?_
              refine w_top (y := shv (X.1 s) v) ((if_neg c109).symm) ?_
              refine w_iast dX10_mark_118 rfl (hs.n (a := 139) (z := 96) 93 rfl) (by omega) ?_
              refine w_iconst dX10_mark_119 ic_1 ?_
              refine w_ireturn dX10_mark_120 rfl rfl ?_
              exact hq _ (fun q h => va_up_ne _ _ h) (by rw [va_up_self, hCe])
            · refine w_iload_n dX10_mark_112 rfl ?_
              refine w_i2s dX10_mark_113 ?_
              refine w_top (y := shv (X.1 s) v) ((if_pos c109).symm) ?_
              refine w_goto (tgt := 118) dX10_mark_114 (by decide) ?_
              refine w_iast dX10_mark_118 rfl (hs.n (a := 139) (z := 96) 93 rfl) (by omega) ?_
              refine w_iconst dX10_mark_119 ic_1 ?_
              refine w_ireturn dX10_mark_120 rfl rfl ?_
              exact hq _ (fun q h => va_up_ne _ _ h) (by rw [va_up_self, hCe])
          · refine w_iload_n dX10_mark_71 rfl ?_
            refine w_ldc dX10_mark_72 kcX10_96 ?_
            refine w_icmp_eq (tgt := 93) dX10_mark_74 (by decide) (fun c74 => ?_) (fun c74 => ?_)
            · have hf9 : ¬ (X.1 s = 1 ∧ v ≠ -1000000005 ∧ ¬ (-99999 ≤ v ∧ v ≤ 99999)) := fun q => q.2.1 c74
              have e : oMark X (nI s) (nI j) v = (va_up X.2.2 (24 * s + j) (shv (X.1 s) v), 1) := by
                unfold oMark
                rw [hcl, hcj]
                exact ((cif_t ha)).trans (((cif_f c21)).trans (((cif_t hP)).trans (((cif_f hk9)).trans ((cif_f hf9)))))
              rw [e] at hq
              refine w_aload_n dX10_mark_93 rfl ?_
              refine w_getR dX10_mark_94 flX10_75 rfl (hs.r (a := 117) (j := 36) (b := 139) 137 rfl) ?_
              refine w_bipush dX10_mark_97 bp_24 ?_
              refine w_iload_n dX10_mark_99 rfl ?_
              refine w_imul dX10_mark_100 ?_
              refine w_iload_n dX10_mark_101 rfl ?_
              refine w_iadd dX10_mark_102 ?_
              refine w_top (y := nI (24 * s + j)) (by show nI 24 * nI s + nI j = _; rw [nI_mul, nI_add]) ?_
              refine w_aload_n dX10_mark_103 rfl ?_
              refine w_getR dX10_mark_104 flX10_69 rfl (hs.r (a := 117) (j := 34) (b := 137) 135 rfl) ?_
              refine w_iload_n dX10_mark_107 rfl ?_
              refine w_iald dX10_mark_108 rfl (hs.n (a := 137) (z := 4) 91 rfl) (by omega) ?_
              refine w_top (y := X.1 s) (congrFun hS s) ?_
              refine w_if_ne (tgt := 117) dX10_mark_109 (by decide) (fun c109 => ?_) (fun c109 => ?_)
              · refine w_iload_n dX10_mark_117 rfl ?_
                refine w_top (y := shv (X.1 s) v) ((if_neg c109).symm) ?_
                refine w_iast dX10_mark_118 rfl (hs.n (a := 139) (z := 96) 93 rfl) (by omega) ?_
                refine w_iconst dX10_mark_119 ic_1 ?_
                refine w_ireturn dX10_mark_120 rfl rfl ?_
                exact hq _ (fun q h => va_up_ne _ _ h) (by rw [va_up_self, hCe])
              · refine w_iload_n dX10_mark_112 rfl ?_
                refine w_i2s dX10_mark_113 ?_
                refine w_top (y := shv (X.1 s) v) ((if_pos c109).symm) ?_
                refine w_goto (tgt := 118) dX10_mark_114 (by decide) ?_
                refine w_iast dX10_mark_118 rfl (hs.n (a := 139) (z := 96) 93 rfl) (by omega) ?_
                refine w_iconst dX10_mark_119 ic_1 ?_
                refine w_ireturn dX10_mark_120 rfl rfl ?_
                exact hq _ (fun q h => va_up_ne _ _ h) (by rw [va_up_self, hCe])
            · refine w_iload_n dX10_mark_77 rfl ?_
              refine w_ldcw dX10_mark_78 kcX10_281 ?_
              refine w_ldcw dX10_mark_81 kcX10_282 ?_
              refine c_S (as := [_, _, _]) (d' := 0) dX10_mark_84 (Or.inl mlX10_97) moX10_in msX10_in rfl rfl rfl rfl rfl (by decide) (sX10_in ?_)
              refine w_ifB_ne (tgt := 93) dX10_mark_87 (by decide) (fun c87 => ?_) (fun c87 => ?_)
              · have hf9 : ¬ (X.1 s = 1 ∧ v ≠ -1000000005 ∧ ¬ (-99999 ≤ v ∧ v ≤ 99999)) := fun q => q.2.2 c87
                have e : oMark X (nI s) (nI j) v = (va_up X.2.2 (24 * s + j) (shv (X.1 s) v), 1) := by
                  unfold oMark
                  rw [hcl, hcj]
                  exact ((cif_t ha)).trans (((cif_f c21)).trans (((cif_t hP)).trans (((cif_f hk9)).trans ((cif_f hf9)))))
                rw [e] at hq
                refine w_aload_n dX10_mark_93 rfl ?_
                refine w_getR dX10_mark_94 flX10_75 rfl (hs.r (a := 117) (j := 36) (b := 139) 137 rfl) ?_
                refine w_bipush dX10_mark_97 bp_24 ?_
                refine w_iload_n dX10_mark_99 rfl ?_
                refine w_imul dX10_mark_100 ?_
                refine w_iload_n dX10_mark_101 rfl ?_
                refine w_iadd dX10_mark_102 ?_
                refine w_top (y := nI (24 * s + j)) (by show nI 24 * nI s + nI j = _; rw [nI_mul, nI_add]) ?_
                refine w_aload_n dX10_mark_103 rfl ?_
                refine w_getR dX10_mark_104 flX10_69 rfl (hs.r (a := 117) (j := 34) (b := 137) 135 rfl) ?_
                refine w_iload_n dX10_mark_107 rfl ?_
                refine w_iald dX10_mark_108 rfl (hs.n (a := 137) (z := 4) 91 rfl) (by omega) ?_
                refine w_top (y := X.1 s) (congrFun hS s) ?_
                refine w_if_ne (tgt := 117) dX10_mark_109 (by decide) (fun c109 => ?_) (fun c109 => ?_)
                · refine w_iload_n dX10_mark_117 rfl ?_
                  refine w_top (y := shv (X.1 s) v) ((if_neg c109).symm) ?_
                  refine w_iast dX10_mark_118 rfl (hs.n (a := 139) (z := 96) 93 rfl) (by omega) ?_
                  refine w_iconst dX10_mark_119 ic_1 ?_
                  refine w_ireturn dX10_mark_120 rfl rfl ?_
                  exact hq _ (fun q h => va_up_ne _ _ h) (by rw [va_up_self, hCe])
                · refine w_iload_n dX10_mark_112 rfl ?_
                  refine w_i2s dX10_mark_113 ?_
                  refine w_top (y := shv (X.1 s) v) ((if_pos c109).symm) ?_
                  refine w_goto (tgt := 118) dX10_mark_114 (by decide) ?_
                  refine w_iast dX10_mark_118 rfl (hs.n (a := 139) (z := 96) 93 rfl) (by omega) ?_
                  refine w_iconst dX10_mark_119 ic_1 ?_
                  refine w_ireturn dX10_mark_120 rfl rfl ?_
                  exact hq _ (fun q h => va_up_ne _ _ h) (by rw [va_up_self, hCe])
              · refine w_ldc dX10_mark_90 kcX10_101 ?_
                refine w_ireturn dX10_mark_92 rfl rfl ?_
                have e : oMark X (nI s) (nI j) v = (X.2.2, -1000000001) := by
                  unfold oMark
                  rw [hcl]
                  exact ((cif_t ha)).trans (((cif_f c21)).trans (((cif_t hP)).trans (((cif_f hk9)).trans ((cif_t ⟨c68, c74, c87⟩)))))
                rw [e] at hq
                exact hq I (fun _ _ => rfl) hCe
        · refine w_iload_n dX10_mark_52 rfl ?_
          refine w_ldc dX10_mark_53 kcX10_96 ?_
          refine w_icmp_ne (tgt := 61) dX10_mark_55 (by decide) (fun c55 => ?_) (fun c55 => ?_)
          · have hk9 : ¬ (X.1 s = 0 ∧ v = -1000000005) := fun q => c55 q.2
            refine w_aload_n dX10_mark_61 rfl ?_
            refine w_getR dX10_mark_62 flX10_69 rfl (hs.r (a := 117) (j := 34) (b := 137) 135 rfl) ?_
            refine w_iload_n dX10_mark_65 rfl ?_
            refine w_iald dX10_mark_66 rfl (hs.n (a := 137) (z := 4) 91 rfl) (by omega) ?_
            refine w_top (y := X.1 s) (congrFun hS s) ?_
            refine w_iconst dX10_mark_67 ic_1 ?_
            refine w_icmp_ne (tgt := 93) dX10_mark_68 (by decide) (fun c68 => ?_) (fun c68 => ?_)
            · have hf9 : ¬ (X.1 s = 1 ∧ v ≠ -1000000005 ∧ ¬ (-99999 ≤ v ∧ v ≤ 99999)) := fun q => c68 q.1
              have e : oMark X (nI s) (nI j) v = (va_up X.2.2 (24 * s + j) (shv (X.1 s) v), 1) := by
                unfold oMark
                rw [hcl, hcj]
                exact ((cif_t ha)).trans (((cif_f c21)).trans (((cif_t hP)).trans (((cif_f hk9)).trans ((cif_f hf9)))))
              rw [e] at hq
              refine w_aload_n dX10_mark_93 rfl ?_
              refine w_getR dX10_mark_94 flX10_75 rfl (hs.r (a := 117) (j := 36) (b := 139) 137 rfl) ?_
              refine w_bipush dX10_mark_97 bp_24 ?_
              refine w_iload_n dX10_mark_99 rfl ?_
              refine w_imul dX10_mark_100 ?_
              refine w_iload_n dX10_mark_101 rfl ?_
              refine w_iadd dX10_mark_102 ?_
              refine w_top (y := nI (24 * s + j)) (by show nI 24 * nI s + nI j = _; rw [nI_mul, nI_add]) ?_
              refine w_aload_n dX10_mark_103 rfl ?_
              refine w_getR dX10_mark_104 flX10_69 rfl (hs.r (a := 117) (j := 34) (b := 137) 135 rfl) ?_
              refine w_iload_n dX10_mark_107 rfl ?_
              refine w_iald dX10_mark_108 rfl (hs.n (a := 137) (z := 4) 91 rfl) (by omega) ?_
              refine w_top (y := X.1 s) (congrFun hS s) ?_
              refine w_if_ne (tgt := 117) dX10_mark_109 (by decide) (fun c109 => ?_) (fun c109 => ?_)
              · refine w_iload_n dX10_mark_117 rfl ?_
                refine w_top (y := shv (X.1 s) v) ((if_neg c109).symm) ?_
                refine w_iast dX10_mark_118 rfl (hs.n (a := 139) (z := 96) 93 rfl) (by omega) ?_
                refine w_iconst dX10_mark_119 ic_1 ?_
                refine w_ireturn dX10_mark_120 rfl rfl ?_
                exact hq _ (fun q h => va_up_ne _ _ h) (by rw [va_up_self, hCe])
              · refine w_iload_n dX10_mark_112 rfl ?_
                refine w_i2s dX10_mark_113 ?_
                refine w_top (y := shv (X.1 s) v) ((if_pos c109).symm) ?_
                refine w_goto (tgt := 118) dX10_mark_114 (by decide) ?_
                refine w_iast dX10_mark_118 rfl (hs.n (a := 139) (z := 96) 93 rfl) (by omega) ?_
                refine w_iconst dX10_mark_119 ic_1 ?_
                refine w_ireturn dX10_mark_120 rfl rfl ?_
                exact hq _ (fun q h => va_up_ne _ _ h) (by rw [va_up_self, hCe])
            · refine w_iload_n dX10_mark_71 rfl ?_
              refine w_ldc dX10_mark_72 kcX10_96 ?_
              refine w_icmp_eq (tgt := 93) dX10_mark_74 (by decide) (fun c74 => ?_) (fun c74 => ?_)
              · have hf9 : ¬ (X.1 s = 1 ∧ v ≠ -1000000005 ∧ ¬ (-99999 ≤ v ∧ v ≤ 99999)) := fun q => q.2.1 c74
                have e : oMark X (nI s) (nI j) v = (va_up X.2.2 (24 * s + j) (shv (X.1 s) v), 1) := by
                  unfold oMark
                  rw [hcl, hcj]
                  exact ((cif_t ha)).trans (((cif_f c21)).trans (((cif_t hP)).trans (((cif_f hk9)).trans ((cif_f hf9)))))
                rw [e] at hq
                refine w_aload_n dX10_mark_93 rfl ?_
                refine w_getR dX10_mark_94 flX10_75 rfl (hs.r (a := 117) (j := 36) (b := 139) 137 rfl) ?_
                refine w_bipush dX10_mark_97 bp_24 ?_
                refine w_iload_n dX10_mark_99 rfl ?_
                refine w_imul dX10_mark_100 ?_
                refine w_iload_n dX10_mark_101 rfl ?_
                refine w_iadd dX10_mark_102 ?_
                refine w_top (y := nI (24 * s + j)) (by show nI 24 * nI s + nI j = _; rw [nI_mul, nI_add]) ?_
                refine w_aload_n dX10_mark_103 rfl ?_
                refine w_getR dX10_mark_104 flX10_69 rfl (hs.r (a := 117) (j := 34) (b := 137) 135 rfl) ?_
                refine w_iload_n dX10_mark_107 rfl ?_
                refine w_iald dX10_mark_108 rfl (hs.n (a := 137) (z := 4) 91 rfl) (by omega) ?_
                refine w_top (y := X.1 s) (congrFun hS s) ?_
                refine w_if_ne (tgt := 117) dX10_mark_109 (by decide) (fun c109 => ?_) (fun c109 => ?_)
                · refine w_iload_n dX10_mark_117 rfl ?_
                  refine w_top (y := shv (X.1 s) v) ((if_neg c109).symm) ?_
                  refine w_iast dX10_mark_118 rfl (hs.n (a := 139) (z := 96) 93 rfl) (by omega) ?_
                  refine w_iconst dX10_mark_119 ic_1 ?_
                  refine w_ireturn dX10_mark_120 rfl rfl ?_
                  exact hq _ (fun q h => va_up_ne _ _ h) (by rw [va_up_self, hCe])
                · refine w_iload_n dX10_mark_112 rfl ?_
                  refine w_i2s dX10_mark_113 ?_
                  refine w_top (y := shv (X.1 s) v) ((if_pos c109).symm) ?_
                  refine w_goto (tgt := 118) dX10_mark_114 (by decide) ?_
                  refine w_iast dX10_mark_118 rfl (hs.n (a := 139) (z := 96) 93 rfl) (by omega) ?_
                  refine w_iconst dX10_mark_119 ic_1 ?_
                  refine w_ireturn dX10_mark_120 rfl rfl ?_
                  exact hq _ (fun q h => va_up_ne _ _ h) (by rw [va_up_self, hCe])
              · refine w_iload_n dX10_mark_77 rfl ?_
                refine w_ldcw dX10_mark_78 kcX10_281 ?_
                refine w_ldcw dX10_mark_81 kcX10_282 ?_
                refine c_S (as := [_, _, _]) (d' := 0) dX10_mark_84 (Or.inl mlX10_97) moX10_in msX10_in rfl rfl rfl rfl rfl (by decide) (sX10_in ?_)
                refine w_ifB_ne (tgt := 93) dX10_mark_87 (by decide) (fun c87 => ?_) (fun c87 => ?_)
                · have hf9 : ¬ (X.1 s = 1 ∧ v ≠ -1000000005 ∧ ¬ (-99999 ≤ v ∧ v ≤ 99999)) := fun q => q.2.2 c87
                  have e : oMark X (nI s) (nI j) v = (va_up X.2.2 (24 * s + j) (shv (X.1 s) v), 1) := by
                    unfold oMark
                    rw [hcl, hcj]
                    exact ((cif_t ha)).trans (((cif_f c21)).trans (((cif_t hP)).trans (((cif_f hk9)).trans ((cif_f hf9)))))
                  rw [e] at hq
                  refine w_aload_n dX10_mark_93 rfl ?_
                  refine w_getR dX10_mark_94 flX10_75 rfl (hs.r (a := 117) (j := 36) (b := 139) 137 rfl) ?_
                  refine w_bipush dX10_mark_97 bp_24 ?_
                  refine w_iload_n dX10_mark_99 rfl ?_
                  refine w_imul dX10_mark_100 ?_
                  refine w_iload_n dX10_mark_101 rfl ?_
                  refine w_iadd dX10_mark_102 ?_
                  refine w_top (y := nI (24 * s + j)) (by show nI 24 * nI s + nI j = _; rw [nI_mul, nI_add]) ?_
                  refine w_aload_n dX10_mark_103 rfl ?_
                  refine w_getR dX10_mark_104 flX10_69 rfl (hs.r (a := 117) (j := 34) (b := 137) 135 rfl) ?_
                  refine w_iload_n dX10_mark_107 rfl ?_
                  refine w_iald dX10_mark_108 rfl (hs.n (a := 137) (z := 4) 91 rfl) (by omega) ?_
                  refine w_top (y := X.1 s) (congrFun hS s) ?_
                  refine w_if_ne (tgt := 117) dX10_mark_109 (by decide) (fun c109 => ?_) (fun c109 => ?_)
                  · refine w_iload_n dX10_mark_117 rfl ?_
                    refine w_top (y := shv (X.1 s) v) ((if_neg c109).symm) ?_
                    refine w_iast dX10_mark_118 rfl (hs.n (a := 139) (z := 96) 93 rfl) (by omega) ?_
                    refine w_iconst dX10_mark_119 ic_1 ?_
                    refine w_ireturn dX10_mark_120 rfl rfl ?_
                    exact hq _ (fun q h => va_up_ne _ _ h) (by rw [va_up_self, hCe])
                  · refine w_iload_n dX10_mark_112 rfl ?_
                    refine w_i2s dX10_mark_113 ?_
                    refine w_top (y := shv (X.1 s) v) ((if_pos c109).symm) ?_
                    refine w_goto (tgt := 118) dX10_mark_114 (by decide) ?_
                    refine w_iast dX10_mark_118 rfl (hs.n (a := 139) (z := 96) 93 rfl) (by omega) ?_
                    refine w_iconst dX10_mark_119 ic_1 ?_
                    refine w_ireturn dX10_mark_120 rfl rfl ?_
                    exact hq _ (fun q h => va_up_ne _ _ h) (by rw [va_up_self, hCe])
                · refine w_ldc dX10_mark_90 kcX10_101 ?_
                  refine w_ireturn dX10_mark_92 rfl rfl ?_
                  have e : oMark X (nI s) (nI j) v = (X.2.2, -1000000001) := by
                    unfold oMark
                    rw [hcl]
                    exact ((cif_t ha)).trans (((cif_f c21)).trans (((cif_t hP)).trans (((cif_f hk9)).trans ((cif_t ⟨c68, c74, c87⟩)))))
                  rw [e] at hq
                  exact hq I (fun _ _ => rfl) hCe
          · refine w_ldc dX10_mark_58 kcX10_143 ?_
            refine w_ireturn dX10_mark_60 rfl rfl ?_
            have e : oMark X (nI s) (nI j) v = (X.2.2, -1000000012) := by
              unfold oMark
              rw [hcl]
              exact ((cif_t ha)).trans (((cif_f c21)).trans (((cif_t hP)).trans ((cif_t ⟨c49, c55⟩))))
            rw [e] at hq
            exact hq I (fun _ _ => rfl) hCe
      · refine w_ldcw dX10_mark_39 kcX10_280 ?_
        refine w_ireturn dX10_mark_42 rfl rfl ?_
        have e : oMark X (nI s) p v = (X.2.2, -1000000013) := by
          unfold oMark
          rw [hcl]
          exact ((cif_t ha)).trans (((cif_f c21)).trans ((cif_f (fun q => c36 (by rw [hz] at q; exact q)))))
        rw [e] at hq
        exact hq I (fun _ _ => rfl) hCe
    · have c21 : X.1 s = -1 := hm1.mpr (Int32.not_le.mp c16)
      refine w_ldcw dX10_mark_19 kcX10_279 ?_
      refine w_ireturn dX10_mark_22 rfl rfl ?_
      have e : oMark X (nI s) p v = (X.2.2, -1000000011) := by
        unfold oMark
        rw [hcl]
        exact ((cif_t ha)).trans ((cif_t c21))
      rw [e] at hq
      exact hq I (fun _ _ => rfl) hCe
  · refine w_ldc dX10_mark_7 kcX10_101 ?_
    refine w_ireturn dX10_mark_9 rfl rfl ?_
    have e : oMark X a p v = (X.2.2, -1000000001) := cif_f c4
    rw [e] at hq
    exact hq I (fun _ _ => rfl) hCe

end
