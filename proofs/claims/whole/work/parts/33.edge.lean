section
variable {sc : SC} {I : HI} {L : HL} {R : HR} {N : HN} {n : Nat} {Q : HQ}
noncomputable def eOut (V : VV) (r s a : Nat) : Int32 := pOut (plV V (owA V r a) (told (V 4)) s) 31
noncomputable def oEdge (V : VV) (a : Int32) : Int32 := cif (isS V a) (cif (V 3 < 0) (-1000000002) (frst (fun i => eOut V (V 3).toNatClampNeg a.toNatClampNeg 0 < eOut V (V 3).toNatClampNeg a.toNatClampNeg i) 99 1)) (-1000000001)
/-- the card of a try: the first is none -/
def cdN : Nat → Int32
  | 0 => -1000000005
  | i + 1 => nI i
noncomputable def fW (V : VV) (i : Nat) : Int64 := libD V (owV V) (cdN i) (nS V)
noncomputable def oWrite (V : VV) : Int32 := cdN (bestF (fW V) 31).1
noncomputable def fL (V : VV) (r : Nat) : Int64 := libD V (owAt V r) (told (V 4)) (nS V)
noncomputable def gL (V : VV) (r : Nat) : Int64 := libC V (owAt V r) (told (V 4)) (nS V)
noncomputable def lstF (f g : Nat → Int64) : Nat → Int32 × Int64 × Int64
  | 0 => (-1, 0, 0)
  | k + 1 => cif ((lstF f g k).1 < 0 ∨ f k < (lstF f g k).2.1 ∨ (f k = (lstF f g k).2.1 ∧ (lstF f g k).2.2 < g k)) (nI k, f k, g k) (lstF f g k)
noncomputable def oLeast (V : VV) : Int32 := told (lstF (fL V) (gL V) (nRu V)).1
theorem lst_rng (f g : Nat → Int64) : ∀ k, (lstF f g k).1 = -1 ∨ ∃ i, i < k ∧ (lstF f g k).1 = nI i
  | 0 => Or.inl rfl
  | k + 1 => by
    unfold lstF
    by_cases h : (lstF f g k).1 < 0 ∨ f k < (lstF f g k).2.1 ∨ (f k = (lstF f g k).2.1 ∧ (lstF f g k).2.2 < g k)
    · rw [cif_t h]; exact Or.inr ⟨k, by omega, rfl⟩
    · rw [cif_f h]
      rcases lst_rng f g k with e | ⟨i, h1, h2⟩
      · exact Or.inl e
      · exact Or.inr ⟨i, by omega, h2⟩
theorem told_no {x : Int32} (h : x = -1 ∨ ∃ i, i < 8 ∧ x = nI i) : told x = -1000000005 ↔ x < 0 := by
  rcases h with rfl | ⟨i, hi, rfl⟩
  · exact ⟨fun _ => by decide, fun _ => rfl⟩
  · rw [told_s rfl (by omega)]
    exact ⟨fun q => absurd q (nI_none (by omega)), fun q => absurd q (nI_pos (by omega))⟩
theorem cdN_ok {i : Nat} (h : i ≤ 31) : cardOk (cdN i) := by
  cases i with
  | zero => exact Or.inl rfl
  | succ i => exact Or.inr ⟨i, by omega, rfl⟩
theorem cd_told (i : Nat) (h : i ≤ 31) : told (nI i - 1) = cdN i := by
  cases i with
  | zero => rfl
  | succ i => rw [nI_pred]; exact told_s rfl (by omega)
theorem ow_4 (V : VV) (x : Int32) : owV (va_up V 4 x) = owV V := by
  have h80 : same80 V (va_up V 4 x) := same80_up (by decide) (by decide)
  unfold owV owAt
  rw [va_up_ne V x (show (3 : Nat) ≠ 4 by decide)]
  split
  · rfl
  · rw [owRule_80 h80, va_up_ne _ _ (by omega), va_up_ne _ _ (by omega), va_up_ne _ _ (by omega), va_up_ne _ _ (by omega)]
theorem lib_4 {V : VV} (hV : VO V) {i : Nat} (h : i ≤ 31) : libD (va_up V 4 (nI i - 1)) (owV (va_up V 4 (nI i - 1))) (told (va_up V 4 (nI i - 1) 4)) (nS (va_up V 4 (nI i - 1))) = fW V i := by
  rw [ow_4, va_up_self, cd_told i h, (lib_80 (same80_up (by decide) (by decide)) (fun i h1 h2 => va_up_ne _ _ (by omega)) _ _ _ (show nS (va_up V 4 (nI i - 1)) ≤ 6 from hV.1.2)).1]
  rfl
theorem ow_3 {V : VV} {r : Nat} (hr : r < 8) : owV (va_up V 3 (nI r)) = owAt V r := by
  rw [owV_s (va_up_self _ _ _) hr]
  unfold owAt
  rw [owRule_80 (same80_up (by decide) (by decide)), va_up_ne _ _ (by omega), va_up_ne _ _ (by omega), va_up_ne _ _ (by omega), va_up_ne _ _ (by omega)]
theorem lib_3 {V : VV} (hV : VO V) {r : Nat} (hr : r < 8) : libD (va_up V 3 (nI r)) (owV (va_up V 3 (nI r))) (told (va_up V 3 (nI r) 4)) (nS (va_up V 3 (nI r))) = fL V r ∧ libC (va_up V 3 (nI r)) (owV (va_up V 3 (nI r))) (told (va_up V 3 (nI r) 4)) (nS (va_up V 3 (nI r))) = gL V r := by
  have hl := lib_80 (V := V) (V' := va_up V 3 (nI r)) (same80_up (by decide) (by decide)) (fun i h1 h2 => va_up_ne _ _ (by omega)) (owAt V r) (told (V 4)) (nS V) hV.1.2
  rw [ow_3 hr, va_up_ne V (nI r) (show (4 : Nat) ≠ 3 by decide)]
  exact ⟨hl.1, hl.2.1⟩

set_option maxRecDepth 20000 in
theorem sX9_lostAt (hs : SK R N) {V : VV} (hV : VO V) (hC : WC I R N n 1 V) {s r a : Nat} (hss : s < nS V) (hr : r < nRu V) (ht : I 74 0 = V (48 + 4 * r) ∧ I 75 1 = V (48 + 4 * r + 2) ∧ I 75 2 = V (48 + 4 * r + 3)) (hf : ∀ j, j < 31 → I (62 + s) j = forgV V (V (6 + 7 * s + 1)) (told (V 4)) (nI j))
    (hq : ∀ I' : HI, (∀ q, FC q → I' q = I q) → WC I' R N n 1 V → (I' 74 0 = V (48 + 4 * r) ∧ I' 75 1 = V (48 + 4 * r + 2) ∧ I' 75 2 = V (48 + 4 * r + 3)) → (∀ j, j < 31 → I' (62 + s) j = forgV V (V (6 + 7 * s + 1)) (told (V 4)) (nI j)) → Q (vI (eOut V r s a)) I' L R N n) : CA sc 5 0 0 mX9_lostAt [vR 9 0, vI (nI s), vI (nI a)] I L R N n Q := by
  have h6 := hV.1.2
  refine ca_in (al := [_, _, _]) rfl ?_
  refine w_aload_n dX9_lostAt_0 rfl ?_
  refine w_getR dX9_lostAt_1 flX9_33 rfl (hs.r (a := 0) (j := 4) (b := 74) 3 rfl) ?_
  refine w_getR dX9_lostAt_4 flX9_127 rfl (hs.r (a := 74) (j := 1) (b := 75) 79 rfl) ?_
  refine w_iconst dX9_lostAt_7 ic_0 ?_
  refine w_iload_n dX9_lostAt_8 rfl ?_
  refine w_iast (q := 0) dX9_lostAt_9 rfl (hs.n (a := 75) (z := 3) 52 rfl) (by decide) ?_
  refine w_st (fun I2 hA2 hB2 hC2 => ?_)
  have hW2 : WC I2 R N n 1 V := hC.keep hV (fun z hz => hA2 z (by unfold WA at hz; omega))
  refine w_aload_n dX9_lostAt_10 rfl ?_
  refine w_getR dX9_lostAt_11 flX9_26 rfl (hs.r (a := 0) (j := 3) (b := 59) 2 rfl) ?_
  refine w_aload_n dX9_lostAt_14 rfl ?_
  refine w_getR dX9_lostAt_15 flX9_10 rfl (hs.r (a := 0) (j := 0) (b := 1) 0 rfl) ?_
  refine w_aload_n dX9_lostAt_18 rfl ?_
  refine w_getR dX9_lostAt_19 flX9_33 rfl (hs.r (a := 0) (j := 4) (b := 74) 3 rfl) ?_
  refine c_Vv (t := 2) (as := [_, _]) (d' := 3) dX9_lostAt_22 mlX9_205 moX2_takeRule mvX2_takeRule ⟨rfl, rfl⟩ rfl rfl rfl rfl rfl (by decide) (sX2_takeRuleS hs (Or.inl rfl) hV hW2 (r := 74) (p := 75) (hs.r (a := 74) (j := 1) (b := 75) 79 rfl) (hs.n (a := 75) (z := 3) 52 rfl) (by rw [hB2 2 (by decide), ht.2.2]; exact c_pos hV hr) (by decide) (by decide) (by decide) (by decide) (fun I3 hI3 ho3 => ?_))
  have hW3 : WC I3 R N n 1 V := hW2.keep hV (fun z hz => hI3 z (by unfold WA at hz; omega) (by unfold WA at hz; omega))
  rw [hA2 74 (by decide), hB2 1 (by decide), hB2 2 (by decide), hC2, ht.1, ht.2.1, ht.2.2] at ho3
  have hf3 : ∀ j, j < 31 → I3 (62 + s) j = forgV V (V (6 + 7 * s + 1)) (told (V 4)) (nI j) := fun j hj => by rw [hI3 (62 + s) (by omega) (by omega), hA2 (62 + s) (by omega)]; exact hf j hj
  refine w_aload_n dX9_lostAt_25 rfl ?_
  refine w_getR dX9_lostAt_26 flX9_26 rfl (hs.r (a := 0) (j := 3) (b := 59) 2 rfl) ?_
  refine w_aload_n dX9_lostAt_29 rfl ?_
  refine w_getR dX9_lostAt_30 flX9_10 rfl (hs.r (a := 0) (j := 0) (b := 1) 0 rfl) ?_
  refine w_iload_n dX9_lostAt_33 rfl ?_
  refine c_Vv (t := 2) (as := [_, _]) (d' := 4) dX9_lostAt_34 mlX9_169 moX2_follow mvX2_follow ⟨rfl, rfl⟩ rfl rfl rfl rfl rfl (by decide) (sX2_follow hs (Or.inl rfl) hV hW3 hss (oF := owA V r a) (cd := told (V 4)) ho3 hf3 (fun I4 hI4 hF4 => ?_))
  have hW4 : WC I4 R N n 1 V := hW3.keep hV (fun z hz => hI4 z (by unfold WA at hz; omega) (by unfold WA at hz; omega))
  refine w_aload_n dX9_lostAt_37 rfl ?_
  refine w_getR dX9_lostAt_38 flX9_26 rfl (hs.r (a := 0) (j := 3) (b := 59) 2 rfl) ?_
  refine w_getR dX9_lostAt_41 flX9_348 rfl (hs.r (a := 59) (j := 7) (b := 73) 72 rfl) ?_
  refine w_bipush dX9_lostAt_44 bp_30 ?_
  refine w_iald (q := 30) dX9_lostAt_46 rfl (hs.n (a := 73) (z := 31) 51 rfl) (by decide) ?_
  refine w_top (y := eOut V r s a) ((hF4 30 (by decide)).2.2.2.2.2) ?_
  refine w_ireturn dX9_lostAt_47 rfl rfl ?_
  exact hq I4 (fun z h => (hI4 z (by unfold FC at h; omega) (by unfold FC at h; omega)).trans ((hI3 z (by unfold FC at h; omega) (by unfold FC at h; omega)).trans (hA2 z (by unfold FC at h; omega)))) hW4 (by rw [hI4 74 (by decide) (by decide), hI4 75 (by decide) (by decide), hI3 74 (by decide) (by decide), hI3 75 (by decide) (by decide), hA2 74 (by decide), hB2 1 (by decide), hB2 2 (by decide)]; exact ht) (fun j hj => by rw [hI4 (62 + s) (by omega) (by omega)]; exact hf3 j hj)

set_option maxRecDepth 20000 in
theorem lX9_edge (hs : SK R N) {V : VV} (hV : VO V) {r s rr : Nat} (hr : r < nRu V) (hss : s < nS V) (hq : ∀ I' : HI, (∀ q, FC q → I' q = I q) → WC I' R N n 1 V → Q (vI (frst (fun i => eOut V r s 0 < eOut V r s i) 99 1)) I' L R N n) {I1 : HI} (hI1 : ∀ q, FC q → I1 q = I q) (hC1 : WC I1 R N n 1 V) (ht : I1 74 0 = V (48 + 4 * r) ∧ I1 75 1 = V (48 + 4 * r + 2) ∧ I1 75 2 = V (48 + 4 * r + 3)) (hf : (∀ j, j < 31 → I1 (62 + s) j = forgV V (V (6 + 7 * s + 1)) (told (V 4)) (nI j))) : WP sc 6 0 0 mX9_edge 66 [vR 9 0, vI (nI s), vR 3 rr, vI (eOut V r s 0), vI (nI 1)] [] I1 L R N n Q := by
  have h6 := hV.1.2
  have h8 := hV.2.1.2
  have lp : ∀ (k j : Nat) (I1 : HI), j + k = 100 → 1 ≤ j → (∀ q, FC q → I1 q = I q) → WC I1 R N n 1 V → (I1 74 0 = V (48 + 4 * r) ∧ I1 75 1 = V (48 + 4 * r + 2) ∧ I1 75 2 = V (48 + 4 * r + 3)) → (∀ j, j < 31 → I1 (62 + s) j = forgV V (V (6 + 7 * s + 1)) (told (V 4)) (nI j)) → (∀ I' : HI, (∀ q, FC q → I' q = I q) → WC I' R N n 1 V → Q (vI (frst (fun i => eOut V r s 0 < eOut V r s i) k j)) I' L R N n) → WP sc 6 0 0 mX9_edge 66 [vR 9 0, vI (nI s), vR 3 rr, vI (eOut V r s 0), vI (nI j)] [] I1 L R N n Q := by
    intro k
    induction k with
    | zero =>
      intro j I1 hj hj1 hI1 hC1 ht hf hq
      refine w_iload dX9_edge_66 rfl ?_
      refine w_bipush dX9_edge_68 bp_99 ?_
      refine w_icmp_gt (tgt := 93) dX9_edge_70 (by decide) (fun c70 => ?_) (fun c70 => ?_)
      · refine w_ldc dX9_edge_93 kcX9_141 ?_
        refine w_ireturn dX9_edge_95 rfl rfl ?_
        exact hq I1 hI1 hC1
      · exact absurd (nI_lt (a := 99) (by omega) (by omega)) c70
    | succ k ih =>
      intro j I1 hj hj1 hI1 hC1 ht hf hq
      refine w_iload dX9_edge_66 rfl ?_
      refine w_bipush dX9_edge_68 bp_99 ?_
      refine w_icmp_gt (tgt := 93) dX9_edge_70 (by decide) (fun c70 => ?_) (fun c70 => ?_)
      · exact absurd ((nI_ltI (a := 99) (by omega) (by omega)).mp c70) (by omega)
      · refine w_aload_n dX9_edge_73 rfl ?_
        refine w_iload_n dX9_edge_74 rfl ?_
        refine w_iload dX9_edge_75 rfl ?_
        refine c_V (t := 9) (as := [_, _]) (d' := 5) dX9_edge_77 mlX9_213 moX9_lostAt mvX9_lostAt ⟨rfl, rfl⟩ rfl rfl rfl rfl rfl (by decide) (sX9_lostAt hs hV hC1 hss hr ht hf (fun I2 hI2 hC2 ht2 hf2 => ?_))
        have hX2 : ∀ z, FC z → I2 z = I z := fun z h => (hI2 z h).trans (hI1 z h)
        refine w_iload_n dX9_edge_80 rfl ?_
        refine w_icmp_le (tgt := 87) dX9_edge_81 (by decide) (fun c81 => ?_) (fun c81 => ?_)
        · refine w_iinc (al' := [_, _, _, _, _]) dX9_edge_87 rfl rfl ic_1 rfl ?_
          refine w_goto (tgt := 66) dX9_edge_90 (by decide) ?_
          simp only [nI_1]
          exact ih (j + 1) I2 (by omega) (by omega) hX2 hC2 ht2 hf2 (fun I' h1 h2 => q_e (cif_f (p := eOut V r s 0 < eOut V r s j) (Int32.not_lt.mpr c81)) (hq I' h1 h2))
        · refine w_iload dX9_edge_84 rfl ?_
          refine w_ireturn dX9_edge_86 rfl rfl ?_
          exact q_e (cif_t (p := eOut V r s 0 < eOut V r s j) (Int32.not_le.mp c81)) (hq I2 hX2 hC2)
  exact lp 99 1 I1 rfl (by decide) hI1 hC1 ht hf hq

set_option maxRecDepth 20000 in
theorem sX9_edge (hs : SK R N) {V : VV} (hV : VO V) (hC : WC I R N n 1 V) {a : Int32} (hq : ∀ I' : HI, (∀ q, FC q → I' q = I q) → WC I' R N n 1 V → Q (vI (oEdge V a)) I' L R N n) : CA sc 6 0 0 mX9_edge [vR 9 0, vI a] I L R N n Q := by
  refine ca_in (al := [_, _, _, _, _]) rfl ?_
  refine w_aload_n dX9_edge_0 rfl ?_
  refine w_getR dX9_edge_1 flX9_10 rfl (hs.r (a := 0) (j := 0) (b := 1) 0 rfl) ?_
  refine w_iload_n dX9_edge_4 rfl ?_
  refine c_V (t := 8) (as := [_]) (d' := 1) dX9_edge_5 mlX9_82 moX8_hasSort mvX8_hasSort ⟨rfl, rfl⟩ rfl rfl rfl rfl rfl (by decide) (sX8_hasSort ?_)
  refine w_ifB_ne (tgt := 14) dX9_edge_8 (by decide) (fun c8 => ?_) (fun c8 => ?_)
  · have ha : isS V a := by unfold isS; rw [← hC.1.1]; exact c8
    obtain ⟨s, hss, rfl⟩ := isS_of hV ha
    have h6 := hV.1.2
    have hcl : (nI s).toNatClampNeg = s := nI_clamp (by omega)
    refine w_aload_n dX9_edge_14 rfl ?_
    refine w_getR dX9_edge_15 flX9_10 rfl (hs.r (a := 0) (j := 0) (b := 1) 0 rfl) ?_
    rcases hV.2.2.2.2.2.1 with hv3 | ⟨r, hr, hv3⟩
    · have hv0 := V3_n hv3
      refine c_V (t := 8) (as := []) (d' := 2) dX9_edge_18 mlX9_193 moX8_ruleInForce mvX8_ruleInForce ⟨rfl, rfl⟩ rfl rfl rfl rfl rfl (by decide) (sX8_ruleInForceN hs (Or.inl rfl) (hC.1.2.2.1.trans (told_n hv3)) ?_)
      refine w_astore_nN (al' := [_, _, _, _, _]) dX9_edge_21 rfl rfl rfl ?_
      refine w_aload_nN dX9_edge_22 rfl ?_
      refine w_ifnonnullN dX9_edge_23 ?_
      refine w_ldc dX9_edge_26 kcX9_197 ?_
      refine w_ireturn dX9_edge_28 rfl rfl ?_
      have e : oEdge V (nI s) = -1000000002 := by unfold oEdge; rw [cif_t (isS_to hV hss), cif_t hv0]
      rw [e] at hq
      exact hq I (fun _ _ => rfl) hC
    · have h8 := hV.2.1.2
      obtain ⟨hv0, hvc⟩ := V3_s hv3 (by omega)
      have hrl := hs.rules (Or.inl rfl) (show r < 8 by omega)
      have hru := hC.2.2.1 r hr
      refine c_V (t := 8) (as := []) (d' := 2) dX9_edge_18 mlX9_193 moX8_ruleInForce mvX8_ruleInForce ⟨rfl, rfl⟩ rfl rfl rfl rfl rfl (by decide) (sX8_ruleInForceS hs (Or.inl rfl) (hC.1.2.2.1.trans (told_s hv3 (by omega))) (hC.1.2.1.trans hV.2.1.1) h8 hr ?_)
      refine w_astore_n (al' := [_, _, _, _, _]) dX9_edge_21 rfl rfl rfl ?_
      refine w_aload_n dX9_edge_22 rfl ?_
      refine w_ifnonnullR (tgt := 29) dX9_edge_23 (by decide) ?_
      refine w_aload_n dX9_edge_29 rfl ?_
      refine w_getR dX9_edge_30 flX9_33 rfl (hs.r (a := 0) (j := 4) (b := 74) 3 rfl) ?_
      refine w_aload_n dX9_edge_33 rfl ?_
      refine c_Vv (t := 3) (as := [_]) (d' := 1) dX9_edge_34 mlX9_198 moX3_become mvX3_become ⟨rfl, rfl⟩ rfl rfl rfl rfl rfl (by decide) (sX3_become (r := 74) (p := 75) (hs.r (a := 74) (j := 1) (b := 75) 79 rfl) (hs.n (a := 75) (z := 3) 52 rfl) hrl.2.1 hrl.2.2 (by omega) (by omega) (fun I2 hI2 hk2 hp2 => ?_))
      have hC2 : WC I2 R N n 1 V := hC.keep hV (fun z hz => hI2 z (by unfold WA at hz; omega) (by unfold WA at hz; omega))
      refine w_aload_n dX9_edge_37 rfl ?_
      refine w_getR dX9_edge_38 flX9_26 rfl (hs.r (a := 0) (j := 3) (b := 59) 2 rfl) ?_
      refine w_aload_n dX9_edge_41 rfl ?_
      refine w_getR dX9_edge_42 flX9_10 rfl (hs.r (a := 0) (j := 0) (b := 1) 0 rfl) ?_
      refine w_iload_n dX9_edge_45 rfl ?_
      refine w_aload_n dX9_edge_46 rfl ?_
      refine w_getR dX9_edge_47 flX9_10 rfl (hs.r (a := 0) (j := 0) (b := 1) 0 rfl) ?_
      refine w_getI dX9_edge_50 flX9_145 rfl ?_
      refine w_top (y := told (V 4)) (hC2.1.2.2.2.1) ?_
      refine c_Vv (t := 2) (as := [_, _, _]) (d' := 3) dX9_edge_53 mlX9_209 moX2_forgetting mvX2_forgetting ⟨rfl, rfl⟩ rfl rfl rfl rfl rfl (by decide) (sX2_forgetting hs (Or.inl rfl) hV hC2 hss (fun I3 hI3 hf3 => ?_))
      have hC3 : WC I3 R N n 1 V := hC2.keep hV (fun z hz => hI3 z (by unfold WA at hz; omega) (by unfold WA at hz; omega))
      have ht3 : I3 74 0 = V (48 + 4 * r) ∧ I3 75 1 = V (48 + 4 * r + 2) ∧ I3 75 2 = V (48 + 4 * r + 3) := by rw [hI3 74 (by decide) (by omega), hI3 75 (by decide) (by omega), hk2, hp2 1 (by decide), hp2 2 (by decide)]; exact ⟨hru.1, hru.2 1 (by decide), hru.2 2 (by decide)⟩
      refine w_aload_n dX9_edge_56 rfl ?_
      refine w_iload_n dX9_edge_57 rfl ?_
      refine w_iconst dX9_edge_58 ic_0 ?_
      refine c_V (t := 9) (as := [_, _]) (d' := 5) dX9_edge_59 mlX9_213 moX9_lostAt mvX9_lostAt ⟨rfl, rfl⟩ rfl rfl rfl rfl rfl (by decide) (sX9_lostAt (a := 0) hs hV hC3 hss hr ht3 hf3 (fun I4 hI4 hC4 ht4 hf4 => ?_))
      refine w_istore_n (al' := [_, _, _, _, _]) dX9_edge_62 rfl rfl rfl ?_
      refine w_iconst dX9_edge_63 ic_1 ?_
      refine w_istore (al' := [_, _, _, _, _]) dX9_edge_64 rfl rfl rfl ?_
      have e : oEdge V (nI s) = frst (fun i => eOut V r s 0 < eOut V r s i) 99 1 := by unfold oEdge; rw [cif_t (isS_to hV hss), cif_f hv0, hvc, hcl]
      rw [e] at hq
      exact lX9_edge hs hV hr hss hq (fun z h => (hI4 z h).trans ((hI3 z (by unfold FC at h; omega) (by unfold FC at h; omega)).trans (hI2 z (by unfold FC at h; omega) (by unfold FC at h; omega)))) hC4 ht4 hf4
  · have ha : ¬ isS V a := by unfold isS; rw [← hC.1.1]; exact c8
    refine w_ldc dX9_edge_11 kcX9_77 ?_
    refine w_ireturn dX9_edge_13 rfl rfl ?_
    have e : oEdge V a = -1000000001 := cif_f (fun z => by first | exact ha z)
    rw [e] at hq
    exact hq I (fun _ _ => rfl) hC

set_option maxRecDepth 20000 in
theorem lX10_edge (hs : SK R N) {V : VV} (hV : VO V) {r s : Nat} (hr : r < nRu V) (hv3 : V 3 = nI r) (hss : s < nS V) (hI : I 118 = V) (hq : ∀ I' : HI, (∀ q, FM q → I' q = I q) → I' 118 = V → Q (vI (frst (fun i => eOut V r s 0 < eOut V r s i) 99 1)) I' L R N n) : WP sc 5 0 0 mX10_edge 54 [vR 10 117, vI (nI s), vI (nI (48 + 4 * r + 1)), vI (V (48 + 4 * r + 1)), vI (-1000000005), vI 0, vI (nI 0)] [] I L R N n Q := by
  have h6 := hV.1.2
  have h8 := hV.2.1.2
  have lE : ∀ (I1 : HI) {j1 fi : Nat} {pl : Int32}, (∀ q, FM q → I1 q = I q) → (∃ x, I1 118 = va_up V (48 + 4 * r + 1) x) → j1 ≤ 100 → fi < 100 → (∀ I' : HI, (∀ q, FM q → I' q = I q) → I' 118 = V → Q (vI (nI fi)) I' L R N n) → WP sc 5 0 0 mX10_edge 54 [vR 10 117, vI (nI s), vI (nI (48 + 4 * r + 1)), vI (V (48 + 4 * r + 1)), vI (nI fi), vI pl, vI (nI j1)] [] I1 L R N n Q := by
    intro I1 j1 fi pl hI1 hx hj1 hfi hq
    refine w_iload dX10_edge_54 rfl ?_
    refine w_bipush dX10_edge_56 bp_100 ?_
    refine w_icmp_ge (tgt := 127) dX10_edge_58 (by decide) (fun c58 => ?_) (fun c58 => ?_)
    · refine w_aload_n dX10_edge_127 rfl ?_
      refine w_getR dX10_edge_128 flX10_9 rfl (hs.r (a := 117) (j := 0) (b := 118) 116 rfl) ?_
      refine w_iload_n dX10_edge_131 rfl ?_
      refine w_iload_n dX10_edge_132 rfl ?_
      refine w_iast dX10_edge_133 rfl (hs.n (a := 118) (z := 1452) 72 rfl) (by omega) ?_
      refine w_iload dX10_edge_134 rfl ?_
      refine w_ireturn dX10_edge_136 rfl rfl ?_
      obtain ⟨x, hx⟩ := hx
      exact hq _ (fun z h => (va_up_ne _ _ h.1).trans (hI1 z h)) (by rw [va_up_self, hx, up_up, up_id])
    · refine w_iload dX10_edge_61 rfl ?_
      refine w_ldc dX10_edge_63 kcX10_96 ?_
      refine w_icmp_ne (tgt := 127) dX10_edge_65 (by decide) (fun c65 => ?_) (fun c65 => ?_)
      · refine w_aload_n dX10_edge_127 rfl ?_
        refine w_getR dX10_edge_128 flX10_9 rfl (hs.r (a := 117) (j := 0) (b := 118) 116 rfl) ?_
        refine w_iload_n dX10_edge_131 rfl ?_
        refine w_iload_n dX10_edge_132 rfl ?_
        refine w_iast dX10_edge_133 rfl (hs.n (a := 118) (z := 1452) 72 rfl) (by omega) ?_
        refine w_iload dX10_edge_134 rfl ?_
        refine w_ireturn dX10_edge_136 rfl rfl ?_
        obtain ⟨x, hx⟩ := hx
        exact hq _ (fun z h => (va_up_ne _ _ h.1).trans (hI1 z h)) (by rw [va_up_self, hx, up_up, up_id])
      · exact absurd c65 (nI_none (by omega))
  have lp : ∀ (k j : Nat) (I1 : HI) (pl : Int32), j + k = 100 → (1 ≤ j → pl = eOut V r s 0) → (∀ q, FM q → I1 q = I q) → (∃ x, I1 118 = va_up V (48 + 4 * r + 1) x) → (∀ I' : HI, (∀ q, FM q → I' q = I q) → I' 118 = V → Q (vI (frst (fun i => eOut V r s 0 < eOut V r s i) k j)) I' L R N n) → WP sc 5 0 0 mX10_edge 54 [vR 10 117, vI (nI s), vI (nI (48 + 4 * r + 1)), vI (V (48 + 4 * r + 1)), vI (-1000000005), vI pl, vI (nI j)] [] I1 L R N n Q := by
    intro k
    induction k with
    | zero =>
      intro j I1 pl hj hpl hI1 hx hq
      refine w_iload dX10_edge_54 rfl ?_
      refine w_bipush dX10_edge_56 bp_100 ?_
      refine w_icmp_ge (tgt := 127) dX10_edge_58 (by decide) (fun c58 => ?_) (fun c58 => ?_)
      · refine w_aload_n dX10_edge_127 rfl ?_
        refine w_getR dX10_edge_128 flX10_9 rfl (hs.r (a := 117) (j := 0) (b := 118) 116 rfl) ?_
        refine w_iload_n dX10_edge_131 rfl ?_
        refine w_iload_n dX10_edge_132 rfl ?_
        refine w_iast dX10_edge_133 rfl (hs.n (a := 118) (z := 1452) 72 rfl) (by omega) ?_
        refine w_iload dX10_edge_134 rfl ?_
        refine w_ireturn dX10_edge_136 rfl rfl ?_
        obtain ⟨x, hx⟩ := hx
        exact hq _ (fun z h => (va_up_ne _ _ h.1).trans (hI1 z h)) (by rw [va_up_self, hx, up_up, up_id])
      · exact absurd (nI_le (a := 100) (by omega) (by omega)) c58
    | succ k ih =>
      intro j I1 pl hj hpl hI1 hx hq
      refine w_iload dX10_edge_54 rfl ?_
      refine w_bipush dX10_edge_56 bp_100 ?_
      refine w_icmp_ge (tgt := 127) dX10_edge_58 (by decide) (fun c58 => ?_) (fun c58 => ?_)
      · exact absurd ((nI_leI (a := 100) (by omega) (by omega)).mp c58) (by omega)
      · refine w_iload dX10_edge_61 rfl ?_
        refine w_ldc dX10_edge_63 kcX10_96 ?_
        refine w_icmp_ne (tgt := 127) dX10_edge_65 (by decide) (fun c65 => ?_) (fun c65 => ?_)
        · exact absurd rfl c65
        · refine w_aload_n dX10_edge_68 rfl ?_
          refine w_getR dX10_edge_69 flX10_9 rfl (hs.r (a := 117) (j := 0) (b := 118) 116 rfl) ?_
          refine w_iload_n dX10_edge_72 rfl ?_
          refine w_iload dX10_edge_73 rfl ?_
          refine w_iast dX10_edge_75 rfl (hs.n (a := 118) (z := 1452) 72 rfl) (by omega) ?_
          refine w_heap (fun I2 e2 => ?_)
          have hA2 : ∀ z, FM z → I2 z = I1 z := fun z h => by rw [e2]; exact va_up_ne _ _ h.1
          have hV2 : I2 118 = va_up V (48 + 4 * r + 1) (nI j) := by obtain ⟨x, hx⟩ := hx; rw [e2, va_up_self, hx, up_up]
          refine w_aload_n dX10_edge_76 rfl ?_
          refine w_iload_n dX10_edge_77 rfl ?_
          refine c_Vv (t := 10) (as := [_]) (d' := 4) dX10_edge_78 mlX10_179 moX10_findReader mvX10_findReader ⟨rfl, rfl⟩ rfl rfl rfl rfl rfl (by decide) (sX10_findReader hs (V := va_up V (48 + 4 * r + 1) (nI j)) hV2 (hV.rcell hr (q := 1) (by decide) (fun e => absurd e (by decide)) (fun e => absurd e (by decide))) (by rw [nS_hi (by omega)]; exact hss) (fun I3 hI3 hM3 h128 ho3 => ?_))
          have hX3 : ∀ z, FM z → I3 z = I z := fun z h => (hI3 z (by unfold FM at h; omega) (by unfold FM at h; omega) (by unfold FM at h; omega)).trans ((hA2 z h).trans (hI1 z h))
          have hV3 : ∃ x, I3 118 = va_up V (48 + 4 * r + 1) x := ⟨_, (hI3 118 (by decide) (by decide) (by decide)).trans hV2⟩
          have ho31 : I3 128 31 = eOut V r s j := by have := (hM3 30 (by decide)).2.2.2.2.2.2; rw [plan_a (by omega) hv3 (by omega)] at this; exact this
          rcases (show j = 0 ∨ ∃ i, j = i + 1 by cases j with | zero => exact Or.inl rfl | succ i => exact Or.inr ⟨i, rfl⟩) with rfl | ⟨i, rfl⟩
          · refine w_iload dX10_edge_81 rfl ?_
            refine w_if_ne (tgt := 96) dX10_edge_83 (by decide) (fun c83 => ?_) (fun c83 => ?_)
            · exact absurd rfl c83
            · refine w_aload_n dX10_edge_86 rfl ?_
              refine w_getR dX10_edge_87 flX10_41 rfl (hs.r (a := 117) (j := 11) (b := 128) 126 rfl) ?_
              refine w_bipush dX10_edge_90 bp_31 ?_
              refine w_iald (q := 31) dX10_edge_92 rfl (hs.n (a := 128) (z := 32) 82 rfl) (by decide) ?_
              refine w_top (y := eOut V r s 0) (ho31) ?_
              refine w_goto (tgt := 98) dX10_edge_93 (by decide) ?_
              refine w_istore (al' := [_, _, _, _, _, _, _]) dX10_edge_98 rfl rfl rfl ?_
              refine w_aload_n dX10_edge_100 rfl ?_
              refine w_getR dX10_edge_101 flX10_41 rfl (hs.r (a := 117) (j := 11) (b := 128) 126 rfl) ?_
              refine w_bipush dX10_edge_104 bp_31 ?_
              refine w_iald (q := 31) dX10_edge_106 rfl (hs.n (a := 128) (z := 32) 82 rfl) (by decide) ?_
              refine w_top (y := eOut V r s 0) (ho31) ?_
              refine w_iload dX10_edge_107 rfl ?_
              refine w_icmp_le (tgt := 117) dX10_edge_109 (by decide) (fun c109 => ?_) (fun c109 => ?_)
              · refine w_ldc dX10_edge_117 kcX10_96 ?_
                refine w_istore (al' := [_, _, _, _, _, _, _]) dX10_edge_119 rfl rfl rfl ?_
                refine w_iinc (al' := [_, _, _, _, _, _, _]) dX10_edge_121 rfl rfl ic_1 rfl ?_
                refine w_goto (tgt := 54) dX10_edge_124 (by decide) ?_
                simp only [nI_1]
                exact ih 1 I3 (eOut V r s 0) (by omega) (fun _ => rfl) hX3 hV3 (fun I' h1 h2 => q_e (cif_f (p := eOut V r s 0 < eOut V r s 0) Int32.lt_irrefl) (hq I' h1 h2))
              · exact absurd (Int32.not_le.mp c109) Int32.lt_irrefl
          · have hpl := hpl (by omega)
            subst hpl
            refine w_iload dX10_edge_81 rfl ?_
            refine w_if_ne (tgt := 96) dX10_edge_83 (by decide) (fun c83 => ?_) (fun c83 => ?_)
            · refine w_iload dX10_edge_96 rfl ?_
              refine w_istore (al' := [_, _, _, _, _, _, _]) dX10_edge_98 rfl rfl rfl ?_
              refine w_aload_n dX10_edge_100 rfl ?_
              refine w_getR dX10_edge_101 flX10_41 rfl (hs.r (a := 117) (j := 11) (b := 128) 126 rfl) ?_
              refine w_bipush dX10_edge_104 bp_31 ?_
              refine w_iald (q := 31) dX10_edge_106 rfl (hs.n (a := 128) (z := 32) 82 rfl) (by decide) ?_
              refine w_top (y := eOut V r s (i + 1)) (ho31) ?_
              refine w_iload dX10_edge_107 rfl ?_
              refine w_icmp_le (tgt := 117) dX10_edge_109 (by decide) (fun c109 => ?_) (fun c109 => ?_)
              · refine w_ldc dX10_edge_117 kcX10_96 ?_
                refine w_istore (al' := [_, _, _, _, _, _, _]) dX10_edge_119 rfl rfl rfl ?_
                refine w_iinc (al' := [_, _, _, _, _, _, _]) dX10_edge_121 rfl rfl ic_1 rfl ?_
                refine w_goto (tgt := 54) dX10_edge_124 (by decide) ?_
                simp only [nI_1]
                exact ih (i + 2) I3 (eOut V r s 0) (by omega) (fun _ => rfl) hX3 hV3 (fun I' h1 h2 => q_e (cif_f (p := eOut V r s 0 < eOut V r s (i + 1)) (Int32.not_lt.mpr c109)) (hq I' h1 h2))
              · have hP : eOut V r s 0 < eOut V r s (i + 1) := Int32.not_le.mp c109
                refine w_iload dX10_edge_112 rfl ?_
                refine w_goto (tgt := 119) dX10_edge_114 (by decide) ?_
                refine w_istore (al' := [_, _, _, _, _, _, _]) dX10_edge_119 rfl rfl rfl ?_
                refine w_iinc (al' := [_, _, _, _, _, _, _]) dX10_edge_121 rfl rfl ic_1 rfl ?_
                refine w_goto (tgt := 54) dX10_edge_124 (by decide) ?_
                simp only [nI_1]
                exact lE I3 hX3 hV3 (by omega) (by omega) (fun I' h1 h2 => q_e (cif_t (p := eOut V r s 0 < eOut V r s (i + 1)) hP) (hq I' h1 h2))
            · exact absurd c83 (nI_ne0 (by omega) (by omega))
  exact lp 100 0 I 0 rfl (fun h => absurd h (by omega)) (fun _ _ => rfl) ⟨V (48 + 4 * r + 1), by rw [up_id]; exact hI⟩ (fun I' h1 h2 => q_e (Eq.symm (cif_f (p := eOut V r s 0 < eOut V r s 0) Int32.lt_irrefl)) (hq I' h1 h2))

set_option maxRecDepth 20000 in
theorem sX10_edge (hs : SK R N) {V : VV} (hI : I 118 = V) (hV : VO V) {a : Int32} (hq : ∀ I' : HI, (∀ q, FM q → I' q = I q) → I' 118 = V → Q (vI (oEdge V a)) I' L R N n) : CA sc 5 0 0 mX10_edge [vR 10 117, vI a] I L R N n Q := by
  refine ca_in (al := [_, _, _, _, _, _, _]) rfl ?_
  refine w_aload_n dX10_edge_0 rfl ?_
  refine w_iload_n dX10_edge_1 rfl ?_
  refine c_V (t := 10) (as := [_]) (d' := 1) dX10_edge_2 mlX10_107 moX10_isSort mvX10_isSort ⟨rfl, rfl⟩ rfl rfl rfl rfl rfl (by decide) (sX10_isSort hs ?_)
  refine w_ifB_ne (tgt := 11) dX10_edge_5 (by decide) (fun c5 => ?_) (fun c5 => ?_)
  · have ha : isS V a := by unfold isS; rw [← hI]; exact c5
    obtain ⟨s, hss, rfl⟩ := isS_of hV ha
    have h6 := hV.1.2
    have hcl : (nI s).toNatClampNeg = s := nI_clamp (by omega)
    refine w_aload_n dX10_edge_11 rfl ?_
    refine w_getR dX10_edge_12 flX10_9 rfl (hs.r (a := 117) (j := 0) (b := 118) 116 rfl) ?_
    refine w_iconst dX10_edge_15 ic_3 ?_
    rcases hV.2.2.2.2.2.1 with hv3 | ⟨r, hr, hv3⟩
    · have hv0 := V3_n hv3
      refine w_iald (q := 3) dX10_edge_16 rfl (hs.n (a := 118) (z := 1452) 72 rfl) (by decide) ?_
      refine w_top (y := -1) ((congrFun hI 3).trans hv3) ?_
      refine w_if_ge (tgt := 23) dX10_edge_17 (by decide) (fun c17 => ?_) (fun c17 => ?_)
      · exact absurd c17 (by decide)
      · refine w_ldc dX10_edge_20 kcX10_204 ?_
        refine w_ireturn dX10_edge_22 rfl rfl ?_
        have e : oEdge V (nI s) = -1000000002 := by unfold oEdge; rw [cif_t (isS_to hV hss), cif_t hv0]
        rw [e] at hq
        exact hq I (fun _ _ => rfl) hI
    · have h8 := hV.2.1.2
      obtain ⟨hv0, hvc⟩ := V3_s hv3 (by omega)
      refine w_iald (q := 3) dX10_edge_16 rfl (hs.n (a := 118) (z := 1452) 72 rfl) (by decide) ?_
      refine w_top (y := nI r) ((congrFun hI 3).trans hv3) ?_
      refine w_if_ge (tgt := 23) dX10_edge_17 (by decide) (fun c17 => ?_) (fun c17 => ?_)
      · refine w_bipush dX10_edge_23 bp_48 ?_
        refine w_iconst dX10_edge_25 ic_4 ?_
        refine w_aload_n dX10_edge_26 rfl ?_
        refine w_getR dX10_edge_27 flX10_9 rfl (hs.r (a := 117) (j := 0) (b := 118) 116 rfl) ?_
        refine w_iconst dX10_edge_30 ic_3 ?_
        refine w_iald (q := 3) dX10_edge_31 rfl (hs.n (a := 118) (z := 1452) 72 rfl) (by decide) ?_
        refine w_top (y := nI r) ((congrFun hI 3).trans hv3) ?_
        refine w_imul dX10_edge_32 ?_
        refine w_iadd dX10_edge_33 ?_
        refine w_iconst dX10_edge_34 ic_1 ?_
        refine w_iadd dX10_edge_35 ?_
        refine w_top (y := nI (48 + 4 * r + 1)) (by show nI 48 + nI 4 * nI r + nI 1 = _; rw [nI_mul, nI_add, nI_add]) ?_
        refine w_istore_n (al' := [_, _, _, _, _, _, _]) dX10_edge_36 rfl rfl rfl ?_
        refine w_aload_n dX10_edge_37 rfl ?_
        refine w_getR dX10_edge_38 flX10_9 rfl (hs.r (a := 117) (j := 0) (b := 118) 116 rfl) ?_
        refine w_iload_n dX10_edge_41 rfl ?_
        refine w_iald dX10_edge_42 rfl (hs.n (a := 118) (z := 1452) 72 rfl) (by omega) ?_
        refine w_top (y := V (48 + 4 * r + 1)) (congrFun hI _) ?_
        refine w_istore_n (al' := [_, _, _, _, _, _, _]) dX10_edge_43 rfl rfl rfl ?_
        refine w_ldc dX10_edge_44 kcX10_96 ?_
        refine w_istore (al' := [_, _, _, _, _, _, _]) dX10_edge_46 rfl rfl rfl ?_
        refine w_iconst dX10_edge_48 ic_0 ?_
        refine w_istore (al' := [_, _, _, _, _, _, _]) dX10_edge_49 rfl rfl rfl ?_
        refine w_iconst dX10_edge_51 ic_0 ?_
        refine w_istore (al' := [_, _, _, _, _, _, _]) dX10_edge_52 rfl rfl rfl ?_
        have e : oEdge V (nI s) = frst (fun i => eOut V r s 0 < eOut V r s i) 99 1 := by unfold oEdge; rw [cif_t (isS_to hV hss), cif_f hv0, hvc, hcl]
        rw [e] at hq
        exact lX10_edge hs hV hr hv3 hss hI hq
      · exact absurd (nI_pos' (by omega)) c17
  · have ha : ¬ isS V a := by unfold isS; rw [← hI]; exact c5
    refine w_ldc dX10_edge_8 kcX10_101 ?_
    refine w_ireturn dX10_edge_10 rfl rfl ?_
    have e : oEdge V a = -1000000001 := cif_f (fun z => by first | exact ha z)
    rw [e] at hq
    exact hq I (fun _ _ => rfl) hI

end
