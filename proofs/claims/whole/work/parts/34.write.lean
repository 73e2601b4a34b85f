section
variable {sc : SC} {I : HI} {L : HL} {R : HR} {N : HN} {n : Nat} {Q : HQ}
theorem m1_p (i : Nat) : nI i - 1 + 1 = nI (i + 1) - 1 := by rw [nI_pred, Int32.sub_add_cancel]
theorem cd_val {V : VV} (hV : VO V) {i : Nat} (h : i ≤ 31) : VO (va_up V 4 (nI i - 1)) := by
  refine hV.cardC ?_
  cases i with
  | zero => exact Or.inl rfl
  | succ i => rw [nI_pred]; exact Or.inr ⟨i, by omega, rfl⟩
theorem lst_t {f g : Nat → Int64} {k : Nat} (h : (lstF f g k).1 < 0 ∨ f k < (lstF f g k).2.1 ∨ (f k = (lstF f g k).2.1 ∧ (lstF f g k).2.2 < g k)) : lstF f g (k + 1) = (nI k, f k, g k) := cif_t h
theorem lst_f {f g : Nat → Int64} {k : Nat} (h : ¬ ((lstF f g k).1 < 0 ∨ f k < (lstF f g k).2.1 ∨ (f k = (lstF f g k).2.1 ∧ (lstF f g k).2.2 < g k))) : lstF f g (k + 1) = lstF f g k := cif_f h

set_option maxRecDepth 20000 in
theorem lX9_write (hs : SK R N) {V : VV} (hV : VO V) (hq : ∀ (I' : HI) (L' : HL), (∀ q, FC q → I' q = I q) → WC I' R N n 1 V → Q (vI (oWrite V)) I' L' R N n) {I1 : HI} {L1 : HL} (hI1 : ∀ q, FC q → I1 q = I q) (hC1 : WC I1 R N n 1 V) (ho : (∀ i, i < 31 → I1 60 i = owV V i)) : WP sc 6 0 0 mX9_write 26 [vR 9 0, vI (-1000000005), vL 0, vU, vI (-1), vU] [] I1 L1 R N n Q := by
  have h6 := hV.1.2
  have lp : ∀ (k j : Nat) (I1 : HI) (L1 : HL), j + k = 32 → (∀ q, FC q → I1 q = I q) → WC I1 R N n 1 V → (∀ i, i < 31 → I1 60 i = owV V i) → WP sc 6 0 0 mX9_write 26 [vR 9 0, vI (fSt (fW V) cdN (-1000000005) 0 j).1, vL (fSt (fW V) cdN (-1000000005) 0 j).2, vU, vI (nI j - 1), vU] [] I1 L1 R N n Q := by
    intro k
    induction k with
    | zero =>
      intro j I1 L1 hj hI1 hC1 ho
      refine w_iload dX9_write_26 rfl ?_
      refine w_bipush dX9_write_28 bp_31 ?_
      obtain rfl : j = 32 := by omega
      refine w_icmp_ge (tgt := 109) dX9_write_30 (by decide) (fun c30 => ?_) (fun c30 => ?_)
      · refine w_iload_n dX9_write_109 rfl ?_
        refine w_ireturn dX9_write_110 rfl rfl ?_
        exact hq I1 L1 hI1 hC1
      · exact absurd (by decide) c30
    | succ k ih =>
      intro j I1 L1 hj hI1 hC1 ho
      refine w_iload dX9_write_26 rfl ?_
      refine w_bipush dX9_write_28 bp_31 ?_
      refine w_icmp_ge (tgt := 109) dX9_write_30 (by decide) (fun c30 => ?_) (fun c30 => ?_)
      · exact absurd c30 (by rcases (show j = 0 ∨ ∃ i, j = i + 1 by cases j with | zero => exact Or.inl rfl | succ i => exact Or.inr ⟨i, rfl⟩) with rfl | ⟨i, rfl⟩ <;> first | decide | (rw [nI_pred]; exact fun q => absurd ((nI_leI (a := 31) (by omega) (by omega)).mp q) (by omega)))
      · rcases (show j = 0 ∨ ∃ i, j = i + 1 by cases j with | zero => exact Or.inl rfl | succ i => exact Or.inr ⟨i, rfl⟩) with rfl | ⟨i, rfl⟩
        · refine w_iload dX9_write_33 rfl ?_
          refine w_if_ge (tgt := 43) dX9_write_35 (by decide) (fun c35 => ?_) (fun c35 => ?_)
          · exact absurd c35 (by decide)
          · refine w_ldc dX9_write_38 kcX9_141 ?_
            refine w_goto (tgt := 45) dX9_write_40 (by decide) ?_
            refine w_istore (al' := [_, _, _, _, _, _]) dX9_write_45 rfl rfl rfl ?_
            refine w_aload_n dX9_write_47 rfl ?_
            refine w_getR dX9_write_48 flX9_26 rfl (hs.r (a := 0) (j := 3) (b := 59) 2 rfl) ?_
            refine w_aload_n dX9_write_51 rfl ?_
            refine w_getR dX9_write_52 flX9_10 rfl (hs.r (a := 0) (j := 0) (b := 1) 0 rfl) ?_
            refine w_iload dX9_write_55 rfl ?_
            refine c_Vv (t := 2) (as := [_, _]) (d' := 4) dX9_write_57 mlX9_202 moX2_takeCard mvX2_takeCard ⟨rfl, rfl⟩ rfl rfl rfl rfl rfl (by decide) (sX2_takeCard hs (Or.inl rfl) hV hC1 (cd := cdN 0) (fun I3 hI3 hf3 => ?_))
            have hW3 : WC I3 R N n 1 V := hC1.keep hV (fun z hz => hI3 z (by unfold WA at hz; omega) (by unfold WA at hz; omega))
            refine w_aload_n dX9_write_60 rfl ?_
            refine w_getR dX9_write_61 flX9_26 rfl (hs.r (a := 0) (j := 3) (b := 59) 2 rfl) ?_
            refine w_aload_n dX9_write_64 rfl ?_
            refine w_getR dX9_write_65 flX9_10 rfl (hs.r (a := 0) (j := 0) (b := 1) 0 rfl) ?_
            refine w_iload dX9_write_68 rfl ?_
            refine c_Vv (t := 2) (as := [_, _]) (d' := 5) dX9_write_70 mlX9_177 moX2_tally mvX2_tally ⟨rfl, rfl⟩ rfl rfl rfl rfl rfl (by decide) (sX2_tally hs (Or.inl rfl) hV hW3 (cdN_ok (i := 0) (by omega)) (oF := owV V) (fun i hi => by rw [hI3 60 (by decide) (by decide)]; exact ho i hi) hf3 (fun I4 L4 hI4 hL4 l1 l2 l3 l4 => ?_))
            have hW4 : WC I4 R N n 1 V := hW3.keep hV (fun z hz => hI4 z (by unfold WA at hz; omega) (by unfold WA at hz; omega))
            have hX4 : ∀ z, FC z → I4 z = I z := fun z h => (hI4 z (by unfold FC at h; omega) (by unfold FC at h; omega)).trans ((hI3 z (by unfold FC at h; omega) (by unfold FC at h; omega)).trans (hI1 z h))
            have ho4 : (∀ i, i < 31 → I4 60 i = owV V i) := fun i hi => by rw [hI4 60 (by decide) (by decide), hI3 60 (by decide) (by decide)]; exact ho i hi
            have l1 : L4 59 8 = fW V 0 := l1
            refine w_iload dX9_write_73 rfl ?_
            refine w_ldc dX9_write_75 kcX9_141 ?_
            refine w_icmp_eq (tgt := 92) dX9_write_77 (by decide) (fun c77 => ?_) (fun c77 => ?_)
            · refine w_iload dX9_write_92 rfl ?_
              refine w_istore_n (al' := [_, _, _, _, _, _]) dX9_write_94 rfl rfl rfl ?_
              refine w_aload_n dX9_write_95 rfl ?_
              refine w_getR dX9_write_96 flX9_26 rfl (hs.r (a := 0) (j := 3) (b := 59) 2 rfl) ?_
              refine w_getL dX9_write_99 flX9_180 rfl ?_
              refine w_topL l1 ?_
              refine w_lstore_n (al' := [_, _, _, _, _, _]) dX9_write_102 rfl rfl rfl ?_
              refine w_iinc (al' := [_, _, _, _, _, _]) dX9_write_103 rfl rfl ic_1 rfl ?_
              refine w_goto (tgt := 26) dX9_write_106 (by decide) ?_
              refine w_kill (i := 5) (al' := [_, _, _, _, _, _]) rfl ?_
              rw [m1_p]
              exact ih 1 I4 L4 (by omega) hX4 hW4 ho4
            · exact absurd rfl c77
        · refine w_iload dX9_write_33 rfl ?_
          refine w_top (y := nI i) (nI_pred i) ?_
          refine w_if_ge (tgt := 43) dX9_write_35 (by decide) (fun c35 => ?_) (fun c35 => ?_)
          · refine w_iload dX9_write_43 rfl ?_
            refine w_top (y := nI i) (nI_pred i) ?_
            refine w_istore (al' := [_, _, _, _, _, _]) dX9_write_45 rfl rfl rfl ?_
            refine w_aload_n dX9_write_47 rfl ?_
            refine w_getR dX9_write_48 flX9_26 rfl (hs.r (a := 0) (j := 3) (b := 59) 2 rfl) ?_
            refine w_aload_n dX9_write_51 rfl ?_
            refine w_getR dX9_write_52 flX9_10 rfl (hs.r (a := 0) (j := 0) (b := 1) 0 rfl) ?_
            refine w_iload dX9_write_55 rfl ?_
            refine c_Vv (t := 2) (as := [_, _]) (d' := 4) dX9_write_57 mlX9_202 moX2_takeCard mvX2_takeCard ⟨rfl, rfl⟩ rfl rfl rfl rfl rfl (by decide) (sX2_takeCard hs (Or.inl rfl) hV hC1 (cd := cdN (i + 1)) (fun I3 hI3 hf3 => ?_))
            have hW3 : WC I3 R N n 1 V := hC1.keep hV (fun z hz => hI3 z (by unfold WA at hz; omega) (by unfold WA at hz; omega))
            refine w_aload_n dX9_write_60 rfl ?_
            refine w_getR dX9_write_61 flX9_26 rfl (hs.r (a := 0) (j := 3) (b := 59) 2 rfl) ?_
            refine w_aload_n dX9_write_64 rfl ?_
            refine w_getR dX9_write_65 flX9_10 rfl (hs.r (a := 0) (j := 0) (b := 1) 0 rfl) ?_
            refine w_iload dX9_write_68 rfl ?_
            refine c_Vv (t := 2) (as := [_, _]) (d' := 5) dX9_write_70 mlX9_177 moX2_tally mvX2_tally ⟨rfl, rfl⟩ rfl rfl rfl rfl rfl (by decide) (sX2_tally hs (Or.inl rfl) hV hW3 (cdN_ok (i := (i + 1)) (by omega)) (oF := owV V) (fun i hi => by rw [hI3 60 (by decide) (by decide)]; exact ho i hi) hf3 (fun I4 L4 hI4 hL4 l1 l2 l3 l4 => ?_))
            have hW4 : WC I4 R N n 1 V := hW3.keep hV (fun z hz => hI4 z (by unfold WA at hz; omega) (by unfold WA at hz; omega))
            have hX4 : ∀ z, FC z → I4 z = I z := fun z h => (hI4 z (by unfold FC at h; omega) (by unfold FC at h; omega)).trans ((hI3 z (by unfold FC at h; omega) (by unfold FC at h; omega)).trans (hI1 z h))
            have ho4 : (∀ i, i < 31 → I4 60 i = owV V i) := fun i hi => by rw [hI4 60 (by decide) (by decide), hI3 60 (by decide) (by decide)]; exact ho i hi
            have l1 : L4 59 8 = fW V (i + 1) := l1
            refine w_iload dX9_write_73 rfl ?_
            refine w_ldc dX9_write_75 kcX9_141 ?_
            refine w_icmp_eq (tgt := 92) dX9_write_77 (by decide) (fun c77 => ?_) (fun c77 => ?_)
            · exact absurd c77 (nI_none (by omega))
            · refine w_aload_n dX9_write_80 rfl ?_
              refine w_getR dX9_write_81 flX9_26 rfl (hs.r (a := 0) (j := 3) (b := 59) 2 rfl) ?_
              refine w_getL dX9_write_84 flX9_180 rfl ?_
              refine w_topL l1 ?_
              refine w_lload_n dX9_write_87 rfl ?_
              refine w_lcmp dX9_write_88 ?_
              refine w_if_ge (tgt := 103) dX9_write_89 (by decide) (fun c89 => ?_) (fun c89 => ?_)
              · have c89 := Int64.not_lt.mpr ((lg_cmp_ge _ _).mp c89)
                refine w_iinc (al' := [_, _, _, _, _, _]) dX9_write_103 rfl rfl ic_1 rfl ?_
                refine w_goto (tgt := 26) dX9_write_106 (by decide) ?_
                refine w_kill (i := 5) (al' := [_, _, _, _, _, _]) rfl ?_
                rw [m1_p]
                have hgo := ih (i + 2) I4 L4 (by omega) hX4 hW4 ho4
                rw [fSt_f c89] at hgo
                exact hgo
              · have c89 := Int64.not_le.mp (fun q => c89 ((lg_cmp_ge _ _).mpr q))
                refine w_iload dX9_write_92 rfl ?_
                refine w_istore_n (al' := [_, _, _, _, _, _]) dX9_write_94 rfl rfl rfl ?_
                refine w_aload_n dX9_write_95 rfl ?_
                refine w_getR dX9_write_96 flX9_26 rfl (hs.r (a := 0) (j := 3) (b := 59) 2 rfl) ?_
                refine w_getL dX9_write_99 flX9_180 rfl ?_
                refine w_topL l1 ?_
                refine w_lstore_n (al' := [_, _, _, _, _, _]) dX9_write_102 rfl rfl rfl ?_
                refine w_iinc (al' := [_, _, _, _, _, _]) dX9_write_103 rfl rfl ic_1 rfl ?_
                refine w_goto (tgt := 26) dX9_write_106 (by decide) ?_
                refine w_kill (i := 5) (al' := [_, _, _, _, _, _]) rfl ?_
                rw [m1_p]
                have hgo := ih (i + 2) I4 L4 (by omega) hX4 hW4 ho4
                rw [fSt_t c89] at hgo
                exact hgo
          · exact absurd (nI_pos' (by omega)) c35
  exact lp 32 0 I1 L1 rfl hI1 hC1 ho

set_option maxRecDepth 20000 in
theorem sX9_write (hs : SK R N) {V : VV} (hV : VO V) (hC : WC I R N n 1 V)  (hq : ∀ (I' : HI) (L' : HL), (∀ q, FC q → I' q = I q) → WC I' R N n 1 V → Q (vI (oWrite V)) I' L' R N n) : CA sc 6 0 0 mX9_write [vR 9 0] I L R N n Q := by
  refine ca_in (al := [_, _, _, _, _, _]) rfl ?_
  refine w_aload_n dX9_write_0 rfl ?_
  refine w_getR dX9_write_1 flX9_26 rfl (hs.r (a := 0) (j := 3) (b := 59) 2 rfl) ?_
  refine w_aload_n dX9_write_4 rfl ?_
  refine w_getR dX9_write_5 flX9_10 rfl (hs.r (a := 0) (j := 0) (b := 1) 0 rfl) ?_
  refine w_aload_n dX9_write_8 rfl ?_
  refine w_getR dX9_write_9 flX9_10 rfl (hs.r (a := 0) (j := 0) (b := 1) 0 rfl) ?_
  rcases hV.2.2.2.2.2.1 with hv3 | ⟨r, hr, hv3⟩
  · have howe := owV_n hv3
    refine c_V (t := 8) (as := []) (d' := 2) dX9_write_12 mlX9_193 moX8_ruleInForce mvX8_ruleInForce ⟨rfl, rfl⟩ rfl rfl rfl rfl rfl (by decide) (sX8_ruleInForceN hs (Or.inl rfl) (hC.1.2.2.1.trans (told_n hv3)) ?_)
    refine c_Vv (t := 2) (as := [_, _]) (d' := 3) dX9_write_15 mlX9_205 moX2_takeRule mvX2_takeRule ⟨rfl, rfl⟩ rfl rfl rfl rfl rfl (by decide) (sX2_takeRuleN hs (Or.inl rfl) hV hC (fun I1 hI1 ho1 => ?_))
    have ho2 : (∀ i, i < 31 → I1 60 i = owV V i) := fun j hj => by rw [howe]; exact ho1 j hj
    have hC1 : WC I1 R N n 1 V := hC.keep hV (fun z hz => hI1 z (by unfold WA at hz; omega) (by unfold WA at hz; omega))
    refine w_ldc dX9_write_18 kcX9_141 ?_
    refine w_istore_n (al' := [_, _, _, _, _, _]) dX9_write_20 rfl rfl rfl ?_
    refine w_lconst (v := 0) dX9_write_21 rfl ?_
    refine w_lstore_n (al' := [_, _, _, _, _, _]) dX9_write_22 rfl rfl rfl ?_
    refine w_iconst dX9_write_23 ic_m1 ?_
    refine w_istore (al' := [_, _, _, _, _, _]) dX9_write_24 rfl rfl rfl ?_
    exact lX9_write hs hV hq (fun z h => hI1 z (by unfold FC at h; omega) (by unfold FC at h; omega)) hC1 ho2
  · have hr8 := hV.2.1.2
    have howe := owV_s hv3 (by omega)
    have hrl := hs.rules (Or.inl rfl) (show r < 8 by omega)
    refine c_V (t := 8) (as := []) (d' := 2) dX9_write_12 mlX9_193 moX8_ruleInForce mvX8_ruleInForce ⟨rfl, rfl⟩ rfl rfl rfl rfl rfl (by decide) (sX8_ruleInForceS hs (Or.inl rfl) (hC.1.2.2.1.trans (told_s hv3 (by omega))) (hC.1.2.1.trans hV.2.1.1) hr8 hr ?_)
    refine c_Vv (t := 2) (as := [_, _]) (d' := 3) dX9_write_15 mlX9_205 moX2_takeRule mvX2_takeRule ⟨rfl, rfl⟩ rfl rfl rfl rfl rfl (by decide) (sX2_takeRuleS hs (Or.inl rfl) hV hC hrl.2.1 hrl.2.2 (rule_c hV hC hr) (by omega) (by omega) (by omega) (by omega) (fun I1 hI1 ho1 => ?_))
    have ho2 : (∀ i, i < 31 → I1 60 i = owV V i) := fun j hj => by rw [howe, ← ow_own hC hr]; exact ho1 j hj
    have hC1 : WC I1 R N n 1 V := hC.keep hV (fun z hz => hI1 z (by unfold WA at hz; omega) (by unfold WA at hz; omega))
    refine w_ldc dX9_write_18 kcX9_141 ?_
    refine w_istore_n (al' := [_, _, _, _, _, _]) dX9_write_20 rfl rfl rfl ?_
    refine w_lconst (v := 0) dX9_write_21 rfl ?_
    refine w_lstore_n (al' := [_, _, _, _, _, _]) dX9_write_22 rfl rfl rfl ?_
    refine w_iconst dX9_write_23 ic_m1 ?_
    refine w_istore (al' := [_, _, _, _, _, _]) dX9_write_24 rfl rfl rfl ?_
    exact lX9_write hs hV hq (fun z h => hI1 z (by unfold FC at h; omega) (by unfold FC at h; omega)) hC1 ho2

set_option maxRecDepth 20000 in
theorem lX10_write (hs : SK R N) {V : VV} (hV : VO V) (hI : I 118 = V) (hq : ∀ (I' : HI) (L' : HL), (∀ q, FM q → I' q = I q) → I' 118 = V → Q (vI (oWrite V)) I' L' R N n) : WP sc 5 0 0 mX10_write 16 [vR 10 117, vI (V 4), vI (-1), vL (-1), vU, vI (-1)] [] I L R N n Q := by
  have h6 := hV.1.2
  have lp : ∀ (k j : Nat) (I1 : HI) (L1 : HL), j + k = 32 → (∀ q, FM q → I1 q = I q) → (∃ x, I1 118 = va_up V 4 x) → WP sc 5 0 0 mX10_write 16 [vR 10 117, vI (V 4), vI (fSt (fW V) (fun i => nI i - 1) (-1) (-1) j).1, vL (fSt (fW V) (fun i => nI i - 1) (-1) (-1) j).2, vU, vI (nI j - 1)] [] I1 L1 R N n Q := by
    intro k
    induction k with
    | zero =>
      intro j I1 L1 hj hI1 hx
      refine w_iload dX10_write_16 rfl ?_
      refine w_bipush dX10_write_18 bp_31 ?_
      obtain rfl : j = 32 := by omega
      refine w_icmp_ge (tgt := 87) dX10_write_20 (by decide) (fun c20 => ?_) (fun c20 => ?_)
      · refine w_aload_n dX10_write_87 rfl ?_
        refine w_getR dX10_write_88 flX10_9 rfl (hs.r (a := 117) (j := 0) (b := 118) 116 rfl) ?_
        refine w_iconst dX10_write_91 ic_4 ?_
        refine w_iload_n dX10_write_92 rfl ?_
        refine w_iast (q := 4) dX10_write_93 rfl (hs.n (a := 118) (z := 1452) 72 rfl) (by decide) ?_
        refine w_iload_n dX10_write_94 rfl ?_
        refine c_S (as := [_]) (d' := 0) dX10_write_95 (Or.inl mlX10_162) moX10_told0 msX10_told0 rfl rfl rfl rfl rfl (by decide) (sX10_told0 ?_)
        refine w_ireturn dX10_write_98 rfl rfl ?_
        obtain ⟨x, hx⟩ := hx
        refine q_e ?_ (hq _ L1 (fun z h => (va_up_ne _ _ h.1).trans (hI1 z h)) (by rw [va_up_self, hx, up_up, up_id]))
        exact (cd_told _ (best_in (fW V) 31).1).symm
      · exact absurd (by decide) c20
    | succ k ih =>
      intro j I1 L1 hj hI1 hx
      refine w_iload dX10_write_16 rfl ?_
      refine w_bipush dX10_write_18 bp_31 ?_
      refine w_icmp_ge (tgt := 87) dX10_write_20 (by decide) (fun c20 => ?_) (fun c20 => ?_)
      · exact absurd c20 (by rcases (show j = 0 ∨ ∃ i, j = i + 1 by cases j with | zero => exact Or.inl rfl | succ i => exact Or.inr ⟨i, rfl⟩) with rfl | ⟨i, rfl⟩ <;> first | decide | (rw [nI_pred]; exact fun q => absurd ((nI_leI (a := 31) (by omega) (by omega)).mp q) (by omega)))
      · refine w_aload_n dX10_write_23 rfl ?_
        refine w_getR dX10_write_24 flX10_9 rfl (hs.r (a := 117) (j := 0) (b := 118) 116 rfl) ?_
        refine w_iconst dX10_write_27 ic_4 ?_
        refine w_iload dX10_write_28 rfl ?_
        refine w_iast (q := 4) dX10_write_30 rfl (hs.n (a := 118) (z := 1452) 72 rfl) (by decide) ?_
        refine w_heap (fun I2 e2 => ?_)
        have hA2 : ∀ z, FM z → I2 z = I1 z := fun z h => by rw [e2]; exact va_up_ne _ _ h.1
        have hV2 : I2 118 = va_up V 4 (nI j - 1) := by obtain ⟨x, hx⟩ := hx; rw [e2, va_up_self, hx, up_up]
        refine w_aload_n dX10_write_31 rfl ?_
        refine c_Vv (t := 10) (as := []) (d' := 4) dX10_write_32 mlX10_201 moX10_findLibrary mvX10_findLibrary ⟨rfl, rfl⟩ rfl rfl rfl rfl rfl (by decide) (sX10_findLibrary hs (V := va_up V 4 (nI j - 1)) hV2 (cd_val hV (by omega)) (fun I3 L3 hI3 hL3 l1 l2 l3 l4 => ?_))
        have l1 : L3 117 12 = fW V j := l1.trans (lib_4 hV (by omega))
        have hX3 : ∀ z, FM z → I3 z = I z := fun z h => (hI3 z (by unfold FM at h; omega) (by unfold FM at h; omega) (by unfold FM at h; omega)).trans ((hA2 z h).trans (hI1 z h))
        have hV3 : ∃ x, I3 118 = va_up V 4 x := ⟨_, (hI3 118 (by decide) (by decide) (by decide)).trans hV2⟩
        rcases (show j = 0 ∨ ∃ i, j = i + 1 by cases j with | zero => exact Or.inl rfl | succ i => exact Or.inr ⟨i, rfl⟩) with rfl | ⟨i, rfl⟩
        · refine w_lload_n dX10_write_35 rfl ?_
          refine w_lconst (v := 0) dX10_write_36 rfl ?_
          refine w_lcmp dX10_write_37 ?_
          refine w_if_lt (tgt := 50) dX10_write_38 (by decide) (fun c38 => ?_) (fun c38 => ?_)
          · refine w_iload dX10_write_50 rfl ?_
            refine w_goto (tgt := 56) dX10_write_52 (by decide) ?_
            refine w_istore_n (al' := [_, _, _, _, _, _]) dX10_write_56 rfl rfl rfl ?_
            refine w_lload_n dX10_write_57 rfl ?_
            refine w_lconst (v := 0) dX10_write_58 rfl ?_
            refine w_lcmp dX10_write_59 ?_
            refine w_if_lt (tgt := 72) dX10_write_60 (by decide) (fun c60 => ?_) (fun c60 => ?_)
            · refine w_aload_n dX10_write_72 rfl ?_
              refine w_getL dX10_write_73 flX10_186 rfl ?_
              refine w_topL l1 ?_
              refine w_goto (tgt := 80) dX10_write_76 (by decide) ?_
              refine w_lstore_n (al' := [_, _, _, _, _, _]) dX10_write_80 rfl rfl rfl ?_
              refine w_iinc (al' := [_, _, _, _, _, _]) dX10_write_81 rfl rfl ic_1 rfl ?_
              refine w_goto (tgt := 16) dX10_write_84 (by decide) ?_
              rw [m1_p]
              exact ih 1 I3 L3 (by omega) hX3 hV3
            · exact absurd (show lg_cmp (-1) 0 < 0 by decide) c60
          · exact absurd (show lg_cmp (-1) 0 < 0 by decide) c38
        · refine w_lload_n dX10_write_35 rfl ?_
          refine w_lconst (v := 0) dX10_write_36 rfl ?_
          refine w_lcmp dX10_write_37 ?_
          refine w_if_lt (tgt := 50) dX10_write_38 (by decide) (fun c38 => ?_) (fun c38 => ?_)
          · exact absurd ((lg_cmp_lt _ _).mp c38) (by rw [show (fSt (fW V) (fun i => nI i - 1) (-1) (-1) (i + 1)).2 = fW V (bestF (fW V) i).1 from (best_in (fW V) i).2]; exact libD_nn hV _ _)
          · refine w_aload_n dX10_write_41 rfl ?_
            refine w_getL dX10_write_42 flX10_186 rfl ?_
            refine w_topL l1 ?_
            refine w_lload_n dX10_write_45 rfl ?_
            refine w_lcmp dX10_write_46 ?_
            refine w_if_ge (tgt := 55) dX10_write_47 (by decide) (fun c47 => ?_) (fun c47 => ?_)
            · have c47 := Int64.not_lt.mpr ((lg_cmp_ge _ _).mp c47)
              refine w_iload_n dX10_write_55 rfl ?_
              refine w_istore_n (al' := [_, _, _, _, _, _]) dX10_write_56 rfl rfl rfl ?_
              refine w_lload_n dX10_write_57 rfl ?_
              refine w_lconst (v := 0) dX10_write_58 rfl ?_
              refine w_lcmp dX10_write_59 ?_
              refine w_if_lt (tgt := 72) dX10_write_60 (by decide) (fun c60 => ?_) (fun c60 => ?_)
              · exact absurd ((lg_cmp_lt _ _).mp c60) (by rw [show (fSt (fW V) (fun i => nI i - 1) (-1) (-1) (i + 1)).2 = fW V (bestF (fW V) i).1 from (best_in (fW V) i).2]; exact libD_nn hV _ _)
              · refine w_aload_n dX10_write_63 rfl ?_
                refine w_getL dX10_write_64 flX10_186 rfl ?_
                refine w_topL l1 ?_
                refine w_lload_n dX10_write_67 rfl ?_
                refine w_lcmp dX10_write_68 ?_
                refine w_if_ge (tgt := 79) dX10_write_69 (by decide) (fun c69 => ?_) (fun c69 => ?_)
                · refine w_lload_n dX10_write_79 rfl ?_
                  refine w_lstore_n (al' := [_, _, _, _, _, _]) dX10_write_80 rfl rfl rfl ?_
                  refine w_iinc (al' := [_, _, _, _, _, _]) dX10_write_81 rfl rfl ic_1 rfl ?_
                  refine w_goto (tgt := 16) dX10_write_84 (by decide) ?_
                  rw [m1_p]
                  have hgo := ih (i + 2) I3 L3 (by omega) hX3 hV3
                  rw [fSt_f c47] at hgo
                  exact hgo
                · exact absurd (Int64.not_le.mp (fun q => c69 ((lg_cmp_ge _ _).mpr q))) c47
            · have c47 := Int64.not_le.mp (fun q => c47 ((lg_cmp_ge _ _).mpr q))
              refine w_iload dX10_write_50 rfl ?_
              refine w_goto (tgt := 56) dX10_write_52 (by decide) ?_
              refine w_istore_n (al' := [_, _, _, _, _, _]) dX10_write_56 rfl rfl rfl ?_
              refine w_lload_n dX10_write_57 rfl ?_
              refine w_lconst (v := 0) dX10_write_58 rfl ?_
              refine w_lcmp dX10_write_59 ?_
              refine w_if_lt (tgt := 72) dX10_write_60 (by decide) (fun c60 => ?_) (fun c60 => ?_)
              · exact absurd ((lg_cmp_lt _ _).mp c60) (by rw [show (fSt (fW V) (fun i => nI i - 1) (-1) (-1) (i + 1)).2 = fW V (bestF (fW V) i).1 from (best_in (fW V) i).2]; exact libD_nn hV _ _)
              · refine w_aload_n dX10_write_63 rfl ?_
                refine w_getL dX10_write_64 flX10_186 rfl ?_
                refine w_topL l1 ?_
                refine w_lload_n dX10_write_67 rfl ?_
                refine w_lcmp dX10_write_68 ?_
                refine w_if_ge (tgt := 79) dX10_write_69 (by decide) (fun c69 => ?_) (fun c69 => ?_)
                · exact absurd c47 (Int64.not_lt.mpr ((lg_cmp_ge _ _).mp c69))
                · refine w_aload_n dX10_write_72 rfl ?_
                  refine w_getL dX10_write_73 flX10_186 rfl ?_
                  refine w_topL l1 ?_
                  refine w_goto (tgt := 80) dX10_write_76 (by decide) ?_
                  refine w_lstore_n (al' := [_, _, _, _, _, _]) dX10_write_80 rfl rfl rfl ?_
                  refine w_iinc (al' := [_, _, _, _, _, _]) dX10_write_81 rfl rfl ic_1 rfl ?_
                  refine w_goto (tgt := 16) dX10_write_84 (by decide) ?_
                  rw [m1_p]
                  have hgo := ih (i + 2) I3 L3 (by omega) hX3 hV3
                  rw [fSt_t c47] at hgo
                  exact hgo
  exact lp 32 0 I L rfl (fun _ _ => rfl) ⟨V 4, by rw [up_id]; exact hI⟩

set_option maxRecDepth 20000 in
theorem sX10_write (hs : SK R N) {V : VV} (hI : I 118 = V) (hV : VO V)  (hq : ∀ (I' : HI) (L' : HL), (∀ q, FM q → I' q = I q) → I' 118 = V → Q (vI (oWrite V)) I' L' R N n) : CA sc 5 0 0 mX10_write [vR 10 117] I L R N n Q := by
  refine ca_in (al := [_, _, _, _, _, _]) rfl ?_
  refine w_aload_n dX10_write_0 rfl ?_
  refine w_getR dX10_write_1 flX10_9 rfl (hs.r (a := 117) (j := 0) (b := 118) 116 rfl) ?_
  refine w_iconst dX10_write_4 ic_4 ?_
  refine w_iald (q := 4) dX10_write_5 rfl (hs.n (a := 118) (z := 1452) 72 rfl) (by decide) ?_
  refine w_top (y := V 4) (congrFun hI 4) ?_
  refine w_istore_n (al' := [_, _, _, _, _, _]) dX10_write_6 rfl rfl rfl ?_
  refine w_iconst dX10_write_7 ic_m1 ?_
  refine w_istore_n (al' := [_, _, _, _, _, _]) dX10_write_8 rfl rfl rfl ?_
  refine w_ldc2 dX10_write_9 kcX10_205 ?_
  refine w_lstore_n (al' := [_, _, _, _, _, _]) dX10_write_12 rfl rfl rfl ?_
  refine w_iconst dX10_write_13 ic_m1 ?_
  refine w_istore (al' := [_, _, _, _, _, _]) dX10_write_14 rfl rfl rfl ?_
  exact lX10_write hs hV hI hq

set_option maxRecDepth 20000 in
theorem lX9_least (hs : SK R N) {V : VV} (hV : VO V) (hq : ∀ (I' : HI) (L' : HL), (∀ q, FC q → I' q = I q) → WC I' R N n 1 V → Q (vI (oLeast V)) I' L' R N n) {I1 : HI} {L1 : HL} (hI1 : ∀ q, FC q → I1 q = I q) (hC1 : WC I1 R N n 1 V) (hf : (∀ s, s < nS V → ∀ j, j < 31 → I1 (62 + s) j = forgV V (V (6 + 7 * s + 1)) (told (V 4)) (nI j))) : WP sc 6 0 0 mX9_least 29 [vR 9 0, vI (-1000000005), vL 0, vU, vL 0, vU, vI (nI 0)] [] I1 L1 R N n Q := by
  have h6 := hV.1.2
  have h8 := hV.2.1.2
  have lp : ∀ (k j : Nat) (I1 : HI) (L1 : HL), j + k = nRu V → (∀ q, FC q → I1 q = I q) → WC I1 R N n 1 V → (∀ s, s < nS V → ∀ j, j < 31 → I1 (62 + s) j = forgV V (V (6 + 7 * s + 1)) (told (V 4)) (nI j)) → WP sc 6 0 0 mX9_least 29 [vR 9 0, vI (told (lstF (fL V) (gL V) j).1), vL (lstF (fL V) (gL V) j).2.1, vU, vL (lstF (fL V) (gL V) j).2.2, vU, vI (nI j)] [] I1 L1 R N n Q := by
    intro k
    induction k with
    | zero =>
      intro j I1 L1 hj hI1 hC1 hf
      refine w_iload dX9_least_29 rfl ?_
      refine w_aload_n dX9_least_31 rfl ?_
      refine w_getR dX9_least_32 flX9_10 rfl (hs.r (a := 0) (j := 0) (b := 1) 0 rfl) ?_
      refine w_getI dX9_least_35 flX9_216 rfl ?_
      refine w_top (y := nI (nRu V)) (hC1.1.2.1.trans hV.2.1.1) ?_
      refine w_icmp_ge (tgt := 148) dX9_least_38 (by decide) (fun c38 => ?_) (fun c38 => ?_)
      · obtain rfl : j = nRu V := by omega
        refine w_iload_n dX9_least_148 rfl ?_
        refine w_ireturn dX9_least_149 rfl rfl ?_
        exact hq I1 L1 hI1 hC1
      · exact absurd (nI_le (a := nRu V) (by omega) (by omega)) c38
    | succ k ih =>
      intro j I1 L1 hj hI1 hC1 hf
      refine w_iload dX9_least_29 rfl ?_
      refine w_aload_n dX9_least_31 rfl ?_
      refine w_getR dX9_least_32 flX9_10 rfl (hs.r (a := 0) (j := 0) (b := 1) 0 rfl) ?_
      refine w_getI dX9_least_35 flX9_216 rfl ?_
      refine w_top (y := nI (nRu V)) (hC1.1.2.1.trans hV.2.1.1) ?_
      refine w_icmp_ge (tgt := 148) dX9_least_38 (by decide) (fun c38 => ?_) (fun c38 => ?_)
      · exact absurd ((nI_leI (by omega) (by omega)).mp c38) (by omega)
      · have hr : j < nRu V := by omega
        have hrl := hs.rules (Or.inl rfl) (show j < 8 by omega)
        have hlr : (lstF (fL V) (gL V) j).1 = -1 ∨ ∃ i, i < 8 ∧ (lstF (fL V) (gL V) j).1 = nI i := (lst_rng (fL V) (gL V) j).imp id (fun ⟨i, h1, h2⟩ => ⟨i, by omega, h2⟩)
        refine w_aload_n dX9_least_41 rfl ?_
        refine w_getR dX9_least_42 flX9_26 rfl (hs.r (a := 0) (j := 3) (b := 59) 2 rfl) ?_
        refine w_aload_n dX9_least_45 rfl ?_
        refine w_getR dX9_least_46 flX9_10 rfl (hs.r (a := 0) (j := 0) (b := 1) 0 rfl) ?_
        refine w_aload_n dX9_least_49 rfl ?_
        refine w_getR dX9_least_50 flX9_10 rfl (hs.r (a := 0) (j := 0) (b := 1) 0 rfl) ?_
        refine w_iload dX9_least_53 rfl ?_
        refine c_V (t := 8) (as := [_]) (d' := 1) dX9_least_55 mlX9_116 moX8_ruleAt mvX8_ruleAt ⟨rfl, rfl⟩ rfl rfl rfl rfl rfl (by decide) (sX8_ruleAtS hs (Or.inl rfl) (hC1.1.2.1.trans hV.2.1.1) h8 hr ?_)
        refine c_Vv (t := 2) (as := [_, _]) (d' := 3) dX9_least_58 mlX9_205 moX2_takeRule mvX2_takeRule ⟨rfl, rfl⟩ rfl rfl rfl rfl rfl (by decide) (sX2_takeRuleS hs (Or.inl rfl) hV hC1 hrl.2.1 hrl.2.2 (rule_c hV hC1 hr) (by omega) (by omega) (by omega) (by omega) (fun I3 hI3 ho3 => ?_))
        have hW3 : WC I3 R N n 1 V := hC1.keep hV (fun z hz => hI3 z (by unfold WA at hz; omega) (by unfold WA at hz; omega))
        rw [ow_own hC1 hr] at ho3
        refine w_aload_n dX9_least_61 rfl ?_
        refine w_getR dX9_least_62 flX9_26 rfl (hs.r (a := 0) (j := 3) (b := 59) 2 rfl) ?_
        refine w_aload_n dX9_least_65 rfl ?_
        refine w_getR dX9_least_66 flX9_10 rfl (hs.r (a := 0) (j := 0) (b := 1) 0 rfl) ?_
        refine w_aload_n dX9_least_69 rfl ?_
        refine w_getR dX9_least_70 flX9_10 rfl (hs.r (a := 0) (j := 0) (b := 1) 0 rfl) ?_
        refine w_getI dX9_least_73 flX9_145 rfl ?_
        refine w_top (y := told (V 4)) (hW3.1.2.2.2.1) ?_
        refine c_Vv (t := 2) (as := [_, _]) (d' := 5) dX9_least_76 mlX9_177 moX2_tally mvX2_tally ⟨rfl, rfl⟩ rfl rfl rfl rfl rfl (by decide) (sX2_tally hs (Or.inl rfl) hV hW3 hV.card (oF := owAt V j) ho3 (fun s hs9 i hi => by rw [hI3 (62 + s) (by omega) (by omega)]; exact hf s hs9 i hi) (fun I4 L4 hI4 hL4 l1 l2 l3 l4 => ?_))
        have hW4 : WC I4 R N n 1 V := hW3.keep hV (fun z hz => hI4 z (by unfold WA at hz; omega) (by unfold WA at hz; omega))
        have hX4 : ∀ z, FC z → I4 z = I z := fun z h => (hI4 z (by unfold FC at h; omega) (by unfold FC at h; omega)).trans ((hI3 z (by unfold FC at h; omega) (by unfold FC at h; omega)).trans (hI1 z h))
        have hf4 : (∀ s, s < nS V → ∀ j, j < 31 → I4 (62 + s) j = forgV V (V (6 + 7 * s + 1)) (told (V 4)) (nI j)) := fun s hs9 i hi => by rw [hI4 (62 + s) (by omega) (by omega), hI3 (62 + s) (by omega) (by omega)]; exact hf s hs9 i hi
        have l1 : L4 59 8 = fL V j := l1
        have l2 : L4 59 9 = gL V j := l2
        refine w_iload_n dX9_least_79 rfl ?_
        refine w_ldc dX9_least_80 kcX9_141 ?_
        refine w_icmp_eq (tgt := 122) dX9_least_82 (by decide) (fun c82 => ?_) (fun c82 => ?_)
        · refine w_iload dX9_least_122 rfl ?_
          refine w_istore_n (al' := [_, _, _, _, _, _, _]) dX9_least_124 rfl rfl rfl ?_
          refine w_aload_n dX9_least_125 rfl ?_
          refine w_getR dX9_least_126 flX9_26 rfl (hs.r (a := 0) (j := 3) (b := 59) 2 rfl) ?_
          refine w_getL dX9_least_129 flX9_180 rfl ?_
          refine w_topL l1 ?_
          refine w_lstore_n (al' := [_, _, _, _, _, _, _]) dX9_least_132 rfl rfl rfl ?_
          refine w_aload_n dX9_least_133 rfl ?_
          refine w_getR dX9_least_134 flX9_26 rfl (hs.r (a := 0) (j := 3) (b := 59) 2 rfl) ?_
          refine w_getL dX9_least_137 flX9_184 rfl ?_
          refine w_topL l2 ?_
          refine w_lstore (al' := [_, _, _, _, _, _, _]) dX9_least_140 rfl rfl rfl ?_
          refine w_iinc (al' := [_, _, _, _, _, _, _]) dX9_least_142 rfl rfl ic_1 rfl ?_
          refine w_goto (tgt := 29) dX9_least_145 (by decide) ?_
          simp only [nI_1]
          have hgo := ih (j + 1) I4 L4 (by omega) hX4 hW4 hf4
          rw [lst_t (Or.inl ((told_no hlr).mp c82)), told_s (k := j) rfl (by omega)] at hgo
          exact hgo
        · refine w_aload_n dX9_least_85 rfl ?_
          refine w_getR dX9_least_86 flX9_26 rfl (hs.r (a := 0) (j := 3) (b := 59) 2 rfl) ?_
          refine w_getL dX9_least_89 flX9_180 rfl ?_
          refine w_topL l1 ?_
          refine w_lload_n dX9_least_92 rfl ?_
          refine w_lcmp dX9_least_93 ?_
          refine w_if_lt (tgt := 122) dX9_least_94 (by decide) (fun c94 => ?_) (fun c94 => ?_)
          · refine w_iload dX9_least_122 rfl ?_
            refine w_istore_n (al' := [_, _, _, _, _, _, _]) dX9_least_124 rfl rfl rfl ?_
            refine w_aload_n dX9_least_125 rfl ?_
            refine w_getR dX9_least_126 flX9_26 rfl (hs.r (a := 0) (j := 3) (b := 59) 2 rfl) ?_
            refine w_getL dX9_least_129 flX9_180 rfl ?_
            refine w_topL l1 ?_
            refine w_lstore_n (al' := [_, _, _, _, _, _, _]) dX9_least_132 rfl rfl rfl ?_
            refine w_aload_n dX9_least_133 rfl ?_
            refine w_getR dX9_least_134 flX9_26 rfl (hs.r (a := 0) (j := 3) (b := 59) 2 rfl) ?_
            refine w_getL dX9_least_137 flX9_184 rfl ?_
            refine w_topL l2 ?_
            refine w_lstore (al' := [_, _, _, _, _, _, _]) dX9_least_140 rfl rfl rfl ?_
            refine w_iinc (al' := [_, _, _, _, _, _, _]) dX9_least_142 rfl rfl ic_1 rfl ?_
            refine w_goto (tgt := 29) dX9_least_145 (by decide) ?_
            simp only [nI_1]
            have hgo := ih (j + 1) I4 L4 (by omega) hX4 hW4 hf4
            rw [lst_t (Or.inr (Or.inl ((lg_cmp_lt _ _).mp c94))), told_s (k := j) rfl (by omega)] at hgo
            exact hgo
          · refine w_aload_n dX9_least_97 rfl ?_
            refine w_getR dX9_least_98 flX9_26 rfl (hs.r (a := 0) (j := 3) (b := 59) 2 rfl) ?_
            refine w_getL dX9_least_101 flX9_180 rfl ?_
            refine w_topL l1 ?_
            refine w_lload_n dX9_least_104 rfl ?_
            refine w_lcmp dX9_least_105 ?_
            refine w_if_ne (tgt := 142) dX9_least_106 (by decide) (fun c106 => ?_) (fun c106 => ?_)
            · refine w_iinc (al' := [_, _, _, _, _, _, _]) dX9_least_142 rfl rfl ic_1 rfl ?_
              refine w_goto (tgt := 29) dX9_least_145 (by decide) ?_
              simp only [nI_1]
              have hgo := ih (j + 1) I4 L4 (by omega) hX4 hW4 hf4
              rw [lst_f (fun z => z.elim (fun q => c82 ((told_no hlr).mpr q)) (fun z => z.elim (fun q => c94 ((lg_cmp_lt _ _).mpr q)) (fun z => c106 ((lg_cmp_eq _ _).mpr z.1))))] at hgo
              exact hgo
            · refine w_aload_n dX9_least_109 rfl ?_
              refine w_getR dX9_least_110 flX9_26 rfl (hs.r (a := 0) (j := 3) (b := 59) 2 rfl) ?_
              refine w_getL dX9_least_113 flX9_184 rfl ?_
              refine w_topL l2 ?_
              refine w_lload dX9_least_116 rfl ?_
              refine w_lcmp dX9_least_118 ?_
              refine w_if_le (tgt := 142) dX9_least_119 (by decide) (fun c119 => ?_) (fun c119 => ?_)
              · refine w_iinc (al' := [_, _, _, _, _, _, _]) dX9_least_142 rfl rfl ic_1 rfl ?_
                refine w_goto (tgt := 29) dX9_least_145 (by decide) ?_
                simp only [nI_1]
                have hgo := ih (j + 1) I4 L4 (by omega) hX4 hW4 hf4
                rw [lst_f (fun z => z.elim (fun q => c82 ((told_no hlr).mpr q)) (fun z => z.elim (fun q => c94 ((lg_cmp_lt _ _).mpr q)) (fun z => absurd z.2 (Int64.not_lt.mpr ((lg_cmp_le _ _).mp c119)))))] at hgo
                exact hgo
              · refine w_iload dX9_least_122 rfl ?_
                refine w_istore_n (al' := [_, _, _, _, _, _, _]) dX9_least_124 rfl rfl rfl ?_
                refine w_aload_n dX9_least_125 rfl ?_
                refine w_getR dX9_least_126 flX9_26 rfl (hs.r (a := 0) (j := 3) (b := 59) 2 rfl) ?_
                refine w_getL dX9_least_129 flX9_180 rfl ?_
                refine w_topL l1 ?_
                refine w_lstore_n (al' := [_, _, _, _, _, _, _]) dX9_least_132 rfl rfl rfl ?_
                refine w_aload_n dX9_least_133 rfl ?_
                refine w_getR dX9_least_134 flX9_26 rfl (hs.r (a := 0) (j := 3) (b := 59) 2 rfl) ?_
                refine w_getL dX9_least_137 flX9_184 rfl ?_
                refine w_topL l2 ?_
                refine w_lstore (al' := [_, _, _, _, _, _, _]) dX9_least_140 rfl rfl rfl ?_
                refine w_iinc (al' := [_, _, _, _, _, _, _]) dX9_least_142 rfl rfl ic_1 rfl ?_
                refine w_goto (tgt := 29) dX9_least_145 (by decide) ?_
                simp only [nI_1]
                have hgo := ih (j + 1) I4 L4 (by omega) hX4 hW4 hf4
                rw [lst_t (Or.inr (Or.inr ⟨(lg_cmp_eq _ _).mp c106, Int64.not_le.mp (fun q => c119 ((lg_cmp_le _ _).mpr q))⟩)), told_s (k := j) rfl (by omega)] at hgo
                exact hgo
  exact lp (nRu V) 0 I1 L1 (Nat.zero_add _) hI1 hC1 hf

set_option maxRecDepth 20000 in
theorem sX9_least (hs : SK R N) {V : VV} (hV : VO V) (hC : WC I R N n 1 V)  (hq : ∀ (I' : HI) (L' : HL), (∀ q, FC q → I' q = I q) → WC I' R N n 1 V → Q (vI (oLeast V)) I' L' R N n) : CA sc 6 0 0 mX9_least [vR 9 0] I L R N n Q := by
  refine ca_in (al := [_, _, _, _, _, _, _]) rfl ?_
  refine w_aload_n dX9_least_0 rfl ?_
  refine w_getR dX9_least_1 flX9_26 rfl (hs.r (a := 0) (j := 3) (b := 59) 2 rfl) ?_
  refine w_aload_n dX9_least_4 rfl ?_
  refine w_getR dX9_least_5 flX9_10 rfl (hs.r (a := 0) (j := 0) (b := 1) 0 rfl) ?_
  refine w_aload_n dX9_least_8 rfl ?_
  refine w_getR dX9_least_9 flX9_10 rfl (hs.r (a := 0) (j := 0) (b := 1) 0 rfl) ?_
  refine w_getI dX9_least_12 flX9_145 rfl ?_
  refine w_top (y := told (V 4)) (hC.1.2.2.2.1) ?_
  refine c_Vv (t := 2) (as := [_, _]) (d' := 4) dX9_least_15 mlX9_202 moX2_takeCard mvX2_takeCard ⟨rfl, rfl⟩ rfl rfl rfl rfl rfl (by decide) (sX2_takeCard hs (Or.inl rfl) hV hC (fun I3 hI3 hf3 => ?_))
  refine w_ldc dX9_least_18 kcX9_141 ?_
  refine w_istore_n (al' := [_, _, _, _, _, _, _]) dX9_least_20 rfl rfl rfl ?_
  refine w_lconst (v := 0) dX9_least_21 rfl ?_
  refine w_lstore_n (al' := [_, _, _, _, _, _, _]) dX9_least_22 rfl rfl rfl ?_
  refine w_lconst (v := 0) dX9_least_23 rfl ?_
  refine w_lstore (al' := [_, _, _, _, _, _, _]) dX9_least_24 rfl rfl rfl ?_
  refine w_iconst dX9_least_26 ic_0 ?_
  refine w_istore (al' := [_, _, _, _, _, _, _]) dX9_least_27 rfl rfl rfl ?_
  exact lX9_least hs hV hq (fun z h => hI3 z (by unfold FC at h; omega) (by unfold FC at h; omega)) (hC.keep hV (fun z hz => hI3 z (by unfold WA at hz; omega) (by unfold WA at hz; omega))) hf3

set_option maxRecDepth 20000 in
theorem lX10_least (hs : SK R N) {V : VV} (hV : VO V) (hI : I 118 = V) (hq : ∀ (I' : HI) (L' : HL), (∀ q, FM q → I' q = I q) → I' 118 = V → Q (vI (oLeast V)) I' L' R N n) : WP sc 5 0 0 mX10_least 17 [vR 10 117, vI (V 3), vI (-1), vL 0, vU, vL 0, vU, vI (nI 0)] [] I L R N n Q := by
  have h6 := hV.1.2
  have h8 := hV.2.1.2
  have lp : ∀ (k j : Nat) (I1 : HI) (L1 : HL), j + k = nRu V → (∀ q, FM q → I1 q = I q) → (∃ x, I1 118 = va_up V 3 x) → WP sc 5 0 0 mX10_least 17 [vR 10 117, vI (V 3), vI (lstF (fL V) (gL V) j).1, vL (lstF (fL V) (gL V) j).2.1, vU, vL (lstF (fL V) (gL V) j).2.2, vU, vI (nI j)] [] I1 L1 R N n Q := by
    intro k
    induction k with
    | zero =>
      intro j I1 L1 hj hI1 hx
      refine w_iload dX10_least_17 rfl ?_
      refine w_aload_n dX10_least_19 rfl ?_
      refine w_getR dX10_least_20 flX10_9 rfl (hs.r (a := 117) (j := 0) (b := 118) 116 rfl) ?_
      refine w_iconst dX10_least_23 ic_2 ?_
      refine w_iald (q := 2) dX10_least_24 rfl (hs.n (a := 118) (z := 1452) 72 rfl) (by decide) ?_
      refine w_top (y := nI (nRu V)) (by obtain ⟨x, hx⟩ := hx; rw [hx, va_up_ne _ _ (by decide)]; exact hV.2.1.1) ?_
      refine w_icmp_ge (tgt := 92) dX10_least_25 (by decide) (fun c25 => ?_) (fun c25 => ?_)
      · obtain rfl : j = nRu V := by omega
        refine w_aload_n dX10_least_92 rfl ?_
        refine w_getR dX10_least_93 flX10_9 rfl (hs.r (a := 117) (j := 0) (b := 118) 116 rfl) ?_
        refine w_iconst dX10_least_96 ic_3 ?_
        refine w_iload_n dX10_least_97 rfl ?_
        refine w_iast (q := 3) dX10_least_98 rfl (hs.n (a := 118) (z := 1452) 72 rfl) (by decide) ?_
        refine w_iload_n dX10_least_99 rfl ?_
        refine c_S (as := [_]) (d' := 0) dX10_least_100 (Or.inl mlX10_162) moX10_told0 msX10_told0 rfl rfl rfl rfl rfl (by decide) (sX10_told0 ?_)
        refine w_ireturn dX10_least_103 rfl rfl ?_
        obtain ⟨x, hx⟩ := hx
        exact hq _ L1 (fun z h => (va_up_ne _ _ h.1).trans (hI1 z h)) (by rw [va_up_self, hx, up_up, up_id])
      · exact absurd (nI_le (a := nRu V) (by omega) (by omega)) c25
    | succ k ih =>
      intro j I1 L1 hj hI1 hx
      refine w_iload dX10_least_17 rfl ?_
      refine w_aload_n dX10_least_19 rfl ?_
      refine w_getR dX10_least_20 flX10_9 rfl (hs.r (a := 117) (j := 0) (b := 118) 116 rfl) ?_
      refine w_iconst dX10_least_23 ic_2 ?_
      refine w_iald (q := 2) dX10_least_24 rfl (hs.n (a := 118) (z := 1452) 72 rfl) (by decide) ?_
      refine w_top (y := nI (nRu V)) (by obtain ⟨x, hx⟩ := hx; rw [hx, va_up_ne _ _ (by decide)]; exact hV.2.1.1) ?_
      refine w_icmp_ge (tgt := 92) dX10_least_25 (by decide) (fun c25 => ?_) (fun c25 => ?_)
      · exact absurd ((nI_leI (by omega) (by omega)).mp c25) (by omega)
      · refine w_aload_n dX10_least_28 rfl ?_
        refine w_getR dX10_least_29 flX10_9 rfl (hs.r (a := 117) (j := 0) (b := 118) 116 rfl) ?_
        refine w_iconst dX10_least_32 ic_3 ?_
        refine w_iload dX10_least_33 rfl ?_
        refine w_iast (q := 3) dX10_least_35 rfl (hs.n (a := 118) (z := 1452) 72 rfl) (by decide) ?_
        refine w_heap (fun I2 e2 => ?_)
        have hA2 : ∀ z, FM z → I2 z = I1 z := fun z h => by rw [e2]; exact va_up_ne _ _ h.1
        have hV2 : I2 118 = va_up V 3 (nI j) := by obtain ⟨x, hx⟩ := hx; rw [e2, va_up_self, hx, up_up]
        refine w_aload_n dX10_least_36 rfl ?_
        refine c_Vv (t := 10) (as := []) (d' := 4) dX10_least_37 mlX10_201 moX10_findLibrary mvX10_findLibrary ⟨rfl, rfl⟩ rfl rfl rfl rfl rfl (by decide) (sX10_findLibrary hs (V := va_up V 3 (nI j)) hV2 (hV.force (Or.inr ⟨j, by omega, rfl⟩)) (fun I3 L3 hI3 hL3 l1 l2 l3 l4 => ?_))
        have l1 : L3 117 12 = fL V j := l1.trans (lib_3 hV (by omega)).1
        have l2 : L3 117 13 = gL V j := l2.trans (lib_3 hV (by omega)).2
        have hX3 : ∀ z, FM z → I3 z = I z := fun z h => (hI3 z (by unfold FM at h; omega) (by unfold FM at h; omega) (by unfold FM at h; omega)).trans ((hA2 z h).trans (hI1 z h))
        have hV3 : ∃ x, I3 118 = va_up V 3 x := ⟨_, (hI3 118 (by decide) (by decide) (by decide)).trans hV2⟩
        refine w_iload_n dX10_least_40 rfl ?_
        refine w_if_lt (tgt := 72) dX10_least_41 (by decide) (fun c41 => ?_) (fun c41 => ?_)
        · refine w_iload dX10_least_72 rfl ?_
          refine w_istore_n (al' := [_, _, _, _, _, _, _, _]) dX10_least_74 rfl rfl rfl ?_
          refine w_aload_n dX10_least_75 rfl ?_
          refine w_getL dX10_least_76 flX10_186 rfl ?_
          refine w_topL l1 ?_
          refine w_lstore_n (al' := [_, _, _, _, _, _, _, _]) dX10_least_79 rfl rfl rfl ?_
          refine w_aload_n dX10_least_80 rfl ?_
          refine w_getL dX10_least_81 flX10_190 rfl ?_
          refine w_topL l2 ?_
          refine w_lstore (al' := [_, _, _, _, _, _, _, _]) dX10_least_84 rfl rfl rfl ?_
          refine w_iinc (al' := [_, _, _, _, _, _, _, _]) dX10_least_86 rfl rfl ic_1 rfl ?_
          refine w_goto (tgt := 17) dX10_least_89 (by decide) ?_
          simp only [nI_1]
          have hgo := ih (j + 1) I3 L3 (by omega) hX3 hV3
          rw [lst_t (Or.inl c41)] at hgo
          exact hgo
        · refine w_aload_n dX10_least_44 rfl ?_
          refine w_getL dX10_least_45 flX10_186 rfl ?_
          refine w_topL l1 ?_
          refine w_lload_n dX10_least_48 rfl ?_
          refine w_lcmp dX10_least_49 ?_
          refine w_if_lt (tgt := 72) dX10_least_50 (by decide) (fun c50 => ?_) (fun c50 => ?_)
          · refine w_iload dX10_least_72 rfl ?_
            refine w_istore_n (al' := [_, _, _, _, _, _, _, _]) dX10_least_74 rfl rfl rfl ?_
            refine w_aload_n dX10_least_75 rfl ?_
            refine w_getL dX10_least_76 flX10_186 rfl ?_
            refine w_topL l1 ?_
            refine w_lstore_n (al' := [_, _, _, _, _, _, _, _]) dX10_least_79 rfl rfl rfl ?_
            refine w_aload_n dX10_least_80 rfl ?_
            refine w_getL dX10_least_81 flX10_190 rfl ?_
            refine w_topL l2 ?_
            refine w_lstore (al' := [_, _, _, _, _, _, _, _]) dX10_least_84 rfl rfl rfl ?_
            refine w_iinc (al' := [_, _, _, _, _, _, _, _]) dX10_least_86 rfl rfl ic_1 rfl ?_
            refine w_goto (tgt := 17) dX10_least_89 (by decide) ?_
            simp only [nI_1]
            have hgo := ih (j + 1) I3 L3 (by omega) hX3 hV3
            rw [lst_t (Or.inr (Or.inl ((lg_cmp_lt _ _).mp c50)))] at hgo
            exact hgo
          · refine w_aload_n dX10_least_53 rfl ?_
            refine w_getL dX10_least_54 flX10_186 rfl ?_
            refine w_topL l1 ?_
            refine w_lload_n dX10_least_57 rfl ?_
            refine w_lcmp dX10_least_58 ?_
            refine w_if_ne (tgt := 86) dX10_least_59 (by decide) (fun c59 => ?_) (fun c59 => ?_)
            · refine w_iinc (al' := [_, _, _, _, _, _, _, _]) dX10_least_86 rfl rfl ic_1 rfl ?_
              refine w_goto (tgt := 17) dX10_least_89 (by decide) ?_
              simp only [nI_1]
              have hgo := ih (j + 1) I3 L3 (by omega) hX3 hV3
              rw [lst_f (fun z => z.elim (fun q => c41 q) (fun z => z.elim (fun q => c50 ((lg_cmp_lt _ _).mpr q)) (fun z => c59 ((lg_cmp_eq _ _).mpr z.1))))] at hgo
              exact hgo
            · refine w_aload_n dX10_least_62 rfl ?_
              refine w_getL dX10_least_63 flX10_190 rfl ?_
              refine w_topL l2 ?_
              refine w_lload dX10_least_66 rfl ?_
              refine w_lcmp dX10_least_68 ?_
              refine w_if_le (tgt := 86) dX10_least_69 (by decide) (fun c69 => ?_) (fun c69 => ?_)
              · refine w_iinc (al' := [_, _, _, _, _, _, _, _]) dX10_least_86 rfl rfl ic_1 rfl ?_
                refine w_goto (tgt := 17) dX10_least_89 (by decide) ?_
                simp only [nI_1]
                have hgo := ih (j + 1) I3 L3 (by omega) hX3 hV3
                rw [lst_f (fun z => z.elim (fun q => c41 q) (fun z => z.elim (fun q => c50 ((lg_cmp_lt _ _).mpr q)) (fun z => absurd z.2 (Int64.not_lt.mpr ((lg_cmp_le _ _).mp c69)))))] at hgo
                exact hgo
              · refine w_iload dX10_least_72 rfl ?_
                refine w_istore_n (al' := [_, _, _, _, _, _, _, _]) dX10_least_74 rfl rfl rfl ?_
                refine w_aload_n dX10_least_75 rfl ?_
                refine w_getL dX10_least_76 flX10_186 rfl ?_
                refine w_topL l1 ?_
                refine w_lstore_n (al' := [_, _, _, _, _, _, _, _]) dX10_least_79 rfl rfl rfl ?_
                refine w_aload_n dX10_least_80 rfl ?_
                refine w_getL dX10_least_81 flX10_190 rfl ?_
                refine w_topL l2 ?_
                refine w_lstore (al' := [_, _, _, _, _, _, _, _]) dX10_least_84 rfl rfl rfl ?_
                refine w_iinc (al' := [_, _, _, _, _, _, _, _]) dX10_least_86 rfl rfl ic_1 rfl ?_
                refine w_goto (tgt := 17) dX10_least_89 (by decide) ?_
                simp only [nI_1]
                have hgo := ih (j + 1) I3 L3 (by omega) hX3 hV3
                rw [lst_t (Or.inr (Or.inr ⟨(lg_cmp_eq _ _).mp c59, Int64.not_le.mp (fun q => c69 ((lg_cmp_le _ _).mpr q))⟩))] at hgo
                exact hgo
  exact lp (nRu V) 0 I L (Nat.zero_add _) (fun _ _ => rfl) ⟨V 3, by rw [up_id]; exact hI⟩

set_option maxRecDepth 20000 in
theorem sX10_least (hs : SK R N) {V : VV} (hI : I 118 = V) (hV : VO V)  (hq : ∀ (I' : HI) (L' : HL), (∀ q, FM q → I' q = I q) → I' 118 = V → Q (vI (oLeast V)) I' L' R N n) : CA sc 5 0 0 mX10_least [vR 10 117] I L R N n Q := by
  refine ca_in (al := [_, _, _, _, _, _, _, _]) rfl ?_
  refine w_aload_n dX10_least_0 rfl ?_
  refine w_getR dX10_least_1 flX10_9 rfl (hs.r (a := 117) (j := 0) (b := 118) 116 rfl) ?_
  refine w_iconst dX10_least_4 ic_3 ?_
  refine w_iald (q := 3) dX10_least_5 rfl (hs.n (a := 118) (z := 1452) 72 rfl) (by decide) ?_
  refine w_top (y := V 3) (congrFun hI 3) ?_
  refine w_istore_n (al' := [_, _, _, _, _, _, _, _]) dX10_least_6 rfl rfl rfl ?_
  refine w_iconst dX10_least_7 ic_m1 ?_
  refine w_istore_n (al' := [_, _, _, _, _, _, _, _]) dX10_least_8 rfl rfl rfl ?_
  refine w_lconst (v := 0) dX10_least_9 rfl ?_
  refine w_lstore_n (al' := [_, _, _, _, _, _, _, _]) dX10_least_10 rfl rfl rfl ?_
  refine w_lconst (v := 0) dX10_least_11 rfl ?_
  refine w_lstore (al' := [_, _, _, _, _, _, _, _]) dX10_least_12 rfl rfl rfl ?_
  refine w_iconst dX10_least_14 ic_0 ?_
  refine w_istore (al' := [_, _, _, _, _, _, _, _]) dX10_least_15 rfl rfl rfl ?_
  exact lX10_least hs hV hI hq

end
