section
variable {sc : SC} {I : HI} {L : HL} {R : HR} {N : HN} {n : Nat} {Q : HQ}
/-- the slots: what each holds, its two numbers, its places -/
abbrev Y4 : Type := VV × VV × VV × VV
def SLO (Y : Y4) : Prop := ∀ s, s < 5 → (Y.1 s = 0 ∨ Y.1 s = 1 ∨ Y.1 s = 2 ∨ Y.1 s = 3) ∧ (Y.1 s = 1 → inN (Y.2.1 s) 0 5) ∧ (Y.1 s = 2 → inN (Y.2.1 s) 0 24)
def SLC (I : HI) (Y : Y4) : Prop := ∀ s, s < 5 → I (92 + 5 * s) 0 = Y.1 s ∧ (Y.1 s = 1 → I (93 + 5 * s) 0 = Y.2.1 s ∧ worthF (I (93 + 5 * s) 0) (I (94 + 5 * s) 0) (I (94 + 5 * s) 1) (I (94 + 5 * s) 2) = Y.2.2.1 s) ∧ (Y.1 s = 2 → I (95 + 5 * s) 1 = Y.2.1 s ∧ ∀ j, j < 24 → I (96 + 5 * s) j = Y.2.2.2 (24 * s + j)) ∧ (Y.1 s = 3 → I (92 + 5 * s) 3 = Y.2.1 s)
theorem SLC.keep {I' : HI} {Y : Y4} (h : SLC I Y) (e : ∀ q, 92 ≤ q → q < 117 → I' q = I q) : SLC I' Y := fun s hs => by
  rw [e (92 + 5 * s) (by omega) (by omega), e (93 + 5 * s) (by omega) (by omega), e (94 + 5 * s) (by omega) (by omega), e (95 + 5 * s) (by omega) (by omega), e (96 + 5 * s) (by omega) (by omega)]
  exact h s hs
noncomputable def oAsk (Y : Y4) (a k : Int32) : Int32 := cif ((0 ≤ a ∧ a ≤ 4) ∧ (0 ≤ k ∧ k ≤ 5)) (cif (Y.1 a.toNatClampNeg = 0) (-1000000011) (cif (Y.1 a.toNatClampNeg = 1 ∧ under (Y.2.1 a.toNatClampNeg) k) (Y.2.2.1 a.toNatClampNeg) (-1000000012))) (-1000000001)
noncomputable def oItem (Y : Y4) (a p : Int32) : Int32 := cif (0 ≤ a ∧ a ≤ 4) (cif (Y.1 a.toNatClampNeg = 0) (-1000000011) (cif (Y.1 a.toNatClampNeg = 2) (cif (0 ≤ p ∧ p ≤ Y.2.1 a.toNatClampNeg - 1) (cif (Y.2.2.2 (24 * a.toNatClampNeg + p.toNatClampNeg) = -1000000005) (-1000000012) (Y.2.2.2 (24 * a.toNatClampNeg + p.toNatClampNeg))) (-1000000013)) (-1000000012))) (-1000000001)
noncomputable def oRest (Y : Y4) (a m : Int32) : Int32 := cif (0 ≤ a ∧ a ≤ 4) (cif (Y.1 a.toNatClampNeg = 0) (-1000000011) (cif (Y.1 a.toNatClampNeg = 3) (cif (m = 0) (-1000000002) (remI (Y.2.1 a.toNatClampNeg) m)) (-1000000012))) (-1000000001)
theorem rem_m1 (x : Int32) : remI x (-1) = 0 := by
  have h : x / (-1) = -x := by
    apply Int32.toInt_inj.mp
    rw [Int32.toInt_div]
    show (x.toInt.tdiv (-1)).bmod _ = _
    rw [Int.tdiv_neg, Int.tdiv_one]
    exact (Int32.toInt_neg x).symm
  unfold remI
  rw [h, show -x * (-1 : Int32) = x by rw [Int32.neg_mul_neg, Int32.mul_one], Int32.sub_self]

set_option maxRecDepth 20000 in
theorem sX9_ask (hs : SK R N) {Y : Y4} (hO : SLO Y) (hS : SLC I Y) {a k : Int32} (hq : Q (vI (oAsk Y a k)) I L R N n) : CA sc 3 0 0 mX9_ask [vR 9 0, vI a, vI k] I L R N n Q := by
  refine ca_in (al := [_, _, _, _, _]) rfl ?_
  refine w_aload_n dX9_ask_0 rfl ?_
  refine w_iload_n dX9_ask_1 rfl ?_
  by_cases ha : 0 ≤ a ∧ a ≤ 4
  · obtain ⟨s, hs5, rfl⟩ := in_of (m := 4) (by decide) ha
    have hsl := hs.slots (show s < 5 by omega)
    have hcl : (nI s).toNatClampNeg = s := nI_clamp (by omega)
    obtain ⟨t0, t1, t2, t3⟩ := hS s (by omega)
    obtain ⟨o0, o1, o2⟩ := hO s (by omega)
    refine c_V (t := 9) (as := [_]) (d' := 1) dX9_ask_2 mlX9_301 moX9_slotAt mvX9_slotAt ⟨rfl, rfl⟩ rfl rfl rfl rfl rfl (by decide) (sX9_slotAtS hs (show s < 5 by omega) ?_)
    refine w_astore_n (al' := [_, _, _, _, _]) dX9_ask_5 rfl rfl rfl ?_
    refine w_aload_n dX9_ask_6 rfl ?_
    refine w_ifnullR dX9_ask_7 ?_
    refine w_iload_n dX9_ask_10 rfl ?_
    refine c_S (as := [_]) (d' := 1) dX9_ask_11 (Or.inl mlX9_106) moX9_isKind msX9_isKind rfl rfl rfl rfl rfl (by decide) (sX9_isKind ?_)
    refine w_ifB_ne (tgt := 20) dX9_ask_14 (by decide) (fun c14 => ?_) (fun c14 => ?_)
    · refine w_aload_n dX9_ask_20 rfl ?_
      refine w_iconst dX9_ask_21 ic_1 ?_
      rcases (show Y.1 s = 0 ∨ (Y.1 s ≠ 0 ∧ Y.1 s ≠ 1) ∨ Y.1 s = 1 by by_cases q0 : Y.1 s = 0; exact Or.inl q0; by_cases q1 : Y.1 s = 1; exact Or.inr (Or.inr q1); exact Or.inr (Or.inl ⟨q0, q1⟩)) with hw | hw | hw
      · refine c_V (t := 5) (as := [_]) (d' := 0) dX9_ask_22 mlX9_321 moX5_refusalUnless mvX5_refusalUnless ⟨rfl, rfl⟩ rfl rfl rfl rfl rfl (by decide) (sX5_refusalUnless ?_)
        refine w_top (y := -1000000011) (by rw [t0]; exact if_pos hw) ?_
        refine w_istore (al' := [_, _, _, _, _]) dX9_ask_25 rfl rfl rfl ?_
        refine w_iload dX9_ask_27 rfl ?_
        refine w_ldc dX9_ask_29 kcX9_141 ?_
        refine w_icmp_eq (tgt := 37) dX9_ask_31 (by decide) (fun c31 => ?_) (fun c31 => ?_)
        · exact absurd c31 (by decide)
        · refine w_iload dX9_ask_34 rfl ?_
          refine w_ireturn dX9_ask_36 rfl rfl ?_
          have e : oAsk Y (nI s) k = -1000000011 := by
            unfold oAsk
            rw [hcl]
            exact ((cif_t ⟨ha, c14⟩)).trans ((cif_t hw))
          rw [e] at hq
          exact hq
      · refine c_V (t := 5) (as := [_]) (d' := 0) dX9_ask_22 mlX9_321 moX5_refusalUnless mvX5_refusalUnless ⟨rfl, rfl⟩ rfl rfl rfl rfl rfl (by decide) (sX5_refusalUnless ?_)
        refine w_top (y := -1000000012) (by rw [t0]; exact (if_neg hw.1).trans (if_neg hw.2)) ?_
        refine w_istore (al' := [_, _, _, _, _]) dX9_ask_25 rfl rfl rfl ?_
        refine w_iload dX9_ask_27 rfl ?_
        refine w_ldc dX9_ask_29 kcX9_141 ?_
        refine w_icmp_eq (tgt := 37) dX9_ask_31 (by decide) (fun c31 => ?_) (fun c31 => ?_)
        · exact absurd c31 (by decide)
        · refine w_iload dX9_ask_34 rfl ?_
          refine w_ireturn dX9_ask_36 rfl rfl ?_
          have e : oAsk Y (nI s) k = -1000000012 := by
            unfold oAsk
            rw [hcl]
            exact ((cif_t ⟨ha, c14⟩)).trans (((cif_f hw.1)).trans ((cif_f (fun q => hw.2 q.1))))
          rw [e] at hq
          exact hq
      · refine c_V (t := 5) (as := [_]) (d' := 0) dX9_ask_22 mlX9_321 moX5_refusalUnless mvX5_refusalUnless ⟨rfl, rfl⟩ rfl rfl rfl rfl rfl (by decide) (sX5_refusalUnless ?_)
        have hn0 : Y.1 s ≠ 0 := by rw [hw]; decide
        refine w_top (y := -1000000005) (by rw [t0]; exact (if_neg hn0).trans (if_pos hw)) ?_
        refine w_istore (al' := [_, _, _, _, _]) dX9_ask_25 rfl rfl rfl ?_
        refine w_iload dX9_ask_27 rfl ?_
        refine w_ldc dX9_ask_29 kcX9_141 ?_
        refine w_icmp_eq (tgt := 37) dX9_ask_31 (by decide) (fun c31 => ?_) (fun c31 => ?_)
        · refine w_aload_n dX9_ask_37 rfl ?_
          refine w_getR dX9_ask_38 flX9_308 rfl hsl.2.1.1 ?_
          obtain ⟨kd, -, hk5, hkd⟩ := o1 hw
          refine w_getI dX9_ask_41 flX9_120 rfl ?_
          refine w_top (y := nI kd) ((t1 hw).1.trans hkd) ?_
          refine w_iload_n dX9_ask_44 rfl ?_
          refine c_S (as := [_, _]) (d' := 2) dX9_ask_45 (Or.inl mlX9_130) moX9_isUnder msX9_isUnder rfl rfl rfl rfl rfl (by decide) (sX9_isUnder (by omega) ?_)
          refine w_ifB_eq (tgt := 61) dX9_ask_48 (by decide) (fun c48 => ?_) (fun c48 => ?_)
          · have hun : ¬ under (Y.2.1 s) k := by rw [hkd]; exact c48
            have e : oAsk Y (nI s) k = -1000000012 := by
              unfold oAsk
              rw [hcl]
              exact ((cif_t ⟨ha, c14⟩)).trans (((cif_f hn0)).trans ((cif_f (fun q => hun q.2))))
            rw [e] at hq
            refine w_ldc dX9_ask_61 kcX9_133 ?_
            refine w_ireturn dX9_ask_63 rfl rfl ?_
            exact hq
          · have hun : under (Y.2.1 s) k := by rw [hkd]; exact c48
            have e : oAsk Y (nI s) k = Y.2.2.1 s := by
              unfold oAsk
              rw [hcl]
              exact ((cif_t ⟨ha, c14⟩)).trans (((cif_f hn0)).trans ((cif_t ⟨hw, hun⟩)))
            rw [e] at hq
            refine w_aload_n dX9_ask_51 rfl ?_
            refine w_getR dX9_ask_52 flX9_308 rfl hsl.2.1.1 ?_
            refine c_V (t := 3) (as := []) (d' := 0) dX9_ask_55 mlX9_123 moX3_worth mvX3_worth ⟨rfl, rfl⟩ rfl rfl rfl rfl rfl (by decide) (sX3_worth hsl.2.1.2.1 hsl.2.1.2.2 ?_)
            refine w_top (y := Y.2.2.1 s) ((t1 hw).2) ?_
            refine w_goto (tgt := 63) dX9_ask_58 (by decide) ?_
            refine w_ireturn dX9_ask_63 rfl rfl ?_
            exact hq
        · exact absurd rfl c31
    · refine w_ldc dX9_ask_17 kcX9_77 ?_
      refine w_ireturn dX9_ask_19 rfl rfl ?_
      refine q_e (cif_f (fun z => c14 z.2)) hq
  · refine c_V (t := 9) (as := [_]) (d' := 1) dX9_ask_2 mlX9_301 moX9_slotAt mvX9_slotAt ⟨rfl, rfl⟩ rfl rfl rfl rfl rfl (by decide) (sX9_slotAtN hs ha ?_)
    refine w_astore_nN (al' := [_, _, _, _, _]) dX9_ask_5 rfl rfl rfl ?_
    refine w_aload_nN dX9_ask_6 rfl ?_
    refine w_ifnullN (tgt := 17) dX9_ask_7 (by decide) ?_
    refine w_ldc dX9_ask_17 kcX9_77 ?_
    refine w_ireturn dX9_ask_19 rfl rfl ?_
    refine q_e (cif_f (fun z => ha z.1)) hq

set_option maxRecDepth 20000 in
theorem sX10_ask (hs : SK R N) {Y : Y4} (hO : SLO Y) (h0 : I 140 = Y.1) (h1 : I 141 = Y.2.1) (h2 : I 142 = Y.2.2.1) (h3 : I 143 = Y.2.2.2) {a k : Int32} (hq : Q (vI (oAsk Y a k)) I L R N n) : CA sc 2 0 0 mX10_ask [vR 10 117, vI a, vI k] I L R N n Q := by
  refine ca_in (al := [_, _, _]) rfl ?_
  refine w_iload_n dX10_ask_0 rfl ?_
  refine c_S (as := [_]) (d' := 1) dX10_ask_1 (Or.inl mlX10_283) moX10_isSlot msX10_isSlot rfl rfl rfl rfl rfl (by decide) (sX10_isSlot ?_)
  refine w_ifB_eq (tgt := 16) dX10_ask_4 (by decide) (fun c4 => ?_) (fun c4 => ?_)
  · refine w_ldc dX10_ask_16 kcX10_101 ?_
    refine w_ireturn dX10_ask_18 rfl rfl ?_
    refine q_e (cif_f (fun z => c4 z.1)) hq
  · have ha := c4
    obtain ⟨s, hs5, rfl⟩ := in_of (m := 4) (by decide) c4
    have hcl : (nI s).toNatClampNeg = s := nI_clamp (by omega)
    obtain ⟨o0, o1, o2⟩ := hO s (by omega)
    refine w_iload_n dX10_ask_7 rfl ?_
    refine w_iconst dX10_ask_8 ic_0 ?_
    refine w_iconst dX10_ask_9 ic_5 ?_
    refine c_S (as := [_, _, _]) (d' := 0) dX10_ask_10 (Or.inl mlX10_97) moX10_in msX10_in rfl rfl rfl rfl rfl (by decide) (sX10_in ?_)
    refine w_ifB_ne (tgt := 19) dX10_ask_13 (by decide) (fun c13 => ?_) (fun c13 => ?_)
    · refine w_aload_n dX10_ask_19 rfl ?_
      refine w_getR dX10_ask_20 flX10_78 rfl (hs.r (a := 117) (j := 37) (b := 140) 138 rfl) ?_
      refine w_iload_n dX10_ask_23 rfl ?_
      refine w_iald dX10_ask_24 rfl (hs.n (a := 140) (z := 5) 94 rfl) (by omega) ?_
      refine w_top (y := Y.1 s) (congrFun h0 s) ?_
      refine w_if_ne (tgt := 32) dX10_ask_25 (by decide) (fun c25 => ?_) (fun c25 => ?_)
      · refine w_aload_n dX10_ask_32 rfl ?_
        refine w_getR dX10_ask_33 flX10_78 rfl (hs.r (a := 117) (j := 37) (b := 140) 138 rfl) ?_
        refine w_iload_n dX10_ask_36 rfl ?_
        refine w_iald dX10_ask_37 rfl (hs.n (a := 140) (z := 5) 94 rfl) (by omega) ?_
        refine w_top (y := Y.1 s) (congrFun h0 s) ?_
        refine w_iconst dX10_ask_38 ic_1 ?_
        refine w_icmp_ne (tgt := 64) dX10_ask_39 (by decide) (fun c39 => ?_) (fun c39 => ?_)
        · have e : oAsk Y (nI s) k = -1000000012 := by
            unfold oAsk
            rw [hcl]
            exact ((cif_t ⟨ha, c13⟩)).trans (((cif_f c25)).trans ((cif_f (fun q => c39 q.1))))
          rw [e] at hq
          refine w_ldc dX10_ask_64 kcX10_143 ?_
          refine w_ireturn dX10_ask_66 rfl rfl ?_
          exact hq
        · refine w_aload_n dX10_ask_42 rfl ?_
          refine w_getR dX10_ask_43 flX10_81 rfl (hs.r (a := 117) (j := 38) (b := 141) 139 rfl) ?_
          refine w_iload_n dX10_ask_46 rfl ?_
          refine w_iald dX10_ask_47 rfl (hs.n (a := 141) (z := 5) 95 rfl) (by omega) ?_
          refine w_top (y := Y.2.1 s) (congrFun h1 s) ?_
          refine w_iload_n dX10_ask_48 rfl ?_
          refine c_S (as := [_, _]) (d' := 0) dX10_ask_49 (Or.inl mlX10_140) moX10_isUnder msX10_isUnder rfl rfl rfl rfl rfl (by decide) (sX10_isUnder ?_)
          refine w_ifB_eq (tgt := 64) dX10_ask_52 (by decide) (fun c52 => ?_) (fun c52 => ?_)
          · have e : oAsk Y (nI s) k = -1000000012 := by
              unfold oAsk
              rw [hcl]
              exact ((cif_t ⟨ha, c13⟩)).trans (((cif_f c25)).trans ((cif_f (fun q => c52 q.2))))
            rw [e] at hq
            refine w_ldc dX10_ask_64 kcX10_143 ?_
            refine w_ireturn dX10_ask_66 rfl rfl ?_
            exact hq
          · have e : oAsk Y (nI s) k = Y.2.2.1 s := by
              unfold oAsk
              rw [hcl]
              exact ((cif_t ⟨ha, c13⟩)).trans (((cif_f c25)).trans ((cif_t ⟨c39, c52⟩)))
            rw [e] at hq
            refine w_aload_n dX10_ask_55 rfl ?_
            refine w_getR dX10_ask_56 flX10_84 rfl (hs.r (a := 117) (j := 39) (b := 142) 140 rfl) ?_
            refine w_iload_n dX10_ask_59 rfl ?_
            refine w_iald dX10_ask_60 rfl (hs.n (a := 142) (z := 5) 96 rfl) (by omega) ?_
            refine w_top (y := Y.2.2.1 s) (congrFun h2 s) ?_
            refine w_goto (tgt := 66) dX10_ask_61 (by decide) ?_
            refine w_ireturn dX10_ask_66 rfl rfl ?_
            exact hq
      · have e : oAsk Y (nI s) k = -1000000011 := by
          unfold oAsk
          rw [hcl]
          exact ((cif_t ⟨ha, c13⟩)).trans ((cif_t c25))
        rw [e] at hq
        refine w_ldcw dX10_ask_28 kcX10_279 ?_
        refine w_ireturn dX10_ask_31 rfl rfl ?_
        exact hq
    · refine w_ldc dX10_ask_16 kcX10_101 ?_
      refine w_ireturn dX10_ask_18 rfl rfl ?_
      refine q_e (cif_f (fun z => c13 z.2)) hq

set_option maxRecDepth 20000 in
theorem sX9_item (hs : SK R N) {Y : Y4} (hO : SLO Y) (hS : SLC I Y) {a p : Int32} (hq : Q (vI (oItem Y a p)) I L R N n) : CA sc 3 0 0 mX9_item [vR 9 0, vI a, vI p] I L R N n Q := by
  refine ca_in (al := [_, _, _, _, _]) rfl ?_
  refine w_aload_n dX9_item_0 rfl ?_
  refine w_iload_n dX9_item_1 rfl ?_
  by_cases ha : 0 ≤ a ∧ a ≤ 4
  · obtain ⟨s, hs5, rfl⟩ := in_of (m := 4) (by decide) ha
    have hsl := hs.slots (show s < 5 by omega)
    have hcl : (nI s).toNatClampNeg = s := nI_clamp (by omega)
    obtain ⟨t0, t1, t2, t3⟩ := hS s (by omega)
    obtain ⟨o0, o1, o2⟩ := hO s (by omega)
    refine c_V (t := 9) (as := [_]) (d' := 1) dX9_item_2 mlX9_301 moX9_slotAt mvX9_slotAt ⟨rfl, rfl⟩ rfl rfl rfl rfl rfl (by decide) (sX9_slotAtS hs (show s < 5 by omega) ?_)
    refine w_astore_n (al' := [_, _, _, _, _]) dX9_item_5 rfl rfl rfl ?_
    refine w_aload_n dX9_item_6 rfl ?_
    refine w_ifnonnullR (tgt := 13) dX9_item_7 (by decide) ?_
    refine w_aload_n dX9_item_13 rfl ?_
    refine w_iconst dX9_item_14 ic_2 ?_
    rcases (show Y.1 s = 0 ∨ (Y.1 s ≠ 0 ∧ Y.1 s ≠ 2) ∨ Y.1 s = 2 by by_cases q0 : Y.1 s = 0; exact Or.inl q0; by_cases q1 : Y.1 s = 2; exact Or.inr (Or.inr q1); exact Or.inr (Or.inl ⟨q0, q1⟩)) with hw | hw | hw
    · refine c_V (t := 5) (as := [_]) (d' := 0) dX9_item_15 mlX9_321 moX5_refusalUnless mvX5_refusalUnless ⟨rfl, rfl⟩ rfl rfl rfl rfl rfl (by decide) (sX5_refusalUnless ?_)
      refine w_top (y := -1000000011) (by rw [t0]; exact if_pos hw) ?_
      refine w_istore (al' := [_, _, _, _, _]) dX9_item_18 rfl rfl rfl ?_
      refine w_iload dX9_item_20 rfl ?_
      refine w_ldc dX9_item_22 kcX9_141 ?_
      refine w_icmp_eq (tgt := 30) dX9_item_24 (by decide) (fun c24 => ?_) (fun c24 => ?_)
      · exact absurd c24 (by decide)
      · refine w_iload dX9_item_27 rfl ?_
        refine w_ireturn dX9_item_29 rfl rfl ?_
        have e : oItem Y (nI s) p = -1000000011 := by
          unfold oItem
          rw [hcl]
          exact ((cif_t ha)).trans ((cif_t hw))
        rw [e] at hq
        exact hq
    · refine c_V (t := 5) (as := [_]) (d' := 0) dX9_item_15 mlX9_321 moX5_refusalUnless mvX5_refusalUnless ⟨rfl, rfl⟩ rfl rfl rfl rfl rfl (by decide) (sX5_refusalUnless ?_)
      refine w_top (y := -1000000012) (by rw [t0]; exact (if_neg hw.1).trans (if_neg hw.2)) ?_
      refine w_istore (al' := [_, _, _, _, _]) dX9_item_18 rfl rfl rfl ?_
      refine w_iload dX9_item_20 rfl ?_
      refine w_ldc dX9_item_22 kcX9_141 ?_
      refine w_icmp_eq (tgt := 30) dX9_item_24 (by decide) (fun c24 => ?_) (fun c24 => ?_)
      · exact absurd c24 (by decide)
      · refine w_iload dX9_item_27 rfl ?_
        refine w_ireturn dX9_item_29 rfl rfl ?_
        have e : oItem Y (nI s) p = -1000000012 := by
          unfold oItem
          rw [hcl]
          exact ((cif_t ha)).trans (((cif_f hw.1)).trans ((cif_f hw.2)))
        rw [e] at hq
        exact hq
    · refine c_V (t := 5) (as := [_]) (d' := 0) dX9_item_15 mlX9_321 moX5_refusalUnless mvX5_refusalUnless ⟨rfl, rfl⟩ rfl rfl rfl rfl rfl (by decide) (sX5_refusalUnless ?_)
      have hn0 : Y.1 s ≠ 0 := by rw [hw]; decide
      refine w_top (y := -1000000005) (by rw [t0]; exact (if_neg hn0).trans (if_pos hw)) ?_
      refine w_istore (al' := [_, _, _, _, _]) dX9_item_18 rfl rfl rfl ?_
      refine w_iload dX9_item_20 rfl ?_
      refine w_ldc dX9_item_22 kcX9_141 ?_
      refine w_icmp_eq (tgt := 30) dX9_item_24 (by decide) (fun c24 => ?_) (fun c24 => ?_)
      · obtain ⟨z, -, hz24, hz⟩ := o2 hw
        refine w_aload_n dX9_item_30 rfl ?_
        refine w_getR dX9_item_31 flX9_311 rfl hsl.2.2.1 ?_
        refine w_iload_n dX9_item_34 rfl ?_
        refine c_V (t := 4) (as := [_]) (d' := 1) dX9_item_35 mlX9_276 moX4_has mvX4_has ⟨rfl, rfl⟩ rfl rfl rfl rfl rfl (by decide) (sX4_has ((t2 hw).1.trans hz) hz24 ?_)
        refine w_ifB_ne (tgt := 45) dX9_item_38 (by decide) (fun c38 => ?_) (fun c38 => ?_)
        · have hP := (show 0 ≤ p ∧ p ≤ Y.2.1 s - 1 by rw [hz]; exact c38)
          obtain ⟨j, hj, rfl⟩ := pr_of (by omega) c38
          have hcj : (nI j).toNatClampNeg = j := nI_clamp (by omega)
          refine w_aload_n dX9_item_45 rfl ?_
          refine w_getR dX9_item_46 flX9_311 rfl hsl.2.2.1 ?_
          refine w_iload_n dX9_item_49 rfl ?_
          refine c_V (t := 4) (as := [_]) (d' := 2) dX9_item_50 mlX9_289 moX4_hasNumber mvX4_hasNumber ⟨rfl, rfl⟩ rfl rfl rfl rfl rfl (by decide) (sX4_hasNumber hsl.2.2.2.1 hsl.2.2.2.2 ((t2 hw).1.trans hz) hz24 (by omega) ?_)
          refine w_top (y := bI (j < z ∧ Y.2.2.2 (24 * s + j) ≠ -1000000005)) (by rw [(t2 hw).2 j (by omega)]) ?_
          refine w_ifB_eq (tgt := 68) dX9_item_53 (by decide) (fun c53 => ?_) (fun c53 => ?_)
          · have hv9 : Y.2.2.2 (24 * s + j) = -1000000005 := Classical.not_not.mp (fun q => c53 ⟨hj, q⟩)
            have e : oItem Y (nI s) (nI j) = -1000000012 := by
              unfold oItem
              rw [hcl, hcj]
              exact ((cif_t ha)).trans (((cif_f hn0)).trans (((cif_t hw)).trans (((cif_t hP)).trans ((cif_t hv9)))))
            rw [e] at hq
            refine w_ldc dX9_item_68 kcX9_133 ?_
            refine w_ireturn dX9_item_70 rfl rfl ?_
            exact hq
          · have e : oItem Y (nI s) (nI j) = Y.2.2.2 (24 * s + j) := by
              unfold oItem
              rw [hcl, hcj]
              exact ((cif_t ha)).trans (((cif_f hn0)).trans (((cif_t hw)).trans (((cif_t hP)).trans ((cif_f c53.2)))))
            rw [e] at hq
            refine w_aload_n dX9_item_56 rfl ?_
            refine w_getR dX9_item_57 flX9_311 rfl hsl.2.2.1 ?_
            refine w_getR dX9_item_60 flX9_282 rfl hsl.2.2.2.1 ?_
            refine w_iload_n dX9_item_63 rfl ?_
            refine w_iald dX9_item_64 rfl hsl.2.2.2.2 (by omega) ?_
            refine w_top (y := Y.2.2.2 (24 * s + j)) ((t2 hw).2 j (by omega)) ?_
            refine w_goto (tgt := 70) dX9_item_65 (by decide) ?_
            refine w_ireturn dX9_item_70 rfl rfl ?_
            exact hq
        · have e : oItem Y (nI s) p = -1000000013 := by
            unfold oItem
            rw [hcl]
            exact ((cif_t ha)).trans (((cif_f hn0)).trans (((cif_t hw)).trans ((cif_f (fun q => c38 (by rw [hz] at q; exact q))))))
          rw [e] at hq
          refine w_ldcw dX9_item_41 kcX9_279 ?_
          refine w_ireturn dX9_item_44 rfl rfl ?_
          exact hq
      · exact absurd rfl c24
  · refine c_V (t := 9) (as := [_]) (d' := 1) dX9_item_2 mlX9_301 moX9_slotAt mvX9_slotAt ⟨rfl, rfl⟩ rfl rfl rfl rfl rfl (by decide) (sX9_slotAtN hs ha ?_)
    refine w_astore_nN (al' := [_, _, _, _, _]) dX9_item_5 rfl rfl rfl ?_
    refine w_aload_nN dX9_item_6 rfl ?_
    refine w_ifnonnullN dX9_item_7 ?_
    refine w_ldc dX9_item_10 kcX9_77 ?_
    refine w_ireturn dX9_item_12 rfl rfl ?_
    refine q_e (cif_f (fun z => ha z)) hq

set_option maxRecDepth 20000 in
theorem sX10_item (hs : SK R N) {Y : Y4} (hO : SLO Y) (h0 : I 140 = Y.1) (h1 : I 141 = Y.2.1) (h2 : I 142 = Y.2.2.1) (h3 : I 143 = Y.2.2.2) {a p : Int32} (hq : Q (vI (oItem Y a p)) I L R N n) : CA sc 2 0 0 mX10_item [vR 10 117, vI a, vI p] I L R N n Q := by
  refine ca_in (al := [_, _, _, _]) rfl ?_
  refine w_iload_n dX10_item_0 rfl ?_
  refine c_S (as := [_]) (d' := 1) dX10_item_1 (Or.inl mlX10_283) moX10_isSlot msX10_isSlot rfl rfl rfl rfl rfl (by decide) (sX10_isSlot ?_)
  refine w_ifB_ne (tgt := 10) dX10_item_4 (by decide) (fun c4 => ?_) (fun c4 => ?_)
  · have ha := c4
    obtain ⟨s, hs5, rfl⟩ := in_of (m := 4) (by decide) c4
    have hcl : (nI s).toNatClampNeg = s := nI_clamp (by omega)
    obtain ⟨o0, o1, o2⟩ := hO s (by omega)
    refine w_aload_n dX10_item_10 rfl ?_
    refine w_getR dX10_item_11 flX10_78 rfl (hs.r (a := 117) (j := 37) (b := 140) 138 rfl) ?_
    refine w_iload_n dX10_item_14 rfl ?_
    refine w_iald dX10_item_15 rfl (hs.n (a := 140) (z := 5) 94 rfl) (by omega) ?_
    refine w_top (y := Y.1 s) (congrFun h0 s) ?_
    refine w_if_ne (tgt := 23) dX10_item_16 (by decide) (fun c16 => ?_) (fun c16 => ?_)
    · refine w_aload_n dX10_item_23 rfl ?_
      refine w_getR dX10_item_24 flX10_78 rfl (hs.r (a := 117) (j := 37) (b := 140) 138 rfl) ?_
      refine w_iload_n dX10_item_27 rfl ?_
      refine w_iald dX10_item_28 rfl (hs.n (a := 140) (z := 5) 94 rfl) (by omega) ?_
      refine w_top (y := Y.1 s) (congrFun h0 s) ?_
      refine w_iconst dX10_item_29 ic_2 ?_
      refine w_icmp_eq (tgt := 36) dX10_item_30 (by decide) (fun c30 => ?_) (fun c30 => ?_)
      · obtain ⟨z, -, hz24, hz⟩ := o2 c30
        refine w_iload_n dX10_item_36 rfl ?_
        refine w_iconst dX10_item_37 ic_0 ?_
        refine w_aload_n dX10_item_38 rfl ?_
        refine w_getR dX10_item_39 flX10_81 rfl (hs.r (a := 117) (j := 38) (b := 141) 139 rfl) ?_
        refine w_iload_n dX10_item_42 rfl ?_
        refine w_iald dX10_item_43 rfl (hs.n (a := 141) (z := 5) 95 rfl) (by omega) ?_
        refine w_top (y := nI z) ((congrFun h1 s).trans hz) ?_
        refine w_iconst dX10_item_44 ic_1 ?_
        refine w_isub dX10_item_45 ?_
        refine c_S (as := [_, _, _]) (d' := 0) dX10_item_46 (Or.inl mlX10_97) moX10_in msX10_in rfl rfl rfl rfl rfl (by decide) (sX10_in ?_)
        refine w_ifB_ne (tgt := 56) dX10_item_49 (by decide) (fun c49 => ?_) (fun c49 => ?_)
        · have hP := (show 0 ≤ p ∧ p ≤ Y.2.1 s - 1 by rw [hz]; exact c49)
          obtain ⟨j, hj, rfl⟩ := pr_of (by omega) c49
          have hcj : (nI j).toNatClampNeg = j := nI_clamp (by omega)
          refine w_aload_n dX10_item_56 rfl ?_
          refine w_getR dX10_item_57 flX10_87 rfl (hs.r (a := 117) (j := 40) (b := 143) 141 rfl) ?_
          refine w_bipush dX10_item_60 bp_24 ?_
          refine w_iload_n dX10_item_62 rfl ?_
          refine w_imul dX10_item_63 ?_
          refine w_iload_n dX10_item_64 rfl ?_
          refine w_iadd dX10_item_65 ?_
          refine w_top (y := nI (24 * s + j)) (by show nI 24 * nI s + nI j = _; rw [nI_mul, nI_add]) ?_
          refine w_iald dX10_item_66 rfl (hs.n (a := 143) (z := 120) 97 rfl) (by omega) ?_
          refine w_top (y := Y.2.2.2 (24 * s + j)) (congrFun h3 _) ?_
          refine w_istore_n (al' := [_, _, _, _]) dX10_item_67 rfl rfl rfl ?_
          refine w_iload_n dX10_item_68 rfl ?_
          refine w_ldc dX10_item_69 kcX10_96 ?_
          refine w_icmp_ne (tgt := 79) dX10_item_71 (by decide) (fun c71 => ?_) (fun c71 => ?_)
          · have e : oItem Y (nI s) (nI j) = Y.2.2.2 (24 * s + j) := by
              unfold oItem
              rw [hcl, hcj]
              exact ((cif_t ha)).trans (((cif_f c16)).trans (((cif_t c30)).trans (((cif_t hP)).trans ((cif_f c71)))))
            rw [e] at hq
            refine w_iload_n dX10_item_79 rfl ?_
            refine w_ireturn dX10_item_80 rfl rfl ?_
            exact hq
          · have e : oItem Y (nI s) (nI j) = -1000000012 := by
              unfold oItem
              rw [hcl, hcj]
              exact ((cif_t ha)).trans (((cif_f c16)).trans (((cif_t c30)).trans (((cif_t hP)).trans ((cif_t c71)))))
            rw [e] at hq
            refine w_ldc dX10_item_74 kcX10_143 ?_
            refine w_goto (tgt := 80) dX10_item_76 (by decide) ?_
            refine w_ireturn dX10_item_80 rfl rfl ?_
            exact hq
        · have e : oItem Y (nI s) p = -1000000013 := by
            unfold oItem
            rw [hcl]
            exact ((cif_t ha)).trans (((cif_f c16)).trans (((cif_t c30)).trans ((cif_f (fun q => c49 (by rw [hz] at q; exact q))))))
          rw [e] at hq
          refine w_ldcw dX10_item_52 kcX10_280 ?_
          refine w_ireturn dX10_item_55 rfl rfl ?_
          exact hq
      · have e : oItem Y (nI s) p = -1000000012 := by
          unfold oItem
          rw [hcl]
          exact ((cif_t ha)).trans (((cif_f c16)).trans ((cif_f c30)))
        rw [e] at hq
        refine w_ldc dX10_item_33 kcX10_143 ?_
        refine w_ireturn dX10_item_35 rfl rfl ?_
        exact hq
    · have e : oItem Y (nI s) p = -1000000011 := by
        unfold oItem
        rw [hcl]
        exact ((cif_t ha)).trans ((cif_t c16))
      rw [e] at hq
      refine w_ldcw dX10_item_19 kcX10_279 ?_
      refine w_ireturn dX10_item_22 rfl rfl ?_
      exact hq
  · refine w_ldc dX10_item_7 kcX10_101 ?_
    refine w_ireturn dX10_item_9 rfl rfl ?_
    refine q_e (cif_f (fun z => c4 z)) hq

set_option maxRecDepth 20000 in
theorem sX9_rest (hs : SK R N) {Y : Y4} (hO : SLO Y) (hS : SLC I Y) {a m : Int32} (hq : Q (vI (oRest Y a m)) I L R N n) : CA sc 2 0 0 mX9_rest [vR 9 0, vI a, vI m] I L R N n Q := by
  refine ca_in (al := [_, _, _, _, _]) rfl ?_
  refine w_aload_n dX9_rest_0 rfl ?_
  refine w_iload_n dX9_rest_1 rfl ?_
  by_cases ha : 0 ≤ a ∧ a ≤ 4
  · obtain ⟨s, hs5, rfl⟩ := in_of (m := 4) (by decide) ha
    have hsl := hs.slots (show s < 5 by omega)
    have hcl : (nI s).toNatClampNeg = s := nI_clamp (by omega)
    obtain ⟨t0, t1, t2, t3⟩ := hS s (by omega)
    obtain ⟨o0, o1, o2⟩ := hO s (by omega)
    refine c_V (t := 9) (as := [_]) (d' := 1) dX9_rest_2 mlX9_301 moX9_slotAt mvX9_slotAt ⟨rfl, rfl⟩ rfl rfl rfl rfl rfl (by decide) (sX9_slotAtS hs (show s < 5 by omega) ?_)
    refine w_astore_n (al' := [_, _, _, _, _]) dX9_rest_5 rfl rfl rfl ?_
    refine w_aload_n dX9_rest_6 rfl ?_
    refine w_ifnonnullR (tgt := 13) dX9_rest_7 (by decide) ?_
    refine w_aload_n dX9_rest_13 rfl ?_
    refine w_iconst dX9_rest_14 ic_3 ?_
    rcases (show Y.1 s = 0 ∨ (Y.1 s ≠ 0 ∧ Y.1 s ≠ 3) ∨ Y.1 s = 3 by by_cases q0 : Y.1 s = 0; exact Or.inl q0; by_cases q1 : Y.1 s = 3; exact Or.inr (Or.inr q1); exact Or.inr (Or.inl ⟨q0, q1⟩)) with hw | hw | hw
    · refine c_V (t := 5) (as := [_]) (d' := 0) dX9_rest_15 mlX9_321 moX5_refusalUnless mvX5_refusalUnless ⟨rfl, rfl⟩ rfl rfl rfl rfl rfl (by decide) (sX5_refusalUnless ?_)
      refine w_top (y := -1000000011) (by rw [t0]; exact if_pos hw) ?_
      refine w_istore (al' := [_, _, _, _, _]) dX9_rest_18 rfl rfl rfl ?_
      refine w_iload dX9_rest_20 rfl ?_
      refine w_ldc dX9_rest_22 kcX9_141 ?_
      refine w_icmp_eq (tgt := 30) dX9_rest_24 (by decide) (fun c24 => ?_) (fun c24 => ?_)
      · exact absurd c24 (by decide)
      · refine w_iload dX9_rest_27 rfl ?_
        refine w_ireturn dX9_rest_29 rfl rfl ?_
        have e : oRest Y (nI s) m = -1000000011 := by
          unfold oRest
          rw [hcl]
          exact ((cif_t ha)).trans ((cif_t hw))
        rw [e] at hq
        exact hq
    · refine c_V (t := 5) (as := [_]) (d' := 0) dX9_rest_15 mlX9_321 moX5_refusalUnless mvX5_refusalUnless ⟨rfl, rfl⟩ rfl rfl rfl rfl rfl (by decide) (sX5_refusalUnless ?_)
      refine w_top (y := -1000000012) (by rw [t0]; exact (if_neg hw.1).trans (if_neg hw.2)) ?_
      refine w_istore (al' := [_, _, _, _, _]) dX9_rest_18 rfl rfl rfl ?_
      refine w_iload dX9_rest_20 rfl ?_
      refine w_ldc dX9_rest_22 kcX9_141 ?_
      refine w_icmp_eq (tgt := 30) dX9_rest_24 (by decide) (fun c24 => ?_) (fun c24 => ?_)
      · exact absurd c24 (by decide)
      · refine w_iload dX9_rest_27 rfl ?_
        refine w_ireturn dX9_rest_29 rfl rfl ?_
        have e : oRest Y (nI s) m = -1000000012 := by
          unfold oRest
          rw [hcl]
          exact ((cif_t ha)).trans (((cif_f hw.1)).trans ((cif_f hw.2)))
        rw [e] at hq
        exact hq
    · refine c_V (t := 5) (as := [_]) (d' := 0) dX9_rest_15 mlX9_321 moX5_refusalUnless mvX5_refusalUnless ⟨rfl, rfl⟩ rfl rfl rfl rfl rfl (by decide) (sX5_refusalUnless ?_)
      have hn0 : Y.1 s ≠ 0 := by rw [hw]; decide
      refine w_top (y := -1000000005) (by rw [t0]; exact (if_neg hn0).trans (if_pos hw)) ?_
      refine w_istore (al' := [_, _, _, _, _]) dX9_rest_18 rfl rfl rfl ?_
      refine w_iload dX9_rest_20 rfl ?_
      refine w_ldc dX9_rest_22 kcX9_141 ?_
      refine w_icmp_eq (tgt := 30) dX9_rest_24 (by decide) (fun c24 => ?_) (fun c24 => ?_)
      · refine w_iload_n dX9_rest_30 rfl ?_
        refine w_if_ne (tgt := 39) dX9_rest_31 (by decide) (fun c31 => ?_) (fun c31 => ?_)
        · have e : oRest Y (nI s) m = remI (Y.2.1 s) m := by
            unfold oRest
            rw [hcl]
            exact ((cif_t ha)).trans (((cif_f hn0)).trans (((cif_t hw)).trans ((cif_f c31))))
          rw [e] at hq
          refine w_aload_n dX9_rest_39 rfl ?_
          refine w_getI dX9_rest_40 flX9_318 rfl ?_
          refine w_top (y := Y.2.1 s) (t3 hw) ?_
          refine w_iload_n dX9_rest_43 rfl ?_
          refine w_irem dX9_rest_44 c31 ?_
          refine w_ireturn dX9_rest_45 rfl rfl ?_
          exact hq
        · have e : oRest Y (nI s) m = -1000000002 := by
            unfold oRest
            rw [hcl]
            exact ((cif_t ha)).trans (((cif_f hn0)).trans (((cif_t hw)).trans ((cif_t c31))))
          rw [e] at hq
          refine w_ldc dX9_rest_34 kcX9_197 ?_
          refine w_goto (tgt := 45) dX9_rest_36 (by decide) ?_
          refine w_ireturn dX9_rest_45 rfl rfl ?_
          exact hq
      · exact absurd rfl c24
  · refine c_V (t := 9) (as := [_]) (d' := 1) dX9_rest_2 mlX9_301 moX9_slotAt mvX9_slotAt ⟨rfl, rfl⟩ rfl rfl rfl rfl rfl (by decide) (sX9_slotAtN hs ha ?_)
    refine w_astore_nN (al' := [_, _, _, _, _]) dX9_rest_5 rfl rfl rfl ?_
    refine w_aload_nN dX9_rest_6 rfl ?_
    refine w_ifnonnullN dX9_rest_7 ?_
    refine w_ldc dX9_rest_10 kcX9_77 ?_
    refine w_ireturn dX9_rest_12 rfl rfl ?_
    refine q_e (cif_f (fun z => ha z)) hq

set_option maxRecDepth 20000 in
theorem sX10_rest (hs : SK R N) {Y : Y4} (hO : SLO Y) (h0 : I 140 = Y.1) (h1 : I 141 = Y.2.1) (h2 : I 142 = Y.2.2.1) (h3 : I 143 = Y.2.2.2) {a m : Int32} (hq : Q (vI (oRest Y a m)) I L R N n) : CA sc 2 0 0 mX10_rest [vR 10 117, vI a, vI m] I L R N n Q := by
  refine ca_in (al := [_, _, _]) rfl ?_
  refine w_iload_n dX10_rest_0 rfl ?_
  refine c_S (as := [_]) (d' := 1) dX10_rest_1 (Or.inl mlX10_283) moX10_isSlot msX10_isSlot rfl rfl rfl rfl rfl (by decide) (sX10_isSlot ?_)
  refine w_ifB_ne (tgt := 10) dX10_rest_4 (by decide) (fun c4 => ?_) (fun c4 => ?_)
  · have ha := c4
    obtain ⟨s, hs5, rfl⟩ := in_of (m := 4) (by decide) c4
    have hcl : (nI s).toNatClampNeg = s := nI_clamp (by omega)
    obtain ⟨o0, o1, o2⟩ := hO s (by omega)
    refine w_aload_n dX10_rest_10 rfl ?_
    refine w_getR dX10_rest_11 flX10_78 rfl (hs.r (a := 117) (j := 37) (b := 140) 138 rfl) ?_
    refine w_iload_n dX10_rest_14 rfl ?_
    refine w_iald dX10_rest_15 rfl (hs.n (a := 140) (z := 5) 94 rfl) (by omega) ?_
    refine w_top (y := Y.1 s) (congrFun h0 s) ?_
    refine w_if_ne (tgt := 23) dX10_rest_16 (by decide) (fun c16 => ?_) (fun c16 => ?_)
    · refine w_aload_n dX10_rest_23 rfl ?_
      refine w_getR dX10_rest_24 flX10_78 rfl (hs.r (a := 117) (j := 37) (b := 140) 138 rfl) ?_
      refine w_iload_n dX10_rest_27 rfl ?_
      refine w_iald dX10_rest_28 rfl (hs.n (a := 140) (z := 5) 94 rfl) (by omega) ?_
      refine w_top (y := Y.1 s) (congrFun h0 s) ?_
      refine w_iconst dX10_rest_29 ic_3 ?_
      refine w_icmp_eq (tgt := 36) dX10_rest_30 (by decide) (fun c30 => ?_) (fun c30 => ?_)
      · refine w_iload_n dX10_rest_36 rfl ?_
        refine w_if_ne (tgt := 45) dX10_rest_37 (by decide) (fun c37 => ?_) (fun c37 => ?_)
        · have e : oRest Y (nI s) m = remI (Y.2.1 s) m := by
            unfold oRest
            rw [hcl]
            exact ((cif_t ha)).trans (((cif_f c16)).trans (((cif_t c30)).trans ((cif_f c37))))
          rw [e] at hq
          refine w_iload_n dX10_rest_45 rfl ?_
          refine w_iconst dX10_rest_46 ic_m1 ?_
          refine w_icmp_ne (tgt := 54) dX10_rest_47 (by decide) (fun c47 => ?_) (fun c47 => ?_)
          · refine w_aload_n dX10_rest_54 rfl ?_
            refine w_getR dX10_rest_55 flX10_81 rfl (hs.r (a := 117) (j := 38) (b := 141) 139 rfl) ?_
            refine w_iload_n dX10_rest_58 rfl ?_
            refine w_iald dX10_rest_59 rfl (hs.n (a := 141) (z := 5) 95 rfl) (by omega) ?_
            refine w_top (y := Y.2.1 s) (congrFun h1 s) ?_
            refine w_iload_n dX10_rest_60 rfl ?_
            refine w_irem dX10_rest_61 c37 ?_
            refine w_ireturn dX10_rest_62 rfl rfl ?_
            exact hq
          · refine w_iconst dX10_rest_50 ic_0 ?_
            refine w_top (y := remI (Y.2.1 s) m) (by rw [c47, rem_m1]) ?_
            refine w_goto (tgt := 62) dX10_rest_51 (by decide) ?_
            refine w_ireturn dX10_rest_62 rfl rfl ?_
            exact hq
        · have e : oRest Y (nI s) m = -1000000002 := by
            unfold oRest
            rw [hcl]
            exact ((cif_t ha)).trans (((cif_f c16)).trans (((cif_t c30)).trans ((cif_t c37))))
          rw [e] at hq
          refine w_ldc dX10_rest_40 kcX10_204 ?_
          refine w_goto (tgt := 62) dX10_rest_42 (by decide) ?_
          refine w_ireturn dX10_rest_62 rfl rfl ?_
          exact hq
      · have e : oRest Y (nI s) m = -1000000012 := by
          unfold oRest
          rw [hcl]
          exact ((cif_t ha)).trans (((cif_f c16)).trans ((cif_f c30)))
        rw [e] at hq
        refine w_ldc dX10_rest_33 kcX10_143 ?_
        refine w_ireturn dX10_rest_35 rfl rfl ?_
        exact hq
    · have e : oRest Y (nI s) m = -1000000011 := by
        unfold oRest
        rw [hcl]
        exact ((cif_t ha)).trans ((cif_t c16))
      rw [e] at hq
      refine w_ldcw dX10_rest_19 kcX10_279 ?_
      refine w_ireturn dX10_rest_22 rfl rfl ?_
      exact hq
  · refine w_ldc dX10_rest_7 kcX10_101 ?_
    refine w_ireturn dX10_rest_9 rfl rfl ?_
    refine q_e (cif_f (fun z => c4 z)) hq

end
