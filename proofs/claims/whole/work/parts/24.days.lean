section
variable {sc : SC} {I : HI} {L : HL} {R : HR} {N : HN} {n : Nat} {Q : HQ}
def PF (I : HI) (p : PL) : Prop := ∀ j, j < 31 → I 68 j = pBri p j ∧ I 69 j = pKeep p j ∧ I 70 j = cst p j ∧ I 71 j = bI (pBs p j) ∧ I 72 j = pBr p j ∧ I 73 j = pOut p (j + 1)
theorem owV_n {V : VV} (h : V 3 = -1) : owV V = fun _ => 0 := by unfold owV; rw [h]; rfl
theorem owV_s {V : VV} {r : Nat} (h : V 3 = nI r) (hr : r < 8) : owV V = owAt V r := by
  unfold owV
  rw [h, if_neg (nI_pos (by omega)), nI_clamp (by omega)]
theorem told_n {x : Int32} (h : x = -1) : told x = -1000000005 := by rw [h]; rfl
theorem told_s {x : Int32} {k : Nat} (h : x = nI k) (hk : k < 2147483648) : told x = nI k := by rw [h, told, if_neg (nI_pos (by omega))]
theorem ow_own {w n : Nat} {V : VV} {I : HI} {R : HR} {N : HN} (hC : WC I R N n w V) {r : Nat} (hr : r < nRu V) : owRule V (I (w + 13 + 2 * r) 0) (I (w + 14 + 2 * r) 0) (I (w + 14 + 2 * r) 1) (I (w + 14 + 2 * r) 2) = owAt V r := by
  obtain ⟨h1, h2⟩ := hC.2.2.1 r hr
  rw [h1, h2 0 (by decide), h2 1 (by decide), h2 2 (by decide)]
  rfl
theorem rule_c {w n : Nat} {V : VV} {I : HI} {R : HR} {N : HN} (hV : VO V) (hC : WC I R N n w V) {r : Nat} (hr : r < nRu V) : 0 < I (w + 14 + 2 * r) 2 := by
  rw [(hC.2.2.1 r hr).2 2 (by decide)]
  obtain ⟨k, h1, h2, h3⟩ := (hV.2.2.2.2.1 r hr).2
  show 0 < V (48 + 4 * r + 3)
  rw [h3]
  exact nI_lt (a := 0) (by omega) (by omega)
set_option maxRecDepth 20000 in
theorem sX2_follow (hs : SK R N) {w : Nat} (hw : w = 1 ∨ w = 30) {V : VV} (hV : VO V) (hC : WC I R N n w V) {s : Nat} (hss : s < nS V) {oF : VV} {cd : Int32} (ho : ∀ j, j < 31 → I 60 j = oF j) (hf : ∀ j, j < 31 → I (62 + s) j = forgV V (V (6 + 7 * s + 1)) cd (nI j))
    (hq : ∀ I' : HI, (∀ q, q ≠ w + 12 → (q < 68 ∨ 74 ≤ q) → I' q = I q) → PF I' (plV V oF cd s) → Q vU I' L R N n) : CA sc 4 0 0 mX2_follow [vR 2 59, vR 8 w, vI (nI s)] I L R N n Q := by
  have h6 := hV.1.2
  refine ca_in (al := [_, _, _]) rfl ?_
  refine w_aload_n dX2_follow_0 rfl ?_
  refine w_iload_n dX2_follow_1 rfl ?_
  refine c_V (t := 8) (as := [_]) (d' := 1) dX2_follow_2 mlX2_81 moX8_hasSort mvX8_hasSort ⟨rfl, rfl⟩ rfl rfl rfl rfl rfl (by decide) (sX8_hasSort ?_)
  refine w_ifB_ne (tgt := 9) dX2_follow_5 (by decide) (fun c5 => ?_) (fun c5 => ?_)
  · refine w_aload_n dX2_follow_9 rfl ?_
    refine w_aload_n dX2_follow_10 rfl ?_
    refine w_aload_n dX2_follow_11 rfl ?_
    refine w_getR dX2_follow_12 flX2_85 rfl (hs.wr (j := 0) (o := 1) hw 9 37 rfl rfl) ?_
    refine w_iload_n dX2_follow_15 rfl ?_
    refine w_aaldI dX2_follow_16 rfl (hs.wn (o := 1) (z := 6) hw 0 19 rfl rfl) (by omega) (hs.rows hw (by omega)).1 ?_
    refine w_aload_n dX2_follow_17 rfl ?_
    refine w_getR dX2_follow_18 flX2_17 rfl (hs.r (a := 59) (j := 1) (b := 61) 66 rfl) ?_
    refine w_iload_n dX2_follow_21 rfl ?_
    refine w_aaldI dX2_follow_22 rfl (hs.n (a := 61) (z := 6) 39 rfl) (by omega) (hs.frow (by omega)).1 ?_
    refine c_Vv (t := 2) (as := [_, _, _]) (d' := 3) dX2_follow_23 mlX2_95 moX2_decide mvX2_decide ⟨rfl, rfl⟩ rfl rfl rfl rfl rfl (by decide) (sX2_decide hs hw hV hC (p := plV V oF cd s) (hs.rows hw (by omega)).2 (hs.frow (by omega)).2 (by rcases hw with rfl | rfl <;> omega) (by omega) ho hf (hC.2.1 s hss 2 (by decide)) (fun z => by rw [hC.2.1 s hss 3 (by decide)]; rfl) (hC.2.1 s hss 4 (by decide)) (hC.2.1 s hss 5 (by decide)) (hC.2.1 s hss 6 (by decide)) (fun I1 hI1 hF1 => ?_))
    refine w_aload_n dX2_follow_26 rfl ?_
    refine w_aload_n dX2_follow_27 rfl ?_
    refine w_getR dX2_follow_28 flX2_17 rfl (hs.r (a := 59) (j := 1) (b := 61) 66 rfl) ?_
    refine w_iload_n dX2_follow_31 rfl ?_
    refine w_aaldI dX2_follow_32 rfl (hs.n (a := 61) (z := 6) 39 rfl) (by omega) (hs.frow (by omega)).1 ?_
    refine c_Vv (t := 2) (as := [_]) (d' := 0) dX2_follow_33 mlX2_99 moX2_bring mvX2_bring ⟨rfl, rfl⟩ rfl rfl rfl rfl rfl (by decide) (sX2_bring hs (p := plV V oF cd s) (hs.frow (by omega)).2 (by omega) (fun j hj => by rw [hI1 (62 + s) (by rcases hw with rfl | rfl <;> omega) (by omega)]; exact hf j hj) (fun j hj => (hF1 j hj).2.2.2) (fun I2 hI2 hF2 => ?_))
    refine w_return dX2_follow_36 rfl ?_
    refine hq I2 (fun q h1 h2 => (hI2 q (by omega) (by omega)).trans (hI1 q h1 (by omega))) (fun j hj => ?_)
    obtain ⟨f1, f2, f3, f4⟩ := hF1 j hj
    exact ⟨by rw [hI2 68 (by decide) (by decide)]; exact f1, by rw [hI2 69 (by decide) (by decide)]; exact f2, by rw [hI2 70 (by decide) (by decide)]; exact f3, by rw [hI2 71 (by decide) (by decide)]; exact f4, (hF2 j hj).1, (hF2 j hj).2⟩
  · refine absurd ⟨nI_pos' (by omega), ?_⟩ c5
    rw [hC.1.1, hV.1.1, show nI (nS V) - 1 = nI (nS V - 1) from nI_sub (b := 1) (by omega)]
    exact nI_le (by omega) (by omega)

set_option maxRecDepth 20000 in
theorem sX2_followOne (hs : SK R N) {w : Nat} (hw : w = 1 ∨ w = 30) {V : VV} (hV : VO V) (hC : WC I R N n w V) {s : Nat} (hss : s < nS V)
    (hq : ∀ I' : HI, (∀ q, q ≠ w + 12 → (q < 60 ∨ 74 ≤ q) → I' q = I q) → PF I' (plV V (owV V) (told (V 4)) s) → (∀ j, j < 31 → I' 60 j = owV V j) → (∀ j, j < 31 → I' (62 + s) j = (plV V (owV V) (told (V 4)) s).2.1 j) → Q vU I' L R N n) : CA sc 5 0 0 mX2_followOne [vR 2 59, vR 8 w, vI (nI s)] I L R N n Q := by
  have h6 := hV.1.2
  refine ca_in (al := [_, _, _]) rfl ?_
  refine w_aload_n dX2_followOne_0 rfl ?_
  refine w_aload_n dX2_followOne_1 rfl ?_
  refine w_aload_n dX2_followOne_2 rfl ?_
  rcases hV.2.2.2.2.2.1 with hv3 | ⟨r, hr, hv3⟩
  · have howe := owV_n hv3
    refine c_V (t := 8) (as := []) (d' := 2) dX2_followOne_3 mlX2_52 moX8_ruleInForce mvX8_ruleInForce ⟨rfl, rfl⟩ rfl rfl rfl rfl rfl (by decide) (sX8_ruleInForceN hs hw (hC.1.2.2.1.trans (told_n hv3)) ?_)
    refine c_Vv (t := 2) (as := [_, _]) (d' := 3) dX2_followOne_6 mlX2_58 moX2_takeRule mvX2_takeRule ⟨rfl, rfl⟩ rfl rfl rfl rfl rfl (by decide) (sX2_takeRuleN hs hw hV hC (fun I1 hI1 ho1 => ?_))
    have ho2 : ∀ j, j < 31 → I1 60 j = owV V j := fun j hj => by rw [howe]; exact ho1 j hj
    have hC1 : WC I1 R N n w V := hC.keep hV (fun a ha => hI1 a (by unfold WA at ha; rcases hw with rfl | rfl <;> omega) (by unfold WA at ha; rcases hw with rfl | rfl <;> omega))
    refine w_aload_n dX2_followOne_9 rfl ?_
    refine w_aload_n dX2_followOne_10 rfl ?_
    refine w_iload_n dX2_followOne_11 rfl ?_
    refine w_aload_n dX2_followOne_12 rfl ?_
    refine w_getI dX2_followOne_13 flX2_62 rfl ?_
    refine w_top (y := told (V 4)) (hC1.1.2.2.2.1) ?_
    refine c_Vv (t := 2) (as := [_, _, _]) (d' := 3) dX2_followOne_16 mlX2_77 moX2_forgetting mvX2_forgetting ⟨rfl, rfl⟩ rfl rfl rfl rfl rfl (by decide) (sX2_forgetting hs hw hV hC1 hss (fun I2 hI2 hf2 => ?_))
    have hC2 : WC I2 R N n w V := hC1.keep hV (fun a ha => hI2 a (by unfold WA at ha; rcases hw with rfl | rfl <;> omega) (by unfold WA at ha; rcases hw with rfl | rfl <;> omega))
    refine w_aload_n dX2_followOne_19 rfl ?_
    refine w_aload_n dX2_followOne_20 rfl ?_
    refine w_iload_n dX2_followOne_21 rfl ?_
    refine c_Vv (t := 2) (as := [_, _]) (d' := 4) dX2_followOne_22 mlX2_92 moX2_follow mvX2_follow ⟨rfl, rfl⟩ rfl rfl rfl rfl rfl (by decide) (sX2_follow hs hw hV hC2 hss (oF := owV V) (cd := told (V 4)) (fun j hj => by rw [hI2 60 (by rcases hw with rfl | rfl <;> omega) (by omega)]; exact ho2 j hj) hf2 (fun I3 hI3 hF3 => ?_))
    refine w_return dX2_followOne_25 rfl ?_
    refine hq I3 (fun q h1 h2 => (hI3 q h1 (by omega)).trans ((hI2 q h1 (by omega)).trans (hI1 q h1 (by omega)))) hF3 (fun j hj => ?_) (fun j hj => ?_)
    · rw [hI3 60 (by rcases hw with rfl | rfl <;> omega) (by omega), hI2 60 (by rcases hw with rfl | rfl <;> omega) (by omega)]; exact ho2 j hj
    · rw [hI3 (62 + s) (by rcases hw with rfl | rfl <;> omega) (by omega)]; exact hf2 j hj
  · have hr8 := hV.2.1.2
    have howe := owV_s hv3 (by omega)
    have hrl := hs.rules hw (show r < 8 by omega)
    refine c_V (t := 8) (as := []) (d' := 2) dX2_followOne_3 mlX2_52 moX8_ruleInForce mvX8_ruleInForce ⟨rfl, rfl⟩ rfl rfl rfl rfl rfl (by decide) (sX8_ruleInForceS hs hw (hC.1.2.2.1.trans (told_s hv3 (by omega))) (hC.1.2.1.trans hV.2.1.1) hr8 hr ?_)
    refine c_Vv (t := 2) (as := [_, _]) (d' := 3) dX2_followOne_6 mlX2_58 moX2_takeRule mvX2_takeRule ⟨rfl, rfl⟩ rfl rfl rfl rfl rfl (by decide) (sX2_takeRuleS hs hw hV hC hrl.2.1 hrl.2.2 (rule_c hV hC hr) (by omega) (by omega) (by rcases hw with rfl | rfl <;> omega) (by rcases hw with rfl | rfl <;> omega) (fun I1 hI1 ho1 => ?_))
    have ho2 : ∀ j, j < 31 → I1 60 j = owV V j := fun j hj => by rw [howe, ← ow_own hC hr]; exact ho1 j hj
    have hC1 : WC I1 R N n w V := hC.keep hV (fun a ha => hI1 a (by unfold WA at ha; rcases hw with rfl | rfl <;> omega) (by unfold WA at ha; rcases hw with rfl | rfl <;> omega))
    refine w_aload_n dX2_followOne_9 rfl ?_
    refine w_aload_n dX2_followOne_10 rfl ?_
    refine w_iload_n dX2_followOne_11 rfl ?_
    refine w_aload_n dX2_followOne_12 rfl ?_
    refine w_getI dX2_followOne_13 flX2_62 rfl ?_
    refine w_top (y := told (V 4)) (hC1.1.2.2.2.1) ?_
    refine c_Vv (t := 2) (as := [_, _, _]) (d' := 3) dX2_followOne_16 mlX2_77 moX2_forgetting mvX2_forgetting ⟨rfl, rfl⟩ rfl rfl rfl rfl rfl (by decide) (sX2_forgetting hs hw hV hC1 hss (fun I2 hI2 hf2 => ?_))
    have hC2 : WC I2 R N n w V := hC1.keep hV (fun a ha => hI2 a (by unfold WA at ha; rcases hw with rfl | rfl <;> omega) (by unfold WA at ha; rcases hw with rfl | rfl <;> omega))
    refine w_aload_n dX2_followOne_19 rfl ?_
    refine w_aload_n dX2_followOne_20 rfl ?_
    refine w_iload_n dX2_followOne_21 rfl ?_
    refine c_Vv (t := 2) (as := [_, _]) (d' := 4) dX2_followOne_22 mlX2_92 moX2_follow mvX2_follow ⟨rfl, rfl⟩ rfl rfl rfl rfl rfl (by decide) (sX2_follow hs hw hV hC2 hss (oF := owV V) (cd := told (V 4)) (fun j hj => by rw [hI2 60 (by rcases hw with rfl | rfl <;> omega) (by omega)]; exact ho2 j hj) hf2 (fun I3 hI3 hF3 => ?_))
    refine w_return dX2_followOne_25 rfl ?_
    refine hq I3 (fun q h1 h2 => (hI3 q h1 (by omega)).trans ((hI2 q h1 (by omega)).trans (hI1 q h1 (by omega)))) hF3 (fun j hj => ?_) (fun j hj => ?_)
    · rw [hI3 60 (by rcases hw with rfl | rfl <;> omega) (by omega), hI2 60 (by rcases hw with rfl | rfl <;> omega) (by omega)]; exact ho2 j hj
    · rw [hI3 (62 + s) (by rcases hw with rfl | rfl <;> omega) (by omega)]; exact hf2 j hj

set_option maxRecDepth 20000 in
theorem sX2_take (hs : SK R N) {w : Nat} (hw : w = 1 ∨ w = 30) {V : VV} (hV : VO V) (hC : WC I R N n w V)
    (hq : ∀ I' : HI, (∀ q, q ≠ w + 12 → (q < 60 ∨ 68 ≤ q) → I' q = I q) → (∀ j, j < 31 → I' 60 j = owV V j) → (∀ s, s < nS V → ∀ j, j < 31 → I' (62 + s) j = forgV V (V (6 + 7 * s + 1)) (told (V 4)) (nI j)) → Q vU I' L R N n) : CA sc 5 0 0 mX2_take [vR 2 59, vR 8 w] I L R N n Q := by
  have h6 := hV.1.2
  refine ca_in (al := [_, _]) rfl ?_
  refine w_aload_n dX2_take_0 rfl ?_
  refine w_aload_n dX2_take_1 rfl ?_
  refine w_aload_n dX2_take_2 rfl ?_
  rcases hV.2.2.2.2.2.1 with hv3 | ⟨r, hr, hv3⟩
  · have howe := owV_n hv3
    refine c_V (t := 8) (as := []) (d' := 2) dX2_take_3 mlX2_52 moX8_ruleInForce mvX8_ruleInForce ⟨rfl, rfl⟩ rfl rfl rfl rfl rfl (by decide) (sX8_ruleInForceN hs hw (hC.1.2.2.1.trans (told_n hv3)) ?_)
    refine c_Vv (t := 2) (as := [_, _]) (d' := 3) dX2_take_6 mlX2_58 moX2_takeRule mvX2_takeRule ⟨rfl, rfl⟩ rfl rfl rfl rfl rfl (by decide) (sX2_takeRuleN hs hw hV hC (fun I1 hI1 ho1 => ?_))
    have ho2 : ∀ j, j < 31 → I1 60 j = owV V j := fun j hj => by rw [howe]; exact ho1 j hj
    have hC1 : WC I1 R N n w V := hC.keep hV (fun a ha => hI1 a (by unfold WA at ha; rcases hw with rfl | rfl <;> omega) (by unfold WA at ha; rcases hw with rfl | rfl <;> omega))
    refine w_aload_n dX2_take_9 rfl ?_
    refine w_aload_n dX2_take_10 rfl ?_
    refine w_aload_n dX2_take_11 rfl ?_
    refine w_getI dX2_take_12 flX2_62 rfl ?_
    refine w_top (y := told (V 4)) (hC1.1.2.2.2.1) ?_
    refine c_Vv (t := 2) (as := [_, _]) (d' := 4) dX2_take_15 mlX2_66 moX2_takeCard mvX2_takeCard ⟨rfl, rfl⟩ rfl rfl rfl rfl rfl (by decide) (sX2_takeCard hs hw hV hC1 (fun I2 hI2 hf2 => ?_))
    refine w_return dX2_take_18 rfl ?_
    refine hq I2 (fun q h1 h2 => (hI2 q h1 (by omega)).trans (hI1 q h1 (by omega))) (fun j hj => ?_) hf2
    rw [hI2 60 (by rcases hw with rfl | rfl <;> omega) (by omega)]; exact ho2 j hj
  · have hr8 := hV.2.1.2
    have howe := owV_s hv3 (by omega)
    have hrl := hs.rules hw (show r < 8 by omega)
    refine c_V (t := 8) (as := []) (d' := 2) dX2_take_3 mlX2_52 moX8_ruleInForce mvX8_ruleInForce ⟨rfl, rfl⟩ rfl rfl rfl rfl rfl (by decide) (sX8_ruleInForceS hs hw (hC.1.2.2.1.trans (told_s hv3 (by omega))) (hC.1.2.1.trans hV.2.1.1) hr8 hr ?_)
    refine c_Vv (t := 2) (as := [_, _]) (d' := 3) dX2_take_6 mlX2_58 moX2_takeRule mvX2_takeRule ⟨rfl, rfl⟩ rfl rfl rfl rfl rfl (by decide) (sX2_takeRuleS hs hw hV hC hrl.2.1 hrl.2.2 (rule_c hV hC hr) (by omega) (by omega) (by rcases hw with rfl | rfl <;> omega) (by rcases hw with rfl | rfl <;> omega) (fun I1 hI1 ho1 => ?_))
    have ho2 : ∀ j, j < 31 → I1 60 j = owV V j := fun j hj => by rw [howe, ← ow_own hC hr]; exact ho1 j hj
    have hC1 : WC I1 R N n w V := hC.keep hV (fun a ha => hI1 a (by unfold WA at ha; rcases hw with rfl | rfl <;> omega) (by unfold WA at ha; rcases hw with rfl | rfl <;> omega))
    refine w_aload_n dX2_take_9 rfl ?_
    refine w_aload_n dX2_take_10 rfl ?_
    refine w_aload_n dX2_take_11 rfl ?_
    refine w_getI dX2_take_12 flX2_62 rfl ?_
    refine w_top (y := told (V 4)) (hC1.1.2.2.2.1) ?_
    refine c_Vv (t := 2) (as := [_, _]) (d' := 4) dX2_take_15 mlX2_66 moX2_takeCard mvX2_takeCard ⟨rfl, rfl⟩ rfl rfl rfl rfl rfl (by decide) (sX2_takeCard hs hw hV hC1 (fun I2 hI2 hf2 => ?_))
    refine w_return dX2_take_18 rfl ?_
    refine hq I2 (fun q h1 h2 => (hI2 q h1 (by omega)).trans (hI1 q h1 (by omega))) (fun j hj => ?_) hf2
    rw [hI2 60 (by rcases hw with rfl | rfl <;> omega) (by omega)]; exact ho2 j hj

set_option maxRecDepth 20000 in
theorem sX10_findOwed (hs : SK R N) {V : VV} (hI : I 118 = V) (hV : VO V)
    (hq : ∀ I' : HI, (∀ q, q ≠ 135 → q ≠ 136 → q ≠ 121 → I' q = I q) → (∀ j, j < 31 → I' 121 j = owV V j) → Q vU I' L R N n) : CA sc 3 0 0 mX10_findOwed [vR 10 117] I L R N n Q := by
  have lp : ∀ (k j : Nat) (I1 : HI), j + k = 31 → (∀ q, q ≠ 135 → q ≠ 136 → q ≠ 121 → I1 q = I q) → (∀ i, i < j → I1 121 i = owV V i) → WP sc 3 0 0 mX10_findOwed 2 [vR 10 117, vI (nI j)] [] I1 L R N n Q := by
    intro k
    induction k with
    | zero =>
      intro j I1 hj hI1 hf
      refine w_iload_n dX10_findOwed_2 rfl ?_
      refine w_bipush dX10_findOwed_3 bp_31 ?_
      refine w_icmp_ge (tgt := 44) dX10_findOwed_5 (by decide) (fun c5 => ?_) (fun c5 => ?_)
      · refine w_return dX10_findOwed_44 rfl ?_
        exact hq I1 hI1 (fun i hi => hf i (by omega))
      · exact absurd (nI_le (a := 31) (by omega) (by omega)) c5
    | succ k ih =>
      intro j I1 hj hI1 hf
      refine w_iload_n dX10_findOwed_2 rfl ?_
      refine w_bipush dX10_findOwed_3 bp_31 ?_
      refine w_icmp_ge (tgt := 44) dX10_findOwed_5 (by decide) (fun c5 => ?_) (fun c5 => ?_)
      · exact absurd ((nI_leI (a := 31) (by omega) (by omega)).mp c5) (by omega)
      · refine w_aload_n dX10_findOwed_8 rfl ?_
        refine w_getR dX10_findOwed_9 flX10_19 rfl (hs.r (a := 117) (j := 4) (b := 121) 119 rfl) ?_
        refine w_iload_n dX10_findOwed_12 rfl ?_
        refine w_aload_n dX10_findOwed_13 rfl ?_
        refine w_getR dX10_findOwed_14 flX10_9 rfl (hs.r (a := 117) (j := 0) (b := 118) 116 rfl) ?_
        refine w_iconst dX10_findOwed_17 ic_3 ?_
        rcases hV.2.2.2.2.2.1 with hv3 | ⟨r, hr, hv3⟩
        · have howe := owV_n hv3
          refine w_iald (q := 3) dX10_findOwed_18 rfl (hs.n (a := 118) (z := 1452) 72 rfl) (by decide) ?_
          refine w_top (y := -1) ((congrFun ((hI1 118 (by decide) (by decide) (by decide)).trans hI) 3).trans hv3) ?_
          refine w_if_ge (tgt := 26) dX10_findOwed_19 (by decide) (fun c19 => ?_) (fun c19 => ?_)
          · exact absurd c19 (by decide)
          · refine w_iconst dX10_findOwed_22 ic_0 ?_
            refine w_goto (tgt := 37) dX10_findOwed_23 (by decide) ?_
            refine w_iast dX10_findOwed_37 rfl (hs.n (a := 121) (z := 31) 75 rfl) (by omega) ?_
            refine w_iinc (al' := [_, _]) dX10_findOwed_38 rfl rfl ic_1 rfl ?_
            refine w_goto (tgt := 2) dX10_findOwed_41 (by decide) ?_
            simp only [nI_1]
            refine ih (j + 1) _ (by omega) (fun q h1 h2 h3 => ?_) (fun i hi => ?_)
            · rw [va_up_ne _ _ h3]; exact hI1 q h1 h2 h3
            · rw [va_up_self]
              by_cases e : i = j
              · subst e; rw [va_up_self, howe]
              · rw [va_up_ne _ _ e]; exact hf i (by omega)
        · have hr8 := hV.2.1.2
          have howe := owV_s hv3 (by omega)
          refine w_iald (q := 3) dX10_findOwed_18 rfl (hs.n (a := 118) (z := 1452) 72 rfl) (by decide) ?_
          refine w_top (y := nI r) ((congrFun ((hI1 118 (by decide) (by decide) (by decide)).trans hI) 3).trans hv3) ?_
          refine w_if_ge (tgt := 26) dX10_findOwed_19 (by decide) (fun c19 => ?_) (fun c19 => ?_)
          · refine w_aload_n dX10_findOwed_26 rfl ?_
            refine w_aload_n dX10_findOwed_27 rfl ?_
            refine w_getR dX10_findOwed_28 flX10_9 rfl (hs.r (a := 117) (j := 0) (b := 118) 116 rfl) ?_
            refine w_iconst dX10_findOwed_31 ic_3 ?_
            refine w_iald (q := 3) dX10_findOwed_32 rfl (hs.n (a := 118) (z := 1452) 72 rfl) (by decide) ?_
            refine w_top (y := nI r) ((congrFun ((hI1 118 (by decide) (by decide) (by decide)).trans hI) 3).trans hv3) ?_
            refine w_iload_n dX10_findOwed_33 rfl ?_
            refine c_V (t := 10) (as := [_, _]) (d' := 2) dX10_findOwed_34 mlX10_159 moX10_owedBy mvX10_owedBy ⟨rfl, rfl⟩ rfl rfl rfl rfl rfl (by decide) (sX10_owedBy hs ((hI1 118 (by decide) (by decide) (by decide)).trans hI) hV hr (fun I2 hI2 => ?_))
            refine w_iast dX10_findOwed_37 rfl (hs.n (a := 121) (z := 31) 75 rfl) (by omega) ?_
            refine w_iinc (al' := [_, _]) dX10_findOwed_38 rfl rfl ic_1 rfl ?_
            refine w_goto (tgt := 2) dX10_findOwed_41 (by decide) ?_
            simp only [nI_1]
            refine ih (j + 1) _ (by omega) (fun q h1 h2 h3 => ?_) (fun i hi => ?_)
            · rw [va_up_ne _ _ h3, hI2 q h1 h2]; exact hI1 q h1 h2 h3
            · rw [va_up_self]
              by_cases e : i = j
              · subst e; rw [va_up_self, howe]; rfl
              · rw [va_up_ne _ _ e, hI2 121 (by decide) (by decide)]; exact hf i (by omega)
          · exact absurd (nI_pos' (by omega)) c19
  refine ca_in (al := [_, _]) rfl ?_
  refine w_iconst dX10_findOwed_0 ic_0 ?_
  refine w_istore_n (al' := [_, _]) dX10_findOwed_1 rfl rfl rfl ?_
  exact lp 31 0 I rfl (fun _ _ _ _ => rfl) (fun i hi => absurd hi (Nat.not_lt_zero i))

def MF (I : HI) (p : PL) : Prop := ∀ j, j < 31 → I 122 j = p.2.1 j ∧ I 123 j = pBri p j ∧ I 124 j = pKeep p j ∧ I 125 j = cst p j ∧ I 126 j = bI (pBs p j) ∧ I 127 j = pBr p j ∧ I 128 (j + 1) = pOut p (j + 1)
set_option maxRecDepth 20000 in
theorem sX10_findDays (hs : SK R N) {V : VV} (hI : I 118 = V) (hV : VO V) {s : Nat} (hss : s < nS V) {oF : VV} (ho : ∀ j, j < 31 → I 121 j = oF j)
    (hq : ∀ I' : HI, (∀ q, q ≠ 135 → q ≠ 136 → (q < 122 ∨ 129 ≤ q) → I' q = I q) → MF I' (plV V oF (told (V 4)) s) → I' 128 0 = 1000000 → Q vU I' L R N n) : CA sc 3 0 0 mX10_findDays [vR 10 117, vI (nI s)] I L R N n Q := by
  have h6 := hV.1.2
  obtain ⟨p, hp⟩ : ∃ p, p = plV V oF (told (V 4)) s := ⟨_, rfl⟩
  have l2 : ∀ I0 : HI, (∀ q, q ≠ 135 → q ≠ 136 → (q < 122 ∨ 127 ≤ q) → (q = 128 ∨ I0 q = I q)) → I0 128 0 = 1000000 → (∀ j, 0 ≤ j → j < 31 → I0 122 j = p.2.1 j ∧ I0 123 j = pBri p j ∧ I0 124 j = pKeep p j ∧ I0 125 j = cst p j ∧ I0 126 j = bI (pBs p j)) → WP sc 3 0 0 mX10_findDays 199 [vR 10 117, vI (nI s), vI (nI 0)] [] I0 L R N n Q := by
    intro I0 hI0x h00 hfx
    have hI0 : ∀ q, q ≠ 135 → q ≠ 136 → (q < 122 ∨ 129 ≤ q) → I0 q = I q := fun q a1 a2 a3 => (hI0x q a1 a2 (by omega)).resolve_left (by omega)
    have lp2 : ∀ (k j : Nat) (I1 : HI), j + k = 31 → (∀ q, q ≠ 127 → q ≠ 128 → I1 q = I0 q) → I1 128 j = pOut p j → I1 128 0 = 1000000 → (∀ i, i < j → I1 127 i = pBr p i ∧ I1 128 (i + 1) = pOut p (i + 1)) → WP sc 3 0 0 mX10_findDays 199 [vR 10 117, vI (nI s), vI (nI j)] [] I1 L R N n Q := by
      intro k
      induction k with
      | zero =>
        intro j I1 hj hI1 hoj ho0 hfy
        refine w_iload_n dX10_findDays_199 rfl ?_
        refine w_bipush dX10_findDays_200 bp_31 ?_
        refine w_icmp_ge (tgt := 270) dX10_findDays_202 (by decide) (fun c202 => ?_) (fun c202 => ?_)
        · refine w_return dX10_findDays_270 rfl ?_
          refine hq I1 (fun q a1 a2 a3 => (hI1 q (by omega) (by omega)).trans (hI0 q a1 a2 (by omega))) (fun j9 hj9 => ?_) ho0
          obtain ⟨f1, f2, f3, f4, f5⟩ := hfx j9 (Nat.zero_le _) hj9
          rw [← hp]
          exact ⟨by rw [hI1 122 (by decide) (by decide)]; exact f1, by rw [hI1 123 (by decide) (by decide)]; exact f2, by rw [hI1 124 (by decide) (by decide)]; exact f3, by rw [hI1 125 (by decide) (by decide)]; exact f4, by rw [hI1 126 (by decide) (by decide)]; exact f5, (hfy j9 (by omega)).1, (hfy j9 (by omega)).2⟩
        · exact absurd (nI_le (a := 31) (by omega) (by omega)) c202
      | succ k ih =>
        intro j I1 hj hI1 hoj ho0 hfy
        refine w_iload_n dX10_findDays_199 rfl ?_
        refine w_bipush dX10_findDays_200 bp_31 ?_
        refine w_icmp_ge (tgt := 270) dX10_findDays_202 (by decide) (fun c202 => ?_) (fun c202 => ?_)
        · exact absurd ((nI_leI (a := 31) (by omega) (by omega)).mp c202) (by omega)
        · refine w_aload_n dX10_findDays_205 rfl ?_
          refine w_getR dX10_findDays_206 flX10_38 rfl (hs.r (a := 117) (j := 10) (b := 127) 125 rfl) ?_
          refine w_iload_n dX10_findDays_209 rfl ?_
          refine w_aload_n dX10_findDays_210 rfl ?_
          refine w_getR dX10_findDays_211 flX10_34 rfl (hs.r (a := 117) (j := 9) (b := 126) 124 rfl) ?_
          refine w_iload_n dX10_findDays_214 rfl ?_
          refine w_zald dX10_findDays_215 rfl (hs.n (a := 126) (z := 31) 80 rfl) (by omega) ?_
          refine w_top (y := bI (pBs p j)) (by rw [hI1 126 (by decide) (by decide)]; exact (hfx j (Nat.zero_le _) (by omega)).2.2.2.2) ?_
          refine w_if_eq (tgt := 241) dX10_findDays_216 (by decide) (fun c216 => ?_) (fun c216 => ?_)
          · refine w_iconst dX10_findDays_241 ic_0 ?_
            refine w_top (y := pBr p j) ((cif_f (bI_e.mp c216)).symm) ?_
            refine w_iast dX10_findDays_242 rfl (hs.n (a := 127) (z := 31) 81 rfl) (by omega) ?_
            refine w_st (fun I2 hA2 hB2 hC2 => ?_)
            refine w_aload_n dX10_findDays_243 rfl ?_
            refine w_getR dX10_findDays_244 flX10_41 rfl (hs.r (a := 117) (j := 11) (b := 128) 126 rfl) ?_
            refine w_iload_n dX10_findDays_247 rfl ?_
            refine w_iconst dX10_findDays_248 ic_1 ?_
            refine w_iadd dX10_findDays_249 ?_
            refine w_top (y := nI (j + 1)) (nI_1 j) ?_
            refine w_aload_n dX10_findDays_250 rfl ?_
            refine w_getR dX10_findDays_251 flX10_41 rfl (hs.r (a := 117) (j := 11) (b := 128) 126 rfl) ?_
            refine w_iload_n dX10_findDays_254 rfl ?_
            refine w_iald dX10_findDays_255 rfl (hs.n (a := 128) (z := 32) 82 rfl) (by omega) ?_
            refine w_top (y := pOut p j) (by rw [hA2 128 (by decide)]; exact hoj) ?_
            refine w_aload_n dX10_findDays_256 rfl ?_
            refine w_getR dX10_findDays_257 flX10_38 rfl (hs.r (a := 117) (j := 10) (b := 127) 125 rfl) ?_
            refine w_iload_n dX10_findDays_260 rfl ?_
            refine w_iald dX10_findDays_261 rfl (hs.n (a := 127) (z := 31) 81 rfl) (by omega) ?_
            refine w_top (y := pBr p j) (hC2) ?_
            refine w_isub dX10_findDays_262 ?_
            refine w_top (y := pOut p (j + 1)) ((pOut_s p j).symm) ?_
            refine w_iast dX10_findDays_263 rfl (hs.n (a := 128) (z := 32) 82 rfl) (by omega) ?_
            refine w_st (fun I3 hA3 hB3 hC3 => ?_)
            refine w_iinc (al' := [_, _, _]) dX10_findDays_264 rfl rfl ic_1 rfl ?_
            refine w_goto (tgt := 199) dX10_findDays_267 (by decide) ?_
            simp only [nI_1]
            refine ih (j + 1) I3 (by omega) (fun q h1 h2 => (hA3 q h2).trans ((hA2 q h1).trans (hI1 q h1 h2))) hC3 ?_ (fun i hi => ?_)
            · rw [hB3 0 (by omega), hA2 128 (by decide)]; exact ho0
            · by_cases e : i = j
              · subst e; exact ⟨by rw [hA3 127 (by decide)]; exact hC2, hC3⟩
              · exact ⟨by rw [hA3 127 (by decide), hB2 i e]; exact (hfy i (by omega)).1, by rw [hB3 (i + 1) (by omega), hA2 128 (by decide)]; exact (hfy i (by omega)).2⟩
          · refine w_aload_n dX10_findDays_219 rfl ?_
            refine w_getR dX10_findDays_220 flX10_41 rfl (hs.r (a := 117) (j := 11) (b := 128) 126 rfl) ?_
            refine w_iload_n dX10_findDays_223 rfl ?_
            refine w_iald dX10_findDays_224 rfl (hs.n (a := 128) (z := 32) 82 rfl) (by omega) ?_
            refine w_top (y := pOut p j) (hoj) ?_
            refine w_bipush dX10_findDays_225 bp_100 ?_
            refine w_aload_n dX10_findDays_227 rfl ?_
            refine w_getR dX10_findDays_228 flX10_22 rfl (hs.r (a := 117) (j := 5) (b := 122) 120 rfl) ?_
            refine w_iload_n dX10_findDays_231 rfl ?_
            refine w_iald dX10_findDays_232 rfl (hs.n (a := 122) (z := 31) 76 rfl) (by omega) ?_
            refine w_top (y := p.2.1 j) (by rw [hI1 122 (by decide) (by decide)]; exact (hfx j (Nat.zero_le _) (by omega)).1) ?_
            refine w_isub dX10_findDays_233 ?_
            refine w_imul dX10_findDays_234 ?_
            refine w_bipush dX10_findDays_235 bp_100 ?_
            refine w_idiv dX10_findDays_237 (by decide) ?_
            refine w_top (y := pBr p j) ((cif_t (bI_n.mp c216)).symm) ?_
            refine w_goto (tgt := 242) dX10_findDays_238 (by decide) ?_
            refine w_iast dX10_findDays_242 rfl (hs.n (a := 127) (z := 31) 81 rfl) (by omega) ?_
            refine w_st (fun I2 hA2 hB2 hC2 => ?_)
            refine w_aload_n dX10_findDays_243 rfl ?_
            refine w_getR dX10_findDays_244 flX10_41 rfl (hs.r (a := 117) (j := 11) (b := 128) 126 rfl) ?_
            refine w_iload_n dX10_findDays_247 rfl ?_
            refine w_iconst dX10_findDays_248 ic_1 ?_
            refine w_iadd dX10_findDays_249 ?_
            refine w_top (y := nI (j + 1)) (nI_1 j) ?_
            refine w_aload_n dX10_findDays_250 rfl ?_
            refine w_getR dX10_findDays_251 flX10_41 rfl (hs.r (a := 117) (j := 11) (b := 128) 126 rfl) ?_
            refine w_iload_n dX10_findDays_254 rfl ?_
            refine w_iald dX10_findDays_255 rfl (hs.n (a := 128) (z := 32) 82 rfl) (by omega) ?_
            refine w_top (y := pOut p j) (by rw [hA2 128 (by decide)]; exact hoj) ?_
            refine w_aload_n dX10_findDays_256 rfl ?_
            refine w_getR dX10_findDays_257 flX10_38 rfl (hs.r (a := 117) (j := 10) (b := 127) 125 rfl) ?_
            refine w_iload_n dX10_findDays_260 rfl ?_
            refine w_iald dX10_findDays_261 rfl (hs.n (a := 127) (z := 31) 81 rfl) (by omega) ?_
            refine w_top (y := pBr p j) (hC2) ?_
            refine w_isub dX10_findDays_262 ?_
            refine w_top (y := pOut p (j + 1)) ((pOut_s p j).symm) ?_
            refine w_iast dX10_findDays_263 rfl (hs.n (a := 128) (z := 32) 82 rfl) (by omega) ?_
            refine w_st (fun I3 hA3 hB3 hC3 => ?_)
            refine w_iinc (al' := [_, _, _]) dX10_findDays_264 rfl rfl ic_1 rfl ?_
            refine w_goto (tgt := 199) dX10_findDays_267 (by decide) ?_
            simp only [nI_1]
            refine ih (j + 1) I3 (by omega) (fun q h1 h2 => (hA3 q h2).trans ((hA2 q h1).trans (hI1 q h1 h2))) hC3 ?_ (fun i hi => ?_)
            · rw [hB3 0 (by omega), hA2 128 (by decide)]; exact ho0
            · by_cases e : i = j
              · subst e; exact ⟨by rw [hA3 127 (by decide)]; exact hC2, hC3⟩
              · exact ⟨by rw [hA3 127 (by decide), hB2 i e]; exact (hfy i (by omega)).1, by rw [hB3 (i + 1) (by omega), hA2 128 (by decide)]; exact (hfy i (by omega)).2⟩
    exact lp2 31 0 I0 rfl (fun _ _ _ => rfl) h00 h00 (fun i hi => absurd hi (Nat.not_lt_zero i))
  have lp : ∀ (k : Nat) (I1 : HI), k ≤ 31 → (∀ q, q ≠ 135 → q ≠ 136 → (q < 122 ∨ 127 ≤ q) → I1 q = I q) → I1 125 k = cst p k → (∀ j, k ≤ j → j < 31 → I1 122 j = p.2.1 j ∧ I1 123 j = pBri p j ∧ I1 124 j = pKeep p j ∧ I1 125 j = cst p j ∧ I1 126 j = bI (pBs p j)) → WP sc 3 0 0 mX10_findDays 17 [vR 10 117, vI (nI s), vI (nI k - 1)] [] I1 L R N n Q := by
    intro k
    induction k with
    | zero =>
      intro I1 hk hI1 hck hfx
      refine w_iload_n dX10_findDays_17 rfl ?_
      refine w_if_lt (tgt := 189) dX10_findDays_18 (by decide) (fun c18 => ?_) (fun c18 => ?_)
      · refine w_aload_n dX10_findDays_189 rfl ?_
        refine w_getR dX10_findDays_190 flX10_41 rfl (hs.r (a := 117) (j := 11) (b := 128) 126 rfl) ?_
        refine w_iconst dX10_findDays_193 ic_0 ?_
        refine w_ldc dX10_findDays_194 kcX10_171 ?_
        refine w_iast (q := 0) dX10_findDays_196 rfl (hs.n (a := 128) (z := 32) 82 rfl) (by decide) ?_
        refine w_st (fun I2 hA2 hB2 hC2 => ?_)
        refine w_iconst dX10_findDays_197 ic_0 ?_
        refine w_istore_n (al' := [_, _, _]) dX10_findDays_198 rfl rfl rfl ?_
        exact l2 I2 (fun q a1 a2 a3 => by by_cases e : q = 128; exact Or.inl e; exact Or.inr ((hA2 q e).trans (hI1 q a1 a2 a3))) hC2 (fun j h1 h2 => by rw [hA2 122 (by decide), hA2 123 (by decide), hA2 124 (by decide), hA2 125 (by decide), hA2 126 (by decide)]; exact hfx j h1 h2)
      · exact absurd (by decide) c18
    | succ k ih =>
      intro I1 hk hI1 hck hfx
      rw [nI_pred]
      refine w_iload_n dX10_findDays_17 rfl ?_
      refine w_if_lt (tgt := 189) dX10_findDays_18 (by decide) (fun c18 => ?_) (fun c18 => ?_)
      · exact absurd c18 (nI_pos (by omega))
      · refine w_aload_n dX10_findDays_21 rfl ?_
        refine w_getR dX10_findDays_22 flX10_22 rfl (hs.r (a := 117) (j := 5) (b := 122) 120 rfl) ?_
        refine w_iload_n dX10_findDays_25 rfl ?_
        refine w_aload_n dX10_findDays_26 rfl ?_
        refine w_iload_n dX10_findDays_27 rfl ?_
        refine w_iload_n dX10_findDays_28 rfl ?_
        refine c_V (t := 10) (as := [_, _]) (d' := 2) dX10_findDays_29 mlX10_165 moX10_forgetsOn mvX10_forgetsOn ⟨rfl, rfl⟩ rfl rfl rfl rfl rfl (by decide) (sX10_forgetsOn hs ((hI1 118 (by decide) (by decide) (by decide)).trans hI) hV hss (fun I2 hI2 => ?_))
        have hX2 : (∀ q, q ≠ 135 → q ≠ 136 → (q < 122 ∨ 127 ≤ q) → I2 q = I q) := fun q a1 a2 a3 => (hI2 q a1 a2).trans (hI1 q a1 a2 a3)
        refine w_iast dX10_findDays_32 rfl (hs.n (a := 122) (z := 31) 76 rfl) (by omega) ?_
        refine w_st (fun I3 hA3 hB3 hC3 => ?_)
        have hX3 : (∀ q, q ≠ 135 → q ≠ 136 → (q < 122 ∨ 127 ≤ q) → I3 q = I q) := fun q a1 a2 a3 => (hA3 q (by omega)).trans (hX2 q a1 a2 a3)
        refine w_aload_n dX10_findDays_33 rfl ?_
        refine w_getR dX10_findDays_34 flX10_25 rfl (hs.r (a := 117) (j := 6) (b := 123) 121 rfl) ?_
        refine w_iload_n dX10_findDays_37 rfl ?_
        refine w_aload_n dX10_findDays_38 rfl ?_
        refine w_iload_n dX10_findDays_39 rfl ?_
        refine w_iconst dX10_findDays_40 ic_2 ?_
        refine c_V (t := 10) (as := [_, _]) (d' := 0) dX10_findDays_41 mlX10_111 moX10_sortOf mvX10_sortOf ⟨rfl, rfl⟩ rfl rfl rfl rfl rfl (by decide) (vX10_sortOf (V := V) (b := 2) hs ((hX3 118 (by decide) (by decide) (by decide)).trans hI) (by omega) ?_)
        refine w_aload_n dX10_findDays_44 rfl ?_
        refine w_getR dX10_findDays_45 flX10_19 rfl (hs.r (a := 117) (j := 4) (b := 121) 119 rfl) ?_
        refine w_iload_n dX10_findDays_48 rfl ?_
        refine w_iald dX10_findDays_49 rfl (hs.n (a := 121) (z := 31) 75 rfl) (by omega) ?_
        refine w_top (y := oF k) ((congrFun (hX3 121 (by decide) (by decide) (by decide)) _).trans (ho k (by omega))) ?_
        refine w_iadd dX10_findDays_50 ?_
        refine w_aload_n dX10_findDays_51 rfl ?_
        refine w_iload_n dX10_findDays_52 rfl ?_
        refine w_aload_n dX10_findDays_53 rfl ?_
        refine w_getR dX10_findDays_54 flX10_19 rfl (hs.r (a := 117) (j := 4) (b := 121) 119 rfl) ?_
        refine w_iload_n dX10_findDays_57 rfl ?_
        refine w_iald dX10_findDays_58 rfl (hs.n (a := 121) (z := 31) 75 rfl) (by omega) ?_
        refine w_top (y := oF k) ((congrFun (hX3 121 (by decide) (by decide) (by decide)) _).trans (ho k (by omega))) ?_
        refine c_V (t := 10) (as := [_, _]) (d' := 2) dX10_findDays_59 mlX10_168 moX10_shameOf mvX10_shameOf ⟨rfl, rfl⟩ rfl rfl rfl rfl rfl (by decide) (sX10_shameOf hs ((hX3 118 (by decide) (by decide) (by decide)).trans hI) hV hss (fun I4 hI4 => ?_))
        have hX4 : (∀ q, q ≠ 135 → q ≠ 136 → (q < 122 ∨ 127 ≤ q) → I4 q = I q) := fun q a1 a2 a3 => (hI4 q a1 a2).trans (hX3 q a1 a2 a3)
        refine w_iadd dX10_findDays_62 ?_
        refine w_top (y := pBri p k) (by rw [hp]; rfl) ?_
        refine w_iast dX10_findDays_63 rfl (hs.n (a := 123) (z := 31) 77 rfl) (by omega) ?_
        refine w_st (fun I5 hA5 hB5 hC5 => ?_)
        have hX5 : (∀ q, q ≠ 135 → q ≠ 136 → (q < 122 ∨ 127 ≤ q) → I5 q = I q) := fun q a1 a2 a3 => (hA5 q (by omega)).trans (hX4 q a1 a2 a3)
        refine w_aload_n dX10_findDays_64 rfl ?_
        refine w_getR dX10_findDays_65 flX10_28 rfl (hs.r (a := 117) (j := 7) (b := 124) 122 rfl) ?_
        refine w_iload_n dX10_findDays_68 rfl ?_
        refine w_aload_n dX10_findDays_69 rfl ?_
        refine w_getR dX10_findDays_70 flX10_31 rfl (hs.r (a := 117) (j := 8) (b := 125) 123 rfl) ?_
        refine w_iload_n dX10_findDays_73 rfl ?_
        refine w_iconst dX10_findDays_74 ic_1 ?_
        refine w_iadd dX10_findDays_75 ?_
        refine w_top (y := nI (k + 1)) (nI_1 k) ?_
        refine w_iald dX10_findDays_76 rfl (hs.n (a := 125) (z := 32) 79 rfl) (by omega) ?_
        refine w_top (y := cst p (k + 1)) (by rw [hA5 125 (by decide), hI4 125 (by decide) (by decide), hA3 125 (by decide), hI2 125 (by decide) (by decide)]; exact hck) ?_
        refine w_aload_n dX10_findDays_77 rfl ?_
        refine w_iload_n dX10_findDays_78 rfl ?_
        refine w_iconst dX10_findDays_79 ic_5 ?_
        refine c_V (t := 10) (as := [_, _]) (d' := 0) dX10_findDays_80 mlX10_111 moX10_sortOf mvX10_sortOf ⟨rfl, rfl⟩ rfl rfl rfl rfl rfl (by decide) (vX10_sortOf (V := V) (b := 5) hs ((hX5 118 (by decide) (by decide) (by decide)).trans hI) (by omega) ?_)
        refine w_isub dX10_findDays_83 ?_
        refine w_top (y := pKeep p k) (by rw [hp]; rfl) ?_
        refine w_iast dX10_findDays_84 rfl (hs.n (a := 124) (z := 31) 78 rfl) (by omega) ?_
        refine w_st (fun I6 hA6 hB6 hC6 => ?_)
        have hX6 : (∀ q, q ≠ 135 → q ≠ 136 → (q < 122 ∨ 127 ≤ q) → I6 q = I q) := fun q a1 a2 a3 => (hA6 q (by omega)).trans (hX5 q a1 a2 a3)
        refine w_aload_n dX10_findDays_85 rfl ?_
        refine w_getR dX10_findDays_86 flX10_34 rfl (hs.r (a := 117) (j := 9) (b := 126) 124 rfl) ?_
        refine w_iload_n dX10_findDays_89 rfl ?_
        refine w_aload_n dX10_findDays_90 rfl ?_
        refine w_getR dX10_findDays_91 flX10_19 rfl (hs.r (a := 117) (j := 4) (b := 121) 119 rfl) ?_
        refine w_iload_n dX10_findDays_94 rfl ?_
        refine w_iald dX10_findDays_95 rfl (hs.n (a := 121) (z := 31) 75 rfl) (by omega) ?_
        refine w_top (y := oF k) ((congrFun (hX6 121 (by decide) (by decide) (by decide)) _).trans (ho k (by omega))) ?_
        refine w_aload_n dX10_findDays_96 rfl ?_
        refine w_iload_n dX10_findDays_97 rfl ?_
        refine w_iconst dX10_findDays_98 ic_4 ?_
        refine c_V (t := 10) (as := [_, _]) (d' := 0) dX10_findDays_99 mlX10_111 moX10_sortOf mvX10_sortOf ⟨rfl, rfl⟩ rfl rfl rfl rfl rfl (by decide) (vX10_sortOf (V := V) (b := 4) hs ((hX6 118 (by decide) (by decide) (by decide)).trans hI) (by omega) ?_)
        refine w_icmp_gt (tgt := 124) dX10_findDays_102 (by decide) (fun c102 => ?_) (fun c102 => ?_)
        · refine w_iconst dX10_findDays_124 ic_0 ?_
          refine w_top (y := bI (pBs p k)) ((bI_0 (by rw [hp]; first | exact fun q => absurd q.1 (Int32.not_le.mpr c102) | (rw [hp] at c117; exact fun q => absurd q.2 (Int32.not_le.mpr c117)))).symm) ?_
          refine w_zast dX10_findDays_125 rfl (hs.n (a := 126) (z := 31) 80 rfl) (by omega) bI_v ?_
          refine w_st (fun I7 hA7 hB7 hC7 => ?_)
          have hX7 : (∀ q, q ≠ 135 → q ≠ 136 → (q < 122 ∨ 127 ≤ q) → I7 q = I q) := fun q a1 a2 a3 => (hA7 q (by omega)).trans (hX6 q a1 a2 a3)
          refine w_aload_n dX10_findDays_126 rfl ?_
          refine w_getR dX10_findDays_127 flX10_31 rfl (hs.r (a := 117) (j := 8) (b := 125) 123 rfl) ?_
          refine w_iload_n dX10_findDays_130 rfl ?_
          refine w_aload_n dX10_findDays_131 rfl ?_
          refine w_getR dX10_findDays_132 flX10_22 rfl (hs.r (a := 117) (j := 5) (b := 122) 120 rfl) ?_
          refine w_iload_n dX10_findDays_135 rfl ?_
          refine w_iald dX10_findDays_136 rfl (hs.n (a := 122) (z := 31) 76 rfl) (by omega) ?_
          refine w_top (y := p.2.1 k) (by rw [hA7 122 (by decide), hA6 122 (by decide), hA5 122 (by decide), hI4 122 (by decide) (by decide), hp]; exact hC3) ?_
          refine w_aload_n dX10_findDays_137 rfl ?_
          refine w_getR dX10_findDays_138 flX10_28 rfl (hs.r (a := 117) (j := 7) (b := 124) 122 rfl) ?_
          refine w_iload_n dX10_findDays_141 rfl ?_
          refine w_iald dX10_findDays_142 rfl (hs.n (a := 124) (z := 31) 78 rfl) (by omega) ?_
          refine w_top (y := pKeep p k) (by rw [hA7 124 (by decide)]; exact hC6) ?_
          refine w_imul dX10_findDays_143 ?_
          refine w_bipush dX10_findDays_144 bp_100 ?_
          refine w_aload_n dX10_findDays_146 rfl ?_
          refine w_getR dX10_findDays_147 flX10_22 rfl (hs.r (a := 117) (j := 5) (b := 122) 120 rfl) ?_
          refine w_iload_n dX10_findDays_150 rfl ?_
          refine w_iald dX10_findDays_151 rfl (hs.n (a := 122) (z := 31) 76 rfl) (by omega) ?_
          refine w_top (y := p.2.1 k) (by rw [hA7 122 (by decide), hA6 122 (by decide), hA5 122 (by decide), hI4 122 (by decide) (by decide), hp]; exact hC3) ?_
          refine w_isub dX10_findDays_152 ?_
          refine w_aload_n dX10_findDays_153 rfl ?_
          refine w_getR dX10_findDays_154 flX10_34 rfl (hs.r (a := 117) (j := 9) (b := 126) 124 rfl) ?_
          refine w_iload_n dX10_findDays_157 rfl ?_
          refine w_zald dX10_findDays_158 rfl (hs.n (a := 126) (z := 31) 80 rfl) (by omega) ?_
          refine w_top (y := bI (pBs p k)) (hC7) ?_
          refine w_if_eq (tgt := 171) dX10_findDays_159 (by decide) (fun c159 => ?_) (fun c159 => ?_)
          · refine w_aload_n dX10_findDays_171 rfl ?_
            refine w_getR dX10_findDays_172 flX10_28 rfl (hs.r (a := 117) (j := 7) (b := 124) 122 rfl) ?_
            refine w_iload_n dX10_findDays_175 rfl ?_
            refine w_iald dX10_findDays_176 rfl (hs.n (a := 124) (z := 31) 78 rfl) (by omega) ?_
            refine w_top (y := cif (pBs p k) (pBri p k) (pKeep p k)) (by rw [cif_f (bI_e.mp c159), hA7 124 (by decide)]; exact hC6) ?_
            refine w_imul dX10_findDays_177 ?_
            refine w_iadd dX10_findDays_178 ?_
            refine w_bipush dX10_findDays_179 bp_100 ?_
            refine w_idiv dX10_findDays_181 (by decide) ?_
            refine w_top (y := cst p k) ((cst_lt p (by omega)).symm) ?_
            refine w_iast dX10_findDays_182 rfl (hs.n (a := 125) (z := 32) 79 rfl) (by omega) ?_
            refine w_st (fun I8 hA8 hB8 hC8 => ?_)
            have hX8 : (∀ q, q ≠ 135 → q ≠ 136 → (q < 122 ∨ 127 ≤ q) → I8 q = I q) := fun q a1 a2 a3 => (hA8 q (by omega)).trans (hX7 q a1 a2 a3)
            refine w_iinc (al' := [_, _, _]) dX10_findDays_183 rfl rfl ic_m1 rfl ?_
            refine w_goto (tgt := 17) dX10_findDays_186 (by decide) ?_
            rw [sub_m1]
            refine ih I8 (by omega) hX8 hC8 (fun j hj1 hj2 => ?_)
            by_cases e : j = k
            · subst e; exact ⟨by rw [hA8 122 (by decide), hA7 122 (by decide), hA6 122 (by decide), hA5 122 (by decide), hI4 122 (by decide) (by decide), hp]; exact hC3, by rw [hA8 123 (by decide), hA7 123 (by decide), hA6 123 (by decide)]; exact hC5, by rw [hA8 124 (by decide), hA7 124 (by decide)]; exact hC6, hC8, by rw [hA8 126 (by decide)]; exact hC7⟩
            · obtain ⟨f1, f2, f3, f4, f5⟩ := hfx j (by omega) hj2
              refine ⟨?_, ?_, ?_, ?_, ?_⟩
              · rw [hA8 122 (by decide), hA7 122 (by decide), hA6 122 (by decide), hA5 122 (by decide), hI4 122 (by decide) (by decide), hB3 j e, hI2 122 (by decide) (by decide)]; exact f1
              · rw [hA8 123 (by decide), hA7 123 (by decide), hA6 123 (by decide), hB5 j e, hI4 123 (by decide) (by decide), hA3 123 (by decide), hI2 123 (by decide) (by decide)]; exact f2
              · rw [hA8 124 (by decide), hA7 124 (by decide), hB6 j e, hA5 124 (by decide), hI4 124 (by decide) (by decide), hA3 124 (by decide), hI2 124 (by decide) (by decide)]; exact f3
              · rw [hB8 j e, hA7 125 (by decide), hA6 125 (by decide), hA5 125 (by decide), hI4 125 (by decide) (by decide), hA3 125 (by decide), hI2 125 (by decide) (by decide)]; exact f4
              · rw [hA8 126 (by decide), hB7 j e, hA6 126 (by decide), hA5 126 (by decide), hI4 126 (by decide) (by decide), hA3 126 (by decide), hI2 126 (by decide) (by decide)]; exact f5
          · refine w_aload_n dX10_findDays_162 rfl ?_
            refine w_getR dX10_findDays_163 flX10_25 rfl (hs.r (a := 117) (j := 6) (b := 123) 121 rfl) ?_
            refine w_iload_n dX10_findDays_166 rfl ?_
            refine w_iald dX10_findDays_167 rfl (hs.n (a := 123) (z := 31) 77 rfl) (by omega) ?_
            refine w_top (y := cif (pBs p k) (pBri p k) (pKeep p k)) (by rw [cif_t (bI_n.mp c159), hA7 123 (by decide), hA6 123 (by decide)]; exact hC5) ?_
            refine w_goto (tgt := 177) dX10_findDays_168 (by decide) ?_
            refine w_imul dX10_findDays_177 ?_
            refine w_iadd dX10_findDays_178 ?_
            refine w_bipush dX10_findDays_179 bp_100 ?_
            refine w_idiv dX10_findDays_181 (by decide) ?_
            refine w_top (y := cst p k) ((cst_lt p (by omega)).symm) ?_
            refine w_iast dX10_findDays_182 rfl (hs.n (a := 125) (z := 32) 79 rfl) (by omega) ?_
            refine w_st (fun I8 hA8 hB8 hC8 => ?_)
            have hX8 : (∀ q, q ≠ 135 → q ≠ 136 → (q < 122 ∨ 127 ≤ q) → I8 q = I q) := fun q a1 a2 a3 => (hA8 q (by omega)).trans (hX7 q a1 a2 a3)
            refine w_iinc (al' := [_, _, _]) dX10_findDays_183 rfl rfl ic_m1 rfl ?_
            refine w_goto (tgt := 17) dX10_findDays_186 (by decide) ?_
            rw [sub_m1]
            refine ih I8 (by omega) hX8 hC8 (fun j hj1 hj2 => ?_)
            by_cases e : j = k
            · subst e; exact ⟨by rw [hA8 122 (by decide), hA7 122 (by decide), hA6 122 (by decide), hA5 122 (by decide), hI4 122 (by decide) (by decide), hp]; exact hC3, by rw [hA8 123 (by decide), hA7 123 (by decide), hA6 123 (by decide)]; exact hC5, by rw [hA8 124 (by decide), hA7 124 (by decide)]; exact hC6, hC8, by rw [hA8 126 (by decide)]; exact hC7⟩
            · obtain ⟨f1, f2, f3, f4, f5⟩ := hfx j (by omega) hj2
              refine ⟨?_, ?_, ?_, ?_, ?_⟩
              · rw [hA8 122 (by decide), hA7 122 (by decide), hA6 122 (by decide), hA5 122 (by decide), hI4 122 (by decide) (by decide), hB3 j e, hI2 122 (by decide) (by decide)]; exact f1
              · rw [hA8 123 (by decide), hA7 123 (by decide), hA6 123 (by decide), hB5 j e, hI4 123 (by decide) (by decide), hA3 123 (by decide), hI2 123 (by decide) (by decide)]; exact f2
              · rw [hA8 124 (by decide), hA7 124 (by decide), hB6 j e, hA5 124 (by decide), hI4 124 (by decide) (by decide), hA3 124 (by decide), hI2 124 (by decide) (by decide)]; exact f3
              · rw [hB8 j e, hA7 125 (by decide), hA6 125 (by decide), hA5 125 (by decide), hI4 125 (by decide) (by decide), hA3 125 (by decide), hI2 125 (by decide) (by decide)]; exact f4
              · rw [hA8 126 (by decide), hB7 j e, hA6 126 (by decide), hA5 126 (by decide), hI4 126 (by decide) (by decide), hA3 126 (by decide), hI2 126 (by decide) (by decide)]; exact f5
        · refine w_aload_n dX10_findDays_105 rfl ?_
          refine w_getR dX10_findDays_106 flX10_25 rfl (hs.r (a := 117) (j := 6) (b := 123) 121 rfl) ?_
          refine w_iload_n dX10_findDays_109 rfl ?_
          refine w_iald dX10_findDays_110 rfl (hs.n (a := 123) (z := 31) 77 rfl) (by omega) ?_
          refine w_top (y := pBri p k) (by rw [hA6 123 (by decide)]; exact hC5) ?_
          refine w_aload_n dX10_findDays_111 rfl ?_
          refine w_getR dX10_findDays_112 flX10_28 rfl (hs.r (a := 117) (j := 7) (b := 124) 122 rfl) ?_
          refine w_iload_n dX10_findDays_115 rfl ?_
          refine w_iald dX10_findDays_116 rfl (hs.n (a := 124) (z := 31) 78 rfl) (by omega) ?_
          refine w_top (y := pKeep p k) (hC6) ?_
          refine w_icmp_gt (tgt := 124) dX10_findDays_117 (by decide) (fun c117 => ?_) (fun c117 => ?_)
          · refine w_iconst dX10_findDays_124 ic_0 ?_
            refine w_top (y := bI (pBs p k)) ((bI_0 (by rw [hp]; first | exact fun q => absurd q.1 (Int32.not_le.mpr c102) | (rw [hp] at c117; exact fun q => absurd q.2 (Int32.not_le.mpr c117)))).symm) ?_
            refine w_zast dX10_findDays_125 rfl (hs.n (a := 126) (z := 31) 80 rfl) (by omega) bI_v ?_
            refine w_st (fun I7 hA7 hB7 hC7 => ?_)
            have hX7 : (∀ q, q ≠ 135 → q ≠ 136 → (q < 122 ∨ 127 ≤ q) → I7 q = I q) := fun q a1 a2 a3 => (hA7 q (by omega)).trans (hX6 q a1 a2 a3)
            refine w_aload_n dX10_findDays_126 rfl ?_
            refine w_getR dX10_findDays_127 flX10_31 rfl (hs.r (a := 117) (j := 8) (b := 125) 123 rfl) ?_
            refine w_iload_n dX10_findDays_130 rfl ?_
            refine w_aload_n dX10_findDays_131 rfl ?_
            refine w_getR dX10_findDays_132 flX10_22 rfl (hs.r (a := 117) (j := 5) (b := 122) 120 rfl) ?_
            refine w_iload_n dX10_findDays_135 rfl ?_
            refine w_iald dX10_findDays_136 rfl (hs.n (a := 122) (z := 31) 76 rfl) (by omega) ?_
            refine w_top (y := p.2.1 k) (by rw [hA7 122 (by decide), hA6 122 (by decide), hA5 122 (by decide), hI4 122 (by decide) (by decide), hp]; exact hC3) ?_
            refine w_aload_n dX10_findDays_137 rfl ?_
            refine w_getR dX10_findDays_138 flX10_28 rfl (hs.r (a := 117) (j := 7) (b := 124) 122 rfl) ?_
            refine w_iload_n dX10_findDays_141 rfl ?_
            refine w_iald dX10_findDays_142 rfl (hs.n (a := 124) (z := 31) 78 rfl) (by omega) ?_
            refine w_top (y := pKeep p k) (by rw [hA7 124 (by decide)]; exact hC6) ?_
            refine w_imul dX10_findDays_143 ?_
            refine w_bipush dX10_findDays_144 bp_100 ?_
            refine w_aload_n dX10_findDays_146 rfl ?_
            refine w_getR dX10_findDays_147 flX10_22 rfl (hs.r (a := 117) (j := 5) (b := 122) 120 rfl) ?_
            refine w_iload_n dX10_findDays_150 rfl ?_
            refine w_iald dX10_findDays_151 rfl (hs.n (a := 122) (z := 31) 76 rfl) (by omega) ?_
            refine w_top (y := p.2.1 k) (by rw [hA7 122 (by decide), hA6 122 (by decide), hA5 122 (by decide), hI4 122 (by decide) (by decide), hp]; exact hC3) ?_
            refine w_isub dX10_findDays_152 ?_
            refine w_aload_n dX10_findDays_153 rfl ?_
            refine w_getR dX10_findDays_154 flX10_34 rfl (hs.r (a := 117) (j := 9) (b := 126) 124 rfl) ?_
            refine w_iload_n dX10_findDays_157 rfl ?_
            refine w_zald dX10_findDays_158 rfl (hs.n (a := 126) (z := 31) 80 rfl) (by omega) ?_
            refine w_top (y := bI (pBs p k)) (hC7) ?_
            refine w_if_eq (tgt := 171) dX10_findDays_159 (by decide) (fun c159 => ?_) (fun c159 => ?_)
            · refine w_aload_n dX10_findDays_171 rfl ?_
              refine w_getR dX10_findDays_172 flX10_28 rfl (hs.r (a := 117) (j := 7) (b := 124) 122 rfl) ?_
              refine w_iload_n dX10_findDays_175 rfl ?_
              refine w_iald dX10_findDays_176 rfl (hs.n (a := 124) (z := 31) 78 rfl) (by omega) ?_
              refine w_top (y := cif (pBs p k) (pBri p k) (pKeep p k)) (by rw [cif_f (bI_e.mp c159), hA7 124 (by decide)]; exact hC6) ?_
              refine w_imul dX10_findDays_177 ?_
              refine w_iadd dX10_findDays_178 ?_
              refine w_bipush dX10_findDays_179 bp_100 ?_
              refine w_idiv dX10_findDays_181 (by decide) ?_
              refine w_top (y := cst p k) ((cst_lt p (by omega)).symm) ?_
              refine w_iast dX10_findDays_182 rfl (hs.n (a := 125) (z := 32) 79 rfl) (by omega) ?_
              refine w_st (fun I8 hA8 hB8 hC8 => ?_)
              have hX8 : (∀ q, q ≠ 135 → q ≠ 136 → (q < 122 ∨ 127 ≤ q) → I8 q = I q) := fun q a1 a2 a3 => (hA8 q (by omega)).trans (hX7 q a1 a2 a3)
              refine w_iinc (al' := [_, _, _]) dX10_findDays_183 rfl rfl ic_m1 rfl ?_
              refine w_goto (tgt := 17) dX10_findDays_186 (by decide) ?_
              rw [sub_m1]
              refine ih I8 (by omega) hX8 hC8 (fun j hj1 hj2 => ?_)
              by_cases e : j = k
              · subst e; exact ⟨by rw [hA8 122 (by decide), hA7 122 (by decide), hA6 122 (by decide), hA5 122 (by decide), hI4 122 (by decide) (by decide), hp]; exact hC3, by rw [hA8 123 (by decide), hA7 123 (by decide), hA6 123 (by decide)]; exact hC5, by rw [hA8 124 (by decide), hA7 124 (by decide)]; exact hC6, hC8, by rw [hA8 126 (by decide)]; exact hC7⟩
              · obtain ⟨f1, f2, f3, f4, f5⟩ := hfx j (by omega) hj2
                refine ⟨?_, ?_, ?_, ?_, ?_⟩
                · rw [hA8 122 (by decide), hA7 122 (by decide), hA6 122 (by decide), hA5 122 (by decide), hI4 122 (by decide) (by decide), hB3 j e, hI2 122 (by decide) (by decide)]; exact f1
                · rw [hA8 123 (by decide), hA7 123 (by decide), hA6 123 (by decide), hB5 j e, hI4 123 (by decide) (by decide), hA3 123 (by decide), hI2 123 (by decide) (by decide)]; exact f2
                · rw [hA8 124 (by decide), hA7 124 (by decide), hB6 j e, hA5 124 (by decide), hI4 124 (by decide) (by decide), hA3 124 (by decide), hI2 124 (by decide) (by decide)]; exact f3
                · rw [hB8 j e, hA7 125 (by decide), hA6 125 (by decide), hA5 125 (by decide), hI4 125 (by decide) (by decide), hA3 125 (by decide), hI2 125 (by decide) (by decide)]; exact f4
                · rw [hA8 126 (by decide), hB7 j e, hA6 126 (by decide), hA5 126 (by decide), hI4 126 (by decide) (by decide), hA3 126 (by decide), hI2 126 (by decide) (by decide)]; exact f5
            · refine w_aload_n dX10_findDays_162 rfl ?_
              refine w_getR dX10_findDays_163 flX10_25 rfl (hs.r (a := 117) (j := 6) (b := 123) 121 rfl) ?_
              refine w_iload_n dX10_findDays_166 rfl ?_
              refine w_iald dX10_findDays_167 rfl (hs.n (a := 123) (z := 31) 77 rfl) (by omega) ?_
              refine w_top (y := cif (pBs p k) (pBri p k) (pKeep p k)) (by rw [cif_t (bI_n.mp c159), hA7 123 (by decide), hA6 123 (by decide)]; exact hC5) ?_
              refine w_goto (tgt := 177) dX10_findDays_168 (by decide) ?_
              refine w_imul dX10_findDays_177 ?_
              refine w_iadd dX10_findDays_178 ?_
              refine w_bipush dX10_findDays_179 bp_100 ?_
              refine w_idiv dX10_findDays_181 (by decide) ?_
              refine w_top (y := cst p k) ((cst_lt p (by omega)).symm) ?_
              refine w_iast dX10_findDays_182 rfl (hs.n (a := 125) (z := 32) 79 rfl) (by omega) ?_
              refine w_st (fun I8 hA8 hB8 hC8 => ?_)
              have hX8 : (∀ q, q ≠ 135 → q ≠ 136 → (q < 122 ∨ 127 ≤ q) → I8 q = I q) := fun q a1 a2 a3 => (hA8 q (by omega)).trans (hX7 q a1 a2 a3)
              refine w_iinc (al' := [_, _, _]) dX10_findDays_183 rfl rfl ic_m1 rfl ?_
              refine w_goto (tgt := 17) dX10_findDays_186 (by decide) ?_
              rw [sub_m1]
              refine ih I8 (by omega) hX8 hC8 (fun j hj1 hj2 => ?_)
              by_cases e : j = k
              · subst e; exact ⟨by rw [hA8 122 (by decide), hA7 122 (by decide), hA6 122 (by decide), hA5 122 (by decide), hI4 122 (by decide) (by decide), hp]; exact hC3, by rw [hA8 123 (by decide), hA7 123 (by decide), hA6 123 (by decide)]; exact hC5, by rw [hA8 124 (by decide), hA7 124 (by decide)]; exact hC6, hC8, by rw [hA8 126 (by decide)]; exact hC7⟩
              · obtain ⟨f1, f2, f3, f4, f5⟩ := hfx j (by omega) hj2
                refine ⟨?_, ?_, ?_, ?_, ?_⟩
                · rw [hA8 122 (by decide), hA7 122 (by decide), hA6 122 (by decide), hA5 122 (by decide), hI4 122 (by decide) (by decide), hB3 j e, hI2 122 (by decide) (by decide)]; exact f1
                · rw [hA8 123 (by decide), hA7 123 (by decide), hA6 123 (by decide), hB5 j e, hI4 123 (by decide) (by decide), hA3 123 (by decide), hI2 123 (by decide) (by decide)]; exact f2
                · rw [hA8 124 (by decide), hA7 124 (by decide), hB6 j e, hA5 124 (by decide), hI4 124 (by decide) (by decide), hA3 124 (by decide), hI2 124 (by decide) (by decide)]; exact f3
                · rw [hB8 j e, hA7 125 (by decide), hA6 125 (by decide), hA5 125 (by decide), hI4 125 (by decide) (by decide), hA3 125 (by decide), hI2 125 (by decide) (by decide)]; exact f4
                · rw [hA8 126 (by decide), hB7 j e, hA6 126 (by decide), hA5 126 (by decide), hI4 126 (by decide) (by decide), hA3 126 (by decide), hI2 126 (by decide) (by decide)]; exact f5
          · refine w_iconst dX10_findDays_120 ic_1 ?_
            refine w_top (y := bI (pBs p k)) ((bI_1 (by rw [hp] at c117 ⊢; exact ⟨Int32.not_lt.mp c102, Int32.not_lt.mp c117⟩)).symm) ?_
            refine w_goto (tgt := 125) dX10_findDays_121 (by decide) ?_
            refine w_zast dX10_findDays_125 rfl (hs.n (a := 126) (z := 31) 80 rfl) (by omega) bI_v ?_
            refine w_st (fun I7 hA7 hB7 hC7 => ?_)
            have hX7 : (∀ q, q ≠ 135 → q ≠ 136 → (q < 122 ∨ 127 ≤ q) → I7 q = I q) := fun q a1 a2 a3 => (hA7 q (by omega)).trans (hX6 q a1 a2 a3)
            refine w_aload_n dX10_findDays_126 rfl ?_
            refine w_getR dX10_findDays_127 flX10_31 rfl (hs.r (a := 117) (j := 8) (b := 125) 123 rfl) ?_
            refine w_iload_n dX10_findDays_130 rfl ?_
            refine w_aload_n dX10_findDays_131 rfl ?_
            refine w_getR dX10_findDays_132 flX10_22 rfl (hs.r (a := 117) (j := 5) (b := 122) 120 rfl) ?_
            refine w_iload_n dX10_findDays_135 rfl ?_
            refine w_iald dX10_findDays_136 rfl (hs.n (a := 122) (z := 31) 76 rfl) (by omega) ?_
            refine w_top (y := p.2.1 k) (by rw [hA7 122 (by decide), hA6 122 (by decide), hA5 122 (by decide), hI4 122 (by decide) (by decide), hp]; exact hC3) ?_
            refine w_aload_n dX10_findDays_137 rfl ?_
            refine w_getR dX10_findDays_138 flX10_28 rfl (hs.r (a := 117) (j := 7) (b := 124) 122 rfl) ?_
            refine w_iload_n dX10_findDays_141 rfl ?_
            refine w_iald dX10_findDays_142 rfl (hs.n (a := 124) (z := 31) 78 rfl) (by omega) ?_
            refine w_top (y := pKeep p k) (by rw [hA7 124 (by decide)]; exact hC6) ?_
            refine w_imul dX10_findDays_143 ?_
            refine w_bipush dX10_findDays_144 bp_100 ?_
            refine w_aload_n dX10_findDays_146 rfl ?_
            refine w_getR dX10_findDays_147 flX10_22 rfl (hs.r (a := 117) (j := 5) (b := 122) 120 rfl) ?_
            refine w_iload_n dX10_findDays_150 rfl ?_
            refine w_iald dX10_findDays_151 rfl (hs.n (a := 122) (z := 31) 76 rfl) (by omega) ?_
            refine w_top (y := p.2.1 k) (by rw [hA7 122 (by decide), hA6 122 (by decide), hA5 122 (by decide), hI4 122 (by decide) (by decide), hp]; exact hC3) ?_
            refine w_isub dX10_findDays_152 ?_
            refine w_aload_n dX10_findDays_153 rfl ?_
            refine w_getR dX10_findDays_154 flX10_34 rfl (hs.r (a := 117) (j := 9) (b := 126) 124 rfl) ?_
            refine w_iload_n dX10_findDays_157 rfl ?_
            refine w_zald dX10_findDays_158 rfl (hs.n (a := 126) (z := 31) 80 rfl) (by omega) ?_
            refine w_top (y := bI (pBs p k)) (hC7) ?_
            refine w_if_eq (tgt := 171) dX10_findDays_159 (by decide) (fun c159 => ?_) (fun c159 => ?_)
            · refine w_aload_n dX10_findDays_171 rfl ?_
              refine w_getR dX10_findDays_172 flX10_28 rfl (hs.r (a := 117) (j := 7) (b := 124) 122 rfl) ?_
              refine w_iload_n dX10_findDays_175 rfl ?_
              refine w_iald dX10_findDays_176 rfl (hs.n (a := 124) (z := 31) 78 rfl) (by omega) ?_
              refine w_top (y := cif (pBs p k) (pBri p k) (pKeep p k)) (by rw [cif_f (bI_e.mp c159), hA7 124 (by decide)]; exact hC6) ?_
              refine w_imul dX10_findDays_177 ?_
              refine w_iadd dX10_findDays_178 ?_
              refine w_bipush dX10_findDays_179 bp_100 ?_
              refine w_idiv dX10_findDays_181 (by decide) ?_
              refine w_top (y := cst p k) ((cst_lt p (by omega)).symm) ?_
              refine w_iast dX10_findDays_182 rfl (hs.n (a := 125) (z := 32) 79 rfl) (by omega) ?_
              refine w_st (fun I8 hA8 hB8 hC8 => ?_)
              have hX8 : (∀ q, q ≠ 135 → q ≠ 136 → (q < 122 ∨ 127 ≤ q) → I8 q = I q) := fun q a1 a2 a3 => (hA8 q (by omega)).trans (hX7 q a1 a2 a3)
              refine w_iinc (al' := [_, _, _]) dX10_findDays_183 rfl rfl ic_m1 rfl ?_
              refine w_goto (tgt := 17) dX10_findDays_186 (by decide) ?_
              rw [sub_m1]
              refine ih I8 (by omega) hX8 hC8 (fun j hj1 hj2 => ?_)
              by_cases e : j = k
              · subst e; exact ⟨by rw [hA8 122 (by decide), hA7 122 (by decide), hA6 122 (by decide), hA5 122 (by decide), hI4 122 (by decide) (by decide), hp]; exact hC3, by rw [hA8 123 (by decide), hA7 123 (by decide), hA6 123 (by decide)]; exact hC5, by rw [hA8 124 (by decide), hA7 124 (by decide)]; exact hC6, hC8, by rw [hA8 126 (by decide)]; exact hC7⟩
              · obtain ⟨f1, f2, f3, f4, f5⟩ := hfx j (by omega) hj2
                refine ⟨?_, ?_, ?_, ?_, ?_⟩
                · rw [hA8 122 (by decide), hA7 122 (by decide), hA6 122 (by decide), hA5 122 (by decide), hI4 122 (by decide) (by decide), hB3 j e, hI2 122 (by decide) (by decide)]; exact f1
                · rw [hA8 123 (by decide), hA7 123 (by decide), hA6 123 (by decide), hB5 j e, hI4 123 (by decide) (by decide), hA3 123 (by decide), hI2 123 (by decide) (by decide)]; exact f2
                · rw [hA8 124 (by decide), hA7 124 (by decide), hB6 j e, hA5 124 (by decide), hI4 124 (by decide) (by decide), hA3 124 (by decide), hI2 124 (by decide) (by decide)]; exact f3
                · rw [hB8 j e, hA7 125 (by decide), hA6 125 (by decide), hA5 125 (by decide), hI4 125 (by decide) (by decide), hA3 125 (by decide), hI2 125 (by decide) (by decide)]; exact f4
                · rw [hA8 126 (by decide), hB7 j e, hA6 126 (by decide), hA5 126 (by decide), hI4 126 (by decide) (by decide), hA3 126 (by decide), hI2 126 (by decide) (by decide)]; exact f5
            · refine w_aload_n dX10_findDays_162 rfl ?_
              refine w_getR dX10_findDays_163 flX10_25 rfl (hs.r (a := 117) (j := 6) (b := 123) 121 rfl) ?_
              refine w_iload_n dX10_findDays_166 rfl ?_
              refine w_iald dX10_findDays_167 rfl (hs.n (a := 123) (z := 31) 77 rfl) (by omega) ?_
              refine w_top (y := cif (pBs p k) (pBri p k) (pKeep p k)) (by rw [cif_t (bI_n.mp c159), hA7 123 (by decide), hA6 123 (by decide)]; exact hC5) ?_
              refine w_goto (tgt := 177) dX10_findDays_168 (by decide) ?_
              refine w_imul dX10_findDays_177 ?_
              refine w_iadd dX10_findDays_178 ?_
              refine w_bipush dX10_findDays_179 bp_100 ?_
              refine w_idiv dX10_findDays_181 (by decide) ?_
              refine w_top (y := cst p k) ((cst_lt p (by omega)).symm) ?_
              refine w_iast dX10_findDays_182 rfl (hs.n (a := 125) (z := 32) 79 rfl) (by omega) ?_
              refine w_st (fun I8 hA8 hB8 hC8 => ?_)
              have hX8 : (∀ q, q ≠ 135 → q ≠ 136 → (q < 122 ∨ 127 ≤ q) → I8 q = I q) := fun q a1 a2 a3 => (hA8 q (by omega)).trans (hX7 q a1 a2 a3)
              refine w_iinc (al' := [_, _, _]) dX10_findDays_183 rfl rfl ic_m1 rfl ?_
              refine w_goto (tgt := 17) dX10_findDays_186 (by decide) ?_
              rw [sub_m1]
              refine ih I8 (by omega) hX8 hC8 (fun j hj1 hj2 => ?_)
              by_cases e : j = k
              · subst e; exact ⟨by rw [hA8 122 (by decide), hA7 122 (by decide), hA6 122 (by decide), hA5 122 (by decide), hI4 122 (by decide) (by decide), hp]; exact hC3, by rw [hA8 123 (by decide), hA7 123 (by decide), hA6 123 (by decide)]; exact hC5, by rw [hA8 124 (by decide), hA7 124 (by decide)]; exact hC6, hC8, by rw [hA8 126 (by decide)]; exact hC7⟩
              · obtain ⟨f1, f2, f3, f4, f5⟩ := hfx j (by omega) hj2
                refine ⟨?_, ?_, ?_, ?_, ?_⟩
                · rw [hA8 122 (by decide), hA7 122 (by decide), hA6 122 (by decide), hA5 122 (by decide), hI4 122 (by decide) (by decide), hB3 j e, hI2 122 (by decide) (by decide)]; exact f1
                · rw [hA8 123 (by decide), hA7 123 (by decide), hA6 123 (by decide), hB5 j e, hI4 123 (by decide) (by decide), hA3 123 (by decide), hI2 123 (by decide) (by decide)]; exact f2
                · rw [hA8 124 (by decide), hA7 124 (by decide), hB6 j e, hA5 124 (by decide), hI4 124 (by decide) (by decide), hA3 124 (by decide), hI2 124 (by decide) (by decide)]; exact f3
                · rw [hB8 j e, hA7 125 (by decide), hA6 125 (by decide), hA5 125 (by decide), hI4 125 (by decide) (by decide), hA3 125 (by decide), hI2 125 (by decide) (by decide)]; exact f4
                · rw [hA8 126 (by decide), hB7 j e, hA6 126 (by decide), hA5 126 (by decide), hI4 126 (by decide) (by decide), hA3 126 (by decide), hI2 126 (by decide) (by decide)]; exact f5
  refine ca_in (al := [_, _, _]) rfl ?_
  refine w_aload_n dX10_findDays_0 rfl ?_
  refine w_getR dX10_findDays_1 flX10_31 rfl (hs.r (a := 117) (j := 8) (b := 125) 123 rfl) ?_
  refine w_bipush dX10_findDays_4 bp_31 ?_
  refine w_aload_n dX10_findDays_6 rfl ?_
  refine w_iload_n dX10_findDays_7 rfl ?_
  refine w_bipush dX10_findDays_8 bp_6 ?_
  refine c_V (t := 10) (as := [_, _]) (d' := 0) dX10_findDays_10 mlX10_111 moX10_sortOf mvX10_sortOf ⟨rfl, rfl⟩ rfl rfl rfl rfl rfl (by decide) (vX10_sortOf (V := V) (b := 6) hs hI (by omega) ?_)
  refine w_iast (q := 31) dX10_findDays_13 rfl (hs.n (a := 125) (z := 32) 79 rfl) (by decide) ?_
  refine w_st (fun I2 hA2 hB2 hC2 => ?_)
  refine w_bipush dX10_findDays_14 bp_30 ?_
  refine w_top (y := nI 31 - 1) (by decide) ?_
  refine w_istore_n (al' := [_, _, _]) dX10_findDays_16 rfl rfl rfl ?_
  exact lp 31 I2 (Nat.le_refl _) (fun q a1 a2 a3 => hA2 q (by omega)) (by rw [hC2, hp]; rfl) (fun j h1 h2 => absurd h2 (by omega))

end
