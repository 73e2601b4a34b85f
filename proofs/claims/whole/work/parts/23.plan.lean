section
variable {sc : SC} {I : HI} {L : HL} {R : HR} {N : HN} {n : Nat} {Q : HQ}
set_option maxRecDepth 20000 in
theorem sX8_hasSort {w : Nat} {v : Int32} (hq : Q (vI (bI (0 ≤ v ∧ v ≤ I w 1 - 1))) I L R N n) : CA sc 1 0 0 mX8_hasSort [vR 8 w, vI v] I L R N n Q := by
  refine ca_in (al := [_, _]) rfl ?_
  refine w_iload_n dX8_hasSort_0 rfl ?_
  refine w_iconst dX8_hasSort_1 ic_0 ?_
  refine w_aload_n dX8_hasSort_2 rfl ?_
  refine w_getI dX8_hasSort_3 flX8_16 rfl ?_
  refine w_iconst dX8_hasSort_6 ic_1 ?_
  refine w_isub dX8_hasSort_7 ?_
  refine c_S (as := [_, _, _]) (d' := 0) dX8_hasSort_8 nlX8_73 moX9_within msX9_within rfl rfl rfl rfl rfl (by decide) (sX9_within ?_)
  refine w_ireturn dX8_hasSort_11 rfl bI_z ?_
  exact hq

set_option maxRecDepth 20000 in
theorem sX8_ruleAtN (hs : SK R N) {w : Nat} (hw : w = 1 ∨ w = 30) {v : Int32} (h : ¬ (0 ≤ v ∧ v ≤ I w 3 - 1)) (hq : Q vN I L R N n) : CA sc 1 0 0 mX8_ruleAt [vR 8 w, vI v] I L R N n Q := by
  refine ca_in (al := [_, _]) rfl ?_
  refine w_iload_n dX8_ruleAt_0 rfl ?_
  refine w_iconst dX8_ruleAt_1 ic_0 ?_
  refine w_aload_n dX8_ruleAt_2 rfl ?_
  refine w_getI dX8_ruleAt_3 flX8_26 rfl ?_
  refine w_iconst dX8_ruleAt_6 ic_1 ?_
  refine w_isub dX8_ruleAt_7 ?_
  refine c_S (as := [_, _, _]) (d' := 0) dX8_ruleAt_8 nlX8_73 moX9_within msX9_within rfl rfl rfl rfl rfl (by decide) (sX9_within ?_)
  refine w_ifB_eq (tgt := 23) dX8_ruleAt_11 (by decide) (fun c11 => ?_) (fun c11 => ?_)
  · refine w_null dX8_ruleAt_23 ?_
    refine w_areturn dX8_ruleAt_24 rfl rfl rfl ?_
    exact hq
  · exact absurd c11 h

theorem SK.rules (hs : SK R N) {w r : Nat} (hw : w = 1 ∨ w = 30) (hr : r < 8) : R (w + 8) r = some (w + 13 + 2 * r) ∧ R (w + 13 + 2 * r) 1 = some (w + 14 + 2 * r) ∧ N (w + 14 + 2 * r) = 3 := by
  rcases hw with rfl | rfl <;> rcases (show r = 0 ∨ r = 1 ∨ r = 2 ∨ r = 3 ∨ r = 4 ∨ r = 5 ∨ r = 6 ∨ r = 7 by omega) with rfl | rfl | rfl | rfl | rfl | rfl | rfl | rfl
  · exact ⟨hs.r (a := 9) (j := 0) (b := 14) 21 rfl, hs.r (a := 14) (j := 1) (b := 15) 29 rfl, hs.n (a := 15) (z := 3) 11 rfl⟩
  · exact ⟨hs.r (a := 9) (j := 1) (b := 16) 22 rfl, hs.r (a := 16) (j := 1) (b := 17) 30 rfl, hs.n (a := 17) (z := 3) 12 rfl⟩
  · exact ⟨hs.r (a := 9) (j := 2) (b := 18) 23 rfl, hs.r (a := 18) (j := 1) (b := 19) 31 rfl, hs.n (a := 19) (z := 3) 13 rfl⟩
  · exact ⟨hs.r (a := 9) (j := 3) (b := 20) 24 rfl, hs.r (a := 20) (j := 1) (b := 21) 32 rfl, hs.n (a := 21) (z := 3) 14 rfl⟩
  · exact ⟨hs.r (a := 9) (j := 4) (b := 22) 25 rfl, hs.r (a := 22) (j := 1) (b := 23) 33 rfl, hs.n (a := 23) (z := 3) 15 rfl⟩
  · exact ⟨hs.r (a := 9) (j := 5) (b := 24) 26 rfl, hs.r (a := 24) (j := 1) (b := 25) 34 rfl, hs.n (a := 25) (z := 3) 16 rfl⟩
  · exact ⟨hs.r (a := 9) (j := 6) (b := 26) 27 rfl, hs.r (a := 26) (j := 1) (b := 27) 35 rfl, hs.n (a := 27) (z := 3) 17 rfl⟩
  · exact ⟨hs.r (a := 9) (j := 7) (b := 28) 28 rfl, hs.r (a := 28) (j := 1) (b := 29) 36 rfl, hs.n (a := 29) (z := 3) 18 rfl⟩
  · exact ⟨hs.r (a := 38) (j := 0) (b := 43) 49 rfl, hs.r (a := 43) (j := 1) (b := 44) 57 rfl, hs.n (a := 44) (z := 3) 30 rfl⟩
  · exact ⟨hs.r (a := 38) (j := 1) (b := 45) 50 rfl, hs.r (a := 45) (j := 1) (b := 46) 58 rfl, hs.n (a := 46) (z := 3) 31 rfl⟩
  · exact ⟨hs.r (a := 38) (j := 2) (b := 47) 51 rfl, hs.r (a := 47) (j := 1) (b := 48) 59 rfl, hs.n (a := 48) (z := 3) 32 rfl⟩
  · exact ⟨hs.r (a := 38) (j := 3) (b := 49) 52 rfl, hs.r (a := 49) (j := 1) (b := 50) 60 rfl, hs.n (a := 50) (z := 3) 33 rfl⟩
  · exact ⟨hs.r (a := 38) (j := 4) (b := 51) 53 rfl, hs.r (a := 51) (j := 1) (b := 52) 61 rfl, hs.n (a := 52) (z := 3) 34 rfl⟩
  · exact ⟨hs.r (a := 38) (j := 5) (b := 53) 54 rfl, hs.r (a := 53) (j := 1) (b := 54) 62 rfl, hs.n (a := 54) (z := 3) 35 rfl⟩
  · exact ⟨hs.r (a := 38) (j := 6) (b := 55) 55 rfl, hs.r (a := 55) (j := 1) (b := 56) 63 rfl, hs.n (a := 56) (z := 3) 36 rfl⟩
  · exact ⟨hs.r (a := 38) (j := 7) (b := 57) 56 rfl, hs.r (a := 57) (j := 1) (b := 58) 64 rfl, hs.n (a := 58) (z := 3) 37 rfl⟩
theorem SK.rows (hs : SK R N) {w s : Nat} (hw : w = 1 ∨ w = 30) (h6 : s < 6) : R (w + 1) s = some (w + 2 + s) ∧ N (w + 2 + s) = 7 := by
  rcases hw with rfl | rfl <;> rcases (show s = 0 ∨ s = 1 ∨ s = 2 ∨ s = 3 ∨ s = 4 ∨ s = 5 by omega) with rfl | rfl | rfl | rfl | rfl | rfl
  · exact ⟨hs.r (a := 2) (j := 0) (b := 3) 15 rfl, hs.n (a := 3) (z := 7) 1 rfl⟩
  · exact ⟨hs.r (a := 2) (j := 1) (b := 4) 16 rfl, hs.n (a := 4) (z := 7) 2 rfl⟩
  · exact ⟨hs.r (a := 2) (j := 2) (b := 5) 17 rfl, hs.n (a := 5) (z := 7) 3 rfl⟩
  · exact ⟨hs.r (a := 2) (j := 3) (b := 6) 18 rfl, hs.n (a := 6) (z := 7) 4 rfl⟩
  · exact ⟨hs.r (a := 2) (j := 4) (b := 7) 19 rfl, hs.n (a := 7) (z := 7) 5 rfl⟩
  · exact ⟨hs.r (a := 2) (j := 5) (b := 8) 20 rfl, hs.n (a := 8) (z := 7) 6 rfl⟩
  · exact ⟨hs.r (a := 31) (j := 0) (b := 32) 43 rfl, hs.n (a := 32) (z := 7) 20 rfl⟩
  · exact ⟨hs.r (a := 31) (j := 1) (b := 33) 44 rfl, hs.n (a := 33) (z := 7) 21 rfl⟩
  · exact ⟨hs.r (a := 31) (j := 2) (b := 34) 45 rfl, hs.n (a := 34) (z := 7) 22 rfl⟩
  · exact ⟨hs.r (a := 31) (j := 3) (b := 35) 46 rfl, hs.n (a := 35) (z := 7) 23 rfl⟩
  · exact ⟨hs.r (a := 31) (j := 4) (b := 36) 47 rfl, hs.n (a := 36) (z := 7) 24 rfl⟩
  · exact ⟨hs.r (a := 31) (j := 5) (b := 37) 48 rfl, hs.n (a := 37) (z := 7) 25 rfl⟩
theorem SK.frow (hs : SK R N) {s : Nat} (h6 : s < 6) : R 61 s = some (62 + s) ∧ N (62 + s) = 31 := by
  rcases (show s = 0 ∨ s = 1 ∨ s = 2 ∨ s = 3 ∨ s = 4 ∨ s = 5 by omega) with rfl | rfl | rfl | rfl | rfl | rfl
  · exact ⟨hs.r (a := 61) (j := 0) (b := 62) 73 rfl, hs.n (a := 62) (z := 31) 40 rfl⟩
  · exact ⟨hs.r (a := 61) (j := 1) (b := 63) 74 rfl, hs.n (a := 63) (z := 31) 41 rfl⟩
  · exact ⟨hs.r (a := 61) (j := 2) (b := 64) 75 rfl, hs.n (a := 64) (z := 31) 42 rfl⟩
  · exact ⟨hs.r (a := 61) (j := 3) (b := 65) 76 rfl, hs.n (a := 65) (z := 31) 43 rfl⟩
  · exact ⟨hs.r (a := 61) (j := 4) (b := 66) 77 rfl, hs.n (a := 66) (z := 31) 44 rfl⟩
  · exact ⟨hs.r (a := 61) (j := 5) (b := 67) 78 rfl, hs.n (a := 67) (z := 31) 45 rfl⟩
set_option maxRecDepth 20000 in
theorem sX8_ruleAtS (hs : SK R N) {w : Nat} (hw : w = 1 ∨ w = 30) {r nr : Nat} (hn : I w 3 = nI nr) (hnr : nr ≤ 8) (hr : r < nr) (hq : Q (vR 3 (w + 13 + 2 * r)) I L R N n) : CA sc 1 0 0 mX8_ruleAt [vR 8 w, vI (nI r)] I L R N n Q := by
  refine ca_in (al := [_, _]) rfl ?_
  refine w_iload_n dX8_ruleAt_0 rfl ?_
  refine w_iconst dX8_ruleAt_1 ic_0 ?_
  refine w_aload_n dX8_ruleAt_2 rfl ?_
  refine w_getI dX8_ruleAt_3 flX8_26 rfl ?_
  refine w_iconst dX8_ruleAt_6 ic_1 ?_
  refine w_isub dX8_ruleAt_7 ?_
  refine c_S (as := [_, _, _]) (d' := 0) dX8_ruleAt_8 nlX8_73 moX9_within msX9_within rfl rfl rfl rfl rfl (by decide) (sX9_within ?_)
  refine w_ifB_eq (tgt := 23) dX8_ruleAt_11 (by decide) (fun c11 => ?_) (fun c11 => ?_)
  · refine absurd ⟨nI_pos' (by omega), ?_⟩ c11
    rw [hn, show nI _ - 1 = nI (_ - 1) from nI_sub (b := 1) (by omega)]
    exact nI_le (by omega) (by omega)
  · refine w_aload_n dX8_ruleAt_14 rfl ?_
    refine w_getR dX8_ruleAt_15 flX8_22 rfl (hs.wr (j := 2) (o := 8) hw 10 38 rfl rfl) ?_
    refine w_iload_n dX8_ruleAt_18 rfl ?_
    refine w_aald dX8_ruleAt_19 (by decide) (by decide) rfl (hs.wn (o := 8) (z := 8) hw 7 26 rfl rfl) (by omega) (hs.rules hw (by omega)).1 ?_
    refine w_goto (tgt := 24) dX8_ruleAt_20 (by decide) ?_
    refine w_areturn dX8_ruleAt_24 rfl rfl rfl ?_
    exact hq

set_option maxRecDepth 20000 in
theorem sX8_ruleInForceN (hs : SK R N) {w : Nat} (hw : w = 1 ∨ w = 30) (h : I w 4 = -1000000005) (hq : Q vN I L R N n) : CA sc 2 0 0 mX8_ruleInForce [vR 8 w] I L R N n Q := by
  refine ca_in (al := [_]) rfl ?_
  refine w_aload_n dX8_ruleInForce_0 rfl ?_
  refine w_aload_n dX8_ruleInForce_1 rfl ?_
  refine w_getI dX8_ruleInForce_2 flX8_30 rfl ?_
  refine w_top (y := -1000000005) (h) ?_
  refine c_V (t := 8) (as := [_]) (d' := 1) dX8_ruleInForce_5 mlX8_96 moX8_ruleAt mvX8_ruleAt ⟨rfl, rfl⟩ rfl rfl rfl rfl rfl (by decide) (sX8_ruleAtN hs hw (fun q => absurd q.1 (by decide)) ?_)
  refine w_areturn dX8_ruleInForce_8 rfl rfl rfl ?_
  exact hq

set_option maxRecDepth 20000 in
theorem sX8_ruleInForceS (hs : SK R N) {w : Nat} (hw : w = 1 ∨ w = 30) {r nr : Nat} (h : I w 4 = nI r) (hn : I w 3 = nI nr) (hnr : nr ≤ 8) (hr : r < nr) (hq : Q (vR 3 (w + 13 + 2 * r)) I L R N n) : CA sc 2 0 0 mX8_ruleInForce [vR 8 w] I L R N n Q := by
  refine ca_in (al := [_]) rfl ?_
  refine w_aload_n dX8_ruleInForce_0 rfl ?_
  refine w_aload_n dX8_ruleInForce_1 rfl ?_
  refine w_getI dX8_ruleInForce_2 flX8_30 rfl ?_
  refine w_top (y := nI r) (h) ?_
  refine c_V (t := 8) (as := [_]) (d' := 1) dX8_ruleInForce_5 mlX8_96 moX8_ruleAt mvX8_ruleAt ⟨rfl, rfl⟩ rfl rfl rfl rfl rfl (by decide) (sX8_ruleAtS hs hw hn hnr hr ?_)
  refine w_areturn dX8_ruleInForce_8 rfl rfl rfl ?_
  exact hq

set_option maxRecDepth 20000 in
theorem sX2_takeRuleN (hs : SK R N) {w : Nat} (hw : w = 1 ∨ w = 30) {V : VV} (hV : VO V) (hC : WC I R N n w V) 
    (hq : ∀ I' : HI, (∀ q, q ≠ w + 12 → q ≠ 60 → I' q = I q) → (∀ j, j < 31 → I' 60 j = (fun _ => (0 : Int32)) j) → Q vU I' L R N n) : CA sc 3 0 0 mX2_takeRule [vR 2 59, vR 8 w, vN] I L R N n Q := by
  have lp : ∀ (k j : Nat) (I1 : HI), j + k = 31 → (∀ q, q ≠ w + 12 → q ≠ 60 → I1 q = I q) → (∀ i, i < j → I1 60 i = (fun _ => (0 : Int32)) i) → WP sc 3 0 0 mX2_takeRule 2 [vR 2 59, vR 8 w, vN, vI (nI j)] [] I1 L R N n Q := by
    intro k
    induction k with
    | zero =>
      intro j I1 hj hI1 hf
      refine w_iload_n dX2_takeRule_2 rfl ?_
      refine w_bipush dX2_takeRule_3 bp_31 ?_
      refine w_icmp_ge (tgt := 26) dX2_takeRule_5 (by decide) (fun c5 => ?_) (fun c5 => ?_)
      · refine w_return dX2_takeRule_26 rfl ?_
        exact hq I1 hI1 (fun i hi => hf i (by omega))
      · exact absurd (nI_le (a := 31) (by omega) (by omega)) c5
    | succ k ih =>
      intro j I1 hj hI1 hf
      refine w_iload_n dX2_takeRule_2 rfl ?_
      refine w_bipush dX2_takeRule_3 bp_31 ?_
      refine w_icmp_ge (tgt := 26) dX2_takeRule_5 (by decide) (fun c5 => ?_) (fun c5 => ?_)
      · exact absurd ((nI_leI (a := 31) (by omega) (by omega)).mp c5) (by omega)
      · refine w_aload_n dX2_takeRule_8 rfl ?_
        refine w_getR dX2_takeRule_9 flX2_9 rfl (hs.r (a := 59) (j := 0) (b := 60) 65 rfl) ?_
        refine w_iload_n dX2_takeRule_12 rfl ?_
        refine w_aload_n dX2_takeRule_13 rfl ?_
        refine w_aload_nN dX2_takeRule_14 rfl ?_
        refine w_iload_n dX2_takeRule_15 rfl ?_
        refine c_V (t := 8) (as := [_, _]) (d' := 2) dX2_takeRule_16 mlX2_70 moX8_owedBy mvX8_owedBy ⟨rfl, rfl⟩ rfl rfl rfl rfl rfl (by decide) (sX8_owedByN ?_)
        refine w_iast dX2_takeRule_19 rfl (hs.n (a := 60) (z := 31) 38 rfl) (by omega) ?_
        refine w_iinc (al' := [_, _, _, _]) dX2_takeRule_20 rfl rfl ic_1 rfl ?_
        refine w_goto (tgt := 2) dX2_takeRule_23 (by decide) ?_
        simp only [nI_1]
        refine ih (j + 1) _ (by omega) (fun q h1 h2 => ?_) (fun i hi => ?_)
        · rw [va_up_ne _ _ h2]; exact hI1 q h1 h2
        · rw [va_up_self]
          by_cases e : i = j
          · subst e; rw [va_up_self]
          · rw [va_up_ne _ _ e]; exact hf i (by omega)
  refine ca_in (al := [_, _, _, _]) rfl ?_
  refine w_iconst dX2_takeRule_0 ic_0 ?_
  refine w_istore_n (al' := [_, _, _, _]) dX2_takeRule_1 rfl rfl rfl ?_
  exact lp 31 0 I rfl (fun _ _ _ => rfl) (fun i hi => absurd hi (Nat.not_lt_zero i))

set_option maxRecDepth 20000 in
theorem sX2_takeRuleS (hs : SK R N) {w : Nat} (hw : w = 1 ∨ w = 30) {V : VV} (hV : VO V) (hC : WC I R N n w V) {r p : Nat} (hr : R r 1 = some p) (hp : N p = 3) (hc : 0 < I p 2) (hpw : p ≠ w + 12) (hrw : r ≠ w + 12) (hr60 : r ≠ 60) (hp60 : p ≠ 60)
    (hq : ∀ I' : HI, (∀ q, q ≠ w + 12 → q ≠ 60 → I' q = I q) → (∀ j, j < 31 → I' 60 j = (owRule V (I r 0) (I p 0) (I p 1) (I p 2)) j) → Q vU I' L R N n) : CA sc 3 0 0 mX2_takeRule [vR 2 59, vR 8 w, vR 3 r] I L R N n Q := by
  have lp : ∀ (k j : Nat) (I1 : HI), j + k = 31 → (∀ q, q ≠ w + 12 → q ≠ 60 → I1 q = I q) → (∀ i, i < j → I1 60 i = (owRule V (I r 0) (I p 0) (I p 1) (I p 2)) i) → WP sc 3 0 0 mX2_takeRule 2 [vR 2 59, vR 8 w, vR 3 r, vI (nI j)] [] I1 L R N n Q := by
    intro k
    induction k with
    | zero =>
      intro j I1 hj hI1 hf
      refine w_iload_n dX2_takeRule_2 rfl ?_
      refine w_bipush dX2_takeRule_3 bp_31 ?_
      refine w_icmp_ge (tgt := 26) dX2_takeRule_5 (by decide) (fun c5 => ?_) (fun c5 => ?_)
      · refine w_return dX2_takeRule_26 rfl ?_
        exact hq I1 hI1 (fun i hi => hf i (by omega))
      · exact absurd (nI_le (a := 31) (by omega) (by omega)) c5
    | succ k ih =>
      intro j I1 hj hI1 hf
      refine w_iload_n dX2_takeRule_2 rfl ?_
      refine w_bipush dX2_takeRule_3 bp_31 ?_
      refine w_icmp_ge (tgt := 26) dX2_takeRule_5 (by decide) (fun c5 => ?_) (fun c5 => ?_)
      · exact absurd ((nI_leI (a := 31) (by omega) (by omega)).mp c5) (by omega)
      · refine w_aload_n dX2_takeRule_8 rfl ?_
        refine w_getR dX2_takeRule_9 flX2_9 rfl (hs.r (a := 59) (j := 0) (b := 60) 65 rfl) ?_
        refine w_iload_n dX2_takeRule_12 rfl ?_
        refine w_aload_n dX2_takeRule_13 rfl ?_
        refine w_aload_n dX2_takeRule_14 rfl ?_
        refine w_iload_n dX2_takeRule_15 rfl ?_
        refine c_V (t := 8) (as := [_, _]) (d' := 2) dX2_takeRule_16 mlX2_70 moX8_owedBy mvX8_owedBy ⟨rfl, rfl⟩ rfl rfl rfl rfl rfl (by decide) (sX8_owedBy hs hw hV (hC.keep hV (fun a ha => hI1 a (by unfold WA at ha; rcases hw with rfl | rfl <;> omega) (by unfold WA at ha; rcases hw with rfl | rfl <;> omega))) hr hp (by rw [hI1 p hpw hp60]; exact hc) hpw hrw (fun I2 hI2 => ?_))
        refine w_iast dX2_takeRule_19 rfl (hs.n (a := 60) (z := 31) 38 rfl) (by omega) ?_
        refine w_iinc (al' := [_, _, _, _]) dX2_takeRule_20 rfl rfl ic_1 rfl ?_
        refine w_goto (tgt := 2) dX2_takeRule_23 (by decide) ?_
        simp only [nI_1]
        refine ih (j + 1) _ (by omega) (fun q h1 h2 => ?_) (fun i hi => ?_)
        · rw [va_up_ne _ _ h2, hI2 q h1]; exact hI1 q h1 h2
        · rw [va_up_self]
          by_cases e : i = j
          · subst e; rw [va_up_self, hI1 r hrw hr60, hI1 p hpw hp60]; rfl
          · rw [va_up_ne _ _ e, hI2 60 (by rcases hw with rfl | rfl <;> decide)]; exact hf i (by omega)
  refine ca_in (al := [_, _, _, _]) rfl ?_
  refine w_iconst dX2_takeRule_0 ic_0 ?_
  refine w_istore_n (al' := [_, _, _, _]) dX2_takeRule_1 rfl rfl rfl ?_
  exact lp 31 0 I rfl (fun _ _ _ => rfl) (fun i hi => absurd hi (Nat.not_lt_zero i))

set_option maxRecDepth 20000 in
theorem sX2_forgetting (hs : SK R N) {w : Nat} (hw : w = 1 ∨ w = 30) {V : VV} (hV : VO V) (hC : WC I R N n w V) {s : Nat} (hss : s < nS V) {cd : Int32}
    (hq : ∀ I' : HI, (∀ q, q ≠ w + 12 → q ≠ 62 + s → I' q = I q) → (∀ j, j < 31 → I' (62 + s) j = forgV V (V (6 + 7 * s + 1)) cd (nI j)) → Q vU I' L R N n) : CA sc 3 0 0 mX2_forgetting [vR 2 59, vR 8 w, vI (nI s), vI cd] I L R N n Q := by
  have h6 := hV.1.2
  have lp : ∀ (k j : Nat) (I1 : HI), j + k = 31 → (∀ q, q ≠ w + 12 → q ≠ 62 + s → I1 q = I q) → (∀ i, i < j → I1 (62 + s) i = forgV V (V (6 + 7 * s + 1)) cd (nI i)) → WP sc 3 0 0 mX2_forgetting 12 [vR 2 59, vR 8 w, vI (nI s), vI cd, vI (nI j)] [] I1 L R N n Q := by
    intro k
    induction k with
    | zero =>
      intro j I1 hj hI1 hf
      refine w_iload dX2_forgetting_12 rfl ?_
      refine w_bipush dX2_forgetting_14 bp_31 ?_
      refine w_icmp_ge (tgt := 49) dX2_forgetting_16 (by decide) (fun c16 => ?_) (fun c16 => ?_)
      · refine w_return dX2_forgetting_49 rfl ?_
        exact hq I1 hI1 (fun i hi => hf i (by omega))
      · exact absurd (nI_le (a := 31) (by omega) (by omega)) c16
    | succ k ih =>
      intro j I1 hj hI1 hf
      refine w_iload dX2_forgetting_12 rfl ?_
      refine w_bipush dX2_forgetting_14 bp_31 ?_
      refine w_icmp_ge (tgt := 49) dX2_forgetting_16 (by decide) (fun c16 => ?_) (fun c16 => ?_)
      · exact absurd ((nI_leI (a := 31) (by omega) (by omega)).mp c16) (by omega)
      · refine w_aload_n dX2_forgetting_19 rfl ?_
        refine w_getR dX2_forgetting_20 flX2_17 rfl (hs.r (a := 59) (j := 1) (b := 61) 66 rfl) ?_
        refine w_iload_n dX2_forgetting_23 rfl ?_
        refine w_aaldI dX2_forgetting_24 rfl (hs.n (a := 61) (z := 6) 39 rfl) (by omega) (hs.frow (by omega)).1 ?_
        refine w_iload dX2_forgetting_25 rfl ?_
        refine w_aload_n dX2_forgetting_27 rfl ?_
        refine w_iload dX2_forgetting_28 rfl ?_
        refine w_aload_n dX2_forgetting_30 rfl ?_
        refine w_getR dX2_forgetting_31 flX2_85 rfl (hs.wr (j := 0) (o := 1) hw 9 37 rfl rfl) ?_
        refine w_iload_n dX2_forgetting_34 rfl ?_
        refine w_aaldI dX2_forgetting_35 rfl (hs.wn (o := 1) (z := 6) hw 0 19 rfl rfl) (by omega) (hs.rows hw (by omega)).1 ?_
        refine w_iconst dX2_forgetting_36 ic_1 ?_
        refine w_iald (q := 1) dX2_forgetting_37 rfl (hs.rows hw (by omega)).2 (by decide) ?_
        refine w_top (y := V (6 + 7 * s + 1)) ((congrFun (hI1 (w + 2 + s) (by omega) (by rcases hw with rfl | rfl <;> omega)) 1).trans (hC.2.1 s hss 1 (by decide))) ?_
        refine w_iload_n dX2_forgetting_38 rfl ?_
        refine c_V (t := 8) (as := [_, _, _]) (d' := 2) dX2_forgetting_39 mlX2_88 moX8_forgetsOn mvX8_forgetsOn ⟨rfl, rfl⟩ rfl rfl rfl rfl rfl (by decide) (sX8_forgetsOn hs hw hV (hC.keep hV (fun a ha => hI1 a (by unfold WA at ha; rcases hw with rfl | rfl <;> omega) (by unfold WA at ha; rcases hw with rfl | rfl <;> omega))) (fun I2 hI2 => ?_))
        refine w_iast dX2_forgetting_42 rfl (hs.frow (by omega)).2 (by omega) ?_
        refine w_iinc (al' := [_, _, _, _, _]) dX2_forgetting_43 rfl rfl ic_1 rfl ?_
        refine w_goto (tgt := 12) dX2_forgetting_46 (by decide) ?_
        simp only [nI_1]
        refine ih (j + 1) _ (by omega) (fun q h1 h2 => ?_) (fun i hi => ?_)
        · rw [va_up_ne _ _ h2, hI2 q h1]; exact hI1 q h1 h2
        · rw [va_up_self]
          by_cases e : i = j
          · subst e; rw [va_up_self]
          · rw [va_up_ne _ _ e, hI2 (62 + s) (by rcases hw with rfl | rfl <;> omega)]; exact hf i (by omega)
  refine ca_in (al := [_, _, _, _, _]) rfl ?_
  refine w_aload_n dX2_forgetting_0 rfl ?_
  refine w_iload_n dX2_forgetting_1 rfl ?_
  refine c_V (t := 8) (as := [_]) (d' := 1) dX2_forgetting_2 mlX2_81 moX8_hasSort mvX8_hasSort ⟨rfl, rfl⟩ rfl rfl rfl rfl rfl (by decide) (sX8_hasSort ?_)
  refine w_ifB_ne (tgt := 9) dX2_forgetting_5 (by decide) (fun c5 => ?_) (fun c5 => ?_)
  · refine w_iconst dX2_forgetting_9 ic_0 ?_
    refine w_istore (al' := [_, _, _, _, _]) dX2_forgetting_10 rfl rfl rfl ?_
    exact lp 31 0 I rfl (fun _ _ _ => rfl) (fun i hi => absurd hi (Nat.not_lt_zero i))
  · refine absurd ⟨nI_pos' (by omega), ?_⟩ c5
    rw [hC.1.1, hV.1.1, show nI (nS V) - 1 = nI (nS V - 1) from nI_sub (b := 1) (by omega)]
    exact nI_le (by omega) (by omega)

set_option maxRecDepth 20000 in
theorem sX2_takeCard (hs : SK R N) {w : Nat} (hw : w = 1 ∨ w = 30) {V : VV} (hV : VO V) (hC : WC I R N n w V) {cd : Int32}
    (hq : ∀ I' : HI, (∀ q, q ≠ w + 12 → (q < 62 ∨ 68 ≤ q) → I' q = I q) → (∀ s, s < nS V → ∀ j, j < 31 → I' (62 + s) j = forgV V (V (6 + 7 * s + 1)) cd (nI j)) → Q vU I' L R N n) : CA sc 4 0 0 mX2_takeCard [vR 2 59, vR 8 w, vI cd] I L R N n Q := by
  have h6 := hV.1.2
  have lp : ∀ (k j : Nat) (I1 : HI), j + k = nS V → (∀ q, q ≠ w + 12 → (q < 62 ∨ 68 ≤ q) → I1 q = I q) → (∀ s, s < j → ∀ i, i < 31 → I1 (62 + s) i = forgV V (V (6 + 7 * s + 1)) cd (nI i)) → WP sc 4 0 0 mX2_takeCard 2 [vR 2 59, vR 8 w, vI cd, vI (nI j)] [] I1 L R N n Q := by
    intro k
    induction k with
    | zero =>
      intro j I1 hj hI1 hf
      refine w_iload_n dX2_takeCard_2 rfl ?_
      refine w_aload_n dX2_takeCard_3 rfl ?_
      refine w_getI dX2_takeCard_4 flX2_74 rfl ?_
      refine w_top (y := nI (nS V)) ((congrFun (hI1 w (by omega) (by rcases hw with rfl | rfl <;> omega)) 1).trans (hC.1.1.trans hV.1.1)) ?_
      refine w_icmp_ge (tgt := 23) dX2_takeCard_7 (by decide) (fun c7 => ?_) (fun c7 => ?_)
      · refine w_return dX2_takeCard_23 rfl ?_
        exact hq I1 hI1 (fun s hs2 => hf s (by omega))
      · exact absurd (nI_le (by omega) (by omega)) c7
    | succ k ih =>
      intro j I1 hj hI1 hf
      refine w_iload_n dX2_takeCard_2 rfl ?_
      refine w_aload_n dX2_takeCard_3 rfl ?_
      refine w_getI dX2_takeCard_4 flX2_74 rfl ?_
      refine w_top (y := nI (nS V)) ((congrFun (hI1 w (by omega) (by rcases hw with rfl | rfl <;> omega)) 1).trans (hC.1.1.trans hV.1.1)) ?_
      refine w_icmp_ge (tgt := 23) dX2_takeCard_7 (by decide) (fun c7 => ?_) (fun c7 => ?_)
      · exact absurd ((nI_leI (by omega) (by omega)).mp c7) (by omega)
      · refine w_aload_n dX2_takeCard_10 rfl ?_
        refine w_aload_n dX2_takeCard_11 rfl ?_
        refine w_iload_n dX2_takeCard_12 rfl ?_
        refine w_iload_n dX2_takeCard_13 rfl ?_
        refine c_Vv (t := 2) (as := [_, _, _]) (d' := 3) dX2_takeCard_14 mlX2_77 moX2_forgetting mvX2_forgetting ⟨rfl, rfl⟩ rfl rfl rfl rfl rfl (by decide) (sX2_forgetting hs hw hV (hC.keep hV (fun a ha => hI1 a (by unfold WA at ha; rcases hw with rfl | rfl <;> omega) (by unfold WA at ha; rcases hw with rfl | rfl <;> omega))) (s := j) (by omega) (fun I2 hI2 hf2 => ?_))
        refine w_iinc (al' := [_, _, _, _]) dX2_takeCard_17 rfl rfl ic_1 rfl ?_
        refine w_goto (tgt := 2) dX2_takeCard_20 (by decide) ?_
        simp only [nI_1]
        refine ih (j + 1) _ (by omega) (fun q h1 h2 => ?_) (fun s hs2 i hi => ?_)
        · rw [hI2 q h1 (by omega)]; exact hI1 q h1 h2
        · by_cases e : s = j
          · subst e; exact hf2 i hi
          · rw [hI2 (62 + s) (by rcases hw with rfl | rfl <;> omega) (by omega)]; exact hf s (by omega) i hi
  refine ca_in (al := [_, _, _, _]) rfl ?_
  refine w_iconst dX2_takeCard_0 ic_0 ?_
  refine w_istore_n (al' := [_, _, _, _]) dX2_takeCard_1 rfl rfl rfl ?_
  exact lp (nS V) 0 I (by omega) (fun _ _ _ => rfl) (fun i hi => absurd hi (Nat.not_lt_zero i))

end
