section
variable {sc : SC} {I : HI} {L : HL} {R : HR} {N : HN} {n : Nat} {Q : HQ}
set_option maxRecDepth 20000 in
theorem sX8_hasSort {w : Nat} {v : Int32} (hq : Q (vI (bI (0 ≤ v ∧ v ≤ I w 1 - 1))) I L R N n) : CA sc 1 0 0 mX8_hasSort [vR 8 w, vI v] I L R N n Q := by
  refine ca_in (al := [_, _]) rfl ?_
  refine w_iload_n dX8_hasSort_0 rfl ?_
  refine w_iconst dX8_hasSort_1 ic_0 ?_
  refine w_aload_n dX8_hasSort_2 rfl ?_
  refine w_getI dX8_hasSort_3 flX8_16 rfl ?_
  refine w_iconst dX8_hasSort_6 ic_1 ?_
  refine w_isub dX8_hasSort_7 ?_
  refine c_S (as := [_, _, _]) (d' := 0) dX8_hasSort_8 nlX8_73 moX9_within msX9_within rfl rfl rfl rfl rfl (by decide) (sX9_within ?_)
  refine w_ireturn dX8_hasSort_11 rfl bI_z ?_
  exact hq

set_option maxRecDepth 20000 in
theorem sX8_ruleAtN (hs : SK R N) {w : Nat} (hw : w = 1 ∨ w = 30) {v : Int32} (h : ¬ (0 ≤ v ∧ v ≤ I w 3 - 1)) (hq : Q vN I L R N n) : CA sc 1 0 0 mX8_ruleAt [vR 8 w, vI v] I L R N n Q := by
  refine ca_in (al := [_, _]) rfl ?_
  refine w_iload_n dX8_ruleAt_0 rfl ?_
  refine w_iconst dX8_ruleAt_1 ic_0 ?_
  refine w_aload_n dX8_ruleAt_2 rfl ?_
  refine w_getI dX8_ruleAt_3 flX8_26 rfl ?_
  refine w_iconst dX8_ruleAt_6 ic_1 ?_
  refine w_isub dX8_ruleAt_7 ?_
  refine c_S (as := [_, _, _]) (d' := 0) dX8_ruleAt_8 nlX8_73 moX9_within msX9_within rfl rfl rfl rfl rfl (by decide) (sX9_within ?_)
  refine w_ifB_eq (tgt := 23) dX8_ruleAt_11 (by decide) (fun c11 => ?_) (fun c11 => ?_)
  · refine w_null dX8_ruleAt_23 ?_
    refine w_areturn dX8_ruleAt_24 rfl rfl rfl ?_
    exact hq
  · exact absurd c11 h

theorem SK.rules (hs : SK R N) {w r : Nat} (hw : w = 1 ∨ w = 30) (hr : r < 8) : R (w + 8) r = some (w + 13 + 2 * r) ∧ R (w + 13 + 2 * r) 1 = some (w + 14 + 2 * r) ∧ N (w + 14 + 2 * r) = 3 := by
  rcases hw with rfl | rfl <;> rcases (show r = 0 ∨ r = 1 ∨ r = 2 ∨ r = 3 ∨ r = 4 ∨ r = 5 ∨ r = 6 ∨ r = 7 by omega) with rfl | rfl | rfl | rfl | rfl | rfl | rfl | rfl
  · exact ⟨hs.r (a := 9) (j := 0) (b := 14) 21 rfl, hs.r (a := 14) (j := 1) (b := 15) 29 rfl, hs.n (a := 15) (z := 3) 11 rfl⟩
  · exact ⟨hs.r (a := 9) (j := 1) (b := 16) 22 rfl, hs.r (a := 16) (j := 1) (b := 17) 30 rfl, hs.n (a := 17) (z := 3) 12 rfl⟩
  · exact ⟨hs.r (a := 9) (j := 2) (b := 18) 23 rfl, hs.r (a := 18) (j := 1) (b := 19) 31 rfl, hs.n (a := 19) (z := 3) 13 rfl⟩
  · exact ⟨hs.r (a := 9) (j := 3) (b := 20) 24 rfl, hs.r (a := 20) (j := 1) (b := 21) 32 rfl, hs.n (a := 21) (z := 3) 14 rfl⟩
  · exact ⟨hs.r (a := 9) (j := 4) (b := 22) 25 rfl, hs.r (a := 22) (j := 1) (b := 23) 33 rfl, hs.n (a := 23) (z := 3) 15 rfl⟩
  · exact ⟨hs.r (a := 9) (j := 5) (b := 24) 26 rfl, hs.r (a := 24) (j := 1) (b := 25) 34 rfl, hs.n (a := 25) (z := 3) 16 rfl⟩
  · exact ⟨hs.r (a := 9) (j := 6) (b := 26) 27 rfl, hs.r (a := 26) (j := 1) (b := 27) 35 rfl, hs.n (a := 27) (z := 3) 17 rfl⟩
  · exact ⟨hs.r (a := 9) (j := 7) (b := 28) 28 rfl, hs.r (a := 28) (j := 1) (b := 29) 36 rfl, hs.n (a := 29) (z := 3) 18 rfl⟩
  · exact ⟨hs.r (a := 38) (j := 0) (b := 43) 49 rfl, hs.r (a := 43) (j := 1) (b := 44) 57 rfl, hs.n (a := 44) (z := 3) 30 rfl⟩
  · exact ⟨hs.r (a := 38) (j := 1) (b := 45) 50 rfl, hs.r (a := 45) (j := 1) (b := 46) 58 rfl, hs.n (a := 46) (z := 3) 31 rfl⟩
  · exact ⟨hs.r (a := 38) (j := 2) (b := 47) 51 rfl, hs.r (a := 47) (j := 1) (b := 48) 59 rfl, hs.n (a := 48) (z := 3) 32 rfl⟩
  · exact ⟨hs.r (a := 38) (j := 3) (b := 49) 52 rfl, hs.r (a := 49) (j := 1) (b := 50) 60 rfl, hs.n (a := 50) (z := 3) 33 rfl⟩
  · exact ⟨hs.r (a := 38) (j := 4) (b := 51) 53 rfl, hs.r (a := 51) (j := 1) (b := 52) 61 rfl, hs.n (a := 52) (z := 3) 34 rfl⟩
  · exact ⟨hs.r (a := 38) (j := 5) (b := 53) 54 rfl, hs.r (a := 53) (j := 1) (b := 54) 62 rfl, hs.n (a := 54) (z := 3) 35 rfl⟩
  · exact ⟨hs.r (a := 38) (j := 6) (b := 55) 55 rfl, hs.r (a := 55) (j := 1) (b := 56) 63 rfl, hs.n (a := 56) (z := 3) 36 rfl⟩
  · exact ⟨hs.r (a := 38) (j := 7) (b := 57) 56 rfl, hs.r (a := 57) (j := 1) (b := 58) 64 rfl, hs.n (a := 58) (z := 3) 37 rfl⟩
theorem SK.rows (hs : SK R N) {w s : Nat} (hw : w = 1 ∨ w = 30) (h6 : s < 6) : R (w + 1) s = some (w + 2 + s) ∧ N (w + 2 + s) = 7 := by
  rcases hw with rfl | rfl <;> rcases (show s = 0 ∨ s = 1 ∨ s = 2 ∨ s = 3 ∨ s = 4 ∨ s = 5 by omega) with rfl | rfl | rfl | rfl | rfl | rfl
  · exact ⟨hs.r (a := 2) (j := 0) (b := 3) 15 rfl, hs.n (a := 3) (z := 7) 1 rfl⟩
  · exact ⟨hs.r (a := 2) (j := 1) (b := 4) 16 rfl, hs.n (a := 4) (z := 7) 2 rfl⟩
  · exact ⟨hs.r (a := 2) (j := 2) (b := 5) 17 rfl, hs.n (a := 5) (z := 7) 3 rfl⟩
  · exact ⟨hs.r (a := 2) (j := 3) (b := 6) 18 rfl, hs.n (a := 6) (z := 7) 4 rfl⟩
  · exact ⟨hs.r (a := 2) (j := 4) (b := 7) 19 rfl, hs.n (a := 7) (z := 7) 5 rfl⟩
  · exact ⟨hs.r (a := 2) (j := 5) (b := 8) 20 rfl, hs.n (a := 8) (z := 7) 6 rfl⟩
  · exact ⟨hs.r (a := 31) (j := 0) (b := 32) 43 rfl, hs.n (a := 32) (z := 7) 20 rfl⟩
  · exact ⟨hs.r (a := 31) (j := 1) (b := 33) 44 rfl, hs.n (a := 33) (z := 7) 21 rfl⟩
  · exact ⟨hs.r (a := 31) (j := 2) (b := 34) 45 rfl, hs.n (a := 34) (z := 7) 22 rfl⟩
  · exact ⟨hs.r (a := 31) (j := 3) (b := 35) 46 rfl, hs.n (a := 35) (z := 7) 23 rfl⟩
  · exact ⟨hs.r (a := 31) (j := 4) (b := 36) 47 rfl, hs.n (a := 36) (z := 7) 24 rfl⟩
  · exact ⟨hs.r (a := 31) (j := 5) (b := 37) 48 rfl, hs.n (a := 37) (z := 7) 25 rfl⟩
theorem SK.frow (hs : SK R N) {s : Nat} (h6 : s < 6) : R 61 s = some (62 + s) ∧ N (62 + s) = 31 := by
  rcases (show s = 0 ∨ s = 1 ∨ s = 2 ∨ s = 3 ∨ s = 4 ∨ s = 5 by omega) with rfl | rfl | rfl | rfl | rfl | rfl
  · exact ⟨hs.r (a := 61) (j := 0) (b := 62) 73 rfl, hs.n (a := 62) (z := 31) 40 rfl⟩
  · exact ⟨hs.r (a := 61) (j := 1) (b := 63) 74 rfl, hs.n (a := 63) (z := 31) 41 rfl⟩
  · exact ⟨hs.r (a := 61) (j := 2) (b := 64) 75 rfl, hs.n (a := 64) (z := 31) 42 rfl⟩
  · exact ⟨hs.r (a := 61) (j := 3) (b := 65) 76 rfl, hs.n (a := 65) (z := 31) 43 rfl⟩
  · exact ⟨hs.r (a := 61) (j := 4) (b := 66) 77 rfl, hs.n (a := 66) (z := 31) 44 rfl⟩
  · exact ⟨hs.r (a := 61) (j := 5) (b := 67) 78 rfl, hs.n (a := 67) (z := 31) 45 rfl⟩
set_option maxRecDepth 20000 in
theorem sX8_ruleAtS (hs : SK R N) {w : Nat} (hw : w = 1 ∨ w = 30) {r nr : Nat} (hn : I w 3 = nI nr) (hnr : nr ≤ 8) (hr : r < nr) (hq : Q (vR 3 (w + 13 + 2 * r)) I L R N n) : CA sc 1 0 0 mX8_ruleAt [vR 8 w, vI (nI r)] I L R N n Q := by
  refine ca_in (al := [_, _]) rfl ?_
  refine w_iload_n dX8_ruleAt_0 rfl ?_
  refine w_iconst dX8_ruleAt_1 ic_0 ?_
  refine w_aload_n dX8_ruleAt_2 rfl ?_
  refine w_getI dX8_ruleAt_3 flX8_26 rfl ?_
  refine w_iconst dX8_ruleAt_6 ic_1 ?_
  refine w_isub dX8_ruleAt_7 ?_
  refine c_S (as := [_, _, _]) (d' := 0) dX8_ruleAt_8 nlX8_73 moX9_within msX9_within rfl rfl rfl rfl rfl (by decide) (sX9_within ?_)
  refine w_ifB_eq (tgt := 23) dX8_ruleAt_11 (by decide) (fun c11 => ?_) (fun c11 => ?_)
  · refine absurd ⟨nI_pos' (by omega), ?_⟩ c11
    rw [hn, show nI _ - 1 = nI (_ - 1) from nI_sub (b := 1) (by omega)]
    exact nI_le (by omega) (by omega)
  · refine w_aload_n dX8_ruleAt_14 rfl ?_
    refine w_getR dX8_ruleAt_15 flX8_22 rfl (hs.wr (j := 2) (o := 8) hw 10 38 rfl rfl) ?_
    refine w_iload_n dX8_ruleAt_18 rfl ?_
    refine w_aald dX8_ruleAt_19 (by decide) (by decide) rfl (hs.wn (o := 8) (z := 8) hw 7 26 rfl rfl) (by omega) (hs.rules hw (by omega)).1 ?_
    refine w_goto (tgt := 24) dX8_ruleAt_20 (by decide) ?_
    refine w_areturn dX8_ruleAt_24 rfl rfl rfl ?_
    exact hq

set_option maxRecDepth 20000 in
theorem sX8_ruleInForceN (hs : SK R N) {w : Nat} (hw : w = 1 ∨ w = 30) (h : I w 4 = -1000000005) (hq : Q vN I L R N n) : CA sc 2 0 0 mX8_ruleInForce [vR 8 w] I L R N n Q := by
  refine ca_in (al := [_]) rfl ?_
  refine w_aload_n dX8_ruleInForce_0 rfl ?_
  refine w_aload_n dX8_ruleInForce_1 rfl ?_
  refine w_getI dX8_ruleInForce_2 flX8_30 rfl ?_
  refine w_top (y := -1000000005) (h) ?_
  refine c_V (t := 8) (as := [_]) (d' := 1) dX8_ruleInForce_5 mlX8_96 moX8_ruleAt mvX8_ruleAt ⟨rfl, rfl⟩ rfl rfl rfl rfl rfl (by decide) (sX8_ruleAtN hs hw (fun q => absurd q.1 (by decide)) ?_)
  refine w_areturn dX8_ruleInForce_8 rfl rfl rfl ?_
  exact hq

set_option maxRecDepth 20000 in
theorem sX8_ruleInForceS (hs : SK R N) {w : Nat} (hw : w = 1 ∨ w = 30) {r nr : Nat} (h : I w 4 = nI r) (hn : I w 3 = nI nr) (hnr : nr ≤ 8) (hr : r < nr) (hq : Q (vR 3 (w + 13 + 2 * r)) I L R N n) : CA sc 2 0 0 mX8_ruleInForce [vR 8 w] I L R N n Q := by
  refine ca_in (al := [_]) rfl ?_
  refine w_aload_n dX8_ruleInForce_0 rfl ?_
  refine w_aload_n dX8_ruleInForce_1 rfl ?_
  refine w_getI dX8_ruleInForce_2 flX8_30 rfl ?_
  refine w_top (y := nI r) (h) ?_
  refine c_V (t := 8) (as := [_]) (d' := 1) dX8_ruleInForce_5 mlX8_96 moX8_ruleAt mvX8_ruleAt ⟨rfl, rfl⟩ rfl rfl rfl rfl rfl (by decide) (sX8_ruleAtS hs hw hn hnr hr ?_)
  refine w_areturn dX8_ruleInForce_8 rfl rfl rfl ?_
  exact hq

set_option maxRecDepth 20000 in
theorem sX2_takeRuleN (hs : SK R N) {w : Nat} (hw : w = 1 ∨ w = 30) {V : VV} (hV : VO V) (hC : WC I R N n w V) 
    (hq : ∀ I' : HI, (∀ q, q ≠ w + 12 → q ≠ 60 → I' q = I q) → (∀ j, j < 31 → I' 60 j = (fun _ => (0 : Int32)) j) → Q vU I' L R N n) : CA sc 3 0 0 mX2_takeRule [vR 2 59, vR 8 w, vN] I L R N n Q := by
  have lp : ∀ (k j : Nat) (I1 : HI), j + k = 31 → (∀ q, q ≠ w + 12 → q ≠ 60 → I1 q = I q) → (∀ i, i < j → I1 60 i = (fun _ => (0 : Int32)) i) → WP sc 3 0 0 mX2_takeRule 2 [vR 2 59, vR 8 w, vN, vI (nI j)] [] I1 L R N n Q := by
    intro k
    induction k with
    | zero =>
      intro j I1 hj hI1 hf
      refine w_iload_n dX2_takeRule_2 rfl ?_
      refine w_bipush dX2_takeRule_3 bp_31 ?_
      refine w_icmp_ge (tgt := 26) dX2_takeRule_5 (by decide) (fun c5 => ?_) (fun c5 => ?_)
      · refine w_return dX2_takeRule_26 rfl ?_
        exact hq I1 hI1 (fun i hi => hf i (by omega))
      · exact absurd (nI_le (a := 31) (by omega) (by omega)) c5
    | succ k ih =>
      intro j I1 hj hI1 hf
      refine w_iload_n dX2_takeRule_2 rfl ?_
      refine w_bipush dX2_takeRule_3 bp_31 ?_
      refine w_icmp_ge (tgt := 26) dX2_takeRule_5 (by decide) (fun c5 => ?_) (fun c5 => ?_)
      · exact absurd ((nI_leI (a := 31) (by omega) (by omega)).mp c5) (by omega)
      · refine w_aload_n dX2_takeRule_8 rfl ?_
        refine w_getR dX2_takeRule_9 flX2_9 rfl (hs.r (a := 59) (j := 0) (b := 60) 65 rfl) ?_
        refine w_iload_n dX2_takeRule_12 rfl ?_
        refine w_aload_n dX2_takeRule_13 rfl ?_
        refine w_aload_nN dX2_takeRule_14 rfl ?_
        refine w_iload_n dX2_takeRule_15 rfl ?_
        refine c_V (t := 8) (as := [_, _]) (d' := 2) dX2_takeRule_16 mlX2_70 moX8_owedBy mvX8_owedBy ⟨rfl, rfl⟩ rfl rfl rfl rfl rfl (by decide) (sX8_owedByN ?_)
        refine w_iast dX2_takeRule_19 rfl (hs.n (a := 60) (z := 31) 38 rfl) (by omega) ?_
        refine w_iinc (al' := [_, _, _, _]) dX2_takeRule_20 rfl rfl ic_1 rfl ?_
        refine w_goto (tgt := 2) dX2_takeRule_23 (by decide) ?_
        simp only [nI_1]
        refine ih (j + 1) _ (by omega) (fun q h1 h2 => ?_) (fun i hi => ?_)
        · rw [va_up_ne _ _ h2]; exact hI1 q h1 h2
        · rw [va_up_self]
          by_cases e : i = j
          · subst e; rw [va_up_self]
          · rw [va_up_ne _ _ e]; exact hf i (by omega)
  refine ca_in (al := [_, _, _, _]) rfl ?_
  refine w_iconst dX2_takeRule_0 ic_0 ?_
  refine w_istore_n (al' := [_, _, _, _]) dX2_takeRule_1 rfl rfl rfl ?_
  exact lp 31 0 I rfl (fun _ _ _ => rfl) (fun i hi => absurd hi (Nat.not_lt_zero i))

set_option maxRecDepth 20000 in
theorem sX2_takeRuleS (hs : SK R N) {w : Nat} (hw : w = 1 ∨ w = 30) {V : VV} (hV : VO V) (hC : WC I R N n w V) {r p : Nat} (hr : R r 1 = some p) (hp : N p = 3) (hc : 0 < I p 2) (hpw : p ≠ w + 12) (hrw : r ≠ w + 12) (hr60 : r ≠ 60) (hp60 : p ≠ 60)
    (hq : ∀ I' : HI, (∀ q, q ≠ w + 12 → q ≠ 60 → I' q = I q) → (∀ j, j < 31 → I' 60 j = (owRule V (I r 0) (I p 0) (I p 1) (I p 2)) j) → Q vU I' L R N n) : CA sc 3 0 0 mX2_takeRule [vR 2 59, vR 8 w, vR 3 r] I L R N n Q := by
  have lp : ∀ (k j : Nat) (I1 : HI), j + k = 31 → (∀ q, q ≠ w + 12 → q ≠ 60 → I1 q = I q) → (∀ i, i < j → I1 60 i = (owRule V (I r 0) (I p 0) (I p 1) (I p 2)) i) → WP sc 3 0 0 mX2_takeRule 2 [vR 2 59, vR 8 w, vR 3 r, vI (nI j)] [] I1 L R N n Q := by
    intro k
    induction k with
    | zero =>
      intro j I1 hj hI1 hf
      refine w_iload_n dX2_takeRule_2 rfl ?_
      refine w_bipush dX2_takeRule_3 bp_31 ?_
      refine w_icmp_ge (tgt := 26) dX2_takeRule_5 (by decide) (fun c5 => ?_) (fun c5 => ?_)
      · refine w_return dX2_takeRule_26 rfl ?_
        exact hq I1 hI1 (fun i hi => hf i (by omega))
      · exact absurd (nI_le (a := 31) (by omega) (by omega)) c5
    | succ k ih =>
      intro j I1 hj hI1 hf
      refine w_iload_n dX2_takeRule_2 rfl ?_
      refine w_bipush dX2_takeRule_3 bp_31 ?_
      refine w_icmp_ge (tgt := 26) dX2_takeRule_5 (by decide) (fun c5 => ?_) (fun c5 => ?_)
      · exact absurd ((nI_leI (a := 31) (by omega) (by omega)).mp c5) (by omega)
      · refine w_aload_n dX2_takeRule_8 rfl ?_
        refine w_getR dX2_takeRule_9 flX2_9 rfl (hs.r (a := 59) (j := 0) (b := 60) 65 rfl) ?_
        refine w_iload_n dX2_takeRule_12 rfl ?_
        refine w_aload_n dX2_takeRule_13 rfl ?_
        refine w_aload_n dX2_takeRule_14 rfl ?_
        refine w_iload_n dX2_takeRule_15 rfl ?_
        refine c_V (t := 8) (as := [_, _]) (d' := 2) dX2_takeRule_16 mlX2_70 moX8_owedBy mvX8_owedBy ⟨rfl, rfl⟩ rfl rfl rfl rfl rfl (by decide) (sX8_owedBy hs hw hV (hC.keep hV (fun a ha => hI1 a (by unfold WA at ha; rcases hw with rfl | rfl <;> omega) (by unfold WA at ha; rcases hw with rfl | rfl <;> omega))) hr hp (by rw [hI1 p hpw hp60]; exact hc) hpw hrw (fun I2 hI2 => ?_))
        refine w_iast dX2_takeRule_19 rfl (hs.n (a := 60) (z := 31) 38 rfl) (by omega) ?_
        refine w_iinc (al' := [_, _, _, _]) dX2_takeRule_20 rfl rfl ic_1 rfl ?_
        refine w_goto (tgt := 2) dX2_takeRule_23 (by decide) ?_
        simp only [nI_1]
        refine ih (j + 1) _ (by omega) (fun q h1 h2 => ?_) (fun i hi => ?_)
        · rw [va_up_ne _ _ h2, hI2 q h1]; exact hI1 q h1 h2
        · rw [va_up_self]
          by_cases e : i = j
          · subst e; rw [va_up_self, hI1 r hrw hr60, hI1 p hpw hp60]; rfl
          · rw [va_up_ne _ _ e, hI2 60 (by rcases hw with rfl | rfl <;> decide)]; exact hf i (by omega)
  refine ca_in (al := [_, _, _, _]) rfl ?_
  refine w_iconst dX2_takeRule_0 ic_0 ?_
  refine w_istore_n (al' := [_, _, _, _]) dX2_takeRule_1 rfl rfl rfl ?_
  exact lp 31 0 I rfl (fun _ _ _ => rfl) (fun i hi => absurd hi (Nat.not_lt_zero i))

set_option maxRecDepth 20000 in
theorem sX2_forgetting (hs : SK R N) {w : Nat} (hw : w = 1 ∨ w = 30) {V : VV} (hV : VO V) (hC : WC I R N n w V) {s : Nat} (hss : s < nS V) {cd : Int32}
    (hq : ∀ I' : HI, (∀ q, q ≠ w + 12 → q ≠ 62 + s → I' q = I q) → (∀ j, j < 31 → I' (62 + s) j = forgV V (V (6 + 7 * s + 1)) cd (nI j)) → Q vU I' L R N n) : CA sc 3 0 0 mX2_forgetting [vR 2 59, vR 8 w, vI (nI s), vI cd] I L R N n Q := by
  have h6 := hV.1.2
  have lp : ∀ (k j : Nat) (I1 : HI), j + k = 31 → (∀ q, q ≠ w + 12 → q ≠ 62 + s → I1 q = I q) → (∀ i, i < j → I1 (62 + s) i = forgV V (V (6 + 7 * s + 1)) cd (nI i)) → WP sc 3 0 0 mX2_forgetting 12 [vR 2 59, vR 8 w, vI (nI s), vI cd, vI (nI j)] [] I1 L R N n Q := by
    intro k
    induction k with
    | zero =>
      intro j I1 hj hI1 hf
      refine w_iload dX2_forgetting_12 rfl ?_
      refine w_bipush dX2_forgetting_14 bp_31 ?_
      refine w_icmp_ge (tgt := 49) dX2_forgetting_16 (by decide) (fun c16 => ?_) (fun c16 => ?_)
      · refine w_return dX2_forgetting_49 rfl ?_
        exact hq I1 hI1 (fun i hi => hf i (by omega))
      · exact absurd (nI_le (a := 31) (by omega) (by omega)) c16
    | succ k ih =>
      intro j I1 hj hI1 hf
      refine w_iload dX2_forgetting_12 rfl ?_
      refine w_bipush dX2_forgetting_14 bp_31 ?_
      refine w_icmp_ge (tgt := 49) dX2_forgetting_16 (by decide) (fun c16 => ?_) (fun c16 => ?_)
      · exact absurd ((nI_leI (a := 31) (by omega) (by omega)).mp c16) (by omega)
      · refine w_aload_n dX2_forgetting_19 rfl ?_
        refine w_getR dX2_forgetting_20 flX2_17 rfl (hs.r (a := 59) (j := 1) (b := 61) 66 rfl) ?_
        refine w_iload_n dX2_forgetting_23 rfl ?_
        refine w_aaldI dX2_forgetting_24 rfl (hs.n (a := 61) (z := 6) 39 rfl) (by omega) (hs.frow (by omega)).1 ?_
        refine w_iload dX2_forgetting_25 rfl ?_
        refine w_aload_n dX2_forgetting_27 rfl ?_
        refine w_iload dX2_forgetting_28 rfl ?_
        refine w_aload_n dX2_forgetting_30 rfl ?_
        refine w_getR dX2_forgetting_31 flX2_85 rfl (hs.wr (j := 0) (o := 1) hw 9 37 rfl rfl) ?_
        refine w_iload_n dX2_forgetting_34 rfl ?_
        refine w_aaldI dX2_forgetting_35 rfl (hs.wn (o := 1) (z := 6) hw 0 19 rfl rfl) (by omega) (hs.rows hw (by omega)).1 ?_
        refine w_iconst dX2_forgetting_36 ic_1 ?_
        refine w_iald (q := 1) dX2_forgetting_37 rfl (hs.rows hw (by omega)).2 (by decide) ?_
        refine w_top (y := V (6 + 7 * s + 1)) ((congrFun (hI1 (w + 2 + s) (by omega) (by rcases hw with rfl | rfl <;> omega)) 1).trans (hC.2.1 s hss 1 (by decide))) ?_
        refine w_iload_n dX2_forgetting_38 rfl ?_
        refine c_V (t := 8) (as := [_, _, _]) (d' := 2) dX2_forgetting_39 mlX2_88 moX8_forgetsOn mvX8_forgetsOn ⟨rfl, rfl⟩ rfl rfl rfl rfl rfl (by decide) (sX8_forgetsOn hs hw hV (hC.keep hV (fun a ha => hI1 a (by unfold WA at ha; rcases hw with rfl | rfl <;> omega) (by unfold WA at ha; rcases hw with rfl | rfl <;> omega))) (fun I2 hI2 => ?_))
        refine w_iast dX2_forgetting_42 rfl (hs.frow (by omega)).2 (by omega) ?_
        refine w_iinc (al' := [_, _, _, _, _]) dX2_forgetting_43 rfl rfl ic_1 rfl ?_
        refine w_goto (tgt := 12) dX2_forgetting_46 (by decide) ?_
        simp only [nI_1]
        refine ih (j + 1) _ (by omega) (fun q h1 h2 => ?_) (fun i hi => ?_)
        · rw [va_up_ne _ _ h2, hI2 q h1]; exact hI1 q h1 h2
        · rw [va_up_self]
          by_cases e : i = j
          · subst e; rw [va_up_self]
          · rw [va_up_ne _ _ e, hI2 (62 + s) (by rcases hw with rfl | rfl <;> omega)]; exact hf i (by omega)
  refine ca_in (al := [_, _, _, _, _]) rfl ?_
  refine w_aload_n dX2_forgetting_0 rfl ?_
  refine w_iload_n dX2_forgetting_1 rfl ?_
  refine c_V (t := 8) (as := [_]) (d' := 1) dX2_forgetting_2 mlX2_81 moX8_hasSort mvX8_hasSort ⟨rfl, rfl⟩ rfl rfl rfl rfl rfl (by decide) (sX8_hasSort ?_)
  refine w_ifB_ne (tgt := 9) dX2_forgetting_5 (by decide) (fun c5 => ?_) (fun c5 => ?_)
  · refine w_iconst dX2_forgetting_9 ic_0 ?_
    refine w_istore (al' := [_, _, _, _, _]) dX2_forgetting_10 rfl rfl rfl ?_
    exact lp 31 0 I rfl (fun _ _ _ => rfl) (fun i hi => absurd hi (Nat.not_lt_zero i))
  · refine absurd ⟨nI_pos' (by omega), ?_⟩ c5
    rw [hC.1.1, hV.1.1, show nI (nS V) - 1 = nI (nS V - 1) from nI_sub (b := 1) (by omega)]
    exact nI_le (by omega) (by omega)

set_option maxRecDepth 20000 in
theorem sX2_takeCard (hs : SK R N) {w : Nat} (hw : w = 1 ∨ w = 30) {V : VV} (hV : VO V) (hC : WC I R N n w V) {cd : Int32}
    (hq : ∀ I' : HI, (∀ q, q ≠ w + 12 → (q < 62 ∨ 68 ≤ q) → I' q = I q) → (∀ s, s < nS V → ∀ j, j < 31 → I' (62 + s) j = forgV V (V (6 + 7 * s + 1)) cd (nI j)) → Q vU I' L R N n) : CA sc 4 0 0 mX2_takeCard [vR 2 59, vR 8 w, vI cd] I L R N n Q := by
  have h6 := hV.1.2
  have lp : ∀ (k j : Nat) (I1 : HI), j + k = nS V → (∀ q, q ≠ w + 12 → (q < 62 ∨ 68 ≤ q) → I1 q = I q) → (∀ s, s < j → ∀ i, i < 31 → I1 (62 + s) i = forgV V (V (6 + 7 * s + 1)) cd (nI i)) → WP sc 4 0 0 mX2_takeCard 2 [vR 2 59, vR 8 w, vI cd, vI (nI j)] [] I1 L R N n Q := by
    intro k
    induction k with
    | zero =>
      intro j I1 hj hI1 hf
      refine w_iload_n dX2_takeCard_2 rfl ?_
      refine w_aload_n dX2_takeCard_3 rfl ?_
      refine w_getI dX2_takeCard_4 flX2_74 rfl ?_
      refine w_top (y := nI (nS V)) ((congrFun (hI1 w (by omega) (by rcases hw with rfl | rfl <;> omega)) 1).trans (hC.1.1.trans hV.1.1)) ?_
      refine w_icmp_ge (tgt := 23) dX2_takeCard_7 (by decide) (fun c7 => ?_) (fun c7 => ?_)
      · refine w_return dX2_takeCard_23 rfl ?_
        exact hq I1 hI1 (fun s hs2 => hf s (by omega))
      · exact absurd (nI_le (by omega) (by omega)) c7
    | succ k ih =>
      intro j I1 hj hI1 hf
      refine w_iload_n dX2_takeCard_2 rfl ?_
      refine w_aload_n dX2_takeCard_3 rfl ?_
      refine w_getI dX2_takeCard_4 flX2_74 rfl ?_
      refine w_top (y := nI (nS V)) ((congrFun (hI1 w (by omega) (by rcases hw with rfl | rfl <;> omega)) 1).trans (hC.1.1.trans hV.1.1)) ?_
      refine w_icmp_ge (tgt := 23) dX2_takeCard_7 (by decide) (fun c7 => ?_) (fun c7 => ?_)
      · exact absurd ((nI_leI (by omega) (by omega)).mp c7) (by omega)
      · refine w_aload_n dX2_takeCard_10 rfl ?_
        refine w_aload_n dX2_takeCard_11 rfl ?_
        refine w_iload_n dX2_takeCard_12 rfl ?_
        refine w_iload_n dX2_takeCard_13 rfl ?_
        refine c_Vv (t := 2) (as := [_, _, _]) (d' := 3) dX2_takeCard_14 mlX2_77 moX2_forgetting mvX2_forgetting ⟨rfl, rfl⟩ rfl rfl rfl rfl rfl (by decide) (sX2_forgetting hs hw hV (hC.keep hV (fun a ha => hI1 a (by unfold WA at ha; rcases hw with rfl | rfl <;> omega) (by unfold WA at ha; rcases hw with rfl | rfl <;> omega))) (s := j) (by omega) (fun I2 hI2 hf2 => ?_))
        refine w_iinc (al' := [_, _, _, _]) dX2_takeCard_17 rfl rfl ic_1 rfl ?_
        refine w_goto (tgt := 2) dX2_takeCard_20 (by decide) ?_
        simp only [nI_1]
        refine ih (j + 1) _ (by omega) (fun q h1 h2 => ?_) (fun s hs2 i hi => ?_)
        · rw [hI2 q h1 (by omega)]; exact hI1 q h1 h2
        · by_cases e : s = j
          · subst e; exact hf2 i hi
          · rw [hI2 (62 + s) (by rcases hw with rfl | rfl <;> omega) (by omega)]; exact hf s (by omega) i hi
  refine ca_in (al := [_, _, _, _]) rfl ?_
  refine w_iconst dX2_takeCard_0 ic_0 ?_
  refine w_istore_n (al' := [_, _, _, _]) dX2_takeCard_1 rfl rfl rfl ?_
  exact lp (nS V) 0 I (by omega) (fun _ _ _ => rfl) (fun i hi => absurd hi (Nat.not_lt_zero i))

set_option maxRecDepth 20000 in
theorem sX2_decide (hs : SK R N) {w : Nat} (hw : w = 1 ∨ w = 30) {V : VV} (hV : VO V) (hC : WC I R N n w V) {ra fa : Nat} {p : PL} (hra : N ra = 7) (hfa : N fa = 31) (hra2 : ra < 60 ∧ ra ≠ w + 12) (hfa2 : 62 ≤ fa ∧ fa ≤ 67) (ho : ∀ j, j < 31 → I 60 j = p.1 j) (hf : ∀ j, j < 31 → I fa j = p.2.1 j) (h2 : I ra 2 = p.2.2.1) (h3 : ∀ z, shamV V (I ra 3) z = p.2.2.2.2.2.2 z) (h4 : I ra 4 = p.2.2.2.1) (h5 : I ra 5 = p.2.2.2.2.1) (h6 : I ra 6 = p.2.2.2.2.2.1)
    (hq : ∀ I' : HI, (∀ q, q ≠ w + 12 → (q < 68 ∨ 72 ≤ q) → I' q = I q) → (∀ j, j < 31 → I' 68 j = pBri p j ∧ I' 69 j = pKeep p j ∧ I' 70 j = cst p j ∧ I' 71 j = bI (pBs p j)) → Q vU I' L R N n) : CA sc 3 0 0 mX2_decide [vR 2 59, vR 8 w, vR 12 ra, vR 12 fa] I L R N n Q := by
  have lp : ∀ (k : Nat) (I1 : HI), k ≤ 31 → (∀ q, q ≠ w + 12 → (q < 68 ∨ 72 ≤ q) → I1 q = I q) → (∀ j, k ≤ j → j < 31 → I1 68 j = pBri p j ∧ I1 69 j = pKeep p j ∧ I1 70 j = cst p j ∧ I1 71 j = bI (pBs p j)) → WP sc 3 0 0 mX2_decide 10 [vR 2 59, vR 8 w, vR 12 ra, vR 12 fa, vI (cst p k), vI (nI k - 1), vU, vU] [] I1 L R N n Q := by
    intro k
    induction k with
    | zero =>
      intro I1 hk hI1 hfx
      refine w_iload dX2_decide_10 rfl ?_
      refine w_if_lt (tgt := 174) dX2_decide_12 (by decide) (fun c12 => ?_) (fun c12 => ?_)
      · refine w_return dX2_decide_174 rfl ?_
        exact hq I1 hI1 (fun j hj => hfx j (Nat.zero_le j) hj)
      · exact absurd (by decide) c12
    | succ k ih =>
      intro I1 hk hI1 hfx
      rw [nI_pred]
      refine w_iload dX2_decide_10 rfl ?_
      refine w_if_lt (tgt := 174) dX2_decide_12 (by decide) (fun c12 => ?_) (fun c12 => ?_)
      · exact absurd c12 (nI_pos (by omega))
      · refine w_aload_n dX2_decide_15 rfl ?_
        refine w_getR dX2_decide_16 flX2_9 rfl (hs.r (a := 59) (j := 0) (b := 60) 65 rfl) ?_
        refine w_iload dX2_decide_19 rfl ?_
        refine w_iald dX2_decide_21 rfl (hs.n (a := 60) (z := 31) 38 rfl) (by omega) ?_
        refine w_top (y := p.1 k) ((congrFun (hI1 60 (by rcases hw with rfl | rfl <;> omega) (by omega)) _).trans (ho k (by omega))) ?_
        refine w_istore (al' := [_, _, _, _, _, _, _, _]) dX2_decide_22 rfl rfl rfl ?_
        refine w_aload_n dX2_decide_24 rfl ?_
        refine w_getR dX2_decide_25 flX2_20 rfl (hs.r (a := 59) (j := 2) (b := 68) 67 rfl) ?_
        refine w_iload dX2_decide_28 rfl ?_
        refine w_aload_n dX2_decide_30 rfl ?_
        refine w_iconst dX2_decide_31 ic_2 ?_
        refine w_iald (q := 2) dX2_decide_32 rfl hra (by decide) ?_
        refine w_top (y := p.2.2.1) ((congrFun (hI1 ra (by omega) (by omega)) _).trans h2) ?_
        refine w_iload dX2_decide_33 rfl ?_
        refine w_iadd dX2_decide_35 ?_
        refine w_aload_n dX2_decide_36 rfl ?_
        refine w_aload_n dX2_decide_37 rfl ?_
        refine w_iconst dX2_decide_38 ic_3 ?_
        refine w_iald (q := 3) dX2_decide_39 rfl hra (by decide) ?_
        refine w_top (y := I ra 3) (congrFun (hI1 ra (by omega) (by omega)) _) ?_
        refine w_iload dX2_decide_40 rfl ?_
        refine c_V (t := 8) (as := [_, _]) (d' := 2) dX2_decide_42 mlX2_103 moX8_shameOf mvX8_shameOf ⟨rfl, rfl⟩ rfl rfl rfl rfl rfl (by decide) (sX8_shameOf hs hw hV (hC.keep hV (fun a ha => hI1 a (by unfold WA at ha; rcases hw with rfl | rfl <;> omega) (by unfold WA at ha; rcases hw with rfl | rfl <;> omega))) (fun I2 hI2 => ?_))
        refine w_top (y := p.2.2.2.2.2.2 (p.1 k)) (h3 _) ?_
        have hX2 : (∀ q, q ≠ w + 12 → (q < 68 ∨ 72 ≤ q) → I2 q = I q) := fun q a1 a2 => (hI2 q a1).trans (hI1 q a1 a2)
        refine w_iadd dX2_decide_45 ?_
        refine w_top (y := pBri p k) (rfl) ?_
        refine w_iast dX2_decide_46 rfl (hs.n (a := 68) (z := 31) 46 rfl) (by omega) ?_
        refine w_st (fun I3 hA3 hB3 hC3 => ?_)
        have hX3 : (∀ q, q ≠ w + 12 → (q < 68 ∨ 72 ≤ q) → I3 q = I q) := fun q a1 a2 => (hA3 q (by omega)).trans (hX2 q a1 a2)
        refine w_aload_n dX2_decide_47 rfl ?_
        refine w_getR dX2_decide_48 flX2_23 rfl (hs.r (a := 59) (j := 3) (b := 69) 68 rfl) ?_
        refine w_iload dX2_decide_51 rfl ?_
        refine w_iload dX2_decide_53 rfl ?_
        refine w_aload_n dX2_decide_55 rfl ?_
        refine w_iconst dX2_decide_56 ic_5 ?_
        refine w_iald (q := 5) dX2_decide_57 rfl hra (by decide) ?_
        refine w_top (y := p.2.2.2.2.1) ((congrFun (hX3 ra (by omega) (by omega)) _).trans h5) ?_
        refine w_isub dX2_decide_58 ?_
        refine w_top (y := pKeep p k) (rfl) ?_
        refine w_iast dX2_decide_59 rfl (hs.n (a := 69) (z := 31) 47 rfl) (by omega) ?_
        refine w_st (fun I4 hA4 hB4 hC4 => ?_)
        have hX4 : (∀ q, q ≠ w + 12 → (q < 68 ∨ 72 ≤ q) → I4 q = I q) := fun q a1 a2 => (hA4 q (by omega)).trans (hX3 q a1 a2)
        refine w_aload_n dX2_decide_60 rfl ?_
        refine w_getR dX2_decide_61 flX2_29 rfl (hs.r (a := 59) (j := 5) (b := 71) 70 rfl) ?_
        refine w_iload dX2_decide_64 rfl ?_
        refine w_iload dX2_decide_66 rfl ?_
        refine w_aload_n dX2_decide_68 rfl ?_
        refine w_iconst dX2_decide_69 ic_4 ?_
        refine w_iald (q := 4) dX2_decide_70 rfl hra (by decide) ?_
        refine w_top (y := p.2.2.2.1) ((congrFun (hX4 ra (by omega) (by omega)) _).trans h4) ?_
        refine w_icmp_gt (tgt := 95) dX2_decide_71 (by decide) (fun c71 => ?_) (fun c71 => ?_)
        · refine w_iconst dX2_decide_95 ic_0 ?_
          refine w_top (y := bI (pBs p k)) ((bI_0 (by unfold pBs; first | exact fun q => absurd q.1 (Int32.not_le.mpr c71) | exact fun q => absurd q.2 (Int32.not_le.mpr c88))).symm) ?_
          refine w_zast dX2_decide_96 rfl (hs.n (a := 71) (z := 31) 49 rfl) (by omega) bI_v ?_
          refine w_st (fun I5 hA5 hB5 hC5 => ?_)
          have hX5 : (∀ q, q ≠ w + 12 → (q < 68 ∨ 72 ≤ q) → I5 q = I q) := fun q a1 a2 => (hA5 q (by omega)).trans (hX4 q a1 a2)
          refine w_aload_n dX2_decide_97 rfl ?_
          refine w_getR dX2_decide_98 flX2_29 rfl (hs.r (a := 59) (j := 5) (b := 71) 70 rfl) ?_
          refine w_iload dX2_decide_101 rfl ?_
          refine w_zald dX2_decide_103 rfl (hs.n (a := 71) (z := 31) 49 rfl) (by omega) ?_
          refine w_top (y := bI (pBs p k)) (hC5) ?_
          refine w_if_eq (tgt := 117) dX2_decide_104 (by decide) (fun c104 => ?_) (fun c104 => ?_)
          · refine w_aload_n dX2_decide_117 rfl ?_
            refine w_getR dX2_decide_118 flX2_23 rfl (hs.r (a := 59) (j := 3) (b := 69) 68 rfl) ?_
            refine w_iload dX2_decide_121 rfl ?_
            refine w_iald dX2_decide_123 rfl (hs.n (a := 69) (z := 31) 47 rfl) (by omega) ?_
            refine w_top (y := cif (pBs p k) (pBri p k) (pKeep p k)) (by rw [cif_f (bI_e.mp c104), hA5 69 (by decide)]; exact hC4) ?_
            refine w_istore (al' := [_, _, _, _, _, _, _, _]) dX2_decide_124 rfl rfl rfl ?_
            refine w_aload_n dX2_decide_126 rfl ?_
            refine w_getR dX2_decide_127 flX2_26 rfl (hs.r (a := 59) (j := 4) (b := 70) 69 rfl) ?_
            refine w_iload dX2_decide_130 rfl ?_
            refine w_aload_n dX2_decide_132 rfl ?_
            refine w_iload dX2_decide_133 rfl ?_
            refine w_iald dX2_decide_135 rfl hfa (by omega) ?_
            refine w_top (y := p.2.1 k) ((congrFun (hX5 fa (by rcases hw with rfl | rfl <;> omega) (by omega)) _).trans (hf k (by omega))) ?_
            refine w_aload_n dX2_decide_136 rfl ?_
            refine w_getR dX2_decide_137 flX2_23 rfl (hs.r (a := 59) (j := 3) (b := 69) 68 rfl) ?_
            refine w_iload dX2_decide_140 rfl ?_
            refine w_iald dX2_decide_142 rfl (hs.n (a := 69) (z := 31) 47 rfl) (by omega) ?_
            refine w_top (y := pKeep p k) (by rw [hA5 69 (by decide)]; exact hC4) ?_
            refine w_imul dX2_decide_143 ?_
            refine w_bipush dX2_decide_144 bp_100 ?_
            refine w_aload_n dX2_decide_146 rfl ?_
            refine w_iload dX2_decide_147 rfl ?_
            refine w_iald dX2_decide_149 rfl hfa (by omega) ?_
            refine w_top (y := p.2.1 k) ((congrFun (hX5 fa (by rcases hw with rfl | rfl <;> omega) (by omega)) _).trans (hf k (by omega))) ?_
            refine w_isub dX2_decide_150 ?_
            refine w_iload dX2_decide_151 rfl ?_
            refine w_imul dX2_decide_153 ?_
            refine w_iadd dX2_decide_154 ?_
            refine w_bipush dX2_decide_155 bp_100 ?_
            refine w_idiv dX2_decide_157 (by decide) ?_
            refine w_top (y := cst p k) ((cst_lt p (by omega)).symm) ?_
            refine w_iast dX2_decide_158 rfl (hs.n (a := 70) (z := 31) 48 rfl) (by omega) ?_
            refine w_st (fun I6 hA6 hB6 hC6 => ?_)
            have hX6 : (∀ q, q ≠ w + 12 → (q < 68 ∨ 72 ≤ q) → I6 q = I q) := fun q a1 a2 => (hA6 q (by omega)).trans (hX5 q a1 a2)
            refine w_aload_n dX2_decide_159 rfl ?_
            refine w_getR dX2_decide_160 flX2_26 rfl (hs.r (a := 59) (j := 4) (b := 70) 69 rfl) ?_
            refine w_iload dX2_decide_163 rfl ?_
            refine w_iald dX2_decide_165 rfl (hs.n (a := 70) (z := 31) 48 rfl) (by omega) ?_
            refine w_top (y := cst p k) (hC6) ?_
            refine w_istore (al' := [_, _, _, _, _, _, _, _]) dX2_decide_166 rfl rfl rfl ?_
            refine w_iinc (al' := [_, _, _, _, _, _, _, _]) dX2_decide_168 rfl rfl ic_m1 rfl ?_
            refine w_goto (tgt := 10) dX2_decide_171 (by decide) ?_
            refine w_kill (i := 6) (al' := [_, _, _, _, _, _, _, _]) rfl ?_
            refine w_kill (i := 7) (al' := [_, _, _, _, _, _, _, _]) rfl ?_
            rw [sub_m1]
            refine ih I6 (by omega) hX6 (fun j hj1 hj2 => ?_)
            by_cases e : j = k
            · subst e; exact ⟨by rw [hA6 68 (by decide), hA5 68 (by decide), hA4 68 (by decide)]; exact hC3, by rw [hA6 69 (by decide), hA5 69 (by decide)]; exact hC4, hC6, by rw [hA6 71 (by decide)]; exact hC5⟩
            · obtain ⟨f1, f2, f3, f4⟩ := hfx j (by omega) hj2
              have hw68 : 68 ≠ w + 12 ∧ 69 ≠ w + 12 ∧ 70 ≠ w + 12 ∧ 71 ≠ w + 12 := by rcases hw with rfl | rfl <;> decide
              refine ⟨?_, ?_, ?_, ?_⟩
              · rw [hA6 68 (by decide), hA5 68 (by decide), hA4 68 (by decide), hB3 j e, hI2 68 hw68.1]; exact f1
              · rw [hA6 69 (by decide), hA5 69 (by decide), hB4 j e, hA3 69 (by decide), hI2 69 hw68.2.1]; exact f2
              · rw [hB6 j e, hA5 70 (by decide), hA4 70 (by decide), hA3 70 (by decide), hI2 70 hw68.2.2.1]; exact f3
              · rw [hA6 71 (by decide), hB5 j e, hA4 71 (by decide), hA3 71 (by decide), hI2 71 hw68.2.2.2]; exact f4
          · refine w_aload_n dX2_decide_107 rfl ?_
            refine w_getR dX2_decide_108 flX2_20 rfl (hs.r (a := 59) (j := 2) (b := 68) 67 rfl) ?_
            refine w_iload dX2_decide_111 rfl ?_
            refine w_iald dX2_decide_113 rfl (hs.n (a := 68) (z := 31) 46 rfl) (by omega) ?_
            refine w_top (y := cif (pBs p k) (pBri p k) (pKeep p k)) (by rw [cif_t (bI_n.mp c104), hA5 68 (by decide), hA4 68 (by decide)]; exact hC3) ?_
            refine w_goto (tgt := 124) dX2_decide_114 (by decide) ?_
            refine w_istore (al' := [_, _, _, _, _, _, _, _]) dX2_decide_124 rfl rfl rfl ?_
            refine w_aload_n dX2_decide_126 rfl ?_
            refine w_getR dX2_decide_127 flX2_26 rfl (hs.r (a := 59) (j := 4) (b := 70) 69 rfl) ?_
            refine w_iload dX2_decide_130 rfl ?_
            refine w_aload_n dX2_decide_132 rfl ?_
            refine w_iload dX2_decide_133 rfl ?_
            refine w_iald dX2_decide_135 rfl hfa (by omega) ?_
            refine w_top (y := p.2.1 k) ((congrFun (hX5 fa (by rcases hw with rfl | rfl <;> omega) (by omega)) _).trans (hf k (by omega))) ?_
            refine w_aload_n dX2_decide_136 rfl ?_
            refine w_getR dX2_decide_137 flX2_23 rfl (hs.r (a := 59) (j := 3) (b := 69) 68 rfl) ?_
            refine w_iload dX2_decide_140 rfl ?_
            refine w_iald dX2_decide_142 rfl (hs.n (a := 69) (z := 31) 47 rfl) (by omega) ?_
            refine w_top (y := pKeep p k) (by rw [hA5 69 (by decide)]; exact hC4) ?_
            refine w_imul dX2_decide_143 ?_
            refine w_bipush dX2_decide_144 bp_100 ?_
            refine w_aload_n dX2_decide_146 rfl ?_
            refine w_iload dX2_decide_147 rfl ?_
            refine w_iald dX2_decide_149 rfl hfa (by omega) ?_
            refine w_top (y := p.2.1 k) ((congrFun (hX5 fa (by rcases hw with rfl | rfl <;> omega) (by omega)) _).trans (hf k (by omega))) ?_
            refine w_isub dX2_decide_150 ?_
            refine w_iload dX2_decide_151 rfl ?_
            refine w_imul dX2_decide_153 ?_
            refine w_iadd dX2_decide_154 ?_
            refine w_bipush dX2_decide_155 bp_100 ?_
            refine w_idiv dX2_decide_157 (by decide) ?_
            refine w_top (y := cst p k) ((cst_lt p (by omega)).symm) ?_
            refine w_iast dX2_decide_158 rfl (hs.n (a := 70) (z := 31) 48 rfl) (by omega) ?_
            refine w_st (fun I6 hA6 hB6 hC6 => ?_)
            have hX6 : (∀ q, q ≠ w + 12 → (q < 68 ∨ 72 ≤ q) → I6 q = I q) := fun q a1 a2 => (hA6 q (by omega)).trans (hX5 q a1 a2)
            refine w_aload_n dX2_decide_159 rfl ?_
            refine w_getR dX2_decide_160 flX2_26 rfl (hs.r (a := 59) (j := 4) (b := 70) 69 rfl) ?_
            refine w_iload dX2_decide_163 rfl ?_
            refine w_iald dX2_decide_165 rfl (hs.n (a := 70) (z := 31) 48 rfl) (by omega) ?_
            refine w_top (y := cst p k) (hC6) ?_
            refine w_istore (al' := [_, _, _, _, _, _, _, _]) dX2_decide_166 rfl rfl rfl ?_
            refine w_iinc (al' := [_, _, _, _, _, _, _, _]) dX2_decide_168 rfl rfl ic_m1 rfl ?_
            refine w_goto (tgt := 10) dX2_decide_171 (by decide) ?_
            refine w_kill (i := 6) (al' := [_, _, _, _, _, _, _, _]) rfl ?_
            refine w_kill (i := 7) (al' := [_, _, _, _, _, _, _, _]) rfl ?_
            rw [sub_m1]
            refine ih I6 (by omega) hX6 (fun j hj1 hj2 => ?_)
            by_cases e : j = k
            · subst e; exact ⟨by rw [hA6 68 (by decide), hA5 68 (by decide), hA4 68 (by decide)]; exact hC3, by rw [hA6 69 (by decide), hA5 69 (by decide)]; exact hC4, hC6, by rw [hA6 71 (by decide)]; exact hC5⟩
            · obtain ⟨f1, f2, f3, f4⟩ := hfx j (by omega) hj2
              have hw68 : 68 ≠ w + 12 ∧ 69 ≠ w + 12 ∧ 70 ≠ w + 12 ∧ 71 ≠ w + 12 := by rcases hw with rfl | rfl <;> decide
              refine ⟨?_, ?_, ?_, ?_⟩
              · rw [hA6 68 (by decide), hA5 68 (by decide), hA4 68 (by decide), hB3 j e, hI2 68 hw68.1]; exact f1
              · rw [hA6 69 (by decide), hA5 69 (by decide), hB4 j e, hA3 69 (by decide), hI2 69 hw68.2.1]; exact f2
              · rw [hB6 j e, hA5 70 (by decide), hA4 70 (by decide), hA3 70 (by decide), hI2 70 hw68.2.2.1]; exact f3
              · rw [hA6 71 (by decide), hB5 j e, hA4 71 (by decide), hA3 71 (by decide), hI2 71 hw68.2.2.2]; exact f4
        · refine w_aload_n dX2_decide_74 rfl ?_
          refine w_getR dX2_decide_75 flX2_20 rfl (hs.r (a := 59) (j := 2) (b := 68) 67 rfl) ?_
          refine w_iload dX2_decide_78 rfl ?_
          refine w_iald dX2_decide_80 rfl (hs.n (a := 68) (z := 31) 46 rfl) (by omega) ?_
          refine w_top (y := pBri p k) (by rw [hA4 68 (by decide)]; exact hC3) ?_
          refine w_aload_n dX2_decide_81 rfl ?_
          refine w_getR dX2_decide_82 flX2_23 rfl (hs.r (a := 59) (j := 3) (b := 69) 68 rfl) ?_
          refine w_iload dX2_decide_85 rfl ?_
          refine w_iald dX2_decide_87 rfl (hs.n (a := 69) (z := 31) 47 rfl) (by omega) ?_
          refine w_top (y := pKeep p k) (hC4) ?_
          refine w_icmp_gt (tgt := 95) dX2_decide_88 (by decide) (fun c88 => ?_) (fun c88 => ?_)
          · refine w_iconst dX2_decide_95 ic_0 ?_
            refine w_top (y := bI (pBs p k)) ((bI_0 (by unfold pBs; first | exact fun q => absurd q.1 (Int32.not_le.mpr c71) | exact fun q => absurd q.2 (Int32.not_le.mpr c88))).symm) ?_
            refine w_zast dX2_decide_96 rfl (hs.n (a := 71) (z := 31) 49 rfl) (by omega) bI_v ?_
            refine w_st (fun I5 hA5 hB5 hC5 => ?_)
            have hX5 : (∀ q, q ≠ w + 12 → (q < 68 ∨ 72 ≤ q) → I5 q = I q) := fun q a1 a2 => (hA5 q (by omega)).trans (hX4 q a1 a2)
            refine w_aload_n dX2_decide_97 rfl ?_
            refine w_getR dX2_decide_98 flX2_29 rfl (hs.r (a := 59) (j := 5) (b := 71) 70 rfl) ?_
            refine w_iload dX2_decide_101 rfl ?_
            refine w_zald dX2_decide_103 rfl (hs.n (a := 71) (z := 31) 49 rfl) (by omega) ?_
            refine w_top (y := bI (pBs p k)) (hC5) ?_
            refine w_if_eq (tgt := 117) dX2_decide_104 (by decide) (fun c104 => ?_) (fun c104 => ?_)
            · refine w_aload_n dX2_decide_117 rfl ?_
              refine w_getR dX2_decide_118 flX2_23 rfl (hs.r (a := 59) (j := 3) (b := 69) 68 rfl) ?_
              refine w_iload dX2_decide_121 rfl ?_
              refine w_iald dX2_decide_123 rfl (hs.n (a := 69) (z := 31) 47 rfl) (by omega) ?_
              refine w_top (y := cif (pBs p k) (pBri p k) (pKeep p k)) (by rw [cif_f (bI_e.mp c104), hA5 69 (by decide)]; exact hC4) ?_
              refine w_istore (al' := [_, _, _, _, _, _, _, _]) dX2_decide_124 rfl rfl rfl ?_
              refine w_aload_n dX2_decide_126 rfl ?_
              refine w_getR dX2_decide_127 flX2_26 rfl (hs.r (a := 59) (j := 4) (b := 70) 69 rfl) ?_
              refine w_iload dX2_decide_130 rfl ?_
              refine w_aload_n dX2_decide_132 rfl ?_
              refine w_iload dX2_decide_133 rfl ?_
              refine w_iald dX2_decide_135 rfl hfa (by omega) ?_
              refine w_top (y := p.2.1 k) ((congrFun (hX5 fa (by rcases hw with rfl | rfl <;> omega) (by omega)) _).trans (hf k (by omega))) ?_
              refine w_aload_n dX2_decide_136 rfl ?_
              refine w_getR dX2_decide_137 flX2_23 rfl (hs.r (a := 59) (j := 3) (b := 69) 68 rfl) ?_
              refine w_iload dX2_decide_140 rfl ?_
              refine w_iald dX2_decide_142 rfl (hs.n (a := 69) (z := 31) 47 rfl) (by omega) ?_
              refine w_top (y := pKeep p k) (by rw [hA5 69 (by decide)]; exact hC4) ?_
              refine w_imul dX2_decide_143 ?_
              refine w_bipush dX2_decide_144 bp_100 ?_
              refine w_aload_n dX2_decide_146 rfl ?_
              refine w_iload dX2_decide_147 rfl ?_
              refine w_iald dX2_decide_149 rfl hfa (by omega) ?_
              refine w_top (y := p.2.1 k) ((congrFun (hX5 fa (by rcases hw with rfl | rfl <;> omega) (by omega)) _).trans (hf k (by omega))) ?_
              refine w_isub dX2_decide_150 ?_
              refine w_iload dX2_decide_151 rfl ?_
              refine w_imul dX2_decide_153 ?_
              refine w_iadd dX2_decide_154 ?_
              refine w_bipush dX2_decide_155 bp_100 ?_
              refine w_idiv dX2_decide_157 (by decide) ?_
              refine w_top (y := cst p k) ((cst_lt p (by omega)).symm) ?_
              refine w_iast dX2_decide_158 rfl (hs.n (a := 70) (z := 31) 48 rfl) (by omega) ?_
              refine w_st (fun I6 hA6 hB6 hC6 => ?_)
              have hX6 : (∀ q, q ≠ w + 12 → (q < 68 ∨ 72 ≤ q) → I6 q = I q) := fun q a1 a2 => (hA6 q (by omega)).trans (hX5 q a1 a2)
              refine w_aload_n dX2_decide_159 rfl ?_
              refine w_getR dX2_decide_160 flX2_26 rfl (hs.r (a := 59) (j := 4) (b := 70) 69 rfl) ?_
              refine w_iload dX2_decide_163 rfl ?_
              refine w_iald dX2_decide_165 rfl (hs.n (a := 70) (z := 31) 48 rfl) (by omega) ?_
              refine w_top (y := cst p k) (hC6) ?_
              refine w_istore (al' := [_, _, _, _, _, _, _, _]) dX2_decide_166 rfl rfl rfl ?_
              refine w_iinc (al' := [_, _, _, _, _, _, _, _]) dX2_decide_168 rfl rfl ic_m1 rfl ?_
              refine w_goto (tgt := 10) dX2_decide_171 (by decide) ?_
              refine w_kill (i := 6) (al' := [_, _, _, _, _, _, _, _]) rfl ?_
              refine w_kill (i := 7) (al' := [_, _, _, _, _, _, _, _]) rfl ?_
              rw [sub_m1]
              refine ih I6 (by omega) hX6 (fun j hj1 hj2 => ?_)
              by_cases e : j = k
              · subst e; exact ⟨by rw [hA6 68 (by decide), hA5 68 (by decide), hA4 68 (by decide)]; exact hC3, by rw [hA6 69 (by decide), hA5 69 (by decide)]; exact hC4, hC6, by rw [hA6 71 (by decide)]; exact hC5⟩
              · obtain ⟨f1, f2, f3, f4⟩ := hfx j (by omega) hj2
                have hw68 : 68 ≠ w + 12 ∧ 69 ≠ w + 12 ∧ 70 ≠ w + 12 ∧ 71 ≠ w + 12 := by rcases hw with rfl | rfl <;> decide
                refine ⟨?_, ?_, ?_, ?_⟩
                · rw [hA6 68 (by decide), hA5 68 (by decide), hA4 68 (by decide), hB3 j e, hI2 68 hw68.1]; exact f1
                · rw [hA6 69 (by decide), hA5 69 (by decide), hB4 j e, hA3 69 (by decide), hI2 69 hw68.2.1]; exact f2
                · rw [hB6 j e, hA5 70 (by decide), hA4 70 (by decide), hA3 70 (by decide), hI2 70 hw68.2.2.1]; exact f3
                · rw [hA6 71 (by decide), hB5 j e, hA4 71 (by decide), hA3 71 (by decide), hI2 71 hw68.2.2.2]; exact f4
            · refine w_aload_n dX2_decide_107 rfl ?_
              refine w_getR dX2_decide_108 flX2_20 rfl (hs.r (a := 59) (j := 2) (b := 68) 67 rfl) ?_
              refine w_iload dX2_decide_111 rfl ?_
              refine w_iald dX2_decide_113 rfl (hs.n (a := 68) (z := 31) 46 rfl) (by omega) ?_
              refine w_top (y := cif (pBs p k) (pBri p k) (pKeep p k)) (by rw [cif_t (bI_n.mp c104), hA5 68 (by decide), hA4 68 (by decide)]; exact hC3) ?_
              refine w_goto (tgt := 124) dX2_decide_114 (by decide) ?_
              refine w_istore (al' := [_, _, _, _, _, _, _, _]) dX2_decide_124 rfl rfl rfl ?_
              refine w_aload_n dX2_decide_126 rfl ?_
              refine w_getR dX2_decide_127 flX2_26 rfl (hs.r (a := 59) (j := 4) (b := 70) 69 rfl) ?_
              refine w_iload dX2_decide_130 rfl ?_
              refine w_aload_n dX2_decide_132 rfl ?_
              refine w_iload dX2_decide_133 rfl ?_
              refine w_iald dX2_decide_135 rfl hfa (by omega) ?_
              refine w_top (y := p.2.1 k) ((congrFun (hX5 fa (by rcases hw with rfl | rfl <;> omega) (by omega)) _).trans (hf k (by omega))) ?_
              refine w_aload_n dX2_decide_136 rfl ?_
              refine w_getR dX2_decide_137 flX2_23 rfl (hs.r (a := 59) (j := 3) (b := 69) 68 rfl) ?_
              refine w_iload dX2_decide_140 rfl ?_
              refine w_iald dX2_decide_142 rfl (hs.n (a := 69) (z := 31) 47 rfl) (by omega) ?_
              refine w_top (y := pKeep p k) (by rw [hA5 69 (by decide)]; exact hC4) ?_
              refine w_imul dX2_decide_143 ?_
              refine w_bipush dX2_decide_144 bp_100 ?_
              refine w_aload_n dX2_decide_146 rfl ?_
              refine w_iload dX2_decide_147 rfl ?_
              refine w_iald dX2_decide_149 rfl hfa (by omega) ?_
              refine w_top (y := p.2.1 k) ((congrFun (hX5 fa (by rcases hw with rfl | rfl <;> omega) (by omega)) _).trans (hf k (by omega))) ?_
              refine w_isub dX2_decide_150 ?_
              refine w_iload dX2_decide_151 rfl ?_
              refine w_imul dX2_decide_153 ?_
              refine w_iadd dX2_decide_154 ?_
              refine w_bipush dX2_decide_155 bp_100 ?_
              refine w_idiv dX2_decide_157 (by decide) ?_
              refine w_top (y := cst p k) ((cst_lt p (by omega)).symm) ?_
              refine w_iast dX2_decide_158 rfl (hs.n (a := 70) (z := 31) 48 rfl) (by omega) ?_
              refine w_st (fun I6 hA6 hB6 hC6 => ?_)
              have hX6 : (∀ q, q ≠ w + 12 → (q < 68 ∨ 72 ≤ q) → I6 q = I q) := fun q a1 a2 => (hA6 q (by omega)).trans (hX5 q a1 a2)
              refine w_aload_n dX2_decide_159 rfl ?_
              refine w_getR dX2_decide_160 flX2_26 rfl (hs.r (a := 59) (j := 4) (b := 70) 69 rfl) ?_
              refine w_iload dX2_decide_163 rfl ?_
              refine w_iald dX2_decide_165 rfl (hs.n (a := 70) (z := 31) 48 rfl) (by omega) ?_
              refine w_top (y := cst p k) (hC6) ?_
              refine w_istore (al' := [_, _, _, _, _, _, _, _]) dX2_decide_166 rfl rfl rfl ?_
              refine w_iinc (al' := [_, _, _, _, _, _, _, _]) dX2_decide_168 rfl rfl ic_m1 rfl ?_
              refine w_goto (tgt := 10) dX2_decide_171 (by decide) ?_
              refine w_kill (i := 6) (al' := [_, _, _, _, _, _, _, _]) rfl ?_
              refine w_kill (i := 7) (al' := [_, _, _, _, _, _, _, _]) rfl ?_
              rw [sub_m1]
              refine ih I6 (by omega) hX6 (fun j hj1 hj2 => ?_)
              by_cases e : j = k
              · subst e; exact ⟨by rw [hA6 68 (by decide), hA5 68 (by decide), hA4 68 (by decide)]; exact hC3, by rw [hA6 69 (by decide), hA5 69 (by decide)]; exact hC4, hC6, by rw [hA6 71 (by decide)]; exact hC5⟩
              · obtain ⟨f1, f2, f3, f4⟩ := hfx j (by omega) hj2
                have hw68 : 68 ≠ w + 12 ∧ 69 ≠ w + 12 ∧ 70 ≠ w + 12 ∧ 71 ≠ w + 12 := by rcases hw with rfl | rfl <;> decide
                refine ⟨?_, ?_, ?_, ?_⟩
                · rw [hA6 68 (by decide), hA5 68 (by decide), hA4 68 (by decide), hB3 j e, hI2 68 hw68.1]; exact f1
                · rw [hA6 69 (by decide), hA5 69 (by decide), hB4 j e, hA3 69 (by decide), hI2 69 hw68.2.1]; exact f2
                · rw [hB6 j e, hA5 70 (by decide), hA4 70 (by decide), hA3 70 (by decide), hI2 70 hw68.2.2.1]; exact f3
                · rw [hA6 71 (by decide), hB5 j e, hA4 71 (by decide), hA3 71 (by decide), hI2 71 hw68.2.2.2]; exact f4
          · refine w_iconst dX2_decide_91 ic_1 ?_
            refine w_top (y := bI (pBs p k)) ((bI_1 ⟨Int32.not_lt.mp c71, Int32.not_lt.mp c88⟩).symm) ?_
            refine w_goto (tgt := 96) dX2_decide_92 (by decide) ?_
            refine w_zast dX2_decide_96 rfl (hs.n (a := 71) (z := 31) 49 rfl) (by omega) bI_v ?_
            refine w_st (fun I5 hA5 hB5 hC5 => ?_)
            have hX5 : (∀ q, q ≠ w + 12 → (q < 68 ∨ 72 ≤ q) → I5 q = I q) := fun q a1 a2 => (hA5 q (by omega)).trans (hX4 q a1 a2)
            refine w_aload_n dX2_decide_97 rfl ?_
            refine w_getR dX2_decide_98 flX2_29 rfl (hs.r (a := 59) (j := 5) (b := 71) 70 rfl) ?_
            refine w_iload dX2_decide_101 rfl ?_
            refine w_zald dX2_decide_103 rfl (hs.n (a := 71) (z := 31) 49 rfl) (by omega) ?_
            refine w_top (y := bI (pBs p k)) (hC5) ?_
            refine w_if_eq (tgt := 117) dX2_decide_104 (by decide) (fun c104 => ?_) (fun c104 => ?_)
            · refine w_aload_n dX2_decide_117 rfl ?_
              refine w_getR dX2_decide_118 flX2_23 rfl (hs.r (a := 59) (j := 3) (b := 69) 68 rfl) ?_
              refine w_iload dX2_decide_121 rfl ?_
              refine w_iald dX2_decide_123 rfl (hs.n (a := 69) (z := 31) 47 rfl) (by omega) ?_
              refine w_top (y := cif (pBs p k) (pBri p k) (pKeep p k)) (by rw [cif_f (bI_e.mp c104), hA5 69 (by decide)]; exact hC4) ?_
              refine w_istore (al' := [_, _, _, _, _, _, _, _]) dX2_decide_124 rfl rfl rfl ?_
              refine w_aload_n dX2_decide_126 rfl ?_
              refine w_getR dX2_decide_127 flX2_26 rfl (hs.r (a := 59) (j := 4) (b := 70) 69 rfl) ?_
              refine w_iload dX2_decide_130 rfl ?_
              refine w_aload_n dX2_decide_132 rfl ?_
              refine w_iload dX2_decide_133 rfl ?_
              refine w_iald dX2_decide_135 rfl hfa (by omega) ?_
              refine w_top (y := p.2.1 k) ((congrFun (hX5 fa (by rcases hw with rfl | rfl <;> omega) (by omega)) _).trans (hf k (by omega))) ?_
              refine w_aload_n dX2_decide_136 rfl ?_
              refine w_getR dX2_decide_137 flX2_23 rfl (hs.r (a := 59) (j := 3) (b := 69) 68 rfl) ?_
              refine w_iload dX2_decide_140 rfl ?_
              refine w_iald dX2_decide_142 rfl (hs.n (a := 69) (z := 31) 47 rfl) (by omega) ?_
              refine w_top (y := pKeep p k) (by rw [hA5 69 (by decide)]; exact hC4) ?_
              refine w_imul dX2_decide_143 ?_
              refine w_bipush dX2_decide_144 bp_100 ?_
              refine w_aload_n dX2_decide_146 rfl ?_
              refine w_iload dX2_decide_147 rfl ?_
              refine w_iald dX2_decide_149 rfl hfa (by omega) ?_
              refine w_top (y := p.2.1 k) ((congrFun (hX5 fa (by rcases hw with rfl | rfl <;> omega) (by omega)) _).trans (hf k (by omega))) ?_
              refine w_isub dX2_decide_150 ?_
              refine w_iload dX2_decide_151 rfl ?_
              refine w_imul dX2_decide_153 ?_
              refine w_iadd dX2_decide_154 ?_
              refine w_bipush dX2_decide_155 bp_100 ?_
              refine w_idiv dX2_decide_157 (by decide) ?_
              refine w_top (y := cst p k) ((cst_lt p (by omega)).symm) ?_
              refine w_iast dX2_decide_158 rfl (hs.n (a := 70) (z := 31) 48 rfl) (by omega) ?_
              refine w_st (fun I6 hA6 hB6 hC6 => ?_)
              have hX6 : (∀ q, q ≠ w + 12 → (q < 68 ∨ 72 ≤ q) → I6 q = I q) := fun q a1 a2 => (hA6 q (by omega)).trans (hX5 q a1 a2)
              refine w_aload_n dX2_decide_159 rfl ?_
              refine w_getR dX2_decide_160 flX2_26 rfl (hs.r (a := 59) (j := 4) (b := 70) 69 rfl) ?_
              refine w_iload dX2_decide_163 rfl ?_
              refine w_iald dX2_decide_165 rfl (hs.n (a := 70) (z := 31) 48 rfl) (by omega) ?_
              refine w_top (y := cst p k) (hC6) ?_
              refine w_istore (al' := [_, _, _, _, _, _, _, _]) dX2_decide_166 rfl rfl rfl ?_
              refine w_iinc (al' := [_, _, _, _, _, _, _, _]) dX2_decide_168 rfl rfl ic_m1 rfl ?_
              refine w_goto (tgt := 10) dX2_decide_171 (by decide) ?_
              refine w_kill (i := 6) (al' := [_, _, _, _, _, _, _, _]) rfl ?_
              refine w_kill (i := 7) (al' := [_, _, _, _, _, _, _, _]) rfl ?_
              rw [sub_m1]
              refine ih I6 (by omega) hX6 (fun j hj1 hj2 => ?_)
              by_cases e : j = k
              · subst e; exact ⟨by rw [hA6 68 (by decide), hA5 68 (by decide), hA4 68 (by decide)]; exact hC3, by rw [hA6 69 (by decide), hA5 69 (by decide)]; exact hC4, hC6, by rw [hA6 71 (by decide)]; exact hC5⟩
              · obtain ⟨f1, f2, f3, f4⟩ := hfx j (by omega) hj2
                have hw68 : 68 ≠ w + 12 ∧ 69 ≠ w + 12 ∧ 70 ≠ w + 12 ∧ 71 ≠ w + 12 := by rcases hw with rfl | rfl <;> decide
                refine ⟨?_, ?_, ?_, ?_⟩
                · rw [hA6 68 (by decide), hA5 68 (by decide), hA4 68 (by decide), hB3 j e, hI2 68 hw68.1]; exact f1
                · rw [hA6 69 (by decide), hA5 69 (by decide), hB4 j e, hA3 69 (by decide), hI2 69 hw68.2.1]; exact f2
                · rw [hB6 j e, hA5 70 (by decide), hA4 70 (by decide), hA3 70 (by decide), hI2 70 hw68.2.2.1]; exact f3
                · rw [hA6 71 (by decide), hB5 j e, hA4 71 (by decide), hA3 71 (by decide), hI2 71 hw68.2.2.2]; exact f4
            · refine w_aload_n dX2_decide_107 rfl ?_
              refine w_getR dX2_decide_108 flX2_20 rfl (hs.r (a := 59) (j := 2) (b := 68) 67 rfl) ?_
              refine w_iload dX2_decide_111 rfl ?_
              refine w_iald dX2_decide_113 rfl (hs.n (a := 68) (z := 31) 46 rfl) (by omega) ?_
              refine w_top (y := cif (pBs p k) (pBri p k) (pKeep p k)) (by rw [cif_t (bI_n.mp c104), hA5 68 (by decide), hA4 68 (by decide)]; exact hC3) ?_
              refine w_goto (tgt := 124) dX2_decide_114 (by decide) ?_
              refine w_istore (al' := [_, _, _, _, _, _, _, _]) dX2_decide_124 rfl rfl rfl ?_
              refine w_aload_n dX2_decide_126 rfl ?_
              refine w_getR dX2_decide_127 flX2_26 rfl (hs.r (a := 59) (j := 4) (b := 70) 69 rfl) ?_
              refine w_iload dX2_decide_130 rfl ?_
              refine w_aload_n dX2_decide_132 rfl ?_
              refine w_iload dX2_decide_133 rfl ?_
              refine w_iald dX2_decide_135 rfl hfa (by omega) ?_
              refine w_top (y := p.2.1 k) ((congrFun (hX5 fa (by rcases hw with rfl | rfl <;> omega) (by omega)) _).trans (hf k (by omega))) ?_
              refine w_aload_n dX2_decide_136 rfl ?_
              refine w_getR dX2_decide_137 flX2_23 rfl (hs.r (a := 59) (j := 3) (b := 69) 68 rfl) ?_
              refine w_iload dX2_decide_140 rfl ?_
              refine w_iald dX2_decide_142 rfl (hs.n (a := 69) (z := 31) 47 rfl) (by omega) ?_
              refine w_top (y := pKeep p k) (by rw [hA5 69 (by decide)]; exact hC4) ?_
              refine w_imul dX2_decide_143 ?_
              refine w_bipush dX2_decide_144 bp_100 ?_
              refine w_aload_n dX2_decide_146 rfl ?_
              refine w_iload dX2_decide_147 rfl ?_
              refine w_iald dX2_decide_149 rfl hfa (by omega) ?_
              refine w_top (y := p.2.1 k) ((congrFun (hX5 fa (by rcases hw with rfl | rfl <;> omega) (by omega)) _).trans (hf k (by omega))) ?_
              refine w_isub dX2_decide_150 ?_
              refine w_iload dX2_decide_151 rfl ?_
              refine w_imul dX2_decide_153 ?_
              refine w_iadd dX2_decide_154 ?_
              refine w_bipush dX2_decide_155 bp_100 ?_
              refine w_idiv dX2_decide_157 (by decide) ?_
              refine w_top (y := cst p k) ((cst_lt p (by omega)).symm) ?_
              refine w_iast dX2_decide_158 rfl (hs.n (a := 70) (z := 31) 48 rfl) (by omega) ?_
              refine w_st (fun I6 hA6 hB6 hC6 => ?_)
              have hX6 : (∀ q, q ≠ w + 12 → (q < 68 ∨ 72 ≤ q) → I6 q = I q) := fun q a1 a2 => (hA6 q (by omega)).trans (hX5 q a1 a2)
              refine w_aload_n dX2_decide_159 rfl ?_
              refine w_getR dX2_decide_160 flX2_26 rfl (hs.r (a := 59) (j := 4) (b := 70) 69 rfl) ?_
              refine w_iload dX2_decide_163 rfl ?_
              refine w_iald dX2_decide_165 rfl (hs.n (a := 70) (z := 31) 48 rfl) (by omega) ?_
              refine w_top (y := cst p k) (hC6) ?_
              refine w_istore (al' := [_, _, _, _, _, _, _, _]) dX2_decide_166 rfl rfl rfl ?_
              refine w_iinc (al' := [_, _, _, _, _, _, _, _]) dX2_decide_168 rfl rfl ic_m1 rfl ?_
              refine w_goto (tgt := 10) dX2_decide_171 (by decide) ?_
              refine w_kill (i := 6) (al' := [_, _, _, _, _, _, _, _]) rfl ?_
              refine w_kill (i := 7) (al' := [_, _, _, _, _, _, _, _]) rfl ?_
              rw [sub_m1]
              refine ih I6 (by omega) hX6 (fun j hj1 hj2 => ?_)
              by_cases e : j = k
              · subst e; exact ⟨by rw [hA6 68 (by decide), hA5 68 (by decide), hA4 68 (by decide)]; exact hC3, by rw [hA6 69 (by decide), hA5 69 (by decide)]; exact hC4, hC6, by rw [hA6 71 (by decide)]; exact hC5⟩
              · obtain ⟨f1, f2, f3, f4⟩ := hfx j (by omega) hj2
                have hw68 : 68 ≠ w + 12 ∧ 69 ≠ w + 12 ∧ 70 ≠ w + 12 ∧ 71 ≠ w + 12 := by rcases hw with rfl | rfl <;> decide
                refine ⟨?_, ?_, ?_, ?_⟩
                · rw [hA6 68 (by decide), hA5 68 (by decide), hA4 68 (by decide), hB3 j e, hI2 68 hw68.1]; exact f1
                · rw [hA6 69 (by decide), hA5 69 (by decide), hB4 j e, hA3 69 (by decide), hI2 69 hw68.2.1]; exact f2
                · rw [hB6 j e, hA5 70 (by decide), hA4 70 (by decide), hA3 70 (by decide), hI2 70 hw68.2.2.1]; exact f3
                · rw [hA6 71 (by decide), hB5 j e, hA4 71 (by decide), hA3 71 (by decide), hI2 71 hw68.2.2.2]; exact f4
  refine ca_in (al := [_, _, _, _, _, _, _, _]) rfl ?_
  refine w_aload_n dX2_decide_0 rfl ?_
  refine w_bipush dX2_decide_1 bp_6 ?_
  refine w_iald (q := 6) dX2_decide_3 rfl hra (by decide) ?_
  refine w_top (y := cst p 31) (h6) ?_
  refine w_istore (al' := [_, _, _, _, _, _, _, _]) dX2_decide_4 rfl rfl rfl ?_
  refine w_bipush dX2_decide_6 bp_30 ?_
  refine w_top (y := nI 31 - 1) (by decide) ?_
  refine w_istore (al' := [_, _, _, _, _, _, _, _]) dX2_decide_8 rfl rfl rfl ?_
  exact lp 31 I (Nat.le_refl _) (fun _ _ _ => rfl) (fun j h1 h2 => absurd h2 (by omega))

set_option maxRecDepth 20000 in
theorem sX2_bring (hs : SK R N) {fa : Nat} {p : PL} (hfa : N fa = 31) (hfa2 : 62 ≤ fa ∧ fa ≤ 67) (hf : ∀ j, j < 31 → I fa j = p.2.1 j) (hb : ∀ j, j < 31 → I 71 j = bI (pBs p j))
    (hq : ∀ I' : HI, (∀ q, q ≠ 72 → q ≠ 73 → I' q = I q) → (∀ j, j < 31 → I' 72 j = pBr p j ∧ I' 73 j = pOut p (j + 1)) → Q vU I' L R N n) : CA sc 0 0 0 mX2_bring [vR 2 59, vR 12 fa] I L R N n Q := by
  have lp : ∀ (k j : Nat) (I1 : HI), j + k = 31 → (∀ q, q ≠ 72 → q ≠ 73 → I1 q = I q) → (∀ i, i < j → I1 72 i = pBr p i ∧ I1 73 i = pOut p (i + 1)) → WP sc 0 0 0 mX2_bring 5 [vR 2 59, vR 12 fa, vI (pOut p j), vI (nI j)] [] I1 L R N n Q := by
    intro k
    induction k with
    | zero =>
      intro j I1 hj hI1 hfx
      refine w_iload_n dX2_bring_5 rfl ?_
      refine w_bipush dX2_bring_6 bp_31 ?_
      refine w_icmp_ge (tgt := 63) dX2_bring_8 (by decide) (fun c8 => ?_) (fun c8 => ?_)
      · refine w_return dX2_bring_63 rfl ?_
        exact hq I1 hI1 (fun i hi => hfx i (by omega))
      · exact absurd (nI_le (a := 31) (by omega) (by omega)) c8
    | succ k ih =>
      intro j I1 hj hI1 hfx
      refine w_iload_n dX2_bring_5 rfl ?_
      refine w_bipush dX2_bring_6 bp_31 ?_
      refine w_icmp_ge (tgt := 63) dX2_bring_8 (by decide) (fun c8 => ?_) (fun c8 => ?_)
      · exact absurd ((nI_leI (a := 31) (by omega) (by omega)).mp c8) (by omega)
      · refine w_aload_n dX2_bring_11 rfl ?_
        refine w_getR dX2_bring_12 flX2_33 rfl (hs.r (a := 59) (j := 6) (b := 72) 71 rfl) ?_
        refine w_iload_n dX2_bring_15 rfl ?_
        refine w_aload_n dX2_bring_16 rfl ?_
        refine w_getR dX2_bring_17 flX2_29 rfl (hs.r (a := 59) (j := 5) (b := 71) 70 rfl) ?_
        refine w_iload_n dX2_bring_20 rfl ?_
        refine w_zald dX2_bring_21 rfl (hs.n (a := 71) (z := 31) 49 rfl) (by omega) ?_
        refine w_top (y := bI (pBs p j)) ((congrFun (hI1 71 (by decide) (by decide)) _).trans (hb j (by omega))) ?_
        refine w_if_eq (tgt := 39) dX2_bring_22 (by decide) (fun c22 => ?_) (fun c22 => ?_)
        · refine w_iconst dX2_bring_39 ic_0 ?_
          refine w_top (y := pBr p j) ((cif_f (bI_e.mp c22)).symm) ?_
          refine w_iast dX2_bring_40 rfl (hs.n (a := 72) (z := 31) 50 rfl) (by omega) ?_
          refine w_st (fun I2 hA2 hB2 hC2 => ?_)
          refine w_iload_n dX2_bring_41 rfl ?_
          refine w_aload_n dX2_bring_42 rfl ?_
          refine w_getR dX2_bring_43 flX2_33 rfl (hs.r (a := 59) (j := 6) (b := 72) 71 rfl) ?_
          refine w_iload_n dX2_bring_46 rfl ?_
          refine w_iald dX2_bring_47 rfl (hs.n (a := 72) (z := 31) 50 rfl) (by omega) ?_
          refine w_top (y := pBr p j) (hC2) ?_
          refine w_isub dX2_bring_48 ?_
          refine w_top (y := pOut p (j + 1)) ((pOut_s p j).symm) ?_
          refine w_istore_n (al' := [_, _, _, _]) dX2_bring_49 rfl rfl rfl ?_
          refine w_aload_n dX2_bring_50 rfl ?_
          refine w_getR dX2_bring_51 flX2_36 rfl (hs.r (a := 59) (j := 7) (b := 73) 72 rfl) ?_
          refine w_iload_n dX2_bring_54 rfl ?_
          refine w_iload_n dX2_bring_55 rfl ?_
          refine w_iast dX2_bring_56 rfl (hs.n (a := 73) (z := 31) 51 rfl) (by omega) ?_
          refine w_st (fun I3 hA3 hB3 hC3 => ?_)
          refine w_iinc (al' := [_, _, _, _]) dX2_bring_57 rfl rfl ic_1 rfl ?_
          refine w_goto (tgt := 5) dX2_bring_60 (by decide) ?_
          simp only [nI_1]
          refine ih (j + 1) I3 (by omega) (fun q h1 h2 => (hA3 q h2).trans ((hA2 q h1).trans (hI1 q h1 h2))) (fun i hi => ?_)
          by_cases e : i = j
          · subst e; exact ⟨by rw [hA3 72 (by decide)]; exact hC2, hC3⟩
          · exact ⟨by rw [hA3 72 (by decide), hB2 i e]; exact (hfx i (by omega)).1, by rw [hB3 i e, hA2 73 (by decide)]; exact (hfx i (by omega)).2⟩
        · refine w_iload_n dX2_bring_25 rfl ?_
          refine w_bipush dX2_bring_26 bp_100 ?_
          refine w_aload_n dX2_bring_28 rfl ?_
          refine w_iload_n dX2_bring_29 rfl ?_
          refine w_iald dX2_bring_30 rfl hfa (by omega) ?_
          refine w_top (y := p.2.1 j) ((congrFun (hI1 fa (by omega) (by omega)) _).trans (hf j (by omega))) ?_
          refine w_isub dX2_bring_31 ?_
          refine w_imul dX2_bring_32 ?_
          refine w_bipush dX2_bring_33 bp_100 ?_
          refine w_idiv dX2_bring_35 (by decide) ?_
          refine w_top (y := pBr p j) ((cif_t (bI_n.mp c22)).symm) ?_
          refine w_goto (tgt := 40) dX2_bring_36 (by decide) ?_
          refine w_iast dX2_bring_40 rfl (hs.n (a := 72) (z := 31) 50 rfl) (by omega) ?_
          refine w_st (fun I2 hA2 hB2 hC2 => ?_)
          refine w_iload_n dX2_bring_41 rfl ?_
          refine w_aload_n dX2_bring_42 rfl ?_
          refine w_getR dX2_bring_43 flX2_33 rfl (hs.r (a := 59) (j := 6) (b := 72) 71 rfl) ?_
          refine w_iload_n dX2_bring_46 rfl ?_
          refine w_iald dX2_bring_47 rfl (hs.n (a := 72) (z := 31) 50 rfl) (by omega) ?_
          refine w_top (y := pBr p j) (hC2) ?_
          refine w_isub dX2_bring_48 ?_
          refine w_top (y := pOut p (j + 1)) ((pOut_s p j).symm) ?_
          refine w_istore_n (al' := [_, _, _, _]) dX2_bring_49 rfl rfl rfl ?_
          refine w_aload_n dX2_bring_50 rfl ?_
          refine w_getR dX2_bring_51 flX2_36 rfl (hs.r (a := 59) (j := 7) (b := 73) 72 rfl) ?_
          refine w_iload_n dX2_bring_54 rfl ?_
          refine w_iload_n dX2_bring_55 rfl ?_
          refine w_iast dX2_bring_56 rfl (hs.n (a := 73) (z := 31) 51 rfl) (by omega) ?_
          refine w_st (fun I3 hA3 hB3 hC3 => ?_)
          refine w_iinc (al' := [_, _, _, _]) dX2_bring_57 rfl rfl ic_1 rfl ?_
          refine w_goto (tgt := 5) dX2_bring_60 (by decide) ?_
          simp only [nI_1]
          refine ih (j + 1) I3 (by omega) (fun q h1 h2 => (hA3 q h2).trans ((hA2 q h1).trans (hI1 q h1 h2))) (fun i hi => ?_)
          by_cases e : i = j
          · subst e; exact ⟨by rw [hA3 72 (by decide)]; exact hC2, hC3⟩
          · exact ⟨by rw [hA3 72 (by decide), hB2 i e]; exact (hfx i (by omega)).1, by rw [hB3 i e, hA2 73 (by decide)]; exact (hfx i (by omega)).2⟩
  refine ca_in (al := [_, _, _, _]) rfl ?_
  refine w_ldc dX2_bring_0 kcX2_107 ?_
  refine w_top (y := pOut p 0) (rfl) ?_
  refine w_istore_n (al' := [_, _, _, _]) dX2_bring_2 rfl rfl rfl ?_
  refine w_iconst dX2_bring_3 ic_0 ?_
  refine w_istore_n (al' := [_, _, _, _]) dX2_bring_4 rfl rfl rfl ?_
  exact lp 31 0 I rfl (fun _ _ _ => rfl) (fun i hi => absurd hi (Nat.not_lt_zero i))

end
