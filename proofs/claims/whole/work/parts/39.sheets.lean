section
variable {sc : SC} {I : HI} {L : HL} {R : HR} {N : HN} {n : Nat} {Q : HQ}
theorem SK.sheets (hs : SK R N) {s : Nat} (h : s < 4) : R 81 s = some (84 + 2 * s) ∧ R (84 + 2 * s) 2 = some (85 + 2 * s) ∧ N (85 + 2 * s) = 24 := by
  rcases (show s = 0 ∨ s = 1 ∨ s = 2 ∨ s = 3 by omega) with rfl | rfl | rfl | rfl
  · exact ⟨hs.r (a := 81) (j := 0) (b := 84) 83 rfl, hs.r (a := 84) (j := 2) (b := 85) 92 rfl, hs.n (a := 85) (z := 24) 58 rfl⟩
  · exact ⟨hs.r (a := 81) (j := 1) (b := 86) 84 rfl, hs.r (a := 86) (j := 2) (b := 87) 93 rfl, hs.n (a := 87) (z := 24) 59 rfl⟩
  · exact ⟨hs.r (a := 81) (j := 2) (b := 88) 85 rfl, hs.r (a := 88) (j := 2) (b := 89) 94 rfl, hs.n (a := 89) (z := 24) 60 rfl⟩
  · exact ⟨hs.r (a := 81) (j := 3) (b := 90) 86 rfl, hs.r (a := 90) (j := 2) (b := 91) 95 rfl, hs.n (a := 91) (z := 24) 61 rfl⟩
theorem SK.slots (hs : SK R N) {s : Nat} (h : s < 5) : R 82 s = some (92 + 5 * s) ∧ (R (92 + 5 * s) 1 = some (93 + 5 * s) ∧ R (93 + 5 * s) 1 = some (94 + 5 * s) ∧ N (94 + 5 * s) = 3) ∧ R (92 + 5 * s) 2 = some (95 + 5 * s) ∧ R (95 + 5 * s) 2 = some (96 + 5 * s) ∧ N (96 + 5 * s) = 24 := by
  rcases (show s = 0 ∨ s = 1 ∨ s = 2 ∨ s = 3 ∨ s = 4 by omega) with rfl | rfl | rfl | rfl | rfl
  · exact ⟨hs.r (a := 82) (j := 0) (b := 92) 87 rfl, ⟨hs.r (a := 92) (j := 1) (b := 93) 96 rfl, hs.r (a := 93) (j := 1) (b := 94) 98 rfl, hs.n (a := 94) (z := 3) 62 rfl⟩, hs.r (a := 92) (j := 2) (b := 95) 97 rfl, hs.r (a := 95) (j := 2) (b := 96) 99 rfl, hs.n (a := 96) (z := 24) 63 rfl⟩
  · exact ⟨hs.r (a := 82) (j := 1) (b := 97) 88 rfl, ⟨hs.r (a := 97) (j := 1) (b := 98) 100 rfl, hs.r (a := 98) (j := 1) (b := 99) 102 rfl, hs.n (a := 99) (z := 3) 64 rfl⟩, hs.r (a := 97) (j := 2) (b := 100) 101 rfl, hs.r (a := 100) (j := 2) (b := 101) 103 rfl, hs.n (a := 101) (z := 24) 65 rfl⟩
  · exact ⟨hs.r (a := 82) (j := 2) (b := 102) 89 rfl, ⟨hs.r (a := 102) (j := 1) (b := 103) 104 rfl, hs.r (a := 103) (j := 1) (b := 104) 106 rfl, hs.n (a := 104) (z := 3) 66 rfl⟩, hs.r (a := 102) (j := 2) (b := 105) 105 rfl, hs.r (a := 105) (j := 2) (b := 106) 107 rfl, hs.n (a := 106) (z := 24) 67 rfl⟩
  · exact ⟨hs.r (a := 82) (j := 3) (b := 107) 90 rfl, ⟨hs.r (a := 107) (j := 1) (b := 108) 108 rfl, hs.r (a := 108) (j := 1) (b := 109) 110 rfl, hs.n (a := 109) (z := 3) 68 rfl⟩, hs.r (a := 107) (j := 2) (b := 110) 109 rfl, hs.r (a := 110) (j := 2) (b := 111) 111 rfl, hs.n (a := 111) (z := 24) 69 rfl⟩
  · exact ⟨hs.r (a := 82) (j := 4) (b := 112) 91 rfl, ⟨hs.r (a := 112) (j := 1) (b := 113) 112 rfl, hs.r (a := 113) (j := 1) (b := 114) 114 rfl, hs.n (a := 114) (z := 3) 70 rfl⟩, hs.r (a := 112) (j := 2) (b := 115) 113 rfl, hs.r (a := 115) (j := 2) (b := 116) 115 rfl, hs.n (a := 116) (z := 24) 71 rfl⟩
/-- the sheets: sorts, sizes, places -/
def SO (S Z : VV) : Prop := ∀ s, s < 4 → (S s = -1 ∨ S s = 0 ∨ S s = 1) ∧ inN (Z s) 0 24
def SHC (I : HI) (S Z C : VV) : Prop := ∀ s, s < 4 → I (84 + 2 * s) 0 = S s ∧ I (84 + 2 * s) 1 = Z s ∧ ∀ j, j < 24 → I (85 + 2 * s) j = C (24 * s + j)
theorem SHC.keep {I' : HI} {S Z C : VV} (h : SHC I S Z C) (e : ∀ q, 84 ≤ q → q < 92 → I' q = I q) : SHC I' S Z C := fun s hs => by
  rw [e (84 + 2 * s) (by omega) (by omega), e (85 + 2 * s) (by omega) (by omega)]
  exact h s hs
theorem m1_lt {x : Int32} (h : x = -1 ∨ x = 0 ∨ x = 1) : x = -1 ↔ x < 0 := by
  rcases h with rfl | rfl | rfl <;> decide

set_option maxRecDepth 20000 in
theorem sX9_sheetAtN (hs : SK R N) {v : Int32} (h : ¬ (0 ≤ v ∧ v ≤ 3)) (hq : Q vN I L R N n) : CA sc 1 0 0 mX9_sheetAt [vR 9 0, vI v] I L R N n Q := by
  refine ca_in (al := [_, _]) rfl ?_
  refine w_iload_n dX9_sheetAt_0 rfl ?_
  refine w_iconst dX9_sheetAt_1 ic_0 ?_
  refine w_iconst dX9_sheetAt_2 ic_3 ?_
  refine c_S (as := [_, _, _]) (d' := 0) dX9_sheetAt_3 (Or.inl mlX9_86) moX9_within msX9_within rfl rfl rfl rfl rfl (by decide) (sX9_within ?_)
  refine w_ifB_eq (tgt := 18) dX9_sheetAt_6 (by decide) (fun c6 => ?_) (fun c6 => ?_)
  · refine w_null dX9_sheetAt_18 ?_
    refine w_areturn dX9_sheetAt_19 rfl rfl rfl ?_
    exact hq
  · exact absurd c6 h

set_option maxRecDepth 20000 in
theorem sX9_sheetAtS (hs : SK R N) {s : Nat} (h : s < 4) (hq : Q (vR 4 (84 + 2 * s)) I L R N n) : CA sc 1 0 0 mX9_sheetAt [vR 9 0, vI (nI s)] I L R N n Q := by
  refine ca_in (al := [_, _]) rfl ?_
  refine w_iload_n dX9_sheetAt_0 rfl ?_
  refine w_iconst dX9_sheetAt_1 ic_0 ?_
  refine w_iconst dX9_sheetAt_2 ic_3 ?_
  refine c_S (as := [_, _, _]) (d' := 0) dX9_sheetAt_3 (Or.inl mlX9_86) moX9_within msX9_within rfl rfl rfl rfl rfl (by decide) (sX9_within ?_)
  refine w_ifB_eq (tgt := 18) dX9_sheetAt_6 (by decide) (fun c6 => ?_) (fun c6 => ?_)
  · exact absurd (in_to (m := 3) (by omega) (by omega)) c6
  · refine w_aload_n dX9_sheetAt_9 rfl ?_
    refine w_getR dX9_sheetAt_10 flX9_53 rfl (hs.r (a := 0) (j := 7) (b := 81) 6 rfl) ?_
    refine w_iload_n dX9_sheetAt_13 rfl ?_
    refine w_aald dX9_sheetAt_14 (by decide) (by decide) rfl (hs.n (a := 81) (z := 4) 55 rfl) (by omega) (hs.sheets h).1 ?_
    refine w_goto (tgt := 19) dX9_sheetAt_15 (by decide) ?_
    refine w_areturn dX9_sheetAt_19 rfl rfl rfl ?_
    exact hq

set_option maxRecDepth 20000 in
theorem sX9_slotAtN (hs : SK R N) {v : Int32} (h : ¬ (0 ≤ v ∧ v ≤ 4)) (hq : Q vN I L R N n) : CA sc 1 0 0 mX9_slotAt [vR 9 0, vI v] I L R N n Q := by
  refine ca_in (al := [_, _]) rfl ?_
  refine w_iload_n dX9_slotAt_0 rfl ?_
  refine w_iconst dX9_slotAt_1 ic_0 ?_
  refine w_iconst dX9_slotAt_2 ic_4 ?_
  refine c_S (as := [_, _, _]) (d' := 0) dX9_slotAt_3 (Or.inl mlX9_86) moX9_within msX9_within rfl rfl rfl rfl rfl (by decide) (sX9_within ?_)
  refine w_ifB_eq (tgt := 18) dX9_slotAt_6 (by decide) (fun c6 => ?_) (fun c6 => ?_)
  · refine w_null dX9_slotAt_18 ?_
    refine w_areturn dX9_slotAt_19 rfl rfl rfl ?_
    exact hq
  · exact absurd c6 h

set_option maxRecDepth 20000 in
theorem sX9_slotAtS (hs : SK R N) {s : Nat} (h : s < 5) (hq : Q (vR 5 (92 + 5 * s)) I L R N n) : CA sc 1 0 0 mX9_slotAt [vR 9 0, vI (nI s)] I L R N n Q := by
  refine ca_in (al := [_, _]) rfl ?_
  refine w_iload_n dX9_slotAt_0 rfl ?_
  refine w_iconst dX9_slotAt_1 ic_0 ?_
  refine w_iconst dX9_slotAt_2 ic_4 ?_
  refine c_S (as := [_, _, _]) (d' := 0) dX9_slotAt_3 (Or.inl mlX9_86) moX9_within msX9_within rfl rfl rfl rfl rfl (by decide) (sX9_within ?_)
  refine w_ifB_eq (tgt := 18) dX9_slotAt_6 (by decide) (fun c6 => ?_) (fun c6 => ?_)
  · exact absurd (in_to (m := 4) (by omega) (by omega)) c6
  · refine w_aload_n dX9_slotAt_9 rfl ?_
    refine w_getR dX9_slotAt_10 flX9_59 rfl (hs.r (a := 0) (j := 8) (b := 82) 7 rfl) ?_
    refine w_iload_n dX9_slotAt_13 rfl ?_
    refine w_aald dX9_slotAt_14 (by decide) (by decide) rfl (hs.n (a := 82) (z := 5) 56 rfl) (by omega) (hs.slots h).1 ?_
    refine w_goto (tgt := 19) dX9_slotAt_15 (by decide) ?_
    refine w_areturn dX9_slotAt_19 rfl rfl rfl ?_
    exact hq

set_option maxRecDepth 20000 in
theorem sX4_has {k z : Nat} {v : Int32} (hz : I k 1 = nI z) (h24 : z ≤ 24) (hq : Q (vI (bI (0 ≤ v ∧ v ≤ nI z - 1))) I L R N n) : CA sc 1 0 0 mX4_has [vR 4 k, vI v] I L R N n Q := by
  refine ca_in (al := [_, _]) rfl ?_
  refine w_iload_n dX4_has_0 rfl ?_
  refine w_iconst dX4_has_1 ic_0 ?_
  refine w_aload_n dX4_has_2 rfl ?_
  refine w_getI dX4_has_3 flX4_15 rfl ?_
  refine w_top (y := nI z) (hz) ?_
  refine w_iconst dX4_has_6 ic_1 ?_
  refine w_isub dX4_has_7 ?_
  refine c_S (as := [_, _, _]) (d' := 0) dX4_has_8 nlX4_34 moX9_within msX9_within rfl rfl rfl rfl rfl (by decide) (sX9_within ?_)
  refine w_ifB_eq (tgt := 24) dX4_has_11 (by decide) (fun c11 => ?_) (fun c11 => ?_)
  · refine w_iconst dX4_has_24 ic_0 ?_
    refine w_ireturn dX4_has_25 rfl rfl ?_
    exact q_0 c11 hq
  · refine w_iload_n dX4_has_14 rfl ?_
    refine w_bipush dX4_has_15 bp_24 ?_
    refine w_icmp_ge (tgt := 24) dX4_has_17 (by decide) (fun c17 => ?_) (fun c17 => ?_)
    · obtain ⟨j, hj, rfl⟩ := pr_of (by omega) c11
      exact absurd ((nI_leI (a := 24) (by omega) (by omega)).mp c17) (by omega)
    · refine w_iconst dX4_has_20 ic_1 ?_
      refine w_goto (tgt := 25) dX4_has_21 (by decide) ?_
      refine w_ireturn dX4_has_25 rfl rfl ?_
      exact q_1 c11 hq

set_option maxRecDepth 20000 in
theorem sX4_hasNumber {k p z j : Nat} (hp : R k 2 = some p) (hN : N p = 24) (hz : I k 1 = nI z) (h24 : z ≤ 24) (hj : j < 24) (hq : Q (vI (bI (j < z ∧ I p j ≠ -1000000005))) I L R N n) : CA sc 2 0 0 mX4_hasNumber [vR 4 k, vI (nI j)] I L R N n Q := by
  refine ca_in (al := [_, _]) rfl ?_
  refine w_aload_n dX4_hasNumber_0 rfl ?_
  refine w_iload_n dX4_hasNumber_1 rfl ?_
  refine c_V (t := 4) (as := [_]) (d' := 1) dX4_hasNumber_2 mlX4_38 moX4_has mvX4_has ⟨rfl, rfl⟩ rfl rfl rfl rfl rfl (by decide) (sX4_has hz h24 ?_)
  refine w_ifB_eq (tgt := 23) dX4_hasNumber_5 (by decide) (fun c5 => ?_) (fun c5 => ?_)
  · refine w_iconst dX4_hasNumber_23 ic_0 ?_
    refine w_ireturn dX4_hasNumber_24 rfl rfl ?_
    exact q_0 (fun q => c5 (pr_to (by omega) q.1)) hq
  · have hjz : j < z := by
      obtain ⟨i, hi, e⟩ := pr_of (by omega) c5
      have := (nI_eq (by omega) (by omega)).mp e
      omega
    refine w_aload_n dX4_hasNumber_8 rfl ?_
    refine w_getR dX4_hasNumber_9 flX4_18 rfl hp ?_
    refine w_iload_n dX4_hasNumber_12 rfl ?_
    refine w_iald dX4_hasNumber_13 rfl hN (by omega) ?_
    refine w_ldc dX4_hasNumber_14 kcX4_42 ?_
    refine w_icmp_eq (tgt := 23) dX4_hasNumber_16 (by decide) (fun c16 => ?_) (fun c16 => ?_)
    · refine w_iconst dX4_hasNumber_23 ic_0 ?_
      refine w_ireturn dX4_hasNumber_24 rfl rfl ?_
      exact q_0 (fun q => q.2 c16) hq
    · refine w_iconst dX4_hasNumber_19 ic_1 ?_
      refine w_goto (tgt := 24) dX4_hasNumber_20 (by decide) ?_
      refine w_ireturn dX4_hasNumber_24 rfl rfl ?_
      exact q_1 ⟨hjz, c16⟩ hq

set_option maxRecDepth 20000 in
theorem sX4_hasRow {k z : Nat} {v m : Int32} (hz : I k 1 = nI z) (hq : Q (vI (bI ((0 ≤ v ∧ v ≤ nI z) ∧ (0 ≤ m ∧ m ≤ nI z - v)))) I L R N n) : CA sc 1 0 0 mX4_hasRow [vR 4 k, vI v, vI m] I L R N n Q := by
  refine ca_in (al := [_, _, _]) rfl ?_
  refine w_iload_n dX4_hasRow_0 rfl ?_
  refine w_iconst dX4_hasRow_1 ic_0 ?_
  refine w_aload_n dX4_hasRow_2 rfl ?_
  refine w_getI dX4_hasRow_3 flX4_15 rfl ?_
  refine w_top (y := nI z) (hz) ?_
  refine c_S (as := [_, _, _]) (d' := 0) dX4_hasRow_6 nlX4_34 moX9_within msX9_within rfl rfl rfl rfl rfl (by decide) (sX9_within ?_)
  refine w_ifB_eq (tgt := 30) dX4_hasRow_9 (by decide) (fun c9 => ?_) (fun c9 => ?_)
  · refine w_iconst dX4_hasRow_30 ic_0 ?_
    refine w_ireturn dX4_hasRow_31 rfl rfl ?_
    exact q_0 (fun q => c9 q.1) hq
  · refine w_iload_n dX4_hasRow_12 rfl ?_
    refine w_iconst dX4_hasRow_13 ic_0 ?_
    refine w_aload_n dX4_hasRow_14 rfl ?_
    refine w_getI dX4_hasRow_15 flX4_15 rfl ?_
    refine w_top (y := nI z) (hz) ?_
    refine w_iload_n dX4_hasRow_18 rfl ?_
    refine w_isub dX4_hasRow_19 ?_
    refine c_S (as := [_, _, _]) (d' := 0) dX4_hasRow_20 nlX4_34 moX9_within msX9_within rfl rfl rfl rfl rfl (by decide) (sX9_within ?_)
    refine w_ifB_eq (tgt := 30) dX4_hasRow_23 (by decide) (fun c23 => ?_) (fun c23 => ?_)
    · refine w_iconst dX4_hasRow_30 ic_0 ?_
      refine w_ireturn dX4_hasRow_31 rfl rfl ?_
      exact q_0 (fun q => c23 q.2) hq
    · refine w_iconst dX4_hasRow_26 ic_1 ?_
      refine w_goto (tgt := 31) dX4_hasRow_27 (by decide) ?_
      refine w_ireturn dX4_hasRow_31 rfl rfl ?_
      exact q_1 ⟨c9, c23⟩ hq

set_option maxRecDepth 20000 in
theorem sJ7_fill {p z : Nat} {v : Int32} (hz : N p = z) (h31 : z < 2147483648) (hq : ∀ I' : HI, (∀ q, q ≠ p → I' q = I q) → (∀ j, j < z → I' p j = v) → Q vU I' L R N n) : CA sc 0 0 0 mJ7_fill_53178 [vR 12 p, vI v] I L R N n Q := by
  have lp : ∀ (k j : Nat) (I1 : HI), j + k = z → (∀ q, q ≠ p → I1 q = I q) → (∀ i, i < j → I1 p i = v) → WP sc 0 0 0 mJ7_fill_53178 5 [vR 12 p, vI v, vI (nI j), vI (nI z)] [] I1 L R N n Q := by
    intro k
    induction k with
    | zero =>
      intro j I1 hj hI1 hf
      refine w_iload_n dJ7_fill_53178_5 rfl ?_
      refine w_iload_n dJ7_fill_53178_6 rfl ?_
      refine w_icmp_ge (tgt := 20) dJ7_fill_53178_7 (by decide) (fun c7 => ?_) (fun c7 => ?_)
      · refine w_return dJ7_fill_53178_20 rfl ?_
        exact hq I1 hI1 (fun i hi => hf i (by omega))
      · exact absurd (nI_le (a := z) (by omega) (by omega)) c7
    | succ k ih =>
      intro j I1 hj hI1 hf
      refine w_iload_n dJ7_fill_53178_5 rfl ?_
      refine w_iload_n dJ7_fill_53178_6 rfl ?_
      refine w_icmp_ge (tgt := 20) dJ7_fill_53178_7 (by decide) (fun c7 => ?_) (fun c7 => ?_)
      · exact absurd ((nI_leI (by omega) (by omega)).mp c7) (by omega)
      · refine w_aload_n dJ7_fill_53178_10 rfl ?_
        refine w_iload_n dJ7_fill_53178_11 rfl ?_
        refine w_iload_n dJ7_fill_53178_12 rfl ?_
        refine w_iast dJ7_fill_53178_13 rfl hz (by omega) ?_ h31
        refine w_iinc (al' := [_, _, _, _]) dJ7_fill_53178_14 rfl rfl ic_1 rfl ?_
        refine w_goto (tgt := 5) dJ7_fill_53178_17 (by decide) ?_
        simp only [nI_1]
        refine ih (j + 1) _ (by omega) (fun q h => (va_up_ne _ _ h).trans (hI1 q h)) (fun i hi => ?_)
        rw [va_up_self]
        by_cases e : i = j
        · subst e; rw [va_up_self]
        · rw [va_up_ne _ _ e]; exact hf i (by omega)
  refine ca_in (al := [_, _, _, _]) rfl ?_
  refine w_iconst dJ7_fill_53178_0 ic_0 ?_
  refine w_istore_n (al' := [_, _, _, _]) dJ7_fill_53178_1 rfl rfl rfl ?_
  refine w_aload_n dJ7_fill_53178_2 rfl ?_
  refine w_alen dJ7_fill_53178_3 (by decide) (by decide) hz ?_
  refine w_istore_n (al' := [_, _, _, _]) dJ7_fill_53178_4 rfl rfl rfl ?_
  exact lp z 0 I (Nat.zero_add _) (fun _ _ => rfl) (fun i hi => absurd hi (Nat.not_lt_zero i))

set_option maxRecDepth 20000 in
theorem sX4_renew {k p : Nat} {a b : Int32} (hp : R k 2 = some p) (hN : N p = 24) (hkp : k ≠ p) (hq : ∀ I' : HI, (∀ q, q ≠ k → q ≠ p → I' q = I q) → I' k 0 = a → I' k 1 = b → (∀ j, j < 24 → I' p j = 0) → Q vU I' L R N n) : CA sc 1 0 0 mX4_renew [vR 4 k, vI a, vI b] I L R N n Q := by
  refine ca_in (al := [_, _, _]) rfl ?_
  refine w_aload_n dX4_renew_0 rfl ?_
  refine w_iload_n dX4_renew_1 rfl ?_
  refine w_putI dX4_renew_2 flX4_9 rfl rfl rfl rfl ?_
  refine w_aload_n dX4_renew_5 rfl ?_
  refine w_iload_n dX4_renew_6 rfl ?_
  refine w_putI dX4_renew_7 flX4_15 rfl rfl rfl rfl ?_
  refine w_aload_n dX4_renew_10 rfl ?_
  refine w_getR dX4_renew_11 flX4_18 rfl hp ?_
  refine w_iconst dX4_renew_14 ic_0 ?_
  refine c_Sv (as := [_, _]) (d' := 0) dX4_renew_15 (Or.inl mlX4_22) moJ7_fill_53178 msJ7_fill_53178 rfl rfl rfl rfl rfl (by decide) (sJ7_fill hN (by decide) (fun I2 hI2 hf2 => ?_))
  refine w_return dX4_renew_18 rfl ?_
  refine hq I2 (fun q h1 h2 => by rw [hI2 q h2, va_up_ne _ _ h1, va_up_ne _ _ h1]) ?_ ?_ hf2
  · rw [hI2 k hkp, va_up_self, va_up_ne _ _ (by decide), va_up_self, va_up_self]
  · rw [hI2 k hkp, va_up_self, va_up_self]

set_option maxRecDepth 20000 in
theorem sX4_become {k p k2 p2 : Nat} (hp : R k 2 = some p) (hN : N p = 24) (hp2 : R k2 2 = some p2) (hN2 : N p2 = 24) (h1 : k ≠ p) (h2 : k ≠ k2) (h3 : p2 ≠ k) (hq : ∀ I' : HI, (∀ q, q ≠ k → q ≠ p → I' q = I q) → I' k 0 = I k2 0 → I' k 1 = I k2 1 → (∀ j, j < 24 → I' p j = I p2 j) → Q vU I' L R N n) : CA sc 1 0 0 mX4_become [vR 4 k, vR 4 k2] I L R N n Q := by
  refine ca_in (al := [_, _]) rfl ?_
  refine w_aload_n dX4_become_0 rfl ?_
  refine w_aload_n dX4_become_1 rfl ?_
  refine w_getI dX4_become_2 flX4_9 rfl ?_
  refine w_putI dX4_become_5 flX4_9 rfl rfl rfl rfl ?_
  refine w_aload_n dX4_become_8 rfl ?_
  refine w_aload_n dX4_become_9 rfl ?_
  refine w_getI dX4_become_10 flX4_15 rfl ?_
  refine w_putI dX4_become_13 flX4_15 rfl rfl rfl rfl ?_
  refine w_aload_n dX4_become_16 rfl ?_
  refine w_getR dX4_become_17 flX4_18 rfl hp2 ?_
  refine w_iconst dX4_become_20 ic_0 ?_
  refine w_aload_n dX4_become_21 rfl ?_
  refine w_getR dX4_become_22 flX4_18 rfl hp ?_
  refine w_iconst dX4_become_25 ic_0 ?_
  refine w_bipush dX4_become_26 bp_24 ?_
  refine w_acopy dX4_become_28 mlX4_28 nat_acopy st_acopy iiJ10 (by decide) (Nat.le_of_ble_eq_true rfl) (u := 0) (v := 0) (w := 24) rfl rfl rfl (by omega) (by omega) (by omega) (by omega) ?_
  refine w_return dX4_become_31 rfl ?_
  refine hq _ (fun q a1 a2 => by rw [va_up_ne _ _ a2, va_up_ne _ _ a1, va_up_ne _ _ a1]) ?_ ?_ (fun j hj => ?_)
  · rw [va_up_ne _ _ h1, va_up_self, va_up_ne _ _ (by decide), va_up_self, va_up_self]
  · rw [va_up_ne _ _ h1, va_up_self, va_up_self, va_up_ne _ _ (Ne.symm h2)]
  · rw [va_up_self, va_up_ne _ _ h3, va_up_ne _ _ h3]
    unfold va_cpy
    rw [if_pos (by omega)]
    congr 1
    omega

set_option maxRecDepth 20000 in
theorem sX5_refusalUnless {k : Nat} {v : Int32} (hq : Q (vI (if I k 0 = 0 then -1000000011 else if I k 0 = v then -1000000005 else -1000000012)) I L R N n) : CA sc 0 0 0 mX5_refusalUnless [vR 5 k, vI v] I L R N n Q := by
  refine ca_in (al := [_, _]) rfl ?_
  refine w_aload_n dX5_refusalUnless_0 rfl ?_
  refine w_getI dX5_refusalUnless_1 flX5_9 rfl ?_
  refine w_if_ne (tgt := 10) dX5_refusalUnless_4 (by decide) (fun c4 => ?_) (fun c4 => ?_)
  · refine w_aload_n dX5_refusalUnless_10 rfl ?_
    refine w_getI dX5_refusalUnless_11 flX5_9 rfl ?_
    refine w_iload_n dX5_refusalUnless_14 rfl ?_
    refine w_icmp_ne (tgt := 23) dX5_refusalUnless_15 (by decide) (fun c15 => ?_) (fun c15 => ?_)
    · refine w_ldc dX5_refusalUnless_23 kcX5_34 ?_
      refine w_ireturn dX5_refusalUnless_25 rfl rfl ?_
      refine q_e ?_ hq
      simp_all
    · refine w_ldc dX5_refusalUnless_18 kcX5_33 ?_
      refine w_goto (tgt := 25) dX5_refusalUnless_20 (by decide) ?_
      refine w_ireturn dX5_refusalUnless_25 rfl rfl ?_
      refine q_e ?_ hq
      simp_all
  · refine w_ldc dX5_refusalUnless_7 kcX5_32 ?_
    refine w_ireturn dX5_refusalUnless_9 rfl rfl ?_
    refine q_e ?_ hq
    simp_all

set_option maxRecDepth 20000 in
theorem sX9_waitsAt (hs : SK R N) {j z : Nat} {v : Int32} (hj : j < 60) (hz : z ≤ 60) (hq : Q (vI (bI (j < z ∧ I 83 j = v))) I L R N n) : CA sc 1 0 0 mX9_waitsAt [vR 9 0, vI (nI j), vI (nI z), vI v] I L R N n Q := by
  refine ca_in (al := [_, _, _, _]) rfl ?_
  refine w_iload_n dX9_waitsAt_0 rfl ?_
  refine w_iconst dX9_waitsAt_1 ic_0 ?_
  refine w_bipush dX9_waitsAt_2 bp_59 ?_
  refine c_S (as := [_, _, _]) (d' := 0) dX9_waitsAt_4 (Or.inl mlX9_86) moX9_within msX9_within rfl rfl rfl rfl rfl (by decide) (sX9_within ?_)
  refine w_ifB_eq (tgt := 29) dX9_waitsAt_7 (by decide) (fun c7 => ?_) (fun c7 => ?_)
  · exact absurd (in_to (m := 59) (by omega) (by omega)) c7
  · refine w_iload_n dX9_waitsAt_10 rfl ?_
    refine w_iload_n dX9_waitsAt_11 rfl ?_
    refine w_icmp_ge (tgt := 29) dX9_waitsAt_12 (by decide) (fun c12 => ?_) (fun c12 => ?_)
    · refine w_iconst dX9_waitsAt_29 ic_0 ?_
      refine w_ireturn dX9_waitsAt_30 rfl rfl ?_
      exact q_0 (fun q => absurd ((nI_leI (by omega) (by omega)).mp c12) (by omega)) hq
    · have hlt : j < z := Nat.lt_of_not_le (fun q => c12 (nI_le q (by omega)))
      refine w_aload_n dX9_waitsAt_15 rfl ?_
      refine w_getR dX9_waitsAt_16 flX9_63 rfl (hs.r (a := 0) (j := 9) (b := 83) 8 rfl) ?_
      refine w_iload_n dX9_waitsAt_19 rfl ?_
      refine w_iald dX9_waitsAt_20 rfl (hs.n (a := 83) (z := 60) 57 rfl) (by omega) ?_
      refine w_iload_n dX9_waitsAt_21 rfl ?_
      refine w_icmp_ne (tgt := 29) dX9_waitsAt_22 (by decide) (fun c22 => ?_) (fun c22 => ?_)
      · refine w_iconst dX9_waitsAt_29 ic_0 ?_
        refine w_ireturn dX9_waitsAt_30 rfl rfl ?_
        exact q_0 (fun q => c22 q.2) hq
      · refine w_iconst dX9_waitsAt_25 ic_1 ?_
        refine w_goto (tgt := 30) dX9_waitsAt_26 (by decide) ?_
        refine w_ireturn dX9_waitsAt_30 rfl rfl ?_
        exact q_1 ⟨hlt, c22⟩ hq

end
