section
variable {sc : SC} {I : HI} {L : HL} {R : HR} {N : HN} {n : Nat} {Q : HQ}
theorem SK.upR {R' : HR} {w : Nat} (hs : SK R N) (hw : w = 1 ∨ w = 30) (h : ∀ q, q ≠ w + 9 → R' q = R q) : SK R' N := by
  refine ⟨fun q hq => ?_, hs.2⟩
  have h1 : ∀ q ∈ skR, q.1 ≠ 10 ∧ q.1 ≠ 39 := by decide +kernel
  rw [h q.1 (by rcases hw with rfl | rfl; exact (h1 q hq).1; exact (h1 q hq).2)]
  exact hs.1 q hq
/-- a world w is as the world w2 was -/
def CP (I I' : HI) (w w2 : Nat) : Prop := (I' w 1 = I w2 1 ∧ I' w 3 = I w2 3 ∧ I' w 4 = I w2 4 ∧ I' w 5 = I w2 5 ∧ I' w 7 = I w2 7 ∧ I' (w + 11) 0 = I (w2 + 11) 0) ∧ (∀ s, s < 6 → ∀ q, q < 7 → I' (w + 2 + s) q = I (w2 + 2 + s) q) ∧ (∀ r, r < 8 → I' (w + 13 + 2 * r) 0 = I (w2 + 13 + 2 * r) 0 ∧ ∀ j, j < 3 → I' (w + 14 + 2 * r) j = I (w2 + 14 + 2 * r) j) ∧ ∀ j, j < 3 → I' (w + 10) j = I (w2 + 10) j
theorem WC.copy {I' : HI} {R' : HR} {w w2 : Nat} {V : VV} (hV : VO V) (hC : WC I R N n w2 V) (hw : w = 1 ∧ w2 = 30 ∨ w = 30 ∧ w2 = 1) (hA : ∀ q, (q < w ∨ w + 29 ≤ q) → I' q = I q) (hP : CP I I' w w2) (hR : ∀ q, q ≠ w + 9 → R' q = R q) (hT : ∀ t, t < 14 → R' (w + 9) t = R (w2 + 9) t) : WC I' R' N n w V ∧ WC I' R' N n w2 V := by
  have h6 := hV.1.2
  have h8 := hV.2.1.2
  have h14 := hV.2.2.1.2
  obtain ⟨⟨a1, a2, a3, a4, a5, a6⟩, b, c, d⟩ := hP
  obtain ⟨⟨x1, x2, x3, x4, x5, x6⟩, y, z, u, t⟩ := hC
  have tx : ∀ w', (w' = 1 ∨ w' = 30) → (∀ k, k < nTx V → R' (w' + 9) k = R (w2 + 9) k) → ∀ k, k < nTx V → textC I' R' N n w' V k := by
    intro w' hw' hr k hk
    obtain ⟨a, c1, c2, c3, c4, c5, c6, c7, c8⟩ := t k hk
    have hab : ∀ q, 146 ≤ q → I' q = I q := fun q hq => hA q (by omega)
    exact ⟨a, (hr k hk).trans c1, c2, c3, by rw [hR a (by omega)]; exact c4, c5, by rw [hab a c2]; exact c6, by rw [hab a c2]; exact c7, fun j hj => by rw [hab (a + 1) (by omega)]; exact c8 j hj⟩
  refine ⟨⟨⟨a1.trans x1, a2.trans x2, a3.trans x3, a4.trans x4, a5.trans x5, a6.trans x6⟩, fun s hs q hq => (b s (by omega) q hq).trans (y s hs q hq), fun r hr => ⟨(c r (by omega)).1.trans (z r hr).1, fun j hj => ((c r (by omega)).2 j hj).trans ((z r hr).2 j hj)⟩, fun k hk => (d k hk).trans (u k hk), tx w (by omega) (fun k hk => hT k (by omega))⟩, ?_⟩
  have e : ∀ q, w2 ≤ q → q < w2 + 29 → I' q = I q := fun q h1 h2 => hA q (by omega)
  refine ⟨⟨by rw [e w2 (by omega) (by omega)]; exact x1, by rw [e w2 (by omega) (by omega)]; exact x2, by rw [e w2 (by omega) (by omega)]; exact x3, by rw [e w2 (by omega) (by omega)]; exact x4, by rw [e w2 (by omega) (by omega)]; exact x5, by rw [e (w2 + 11) (by omega) (by omega)]; exact x6⟩, fun s hs q hq => by rw [e _ (by omega) (by omega)]; exact y s hs q hq, fun r hr => ⟨by rw [e _ (by omega) (by omega)]; exact (z r hr).1, fun j hj => by rw [e _ (by omega) (by omega)]; exact (z r hr).2 j hj⟩, fun k hk => by rw [e _ (by omega) (by omega)]; exact u k hk, tx w2 (by omega) (fun k hk => by rw [hR (w2 + 9) (by omega)])⟩

set_option maxRecDepth 20000 in
theorem lX8_become3 (hs : SK R N) {w w2 : Nat} (hw : w = 1 ∨ w = 30) (hw2 : w2 = 1 ∨ w2 = 30) (hne : w ≠ w2) (hq : ∀ (I' : HI) (R' : HR), (∀ q, q ≠ w → q ≠ w + 10 → q ≠ w + 11 → I' q = I q) → (∀ j, j ≠ 7 → I' w j = I w j) → I' w 7 = I w2 7 → (∀ j, j < 3 → I' (w + 10) j = I (w2 + 10) j) → I' (w + 11) 0 = I (w2 + 11) 0 → (∀ q, q ≠ w + 9 → R' q = R q) → (∀ t, t < 14 → R' (w + 9) t = R (w2 + 9) t) → Q vU I' L R' N n) : WP sc 2 0 0 mX8_become 96 [vR 8 w, vR 8 w2, vI (nI 0)] [] I L R N n Q := by
  have lp : ∀ (k j : Nat) (R1 : HR), j + k = 14 → (∀ q, q ≠ w + 9 → R1 q = R q) → (∀ t, t < j → R1 (w + 9) t = R (w2 + 9) t) → WP sc 2 0 0 mX8_become 96 [vR 8 w, vR 8 w2, vI (nI j)] [] I L R1 N n Q := by
    intro k
    induction k with
    | zero =>
      intro j R1 hj hR1 hT
      refine w_iload_n dX8_become_96 rfl ?_
      refine w_bipush dX8_become_97 bp_14 ?_
      refine w_icmp_ge (tgt := 120) dX8_become_99 (by decide) (fun c99 => ?_) (fun c99 => ?_)
      · have hs1 : SK R1 N := hs.upR hw hR1
        obtain rfl : j = 14 := by omega
        refine w_aload_n dX8_become_120 rfl ?_
        refine w_aload_n dX8_become_121 rfl ?_
        refine w_getI dX8_become_122 flX8_42 rfl ?_
        refine w_putI dX8_become_125 flX8_42 rfl rfl rfl rfl ?_
        refine w_aload_n dX8_become_128 rfl ?_
        refine w_getR dX8_become_129 flX8_45 rfl (hs1.wr (j := 8) (o := 10) hw2 12 40 rfl rfl) ?_
        refine w_iconst dX8_become_132 ic_0 ?_
        refine w_aload_n dX8_become_133 rfl ?_
        refine w_getR dX8_become_134 flX8_45 rfl (hs1.wr (j := 8) (o := 10) hw 12 40 rfl rfl) ?_
        refine w_iconst dX8_become_137 ic_0 ?_
        refine w_iconst dX8_become_138 ic_3 ?_
        refine w_acopy dX8_become_139 mlX8_60 nat_acopy st_acopy iiJ10 (by decide) (Nat.le_of_ble_eq_true rfl) (u := 0) (v := 0) (w := 3) rfl rfl rfl (by rw [hs.wn (o := 10) (z := 3) hw2 9 28 rfl rfl]; decide) (by rw [hs.wn (o := 10) (z := 3) hw 9 28 rfl rfl]; decide) (by rw [hs.wn (o := 10) (z := 3) hw2 9 28 rfl rfl]; decide) (by rw [hs.wn (o := 10) (z := 3) hw 9 28 rfl rfl]; decide) ?_
        refine w_aload_n dX8_become_142 rfl ?_
        refine w_getR dX8_become_143 flX8_52 rfl (hs1.wr (j := 9) (o := 11) hw 13 41 rfl rfl) ?_
        refine w_aload_n dX8_become_146 rfl ?_
        refine w_getR dX8_become_147 flX8_52 rfl (hs1.wr (j := 9) (o := 11) hw2 13 41 rfl rfl) ?_
        refine w_getI dX8_become_150 flX8_70 rfl ?_
        refine w_putI dX8_become_153 flX8_70 rfl rfl rfl rfl ?_
        refine w_return dX8_become_156 rfl ?_
        refine hq _ R1 (fun q a1 a2 a3 => by rw [va_up_ne _ _ a3, va_up_ne _ _ a2, va_up_ne _ _ a1]) (fun j hj => by rw [va_up_ne _ _ (by omega), va_up_ne _ _ (by omega), va_up_self, va_up_ne _ _ hj]) (by rw [va_up_ne _ _ (by omega), va_up_ne _ _ (by omega), va_up_self, va_up_self]) (fun j hj => ?_) ?_ hR1 hT
        · rw [va_up_ne _ _ (by omega), va_up_self, va_up_ne _ _ (by rcases hw with rfl | rfl <;> rcases hw2 with rfl | rfl <;> omega)]
          unfold va_cpy
          rw [if_pos (by omega)]
          congr 1
          omega
        · rw [va_up_self, va_up_self, va_up_ne _ _ (by rcases hw with rfl | rfl <;> rcases hw2 with rfl | rfl <;> omega), va_up_ne _ _ (by rcases hw with rfl | rfl <;> rcases hw2 with rfl | rfl <;> omega)]
      · exact absurd (nI_le (a := 14) (by omega) (by omega)) c99
    | succ k ih =>
      intro j R1 hj hR1 hT
      refine w_iload_n dX8_become_96 rfl ?_
      refine w_bipush dX8_become_97 bp_14 ?_
      refine w_icmp_ge (tgt := 120) dX8_become_99 (by decide) (fun c99 => ?_) (fun c99 => ?_)
      · exact absurd ((nI_leI (a := 14) (by omega) (by omega)).mp c99) (by omega)
      · have hs1 : SK R1 N := hs.upR hw hR1
        refine w_aload_n dX8_become_102 rfl ?_
        refine w_getR dX8_become_103 flX8_38 rfl (hs1.wr (j := 6) (o := 9) hw 11 39 rfl rfl) ?_
        refine w_iload_n dX8_become_106 rfl ?_
        refine w_aload_n dX8_become_107 rfl ?_
        refine w_getR dX8_become_108 flX8_38 rfl (hs1.wr (j := 6) (o := 9) hw2 11 39 rfl rfl) ?_
        refine w_iload_n dX8_become_111 rfl ?_
        refine w_aaldQ dX8_become_112 (by decide) (by decide) rfl (hs.wn (o := 9) (z := 14) hw2 8 27 rfl rfl) (by omega) ?_
        refine w_aast (t := 17) (r := (R1 (w2 + 9) j)) dX8_become_113 (by decide) (by decide) rfl (hs.wn (o := 9) (z := 14) hw 8 27 rfl rfl) (by omega) ?_
        refine w_iinc (al' := [_, _, _]) dX8_become_114 rfl rfl ic_1 rfl ?_
        refine w_goto (tgt := 96) dX8_become_117 (by decide) ?_
        simp only [nI_1]
        refine ih (j + 1) _ (by omega) (fun q h => (va_up_ne _ _ h).trans (hR1 q h)) (fun t ht => ?_)
        rw [va_up_self]
        by_cases e : t = j
        · subst e; rw [va_up_self, hR1 (w2 + 9) (by rcases hw with rfl | rfl <;> rcases hw2 with rfl | rfl <;> omega)]
        · rw [va_up_ne _ _ e]; exact hT t (by omega)
  exact lp 14 0 R rfl (fun _ _ => rfl) (fun t ht => absurd ht (Nat.not_lt_zero t))

set_option maxRecDepth 20000 in
theorem lX8_become2 (hs : SK R N) {w w2 : Nat} (hw : w = 1 ∨ w = 30) (hw2 : w2 = 1 ∨ w2 = 30) (hne : w ≠ w2) (hq : ∀ (I' : HI) (R' : HR), (∀ q, (q < w ∨ w + 29 ≤ q) → I' q = I q) → CP I I' w w2 → (∀ q, q ≠ w + 9 → R' q = R q) → (∀ t, t < 14 → R' (w + 9) t = R (w2 + 9) t) → Q vU I' L R' N n) {I0 : HI} (hI0 : (∀ q, (q < w ∨ w + 29 ≤ q) → I0 q = I q)) (hg0 : (∀ s, s < 6 → ∀ q, q < 7 → I0 (w + 2 + s) q = I (w2 + 2 + s) q)) (h01 : I0 w 1 = I w2 1) : WP sc 2 0 0 mX8_become 43 [vR 8 w, vR 8 w2, vI (nI 0)] [] I0 L R N n Q := by
  have lp : ∀ (k j : Nat) (I1 : HI), j + k = 8 → (∀ q, q < w + 13 ∨ w + 29 ≤ q → I1 q = I0 q) → (∀ r, r < j → I1 (w + 13 + 2 * r) 0 = I (w2 + 13 + 2 * r) 0 ∧ ∀ j, j < 3 → I1 (w + 14 + 2 * r) j = I (w2 + 14 + 2 * r) j) → WP sc 2 0 0 mX8_become 43 [vR 8 w, vR 8 w2, vI (nI j)] [] I1 L R N n Q := by
    intro k
    induction k with
    | zero =>
      intro j I1 hj hI1 hr1
      refine w_iload_n dX8_become_43 rfl ?_
      refine w_bipush dX8_become_44 bp_8 ?_
      refine w_icmp_ge (tgt := 70) dX8_become_46 (by decide) (fun c46 => ?_) (fun c46 => ?_)
      · obtain rfl : j = 8 := by omega
        have e2 : I1 w2 = I w2 := by rw [hI1 w2 (by rcases hw with rfl | rfl <;> rcases hw2 with rfl | rfl <;> omega), hI0 w2 (by rcases hw with rfl | rfl <;> rcases hw2 with rfl | rfl <;> omega)]
        refine w_aload_n dX8_become_70 rfl ?_
        refine w_aload_n dX8_become_71 rfl ?_
        refine w_getI dX8_become_72 flX8_26 rfl ?_
        refine w_top (y := I w2 3) (by rw [e2]) ?_
        refine w_putI dX8_become_75 flX8_26 rfl rfl rfl rfl ?_
        refine w_st (fun I2 hA2 hB2 hC2 => ?_)
        refine w_aload_n dX8_become_78 rfl ?_
        refine w_aload_n dX8_become_79 rfl ?_
        refine w_getI dX8_become_80 flX8_30 rfl ?_
        refine w_top (y := I w2 4) (by rw [hA2 w2 (by omega), e2]) ?_
        refine w_putI dX8_become_83 flX8_30 rfl rfl rfl rfl ?_
        refine w_st (fun I3 hA3 hB3 hC3 => ?_)
        refine w_aload_n dX8_become_86 rfl ?_
        refine w_aload_n dX8_become_87 rfl ?_
        refine w_getI dX8_become_88 flX8_33 rfl ?_
        refine w_top (y := I w2 5) (by rw [hA3 w2 (by omega), hA2 w2 (by omega), e2]) ?_
        refine w_putI dX8_become_91 flX8_33 rfl rfl rfl rfl ?_
        refine w_st (fun I4 hA4 hB4 hC4 => ?_)
        refine w_iconst dX8_become_94 ic_0 ?_
        refine w_istore_n (al' := [_, _, _]) dX8_become_95 rfl rfl rfl ?_
        refine lX8_become3 hs hw hw2 hne (fun I' R' a1 a2 a3 a4 a5 a6 a7 => ?_)
        have eo : ∀ q, q ≠ w → I4 q = I1 q := fun q h => (hA4 q h).trans ((hA3 q h).trans (hA2 q h))
        refine hq I' R' (fun q h => ?_) ⟨⟨?_, ?_, ?_, ?_, ?_, ?_⟩, fun s hs9 q hq9 => ?_, fun r hr => ?_, fun j hj => ?_⟩ a6 a7
        · rw [a1 q (by omega) (by omega) (by omega), eo q (by omega), hI1 q (by omega)]; exact hI0 q h
        · rw [a2 1 (by decide), hB4 1 (by decide), hB3 1 (by decide), hB2 1 (by decide), hI1 w (by omega)]; exact h01
        · rw [a2 3 (by decide), hB4 3 (by decide), hB3 3 (by decide)]; exact hC2
        · rw [a2 4 (by decide), hB4 4 (by decide)]; exact hC3
        · rw [a2 5 (by decide)]; exact hC4
        · rw [a3, eo w2 (by omega), e2]
        · rw [a5, eo (w2 + 11) (by rcases hw with rfl | rfl <;> rcases hw2 with rfl | rfl <;> omega), hI1 _ (by rcases hw with rfl | rfl <;> rcases hw2 with rfl | rfl <;> omega), hI0 _ (by rcases hw with rfl | rfl <;> rcases hw2 with rfl | rfl <;> omega)]
        · rw [a1 _ (by omega) (by omega) (by omega), eo _ (by omega), hI1 _ (by omega)]; exact hg0 s hs9 q hq9
        · rw [a1 _ (by omega) (by omega) (by omega), eo _ (by omega), a1 _ (by omega) (by omega) (by omega), eo _ (by omega)]; exact hr1 r hr
        · rw [a4 j hj, eo (w2 + 10) (by rcases hw with rfl | rfl <;> rcases hw2 with rfl | rfl <;> omega), hI1 _ (by rcases hw with rfl | rfl <;> rcases hw2 with rfl | rfl <;> omega), hI0 _ (by rcases hw with rfl | rfl <;> rcases hw2 with rfl | rfl <;> omega)]
      · exact absurd (nI_le (a := 8) (by omega) (by omega)) c46
    | succ k ih =>
      intro j I1 hj hI1 hr1
      refine w_iload_n dX8_become_43 rfl ?_
      refine w_bipush dX8_become_44 bp_8 ?_
      refine w_icmp_ge (tgt := 70) dX8_become_46 (by decide) (fun c46 => ?_) (fun c46 => ?_)
      · exact absurd ((nI_leI (a := 8) (by omega) (by omega)).mp c46) (by omega)
      · have hra := hs.rules hw (show j < 8 by omega)
        have hrb := hs.rules hw2 (show j < 8 by omega)
        refine w_aload_n dX8_become_49 rfl ?_
        refine w_getR dX8_become_50 flX8_22 rfl (hs.wr (j := 2) (o := 8) hw 10 38 rfl rfl) ?_
        refine w_iload_n dX8_become_53 rfl ?_
        refine w_aald dX8_become_54 (by decide) (by decide) rfl (hs.wn (o := 8) (z := 8) hw 7 26 rfl rfl) (by omega) hra.1 ?_
        refine w_aload_n dX8_become_55 rfl ?_
        refine w_getR dX8_become_56 flX8_22 rfl (hs.wr (j := 2) (o := 8) hw2 10 38 rfl rfl) ?_
        refine w_iload_n dX8_become_59 rfl ?_
        refine w_aald dX8_become_60 (by decide) (by decide) rfl (hs.wn (o := 8) (z := 8) hw2 7 26 rfl rfl) (by omega) hrb.1 ?_
        refine c_Vv (t := 3) (as := [_]) (d' := 1) dX8_become_61 mlX8_66 moX3_become mvX3_become ⟨rfl, rfl⟩ rfl rfl rfl rfl rfl (by decide) (sX3_become hra.2.1 hra.2.2 hrb.2.1 hrb.2.2 (by rcases hw with rfl | rfl <;> rcases hw2 with rfl | rfl <;> omega) (by omega) (fun I2 hI2 hk2 hp2 => ?_))
        refine w_iinc (al' := [_, _, _]) dX8_become_64 rfl rfl ic_1 rfl ?_
        refine w_goto (tgt := 43) dX8_become_67 (by decide) ?_
        simp only [nI_1]
        refine ih (j + 1) I2 (by omega) (fun q h => (hI2 q (by omega) (by omega)).trans (hI1 q h)) (fun r hr => ?_)
        by_cases e : r = j
        · subst e
          refine ⟨hk2.trans ?_, fun i hi => (hp2 i hi).trans ?_⟩
          · rw [hI1 _ (by rcases hw with rfl | rfl <;> rcases hw2 with rfl | rfl <;> omega), hI0 _ (by rcases hw with rfl | rfl <;> rcases hw2 with rfl | rfl <;> omega)]
          · rw [hI1 _ (by rcases hw with rfl | rfl <;> rcases hw2 with rfl | rfl <;> omega), hI0 _ (by rcases hw with rfl | rfl <;> rcases hw2 with rfl | rfl <;> omega)]
        · rw [hI2 _ (by omega) (by omega), hI2 _ (by omega) (by omega)]
          exact hr1 r (by omega)
  exact lp 8 0 I0 rfl (fun _ _ => rfl) (fun t ht => absurd ht (Nat.not_lt_zero t))

set_option maxRecDepth 20000 in
theorem sX8_become (hs : SK R N) {w w2 : Nat} (hw : w = 1 ∨ w = 30) (hw2 : w2 = 1 ∨ w2 = 30) (hne : w ≠ w2) (hq : ∀ (I' : HI) (R' : HR), (∀ q, (q < w ∨ w + 29 ≤ q) → I' q = I q) → CP I I' w w2 → (∀ q, q ≠ w + 9 → R' q = R q) → (∀ t, t < 14 → R' (w + 9) t = R (w2 + 9) t) → Q vU I' L R' N n) : CA sc 2 0 0 mX8_become [vR 8 w, vR 8 w2] I L R N n Q := by
  have lp : ∀ (k j : Nat) (I1 : HI), j + k = 6 → (∀ q, q < w + 2 ∨ w + 8 ≤ q → I1 q = I q) → (∀ s, s < j → ∀ q, q < 7 → I1 (w + 2 + s) q = I (w2 + 2 + s) q) → WP sc 2 0 0 mX8_become 2 [vR 8 w, vR 8 w2, vI (nI j)] [] I1 L R N n Q := by
    intro k
    induction k with
    | zero =>
      intro j I1 hj hI1 hg1
      refine w_iload_n dX8_become_2 rfl ?_
      refine w_bipush dX8_become_3 bp_6 ?_
      refine w_icmp_ge (tgt := 33) dX8_become_5 (by decide) (fun c5 => ?_) (fun c5 => ?_)
      · obtain rfl : j = 6 := by omega
        refine w_aload_n dX8_become_33 rfl ?_
        refine w_aload_n dX8_become_34 rfl ?_
        refine w_getI dX8_become_35 flX8_16 rfl ?_
        refine w_top (y := I w2 1) (by rw [hI1 w2 (by rcases hw with rfl | rfl <;> rcases hw2 with rfl | rfl <;> omega)]) ?_
        refine w_putI dX8_become_38 flX8_16 rfl rfl rfl rfl ?_
        refine w_st (fun I2 hA2 hB2 hC2 => ?_)
        refine w_iconst dX8_become_41 ic_0 ?_
        refine w_istore_n (al' := [_, _, _]) dX8_become_42 rfl rfl rfl ?_
        exact lX8_become2 hs hw hw2 hne hq (fun q h => (hA2 q (by omega)).trans (hI1 q (by omega))) (fun s hs9 q hq9 => by rw [hA2 _ (by omega)]; exact hg1 s hs9 q hq9) hC2
      · exact absurd (nI_le (a := 6) (by omega) (by omega)) c5
    | succ k ih =>
      intro j I1 hj hI1 hg1
      refine w_iload_n dX8_become_2 rfl ?_
      refine w_bipush dX8_become_3 bp_6 ?_
      refine w_icmp_ge (tgt := 33) dX8_become_5 (by decide) (fun c5 => ?_) (fun c5 => ?_)
      · exact absurd ((nI_leI (a := 6) (by omega) (by omega)).mp c5) (by omega)
      · have hra := hs.rows hw (show j < 6 by omega)
        have hrb := hs.rows hw2 (show j < 6 by omega)
        refine w_aload_n dX8_become_8 rfl ?_
        refine w_getR dX8_become_9 flX8_11 rfl (hs.wr (j := 0) (o := 1) hw2 9 37 rfl rfl) ?_
        refine w_iload_n dX8_become_12 rfl ?_
        refine w_aaldI dX8_become_13 rfl (hs.wn (o := 1) (z := 6) hw2 0 19 rfl rfl) (by omega) hrb.1 ?_
        refine w_iconst dX8_become_14 ic_0 ?_
        refine w_aload_n dX8_become_15 rfl ?_
        refine w_getR dX8_become_16 flX8_11 rfl (hs.wr (j := 0) (o := 1) hw 9 37 rfl rfl) ?_
        refine w_iload_n dX8_become_19 rfl ?_
        refine w_aaldI dX8_become_20 rfl (hs.wn (o := 1) (z := 6) hw 0 19 rfl rfl) (by omega) hra.1 ?_
        refine w_iconst dX8_become_21 ic_0 ?_
        refine w_bipush dX8_become_22 bp_7 ?_
        refine w_acopy dX8_become_24 mlX8_60 nat_acopy st_acopy iiJ10 (by decide) (Nat.le_of_ble_eq_true rfl) (u := 0) (v := 0) (w := 7) rfl rfl rfl (by omega) (by omega) (by omega) (by omega) ?_
        refine w_iinc (al' := [_, _, _]) dX8_become_27 rfl rfl ic_1 rfl ?_
        refine w_goto (tgt := 2) dX8_become_30 (by decide) ?_
        simp only [nI_1]
        refine ih (j + 1) _ (by omega) (fun q h => (va_up_ne _ _ (by omega)).trans (hI1 q h)) (fun s hs9 q hq9 => ?_)
        by_cases e : s = j
        · subst e
          rw [va_up_self, hI1 (w2 + 2 + s) (by rcases hw with rfl | rfl <;> rcases hw2 with rfl | rfl <;> omega)]
          unfold va_cpy
          rw [if_pos (by omega)]
          congr 1
          omega
        · rw [va_up_ne _ _ (by omega)]; exact hg1 s (by omega) q hq9
  refine ca_in (al := [_, _, _]) rfl ?_
  refine w_iconst dX8_become_0 ic_0 ?_
  refine w_istore_n (al' := [_, _, _]) dX8_become_1 rfl rfl rfl ?_
  exact lp 6 0 I rfl (fun _ _ => rfl) (fun t ht => absurd ht (Nat.not_lt_zero t))

set_option maxRecDepth 20000 in
theorem sX10_copyAll {a b : Nat} (hab : a ≠ b) (ha : N a = 1452) (hb : N b = 1452) (hq : ∀ I' : HI, (∀ q, q ≠ b → I' q = I q) → (∀ j, j < 1452 → I' b j = I a j) → Q vU I' L R N n) : CA sc 0 0 0 mX10_copyAll [vR 12 a, vR 12 b] I L R N n Q := by
  have lp : ∀ (k j : Nat) (I1 : HI), j + k = 1452 → (∀ q, q ≠ b → I1 q = I q) → (∀ i, i < j → I1 b i = I a i) → WP sc 0 0 0 mX10_copyAll 2 [vR 12 a, vR 12 b, vI (nI j)] [] I1 L R N n Q := by
    intro k
    induction k with
    | zero =>
      intro j I1 hj hI1 hf
      refine w_iload_n dX10_copyAll_2 rfl ?_
      refine w_sipush dX10_copyAll_3 sp_1452 ?_
      refine w_icmp_ge (tgt := 21) dX10_copyAll_6 (by decide) (fun c6 => ?_) (fun c6 => ?_)
      · refine w_return dX10_copyAll_21 rfl ?_
        exact hq I1 hI1 (fun i hi => hf i (by omega))
      · exact absurd (nI_le (a := 1452) (by omega) (by omega)) c6
    | succ k ih =>
      intro j I1 hj hI1 hf
      refine w_iload_n dX10_copyAll_2 rfl ?_
      refine w_sipush dX10_copyAll_3 sp_1452 ?_
      refine w_icmp_ge (tgt := 21) dX10_copyAll_6 (by decide) (fun c6 => ?_) (fun c6 => ?_)
      · exact absurd ((nI_leI (a := 1452) (by omega) (by omega)).mp c6) (by omega)
      · refine w_aload_n dX10_copyAll_9 rfl ?_
        refine w_iload_n dX10_copyAll_10 rfl ?_
        refine w_aload_n dX10_copyAll_11 rfl ?_
        refine w_iload_n dX10_copyAll_12 rfl ?_
        refine w_iald dX10_copyAll_13 rfl ha (by omega) ?_
        refine w_iast dX10_copyAll_14 rfl hb (by omega) ?_
        refine w_iinc (al' := [_, _, _]) dX10_copyAll_15 rfl rfl ic_1 rfl ?_
        refine w_goto (tgt := 2) dX10_copyAll_18 (by decide) ?_
        simp only [nI_1]
        refine ih (j + 1) _ (by omega) (fun q h => (va_up_ne _ _ h).trans (hI1 q h)) (fun i hi => ?_)
        rw [va_up_self]
        by_cases e : i = j
        · subst e; rw [va_up_self, hI1 a hab]
        · rw [va_up_ne _ _ e]; exact hf i (by omega)
  refine ca_in (al := [_, _, _]) rfl ?_
  refine w_iconst dX10_copyAll_0 ic_0 ?_
  refine w_istore_n (al' := [_, _, _]) dX10_copyAll_1 rfl rfl rfl ?_
  exact lp 1452 0 I rfl (fun _ _ => rfl) (fun i hi => absurd hi (Nat.not_lt_zero i))

end
