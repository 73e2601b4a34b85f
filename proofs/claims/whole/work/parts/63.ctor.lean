/-! What the constructors make. -/
def kDI (I : HI) (R : HR) (N : HN) (a : Nat) : Prop := (I a 0 = 1)
theorem kDI.keep {I I' : HI} {R R' : HR} {N N' : HN} {a : Nat} (h : kDI I R N a) (hk : ∀ q, a ≤ q → q < a + 1 → I' q = I q ∧ R' q = R q ∧ N' q = N q) : kDI I' R' N' a := by
  show I' a 0 = 1
  rw [(hk a (by omega) (by omega)).1]
  exact h
def kRU (I : HI) (R : HR) (N : HN) (a : Nat) : Prop := (R a 1 = some (a + 1)) ∧ (N (a + 1) = 3)
theorem kRU.keep {I I' : HI} {R R' : HR} {N N' : HN} {a : Nat} (h : kRU I R N a) (hk : ∀ q, a ≤ q → q < a + 2 → I' q = I q ∧ R' q = R q ∧ N' q = N q) : kRU I' R' N' a := by
  obtain ⟨f0, f1⟩ := h
  exact ⟨by rw [(hk a (by omega) (by omega)).2.1]; exact f0, by rw [(hk (a + 1) (by omega) (by omega)).2.2]; exact f1⟩
def kSH (I : HI) (R : HR) (N : HN) (a : Nat) : Prop := (R a 2 = some (a + 1)) ∧ (N (a + 1) = 24) ∧ (I a 0 = -1) ∧ (I a 1 = 0) ∧ (∀ j, I (a + 1) j = 0)
theorem kSH.keep {I I' : HI} {R R' : HR} {N N' : HN} {a : Nat} (h : kSH I R N a) (hk : ∀ q, a ≤ q → q < a + 2 → I' q = I q ∧ R' q = R q ∧ N' q = N q) : kSH I' R' N' a := by
  obtain ⟨f0, f1, f2, f3, f4⟩ := h
  exact ⟨by rw [(hk a (by omega) (by omega)).2.1]; exact f0, by rw [(hk (a + 1) (by omega) (by omega)).2.2]; exact f1, by rw [(hk a (by omega) (by omega)).1]; exact f2, by rw [(hk a (by omega) (by omega)).1]; exact f3, fun j => by rw [(hk (a + 1) (by omega) (by omega)).1]; exact f4 j⟩
def kTA (I : HI) (R : HR) (N : HN) (a : Nat) : Prop := (R a 0 = some (a + 1)) ∧ (N (a + 1) = 96) ∧ (I a 1 = 0)
theorem kTA.keep {I I' : HI} {R R' : HR} {N N' : HN} {a : Nat} (h : kTA I R N a) (hk : ∀ q, a ≤ q → q < a + 2 → I' q = I q ∧ R' q = R q ∧ N' q = N q) : kTA I' R' N' a := by
  obtain ⟨f0, f1, f2⟩ := h
  exact ⟨by rw [(hk a (by omega) (by omega)).2.1]; exact f0, by rw [(hk (a + 1) (by omega) (by omega)).2.2]; exact f1, by rw [(hk a (by omega) (by omega)).1]; exact f2⟩
def kPA (I : HI) (R : HR) (N : HN) (a : Nat) : Prop := (R a 0 = some (a + 1)) ∧ (kTA I R N (a + 1)) ∧ (R a 1 = some (a + 3)) ∧ (N (a + 3) = 96)
theorem kPA.keep {I I' : HI} {R R' : HR} {N N' : HN} {a : Nat} (h : kPA I R N a) (hk : ∀ q, a ≤ q → q < a + 4 → I' q = I q ∧ R' q = R q ∧ N' q = N q) : kPA I' R' N' a := by
  obtain ⟨f0, f1, f2, f3⟩ := h
  exact ⟨by rw [(hk a (by omega) (by omega)).2.1]; exact f0, f1.keep (fun q h1 h2 => hk q (by omega) (by omega)), by rw [(hk a (by omega) (by omega)).2.1]; exact f2, by rw [(hk (a + 3) (by omega) (by omega)).2.2]; exact f3⟩
def kSL (I : HI) (R : HR) (N : HN) (a : Nat) : Prop := (I a 0 = 0) ∧ (R a 1 = some (a + 1)) ∧ (kRU I R N (a + 1)) ∧ (R a 2 = some (a + 3)) ∧ (kSH I R N (a + 3))
theorem kSL.keep {I I' : HI} {R R' : HR} {N N' : HN} {a : Nat} (h : kSL I R N a) (hk : ∀ q, a ≤ q → q < a + 5 → I' q = I q ∧ R' q = R q ∧ N' q = N q) : kSL I' R' N' a := by
  obtain ⟨f0, f1, f2, f3, f4⟩ := h
  exact ⟨by rw [(hk a (by omega) (by omega)).1]; exact f0, by rw [(hk a (by omega) (by omega)).2.1]; exact f1, f2.keep (fun q h1 h2 => hk q (by omega) (by omega)), by rw [(hk a (by omega) (by omega)).2.1]; exact f3, f4.keep (fun q h1 h2 => hk q (by omega) (by omega))⟩
def kPL (I : HI) (R : HR) (N : HN) (a : Nat) : Prop := (R a 0 = some (a + 1)) ∧ (N (a + 1) = 31) ∧ (R a 1 = some (a + 2)) ∧ (N (a + 2) = 6) ∧ (R (a + 2) 0 = some (a + 3)) ∧ (R (a + 2) 1 = some (a + 4)) ∧ (R (a + 2) 2 = some (a + 5)) ∧ (R (a + 2) 3 = some (a + 6)) ∧ (R (a + 2) 4 = some (a + 7)) ∧ (R (a + 2) 5 = some (a + 8)) ∧ (N (a + 3) = 31) ∧ (N (a + 4) = 31) ∧ (N (a + 5) = 31) ∧ (N (a + 6) = 31) ∧ (N (a + 7) = 31) ∧ (N (a + 8) = 31) ∧ (R a 2 = some (a + 9)) ∧ (N (a + 9) = 31) ∧ (R a 3 = some (a + 10)) ∧ (N (a + 10) = 31) ∧ (R a 4 = some (a + 11)) ∧ (N (a + 11) = 31) ∧ (R a 5 = some (a + 12)) ∧ (N (a + 12) = 31) ∧ (R a 6 = some (a + 13)) ∧ (N (a + 13) = 31) ∧ (R a 7 = some (a + 14)) ∧ (N (a + 14) = 31)
theorem kPL.keep {I I' : HI} {R R' : HR} {N N' : HN} {a : Nat} (h : kPL I R N a) (hk : ∀ q, a ≤ q → q < a + 15 → I' q = I q ∧ R' q = R q ∧ N' q = N q) : kPL I' R' N' a := by
  obtain ⟨f0, f1, f2, f3, f4, f5, f6, f7, f8, f9, f10, f11, f12, f13, f14, f15, f16, f17, f18, f19, f20, f21, f22, f23, f24, f25, f26, f27⟩ := h
  exact ⟨by rw [(hk a (by omega) (by omega)).2.1]; exact f0, by rw [(hk (a + 1) (by omega) (by omega)).2.2]; exact f1, by rw [(hk a (by omega) (by omega)).2.1]; exact f2, by rw [(hk (a + 2) (by omega) (by omega)).2.2]; exact f3, by rw [(hk (a + 2) (by omega) (by omega)).2.1]; exact f4, by rw [(hk (a + 2) (by omega) (by omega)).2.1]; exact f5, by rw [(hk (a + 2) (by omega) (by omega)).2.1]; exact f6, by rw [(hk (a + 2) (by omega) (by omega)).2.1]; exact f7, by rw [(hk (a + 2) (by omega) (by omega)).2.1]; exact f8, by rw [(hk (a + 2) (by omega) (by omega)).2.1]; exact f9, by rw [(hk (a + 3) (by omega) (by omega)).2.2]; exact f10, by rw [(hk (a + 4) (by omega) (by omega)).2.2]; exact f11, by rw [(hk (a + 5) (by omega) (by omega)).2.2]; exact f12, by rw [(hk (a + 6) (by omega) (by omega)).2.2]; exact f13, by rw [(hk (a + 7) (by omega) (by omega)).2.2]; exact f14, by rw [(hk (a + 8) (by omega) (by omega)).2.2]; exact f15, by rw [(hk a (by omega) (by omega)).2.1]; exact f16, by rw [(hk (a + 9) (by omega) (by omega)).2.2]; exact f17, by rw [(hk a (by omega) (by omega)).2.1]; exact f18, by rw [(hk (a + 10) (by omega) (by omega)).2.2]; exact f19, by rw [(hk a (by omega) (by omega)).2.1]; exact f20, by rw [(hk (a + 11) (by omega) (by omega)).2.2]; exact f21, by rw [(hk a (by omega) (by omega)).2.1]; exact f22, by rw [(hk (a + 12) (by omega) (by omega)).2.2]; exact f23, by rw [(hk a (by omega) (by omega)).2.1]; exact f24, by rw [(hk (a + 13) (by omega) (by omega)).2.2]; exact f25, by rw [(hk a (by omega) (by omega)).2.1]; exact f26, by rw [(hk (a + 14) (by omega) (by omega)).2.2]; exact f27⟩
def kWO (I : HI) (R : HR) (N : HN) (a : Nat) : Prop := (R a 0 = some (a + 1)) ∧ (N (a + 1) = 6) ∧ (R (a + 1) 0 = some (a + 2)) ∧ (R (a + 1) 1 = some (a + 3)) ∧ (R (a + 1) 2 = some (a + 4)) ∧ (R (a + 1) 3 = some (a + 5)) ∧ (R (a + 1) 4 = some (a + 6)) ∧ (R (a + 1) 5 = some (a + 7)) ∧ (N (a + 2) = 7) ∧ (N (a + 3) = 7) ∧ (N (a + 4) = 7) ∧ (N (a + 5) = 7) ∧ (N (a + 6) = 7) ∧ (N (a + 7) = 7) ∧ (R a 2 = some (a + 8)) ∧ (N (a + 8) = 8) ∧ (R a 6 = some (a + 9)) ∧ (N (a + 9) = 14) ∧ (R a 8 = some (a + 10)) ∧ (N (a + 10) = 3) ∧ (R a 9 = some (a + 11)) ∧ (R a 10 = some (a + 12)) ∧ (N (a + 12) = 96) ∧ (∀ r, r < 8 → R (a + 8) r = some (a + 13 + 2 * r) ∧ kRU I R N (a + 13 + 2 * r)) ∧ (I a 1 = 0) ∧ (I a 3 = 0) ∧ (I a 4 = -1000000005) ∧ (I a 5 = -1000000005) ∧ (I a 7 = 0) ∧ (I (a + 10) 0 = -1000000005) ∧ (I (a + 10) 1 = -1000000005) ∧ (I (a + 10) 2 = -1000000005) ∧ (I (a + 11) 0 = 1)
theorem kWO.keep {I I' : HI} {R R' : HR} {N N' : HN} {a : Nat} (h : kWO I R N a) (hk : ∀ q, a ≤ q → q < a + 29 → I' q = I q ∧ R' q = R q ∧ N' q = N q) : kWO I' R' N' a := by
  obtain ⟨f0, f1, f2, f3, f4, f5, f6, f7, f8, f9, f10, f11, f12, f13, f14, f15, f16, f17, f18, f19, f20, f21, f22, f23, f24, f25, f26, f27, f28, f29, f30, f31, f32⟩ := h
  exact ⟨by rw [(hk a (by omega) (by omega)).2.1]; exact f0, by rw [(hk (a + 1) (by omega) (by omega)).2.2]; exact f1, by rw [(hk (a + 1) (by omega) (by omega)).2.1]; exact f2, by rw [(hk (a + 1) (by omega) (by omega)).2.1]; exact f3, by rw [(hk (a + 1) (by omega) (by omega)).2.1]; exact f4, by rw [(hk (a + 1) (by omega) (by omega)).2.1]; exact f5, by rw [(hk (a + 1) (by omega) (by omega)).2.1]; exact f6, by rw [(hk (a + 1) (by omega) (by omega)).2.1]; exact f7, by rw [(hk (a + 2) (by omega) (by omega)).2.2]; exact f8, by rw [(hk (a + 3) (by omega) (by omega)).2.2]; exact f9, by rw [(hk (a + 4) (by omega) (by omega)).2.2]; exact f10, by rw [(hk (a + 5) (by omega) (by omega)).2.2]; exact f11, by rw [(hk (a + 6) (by omega) (by omega)).2.2]; exact f12, by rw [(hk (a + 7) (by omega) (by omega)).2.2]; exact f13, by rw [(hk a (by omega) (by omega)).2.1]; exact f14, by rw [(hk (a + 8) (by omega) (by omega)).2.2]; exact f15, by rw [(hk a (by omega) (by omega)).2.1]; exact f16, by rw [(hk (a + 9) (by omega) (by omega)).2.2]; exact f17, by rw [(hk a (by omega) (by omega)).2.1]; exact f18, by rw [(hk (a + 10) (by omega) (by omega)).2.2]; exact f19, by rw [(hk a (by omega) (by omega)).2.1]; exact f20, by rw [(hk a (by omega) (by omega)).2.1]; exact f21, by rw [(hk (a + 12) (by omega) (by omega)).2.2]; exact f22, fun r hr => ⟨by rw [(hk (a + 8) (by omega) (by omega)).2.1]; exact (f23 r hr).1, (f23 r hr).2.keep (fun q h1 h2 => hk q (by omega) (by omega))⟩, by rw [(hk a (by omega) (by omega)).1]; exact f24, by rw [(hk a (by omega) (by omega)).1]; exact f25, by rw [(hk a (by omega) (by omega)).1]; exact f26, by rw [(hk a (by omega) (by omega)).1]; exact f27, by rw [(hk a (by omega) (by omega)).1]; exact f28, by rw [(hk (a + 10) (by omega) (by omega)).1]; exact f29, by rw [(hk (a + 10) (by omega) (by omega)).1]; exact f30, by rw [(hk (a + 10) (by omega) (by omega)).1]; exact f31, by rw [(hk (a + 11) (by omega) (by omega)).1]; exact f32⟩
section
variable {sc : SC} {I : HI} {L : HL} {R : HR} {N : HN} {n : Nat} {Q : HQ}
set_option maxRecDepth 20000 in
theorem sX0_init {a : Nat} (hq : ∀ (I' : HI) (L' : HL) (R' : HR) (N' : HN), (∀ q, q < a → I' q = I q) → (∀ q, q < a → R' q = R q) → (∀ q, q < a → N' q = N q) → kDI I' R' N' a → Q vU I' L' R' N' (a + 1)) : CA sc 1 0 0 mX0_init [vR 0 a] I L R N (a + 1) Q := by
  refine ca_in (al := [_]) rfl ?_
  refine w_aload_n dX0_init_0 rfl ?_
  refine w_objInit dX0_init_1 mlX0_1 im_obj co_obj (by decide) (Nat.le_of_ble_eq_true rfl) ?_
  refine w_aload_n dX0_init_4 rfl ?_
  refine w_iconst dX0_init_5 ic_1 ?_
  refine w_putI dX0_init_6 flX0_7 rfl rfl rfl rfl ?_
  refine w_st (fun J0 jA0 jB0 jC0 => ?_)
  refine w_return dX0_init_9 rfl ?_
  exact hq J0 _ R N (fun q hlt => by rw [jA0 (q) (by omega)]) (fun _ _ => rfl) (fun _ _ => rfl) (jC0)

set_option maxRecDepth 20000 in
theorem sX3_init {a : Nat} (hq : ∀ (I' : HI) (L' : HL) (R' : HR) (N' : HN), (∀ q, q < a → I' q = I q) → (∀ q, q < a → R' q = R q) → (∀ q, q < a → N' q = N q) → kRU I' R' N' a → Q vU I' L' R' N' (a + 2)) : CA sc 1 1 3 mX3_init [vR 3 a] I L R N (a + 1) Q := by
  refine ca_in (al := [_]) rfl ?_
  refine w_aload_n dX3_init_0 rfl ?_
  refine w_objInit dX3_init_1 mlX3_3 im_obj co_obj (by decide) (Nat.le_of_ble_eq_true rfl) ?_
  refine w_aload_n dX3_init_4 rfl ?_
  refine w_iconst dX3_init_5 ic_0 ?_
  refine w_putI dX3_init_6 flX3_9 rfl rfl rfl rfl ?_
  refine w_st (fun J0 jA0 jB0 jC0 => ?_)
  refine w_aload_n dX3_init_9 rfl ?_
  refine w_iconst dX3_init_10 ic_3 ?_
  refine k_newI (z := 3) (mc := 0) (ms := 0) dX3_init_11 ac_int rfl (by decide) (by decide) (by decide) (fun J1 Q1 N1 jA1 jZ1 qA1 nA1 nC1 => ?_)
  refine k_putR dX3_init_13 flX3_15 rfl rfl rfl rfl (fun Q2 qA2 qB2 qC2 => ?_)
  refine w_return dX3_init_16 rfl ?_
  exact hq J1 _ Q2 N1 (fun q hlt => by rw [jA1 (q) (by omega), jA0 (q) (by omega)]) (fun q hlt => by rw [qA2 (q) (by omega), qA1 (q) (by omega)]) (fun q hlt => by rw [nA1 (q) (by omega)]) ⟨(qC2), (nC1)⟩

set_option maxRecDepth 20000 in
theorem sX4_init {a : Nat} (hq : ∀ (I' : HI) (L' : HL) (R' : HR) (N' : HN), (∀ q, q < a → I' q = I q) → (∀ q, q < a → R' q = R q) → (∀ q, q < a → N' q = N q) → kSH I' R' N' a → Q vU I' L' R' N' (a + 2)) : CA sc 1 1 24 mX4_init [vR 4 a] I L R N (a + 1) Q := by
  refine ca_in (al := [_]) rfl ?_
  refine w_aload_n dX4_init_0 rfl ?_
  refine w_objInit dX4_init_1 mlX4_3 im_obj co_obj (by decide) (Nat.le_of_ble_eq_true rfl) ?_
  refine w_aload_n dX4_init_4 rfl ?_
  refine w_iconst dX4_init_5 ic_m1 ?_
  refine w_putI dX4_init_6 flX4_9 rfl rfl rfl rfl ?_
  refine w_st (fun J0 jA0 jB0 jC0 => ?_)
  refine w_aload_n dX4_init_9 rfl ?_
  refine w_iconst dX4_init_10 ic_0 ?_
  refine w_putI dX4_init_11 flX4_15 rfl rfl rfl rfl ?_
  refine w_st (fun J1 jA1 jB1 jC1 => ?_)
  refine w_aload_n dX4_init_14 rfl ?_
  refine w_bipush dX4_init_15 bp_24 ?_
  refine k_newI (z := 24) (mc := 0) (ms := 0) dX4_init_17 ac_int rfl (by decide) (by decide) (by decide) (fun J2 Q2 N2 jA2 jZ2 qA2 nA2 nC2 => ?_)
  refine k_putR dX4_init_19 flX4_18 rfl rfl rfl rfl (fun Q3 qA3 qB3 qC3 => ?_)
  refine w_return dX4_init_22 rfl ?_
  exact hq J2 _ Q3 N2 (fun q hlt => by rw [jA2 (q) (by omega), jA1 (q) (by omega), jA0 (q) (by omega)]) (fun q hlt => by rw [qA3 (q) (by omega), qA2 (q) (by omega)]) (fun q hlt => by rw [nA2 (q) (by omega)]) ⟨(qC3), (nC2), (by rw [jA2 (a) (by omega), jB1 0 (by decide)]; exact jC0), (by rw [jA2 (a) (by omega)]; exact jC1), jZ2⟩

set_option maxRecDepth 20000 in
theorem sX6_init {a : Nat} (hq : ∀ (I' : HI) (L' : HL) (R' : HR) (N' : HN), (∀ q, q < a → I' q = I q) → (∀ q, q < a → R' q = R q) → (∀ q, q < a → N' q = N q) → kTA I' R' N' a → Q vU I' L' R' N' (a + 2)) : CA sc 1 1 96 mX6_init [vR 6 a] I L R N (a + 1) Q := by
  refine ca_in (al := [_]) rfl ?_
  refine w_aload_n dX6_init_0 rfl ?_
  refine w_objInit dX6_init_1 mlX6_3 im_obj co_obj (by decide) (Nat.le_of_ble_eq_true rfl) ?_
  refine w_aload_n dX6_init_4 rfl ?_
  refine w_bipush dX6_init_5 bp_96 ?_
  refine k_newI (z := 96) (mc := 0) (ms := 0) dX6_init_7 ac_int rfl (by decide) (by decide) (by decide) (fun J0 Q0 N0 jA0 jZ0 qA0 nA0 nC0 => ?_)
  refine k_putR dX6_init_9 flX6_9 rfl rfl rfl rfl (fun Q1 qA1 qB1 qC1 => ?_)
  refine w_aload_n dX6_init_12 rfl ?_
  refine w_iconst dX6_init_13 ic_0 ?_
  refine w_putI dX6_init_14 flX6_15 rfl rfl rfl rfl ?_
  refine w_st (fun J2 jA2 jB2 jC2 => ?_)
  refine w_aload_n dX6_init_17 rfl ?_
  refine w_iconst dX6_init_18 ic_m1 ?_
  refine w_putI dX6_init_19 flX6_19 rfl rfl rfl rfl ?_
  refine w_st (fun J3 jA3 jB3 jC3 => ?_)
  refine w_aload_n dX6_init_22 rfl ?_
  refine w_iconst dX6_init_23 ic_0 ?_
  refine w_putI dX6_init_24 flX6_22 rfl rfl rfl rfl ?_
  refine w_st (fun J4 jA4 jB4 jC4 => ?_)
  refine w_aload_n dX6_init_27 rfl ?_
  refine w_iconst dX6_init_28 ic_0 ?_
  refine w_putI dX6_init_29 flX6_25 rfl rfl rfl rfl ?_
  refine w_st (fun J5 jA5 jB5 jC5 => ?_)
  refine w_return dX6_init_32 rfl ?_
  exact hq J5 _ Q1 N0 (fun q hlt => by rw [jA5 (q) (by omega), jA4 (q) (by omega), jA3 (q) (by omega), jA2 (q) (by omega), jA0 (q) (by omega)]) (fun q hlt => by rw [qA1 (q) (by omega), qA0 (q) (by omega)]) (fun q hlt => by rw [nA0 (q) (by omega)]) ⟨(qC1), (nC0), (by rw [jB5 1 (by decide), jB4 1 (by decide), jB3 1 (by decide)]; exact jC2)⟩

set_option maxRecDepth 20000 in
theorem sX1_init {a : Nat} (hq : ∀ (I' : HI) (L' : HL) (R' : HR) (N' : HN), (∀ q, q < a → I' q = I q) → (∀ q, q < a → R' q = R q) → (∀ q, q < a → N' q = N q) → kPA I' R' N' a → Q vU I' L' R' N' (a + 4)) : CA sc 2 3 197 mX1_init [vR 1 a] I L R N (a + 1) Q := by
  refine ca_in (al := [_]) rfl ?_
  refine w_aload_n dX1_init_0 rfl ?_
  refine w_objInit dX1_init_1 mlX1_3 im_obj co_obj (by decide) (Nat.le_of_ble_eq_true rfl) ?_
  refine w_aload_n dX1_init_4 rfl ?_
  refine k_new (t := 6) (z := 5) (mc := 2) (ms := 192) dX1_init_5 (by decide) clX1_9 itX6 iiX6 rfl (by decide) (by decide) (fun J0 L0 Q0 jA0 jZ0 qA0 => ?_)
  refine w_dup dX1_init_8 rfl ?_
  refine k_I (t := 6) (as := []) (d' := 1) (mc := 1) (mc2 := 1) (ms := 96) (ms2 := 96) dX1_init_9 nlX1_11 moX6_init imX6_init rfl rfl rfl rfl rfl rfl (by decide) (by decide) (by decide) (sX6_init (fun J1 L1 Q1 N1 jA1 qA1 nA1 bF1 => ?_))
  refine k_putR dX1_init_12 flX1_12 rfl rfl rfl rfl (fun Q2 qA2 qB2 qC2 => ?_)
  refine w_aload_n dX1_init_15 rfl ?_
  refine w_bipush dX1_init_16 bp_96 ?_
  refine k_newI (z := 96) (mc := 0) (ms := 0) dX1_init_18 ac_int rfl (by decide) (by decide) (by decide) (fun J3 Q3 N3 jA3 jZ3 qA3 nA3 nC3 => ?_)
  refine k_putR dX1_init_20 flX1_18 rfl rfl rfl rfl (fun Q4 qA4 qB4 qC4 => ?_)
  refine w_aload_n dX1_init_23 rfl ?_
  refine w_iconst dX1_init_24 ic_0 ?_
  refine w_putI dX1_init_25 flX1_22 rfl rfl rfl rfl ?_
  refine w_st (fun J5 jA5 jB5 jC5 => ?_)
  refine w_aload_n dX1_init_28 rfl ?_
  refine w_iconst dX1_init_29 ic_0 ?_
  refine w_putI dX1_init_30 flX1_26 rfl rfl rfl rfl ?_
  refine w_st (fun J6 jA6 jB6 jC6 => ?_)
  refine w_aload_n dX1_init_33 rfl ?_
  refine w_iconst dX1_init_34 ic_0 ?_
  refine w_putI dX1_init_35 flX1_29 rfl rfl rfl rfl ?_
  refine w_st (fun J7 jA7 jB7 jC7 => ?_)
  refine w_aload_n dX1_init_38 rfl ?_
  refine w_ldc dX1_init_39 kcX1_32 ?_
  refine w_putI dX1_init_41 flX1_33 rfl rfl rfl rfl ?_
  refine w_st (fun J8 jA8 jB8 jC8 => ?_)
  refine w_return dX1_init_44 rfl ?_
  exact hq J8 _ Q4 N3 (fun q hlt => by rw [jA8 (q) (by omega), jA7 (q) (by omega), jA6 (q) (by omega), jA5 (q) (by omega), jA3 (q) (by omega), jA1 (q) (by omega), jA0 (q) (by omega)]) (fun q hlt => by rw [qA4 (q) (by omega), qA3 (q) (by omega), qA2 (q) (by omega), qA1 (q) (by omega), qA0 (q) (by omega)]) (fun q hlt => by rw [nA3 (q) (by omega), nA1 (q) (by omega)]) ⟨(by rw [qB4 0 (by decide), qA3 (a) (by omega)]; exact qC2), (bF1.keep (fun q h1 h2 => ⟨by rw [jA8 (q) (by omega), jA7 (q) (by omega), jA6 (q) (by omega), jA5 (q) (by omega), jA3 (q) (by omega)], by rw [qA4 (q) (by omega), qA3 (q) (by omega), qA2 (q) (by omega)], by rw [nA3 (q) (by omega)]⟩)), (qC4), (nC3)⟩

set_option maxRecDepth 20000 in
theorem sX5_init {a : Nat} (hq : ∀ (I' : HI) (L' : HL) (R' : HR) (N' : HN), (∀ q, q < a → I' q = I q) → (∀ q, q < a → R' q = R q) → (∀ q, q < a → N' q = N q) → kSL I' R' N' a → Q vU I' L' R' N' (a + 5)) : CA sc 2 4 32 mX5_init [vR 5 a] I L R N (a + 1) Q := by
  refine ca_in (al := [_]) rfl ?_
  refine w_aload_n dX5_init_0 rfl ?_
  refine w_objInit dX5_init_1 mlX5_3 im_obj co_obj (by decide) (Nat.le_of_ble_eq_true rfl) ?_
  refine w_aload_n dX5_init_4 rfl ?_
  refine w_iconst dX5_init_5 ic_0 ?_
  refine w_putI dX5_init_6 flX5_9 rfl rfl rfl rfl ?_
  refine w_st (fun J0 jA0 jB0 jC0 => ?_)
  refine w_aload_n dX5_init_9 rfl ?_
  refine k_new (t := 3) (z := 2) (mc := 3) (ms := 30) dX5_init_10 (by decide) clX5_15 itX3 iiX3 rfl (by decide) (by decide) (fun J1 L1 Q1 jA1 jZ1 qA1 => ?_)
  refine w_dup dX5_init_13 rfl ?_
  refine k_I (t := 3) (as := []) (d' := 1) (mc := 2) (mc2 := 1) (ms := 27) (ms2 := 3) dX5_init_14 nlX5_17 moX3_init imX3_init rfl rfl rfl rfl rfl rfl (by decide) (by decide) (by decide) (sX3_init (fun J2 L2 Q2 N2 jA2 qA2 nA2 bF2 => ?_))
  refine k_putR dX5_init_17 flX5_18 rfl rfl rfl rfl (fun Q3 qA3 qB3 qC3 => ?_)
  refine w_aload_n dX5_init_20 rfl ?_
  refine k_new (t := 4) (z := 3) (mc := 1) (ms := 24) dX5_init_21 (by decide) clX5_22 itX4 iiX4 rfl (by decide) (by decide) (fun J4 L4 Q4 jA4 jZ4 qA4 => ?_)
  refine w_dup dX5_init_24 rfl ?_
  refine k_I (t := 4) (as := []) (d' := 1) (mc := 0) (mc2 := 1) (ms := 0) (ms2 := 24) dX5_init_25 nlX5_24 moX4_init imX4_init rfl rfl rfl rfl rfl rfl (by decide) (by decide) (by decide) (sX4_init (fun J5 L5 Q5 N5 jA5 qA5 nA5 bF5 => ?_))
  refine k_putR dX5_init_28 flX5_25 rfl rfl rfl rfl (fun Q6 qA6 qB6 qC6 => ?_)
  refine w_aload_n dX5_init_31 rfl ?_
  refine w_iconst dX5_init_32 ic_0 ?_
  refine w_putI dX5_init_33 flX5_29 rfl rfl rfl rfl ?_
  refine w_st (fun J7 jA7 jB7 jC7 => ?_)
  refine w_return dX5_init_36 rfl ?_
  exact hq J7 _ Q6 N5 (fun q hlt => by rw [jA7 (q) (by omega), jA5 (q) (by omega), jA4 (q) (by omega), jA2 (q) (by omega), jA1 (q) (by omega), jA0 (q) (by omega)]) (fun q hlt => by rw [qA6 (q) (by omega), qA5 (q) (by omega), qA4 (q) (by omega), qA3 (q) (by omega), qA2 (q) (by omega), qA1 (q) (by omega)]) (fun q hlt => by rw [nA5 (q) (by omega), nA2 (q) (by omega)]) ⟨(by rw [jB7 0 (by decide), jA5 (a) (by omega), jA4 (a) (by omega), jA2 (a) (by omega), jA1 (a) (by omega)]; exact jC0), (by rw [qB6 1 (by decide), qA5 (a) (by omega), qA4 (a) (by omega)]; exact qC3), (bF2.keep (fun q h1 h2 => ⟨by rw [jA7 (q) (by omega), jA5 (q) (by omega), jA4 (q) (by omega)], by rw [qA6 (q) (by omega), qA5 (q) (by omega), qA4 (q) (by omega), qA3 (q) (by omega)], by rw [nA5 (q) (by omega)]⟩)), (qC6), (bF5.keep (fun q h1 h2 => ⟨by rw [jA7 (q) (by omega)], by rw [qA6 (q) (by omega)], rfl⟩))⟩

set_option maxRecDepth 20000 in
theorem sX2_init {a : Nat} (hq : ∀ (I' : HI) (L' : HL) (R' : HR) (N' : HN), (∀ q, q < a → I' q = I q) → (∀ q, q < a → R' q = R q) → (∀ q, q < a → N' q = N q) → kPL I' R' N' a → Q vU I' L' R' N' (a + 15)) : CA sc 1 14 409 mX2_init [vR 2 a] I L R N (a + 1) Q := by
  refine ca_in (al := [_]) rfl ?_
  refine w_aload_n dX2_init_0 rfl ?_
  refine w_objInit dX2_init_1 mlX2_3 im_obj co_obj (by decide) (Nat.le_of_ble_eq_true rfl) ?_
  refine w_aload_n dX2_init_4 rfl ?_
  refine w_bipush dX2_init_5 bp_31 ?_
  refine k_newI (z := 31) (mc := 13) (ms := 378) dX2_init_7 ac_int rfl (by decide) (by decide) (by decide) (fun J0 Q0 N0 jA0 jZ0 qA0 nA0 nC0 => ?_)
  refine k_putR dX2_init_9 flX2_9 rfl rfl rfl rfl (fun Q1 qA1 qB1 qC1 => ?_)
  refine w_aload_n dX2_init_12 rfl ?_
  refine w_bipush dX2_init_13 bp_6 ?_
  refine w_bipush dX2_init_15 bp_31 ?_
  refine k_mna (k1 := 6) (k2 := 31) (mc := 6) (ms := 186) dX2_init_17 clX2_15 rfl rfl (by decide) (by decide) (by decide) (by decide) (fun J2 Q2 N2 mA2 mR2 nC2 mI2 => ?_)
  refine k_putR dX2_init_21 flX2_17 rfl rfl rfl rfl (fun Q3 qA3 qB3 qC3 => ?_)
  refine w_aload_n dX2_init_24 rfl ?_
  refine w_bipush dX2_init_25 bp_31 ?_
  refine k_newI (z := 31) (mc := 5) (ms := 155) dX2_init_27 ac_int rfl (by decide) (by decide) (by decide) (fun J4 Q4 N4 jA4 jZ4 qA4 nA4 nC4 => ?_)
  refine k_putR dX2_init_29 flX2_20 rfl rfl rfl rfl (fun Q5 qA5 qB5 qC5 => ?_)
  refine w_aload_n dX2_init_32 rfl ?_
  refine w_bipush dX2_init_33 bp_31 ?_
  refine k_newI (z := 31) (mc := 4) (ms := 124) dX2_init_35 ac_int rfl (by decide) (by decide) (by decide) (fun J6 Q6 N6 jA6 jZ6 qA6 nA6 nC6 => ?_)
  refine k_putR dX2_init_37 flX2_23 rfl rfl rfl rfl (fun Q7 qA7 qB7 qC7 => ?_)
  refine w_aload_n dX2_init_40 rfl ?_
  refine w_bipush dX2_init_41 bp_31 ?_
  refine k_newI (z := 31) (mc := 3) (ms := 93) dX2_init_43 ac_int rfl (by decide) (by decide) (by decide) (fun J8 Q8 N8 jA8 jZ8 qA8 nA8 nC8 => ?_)
  refine k_putR dX2_init_45 flX2_26 rfl rfl rfl rfl (fun Q9 qA9 qB9 qC9 => ?_)
  refine w_aload_n dX2_init_48 rfl ?_
  refine w_bipush dX2_init_49 bp_31 ?_
  refine k_newZ (z := 31) (mc := 2) (ms := 62) dX2_init_51 ac_boolean rfl (by decide) (by decide) (by decide) (fun J10 Q10 N10 jA10 jZ10 qA10 nA10 nC10 => ?_)
  refine k_putR dX2_init_53 flX2_29 rfl rfl rfl rfl (fun Q11 qA11 qB11 qC11 => ?_)
  refine w_aload_n dX2_init_56 rfl ?_
  refine w_bipush dX2_init_57 bp_31 ?_
  refine k_newI (z := 31) (mc := 1) (ms := 31) dX2_init_59 ac_int rfl (by decide) (by decide) (by decide) (fun J12 Q12 N12 jA12 jZ12 qA12 nA12 nC12 => ?_)
  refine k_putR dX2_init_61 flX2_33 rfl rfl rfl rfl (fun Q13 qA13 qB13 qC13 => ?_)
  refine w_aload_n dX2_init_64 rfl ?_
  refine w_bipush dX2_init_65 bp_31 ?_
  refine k_newI (z := 31) (mc := 0) (ms := 0) dX2_init_67 ac_int rfl (by decide) (by decide) (by decide) (fun J14 Q14 N14 jA14 jZ14 qA14 nA14 nC14 => ?_)
  refine k_putR dX2_init_69 flX2_36 rfl rfl rfl rfl (fun Q15 qA15 qB15 qC15 => ?_)
  refine w_aload_n dX2_init_72 rfl ?_
  refine w_lconst (v := 0) dX2_init_73 rfl ?_
  refine w_putL dX2_init_74 flX2_39 rfl rfl ?_
  refine w_aload_n dX2_init_77 rfl ?_
  refine w_lconst (v := 0) dX2_init_78 rfl ?_
  refine w_putL dX2_init_79 flX2_43 rfl rfl ?_
  refine w_aload_n dX2_init_82 rfl ?_
  refine w_lconst (v := 0) dX2_init_83 rfl ?_
  refine w_putL dX2_init_84 flX2_46 rfl rfl ?_
  refine w_aload_n dX2_init_87 rfl ?_
  refine w_lconst (v := 0) dX2_init_88 rfl ?_
  refine w_putL dX2_init_89 flX2_49 rfl rfl ?_
  refine w_return dX2_init_92 rfl ?_
  exact hq J14 _ Q15 N14 (fun q hlt => by rw [jA14 (q) (by omega), jA12 (q) (by omega), jA10 (q) (by omega), jA8 (q) (by omega), jA6 (q) (by omega), jA4 (q) (by omega), (mA2 (q) (by omega)).1, jA0 (q) (by omega)]) (fun q hlt => by rw [qA15 (q) (by omega), qA14 (q) (by omega), qA13 (q) (by omega), qA12 (q) (by omega), qA11 (q) (by omega), qA10 (q) (by omega), qA9 (q) (by omega), qA8 (q) (by omega), qA7 (q) (by omega), qA6 (q) (by omega), qA5 (q) (by omega), qA4 (q) (by omega), qA3 (q) (by omega), (mA2 (q) (by omega)).2.1, qA1 (q) (by omega), qA0 (q) (by omega)]) (fun q hlt => by rw [nA14 (q) (by omega), nA12 (q) (by omega), nA10 (q) (by omega), nA8 (q) (by omega), nA6 (q) (by omega), nA4 (q) (by omega), (mA2 (q) (by omega)).2.2, nA0 (q) (by omega)]) ⟨(by rw [qB15 0 (by decide), qA14 (a) (by omega), qB13 0 (by decide), qA12 (a) (by omega), qB11 0 (by decide), qA10 (a) (by omega), qB9 0 (by decide), qA8 (a) (by omega), qB7 0 (by decide), qA6 (a) (by omega), qB5 0 (by decide), qA4 (a) (by omega), qB3 0 (by decide), (mA2 (a) (by omega)).2.1]; exact qC1), (by rw [nA14 (a + 1) (by omega), nA12 (a + 1) (by omega), nA10 (a + 1) (by omega), nA8 (a + 1) (by omega), nA6 (a + 1) (by omega), nA4 (a + 1) (by omega), (mA2 (a + 1) (by omega)).2.2]; exact nC0), (by rw [qB15 1 (by decide), qA14 (a) (by omega), qB13 1 (by decide), qA12 (a) (by omega), qB11 1 (by decide), qA10 (a) (by omega), qB9 1 (by decide), qA8 (a) (by omega), qB7 1 (by decide), qA6 (a) (by omega), qB5 1 (by decide), qA4 (a) (by omega)]; exact qC3), (by rw [nA14 (a + 2) (by omega), nA12 (a + 2) (by omega), nA10 (a + 2) (by omega), nA8 (a + 2) (by omega), nA6 (a + 2) (by omega), nA4 (a + 2) (by omega)]; exact nC2), (by rw [qA15 (a + 2) (by omega), qA14 (a + 2) (by omega), qA13 (a + 2) (by omega), qA12 (a + 2) (by omega), qA11 (a + 2) (by omega), qA10 (a + 2) (by omega), qA9 (a + 2) (by omega), qA8 (a + 2) (by omega), qA7 (a + 2) (by omega), qA6 (a + 2) (by omega), qA5 (a + 2) (by omega), qA4 (a + 2) (by omega), qA3 (a + 2) (by omega)]; exact mR2 0 (by decide)), (by rw [qA15 (a + 2) (by omega), qA14 (a + 2) (by omega), qA13 (a + 2) (by omega), qA12 (a + 2) (by omega), qA11 (a + 2) (by omega), qA10 (a + 2) (by omega), qA9 (a + 2) (by omega), qA8 (a + 2) (by omega), qA7 (a + 2) (by omega), qA6 (a + 2) (by omega), qA5 (a + 2) (by omega), qA4 (a + 2) (by omega), qA3 (a + 2) (by omega)]; exact mR2 1 (by decide)), (by rw [qA15 (a + 2) (by omega), qA14 (a + 2) (by omega), qA13 (a + 2) (by omega), qA12 (a + 2) (by omega), qA11 (a + 2) (by omega), qA10 (a + 2) (by omega), qA9 (a + 2) (by omega), qA8 (a + 2) (by omega), qA7 (a + 2) (by omega), qA6 (a + 2) (by omega), qA5 (a + 2) (by omega), qA4 (a + 2) (by omega), qA3 (a + 2) (by omega)]; exact mR2 2 (by decide)), (by rw [qA15 (a + 2) (by omega), qA14 (a + 2) (by omega), qA13 (a + 2) (by omega), qA12 (a + 2) (by omega), qA11 (a + 2) (by omega), qA10 (a + 2) (by omega), qA9 (a + 2) (by omega), qA8 (a + 2) (by omega), qA7 (a + 2) (by omega), qA6 (a + 2) (by omega), qA5 (a + 2) (by omega), qA4 (a + 2) (by omega), qA3 (a + 2) (by omega)]; exact mR2 3 (by decide)), (by rw [qA15 (a + 2) (by omega), qA14 (a + 2) (by omega), qA13 (a + 2) (by omega), qA12 (a + 2) (by omega), qA11 (a + 2) (by omega), qA10 (a + 2) (by omega), qA9 (a + 2) (by omega), qA8 (a + 2) (by omega), qA7 (a + 2) (by omega), qA6 (a + 2) (by omega), qA5 (a + 2) (by omega), qA4 (a + 2) (by omega), qA3 (a + 2) (by omega)]; exact mR2 4 (by decide)), (by rw [qA15 (a + 2) (by omega), qA14 (a + 2) (by omega), qA13 (a + 2) (by omega), qA12 (a + 2) (by omega), qA11 (a + 2) (by omega), qA10 (a + 2) (by omega), qA9 (a + 2) (by omega), qA8 (a + 2) (by omega), qA7 (a + 2) (by omega), qA6 (a + 2) (by omega), qA5 (a + 2) (by omega), qA4 (a + 2) (by omega), qA3 (a + 2) (by omega)]; exact mR2 5 (by decide)), (by rw [nA14 (a + 3) (by omega), nA12 (a + 3) (by omega), nA10 (a + 3) (by omega), nA8 (a + 3) (by omega), nA6 (a + 3) (by omega), nA4 (a + 3) (by omega)]; exact (mI2 0 (by decide)).2), (by rw [nA14 (a + 4) (by omega), nA12 (a + 4) (by omega), nA10 (a + 4) (by omega), nA8 (a + 4) (by omega), nA6 (a + 4) (by omega), nA4 (a + 4) (by omega)]; exact (mI2 1 (by decide)).2), (by rw [nA14 (a + 5) (by omega), nA12 (a + 5) (by omega), nA10 (a + 5) (by omega), nA8 (a + 5) (by omega), nA6 (a + 5) (by omega), nA4 (a + 5) (by omega)]; exact (mI2 2 (by decide)).2), (by rw [nA14 (a + 6) (by omega), nA12 (a + 6) (by omega), nA10 (a + 6) (by omega), nA8 (a + 6) (by omega), nA6 (a + 6) (by omega), nA4 (a + 6) (by omega)]; exact (mI2 3 (by decide)).2), (by rw [nA14 (a + 7) (by omega), nA12 (a + 7) (by omega), nA10 (a + 7) (by omega), nA8 (a + 7) (by omega), nA6 (a + 7) (by omega), nA4 (a + 7) (by omega)]; exact (mI2 4 (by decide)).2), (by rw [nA14 (a + 8) (by omega), nA12 (a + 8) (by omega), nA10 (a + 8) (by omega), nA8 (a + 8) (by omega), nA6 (a + 8) (by omega), nA4 (a + 8) (by omega)]; exact (mI2 5 (by decide)).2), (by rw [qB15 2 (by decide), qA14 (a) (by omega), qB13 2 (by decide), qA12 (a) (by omega), qB11 2 (by decide), qA10 (a) (by omega), qB9 2 (by decide), qA8 (a) (by omega), qB7 2 (by decide), qA6 (a) (by omega)]; exact qC5), (by rw [nA14 (a + 9) (by omega), nA12 (a + 9) (by omega), nA10 (a + 9) (by omega), nA8 (a + 9) (by omega), nA6 (a + 9) (by omega)]; exact nC4), (by rw [qB15 3 (by decide), qA14 (a) (by omega), qB13 3 (by decide), qA12 (a) (by omega), qB11 3 (by decide), qA10 (a) (by omega), qB9 3 (by decide), qA8 (a) (by omega)]; exact qC7), (by rw [nA14 (a + 10) (by omega), nA12 (a + 10) (by omega), nA10 (a + 10) (by omega), nA8 (a + 10) (by omega)]; exact nC6), (by rw [qB15 4 (by decide), qA14 (a) (by omega), qB13 4 (by decide), qA12 (a) (by omega), qB11 4 (by decide), qA10 (a) (by omega)]; exact qC9), (by rw [nA14 (a + 11) (by omega), nA12 (a + 11) (by omega), nA10 (a + 11) (by omega)]; exact nC8), (by rw [qB15 5 (by decide), qA14 (a) (by omega), qB13 5 (by decide), qA12 (a) (by omega)]; exact qC11), (by rw [nA14 (a + 12) (by omega), nA12 (a + 12) (by omega)]; exact nC10), (by rw [qB15 6 (by decide), qA14 (a) (by omega)]; exact qC13), (by rw [nA14 (a + 13) (by omega)]; exact nC12), (qC15), (nC14)⟩

end
