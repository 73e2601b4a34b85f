/-! The skeleton: which cell refers to which, how long each array is; truth as a number. -/
def skR : List (Nat × Nat × Nat) := [(0, 0, 1), (0, 1, 30), (0, 3, 59), (0, 4, 74), (0, 5, 76), (0, 6, 77), (0, 7, 81), (0, 8, 82), (0, 9, 83), (1, 0, 2), (1, 2, 9), (1, 6, 10), (1, 8, 11), (1, 9, 12), (1, 10, 13), (2, 0, 3), (2, 1, 4), (2, 2, 5), (2, 3, 6), (2, 4, 7), (2, 5, 8), (9, 0, 14), (9, 1, 16), (9, 2, 18), (9, 3, 20), (9, 4, 22), (9, 5, 24), (9, 6, 26), (9, 7, 28), (14, 1, 15), (16, 1, 17), (18, 1, 19), (20, 1, 21), (22, 1, 23), (24, 1, 25), (26, 1, 27), (28, 1, 29), (30, 0, 31), (30, 2, 38), (30, 6, 39), (30, 8, 40), (30, 9, 41), (30, 10, 42), (31, 0, 32), (31, 1, 33), (31, 2, 34), (31, 3, 35), (31, 4, 36), (31, 5, 37), (38, 0, 43), (38, 1, 45), (38, 2, 47), (38, 3, 49), (38, 4, 51), (38, 5, 53), (38, 6, 55), (38, 7, 57), (43, 1, 44), (45, 1, 46), (47, 1, 48), (49, 1, 50), (51, 1, 52), (53, 1, 54), (55, 1, 56), (57, 1, 58), (59, 0, 60), (59, 1, 61), (59, 2, 68), (59, 3, 69), (59, 4, 70), (59, 5, 71), (59, 6, 72), (59, 7, 73), (61, 0, 62), (61, 1, 63), (61, 2, 64), (61, 3, 65), (61, 4, 66), (61, 5, 67), (74, 1, 75), (77, 0, 78), (77, 1, 80), (78, 0, 79), (81, 0, 84), (81, 1, 86), (81, 2, 88), (81, 3, 90), (82, 0, 92), (82, 1, 97), (82, 2, 102), (82, 3, 107), (82, 4, 112), (84, 2, 85), (86, 2, 87), (88, 2, 89), (90, 2, 91), (92, 1, 93), (92, 2, 95), (93, 1, 94), (95, 2, 96), (97, 1, 98), (97, 2, 100), (98, 1, 99), (100, 2, 101), (102, 1, 103), (102, 2, 105), (103, 1, 104), (105, 2, 106), (107, 1, 108), (107, 2, 110), (108, 1, 109), (110, 2, 111), (112, 1, 113), (112, 2, 115), (113, 1, 114), (115, 2, 116), (117, 0, 118), (117, 1, 119), (117, 2, 120), (117, 4, 121), (117, 5, 122), (117, 6, 123), (117, 7, 124), (117, 8, 125), (117, 9, 126), (117, 10, 127), (117, 11, 128), (117, 16, 129), (117, 24, 130), (117, 25, 131), (117, 26, 132), (117, 29, 133), (117, 31, 134), (117, 32, 135), (117, 33, 136), (117, 34, 137), (117, 35, 138), (117, 36, 139), (117, 37, 140), (117, 38, 141), (117, 39, 142), (117, 40, 143), (117, 41, 144), (117, 42, 145)]
def skN : List (Nat × Nat) := [(2, 6), (3, 7), (4, 7), (5, 7), (6, 7), (7, 7), (8, 7), (9, 8), (10, 14), (11, 3), (13, 96), (15, 3), (17, 3), (19, 3), (21, 3), (23, 3), (25, 3), (27, 3), (29, 3), (31, 6), (32, 7), (33, 7), (34, 7), (35, 7), (36, 7), (37, 7), (38, 8), (39, 14), (40, 3), (42, 96), (44, 3), (46, 3), (48, 3), (50, 3), (52, 3), (54, 3), (56, 3), (58, 3), (60, 31), (61, 6), (62, 31), (63, 31), (64, 31), (65, 31), (66, 31), (67, 31), (68, 31), (69, 31), (70, 31), (71, 31), (72, 31), (73, 31), (75, 3), (79, 96), (80, 96), (81, 4), (82, 5), (83, 60), (85, 24), (87, 24), (89, 24), (91, 24), (94, 3), (96, 24), (99, 3), (101, 24), (104, 3), (106, 24), (109, 3), (111, 24), (114, 3), (116, 24), (118, 1452), (119, 1452), (120, 1452), (121, 31), (122, 31), (123, 31), (124, 31), (125, 32), (126, 31), (127, 31), (128, 32), (129, 96), (130, 14), (131, 4), (132, 96), (133, 96), (134, 10), (135, 96), (136, 4), (137, 4), (138, 4), (139, 96), (140, 5), (141, 5), (142, 5), (143, 120), (144, 24), (145, 60)]
def SK (R : HR) (N : HN) : Prop := (∀ q ∈ skR, R q.1 q.2.1 = some q.2.2) ∧ ∀ q ∈ skN, N q.1 = q.2
theorem SK.r {R : HR} {N : HN} {a j b : Nat} (h : SK R N) (i : Nat) (hi : skR[i]? = some (a, j, b)) : R a j = some b := h.1 (a, j, b) (List.mem_of_getElem? hi)
theorem SK.n {R : HR} {N : HN} {a z : Nat} (h : SK R N) (i : Nat) (hi : skN[i]? = some (a, z)) : N a = z := h.2 (a, z) (List.mem_of_getElem? hi)
theorem SK.wr {R : HR} {N : HN} {w j o : Nat} (h : SK R N) (hw : w = 1 ∨ w = 30) (i k : Nat) (hi : skR[i]? = some (1, j, 1 + o)) (hk : skR[k]? = some (30, j, 30 + o)) : R w j = some (w + o) := by
  rcases hw with rfl | rfl
  · exact h.r i hi
  · exact h.r k hk
theorem SK.wn {R : HR} {N : HN} {w o z : Nat} (h : SK R N) (hw : w = 1 ∨ w = 30) (i k : Nat) (hi : skN[i]? = some (1 + o, z)) (hk : skN[k]? = some (30 + o, z)) : N (w + o) = z := by
  rcases hw with rfl | rfl
  · exact h.n i hi
  · exact h.n k hk
noncomputable def bI (p : Prop) : Int32 := @ite _ p (Classical.propDecidable p) 1 0
theorem bI_1 {p : Prop} (h : p) : bI p = 1 := if_pos h
theorem bI_0 {p : Prop} (h : ¬ p) : bI p = 0 := if_neg h
theorem bI_e {p : Prop} : bI p = 0 ↔ ¬ p := ⟨fun h q => by rw [bI_1 q] at h; exact absurd h (by decide), bI_0⟩
theorem bI_n {p : Prop} : ¬ bI p = 0 ↔ p := ⟨fun h => Classical.byContradiction fun q => h (bI_0 q), fun h q => by rw [bI_1 h] at q; exact absurd q (by decide)⟩
theorem bI_c {p q : Prop} (h : p ↔ q) : bI p = bI q := by
  by_cases hp : p
  · rw [bI_1 hp, bI_1 (h.mp hp)]
  · rw [bI_0 hp, bI_0 (fun z => hp (h.mpr z))]
theorem bI_z {p : Prop} : narrow .boolean (.int (bI p)) = .int (bI p) := by
  by_cases h : p
  · rw [bI_1 h]; rfl
  · rw [bI_0 h]; rfl
theorem bI_v {p : Prop} : vp_nar .boolean (bI p) = bI p := by
  by_cases h : p
  · rw [bI_1 h]; rfl
  · rw [bI_0 h]; rfl
section
variable {sc : SC} {d mc ms : Nat} {md : MD} {pc : Nat} {al st : List AV} {I : HI} {L : HL} {R : HR} {N : HN} {n : Nat} {Q : HQ}
theorem w_ifB_eq {p : Prop} {off : Int} {tgt : Nat} (hd : decode md.2.1 pc = .ok (.ifCond .eq off, 3)) (ht : (pc : Int) + off = (tgt : Int)) (k1 : ¬ p → WP sc d mc ms md tgt al st I L R N n Q) (k2 : p → WP sc d mc ms md (pc + 3) al st I L R N n Q) : WP sc d mc ms md pc al (vI (bI p) :: st) I L R N n Q :=
  w_if_eq hd ht (fun h => k1 (bI_e.mp h)) (fun h => k2 (bI_n.mp h))
theorem w_ifB_ne {p : Prop} {off : Int} {tgt : Nat} (hd : decode md.2.1 pc = .ok (.ifCond .ne off, 3)) (ht : (pc : Int) + off = (tgt : Int)) (k1 : p → WP sc d mc ms md tgt al st I L R N n Q) (k2 : ¬ p → WP sc d mc ms md (pc + 3) al st I L R N n Q) : WP sc d mc ms md pc al (vI (bI p) :: st) I L R N n Q :=
  w_if_ne hd ht (fun h => k1 (bI_n.mp h)) (fun h => k2 (bI_e.mp h))
/-- the heap in other words -/
theorem w_I {I' : HI} (h : I = I') (k : WP sc d mc ms md pc al st I' L R N n Q) : WP sc d mc ms md pc al st I L R N n Q := h ▸ k
end
theorem CA.mono {sc : SC} {d d' mc ms : Nat} {md : MD} {as : List AV} {I : HI} {L : HL} {R : HR} {N : HN} {n : Nat} {Q : HQ} (h : CA sc d mc ms md as I L R N n Q) (hd : d ≤ d') : CA sc d' mc ms md as I L R N n Q := by
  intro e ρ T n0 ρ0 T0 p l en Rm s m args below meth c H locs cells slots ls hx
  obtain ⟨h1, ⟨r1, r2, r3, r4⟩, h3⟩ := hx
  exact h e ρ T n0 ρ0 T0 p l en Rm s m args below meth c H locs cells slots ls ⟨h1, ⟨Nat.le_trans hd r1, Nat.le_trans (Nat.mul_le_mul_left 64 hd) r2, r3, r4⟩, h3⟩
theorem nI_mul (a b : Nat) : nI a * nI b = nI (a * b) := (Int32.ofNat_mul a b).symm
theorem nI_sub {a b : Nat} (h : b ≤ a) : nI a - nI b = nI (a - b) := by
  have : nI (a - b) + nI b = nI a := by rw [nI_add]; congr 1; omega
  rw [← this]
  exact Int32.add_sub_cancel _ _
/-- a number between two bounds is the number of a natural -/
theorem nI_rng {v : Int32} {m : Nat} (hm : m < 2147483648) (h0 : (0 : Int32) ≤ v) (h1 : v ≤ nI m) : ∃ k, k ≤ m ∧ v = nI k := by
  have hn : ¬ v < 0 := Int32.not_lt.mpr h0
  obtain ⟨j, hj, rfl⟩ := nI_of hn
  exact ⟨j, (nI_leI hj hm).mp h1, rfl⟩
theorem up_up {α : Type} (f : Nat → α) (k : Nat) (u v : α) : va_up (va_up f k u) k v = va_up f k v := by
  funext j
  by_cases h : j = k <;> simp [va_up, h]
theorem up_id {α : Type} (f : Nat → α) (k : Nat) : va_up f k (f k) = f := by
  funext j
  by_cases h : j = k <;> simp [va_up, h]
