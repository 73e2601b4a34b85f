/-! Between two calls. -/
def PI (I : HI) (R : HR) (N : HN) (n : Nat) : Prop := (I 0 2 = 0 ∧ I 117 3 = 0) ∨ (I 0 2 = 1 ∧ I 117 3 = 1 ∧ VO (I 119) ∧ WC I R N n 30 (I 119))
def PT (I : HI) : Prop := ∃ z, z ≤ 96 ∧ I 78 1 = nI z ∧ I 117 17 = nI z ∧ ∀ i, i < z → I 79 i = I 129 i ∧ inN (I 129 i) 0 255
def PX (I : HI) : Prop := SO (I 137) (I 138) ∧ SHC I (I 137) (I 138) (I 139)
def PY (I : HI) : Prop := SLO (I 140, I 141, I 142, I 143) ∧ SLC I (I 140, I 141, I 142, I 143)
def PZ (I : HI) : Prop := ∃ m, m ≤ 60 ∧ I 0 10 = nI m ∧ I 117 43 = nI m ∧ ∀ j, j < m → I 83 j = I 145 j
def INV (I : HI) (R : HR) (N : HN) (n : Nat) : Prop := SK R N ∧ 146 ≤ n ∧ (VO (I 118) ∧ WC I R N n 1 (I 118)) ∧ PI I R N n ∧ PT I ∧ PX I ∧ PY I ∧ PZ I ∧ KYC I
section
variable {I I' I1 I2 : HI} {R R' : HR} {N N' : HN} {n n' : Nat}
theorem PI.keep (h : PI I R N n) (h0 : I' 0 2 = I 0 2) (h1 : I' 117 3 = I 117 3) (h2 : I' 119 = I 119) (h3 : ∀ q, WA 30 q → I' q = I q) : PI I' R N n := by
  rcases h with ⟨a, b⟩ | ⟨a, b, c, d⟩
  · exact Or.inl ⟨h0.trans a, h1.trans b⟩
  · exact Or.inr ⟨h0.trans a, h1.trans b, by rw [h2]; exact c, by rw [h2]; exact d.keep c h3⟩
theorem PT.keep (h : PT I) (h0 : I' 78 1 = I 78 1) (h1 : I' 117 17 = I 117 17) (h2 : I' 79 = I 79) (h3 : I' 129 = I 129) : PT I' := by
  obtain ⟨z, a, b, c, d⟩ := h
  exact ⟨z, a, h0.trans b, h1.trans c, by rw [h2, h3]; exact d⟩
theorem PX.keep (h : PX I) (h0 : ∀ q, 84 ≤ q → q < 92 → I' q = I q) (h1 : ∀ q, 137 ≤ q → q < 140 → I' q = I q) : PX I' := by
  obtain ⟨a, b⟩ := h
  unfold PX
  rw [h1 137 (by decide) (by decide), h1 138 (by decide) (by decide), h1 139 (by decide) (by decide)]
  refine ⟨a, fun s hs => ?_⟩
  rw [h0 (84 + 2 * s) (by omega) (by omega), h0 (85 + 2 * s) (by omega) (by omega)]
  exact b s hs
theorem PY.keep (h : PY I) (h0 : ∀ q, 92 ≤ q → q < 117 → I' q = I q) (h1 : ∀ q, 140 ≤ q → q < 144 → I' q = I q) : PY I' := by
  obtain ⟨a, b⟩ := h
  unfold PY
  rw [h1 140 (by decide) (by decide), h1 141 (by decide) (by decide), h1 142 (by decide) (by decide), h1 143 (by decide) (by decide)]
  refine ⟨a, fun s hs => ?_⟩
  rw [h0 (92 + 5 * s) (by omega) (by omega), h0 (93 + 5 * s) (by omega) (by omega), h0 (94 + 5 * s) (by omega) (by omega), h0 (95 + 5 * s) (by omega) (by omega), h0 (96 + 5 * s) (by omega) (by omega)]
  exact b s hs
theorem PZ.keep (h : PZ I) (h0 : I' 0 10 = I 0 10) (h1 : I' 117 43 = I 117 43) (h2 : I' 83 = I 83) (h3 : I' 145 = I 145) : PZ I' := by
  obtain ⟨z, a, b, c, d⟩ := h
  exact ⟨z, a, h0.trans b, h1.trans c, by rw [h2, h3]; exact d⟩
theorem KYC.keep (h : KYC I) (h0 : I' 130 = I 130) (h1 : I' 131 = I 131) : KYC I' := by
  unfold KYC
  rw [h0, h1]
  exact h
/-- the worlds' parts stay where nothing of theirs changes -/
theorem inv_W (h : INV I R N n) {V' : VV} (hV' : VO V') (h1 : ∀ q, FC q → I1 q = I q) (hC : WC I1 R N n 1 V') (h2 : ∀ q, FM q → I2 q = I1 q) (h118 : I2 118 = V') : INV I2 R N n := by
  obtain ⟨hs, hn, -, hPI, hPT, hPX, hPY, hPZ, hKY⟩ := h
  have e : ∀ q, FC q → FM q → I2 q = I q := fun q a b => (h2 q b).trans (h1 q a)
  refine ⟨hs, hn, ⟨by rw [h118]; exact hV', by rw [h118]; exact hC.keep hV' (fun q hq => h2 q (by unfold WA at hq; unfold FM; omega))⟩, hPI.keep ?_ ?_ ?_ ?_, hPT.keep ?_ ?_ ?_ ?_, hPX.keep ?_ ?_, hPY.keep ?_ ?_, hPZ.keep ?_ ?_ ?_ ?_, hKY.keep ?_ ?_⟩
  · rw [e 0 (by unfold FC; omega) (by unfold FM; omega)]
  · rw [e 117 (by unfold FC; omega) (by unfold FM; omega)]
  · exact e 119 (by unfold FC; omega) (by unfold FM; omega)
  · exact fun q hq => e q (by unfold WA at hq; unfold FC; omega) (by unfold WA at hq; unfold FM; omega)
  · rw [e 78 (by unfold FC; omega) (by unfold FM; omega)]
  · rw [e 117 (by unfold FC; omega) (by unfold FM; omega)]
  · exact e 79 (by unfold FC; omega) (by unfold FM; omega)
  · exact e 129 (by unfold FC; omega) (by unfold FM; omega)
  · exact fun q a b => e q (by unfold FC; omega) (by unfold FM; omega)
  · exact fun q a b => e q (by unfold FC; omega) (by unfold FM; omega)
  · exact fun q a b => e q (by unfold FC; omega) (by unfold FM; omega)
  · exact fun q a b => e q (by unfold FC; omega) (by unfold FM; omega)
  · rw [e 0 (by unfold FC; omega) (by unfold FM; omega)]
  · rw [e 117 (by unfold FC; omega) (by unfold FM; omega)]
  · exact e 83 (by unfold FC; omega) (by unfold FM; omega)
  · exact e 145 (by unfold FC; omega) (by unfold FM; omega)
  · exact e 130 (by unfold FC; omega) (by unfold FM; omega)
  · exact e 131 (by unfold FC; omega) (by unfold FM; omega)
/-- where I2 is I but for the rows of a list -/
theorem inv_T (h : INV I R N n) (e : ∀ q, q ≠ 78 → q ≠ 79 → q ≠ 117 → q ≠ 129 → I2 q = I q) (e117 : ∀ j, j ≠ 17 → I2 117 j = I 117 j) (hT : PT I2) : INV I2 R N n := by
  obtain ⟨hs, hn, ⟨hV, hC⟩, hPI, -, hPX, hPY, hPZ, hKY⟩ := h
  have e118 : I2 118 = I 118 := e 118 (by decide) (by decide) (by decide) (by decide)
  refine ⟨hs, hn, ⟨by rw [e118]; exact hV, by rw [e118]; exact hC.keep hV (fun q hq => e q (by unfold WA at hq; omega) (by unfold WA at hq; omega) (by unfold WA at hq; omega) (by unfold WA at hq; omega))⟩, hPI.keep ?_ (e117 3 (by decide)) ?_ ?_, hT, hPX.keep ?_ ?_, hPY.keep ?_ ?_, hPZ.keep ?_ (e117 43 (by decide)) ?_ ?_, hKY.keep ?_ ?_⟩
  · rw [e 0 (by decide) (by decide) (by decide) (by decide)]
  · exact e 119 (by decide) (by decide) (by decide) (by decide)
  · exact fun q hq => e q (by unfold WA at hq; omega) (by unfold WA at hq; omega) (by unfold WA at hq; omega) (by unfold WA at hq; omega)
  · exact fun q a b => e q (by omega) (by omega) (by omega) (by omega)
  · exact fun q a b => e q (by omega) (by omega) (by omega) (by omega)
  · exact fun q a b => e q (by omega) (by omega) (by omega) (by omega)
  · exact fun q a b => e q (by omega) (by omega) (by omega) (by omega)
  · rw [e 0 (by decide) (by decide) (by decide) (by decide)]
  · exact e 83 (by decide) (by decide) (by decide) (by decide)
  · exact e 145 (by decide) (by decide) (by decide) (by decide)
  · exact e 130 (by decide) (by decide) (by decide) (by decide)
  · exact e 131 (by decide) (by decide) (by decide) (by decide)
theorem inv_feed (h : INV I R N n) {a b c : Int32} {z : Nat} (hz : z ≤ 96) (hzt : ∀ i, i < z → I 79 i = I 129 i ∧ inN (I 129 i) 0 255)
    (a1 : ∀ q, q ≠ 78 → q ≠ 79 → I1 q = I q) (a2 : ∀ j, j ≠ 1 → I1 78 j = I 78 j) (a3 : I1 78 1 = nI (if z ≤ 84 then z + 12 else z)) (a4 : ∀ i, I1 79 i = if z ≤ 84 ∧ z ≤ i ∧ i < z + 12 then fdB a b c (i - z) else I 79 i)
    (b1 : ∀ q, q ≠ 117 → q ≠ 129 → I2 q = I1 q) (b2 : ∀ j, j ≠ 17 → I2 117 j = I1 117 j) (b3 : I2 117 17 = nI (if z ≤ 84 then z + 12 else z)) (b4 : ∀ i, I2 129 i = if z ≤ 84 ∧ z ≤ i ∧ i < z + 12 then fdB a b c (i - z) else I1 129 i) : INV I2 R N n := by
  refine inv_T h (fun q c1 c2 c3 c4 => (b1 q c3 c4).trans (a1 q c1 c2)) (fun j hj => (b2 j hj).trans (by rw [a1 117 (by decide) (by decide)])) ⟨if z ≤ 84 then z + 12 else z, by split <;> omega, by rw [b1 78 (by decide) (by decide)]; exact a3, b3, fun i hi => ?_⟩
  rw [b1 79 (by decide) (by decide), a4 i, b4 i, a1 129 (by decide) (by decide)]
  by_cases e : z ≤ 84 ∧ z ≤ i ∧ i < z + 12
  · rw [if_pos e, if_pos e]; exact ⟨rfl, fd_rng _ _ _ _⟩
  · rw [if_neg e, if_neg e]
    exact hzt i (by
      by_cases q : z ≤ 84
      · rw [if_pos q] at hi; omega
      · rw [if_neg q] at hi; exact hi)
theorem inv_trim (h : INV I R N n) {v : Int32} {z : Nat} (hz : z ≤ 96) (hzt : ∀ i, i < z → I 79 i = I 129 i ∧ inN (I 129 i) 0 255)
    (a1 : ∀ q, q ≠ 78 → I1 q = I q) (a3 : I1 78 1 = cif (0 ≤ v ∧ v ≤ nI z) v (nI z))
    (b1 : ∀ q, q ≠ 117 → I2 q = I1 q) (b2 : ∀ j, j ≠ 17 → I2 117 j = I1 117 j) (b3 : I2 117 17 = cif (0 ≤ v ∧ v ≤ nI z) v (nI z)) : INV I2 R N n := by
  refine inv_T h (fun q c1 c2 c3 c4 => (b1 q c3).trans (a1 q c1)) (fun j hj => (b2 j hj).trans (by rw [a1 117 (by decide)])) ?_
  have e : I2 79 = I 79 ∧ I2 129 = I 129 := ⟨(b1 79 (by decide)).trans (a1 79 (by decide)), (b1 129 (by decide)).trans (a1 129 (by decide))⟩
  by_cases hv : 0 ≤ v ∧ v ≤ nI z
  · obtain ⟨k, hk, rfl⟩ := nI_rng (m := z) (by omega) hv.1 hv.2
    rw [cif_t hv] at a3 b3
    exact ⟨k, by omega, by rw [b1 78 (by decide)]; exact a3, b3, fun i hi => by rw [e.1, e.2]; exact hzt i (by omega)⟩
  · rw [cif_f hv] at a3 b3
    exact ⟨z, hz, by rw [b1 78 (by decide)]; exact a3, b3, fun i hi => by rw [e.1, e.2]; exact hzt i hi⟩
theorem inv_text (h : INV I R N n) {r : Nat × Option (Nat × List Int32 × Nat)} (hr : okR r) (a1 : ∀ q, q < n → q ≠ 1 → q ≠ 11 → q ≠ 77 → q ≠ 78 → q ≠ 80 → I1 q = I q) (a2 : I1 78 1 = 0) (hs' : SK R' N') (hn' : n ≤ n') (hC' : WC I1 R' N' n' 1 (oText (I 118) r).1) (hW : ∀ V2 : VV, VO V2 → WC I R N n 30 V2 → WC I1 R' N' n' 30 V2)
    (b1 : ∀ q, q ≠ 117 → q ≠ 118 → q ≠ 132 → q ≠ 133 → q ≠ 134 → I2 q = I1 q) (b2 : ∀ j, (j < 17 ∨ 31 ≤ j) → I2 117 j = I1 117 j) (b3 : I2 117 17 = 0) (b4 : I2 118 = (oText (I 118) r).1) : INV I2 R' N' n' := by
  obtain ⟨hs, hn, ⟨hV, hC⟩, hPI, -, hPX, hPY, hPZ, hKY⟩ := h
  have hV' := VO_oText hV hr
  have e : ∀ q, q < 146 → q ≠ 1 → q ≠ 11 → q ≠ 77 → q ≠ 78 → q ≠ 80 → q ≠ 117 → q ≠ 118 → q ≠ 132 → q ≠ 133 → q ≠ 134 → I2 q = I q := fun q c0 c1 c2 c3 c4 c5 d1 d2 d3 d4 d5 => (b1 q d1 d2 d3 d4 d5).trans (a1 q (by omega) c1 c2 c3 c4 c5)
  have e117 : ∀ j, (j < 17 ∨ 31 ≤ j) → I2 117 j = I 117 j := fun j hj => (b2 j hj).trans (by rw [a1 117 (by omega) (by decide) (by decide) (by decide) (by decide) (by decide)])
  have eE : ∀ q, 119 ≤ q → q < 132 → I2 q = I q := fun q x y => e q (by omega) (by omega) (by omega) (by omega) (by omega) (by omega) (by omega) (by omega) (by omega) (by omega) (by omega)
  have eF : ∀ q, (q = 0 ∨ (81 ≤ q ∧ q < 117) ∨ (135 ≤ q ∧ q < 146)) → I2 q = I q := fun q x => e q (by omega) (by omega) (by omega) (by omega) (by omega) (by omega) (by omega) (by omega) (by omega) (by omega) (by omega)
  refine ⟨hs', by omega, ⟨by rw [b4]; exact hV', by rw [b4]; exact hC'.keep hV' (fun q hq => b1 q (by unfold WA at hq; omega) (by unfold WA at hq; omega) (by unfold WA at hq; omega) (by unfold WA at hq; omega) (by unfold WA at hq; omega))⟩, ?_, ⟨0, by omega, by rw [b1 78 (by decide) (by decide) (by decide) (by decide) (by decide)]; exact a2, b3, fun i hi => absurd hi (Nat.not_lt_zero i)⟩, hPX.keep (fun q x y => eF q (by omega)) (fun q x y => eF q (by omega)), hPY.keep (fun q x y => eF q (by omega)) (fun q x y => eF q (by omega)), hPZ.keep (by rw [eF 0 (by omega)]) (e117 43 (by omega)) (eF 83 (by omega)) (eF 145 (by omega)), hKY.keep (eE 130 (by omega) (by omega)) (eE 131 (by omega) (by omega))⟩
  rcases hPI with ⟨x, y⟩ | ⟨x, y, u, v⟩
  · exact Or.inl ⟨by rw [eF 0 (by omega)]; exact x, (e117 3 (by omega)).trans y⟩
  · refine Or.inr ⟨by rw [eF 0 (by omega)]; exact x, (e117 3 (by omega)).trans y, by rw [eE 119 (by omega) (by omega)]; exact u, ?_⟩
    rw [eE 119 (by omega) (by omega)]
    exact (hW _ u v).keep u (fun q hq => b1 q (by unfold WA at hq; omega) (by unfold WA at hq; omega) (by unfold WA at hq; omega) (by unfold WA at hq; omega) (by unfold WA at hq; omega))
/-- where the rows of sheets alone change -/
theorem inv_X (h : INV I R N n) (e : ∀ q, (q < 84 ∨ 92 ≤ q) → q ≠ 137 → q ≠ 138 → q ≠ 139 → q ≠ 144 → I2 q = I q) (hX : PX I2) : INV I2 R N n := by
  obtain ⟨hs, hn, ⟨hV, hC⟩, hPI, hPT, -, hPY, hPZ, hKY⟩ := h
  have e1 : ∀ q, (q < 84 ∨ 92 ≤ q) → (q < 137 ∨ 140 ≤ q) → q ≠ 144 → I2 q = I q := fun q a b c => e q a (by omega) (by omega) (by omega) c
  have e118 : I2 118 = I 118 := e1 118 (by omega) (by omega) (by omega)
  exact ⟨hs, hn, ⟨by rw [e118]; exact hV, by rw [e118]; exact hC.keep hV (fun q hq => e1 q (by unfold WA at hq; omega) (by unfold WA at hq; omega) (by unfold WA at hq; omega))⟩, hPI.keep (by rw [e1 0 (by omega) (by omega) (by omega)]) (by rw [e1 117 (by omega) (by omega) (by omega)]) (e1 119 (by omega) (by omega) (by omega)) (fun q hq => e1 q (by unfold WA at hq; omega) (by unfold WA at hq; omega) (by unfold WA at hq; omega)), hPT.keep (by rw [e1 78 (by omega) (by omega) (by omega)]) (by rw [e1 117 (by omega) (by omega) (by omega)]) (e1 79 (by omega) (by omega) (by omega)) (e1 129 (by omega) (by omega) (by omega)), hX, hPY.keep (fun q x y => e1 q (by omega) (by omega) (by omega)) (fun q x y => e1 q (by omega) (by omega) (by omega)), hPZ.keep (by rw [e1 0 (by omega) (by omega) (by omega)]) (by rw [e1 117 (by omega) (by omega) (by omega)]) (e1 83 (by omega) (by omega) (by omega)) (e1 145 (by omega) (by omega) (by omega)), hKY.keep (e1 130 (by omega) (by omega) (by omega)) (e1 131 (by omega) (by omega) (by omega))⟩
theorem inv_Y (h : INV I R N n) (e : ∀ q, (q < 92 ∨ 117 ≤ q) → (q < 140 ∨ 144 ≤ q) → I2 q = I q) (hY : PY I2) : INV I2 R N n := by
  obtain ⟨hs, hn, ⟨hV, hC⟩, hPI, hPT, hPX, -, hPZ, hKY⟩ := h
  have e118 : I2 118 = I 118 := e 118 (by omega) (by omega)
  exact ⟨hs, hn, ⟨by rw [e118]; exact hV, by rw [e118]; exact hC.keep hV (fun q hq => e q (by unfold WA at hq; omega) (by unfold WA at hq; omega))⟩, hPI.keep (by rw [e 0 (by omega) (by omega)]) (by rw [e 117 (by omega) (by omega)]) (e 119 (by omega) (by omega)) (fun q hq => e q (by unfold WA at hq; omega) (by unfold WA at hq; omega)), hPT.keep (by rw [e 78 (by omega) (by omega)]) (by rw [e 117 (by omega) (by omega)]) (e 79 (by omega) (by omega)) (e 129 (by omega) (by omega)), hPX.keep (fun q x y => e q (by omega) (by omega)) (fun q x y => e q (by omega) (by omega)), hY, hPZ.keep (by rw [e 0 (by omega) (by omega)]) (by rw [e 117 (by omega) (by omega)]) (e 83 (by omega) (by omega)) (e 145 (by omega) (by omega)), hKY.keep (e 130 (by omega) (by omega)) (e 131 (by omega) (by omega))⟩
/-- where what waits alone changes, and what each call may -/
theorem inv_Z (h : INV I R N n) (e : ∀ q, q ≠ 0 → q ≠ 42 → (q < 60 ∨ 77 ≤ q) → q ≠ 83 → q ≠ 117 → q ≠ 120 → (q < 121 ∨ 129 ≤ q) → (q < 135 ∨ 137 ≤ q) → q ≠ 145 → I2 q = I q) (e0 : ∀ j, j ≠ 10 → I2 0 j = I 0 j) (e117 : ∀ j, j ≠ 43 → I2 117 j = I 117 j) (hZ : PZ I2) : INV I2 R N n := by
  obtain ⟨hs, hn, ⟨hV, hC⟩, hPI, hPT, hPX, hPY, -, hKY⟩ := h
  have e1 : ∀ q, ((1 ≤ q ∧ q < 60 ∧ q ≠ 42) ∨ (77 ≤ q ∧ q < 83) ∨ (84 ≤ q ∧ q < 117) ∨ q = 118 ∨ q = 119 ∨ (129 ≤ q ∧ q < 135) ∨ (137 ≤ q ∧ q < 145) ∨ 146 ≤ q) → I2 q = I q := fun q x => e q (by omega) (by omega) (by omega) (by omega) (by omega) (by omega) (by omega) (by omega) (by omega)
  have e118 : I2 118 = I 118 := e1 118 (by omega)
  exact ⟨hs, hn, ⟨by rw [e118]; exact hV, by rw [e118]; exact hC.keep hV (fun q hq => e1 q (by unfold WA at hq; omega))⟩, hPI.keep (e0 2 (by decide)) (e117 3 (by decide)) (e1 119 (by omega)) (fun q hq => e1 q (by unfold WA at hq; omega)), hPT.keep (by rw [e1 78 (by omega)]) (e117 17 (by decide)) (e1 79 (by omega)) (e1 129 (by omega)), hPX.keep (fun q x y => e1 q (by omega)) (fun q x y => e1 q (by omega)), hPY.keep (fun q x y => e1 q (by omega)) (fun q x y => e1 q (by omega)), hZ, hKY.keep (e1 130 (by omega)) (e1 131 (by omega))⟩
theorem inv_keep (h : INV I R N n) (a1 : ∀ q, (q < 30 ∨ 59 ≤ q) → q ≠ 0 → I1 q = I q) (a2 : ∀ j, j ≠ 2 → I1 0 j = I 0 j) (a3 : I1 0 2 = 1) (hs' : SK R' N) (c1 : WC I1 R' N n 1 (I 118)) (c2 : WC I1 R' N n 30 (I 118)) (b1 : ∀ q, q ≠ 117 → q ≠ 119 → I2 q = I1 q) (b2 : ∀ j, j ≠ 3 → I2 117 j = I1 117 j) (b3 : I2 117 3 = 1) (b4 : I2 119 = mixV (I1 118) (I1 119)) : INV I2 R' N n := by
  obtain ⟨hs, hn, ⟨hV, hC⟩, -, hPT, hPX, hPY, hPZ, hKY⟩ := h
  have e : ∀ q, ((1 ≤ q ∧ q < 30) ∨ (59 ≤ q ∧ q < 117) ∨ q = 118 ∨ 120 ≤ q) → I2 q = I q := fun q x => (b1 q (by omega) (by omega)).trans (a1 q (by omega) (by omega))
  have e118 : I2 118 = I 118 := e 118 (by omega)
  have e0 : ∀ j, j ≠ 2 → I2 0 j = I 0 j := fun j hj => by rw [b1 0 (by decide) (by decide)]; exact a2 j hj
  have e117 : ∀ j, j ≠ 3 → I2 117 j = I 117 j := fun j hj => (b2 j hj).trans (by rw [a1 117 (by omega) (by decide)])
  have hx : ∀ j, j < 1452 → I2 119 j = I 118 j := fun j hj => by rw [b4, mix_lo _ _ hj, a1 118 (by omega) (by decide)]
  exact ⟨hs', hn, ⟨by rw [e118]; exact hV, by rw [e118]; exact c1.keep hV (fun q hq => b1 q (by unfold WA at hq; omega) (by unfold WA at hq; omega))⟩, Or.inr ⟨by rw [b1 0 (by decide) (by decide)]; exact a3, b3, VO.ext hx hV, WC.ext hx hV (c2.keep hV (fun q hq => b1 q (by unfold WA at hq; omega) (by unfold WA at hq; omega)))⟩, hPT.keep (by rw [e 78 (by omega)]) (e117 17 (by decide)) (e 79 (by omega)) (e 129 (by omega)), hPX.keep (fun q x y => e q (by omega)) (fun q x y => e q (by omega)), hPY.keep (fun q x y => e q (by omega)) (fun q x y => e q (by omega)), hPZ.keep (e0 10 (by decide)) (e117 43 (by decide)) (e 83 (by omega)) (e 145 (by omega)), hKY.keep (e 130 (by omega)) (e 131 (by omega))⟩
theorem inv_back (h : INV I R N n) (hk : I 0 2 = 1) (hk2 : I 117 3 = 1) (hV2 : VO (I 119)) (a1 : ∀ q, (q < 1 ∨ 30 ≤ q) → I1 q = I q) (hs' : SK R' N) (c1 : WC I1 R' N n 1 (I 119)) (c2 : WC I1 R' N n 30 (I 119)) : INV (va_up I1 118 (mixV (I1 119) (I1 118))) R' N n := by
  obtain ⟨hs, hn, ⟨hV, hC⟩, -, hPT, hPX, hPY, hPZ, hKY⟩ := h
  have b1 : ∀ q, q ≠ 118 → (va_up I1 118 (mixV (I1 119) (I1 118))) q = I1 q := fun q hq => va_up_ne _ _ hq
  have e : ∀ q, (q < 1 ∨ 30 ≤ q) → q ≠ 118 → (va_up I1 118 (mixV (I1 119) (I1 118))) q = I q := fun q x y => (b1 q y).trans (a1 q x)
  have hx : ∀ j, j < 1452 → (va_up I1 118 (mixV (I1 119) (I1 118))) 118 j = I 119 j := fun j hj => by rw [va_up_self, mix_lo _ _ hj, a1 119 (by omega)]
  have e119 : (va_up I1 118 (mixV (I1 119) (I1 118))) 119 = I 119 := e 119 (by omega) (by decide)
  refine ⟨hs', hn, ⟨VO.ext hx hV2, WC.ext hx hV2 (c1.keep hV2 (fun q hq => b1 q (by unfold WA at hq; omega)))⟩, Or.inr ⟨by rw [e 0 (by omega) (by decide)]; exact hk, by rw [e 117 (by omega) (by decide)]; exact hk2, by rw [e119]; exact hV2, by rw [e119]; exact c2.keep hV2 (fun q hq => b1 q (by unfold WA at hq; omega))⟩, hPT.keep (by rw [e 78 (by omega) (by decide)]) (by rw [e 117 (by omega) (by decide)]) (e 79 (by omega) (by decide)) (e 129 (by omega) (by decide)), hPX.keep (fun q x y => e q (by omega) (by omega)) (fun q x y => e q (by omega) (by omega)), hPY.keep (fun q x y => e q (by omega) (by omega)) (fun q x y => e q (by omega) (by omega)), hPZ.keep (by rw [e 0 (by omega) (by decide)]) (by rw [e 117 (by omega) (by decide)]) (e 83 (by omega) (by decide)) (e 145 (by omega) (by decide)), hKY.keep (e 130 (by omega) (by decide)) (e 131 (by omega) (by decide))⟩
end
theorem VO_0 {V : VV} (h1 : V 1 = 0) (h2 : V 2 = 0) (h3 : V 3 = -1) (h4 : V 4 = -1) (h5 : V 5 = 0) : VO V ∧ nS V = 0 ∧ nRu V = 0 ∧ nTx V = 0 := by
  have e1 : nS V = 0 := by unfold nS; rw [h1]; rfl
  have e2 : nRu V = 0 := by unfold nRu; rw [h2]; rfl
  have e5 : nTx V = 0 := by unfold nTx; rw [h5]; rfl
  exact ⟨⟨⟨by rw [h1, e1]; rfl, by omega⟩, ⟨by rw [h2, e2]; rfl, by omega⟩, ⟨by rw [h5, e5]; rfl, by omega⟩, fun s hs => absurd hs (by omega), fun r hr => absurd hr (by omega), Or.inl h3, Or.inl h4, fun t ht => absurd ht (by omega)⟩, e1, e2, e5⟩

set_option maxRecDepth 20000 in
theorem SK_0 {I : HI} {R : HR} {N : HN} (hF : kFS I R N) (hR : kMR R) (hN : kMN N) : SK R N := by
  obtain ⟨⟨a0, hu⟩, ⟨a1, hv⟩, ⟨a3, hp⟩, ⟨a4, ru⟩, a5, ⟨a6, pa⟩, ⟨a7, n81⟩, ⟨a8, n82⟩, ⟨a9, n83⟩, sh, sl, k2, k10⟩ := hF
  obtain ⟨u0, u1, u2, u3, u4, u5, u6, u7, u8, u9, u10, u11, u12, u13, u14, u15, u16, u17, u18, u19, u20, u21, u22, u23, u24, u25, u26, u27, u28, u29, u30, u31, u32⟩ := hu
  obtain ⟨v0, v1, v2, v3, v4, v5, v6, v7, v8, v9, v10, v11, v12, v13, v14, v15, v16, v17, v18, v19, v20, v21, v22, v23, v24, v25, v26, v27, v28, v29, v30, v31, v32⟩ := hv
  obtain ⟨p0, p1, p2, p3, p4, p5, p6, p7, p8, p9, p10, p11, p12, p13, p14, p15, p16, p17, p18, p19, p20, p21, p22, p23, p24, p25, p26, p27⟩ := hp
  obtain ⟨r0, r1, r2, r3, r4, r5, r6, r7, r8, r9, r10, r11, r12, r13, r14, r15, r16, r17, r18, r19, r20, r21, r22, r23, r24, r25, r26, r27⟩ := hR
  obtain ⟨m0, m1, m2, m3, m4, m5, m6, m7, m8, m9, m10, m11, m12, m13, m14, m15, m16, m17, m18, m19, m20, m21, m22, m23, m24, m25, m26, m27⟩ := hN
  exact ⟨List.forall_mem_cons.mpr ⟨a0, List.forall_mem_cons.mpr ⟨a1, List.forall_mem_cons.mpr ⟨a3, List.forall_mem_cons.mpr ⟨a4, List.forall_mem_cons.mpr ⟨a5, List.forall_mem_cons.mpr ⟨a6, List.forall_mem_cons.mpr ⟨a7, List.forall_mem_cons.mpr ⟨a8, List.forall_mem_cons.mpr ⟨a9, List.forall_mem_cons.mpr ⟨u0, List.forall_mem_cons.mpr ⟨u14, List.forall_mem_cons.mpr ⟨u16, List.forall_mem_cons.mpr ⟨u18, List.forall_mem_cons.mpr ⟨u20, List.forall_mem_cons.mpr ⟨u21, List.forall_mem_cons.mpr ⟨u2, List.forall_mem_cons.mpr ⟨u3, List.forall_mem_cons.mpr ⟨u4, List.forall_mem_cons.mpr ⟨u5, List.forall_mem_cons.mpr ⟨u6, List.forall_mem_cons.mpr ⟨u7, List.forall_mem_cons.mpr ⟨(u23 0 (by decide)).1, List.forall_mem_cons.mpr ⟨(u23 1 (by decide)).1, List.forall_mem_cons.mpr ⟨(u23 2 (by decide)).1, List.forall_mem_cons.mpr ⟨(u23 3 (by decide)).1, List.forall_mem_cons.mpr ⟨(u23 4 (by decide)).1, List.forall_mem_cons.mpr ⟨(u23 5 (by decide)).1, List.forall_mem_cons.mpr ⟨(u23 6 (by decide)).1, List.forall_mem_cons.mpr ⟨(u23 7 (by decide)).1, List.forall_mem_cons.mpr ⟨(u23 0 (by decide)).2.1, List.forall_mem_cons.mpr ⟨(u23 1 (by decide)).2.1, List.forall_mem_cons.mpr ⟨(u23 2 (by decide)).2.1, List.forall_mem_cons.mpr ⟨(u23 3 (by decide)).2.1, List.forall_mem_cons.mpr ⟨(u23 4 (by decide)).2.1, List.forall_mem_cons.mpr ⟨(u23 5 (by decide)).2.1, List.forall_mem_cons.mpr ⟨(u23 6 (by decide)).2.1, List.forall_mem_cons.mpr ⟨(u23 7 (by decide)).2.1, List.forall_mem_cons.mpr ⟨v0, List.forall_mem_cons.mpr ⟨v14, List.forall_mem_cons.mpr ⟨v16, List.forall_mem_cons.mpr ⟨v18, List.forall_mem_cons.mpr ⟨v20, List.forall_mem_cons.mpr ⟨v21, List.forall_mem_cons.mpr ⟨v2, List.forall_mem_cons.mpr ⟨v3, List.forall_mem_cons.mpr ⟨v4, List.forall_mem_cons.mpr ⟨v5, List.forall_mem_cons.mpr ⟨v6, List.forall_mem_cons.mpr ⟨v7, List.forall_mem_cons.mpr ⟨(v23 0 (by decide)).1, List.forall_mem_cons.mpr ⟨(v23 1 (by decide)).1, List.forall_mem_cons.mpr ⟨(v23 2 (by decide)).1, List.forall_mem_cons.mpr ⟨(v23 3 (by decide)).1, List.forall_mem_cons.mpr ⟨(v23 4 (by decide)).1, List.forall_mem_cons.mpr ⟨(v23 5 (by decide)).1, List.forall_mem_cons.mpr ⟨(v23 6 (by decide)).1, List.forall_mem_cons.mpr ⟨(v23 7 (by decide)).1, List.forall_mem_cons.mpr ⟨(v23 0 (by decide)).2.1, List.forall_mem_cons.mpr ⟨(v23 1 (by decide)).2.1, List.forall_mem_cons.mpr ⟨(v23 2 (by decide)).2.1, List.forall_mem_cons.mpr ⟨(v23 3 (by decide)).2.1, List.forall_mem_cons.mpr ⟨(v23 4 (by decide)).2.1, List.forall_mem_cons.mpr ⟨(v23 5 (by decide)).2.1, List.forall_mem_cons.mpr ⟨(v23 6 (by decide)).2.1, List.forall_mem_cons.mpr ⟨(v23 7 (by decide)).2.1, List.forall_mem_cons.mpr ⟨p0, List.forall_mem_cons.mpr ⟨p2, List.forall_mem_cons.mpr ⟨p16, List.forall_mem_cons.mpr ⟨p18, List.forall_mem_cons.mpr ⟨p20, List.forall_mem_cons.mpr ⟨p22, List.forall_mem_cons.mpr ⟨p24, List.forall_mem_cons.mpr ⟨p26, List.forall_mem_cons.mpr ⟨p4, List.forall_mem_cons.mpr ⟨p5, List.forall_mem_cons.mpr ⟨p6, List.forall_mem_cons.mpr ⟨p7, List.forall_mem_cons.mpr ⟨p8, List.forall_mem_cons.mpr ⟨p9, List.forall_mem_cons.mpr ⟨ru.1, List.forall_mem_cons.mpr ⟨pa.1, List.forall_mem_cons.mpr ⟨pa.2.2.1, List.forall_mem_cons.mpr ⟨pa.2.1.1, List.forall_mem_cons.mpr ⟨(sh 0 (by decide)).1, List.forall_mem_cons.mpr ⟨(sh 1 (by decide)).1, List.forall_mem_cons.mpr ⟨(sh 2 (by decide)).1, List.forall_mem_cons.mpr ⟨(sh 3 (by decide)).1, List.forall_mem_cons.mpr ⟨(sl 0 (by decide)).1, List.forall_mem_cons.mpr ⟨(sl 1 (by decide)).1, List.forall_mem_cons.mpr ⟨(sl 2 (by decide)).1, List.forall_mem_cons.mpr ⟨(sl 3 (by decide)).1, List.forall_mem_cons.mpr ⟨(sl 4 (by decide)).1, List.forall_mem_cons.mpr ⟨(sh 0 (by decide)).2.1, List.forall_mem_cons.mpr ⟨(sh 1 (by decide)).2.1, List.forall_mem_cons.mpr ⟨(sh 2 (by decide)).2.1, List.forall_mem_cons.mpr ⟨(sh 3 (by decide)).2.1, List.forall_mem_cons.mpr ⟨(sl 0 (by decide)).2.2.1, List.forall_mem_cons.mpr ⟨(sl 0 (by decide)).2.2.2.2.1, List.forall_mem_cons.mpr ⟨(sl 0 (by decide)).2.2.2.1.1, List.forall_mem_cons.mpr ⟨(sl 0 (by decide)).2.2.2.2.2.1, List.forall_mem_cons.mpr ⟨(sl 1 (by decide)).2.2.1, List.forall_mem_cons.mpr ⟨(sl 1 (by decide)).2.2.2.2.1, List.forall_mem_cons.mpr ⟨(sl 1 (by decide)).2.2.2.1.1, List.forall_mem_cons.mpr ⟨(sl 1 (by decide)).2.2.2.2.2.1, List.forall_mem_cons.mpr ⟨(sl 2 (by decide)).2.2.1, List.forall_mem_cons.mpr ⟨(sl 2 (by decide)).2.2.2.2.1, List.forall_mem_cons.mpr ⟨(sl 2 (by decide)).2.2.2.1.1, List.forall_mem_cons.mpr ⟨(sl 2 (by decide)).2.2.2.2.2.1, List.forall_mem_cons.mpr ⟨(sl 3 (by decide)).2.2.1, List.forall_mem_cons.mpr ⟨(sl 3 (by decide)).2.2.2.2.1, List.forall_mem_cons.mpr ⟨(sl 3 (by decide)).2.2.2.1.1, List.forall_mem_cons.mpr ⟨(sl 3 (by decide)).2.2.2.2.2.1, List.forall_mem_cons.mpr ⟨(sl 4 (by decide)).2.2.1, List.forall_mem_cons.mpr ⟨(sl 4 (by decide)).2.2.2.2.1, List.forall_mem_cons.mpr ⟨(sl 4 (by decide)).2.2.2.1.1, List.forall_mem_cons.mpr ⟨(sl 4 (by decide)).2.2.2.2.2.1, List.forall_mem_cons.mpr ⟨r0, List.forall_mem_cons.mpr ⟨r1, List.forall_mem_cons.mpr ⟨r2, List.forall_mem_cons.mpr ⟨r3, List.forall_mem_cons.mpr ⟨r4, List.forall_mem_cons.mpr ⟨r5, List.forall_mem_cons.mpr ⟨r6, List.forall_mem_cons.mpr ⟨r7, List.forall_mem_cons.mpr ⟨r8, List.forall_mem_cons.mpr ⟨r9, List.forall_mem_cons.mpr ⟨r10, List.forall_mem_cons.mpr ⟨r11, List.forall_mem_cons.mpr ⟨r12, List.forall_mem_cons.mpr ⟨r13, List.forall_mem_cons.mpr ⟨r14, List.forall_mem_cons.mpr ⟨r15, List.forall_mem_cons.mpr ⟨r16, List.forall_mem_cons.mpr ⟨r17, List.forall_mem_cons.mpr ⟨r18, List.forall_mem_cons.mpr ⟨r19, List.forall_mem_cons.mpr ⟨r20, List.forall_mem_cons.mpr ⟨r21, List.forall_mem_cons.mpr ⟨r22, List.forall_mem_cons.mpr ⟨r23, List.forall_mem_cons.mpr ⟨r24, List.forall_mem_cons.mpr ⟨r25, List.forall_mem_cons.mpr ⟨r26, List.forall_mem_cons.mpr ⟨r27, fun _ h => absurd h List.not_mem_nil⟩⟩⟩⟩⟩⟩⟩⟩⟩⟩⟩⟩⟩⟩⟩⟩⟩⟩⟩⟩⟩⟩⟩⟩⟩⟩⟩⟩⟩⟩⟩⟩⟩⟩⟩⟩⟩⟩⟩⟩⟩⟩⟩⟩⟩⟩⟩⟩⟩⟩⟩⟩⟩⟩⟩⟩⟩⟩⟩⟩⟩⟩⟩⟩⟩⟩⟩⟩⟩⟩⟩⟩⟩⟩⟩⟩⟩⟩⟩⟩⟩⟩⟩⟩⟩⟩⟩⟩⟩⟩⟩⟩⟩⟩⟩⟩⟩⟩⟩⟩⟩⟩⟩⟩⟩⟩⟩⟩⟩⟩⟩⟩⟩⟩⟩⟩⟩⟩⟩⟩⟩⟩⟩⟩⟩⟩⟩⟩⟩⟩⟩⟩⟩⟩⟩⟩⟩⟩⟩⟩⟩⟩⟩⟩, List.forall_mem_cons.mpr ⟨u1, List.forall_mem_cons.mpr ⟨u8, List.forall_mem_cons.mpr ⟨u9, List.forall_mem_cons.mpr ⟨u10, List.forall_mem_cons.mpr ⟨u11, List.forall_mem_cons.mpr ⟨u12, List.forall_mem_cons.mpr ⟨u13, List.forall_mem_cons.mpr ⟨u15, List.forall_mem_cons.mpr ⟨u17, List.forall_mem_cons.mpr ⟨u19, List.forall_mem_cons.mpr ⟨u22, List.forall_mem_cons.mpr ⟨(u23 0 (by decide)).2.2, List.forall_mem_cons.mpr ⟨(u23 1 (by decide)).2.2, List.forall_mem_cons.mpr ⟨(u23 2 (by decide)).2.2, List.forall_mem_cons.mpr ⟨(u23 3 (by decide)).2.2, List.forall_mem_cons.mpr ⟨(u23 4 (by decide)).2.2, List.forall_mem_cons.mpr ⟨(u23 5 (by decide)).2.2, List.forall_mem_cons.mpr ⟨(u23 6 (by decide)).2.2, List.forall_mem_cons.mpr ⟨(u23 7 (by decide)).2.2, List.forall_mem_cons.mpr ⟨v1, List.forall_mem_cons.mpr ⟨v8, List.forall_mem_cons.mpr ⟨v9, List.forall_mem_cons.mpr ⟨v10, List.forall_mem_cons.mpr ⟨v11, List.forall_mem_cons.mpr ⟨v12, List.forall_mem_cons.mpr ⟨v13, List.forall_mem_cons.mpr ⟨v15, List.forall_mem_cons.mpr ⟨v17, List.forall_mem_cons.mpr ⟨v19, List.forall_mem_cons.mpr ⟨v22, List.forall_mem_cons.mpr ⟨(v23 0 (by decide)).2.2, List.forall_mem_cons.mpr ⟨(v23 1 (by decide)).2.2, List.forall_mem_cons.mpr ⟨(v23 2 (by decide)).2.2, List.forall_mem_cons.mpr ⟨(v23 3 (by decide)).2.2, List.forall_mem_cons.mpr ⟨(v23 4 (by decide)).2.2, List.forall_mem_cons.mpr ⟨(v23 5 (by decide)).2.2, List.forall_mem_cons.mpr ⟨(v23 6 (by decide)).2.2, List.forall_mem_cons.mpr ⟨(v23 7 (by decide)).2.2, List.forall_mem_cons.mpr ⟨p1, List.forall_mem_cons.mpr ⟨p3, List.forall_mem_cons.mpr ⟨p10, List.forall_mem_cons.mpr ⟨p11, List.forall_mem_cons.mpr ⟨p12, List.forall_mem_cons.mpr ⟨p13, List.forall_mem_cons.mpr ⟨p14, List.forall_mem_cons.mpr ⟨p15, List.forall_mem_cons.mpr ⟨p17, List.forall_mem_cons.mpr ⟨p19, List.forall_mem_cons.mpr ⟨p21, List.forall_mem_cons.mpr ⟨p23, List.forall_mem_cons.mpr ⟨p25, List.forall_mem_cons.mpr ⟨p27, List.forall_mem_cons.mpr ⟨ru.2, List.forall_mem_cons.mpr ⟨pa.2.1.2.1, List.forall_mem_cons.mpr ⟨pa.2.2.2, List.forall_mem_cons.mpr ⟨n81, List.forall_mem_cons.mpr ⟨n82, List.forall_mem_cons.mpr ⟨n83, List.forall_mem_cons.mpr ⟨(sh 0 (by decide)).2.2.1, List.forall_mem_cons.mpr ⟨(sh 1 (by decide)).2.2.1, List.forall_mem_cons.mpr ⟨(sh 2 (by decide)).2.2.1, List.forall_mem_cons.mpr ⟨(sh 3 (by decide)).2.2.1, List.forall_mem_cons.mpr ⟨(sl 0 (by decide)).2.2.2.1.2, List.forall_mem_cons.mpr ⟨(sl 0 (by decide)).2.2.2.2.2.2.1, List.forall_mem_cons.mpr ⟨(sl 1 (by decide)).2.2.2.1.2, List.forall_mem_cons.mpr ⟨(sl 1 (by decide)).2.2.2.2.2.2.1, List.forall_mem_cons.mpr ⟨(sl 2 (by decide)).2.2.2.1.2, List.forall_mem_cons.mpr ⟨(sl 2 (by decide)).2.2.2.2.2.2.1, List.forall_mem_cons.mpr ⟨(sl 3 (by decide)).2.2.2.1.2, List.forall_mem_cons.mpr ⟨(sl 3 (by decide)).2.2.2.2.2.2.1, List.forall_mem_cons.mpr ⟨(sl 4 (by decide)).2.2.2.1.2, List.forall_mem_cons.mpr ⟨(sl 4 (by decide)).2.2.2.2.2.2.1, List.forall_mem_cons.mpr ⟨m0, List.forall_mem_cons.mpr ⟨m1, List.forall_mem_cons.mpr ⟨m2, List.forall_mem_cons.mpr ⟨m3, List.forall_mem_cons.mpr ⟨m4, List.forall_mem_cons.mpr ⟨m5, List.forall_mem_cons.mpr ⟨m6, List.forall_mem_cons.mpr ⟨m7, List.forall_mem_cons.mpr ⟨m8, List.forall_mem_cons.mpr ⟨m9, List.forall_mem_cons.mpr ⟨m10, List.forall_mem_cons.mpr ⟨m11, List.forall_mem_cons.mpr ⟨m12, List.forall_mem_cons.mpr ⟨m13, List.forall_mem_cons.mpr ⟨m14, List.forall_mem_cons.mpr ⟨m15, List.forall_mem_cons.mpr ⟨m16, List.forall_mem_cons.mpr ⟨m17, List.forall_mem_cons.mpr ⟨m18, List.forall_mem_cons.mpr ⟨m19, List.forall_mem_cons.mpr ⟨m20, List.forall_mem_cons.mpr ⟨m21, List.forall_mem_cons.mpr ⟨m22, List.forall_mem_cons.mpr ⟨m23, List.forall_mem_cons.mpr ⟨m24, List.forall_mem_cons.mpr ⟨m25, List.forall_mem_cons.mpr ⟨m26, List.forall_mem_cons.mpr ⟨m27, fun _ h => absurd h List.not_mem_nil⟩⟩⟩⟩⟩⟩⟩⟩⟩⟩⟩⟩⟩⟩⟩⟩⟩⟩⟩⟩⟩⟩⟩⟩⟩⟩⟩⟩⟩⟩⟩⟩⟩⟩⟩⟩⟩⟩⟩⟩⟩⟩⟩⟩⟩⟩⟩⟩⟩⟩⟩⟩⟩⟩⟩⟩⟩⟩⟩⟩⟩⟩⟩⟩⟩⟩⟩⟩⟩⟩⟩⟩⟩⟩⟩⟩⟩⟩⟩⟩⟩⟩⟩⟩⟩⟩⟩⟩⟩⟩⟩⟩⟩⟩⟩⟩⟩⟩⟩⟩⟩
set_option maxRecDepth 20000 in
theorem INV_0 {I : HI} {R : HR} {N : HN} {n : Nat} (hF : kFS I R N) (hI : kMI I) (hR : kMR R) (hN : kMN N) (hn : 146 ≤ n) : INV I R N n := by
  have hs := SK_0 hF hR hN
  obtain ⟨⟨a0, hu⟩, ⟨a1, hv⟩, ⟨a3, hp⟩, ⟨a4, ru⟩, a5, ⟨a6, pa⟩, ⟨a7, n81⟩, ⟨a8, n82⟩, ⟨a9, n83⟩, sh, sl, k2, k10⟩ := hF
  obtain ⟨u0, u1, u2, u3, u4, u5, u6, u7, u8, u9, u10, u11, u12, u13, u14, u15, u16, u17, u18, u19, u20, u21, u22, u23, u24, u25, u26, u27, u28, u29, u30, u31, u32⟩ := hu
  obtain ⟨i0, i1, i2, i3, i4, i5, i6, i7, i8, i9, i10, i11, i12, i13, i14, i15, i16, i17, i18, i19, i20, i21, z117, z138, z139, z140, row⟩ := hI
  have r1 : I 118 1 = 0 := row 1
  have r2 : I 118 2 = 0 := row 2
  have r3 : I 118 3 = -1 := row 3
  have r4 : I 118 4 = -1 := row 4
  have r5 : I 118 5 = 0 := row 5
  have r0 : I 118 0 = 1 := row 0
  obtain ⟨hV, e1, e2, e5⟩ := VO_0 r1 r2 r3 r4 r5
  have hcnt : ∀ key, cntI (I 118) key = -1000000005 := fun key => by
    unfold cntI cntV
    rw [e5]
    rfl
  refine ⟨hs, hn, ⟨hV, ⟨⟨u24.trans r1.symm, u25.trans r2.symm, by rw [r3]; exact u26, by rw [r4]; exact u27, u28.trans r5.symm, u32.trans r0.symm⟩, fun s hs => absurd hs (by omega), fun r hr => absurd hr (by omega), fun key hk => ?_, fun t ht => absurd ht (by omega)⟩⟩, Or.inl ⟨k2, z117 3⟩, ⟨0, by omega, pa.2.1.2.2, z117 17, fun i hi => absurd hi (Nat.not_lt_zero i)⟩, ⟨fun s hs => ?_, fun s hs => ?_⟩, ⟨fun s hs => ?_, fun s hs => ?_⟩, ⟨0, by omega, k10, z117 43, fun j hj => absurd hj (Nat.not_lt_zero j)⟩, ?_⟩
  · rw [hcnt key]
    rcases (show key = 0 ∨ key = 1 ∨ key = 2 by omega) with rfl | rfl | rfl
    · exact u29
    · exact u30
    · exact u31
  · refine ⟨Or.inl ?_, ⟨0, Nat.le_refl _, by omega, z138 s⟩⟩
    rcases (show s = 0 ∨ s = 1 ∨ s = 2 ∨ s = 3 by omega) with rfl | rfl | rfl | rfl
    · exact i18
    · exact i19
    · exact i20
    · exact i21
  · have hs3 : I 137 s = -1 := by
      rcases (show s = 0 ∨ s = 1 ∨ s = 2 ∨ s = 3 by omega) with rfl | rfl | rfl | rfl
      · exact i18
      · exact i19
      · exact i20
      · exact i21
    obtain ⟨-, -, -, q1, q2, q3⟩ := sh s hs
    refine ⟨q1.trans hs3.symm, q2.trans (z138 s).symm, fun j hj => ?_⟩
    rw [z139, show 85 + 2 * s = 84 + 2 * s + 1 by omega]
    exact q3 j
  · have h0 : (I 140, I 141, I 142, I 143).1 s = 0 := z140 s
    exact ⟨Or.inl h0, fun q => absurd (h0.symm.trans q) (by decide), fun q => absurd (h0.symm.trans q) (by decide)⟩
  · have h0 : (I 140, I 141, I 142, I 143).1 s = 0 := z140 s
    exact ⟨(sl s hs).2.1.trans h0.symm, fun q => absurd (h0.symm.trans q) (by decide), fun q => absurd (h0.symm.trans q) (by decide), fun q => absurd (h0.symm.trans q) (by decide)⟩
  · refine ⟨fun w hw => ?_, fun w hw i hi => ?_⟩
    · rcases (show w = 0 ∨ w = 1 ∨ w = 2 ∨ w = 3 by omega) with rfl | rfl | rfl | rfl
      · exact i14
      · exact i15
      · exact i16
      · exact i17
    · rcases (show w = 0 ∨ w = 1 ∨ w = 2 by omega) with rfl | rfl | rfl
      · have hi : i < 3 := hi
        rcases (show i = 0 ∨ i = 1 ∨ i = 2 by omega) with rfl | rfl | rfl
        · exact i0
        · exact i1
        · exact i2
      · have hi : i < 5 := hi
        rcases (show i = 0 ∨ i = 1 ∨ i = 2 ∨ i = 3 ∨ i = 4 by omega) with rfl | rfl | rfl | rfl | rfl
        · exact i3
        · exact i4
        · exact i5
        · exact i6
        · exact i7
      · have hi : i < 6 := hi
        rcases (show i = 0 ∨ i = 1 ∨ i = 2 ∨ i = 3 ∨ i = 4 ∨ i = 5 by omega) with rfl | rfl | rfl | rfl | rfl | rfl
        · exact i8
        · exact i9
        · exact i10
        · exact i11
        · exact i12
        · exact i13

