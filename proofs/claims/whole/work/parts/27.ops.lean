/-! What calls do to a world. -/
theorem nS_0 (V : VV) (z : Int32) : nS (va_up V 0 z) = nS V := rfl
theorem same80_up {V : VV} {i : Nat} {v : Int32} (h5 : i ≠ 5) (h : i < 80) : same80 V (va_up V i v) := ⟨va_up_ne _ _ (Ne.symm h5), fun j hj => va_up_ne _ _ (by omega)⟩
theorem same80.trans {V V' V'' : VV} (h : same80 V V') (h' : same80 V' V'') : same80 V V'' := ⟨h'.1.trans h.1, fun i hi => (h'.2 i hi).trans (h.2 i hi)⟩
theorem nTx_80 {V V' : VV} (h : same80 V V') : nTx V' = nTx V := by unfold nTx; rw [h.1]
theorem cntI_80 {V V' : VV} (h : same80 V V') (key : Nat) : cntI V' key = cntI V key := by unfold cntI; rw [cntV_80 h]
theorem VO.upd {V V' : VV} (hV : VO V) (h : same80 V V') (h1 : V' 1 = nI (nS V') ∧ nS V' ≤ 6) (h2 : V' 2 = nI (nRu V') ∧ nRu V' ≤ 8) (hs : ∀ s, s < nS V' → okSort V' s) (hr : ∀ r, r < nRu V' → okRule V' r)
    (h3 : V' 3 = -1 ∨ ∃ r, r < nRu V' ∧ V' 3 = nI r) (h4 : V' 4 = -1 ∨ ∃ c, c < 31 ∧ V' 4 = nI c) : VO V' :=
  ⟨h1, h2, ⟨by rw [nTx_80 h, h.1]; exact hV.2.2.1.1, by rw [nTx_80 h]; exact hV.2.2.1.2⟩, hs, hr, h3, h4, fun t ht => okText_80 h (hV.2.2.2.2.2.2.2 t (by rw [nTx_80 h] at ht; exact ht))⟩
theorem WC.upd {I I' : HI} {R : HR} {N : HN} {n w : Nat} {V V' : VV} (hC : WC I R N n w V) (h : same80 V V')
    (hsc : I' w 1 = V' 1 ∧ I' w 3 = V' 2 ∧ I' w 4 = told (V' 3) ∧ I' w 5 = told (V' 4) ∧ I' w 7 = I w 7 ∧ I' (w + 11) 0 = V' 0)
    (hso : ∀ s, s < nS V' → ∀ q, q < 7 → I' (w + 2 + s) q = V' (6 + 7 * s + q))
    (hru : ∀ r, r < nRu V' → I' (w + 13 + 2 * r) 0 = V' (48 + 4 * r) ∧ ∀ j, j < 3 → I' (w + 14 + 2 * r) j = V' (48 + 4 * r + 1 + j))
    (hco : I' (w + 10) = I (w + 10)) (htx : ∀ a, 146 ≤ a → I' a = I a) : WC I' R N n w V' := by
  obtain ⟨⟨a1, a2, a3, a4, a5, a6⟩, h2, h3, h4, h5⟩ := hC
  obtain ⟨b1, b2, b3, b4, b5, b6⟩ := hsc
  refine ⟨⟨b1, b2, b3, b4, by rw [b5, h.1]; exact a5, b6⟩, hso, hru, fun k hk => by rw [hco, cntI_80 h]; exact h4 k hk, fun t ht => ?_⟩
  obtain ⟨a, c1, c2, c3, c4, c5, c6, c7, c8⟩ := h5 t (by rw [nTx_80 h] at ht; exact ht)
  exact ⟨a, c1, c2, c3, c4, by rw [tLen_80 h]; exact c5, by rw [htx a c2, tKey_80 h]; exact c6, by rw [htx a c2, h.2 _ (by omega)]; exact c7, fun j hj => by rw [htx (a + 1) (by omega), tCode_80 h]; rw [tLen_80 h] at hj; exact c8 j hj⟩
-- the dice
theorem VO.dice {V : VV} (hV : VO V) (z : Int32) : VO (va_up V 0 z) := by
  have hi : ∀ i, i ≠ 0 → va_up V 0 z i = V i := fun i h => va_up_ne _ _ h
  refine hV.upd (same80_up (by decide) (by decide)) hV.1 hV.2.1 (fun s hs => ?_) (fun r hr => ?_) hV.2.2.2.2.2.1 hV.2.2.2.2.2.2.1
  · unfold okSort; rw [hi _ (by omega), hi _ (by omega)]; exact hV.2.2.2.1 s hs
  · unfold okRule; rw [hi _ (by omega), hi _ (by omega)]; exact hV.2.2.2.2.1 r hr
theorem WC.dice {I : HI} {R : HR} {N : HN} {n w : Nat} {V : VV} (hV : VO V) (hC : WC I R N n w V) (hw : w = 1 ∨ w = 30) (z : Int32) : WC (va_up I (w + 11) (va_up (I (w + 11)) 0 z)) R N n w (va_up V 0 z) := by
  have hi : ∀ i, i ≠ 0 → va_up V 0 z i = V i := fun i h => va_up_ne _ _ h
  have hI : ∀ a, a ≠ w + 11 → (va_up I (w + 11) (va_up (I (w + 11)) 0 z)) a = I a := fun a h => va_up_ne _ _ h
  have h6 := hV.1.2
  have h8 := hV.2.1.2
  refine hC.upd (same80_up (by decide) (by decide)) ?_ (fun s hs q hq => ?_) (fun r hr => ?_) (hI _ (by omega)) (fun a ha => hI a (by rcases hw with rfl | rfl <;> omega))
  · rw [hI w (by omega), va_up_self, va_up_self, va_up_self, hi 1 (by decide), hi 2 (by decide), hi 3 (by decide), hi 4 (by decide)]
    exact ⟨hC.1.1, hC.1.2.1, hC.1.2.2.1, hC.1.2.2.2.1, rfl, rfl⟩
  · have : s < nS V := hs
    rw [hI _ (by omega), hi _ (by omega)]; exact hC.2.1 s hs q hq
  · have : r < nRu V := hr
    rw [hI _ (by omega), hI _ (by omega), hi _ (by omega)]
    exact ⟨(hC.2.2.1 r hr).1, fun j hj => by rw [hi _ (by omega)]; exact (hC.2.2.1 r hr).2 j hj⟩
-- a number of a sort
theorem nS_hi {V : VV} {i : Nat} {v : Int32} (h : 6 ≤ i) : nS (va_up V i v) = nS V := by unfold nS; rw [va_up_ne _ _ (by omega)]
theorem nRu_hi {V : VV} {i : Nat} {v : Int32} (h : 6 ≤ i) : nRu (va_up V i v) = nRu V := by unfold nRu; rw [va_up_ne _ _ (by omega)]
theorem VO.cell {V : VV} (hV : VO V) {s q : Nat} {v : Int32} (hs : s < nS V) (hq : q < 7) (h0 : q = 0 → inN v 0 99) (h1 : q = 1 → inN v 0 100) : VO (va_up V (6 + 7 * s + q) v) := by
  have h6 := hV.1.2
  have hi : ∀ i, i ≠ 6 + 7 * s + q → va_up V (6 + 7 * s + q) v i = V i := fun i h => va_up_ne _ _ h
  refine hV.upd (same80_up (by omega) (by omega)) ?_ ?_ (fun s2 hs2 => ?_) (fun r hr => ?_) ?_ ?_
  · rw [nS_hi (by omega), hi 1 (by omega)]; exact hV.1
  · rw [nRu_hi (by omega), hi 2 (by omega)]; exact hV.2.1
  · rw [nS_hi (by omega)] at hs2
    unfold okSort
    refine ⟨?_, ?_⟩
    · by_cases e : 6 + 7 * s2 = 6 + 7 * s + q
      · rw [e, va_up_self]; exact h0 (by omega)
      · rw [hi _ e]; exact (hV.2.2.2.1 s2 hs2).1
    · by_cases e : 6 + 7 * s2 + 1 = 6 + 7 * s + q
      · rw [e, va_up_self]; exact h1 (by omega)
      · rw [hi _ e]; exact (hV.2.2.2.1 s2 hs2).2
  · rw [nRu_hi (by omega)] at hr
    unfold okRule; rw [hi _ (by omega), hi _ (by omega)]; exact hV.2.2.2.2.1 r hr
  · rw [nRu_hi (by omega), hi 3 (by omega)]; exact hV.2.2.2.2.2.1
  · rw [hi 4 (by omega)]; exact hV.2.2.2.2.2.2.1
theorem WC.cell {I : HI} {R : HR} {N : HN} {n w : Nat} {V : VV} (hV : VO V) (hC : WC I R N n w V) (hw : w = 1 ∨ w = 30) {s q : Nat} (v : Int32) (hs : s < nS V) (hq : q < 7) : WC (va_up I (w + 2 + s) (va_up (I (w + 2 + s)) q v)) R N n w (va_up V (6 + 7 * s + q) v) := by
  have h6 := hV.1.2
  have h8 := hV.2.1.2
  have hi : ∀ i, i ≠ 6 + 7 * s + q → va_up V (6 + 7 * s + q) v i = V i := fun i h => va_up_ne _ _ h
  have hI : ∀ a, a ≠ w + 2 + s → (va_up I (w + 2 + s) (va_up (I (w + 2 + s)) q v)) a = I a := fun a h => va_up_ne _ _ h
  refine hC.upd (same80_up (by omega) (by omega)) ?_ (fun s2 hs2 q2 hq2 => ?_) (fun r hr => ?_) (hI _ (by omega)) (fun a ha => hI a (by rcases hw with rfl | rfl <;> omega))
  · rw [hI w (by omega), hI (w + 11) (by omega), hi 1 (by omega), hi 2 (by omega), hi 3 (by omega), hi 4 (by omega), hi 0 (by omega)]
    exact ⟨hC.1.1, hC.1.2.1, hC.1.2.2.1, hC.1.2.2.2.1, rfl, hC.1.2.2.2.2.2⟩
  · rw [nS_hi (by omega)] at hs2
    by_cases e : s2 = s
    · subst e
      rw [va_up_self]
      by_cases e2 : q2 = q
      · subst e2; rw [va_up_self, va_up_self]
      · rw [va_up_ne _ _ e2, hi _ (by omega)]; exact hC.2.1 s2 hs2 q2 hq2
    · rw [hI _ (by omega), hi _ (by omega)]; exact hC.2.1 s2 hs2 q2 hq2
  · rw [nRu_hi (by omega)] at hr
    rw [hI _ (by omega), hI _ (by omega), hi _ (by omega)]
    exact ⟨(hC.2.2.1 r hr).1, fun j hj => by rw [hi _ (by omega)]; exact (hC.2.2.1 r hr).2 j hj⟩
-- a number of a rule
theorem VO.rcell {V : VV} (hV : VO V) {r q : Nat} {v : Int32} (hr : r < nRu V) (hq : q < 4) (h0 : q = 0 → inN v 0 5) (h1 : q = 3 → inN v 1 30) : VO (va_up V (48 + 4 * r + q) v) := by
  have h8 := hV.2.1.2
  have h6 := hV.1.2
  have hi : ∀ i, i ≠ 48 + 4 * r + q → va_up V (48 + 4 * r + q) v i = V i := fun i h => va_up_ne _ _ h
  refine hV.upd (same80_up (by omega) (by omega)) ?_ ?_ (fun s hs => ?_) (fun r2 hr2 => ?_) ?_ ?_
  · rw [nS_hi (by omega), hi 1 (by omega)]; exact hV.1
  · rw [nRu_hi (by omega), hi 2 (by omega)]; exact hV.2.1
  · rw [nS_hi (by omega)] at hs
    unfold okSort; rw [hi _ (by omega), hi _ (by omega)]; exact hV.2.2.2.1 s hs
  · rw [nRu_hi (by omega)] at hr2
    unfold okRule
    refine ⟨?_, ?_⟩
    · by_cases e : 48 + 4 * r2 = 48 + 4 * r + q
      · rw [e, va_up_self]; exact h0 (by omega)
      · rw [hi _ e]; exact (hV.2.2.2.2.1 r2 hr2).1
    · by_cases e : 48 + 4 * r2 + 3 = 48 + 4 * r + q
      · rw [e, va_up_self]; exact h1 (by omega)
      · rw [hi _ e]; exact (hV.2.2.2.2.1 r2 hr2).2
  · rw [nRu_hi (by omega), hi 3 (by omega)]; exact hV.2.2.2.2.2.1
  · rw [hi 4 (by omega)]; exact hV.2.2.2.2.2.2.1
theorem WC.rcell {I I' : HI} {R : HR} {N : HN} {n w : Nat} {V : VV} (hV : VO V) (hC : WC I R N n w V) (hw : w = 1 ∨ w = 30) {r q : Nat} (v : Int32) (hr : r < nRu V) (hq : q < 4)
    (hA : ∀ a, a ≠ w + 13 + 2 * r → a ≠ w + 14 + 2 * r → I' a = I a) (h0 : I' (w + 13 + 2 * r) 0 = if q = 0 then v else I (w + 13 + 2 * r) 0) (h1 : ∀ j, j < 3 → I' (w + 14 + 2 * r) j = if q = j + 1 then v else I (w + 14 + 2 * r) j) : WC I' R N n w (va_up V (48 + 4 * r + q) v) := by
  have h6 := hV.1.2
  have h8 := hV.2.1.2
  have hi : ∀ i, i ≠ 48 + 4 * r + q → va_up V (48 + 4 * r + q) v i = V i := fun i h => va_up_ne _ _ h
  refine hC.upd (same80_up (by omega) (by omega)) ?_ (fun s hs q2 hq2 => ?_) (fun r2 hr2 => ?_) (hA _ (by omega) (by omega)) (fun a ha => hA a (by rcases hw with rfl | rfl <;> omega) (by rcases hw with rfl | rfl <;> omega))
  · rw [hA w (by omega) (by omega), hA (w + 11) (by omega) (by omega), hi 1 (by omega), hi 2 (by omega), hi 3 (by omega), hi 4 (by omega), hi 0 (by omega)]
    exact ⟨hC.1.1, hC.1.2.1, hC.1.2.2.1, hC.1.2.2.2.1, rfl, hC.1.2.2.2.2.2⟩
  · rw [nS_hi (by omega)] at hs
    rw [hA _ (by omega) (by omega), hi _ (by omega)]; exact hC.2.1 s hs q2 hq2
  · rw [nRu_hi (by omega)] at hr2
    by_cases e : r2 = r
    · subst e
      refine ⟨?_, fun j hj => ?_⟩
      · rw [h0]
        by_cases e2 : q = 0
        · rw [if_pos e2]; subst e2; exact (va_up_self _ _ _).symm
        · rw [if_neg e2, hi _ (by omega)]; exact (hC.2.2.1 r2 hr).1
      · rw [h1 j hj]
        by_cases e2 : q = j + 1
        · rw [if_pos e2]; subst e2; rw [show 48 + 4 * r2 + 1 + j = 48 + 4 * r2 + (j + 1) by omega, va_up_self]
        · rw [if_neg e2, hi _ (by omega)]; exact (hC.2.2.1 r2 hr).2 j hj
    · rw [hA _ (by omega) (by omega), hA _ (by omega) (by omega), hi _ (by omega)]
      exact ⟨(hC.2.2.1 r2 hr2).1, fun j hj => by rw [hi _ (by omega)]; exact (hC.2.2.1 r2 hr2).2 j hj⟩
-- force, card
theorem VO.force {V : VV} (hV : VO V) {x : Int32} (hx : x = -1 ∨ ∃ r, r < nRu V ∧ x = nI r) : VO (va_up V 3 x) := by
  have hi : ∀ i, i ≠ 3 → va_up V 3 x i = V i := fun i h => va_up_ne _ _ h
  refine hV.upd (same80_up (by decide) (by decide)) hV.1 hV.2.1 (fun s hs => ?_) (fun r hr => ?_) (by rw [va_up_self]; exact hx) hV.2.2.2.2.2.2.1
  · unfold okSort; rw [hi _ (by omega), hi _ (by omega)]; exact hV.2.2.2.1 s hs
  · unfold okRule; rw [hi _ (by omega), hi _ (by omega)]; exact hV.2.2.2.2.1 r hr
theorem VO.cardC {V : VV} (hV : VO V) {x : Int32} (hx : x = -1 ∨ ∃ c, c < 31 ∧ x = nI c) : VO (va_up V 4 x) := by
  have hi : ∀ i, i ≠ 4 → va_up V 4 x i = V i := fun i h => va_up_ne _ _ h
  refine hV.upd (same80_up (by decide) (by decide)) hV.1 hV.2.1 (fun s hs => ?_) (fun r hr => ?_) hV.2.2.2.2.2.1 (by rw [va_up_self]; exact hx)
  · unfold okSort; rw [hi _ (by omega), hi _ (by omega)]; exact hV.2.2.2.1 s hs
  · unfold okRule; rw [hi _ (by omega), hi _ (by omega)]; exact hV.2.2.2.2.1 r hr
theorem WC.fc {I : HI} {R : HR} {N : HN} {n w : Nat} {V : VV} (hV : VO V) (hC : WC I R N n w V) (hw : w = 1 ∨ w = 30) {q : Nat} (hq : q = 3 ∨ q = 4) (x : Int32) : WC (va_up I w (va_up (I w) (q + 1) (told x))) R N n w (va_up V q x) := by
  have h6 := hV.1.2
  have h8 := hV.2.1.2
  have hi : ∀ i, i ≠ q → va_up V q x i = V i := fun i h => va_up_ne _ _ h
  have hI : ∀ a, a ≠ w → (va_up I w (va_up (I w) (q + 1) (told x))) a = I a := fun a h => va_up_ne _ _ h
  have e1 : nS (va_up V q x) = nS V := by unfold nS; rw [hi 1 (by omega)]
  have e2 : nRu (va_up V q x) = nRu V := by unfold nRu; rw [hi 2 (by omega)]
  refine hC.upd (same80_up (by omega) (by omega)) ?_ (fun s hs q2 hq2 => ?_) (fun r hr => ?_) (hI _ (by omega)) (fun a ha => hI a (by rcases hw with rfl | rfl <;> omega))
  · rw [hI (w + 11) (by omega), va_up_self]
    rcases hq with rfl | rfl
    · exact ⟨hC.1.1, hC.1.2.1, rfl, hC.1.2.2.2.1, rfl, hC.1.2.2.2.2.2⟩
    · exact ⟨hC.1.1, hC.1.2.1, hC.1.2.2.1, rfl, rfl, hC.1.2.2.2.2.2⟩
  · rw [e1] at hs
    rw [hI _ (by omega), hi _ (by omega)]; exact hC.2.1 s hs q2 hq2
  · rw [e2] at hr
    rw [hI _ (by omega), hI _ (by omega), hi _ (by omega)]
    exact ⟨(hC.2.2.1 r hr).1, fun j hj => by rw [hi _ (by omega)]; exact (hC.2.2.1 r hr).2 j hj⟩
-- a new sort
def addS (V : VV) (a b c : Int32) : VV := va_up (va_up (va_up (va_up (va_up (va_up (va_up (va_up V (6 + 7 * nS V) a) (6 + 7 * nS V + 1) b) (6 + 7 * nS V + 2) c) (6 + 7 * nS V + 3) 0) (6 + 7 * nS V + 4) 9999) (6 + 7 * nS V + 5) 0) (6 + 7 * nS V + 6) 500) 1 (V 1 + 1)
def newS (a b c : Int32) (q : Nat) : Int32 := if q = 0 then a else if q = 1 then b else if q = 2 then c else if q = 4 then 9999 else if q = 6 then 500 else 0
theorem addS_row (V : VV) (a b c : Int32) {q : Nat} (hq : q < 7) : addS V a b c (6 + 7 * nS V + q) = newS a b c q := by
  rcases (show q = 0 ∨ q = 1 ∨ q = 2 ∨ q = 3 ∨ q = 4 ∨ q = 5 ∨ q = 6 by omega) with rfl | rfl | rfl | rfl | rfl | rfl | rfl <;> simp [addS, newS, va_up] <;> (try omega) <;> (split <;> first | omega | rfl)
theorem addS_off (V : VV) (a b c : Int32) {i : Nat} (h1 : i ≠ 1) (h : i < 6 + 7 * nS V ∨ 13 + 7 * nS V ≤ i) : addS V a b c i = V i := by
  unfold addS
  rw [va_up_ne _ _ h1, va_up_ne _ _ (by omega), va_up_ne _ _ (by omega), va_up_ne _ _ (by omega), va_up_ne _ _ (by omega), va_up_ne _ _ (by omega), va_up_ne _ _ (by omega), va_up_ne _ _ (by omega)]
theorem addS_1 (V : VV) (a b c : Int32) : addS V a b c 1 = V 1 + 1 := va_up_self _ _ _
theorem addS_n {V : VV} (hV : VO V) (a b c : Int32) : addS V a b c 1 = nI (nS V + 1) ∧ nS (addS V a b c) = nS V + 1 := by
  have h6 := hV.1.2
  have h : addS V a b c 1 = nI (nS V + 1) := by rw [addS_1, hV.1.1, nI_1]
  exact ⟨h, by unfold nS at *; rw [h, nI_clamp (by omega)]⟩
theorem addS_80 {V : VV} (h : nS V < 6) (a b c : Int32) : same80 V (addS V a b c) := ⟨addS_off V a b c (by decide) (by omega), fun i hi => addS_off V a b c (by omega) (by omega)⟩
theorem VO.oS {V : VV} (hV : VO V) (h : nS V < 6) {a b c : Int32} (ha : inN a 0 99) (hb : inN b 0 100) : VO (addS V a b c) := by
  obtain ⟨e1, e2⟩ := addS_n hV a b c
  have hr : nRu (addS V a b c) = nRu V := by unfold nRu; rw [addS_off V a b c (by decide) (by omega)]
  refine hV.upd (addS_80 h a b c) ⟨by rw [e1, e2], by omega⟩ ?_ (fun s hs => ?_) (fun r hr2 => ?_) ?_ ?_
  · rw [hr, addS_off V a b c (by decide) (by omega)]; exact hV.2.1
  · rw [e2] at hs
    unfold okSort
    by_cases e : s = nS V
    · subst e
      have x1 : addS V a b c (6 + 7 * nS V) = a := addS_row V a b c (q := 0) (by decide)
      have x2 : addS V a b c (6 + 7 * nS V + 1) = b := addS_row V a b c (q := 1) (by decide)
      rw [x1, x2]; exact ⟨ha, hb⟩
    · rw [addS_off V a b c (by omega) (by omega), addS_off V a b c (by omega) (by omega)]
      exact hV.2.2.2.1 s (by omega)
  · rw [hr] at hr2
    have := hV.2.1.2
    unfold okRule
    rw [addS_off V a b c (by omega) (by omega), addS_off V a b c (by omega) (by omega)]
    exact hV.2.2.2.2.1 r hr2
  · rw [hr, addS_off V a b c (by decide) (by omega)]; exact hV.2.2.2.2.2.1
  · rw [addS_off V a b c (by decide) (by omega)]; exact hV.2.2.2.2.2.2.1
theorem WC.oS {I I' : HI} {R : HR} {N : HN} {n w : Nat} {V : VV} (hV : VO V) (hC : WC I R N n w V) (hw : w = 1 ∨ w = 30) (h : nS V < 6) (a b c : Int32)
    (hA : ∀ q, q ≠ w → q ≠ w + 2 + nS V → I' q = I q) (h1 : I' w 1 = I w 1 + 1) (h2 : ∀ j, j ≠ 1 → I' w j = I w j) (h3 : ∀ q, q < 7 → I' (w + 2 + nS V) q = newS a b c q) : WC I' R N n w (addS V a b c) := by
  obtain ⟨e1, e2⟩ := addS_n hV a b c
  have h8 := hV.2.1.2
  have hr : nRu (addS V a b c) = nRu V := by unfold nRu; rw [addS_off V a b c (by decide) (by omega)]
  refine hC.upd (addS_80 h a b c) ?_ (fun s hs q hq => ?_) (fun r hr2 => ?_) (hA _ (by omega) (by omega)) (fun a ha => hA a (by rcases hw with rfl | rfl <;> omega) (by rcases hw with rfl | rfl <;> omega))
  · rw [hA (w + 11) (by omega) (by omega), h1, h2 3 (by decide), h2 4 (by decide), h2 5 (by decide), h2 7 (by decide), addS_1, addS_off V a b c (by decide) (by omega), addS_off V a b c (by decide) (by omega), addS_off V a b c (by decide) (by omega), addS_off V a b c (by decide) (by omega), hC.1.1]
    exact ⟨rfl, hC.1.2.1, hC.1.2.2.1, hC.1.2.2.2.1, rfl, hC.1.2.2.2.2.2⟩
  · rw [e2] at hs
    by_cases e : s = nS V
    · subst e; rw [h3 q hq, addS_row V a b c hq]
    · rw [hA _ (by omega) (by omega), addS_off V a b c (by omega) (by omega)]; exact hC.2.1 s (by omega) q hq
  · rw [hr] at hr2
    rw [hA _ (by omega) (by omega), hA _ (by omega) (by omega), addS_off V a b c (by omega) (by omega)]
    exact ⟨(hC.2.2.1 r hr2).1, fun j hj => by rw [addS_off V a b c (by omega) (by omega)]; exact (hC.2.2.1 r hr2).2 j hj⟩
-- a new rule
def addR (V : VV) (k a b c : Int32) : VV := va_up (va_up (va_up (va_up (va_up V (48 + 4 * nRu V) k) (48 + 4 * nRu V + 1) a) (48 + 4 * nRu V + 2) b) (48 + 4 * nRu V + 3) c) 2 (V 2 + 1)
theorem addR_row (V : VV) (k a b c : Int32) : addR V k a b c (48 + 4 * nRu V) = k ∧ addR V k a b c (48 + 4 * nRu V + 1) = a ∧ addR V k a b c (48 + 4 * nRu V + 2) = b ∧ addR V k a b c (48 + 4 * nRu V + 3) = c := by
  refine ⟨?_, ?_, ?_, ?_⟩ <;> simp [addR, va_up] <;> omega
theorem addR_off (V : VV) (k a b c : Int32) {i : Nat} (h1 : i ≠ 2) (h : i < 48 + 4 * nRu V ∨ 52 + 4 * nRu V ≤ i) : addR V k a b c i = V i := by
  unfold addR
  rw [va_up_ne _ _ h1, va_up_ne _ _ (by omega), va_up_ne _ _ (by omega), va_up_ne _ _ (by omega), va_up_ne _ _ (by omega)]
theorem addR_2 (V : VV) (k a b c : Int32) : addR V k a b c 2 = V 2 + 1 := va_up_self _ _ _
theorem addR_n {V : VV} (hV : VO V) (k a b c : Int32) : addR V k a b c 2 = nI (nRu V + 1) ∧ nRu (addR V k a b c) = nRu V + 1 := by
  have h6 := hV.2.1.2
  have h : addR V k a b c 2 = nI (nRu V + 1) := by rw [addR_2, hV.2.1.1, nI_1]
  exact ⟨h, by unfold nRu at *; rw [h, nI_clamp (by omega)]⟩
theorem addR_80 {V : VV} (h : nRu V < 8) (k a b c : Int32) : same80 V (addR V k a b c) := ⟨addR_off V k a b c (by decide) (by omega), fun i hi => addR_off V k a b c (by omega) (by omega)⟩
theorem VO.oR {V : VV} (hV : VO V) (h : nRu V < 8) {k a b c : Int32} (hk : inN k 0 5) (hc : inN c 1 30) : VO (addR V k a b c) := by
  obtain ⟨e1, e2⟩ := addR_n hV k a b c
  obtain ⟨x0, x1, x2, x3⟩ := addR_row V k a b c
  have h6 := hV.1.2
  have hr : nS (addR V k a b c) = nS V := by unfold nS; rw [addR_off V k a b c (by decide) (by omega)]
  refine hV.upd (addR_80 h k a b c) ?_ ⟨by rw [e1, e2], by omega⟩ (fun s hs => ?_) (fun r hr2 => ?_) ?_ ?_
  · rw [hr, addR_off V k a b c (by decide) (by omega)]; exact hV.1
  · rw [hr] at hs
    unfold okSort
    rw [addR_off V k a b c (by omega) (by omega), addR_off V k a b c (by omega) (by omega)]
    exact hV.2.2.2.1 s hs
  · rw [e2] at hr2
    unfold okRule
    by_cases e : r = nRu V
    · subst e; rw [x0, x3]; exact ⟨hk, hc⟩
    · rw [addR_off V k a b c (by omega) (by omega), addR_off V k a b c (by omega) (by omega)]
      exact hV.2.2.2.2.1 r (by omega)
  · rw [addR_off V k a b c (by decide) (by omega), e2]
    rcases hV.2.2.2.2.2.1 with e | ⟨r, h1, h2⟩
    · exact Or.inl e
    · exact Or.inr ⟨r, by omega, h2⟩
  · rw [addR_off V k a b c (by decide) (by omega)]; exact hV.2.2.2.2.2.2.1
theorem WC.oR {I I' : HI} {R : HR} {N : HN} {n w : Nat} {V : VV} (hV : VO V) (hC : WC I R N n w V) (hw : w = 1 ∨ w = 30) (h : nRu V < 8) (k a b c : Int32)
    (hA : ∀ q, q ≠ w → q ≠ w + 13 + 2 * nRu V → q ≠ w + 14 + 2 * nRu V → I' q = I q) (h1 : I' w 3 = I w 3 + 1) (h2 : ∀ j, j ≠ 3 → I' w j = I w j) (h3 : I' (w + 13 + 2 * nRu V) 0 = k) (h4 : I' (w + 14 + 2 * nRu V) 0 = a ∧ I' (w + 14 + 2 * nRu V) 1 = b ∧ I' (w + 14 + 2 * nRu V) 2 = c) : WC I' R N n w (addR V k a b c) := by
  obtain ⟨e1, e2⟩ := addR_n hV k a b c
  obtain ⟨x0, x1, x2, x3⟩ := addR_row V k a b c
  have h6 := hV.1.2
  have hr : nS (addR V k a b c) = nS V := by unfold nS; rw [addR_off V k a b c (by decide) (by omega)]
  refine hC.upd (addR_80 h k a b c) ?_ (fun s hs q hq => ?_) (fun r hr2 => ?_) (hA _ (by omega) (by omega) (by omega)) (fun a ha => hA a (by rcases hw with rfl | rfl <;> omega) (by rcases hw with rfl | rfl <;> omega) (by rcases hw with rfl | rfl <;> omega))
  · rw [hA (w + 11) (by omega) (by omega) (by omega), h1, h2 1 (by decide), h2 4 (by decide), h2 5 (by decide), h2 7 (by decide), addR_2, addR_off V k a b c (by decide) (by omega), addR_off V k a b c (by decide) (by omega), addR_off V k a b c (by decide) (by omega), addR_off V k a b c (by decide) (by omega), hC.1.2.1]
    exact ⟨hC.1.1, rfl, hC.1.2.2.1, hC.1.2.2.2.1, rfl, hC.1.2.2.2.2.2⟩
  · rw [hr] at hs
    rw [hA _ (by omega) (by omega) (by omega), addR_off V k a b c (by omega) (by omega)]; exact hC.2.1 s hs q hq
  · rw [e2] at hr2
    by_cases e : r = nRu V
    · subst e
      refine ⟨h3.trans x0.symm, fun j hj => ?_⟩
      rcases (show j = 0 ∨ j = 1 ∨ j = 2 by omega) with rfl | rfl | rfl
      · exact h4.1.trans x1.symm
      · exact h4.2.1.trans x2.symm
      · exact h4.2.2.trans x3.symm
    · rw [hA _ (by omega) (by omega) (by omega), hA _ (by omega) (by omega) (by omega), addR_off V k a b c (by omega) (by omega)]
      exact ⟨(hC.2.2.1 r (by omega)).1, fun j hj => by rw [addR_off V k a b c (by omega) (by omega)]; exact (hC.2.2.1 r (by omega)).2 j hj⟩
