/-! What text() answers, and what it does to a world. -/
def PRs (T : VV) (z : Nat) (td : VV) (r : Nat × Option (Nat × List Int32 × Nat)) : Prop :=
  (kyI T (tkA T z 0 False) = -1000000005 ∧ r = ((tkA T z 0 False).1, none)) ∨ ∃ key, key ≤ 2 ∧ kyI T (tkA T z 0 False) = nI key ∧ ∃ x : RES, RU T z key (nxT T z (tkA T z 0 False)) [] [] 0 0 td 0 true x ∧ r = (x.1, x.2.map (fun y => (key, y.1, y.2)))
/-- a text that has been read -/
def okR (r : Nat × Option (Nat × List Int32 × Nat)) : Prop := r.1 ≤ 96 ∧ ∀ key c a, r.2 = some (key, c, a) → key ≤ 2 ∧ c.length ≤ 93 ∧ hgL c = some 1 ∧ ∀ y, y ∈ c → okSym key y
theorem ky_in (T : VV) (t : TKN) : kyI T t = -1000000005 ∨ ∃ key, key ≤ 2 ∧ kyI T t = nI key ∧ wdP T t key := by
  unfold kyI
  by_cases h0 : wdP T t 0
  · exact Or.inr ⟨0, by omega, by rw [cif_t h0]; rfl, h0⟩
  · by_cases h1 : wdP T t 1
    · exact Or.inr ⟨1, by omega, by rw [cif_f h0, cif_t h1]; rfl, h1⟩
    · by_cases h2 : wdP T t 2
      · exact Or.inr ⟨2, by omega, by rw [cif_f h0, cif_f h1, cif_t h2]; rfl, h2⟩
      · exact Or.inl (by rw [cif_f h0, cif_f h1, cif_f h2])
theorem wd_3 {T : VV} {t : TKN} {key : Nat} (hk : key ≤ 2) (h : wdP T t key) : t.2.2 = 1 ∧ t.1 + 3 ≤ t.2.1 := by
  obtain ⟨h1, h2, -⟩ := h
  have h3 : 3 ≤ stN.getD key 0 := by rcases (show key = 0 ∨ key = 1 ∨ key = 2 by omega) with rfl | rfl | rfl <;> decide
  exact ⟨h1, by omega⟩
def cdF (c : List Int32) (j : Nat) : Int32 := c.getD (c.length - 1 - j) 0
def oTxV (V : VV) (key : Nat) (c : List Int32) (a : Nat) : VV := fun j => if j = 5 then V 5 + 1 else if j = 80 + 2 * nTx V then nI (1000 * key + c.length) else if j = 80 + 2 * nTx V + 1 then nI a else if 108 + 96 * nTx V ≤ j ∧ j < 108 + 96 * nTx V + c.length then cdF c (j - (108 + 96 * nTx V)) else V j
def oText (V : VV) (r : Nat × Option (Nat × List Int32 × Nat)) : VV × Int32 := match r.2 with
  | none => (V, -100 - nI r.1)
  | some (key, c, a) => if nTx V = 14 then (V, -1000000003) else (oTxV V key c a, nI (nTx V))
theorem hgL_hgt : ∀ (c : List Int32) (f : Nat → Int32), (∀ j, j < c.length → f j = cdF c j) → hgt f c.length = hgL c
  | [], f, h => rfl
  | x :: c, f, h => by
    have h1 : hgt f c.length = hgL c := hgL_hgt c f (fun j hj => by
      rw [h j (by rw [List.length_cons]; omega)]
      unfold cdF
      rw [List.length_cons, show c.length + 1 - 1 - j = (c.length - 1 - j) + 1 by omega]
      rfl)
    have h2 : f c.length = x := by
      rw [h c.length (by rw [List.length_cons]; omega)]
      unfold cdF
      rw [List.length_cons, show c.length + 1 - 1 - c.length = 0 by omega]
      rfl
    rw [List.length_cons, hgt, h1, h2, hgL]
theorem cd_mem {c : List Int32} {j : Nat} (h : j < c.length) : cdF c j ∈ c := by
  unfold cdF
  have h1 : c.length - 1 - j < c.length := by omega
  rw [List.getD_eq_getElem?_getD, List.getElem?_eq_getElem h1, Option.getD_some]
  exact List.getElem_mem h1
theorem SR_cd {S : Nat → Int32} {c : List Int32} (h : SR S c) {j : Nat} (hj : j < c.length) : S j = cdF c j := h j hj
theorem cd_map {c : List Int32} {j : Nat} (hj : j < c.length) : cdF (c.map cSym) j = cSym (cdF c j) := by
  have h1 : c.length - 1 - j < c.length := by omega
  unfold cdF
  rw [List.length_map, List.getD_eq_getElem?_getD, List.getElem?_map, List.getD_eq_getElem?_getD, List.getElem?_eq_getElem h1]
  rfl
section
variable {V : VV} {key a : Nat} {c : List Int32}
theorem tx_lo {j : Nat} (h : j < 80) (h5 : j ≠ 5) : oTxV V key c a j = V j := by
  unfold oTxV
  rw [if_neg h5, if_neg (by omega), if_neg (by omega), if_neg (by omega)]
theorem tx_5 : oTxV V key c a 5 = V 5 + 1 := if_pos rfl
theorem tx_n (hV : VO V) (h : nTx V < 14) : nTx (oTxV V key c a) = nTx V + 1 := by
  have e : oTxV V key c a 5 = nI (nTx V + 1) := by rw [tx_5, hV.2.2.1.1, nI_1]
  show (oTxV V key c a 5).toNatClampNeg = _
  rw [e, nI_clamp (by omega)]
theorem tx_old {t : Nat} (ht : t < nTx V) (h : nTx V < 14) : oTxV V key c a (80 + 2 * t) = V (80 + 2 * t) ∧ oTxV V key c a (80 + 2 * t + 1) = V (80 + 2 * t + 1) ∧ ∀ j, j < 96 → oTxV V key c a (108 + 96 * t + j) = V (108 + 96 * t + j) := by
  unfold oTxV
  refine ⟨?_, ?_, fun j hj => ?_⟩
  · rw [if_neg (by omega), if_neg (by omega), if_neg (by omega), if_neg (by omega)]
  · rw [if_neg (by omega), if_neg (by omega), if_neg (by omega), if_neg (by omega)]
  · rw [if_neg (by omega), if_neg (by omega), if_neg (by omega), if_neg (by omega)]
theorem tx_new (h : nTx V < 14) (hc : c.length ≤ 93) : oTxV V key c a (80 + 2 * nTx V) = nI (1000 * key + c.length) ∧ oTxV V key c a (80 + 2 * nTx V + 1) = nI a ∧ ∀ j, j < c.length → oTxV V key c a (108 + 96 * nTx V + j) = cdF c j := by
  unfold oTxV
  refine ⟨?_, ?_, fun j hj => ?_⟩
  · rw [if_neg (by omega), if_pos rfl]
  · rw [if_neg (by omega), if_neg (by omega), if_pos rfl]
  · rw [if_neg (by omega), if_neg (by omega), if_neg (by omega), if_pos (by omega)]
    congr 1
    omega
theorem tx_key (h : nTx V < 14) (hk : key ≤ 2) (hc : c.length ≤ 93) : tKey (oTxV V key c a) (nTx V) = key ∧ tLen (oTxV V key c a) (nTx V) = c.length := by
  unfold tKey tLen
  rw [(tx_new h hc).1, nI_clamp (by omega)]
  constructor <;> omega
theorem tx_kold {t : Nat} (ht : t < nTx V) (h : nTx V < 14) : tKey (oTxV V key c a) t = tKey V t ∧ tLen (oTxV V key c a) t = tLen V t := by
  unfold tKey tLen
  rw [(tx_old ht h).1]
  exact ⟨rfl, rfl⟩
theorem VO.text (hV : VO V) (h : nTx V < 14) (hk : key ≤ 2) (hc : c.length ≤ 93) (hg : hgL c = some 1) (hy : ∀ y, y ∈ c → okSym key y) : VO (oTxV V key c a) := by
  have hn := tx_n (key := key) (c := c) (a := a) hV h
  have hlo : ∀ j, j < 80 → j ≠ 5 → oTxV V key c a j = V j := fun j a b => tx_lo a b
  have h6 := hV.1.2
  have h8 := hV.2.1.2
  have eS : nS (oTxV V key c a) = nS V := by unfold nS; rw [hlo 1 (by decide) (by decide)]
  have eR : nRu (oTxV V key c a) = nRu V := by unfold nRu; rw [hlo 2 (by decide) (by decide)]
  refine ⟨?_, ?_, ?_, fun s hs => ?_, fun r hr => ?_, ?_, ?_, fun t ht => ?_⟩
  · rw [eS, hlo 1 (by decide) (by decide)]; exact hV.1
  · rw [eR, hlo 2 (by decide) (by decide)]; exact hV.2.1
  · rw [hn, tx_5]
    refine ⟨?_, h⟩
    have e := hV.2.2.1.1
    rw [← nI_1, ← e]
  · rw [eS] at hs
    unfold okSort
    rw [hlo _ (by omega) (by omega), hlo _ (by omega) (by omega)]
    exact hV.2.2.2.1 s hs
  · rw [eR] at hr
    unfold okRule
    rw [hlo _ (by omega) (by omega), hlo _ (by omega) (by omega)]
    exact hV.2.2.2.2.1 r hr
  · rw [eR, hlo 3 (by decide) (by decide)]; exact hV.2.2.2.2.2.1
  · rw [hlo 4 (by decide) (by decide)]; exact hV.2.2.2.2.2.2.1
  · rw [hn] at ht
    by_cases e : t = nTx V
    · subst e
      obtain ⟨k1, k2⟩ := tx_key (a := a) h hk hc
      obtain ⟨n1, n2, n3⟩ := tx_new (key := key) (a := a) h hc
      unfold okText
      rw [k1, k2]
      refine ⟨hk, by omega, n1, fun j hj => ?_, ?_⟩
      · show okSym key (oTxV V key c a (108 + 96 * nTx V + j))
        rw [n3 j hj]
        exact hy _ (cd_mem hj)
      · rw [hgL_hgt c (tCode (oTxV V key c a) (nTx V)) (fun j hj => n3 j hj)]
        exact hg
    · have ht2 : t < nTx V := by omega
      obtain ⟨k1, k2⟩ := tx_kold (key := key) (c := c) (a := a) ht2 h
      obtain ⟨n1, n2, n3⟩ := tx_old (key := key) (c := c) (a := a) ht2 h
      obtain ⟨o1, o2, o3, o4, o5⟩ := hV.2.2.2.2.2.2.2 t ht2
      unfold okText
      rw [k1, k2, n1]
      refine ⟨o1, o2, o3, fun j hj => ?_, ?_⟩
      · show okSym _ (oTxV V key c a (108 + 96 * t + j))
        rw [n3 j (by omega)]
        exact o4 j hj
      · exact (hgt_ext (c := tCode V t) (c' := tCode (oTxV V key c a) t) (m := tLen V t) (fun j hj => n3 j (by omega))).trans o5
theorem VO_oText (hV : VO V) {r : Nat × Option (Nat × List Int32 × Nat)} (hr : okR r) : VO (oText V r).1 := by
  unfold oText
  obtain ⟨f, q⟩ := r
  cases q with
  | none => exact hV
  | some y =>
    obtain ⟨key, c, a⟩ := y
    obtain ⟨h1, h2, h3, h4⟩ := hr.2 key c a rfl
    show VO (if nTx V = 14 then (V, (-1000000003 : Int32)) else (oTxV V key c a, nI (nTx V))).1
    by_cases h : nTx V = 14
    · rw [if_pos h]; exact hV
    · rw [if_neg h]
      exact hV.text (by have := hV.2.2.1.2; omega) h1 h2 h3 h4
theorem lastT_tx (h : nTx V < 14) (k : Nat) : ∀ n, n ≤ nTx V → lastT (oTxV V key c a) k n = lastT V k n
  | 0, _ => rfl
  | n + 1, hn => by
    rw [lastT, lastT, (tx_old (key := key) (c := c) (a := a) (show n < nTx V by omega) h).1, lastT_tx h k n (by omega)]
theorem cnt_tx (hV : VO V) (h : nTx V < 14) (hk : key ≤ 2) (hc : c.length ≤ 93) {k : Nat} (hk2 : k ≤ 2) : cntI (oTxV V key c a) k = if k = key then nI (nTx V) else cntI V k := by
  have e : cntV (oTxV V key c a) k = if k = key then some (nTx V) else cntV V k := by
    unfold cntV
    rw [tx_n hV h, lastT, (tx_new h hc).1, lastT_tx h k _ (Nat.le_refl _)]
    have e1 : nI (1000 * key + c.length) / 1000 = nI key := by
      show nI (1000 * key + c.length) / nI 1000 = _
      rw [nI_div (by omega) (by omega) (by omega)]
      congr 1
      omega
    rw [e1]
    by_cases q : k = key
    · rw [if_pos q, if_pos (by rw [q])]
    · rw [if_neg q, if_neg (fun x => q ((nI_eq (by omega) (by omega)).mp x).symm)]
  unfold cntI
  rw [e]
  by_cases q : k = key
  · rw [if_pos q, if_pos q]
  · rw [if_neg q, if_neg q]
end
/-- a world that stays, while cells are made and others change -/
theorem WC.more {I I' : HI} {R R' : HR} {N N' : HN} {n n' w : Nat} {V : VV} (hV : VO V) (h : WC I R N n w V) (hw : w = 1 ∨ w = 30) (h146 : 146 ≤ n) (hn : n ≤ n') (hI : ∀ q, q < n → WA w q → I' q = I q) (hR : ∀ q, q < n → (q = w + 9 ∨ 146 ≤ q) → R' q = R q) (hN : ∀ q, q < n → 146 ≤ q → N' q = N q) : WC I' R' N' n' w V := by
  obtain ⟨⟨a1, a2, a3, a4, a5, a6⟩, h2, h3, h4, h5⟩ := h
  have hw2 : w + 29 ≤ n := by rcases hw with rfl | rfl <;> omega
  have e : ∀ o, o < 29 → o ≠ 12 → I' (w + o) = I (w + o) := fun o h1 h2 => hI _ (by omega) (Or.inl ⟨by omega, by omega, by omega⟩)
  have e0 : I' w = I w := e 0 (by omega) (by omega)
  refine ⟨⟨by rw [e0]; exact a1, by rw [e0]; exact a2, by rw [e0]; exact a3, by rw [e0]; exact a4, by rw [e0]; exact a5, by rw [e 11 (by omega) (by omega)]; exact a6⟩, fun s hs q hq => ?_, fun r hr => ?_, fun k hk => by rw [e 10 (by omega) (by omega)]; exact h4 k hk, fun t ht => ?_⟩
  · have := hV.1.2
    rw [show w + 2 + s = w + (2 + s) by omega, e (2 + s) (by omega) (by omega), ← Nat.add_assoc]
    exact h2 s hs q hq
  · have := hV.2.1.2
    rw [show w + 13 + 2 * r = w + (13 + 2 * r) by omega, show w + 14 + 2 * r = w + (14 + 2 * r) by omega, e (13 + 2 * r) (by omega) (by omega), e (14 + 2 * r) (by omega) (by omega), ← Nat.add_assoc, ← Nat.add_assoc]
    exact h3 r hr
  · obtain ⟨a, b1, b2, b3, b4, b5, b6, b7, b8⟩ := h5 t ht
    exact ⟨a, by rw [hR (w + 9) (by omega) (Or.inl rfl)]; exact b1, b2, by omega, by rw [hR a (by omega) (Or.inr b2)]; exact b4, by rw [hN (a + 1) (by omega) (by omega)]; exact b5, by rw [hI a (by omega) (Or.inr b2)]; exact b6, by rw [hI a (by omega) (Or.inr b2)]; exact b7, fun j hj => by rw [hI (a + 1) (by omega) (Or.inr (by omega))]; exact b8 j hj⟩
/-- a world to which a text comes -/
theorem WC.text {I I' : HI} {R R' : HR} {N N' : HN} {n : Nat} {V : VV} (hV : VO V) (hC : WC I R N n 1 V) (h146 : 146 ≤ n) {key a : Nat} {c : List Int32} (h : nTx V < 14) (hk : key ≤ 2) (hc : c.length ≤ 93)
    (hI : ∀ q, q < n → q ≠ 1 → q ≠ 11 → q ≠ 77 → q ≠ 78 → q ≠ 80 → I' q = I q) (h1 : ∀ j, j ≠ 7 → I' 1 j = I 1 j) (h17 : I' 1 7 = nI (nTx V + 1)) (h11 : ∀ j, j ≠ key → I' 11 j = I 11 j) (h11k : I' 11 key = nI (nTx V))
    (hR : ∀ q, q < n → q ≠ 10 → R' q = R q) (hR10 : ∀ t, t ≠ nTx V → R' 10 t = R 10 t) (hRn : R' 10 (nTx V) = some n) (hR2 : R' n 2 = some (n + 1)) (hN : ∀ q, q < n → N' q = N q) (hNn : N' (n + 1) = c.length) (hn0 : I' n 0 = nI key) (hn1 : I' n 1 = nI a) (hcd : ∀ j, j < c.length → I' (n + 1) j = cSym (cdF c j)) : WC I' R' N' (n + 2) 1 (oTxV V key c a) := by
  obtain ⟨⟨a1, a2, a3, a4, a5, a6⟩, g2, g3, g4, g5⟩ := hC
  have hlo : ∀ j, j < 80 → j ≠ 5 → oTxV V key c a j = V j := fun j a b => tx_lo a b
  have h6 := hV.1.2
  have h8 := hV.2.1.2
  have eS : nS (oTxV V key c a) = nS V := by unfold nS; rw [hlo 1 (by decide) (by decide)]
  have eR : nRu (oTxV V key c a) = nRu V := by unfold nRu; rw [hlo 2 (by decide) (by decide)]
  have hn := tx_n (key := key) (c := c) (a := a) hV h
  refine ⟨⟨?_, ?_, ?_, ?_, ?_, ?_⟩, fun s hs q hq => ?_, fun r hr => ?_, fun k hk3 => ?_, fun t ht => ?_⟩
  · rw [h1 1 (by decide), hlo 1 (by decide) (by decide)]; exact a1
  · rw [h1 3 (by decide), hlo 2 (by decide) (by decide)]; exact a2
  · rw [h1 4 (by decide), hlo 3 (by decide) (by decide)]; exact a3
  · rw [h1 5 (by decide), hlo 4 (by decide) (by decide)]; exact a4
  · rw [h17, tx_5, hV.2.2.1.1, nI_1]
  · rw [hI 12 (by omega) (by decide) (by decide) (by decide) (by decide) (by decide), hlo 0 (by decide) (by decide)]; exact a6
  · rw [eS] at hs
    rw [hI (1 + 2 + s) (by omega) (by omega) (by omega) (by omega) (by omega) (by omega), hlo _ (by omega) (by omega)]
    exact g2 s hs q hq
  · rw [eR] at hr
    rw [hI (1 + 13 + 2 * r) (by omega) (by omega) (by omega) (by omega) (by omega) (by omega), hI (1 + 14 + 2 * r) (by omega) (by omega) (by omega) (by omega) (by omega) (by omega), hlo _ (by omega) (by omega)]
    exact ⟨(g3 r hr).1, fun j hj => by rw [hlo _ (by omega) (by omega)]; exact (g3 r hr).2 j hj⟩
  · rw [cnt_tx hV h hk hc (by omega)]
    by_cases q : k = key
    · rw [if_pos q, q]; exact h11k
    · rw [if_neg q]; exact (h11 k q).trans (g4 k hk3)
  · rw [hn] at ht
    by_cases e : t = nTx V
    · subst e
      obtain ⟨k1, k2⟩ := tx_key (a := a) h hk hc
      obtain ⟨n1, n2, n3⟩ := tx_new (key := key) (a := a) h hc
      refine ⟨n, hRn, h146, by omega, hR2, by rw [k2]; exact hNn, by rw [k1]; exact hn0, by rw [n2]; exact hn1, fun j hj => ?_⟩
      rw [k2] at hj
      rw [hcd j hj]
      exact congrArg cSym (n3 j hj).symm
    · have ht2 : t < nTx V := by omega
      obtain ⟨k1, k2⟩ := tx_kold (key := key) (c := c) (a := a) ht2 h
      obtain ⟨n1, n2, n3⟩ := tx_old (key := key) (c := c) (a := a) ht2 h
      obtain ⟨b, b1, b2, b3, b4, b5, b6, b7, b8⟩ := g5 t ht2
      have hl := (hV.2.2.2.2.2.2.2 t ht2).2.1
      refine ⟨b, (hR10 t e).trans b1, b2, by omega, by rw [hR b (by omega) (by omega)]; exact b4, by rw [hN (b + 1) (by omega), k2]; exact b5, by rw [hI b (by omega) (by omega) (by omega) (by omega) (by omega) (by omega), k1]; exact b6, by rw [hI b (by omega) (by omega) (by omega) (by omega) (by omega) (by omega), n2]; exact b7, fun j hj => ?_⟩
      rw [k2] at hj
      rw [hI (b + 1) (by omega) (by omega) (by omega) (by omega) (by omega) (by omega), b8 j hj]
      exact congrArg cSym (n3 j (by omega)).symm
theorem SK.more {R R' : HR} {N N' : HN} (hs : SK R N) (hR : ∀ q, q < 146 → q ≠ 10 → R' q = R q) (hN : ∀ q, q < 146 → N' q = N q) : SK R' N' := by
  have h1 : ∀ q ∈ skR, q.1 ≠ 10 ∧ q.1 < 146 := by decide +kernel
  have h2 : ∀ q ∈ skN, q.1 < 146 := by decide +kernel
  exact ⟨fun q hq => by rw [hR q.1 (h1 q hq).2 (h1 q hq).1]; exact hs.1 q hq, fun q hq => by rw [hN q.1 (h2 q hq)]; exact hs.2 q hq⟩
theorem CA.room {sc : SC} {d mc ms mc' ms' : Nat} {md : MD} {as : List AV} {I : HI} {L : HL} {R : HR} {N : HN} {n : Nat} {Q : HQ} (h : CA sc d mc ms md as I L R N n Q) (h1 : mc ≤ mc') (h2 : ms ≤ ms') : CA sc d mc' ms' md as I L R N n Q := by
  intro e ρ T n0 ρ0 T0 p l en Rm s m args below meth c H locs cells slots ls hx
  obtain ⟨g1, ⟨r1, r2, r3, r4⟩, g3⟩ := hx
  exact h e ρ T n0 ρ0 T0 p l en Rm s m args below meth c H locs cells slots ls ⟨g1, ⟨r1, r2, by omega, by omega⟩, g3⟩
