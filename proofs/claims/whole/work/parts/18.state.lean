/-! What a world is: a row of numbers V (the reference's), and how the class's cells hold it. -/
abbrev VV : Type := Nat → Int32
def nS (V : VV) : Nat := (V 1).toNatClampNeg
def nRu (V : VV) : Nat := (V 2).toNatClampNeg
def nTx (V : VV) : Nat := (V 5).toNatClampNeg
def tKey (V : VV) (t : Nat) : Nat := (V (80 + 2 * t)).toNatClampNeg / 1000
def tLen (V : VV) (t : Nat) : Nat := (V (80 + 2 * t)).toNatClampNeg % 1000
def tCode (V : VV) (t : Nat) : VV := fun j => V (108 + 96 * t + j)
/-- a number of a natural between two bounds -/
def inN (x : Int32) (lo hi : Nat) : Prop := ∃ k, lo ≤ k ∧ k ≤ hi ∧ x = nI k
def okSort (V : VV) (s : Nat) : Prop := inN (V (6 + 7 * s)) 0 99 ∧ inN (V (6 + 7 * s + 1)) 0 100
def okRule (V : VV) (r : Nat) : Prop := inN (V (48 + 4 * r)) 0 5 ∧ inN (V (48 + 4 * r + 3)) 1 30
def okText (V : VV) (t : Nat) : Prop := tKey V t ≤ 2 ∧ tLen V t ≤ 96 ∧ V (80 + 2 * t) = nI (1000 * tKey V t + tLen V t) ∧ okCode (tKey V t) (tCode V t) (tLen V t)
def VO (V : VV) : Prop := (V 1 = nI (nS V) ∧ nS V ≤ 6) ∧ (V 2 = nI (nRu V) ∧ nRu V ≤ 8) ∧ (V 5 = nI (nTx V) ∧ nTx V ≤ 14) ∧ (∀ s, s < nS V → okSort V s) ∧ (∀ r, r < nRu V → okRule V r) ∧ (V 3 = -1 ∨ ∃ r, r < nRu V ∧ V 3 = nI r) ∧ (V 4 = -1 ∨ ∃ c, c < 31 ∧ V 4 = nI c) ∧ ∀ t, t < nTx V → okText V t
/-- the last text of a key, among the first t -/
def lastT (V : VV) (key : Nat) : Nat → Option Nat
  | 0 => none
  | t + 1 => if V (80 + 2 * t) / 1000 = nI key then some t else lastT V key t
def cntV (V : VV) (key : Nat) : Option Nat := lastT V key (nTx V)
theorem lastT_lt {V : VV} {key : Nat} : ∀ {n t : Nat}, lastT V key n = some t → t < n ∧ V (80 + 2 * t) / 1000 = nI key
  | 0, t, h => by cases h
  | n + 1, t, h => by
    rw [lastT] at h
    split at h
    · cases h; exact ⟨Nat.lt_succ_self _, by assumption⟩
    · obtain ⟨h1, h2⟩ := lastT_lt h; exact ⟨by omega, h2⟩
def told (v : Int32) : Int32 := if v < 0 then -1000000005 else v
def cntI (V : VV) (key : Nat) : Int32 := match cntV V key with
  | none => -1000000005
  | some t => nI t
/-- a text that the class holds -/
def textC (I : HI) (R : HR) (N : HN) (n w : Nat) (V : VV) (t : Nat) : Prop := ∃ a, R (w + 9) t = some a ∧ 146 ≤ a ∧ a + 1 < n ∧ R a 2 = some (a + 1) ∧ N (a + 1) = tLen V t ∧ I a 0 = nI (tKey V t) ∧ I a 1 = V (80 + 2 * t + 1) ∧ ∀ j, j < tLen V t → I (a + 1) j = cSym (tCode V t j)
/-- the class's world at w is V -/
def WC (I : HI) (R : HR) (N : HN) (n w : Nat) (V : VV) : Prop :=
  (I w 1 = V 1 ∧ I w 3 = V 2 ∧ I w 4 = told (V 3) ∧ I w 5 = told (V 4) ∧ I w 7 = V 5 ∧ I (w + 11) 0 = V 0) ∧
  (∀ s, s < nS V → ∀ q, q < 7 → I (w + 2 + s) q = V (6 + 7 * s + q)) ∧
  (∀ r, r < nRu V → I (w + 13 + 2 * r) 0 = V (48 + 4 * r) ∧ ∀ j, j < 3 → I (w + 14 + 2 * r) j = V (48 + 4 * r + 1 + j)) ∧
  (∀ key, key < 3 → I (w + 10) key = cntI V key) ∧ ∀ t, t < nTx V → textC I R N n w V t
/-- the cells of a world, but for its stack -/
def WA (w a : Nat) : Prop := (w ≤ a ∧ a < w + 29 ∧ a ≠ w + 12) ∨ 146 ≤ a
theorem WC.keep {I I' : HI} {R : HR} {N : HN} {n w : Nat} {V : VV} (hV : VO V) (h : WC I R N n w V) (he : ∀ a, WA w a → I' a = I a) : WC I' R N n w V := by
  obtain ⟨⟨a1, a2, a3, a4, a5, a6⟩, h2, h3, h4, h5⟩ := h
  have e : ∀ o, o < 29 → o ≠ 12 → I' (w + o) = I (w + o) := fun o h1 h2 => he _ (Or.inl ⟨by omega, by omega, by omega⟩)
  have e0 : I' w = I w := e 0 (by omega) (by omega)
  refine ⟨⟨by rw [e0]; exact a1, by rw [e0]; exact a2, by rw [e0]; exact a3, by rw [e0]; exact a4, by rw [e0]; exact a5, by rw [e 11 (by omega) (by omega)]; exact a6⟩, fun s hs q hq => ?_, fun r hr => ?_, fun k hk => by rw [e 10 (by omega) (by omega)]; exact h4 k hk, fun t ht => ?_⟩
  · have := hV.1.2
    rw [show w + 2 + s = w + (2 + s) by omega, e (2 + s) (by omega) (by omega), ← Nat.add_assoc]
    exact h2 s hs q hq
  · have := hV.2.1.2
    rw [show w + 13 + 2 * r = w + (13 + 2 * r) by omega, show w + 14 + 2 * r = w + (14 + 2 * r) by omega, e (13 + 2 * r) (by omega) (by omega), e (14 + 2 * r) (by omega) (by omega), ← Nat.add_assoc, ← Nat.add_assoc]
    exact h3 r hr
  · obtain ⟨a, b1, b2, b3, b4, b5, b6, b7, b8⟩ := h5 t ht
    exact ⟨a, b1, b2, b3, b4, b5, by rw [he a (Or.inr b2)]; exact b6, by rw [he a (Or.inr b2)]; exact b7, fun j hj => by rw [he (a + 1) (Or.inr (by omega))]; exact b8 j hj⟩
-- what is asked of a world
def plainV (V : VV) (a b d : Int32) : Int32 := match cntV V 0 with
  | none => a
  | some t => clampI (evV (tCode V t) (tLen V t) d a b) 0 999
def owedR (V : VV) (k a b c d : Int32) : Int32 := owedF k b c (plainV V a b d) d
def forgV (V : VV) (f cd d : Int32) : Int32 := match cntV V 2 with
  | none => if cd = -1000000005 ∨ d < cd then f else f / 2
  | some t => clampI (evV (tCode V t) (tLen V t) d f 0) 0 100
def shamV (V : VV) (s o : Int32) : Int32 := match cntV V 1 with
  | none => s * o / 10
  | some t => clampI (evV (tCode V t) (tLen V t) o s 0) 0 9999
theorem key_of {V : VV} {t key : Nat} (h : okText V t) (hk : V (80 + 2 * t) / 1000 = nI key) (hk2 : key ≤ 2) : tKey V t = key := by
  obtain ⟨h1, h2, h3, -⟩ := h
  have : V (80 + 2 * t) / nI 1000 = nI key := hk
  rw [h3, nI_div (by omega) (by omega) (by omega)] at this
  have h4 := (nI_eq (by omega) (by omega)).mp this
  omega
theorem cnt_ok {V : VV} {key t : Nat} (hV : VO V) (hk : key ≤ 2) (h : cntV V key = some t) : t < nTx V ∧ tKey V t = key ∧ okText V t := by
  obtain ⟨h1, h2⟩ := lastT_lt h
  have h3 := hV.2.2.2.2.2.2.2 t h1
  exact ⟨h1, key_of h3 h2 hk, h3⟩
