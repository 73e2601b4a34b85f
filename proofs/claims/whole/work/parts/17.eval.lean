/-! How a law is worked out: a pure stack, its height, and an array that holds it. -/
def twoF (c a b : Int32) : Int32 := if c = -1 then (if a ≠ 0 ∨ b ≠ 0 then 1 else 0) else if c = -2 then (if a ≠ 0 ∧ b ≠ 0 then 1 else 0) else if c = -3 then (if a < b then 1 else 0) else if c = -4 then (if a = b then 1 else 0) else if c = -5 then (if b < a then 1 else 0) else if c = -6 then a + b else if c = -7 then a - b else if c = -8 then a * b else if b = 0 then 0 else a / b
/-- the class's sign for the reference's -/
def cSym (c : Int32) : Int32 := if c = -1 then 20124 else if c = -2 then 20038 else if c = -3 then 20060 else if c = -4 then 20061 else if c = -5 then 20062 else if c = -6 then 20043 else if c = -7 then 20045 else if c = -8 then 20042 else if c = -9 then 20047 else if c = -10 then 20033 else c
def leafV (f0 f1 f2 c : Int32) : Int32 := if c < 10000 then c else if c = 10000 then f0 else if c = 10001 then f1 else f2
def stepS (f0 f1 f2 c : Int32) (l : List Int32) : List Int32 :=
  if 0 ≤ c then leafV f0 f1 f2 c :: l
  else if c = -10 then (match l with | x :: r => (if x = 0 then 1 else 0) :: r | [] => [])
  else (match l with | b :: a :: r => twoF c a b :: r | l => l)
def evS (c : Nat → Int32) (f0 f1 f2 : Int32) : Nat → List Int32
  | 0 => []
  | j + 1 => stepS f0 f1 f2 (c j) (evS c f0 f1 f2 j)
def stepH (c : Int32) (h : Nat) : Option Nat := if 0 ≤ c then some (h + 1) else if c = -10 then (if 1 ≤ h then some h else none) else if 2 ≤ h then some (h - 1) else none
def hgt (c : Nat → Int32) : Nat → Option Nat
  | 0 => some 0
  | j + 1 => (hgt c j).bind (stepH (c j))
def evV (c : Nat → Int32) (m : Nat) (f0 f1 f2 : Int32) : Int32 := (evS c f0 f1 f2 m).getD 0 0
/-- a sign of a law of this key -/
def okSym (key : Nat) (x : Int32) : Prop := (∃ k, k < 10000 ∧ x = nI k) ∨ (∃ k, k ≤ (if key = 0 then 2 else 1) ∧ x = nI (10000 + k)) ∨ x = -1 ∨ x = -2 ∨ x = -3 ∨ x = -4 ∨ x = -5 ∨ x = -6 ∨ x = -7 ∨ x = -8 ∨ x = -9 ∨ x = -10
def okCode (key : Nat) (c : Nat → Int32) (m : Nat) : Prop := (∀ j, j < m → okSym key (c j)) ∧ hgt c m = some 1
theorem hgt_pre {c : Nat → Int32} : ∀ {m j : Nat}, j ≤ m → (hgt c m).isSome = true → ∃ h, hgt c j = some h
  | 0, j, hj, h => ⟨0, by rw [show j = 0 by omega]; rfl⟩
  | m + 1, j, hj, h => by
    by_cases e : j = m + 1
    · subst e; exact Option.isSome_iff_exists.mp h
    · refine hgt_pre (m := m) (by omega) ?_
      show (hgt c m).isSome = true
      rw [hgt] at h
      cases hm : hgt c m with
      | none => rw [hm] at h; cases h
      | some q => rfl
theorem ev_len {c : Nat → Int32} {f0 f1 f2 : Int32} : ∀ {j h : Nat}, hgt c j = some h → (evS c f0 f1 f2 j).length = h ∧ h ≤ j
  | 0, h, e => by cases e; exact ⟨rfl, Nat.le_refl _⟩
  | j + 1, h, e => by
    rw [hgt] at e
    cases hm : hgt c j with
    | none => rw [hm] at e; cases e
    | some q =>
      rw [hm] at e
      obtain ⟨h1, h2⟩ := ev_len (f0 := f0) (f1 := f1) (f2 := f2) hm
      have e : stepH (c j) q = some h := e
      unfold stepH at e
      show (stepS f0 f1 f2 (c j) (evS c f0 f1 f2 j)).length = h ∧ h ≤ j + 1
      unfold stepS
      by_cases c0 : 0 ≤ c j
      · rw [if_pos c0] at e ⊢
        cases e
        exact ⟨by rw [List.length_cons, h1], by omega⟩
      · rw [if_neg c0] at e ⊢
        by_cases c1 : c j = -10
        · rw [if_pos c1] at e ⊢
          split at e
          · cases e
            cases hl : evS c f0 f1 f2 j with
            | nil => rw [hl] at h1; simp at h1; omega
            | cons x r => rw [hl] at h1; exact ⟨h1, by omega⟩
          · cases e
        · rw [if_neg c1] at e ⊢
          split at e
          · cases e
            match hl : evS c f0 f1 f2 j with
            | [] => rw [hl] at h1; simp at h1; omega
            | [x] => rw [hl] at h1; simp at h1; omega
            | b :: a :: r => rw [hl] at h1; simp at h1; exact ⟨by simp; omega, by omega⟩
          · cases e
/-- an array holds a stack -/
def SR (S : Nat → Int32) (l : List Int32) : Prop := ∀ i, i < l.length → S i = l.getD (l.length - 1 - i) 0
theorem SR_nil (S : Nat → Int32) : SR S [] := fun i h => absurd h (Nat.not_lt_zero i)
theorem SR_push {S : Nat → Int32} {l : List Int32} (x : Int32) (h : SR S l) : SR (va_up S l.length x) (x :: l) := by
  intro i hi
  rw [List.length_cons] at hi ⊢
  by_cases e : i = l.length
  · subst e
    rw [va_up_self, show l.length + 1 - 1 - l.length = 0 by omega]; rfl
  · rw [va_up_ne _ _ e, h i (by omega), show l.length + 1 - 1 - i = (l.length - 1 - i) + 1 by omega]; rfl
theorem SR_top {S : Nat → Int32} {x : Int32} {r : List Int32} (h : SR S (x :: r)) : S r.length = x := by
  rw [h r.length (by simp), show (x :: r).length - 1 - r.length = 0 by simp]; rfl
theorem SR_tl {S : Nat → Int32} {x : Int32} {r : List Int32} (h : SR S (x :: r)) : SR S r := by
  intro i hi
  rw [h i (by simp; omega), show (x :: r).length - 1 - i = (r.length - 1 - i) + 1 by simp; omega]; rfl
theorem SR_one {S : Nat → Int32} {x : Int32} {r : List Int32} (y : Int32) (h : SR S (x :: r)) : SR (va_up S r.length y) (y :: r) := SR_push y (SR_tl h)
theorem SR_two {S : Nat → Int32} {a b : Int32} {r : List Int32} (y : Int32) (h : SR S (b :: a :: r)) : SR (va_up S r.length y) (y :: r) := SR_push y (SR_tl (SR_tl h))
theorem SR_val {S : Nat → Int32} {l : List Int32} (h : SR S l) (hl : l.length = 1) : S 0 = l.getD 0 0 := by
  rw [h 0 (by omega), hl]
/-- a step, by the sign's kind -/
theorem hgt_pos {c : Nat → Int32} {j h h' : Nat} (h1 : hgt c j = some h) (h2 : hgt c (j + 1) = some h') : stepH (c j) h = some h' := by
  rw [hgt, h1] at h2; exact h2
theorem evS_leaf {c : Nat → Int32} {f0 f1 f2 : Int32} {j : Nat} (h : 0 ≤ c j) : evS c f0 f1 f2 (j + 1) = leafV f0 f1 f2 (c j) :: evS c f0 f1 f2 j := by
  show stepS f0 f1 f2 (c j) _ = _
  unfold stepS
  rw [if_pos h]
theorem evS_not {c : Nat → Int32} {f0 f1 f2 x : Int32} {r : List Int32} {j : Nat} (h : c j = -10) (hl : evS c f0 f1 f2 j = x :: r) : evS c f0 f1 f2 (j + 1) = (if x = 0 then 1 else 0) :: r := by
  show stepS f0 f1 f2 (c j) _ = _
  unfold stepS
  rw [hl, if_neg (by rw [h]; decide), if_pos h]
theorem evS_two {c : Nat → Int32} {f0 f1 f2 a b : Int32} {r : List Int32} {j : Nat} (h : ¬ 0 ≤ c j) (h1 : ¬ c j = -10) (hl : evS c f0 f1 f2 j = b :: a :: r) : evS c f0 f1 f2 (j + 1) = twoF (c j) a b :: r := by
  show stepS f0 f1 f2 (c j) _ = _
  unfold stepS
  rw [hl, if_neg h, if_neg h1]
/-- what a step finds: a leaf; a not over one; a sign over two -/
theorem ev_cases {c : Nat → Int32} {f0 f1 f2 : Int32} {j h h' : Nat} (h1 : hgt c j = some h) (h2 : hgt c (j + 1) = some h') :
    (0 ≤ c j ∧ h' = h + 1) ∨ (c j = -10 ∧ h' = h ∧ ∃ x r, evS c f0 f1 f2 j = x :: r ∧ r.length + 1 = h) ∨ (¬ 0 ≤ c j ∧ ¬ c j = -10 ∧ h' + 1 = h ∧ ∃ a b r, evS c f0 f1 f2 j = b :: a :: r ∧ r.length + 2 = h) := by
  have e := hgt_pos h1 h2
  obtain ⟨hl, -⟩ := ev_len (f0 := f0) (f1 := f1) (f2 := f2) h1
  unfold stepH at e
  by_cases c0 : 0 ≤ c j
  · rw [if_pos c0] at e; cases e; exact Or.inl ⟨c0, rfl⟩
  · rw [if_neg c0] at e
    by_cases c1 : c j = -10
    · rw [if_pos c1] at e
      split at e
      · cases e
        refine Or.inr (Or.inl ⟨c1, rfl, ?_⟩)
        cases hv : evS c f0 f1 f2 j with
        | nil => rw [hv] at hl; simp at hl; omega
        | cons x r => rw [hv] at hl; exact ⟨x, r, rfl, hl⟩
      · cases e
    · rw [if_neg c1] at e
      split at e
      · cases e
        refine Or.inr (Or.inr ⟨c0, c1, by omega, ?_⟩)
        match hv : evS c f0 f1 f2 j with
        | [] => rw [hv] at hl; simp at hl; omega
        | [x] => rw [hv] at hl; simp at hl; omega
        | b :: a :: r => rw [hv] at hl; exact ⟨a, b, r, rfl, by simpa using hl⟩
      · cases e
/-- the third number doesn't matter where no sign names it -/
theorem evS_f2 {c : Nat → Int32} {f0 f1 f2 f2' : Int32} {m key : Nat} (hk : key ≠ 0) (h : ∀ j, j < m → okSym key (c j)) : ∀ j, j ≤ m → evS c f0 f1 f2 j = evS c f0 f1 f2' j
  | 0, _ => rfl
  | j + 1, hj => by
    show stepS f0 f1 f2 (c j) _ = stepS f0 f1 f2' (c j) _
    rw [evS_f2 hk h j (by omega)]
    unfold stepS
    by_cases c0 : 0 ≤ c j
    · rw [if_pos c0, if_pos c0]
      congr 1
      rcases h j (by omega) with ⟨k, hk1, e⟩ | ⟨k, hk1, e⟩ | e
      · unfold leafV
        have : c j < 10000 := by rw [e]; exact nI_lt (b := 10000) hk1 (by omega)
        rw [if_pos this, if_pos this]
      · rw [if_neg hk] at hk1
        rcases (show k = 0 ∨ k = 1 by omega) with rfl | rfl <;> rw [e] <;> rfl
      · exfalso
        rcases e with e | e | e | e | e | e | e | e | e | e <;> rw [e] at c0 <;> exact absurd c0 (by decide)
    · rw [if_neg c0, if_neg c0]
theorem evV_f2 {c : Nat → Int32} {f0 f1 f2 f2' : Int32} {m key : Nat} (hk : key ≠ 0) (h : okCode key c m) : evV c m f0 f1 f2 = evV c m f0 f1 f2' := by
  unfold evV
  rw [evS_f2 hk h.1 m (Nat.le_refl m)]
