/-! A tape's pieces: runs, and what is in hand. -/
def Rn (P : Int32 → Prop) (T : VV) (z p e : Nat) : Prop := p ≤ e ∧ e ≤ z ∧ (∀ i, p ≤ i → i < e → P (T i)) ∧ (e = z ∨ ¬ P (T e))
theorem Rn.uniq {P : Int32 → Prop} {T : VV} {z p e e' : Nat} (h : Rn P T z p e) (h' : Rn P T z p e') : e = e' := by
  obtain ⟨a1, a2, a3, a4⟩ := h
  obtain ⟨b1, b2, b3, b4⟩ := h'
  rcases Nat.lt_trichotomy e e' with q | q | q
  · exact absurd (b3 e a1 q) (a4.resolve_left (by omega))
  · exact q
  · exact absurd (a3 e' b1 q) (b4.resolve_left (by omega))
theorem Rn_ex {P : Int32 → Prop} {T : VV} {z : Nat} : ∀ (k p : Nat), p + k = z → ∃ e, Rn P T z p e
  | 0, p, h => ⟨p, Nat.le_refl p, by omega, fun i h1 h2 => by omega, Or.inl (by omega)⟩
  | k + 1, p, h => by
    by_cases hp : P (T p)
    · obtain ⟨e, h1, h2, h3, h4⟩ := Rn_ex (P := P) (T := T) (z := z) k (p + 1) (by omega)
      refine ⟨e, by omega, h2, fun i a b => ?_, h4⟩
      by_cases q : i = p
      · subst q; exact hp
      · exact h3 i (by omega) b
    · exact ⟨p, Nat.le_refl p, by omega, fun i h1 h2 => by omega, Or.inr hp⟩
theorem Rn.pos {P : Int32 → Prop} {T : VV} {z s e : Nat} (h : Rn P T z s e) (hz : s < z) (hs : P (T s)) : s < e := by
  obtain ⟨h1, h2, h3, h4⟩ := h
  rcases Nat.lt_or_ge s e with q | q
  · exact q
  · have : e = s := by omega
    subst this
    exact absurd hs (h4.resolve_left (by omega))
noncomputable def rnE (P : Int32 → Prop) (T : VV) (z p : Nat) : Nat := Classical.epsilon (fun e => Rn P T z p e)
theorem rnE_eq {P : Int32 → Prop} {T : VV} {z p e : Nat} (h : Rn P T z p e) : rnE P T z p = e := (Classical.epsilon_spec (p := fun e => Rn P T z p e) ⟨e, h⟩).uniq h
def isSp (b : Int32) : Prop := b = 32
def isL (b : Int32) : Prop := 97 ≤ b ∧ b ≤ 122
def isD (b : Int32) : Prop := 48 ≤ b ∧ b ≤ 57
abbrev TKN : Type := Nat × Nat × Nat
noncomputable def tkA (T : VV) (z p : Nat) (w : Prop) : TKN :=
  cif (rnE isSp T z p = z) (z, z, 0) (cif (isL (T (rnE isSp T z p))) (rnE isSp T z p, rnE isL T z (rnE isSp T z p), cif (w ∧ rnE isSp T z p = p) 4 1) (cif (isD (T (rnE isSp T z p))) (rnE isSp T z p, rnE isD T z (rnE isSp T z p), cif ((w ∧ rnE isSp T z p = p) ∨ 4 < rnE isD T z (rnE isSp T z p) - rnE isSp T z p) 4 2) (rnE isSp T z p, rnE isSp T z p + 1, 3)))
section
variable {T : VV} {z p s e : Nat} {w : Prop}
theorem tk_end (h : Rn isSp T z p z) : tkA T z p w = (z, z, 0) := by
  unfold tkA
  rw [rnE_eq h, cif_t rfl]
theorem tk_let (h : Rn isSp T z p s) (hz : s < z) (hl : isL (T s)) (he : Rn isL T z s e) : tkA T z p w = (s, e, cif (w ∧ s = p) 4 1) := by
  have h1 : ¬ s = z := by omega
  unfold tkA
  rw [rnE_eq h, cif_f h1, cif_t hl, rnE_eq he]
theorem tk_dig (h : Rn isSp T z p s) (hz : s < z) (hl : ¬ isL (T s)) (hd : isD (T s)) (he : Rn isD T z s e) : tkA T z p w = (s, e, cif ((w ∧ s = p) ∨ 4 < e - s) 4 2) := by
  have h1 : ¬ s = z := by omega
  unfold tkA
  rw [rnE_eq h, cif_f h1, cif_f hl, cif_t hd, rnE_eq he]
theorem tk_sig (h : Rn isSp T z p s) (hz : s < z) (hl : ¬ isL (T s)) (hd : ¬ isD (T s)) : tkA T z p w = (s, s + 1, 3) := by
  have h1 : ¬ s = z := by omega
  unfold tkA
  rw [rnE_eq h, cif_f h1, cif_f hl, cif_f hd]
end
/-- what is in hand, in order -/
def TO (T : VV) (z : Nat) (t : TKN) : Prop := t.1 ≤ t.2.1 ∧ t.2.1 ≤ z ∧ (t.2.2 = 0 → t.1 = z) ∧ (t.2.2 ≠ 0 → t.1 < t.2.1) ∧ (t.2.2 = 1 → isL (T t.1)) ∧ (t.2.2 = 2 → t.2.1 - t.1 ≤ 4 ∧ ∀ i, t.1 ≤ i → i < t.2.1 → isD (T i)) ∧ t.2.2 ≤ 4
theorem tkA_ok {T : VV} {z p : Nat} {w : Prop} (hp : p ≤ z) : TO T z (tkA T z p w) ∧ p ≤ (tkA T z p w).1 := by
  obtain ⟨s, hs⟩ := Rn_ex (P := isSp) (T := T) (z := z) (z - p) p (by omega)
  have h1 := hs.1
  have h2 := hs.2.1
  by_cases hz : s = z
  · subst hz
    rw [tk_end hs]
    exact ⟨⟨Nat.le_refl _, Nat.le_refl _, fun _ => rfl, fun q => absurd rfl q, fun q => by simp at q, fun q => by simp at q, by simp⟩, h1⟩
  · have hz2 : s < z := by omega
    by_cases hl : isL (T s)
    · obtain ⟨e, he⟩ := Rn_ex (P := isL) (T := T) (z := z) (z - s) s (by omega)
      have h3 := he.pos hz2 hl
      have h4 := he.2.1
      rw [tk_let hs hz2 hl he]
      by_cases hw : w ∧ s = p
      · rw [cif_t hw]
        exact ⟨⟨Nat.le_of_lt h3, h4, fun q => by simp at q, fun _ => h3, fun q => by simp at q, fun q => by simp at q, by simp⟩, h1⟩
      · rw [cif_f hw]
        exact ⟨⟨Nat.le_of_lt h3, h4, fun q => by simp at q, fun _ => h3, fun _ => hl, fun q => by simp at q, by simp⟩, h1⟩
    · by_cases hd : isD (T s)
      · obtain ⟨e, he⟩ := Rn_ex (P := isD) (T := T) (z := z) (z - s) s (by omega)
        have h3 := he.pos hz2 hd
        have h4 := he.2.1
        rw [tk_dig hs hz2 hl hd he]
        by_cases hw : (w ∧ s = p) ∨ 4 < e - s
        · rw [cif_t hw]
          exact ⟨⟨Nat.le_of_lt h3, h4, fun q => by simp at q, fun _ => h3, fun q => by simp at q, fun q => by simp at q, by simp⟩, h1⟩
        · rw [cif_f hw]
          exact ⟨⟨Nat.le_of_lt h3, h4, fun q => by simp at q, fun _ => h3, fun q => by simp at q, fun _ => ⟨Nat.le_of_not_lt fun q => hw (Or.inr q), he.2.2.1⟩, by simp⟩, h1⟩
      · rw [tk_sig hs hz2 hl hd]
        exact ⟨⟨Nat.le_succ _, hz2, fun q => by simp at q, fun _ => Nat.lt_succ_self _, fun q => by simp at q, fun q => by simp at q, by simp⟩, h1⟩
/-- the one behind it -/
noncomputable def nxT (T : VV) (z : Nat) (t : TKN) : TKN := tkA T z t.2.1 (t.2.2 = 1 ∨ t.2.2 = 2)
theorem nxT_ok {T : VV} {z : Nat} {t : TKN} (h : TO T z t) : TO T z (nxT T z t) ∧ t.2.1 ≤ (nxT T z t).1 := tkA_ok h.2.1
theorem nxT_gt {T : VV} {z : Nat} {t : TKN} (h : TO T z t) (hk : t.2.2 ≠ 0) : t.1 + 1 ≤ (nxT T z t).1 := by
  have h1 := h.2.2.2.1 hk
  have h2 := (nxT_ok h).2
  omega
def BY (T : VV) (z : Nat) : Prop := ∀ i, i < z → inN (T i) 0 255
def hnd (T : VV) (t : TKN) : Int32 := if t.2.2 = 0 then -1 else if t.2.2 = 1 then 256 else if t.2.2 = 2 then 257 else if t.2.2 = 4 then 258 else T t.1
theorem k_cases {k : Nat} (h : k ≤ 4) : k = 0 ∨ k = 1 ∨ k = 2 ∨ k = 3 ∨ k = 4 := by omega
theorem hnd_0 {T : VV} {t : TKN} (h : t.2.2 = 0) : hnd T t = -1 := by unfold hnd; rw [h]; rfl
theorem hnd_1 {T : VV} {t : TKN} (h : t.2.2 = 1) : hnd T t = 256 := by unfold hnd; rw [h]; rfl
theorem hnd_2 {T : VV} {t : TKN} (h : t.2.2 = 2) : hnd T t = 257 := by unfold hnd; rw [h]; rfl
theorem hnd_3 {T : VV} {t : TKN} (h : t.2.2 = 3) : hnd T t = T t.1 := by unfold hnd; rw [h]; rfl
theorem hnd_4 {T : VV} {t : TKN} (h : t.2.2 = 4) : hnd T t = 258 := by unfold hnd; rw [h]; rfl
theorem hnd_b {T : VV} {z : Nat} {t : TKN} (ht : TO T z t) {v : Int32} (hv : 0 ≤ v ∧ v ≤ 255) (h : hnd T t = v) : t.2.2 = 3 := by
  rcases k_cases ht.2.2.2.2.2.2 with q | q | q | q | q
  · rw [hnd_0 q] at h; subst h; exact absurd hv (by decide)
  · rw [hnd_1 q] at h; subst h; exact absurd hv (by decide)
  · rw [hnd_2 q] at h; subst h; exact absurd hv (by decide)
  · exact q
  · rw [hnd_4 q] at h; subst h; exact absurd hv (by decide)
theorem by_rng {x : Int32} (h : inN x 0 255) : 0 ≤ x ∧ x ≤ 255 := by
  obtain ⟨k, -, hk, rfl⟩ := h
  exact ⟨nI_pos' (by omega), nI_le (b := 255) hk (by decide)⟩
theorem hnd_k {T : VV} {z : Nat} {t : TKN} (hb : BY T z) (ht : TO T z t) : (hnd T t = -1 ↔ t.2.2 = 0) ∧ (hnd T t = 256 ↔ t.2.2 = 1) ∧ (hnd T t = 257 ↔ t.2.2 = 2) := by
  rcases k_cases ht.2.2.2.2.2.2 with q | q | q | q | q
  · rw [hnd_0 q, q]; decide
  · rw [hnd_1 q, q]; decide
  · rw [hnd_2 q, q]; decide
  · have h1 := by_rng (hb t.1 (by have := ht.2.2.2.1 (by omega); have := ht.2.1; omega))
    rw [hnd_3 q, q]
    refine ⟨⟨fun e => ?_, fun e => absurd e (by decide)⟩, ⟨fun e => ?_, fun e => absurd e (by decide)⟩, ⟨fun e => ?_, fun e => absurd e (by decide)⟩⟩ <;> rw [e] at h1 <;> exact absurd h1 (by decide)
  · rw [hnd_4 q, q]; decide
/-! Signs, their levels. -/
def lvB (b : Int32) : Nat := if b = 124 then 0 else if b = 38 then 1 else if b = 60 then 2 else if b = 61 then 2 else if b = 62 then 2 else if b = 43 then 3 else if b = 45 then 3 else if b = 42 then 4 else if b = 47 then 4 else 99
def sgB (b : Int32) : Int32 := if b = 124 then -1 else if b = 38 then -2 else if b = 60 then -3 else if b = 61 then -4 else if b = 62 then -5 else if b = 43 then -6 else if b = 45 then -7 else if b = 42 then -8 else if b = 47 then -9 else 0
def rkN (g : Int32) : Nat := if g = -1 then 1 else if g = -2 then 2 else if -5 ≤ g then 3 else if -7 ≤ g then 4 else if -9 ≤ g then 5 else 6
theorem lv_9 {b : Int32} (h : lvB b ≤ 4) : b = 124 ∨ b = 38 ∨ b = 60 ∨ b = 61 ∨ b = 62 ∨ b = 43 ∨ b = 45 ∨ b = 42 ∨ b = 47 := by
  apply Classical.byContradiction
  intro q
  simp only [not_or] at q
  obtain ⟨q1, q2, q3, q4, q5, q6, q7, q8, q9⟩ := q
  unfold lvB at h
  rw [if_neg q1, if_neg q2, if_neg q3, if_neg q4, if_neg q5, if_neg q6, if_neg q7, if_neg q8, if_neg q9] at h
  omega
theorem sg_in {b : Int32} (h : lvB b ≤ 4) : (sgB b ≠ 0 ∧ sgB b ≠ -11 ∧ sgB b ≠ -10) ∧ rkN (sgB b) = lvB b + 1 ∧ cSym (sgB b) = 20000 + b ∧ (0 ≤ b ∧ b ≤ 255) ∧ (sgB b = -1 ∨ sgB b = -2 ∨ sgB b = -3 ∨ sgB b = -4 ∨ sgB b = -5 ∨ sgB b = -6 ∨ sgB b = -7 ∨ sgB b = -8 ∨ sgB b = -9 ∨ sgB b = -10) ∧ ¬ 0 ≤ sgB b := by
  rcases lv_9 h with q | q | q | q | q | q | q | q | q <;> subst q <;> decide
theorem lv_99 (b : Int32) : lvB b ≤ 4 ∨ lvB b = 99 := by
  by_cases h : lvB b ≤ 4
  · exact Or.inl h
  · right
    have q1 : ¬ b = 124 := fun e => h (by rw [e]; decide)
    have q2 : ¬ b = 38 := fun e => h (by rw [e]; decide)
    have q3 : ¬ b = 60 := fun e => h (by rw [e]; decide)
    have q4 : ¬ b = 61 := fun e => h (by rw [e]; decide)
    have q5 : ¬ b = 62 := fun e => h (by rw [e]; decide)
    have q6 : ¬ b = 43 := fun e => h (by rw [e]; decide)
    have q7 : ¬ b = 45 := fun e => h (by rw [e]; decide)
    have q8 : ¬ b = 42 := fun e => h (by rw [e]; decide)
    have q9 : ¬ b = 47 := fun e => h (by rw [e]; decide)
    unfold lvB
    rw [if_neg q1, if_neg q2, if_neg q3, if_neg q4, if_neg q5, if_neg q6, if_neg q7, if_neg q8, if_neg q9]
theorem sg_out {b : Int32} (h : lvB b = 99) : sgB b = 0 := by
  have q1 : ¬ b = 124 := fun e => by rw [e] at h; exact absurd h (by decide)
  have q2 : ¬ b = 38 := fun e => by rw [e] at h; exact absurd h (by decide)
  have q3 : ¬ b = 60 := fun e => by rw [e] at h; exact absurd h (by decide)
  have q4 : ¬ b = 61 := fun e => by rw [e] at h; exact absurd h (by decide)
  have q5 : ¬ b = 62 := fun e => by rw [e] at h; exact absurd h (by decide)
  have q6 : ¬ b = 43 := fun e => by rw [e] at h; exact absurd h (by decide)
  have q7 : ¬ b = 45 := fun e => by rw [e] at h; exact absurd h (by decide)
  have q8 : ¬ b = 42 := fun e => by rw [e] at h; exact absurd h (by decide)
  have q9 : ¬ b = 47 := fun e => by rw [e] at h; exact absurd h (by decide)
  unfold sgB
  rw [if_neg q1, if_neg q2, if_neg q3, if_neg q4, if_neg q5, if_neg q6, if_neg q7, if_neg q8, if_neg q9]
/-! The reference's stack of signs. -/
def stl (r : Nat) : List Int32 → List Int32 → List Int32 × List Int32
  | [], C => ([], C)
  | x :: W, C => if x ≠ -11 ∧ r ≤ rkN x then stl r W (x :: C) else (x :: W, C)
theorem stl_pop {r : Nat} {x : Int32} {W C : List Int32} (h : x ≠ -11 ∧ r ≤ rkN x) : stl r (x :: W) C = stl r W (x :: C) := if_pos h
theorem stl_stop {r : Nat} {x : Int32} {W C : List Int32} (h : ¬ (x ≠ -11 ∧ r ≤ rkN x)) : stl r (x :: W) C = (x :: W, C) := if_neg h
theorem stl_stl {r q : Nat} (h : q ≤ r) : ∀ (W C : List Int32), stl q (stl r W C).1 (stl r W C).2 = stl q W C
  | [], C => rfl
  | x :: W, C => by
    by_cases hx : x ≠ -11 ∧ r ≤ rkN x
    · rw [stl_pop hx, stl_pop (r := q) ⟨hx.1, Nat.le_trans h hx.2⟩]
      exact stl_stl h W (x :: C)
    · rw [stl_stop hx]
theorem stl_len (r : Nat) : ∀ (W C : List Int32), (stl r W C).1.length + (stl r W C).2.length = W.length + C.length
  | [], C => rfl
  | x :: W, C => by
    by_cases hx : x ≠ -11 ∧ r ≤ rkN x
    · rw [stl_pop hx, stl_len r W (x :: C)]
      simp only [List.length_cons]
      omega
    · rw [stl_stop hx]
def nots : List Int32 → Nat
  | [] => 0
  | x :: W => nots W + (if x = -10 then 1 else 0)
def opn : List Int32 → Nat
  | [] => 0
  | x :: W => opn W + (if x = -11 then 1 else 0)
theorem nots_le : ∀ W : List Int32, nots W ≤ W.length
  | [] => Nat.le_refl _
  | x :: W => by
    have := nots_le W
    rw [nots, List.length_cons]
    split <;> omega
theorem stl_opn (r : Nat) : ∀ (W C : List Int32), opn (stl r W C).1 = opn W
  | [], C => rfl
  | x :: W, C => by
    by_cases hx : x ≠ -11 ∧ r ≤ rkN x
    · rw [stl_pop hx, stl_opn r W (x :: C), opn, if_neg hx.1, Nat.add_zero]
    · rw [stl_stop hx]
theorem stl_0 : ∀ (W C : List Int32), 0 < opn W → ∃ W', (stl 0 W C).1 = -11 :: W'
  | [], C, h => absurd h (by decide)
  | x :: W, C, h => by
    by_cases hx : x = -11
    · subst hx
      rw [stl_stop (fun q => q.1 rfl)]
      exact ⟨W, rfl⟩
    · rw [stl_pop ⟨hx, Nat.zero_le _⟩]
      refine stl_0 W (x :: C) ?_
      rw [opn, if_neg hx] at h
      exact h
/-- a stack on which a level's piece may be begun -/
def okW (l : Nat) : List Int32 → Prop
  | [] => True
  | x :: _ => x = -11 ∨ rkN x ≤ l
theorem okW_stl {l r : Nat} {W C : List Int32} (h : okW l W) (hr : l < r) : stl r W C = (W, C) := by
  cases W with
  | nil => rfl
  | cons x W =>
    refine stl_stop (fun q => ?_)
    rcases h with h | h
    · exact q.1 h
    · have := q.2; omega
theorem okW_up {l : Nat} {W : List Int32} (h : okW l W) : okW (l + 1) W := by
  cases W with
  | nil => trivial
  | cons x W => exact h.elim Or.inl (fun q => Or.inr (Nat.le_succ_of_le q))
