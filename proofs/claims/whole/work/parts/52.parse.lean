/-! The reference's loop. -/
def nmB (key : Nat) (b : Int32) : Int32 := if key = 0 then (if b = 100 then 0 else if b = 97 then 1 else if b = 98 then 2 else -1) else if key = 1 then (if b = 111 then 0 else if b = 115 then 1 else -1) else (if b = 100 then 0 else if b = 102 then 1 else -1)
def numF (T : VV) (s : Nat) : Nat → Int32
  | 0 => 0
  | j + 1 => numF T s j * 10 + T (s + j) - 48
theorem num_ok {T : VV} {s : Nat} : ∀ (j : Nat), j ≤ 4 → (∀ i, s ≤ i → i < s + j → isD (T i)) → ∃ k, k < 10 ^ j ∧ numF T s j = nI k
  | 0, _, _ => ⟨0, by decide, rfl⟩
  | j + 1, hj, h => by
    obtain ⟨k, hk, e⟩ := num_ok j (by omega) (fun i h1 h2 => h i h1 (by omega))
    obtain ⟨h1, h2⟩ := h (s + j) (by omega) (by omega)
    obtain ⟨q, hq, e2⟩ := nI_rng (m := 57) (by decide) (Int32.le_trans (show (0 : Int32) ≤ 48 by decide) h1) h2
    have hq2 : 48 ≤ q := (nI_leI (a := 48) (by decide) (by omega)).mp (e2 ▸ h1)
    have h3 : k < 10000 := Nat.lt_of_lt_of_le hk (Nat.pow_le_pow_right (n := 10) (j := 4) (by decide) (by omega))
    refine ⟨k * 10 + (q - 48), by rw [Nat.pow_succ]; omega, ?_⟩
    show numF T s j * 10 + T (s + j) - 48 = _
    rw [e, e2]
    show nI k * nI 10 + nI q - nI 48 = _
    rw [nI_mul, nI_add, nI_sub (by omega)]
    congr 1
    omega
def isPt (T : VV) (key : Nat) (t : TKN) : Prop := t.2.2 = 2 ∨ (t.2.2 = 1 ∧ t.2.1 - t.1 = 1 ∧ 0 ≤ nmB key (T t.1))
def ptV (T : VV) (key : Nat) (t : TKN) : Int32 := if t.2.2 = 2 then numF T t.1 (t.2.1 - t.1) else 10000 + nmB key (T t.1)
def tdU (td : VV) (pr : Nat) (g : Int32) : Int32 := if rkN g = 3 ∨ (3 < rkN g ∧ td pr ≠ 0) then 1 else 0
abbrev RES : Type := Nat × Option (List Int32 × Nat)
noncomputable def rrun (T : VV) (z key : Nat) : Nat → TKN → List Int32 → List Int32 → Nat → Nat → VV → Nat → Bool → Option RES
  | 0, _, _, _, _, _, _, _, _ => none
  | n + 1, t, W, C, a, pr, td, m, true =>
    cif (hnd T t = 33 ∧ m < 8) (rrun T z key n (nxT T z t) (-10 :: W) C a pr td (nots (-10 :: W)) true)
    (cif (hnd T t = 40 ∧ pr < 8) (rrun T z key n (nxT T z t) (-11 :: W) C a (pr + 1) (va_up td (pr + 1) 0) (nots (-11 :: W)) true)
    (cif (isPt T key t) (rrun T z key n (nxT T z t) (stl 6 W (ptV T key t :: C)).1 (stl 6 W (ptV T key t :: C)).2 (a + 1) pr td (nots (stl 6 W (ptV T key t :: C)).1) false)
    (some (t.1, none))))
  | n + 1, t, W, C, a, pr, td, m, false =>
    cif (t.2.2 = 0) (some (t.1, cif (pr = 0) (some ((stl 0 W C).2, a)) none))
    (cif (hnd T t = 41 ∧ 0 < pr) (rrun T z key n (nxT T z t) (stl 6 (stl 0 W C).1.tail (stl 0 W C).2).1 (stl 6 (stl 0 W C).1.tail (stl 0 W C).2).2 a (pr - 1) td (nots (stl 6 (stl 0 W C).1.tail (stl 0 W C).2).1) false)
    (cif (sgB (hnd T t) = 0 ∨ (rkN (sgB (hnd T t)) = 3 ∧ td pr ≠ 0)) (some (t.1, none))
    (rrun T z key n (nxT T z t) (sgB (hnd T t) :: (stl (rkN (sgB (hnd T t))) W C).1) (stl (rkN (sgB (hnd T t))) W C).2 a pr (va_up td pr (tdU td pr (sgB (hnd T t)))) m true)))
def RU (T : VV) (z key : Nat) (t : TKN) (W C : List Int32) (a pr : Nat) (td : VV) (m : Nat) (w : Bool) (r : RES) : Prop := ∃ n, rrun T z key n t W C a pr td m w = some r
section
variable {T : VV} {z key : Nat} {t : TKN} {W C : List Int32} {a pr : Nat} {td : VV} {m : Nat} {r : RES}
theorem ru_not (h1 : hnd T t = 33) (h2 : m < 8) (k : RU T z key (nxT T z t) (-10 :: W) C a pr td (nots (-10 :: W)) true r) : RU T z key t W C a pr td m true r := by
  obtain ⟨n, hn⟩ := k
  exact ⟨n + 1, by rw [rrun, cif_t ⟨h1, h2⟩]; exact hn⟩
theorem ru_open (h1 : hnd T t = 40) (h2 : pr < 8) (k : RU T z key (nxT T z t) (-11 :: W) C a (pr + 1) (va_up td (pr + 1) 0) (nots (-11 :: W)) true r) : RU T z key t W C a pr td m true r := by
  obtain ⟨n, hn⟩ := k
  have h0 : ¬ (hnd T t = 33 ∧ m < 8) := fun q => absurd (h1.symm.trans q.1) (by decide)
  exact ⟨n + 1, by rw [rrun, cif_f h0, cif_t ⟨h1, h2⟩]; exact hn⟩
theorem ru_part (h1 : isPt T key t) (k : RU T z key (nxT T z t) (stl 6 W (ptV T key t :: C)).1 (stl 6 W (ptV T key t :: C)).2 (a + 1) pr td (nots (stl 6 W (ptV T key t :: C)).1) false r) : RU T z key t W C a pr td m true r := by
  obtain ⟨n, hn⟩ := k
  have hh : hnd T t = 257 ∨ hnd T t = 256 := h1.elim (fun q => Or.inl (hnd_2 q)) (fun q => Or.inr (hnd_1 q.1))
  have h0 : ¬ (hnd T t = 33 ∧ m < 8) := fun q => hh.elim (fun e => absurd (e.symm.trans q.1) (by decide)) (fun e => absurd (e.symm.trans q.1) (by decide))
  have h2 : ¬ (hnd T t = 40 ∧ pr < 8) := fun q => hh.elim (fun e => absurd (e.symm.trans q.1) (by decide)) (fun e => absurd (e.symm.trans q.1) (by decide))
  exact ⟨n + 1, by rw [rrun, cif_f h0, cif_f h2, cif_t h1]; exact hn⟩
theorem ru_none (h0 : ¬ (hnd T t = 33 ∧ m < 8)) (h1 : ¬ (hnd T t = 40 ∧ pr < 8)) (h2 : ¬ isPt T key t) : RU T z key t W C a pr td m true (t.1, none) :=
  ⟨1, by rw [rrun, cif_f h0, cif_f h1, cif_f h2]⟩
theorem ru_end (h : t.2.2 = 0) : RU T z key t W C a pr td m false (t.1, cif (pr = 0) (some ((stl 0 W C).2, a)) none) :=
  ⟨1, by rw [rrun, cif_t h]⟩
theorem ru_close (hz : t.2.2 ≠ 0) (h1 : hnd T t = 41) (h2 : 0 < pr) (k : RU T z key (nxT T z t) (stl 6 (stl 0 W C).1.tail (stl 0 W C).2).1 (stl 6 (stl 0 W C).1.tail (stl 0 W C).2).2 a (pr - 1) td (nots (stl 6 (stl 0 W C).1.tail (stl 0 W C).2).1) false r) : RU T z key t W C a pr td m false r := by
  obtain ⟨n, hn⟩ := k
  exact ⟨n + 1, by rw [rrun, cif_f hz, cif_t ⟨h1, h2⟩]; exact hn⟩
theorem ru_bad (hz : t.2.2 ≠ 0) (h1 : ¬ (hnd T t = 41 ∧ 0 < pr)) (h2 : sgB (hnd T t) = 0 ∨ (rkN (sgB (hnd T t)) = 3 ∧ td pr ≠ 0)) : RU T z key t W C a pr td m false (t.1, none) :=
  ⟨1, by rw [rrun, cif_f hz, cif_f h1, cif_t h2]⟩
theorem ru_sg (hz : t.2.2 ≠ 0) (h1 : ¬ (hnd T t = 41 ∧ 0 < pr)) (h2 : ¬ (sgB (hnd T t) = 0 ∨ (rkN (sgB (hnd T t)) = 3 ∧ td pr ≠ 0))) (k : RU T z key (nxT T z t) (sgB (hnd T t) :: (stl (rkN (sgB (hnd T t))) W C).1) (stl (rkN (sgB (hnd T t))) W C).2 a pr (va_up td pr (tdU td pr (sgB (hnd T t)))) m true r) : RU T z key t W C a pr td m false r := by
  obtain ⟨n, hn⟩ := k
  exact ⟨n + 1, by rw [rrun, cif_f hz, cif_f h1, cif_f h2]; exact hn⟩
end
/-! The class's levels over it. -/
def NL (l v : Nat) (x : Int32) : Prop := v < l ∨ 99 ≤ v ∨ (v = 2 ∧ l ≤ 2 ∧ x = 1)
def LW (T : VV) (z key l : Nat) (t : TKN) (W c : List Int32) (a b : Nat) (td : VV) (t' : TKN) (c' : List Int32) (a' : Nat) : Prop :=
  ∃ (V d : List Int32) (td' : VV), (∀ r, RU T z key t' V d a' b td' (nots V) false r → RU T z key t W c a b td (nots W) true r) ∧ (∀ q, q ≤ l + 1 → stl q V d = stl q W c') ∧ nots V = nots W ∧ (∀ i, i < b → td' i = td i) ∧ (td' b = 0 ∨ td' b = 1) ∧ (3 ≤ l → td' b = td b) ∧ NL l (lvB (hnd T t')) (td' b)
def LQ (T : VV) (z key : Nat) (t : TKN) (W c : List Int32) (a b : Nat) (td : VV) (t' : TKN) (c' : List Int32) (a' : Nat) : Prop :=
  ∃ (V d : List Int32) (td' : VV), (∀ r, RU T z key t' V d a' b td' (nots V) false r → RU T z key t W c a b td (nots W) true r) ∧ stl 6 W c' = (V, d) ∧ (∀ i, i ≤ b → td' i = td i)
def LI (T : VV) (z key l : Nat) (t : TKN) (W c : List Int32) (a b : Nat) (td : VV) (i : Nat) (t' : TKN) (c' : List Int32) (a' : Nat) : Prop :=
  ∃ (V d : List Int32) (td' : VV), (∀ r, RU T z key t' V d a' b td' (nots V) false r → RU T z key t W c a b td (nots W) true r) ∧ (∀ q, q ≤ l + 1 → stl q V d = stl q W c') ∧ nots V = nots W ∧ (∀ i, i < b → td' i = td i) ∧ (td' b = 0 ∨ td' b = 1) ∧ (3 ≤ l → td' b = td b) ∧ NL (l + 1) (lvB (hnd T t')) (td' b) ∧ (l = 2 → i = 0 → td' b = 0) ∧ (l = 2 → 0 < i → td' b = 1)
section
variable {T : VV} {z key l : Nat} {t t' t2 : TKN} {W c c' c2 : List Int32} {a a' a2 b i : Nat} {td : VV}
theorem lv_lp (hw : okW 5 W) (hb : td b = 0 ∨ td b = 1) (h : LQ T z key t W c a b td t' c' a') : LW T z key 5 t W c a b td t' c' a' := by
  obtain ⟨V, d, td', h1, h2, h3⟩ := h
  rw [okW_stl hw (by omega)] at h2
  cases h2
  refine ⟨W, c', td', h1, fun _ _ => rfl, rfl, fun i hi => h3 i (Nat.le_of_lt hi), by rw [h3 b (Nat.le_refl b)]; exact hb, fun _ => h3 b (Nat.le_refl b), ?_⟩
  rcases lv_99 (hnd T t') with q | q
  · exact Or.inl (by omega)
  · exact Or.inr (Or.inl (by omega))
theorem li_0 (hl : l ≤ 2 → td b = 0) (h : LW T z key (l + 1) t W c a b td t' c' a') : LI T z key l t W c a b td 0 t' c' a' := by
  obtain ⟨V, d, td', h1, h2, h3, h4, h5, h6, h7⟩ := h
  exact ⟨V, d, td', h1, fun q hq => h2 q (by omega), h3, h4, h5, fun q => h6 (by omega), h7, fun e _ => by subst e; rw [h6 (by omega)]; exact hl (by omega), fun _ q => absurd q (by omega)⟩
theorem li_x (h : LI T z key l t W c a b td i t' c' a') (hx : lvB (hnd T t') ≠ l ∨ (l = 2 ∧ 0 < i)) : LW T z key l t W c a b td t' c' a' := by
  obtain ⟨V, d, td', h1, h2, h3, h4, h5, h6, h7, h8, h9⟩ := h
  refine ⟨V, d, td', h1, h2, h3, h4, h5, h6, ?_⟩
  rcases h7 with q | q | ⟨q1, q2, q3⟩
  · by_cases e : lvB (hnd T t') = l
    · obtain ⟨e1, e2⟩ := hx.resolve_left (fun q => q e)
      exact Or.inr (Or.inr ⟨by omega, by omega, h9 e1 e2⟩)
    · exact Or.inl (by omega)
  · exact Or.inr (Or.inl q)
  · exact Or.inr (Or.inr ⟨q1, by omega, q3⟩)
theorem li_go (ht : TO T z t') (hl4 : l ≤ 4) (hw : okW l W) (h : LI T z key l t W c a b td i t' c' a') (hx : lvB (hnd T t') = l) (hi : l = 2 → i = 0) : t'.2.2 = 3 ∧ okW (l + 1) (sgB (hnd T t') :: W) ∧ nots (sgB (hnd T t') :: W) = nots W ∧ ∃ td1 : VV, (td1 b = 0 ∨ td1 b = 1) ∧ (l + 1 ≤ 2 → td1 b = 0) ∧
    (∀ r, RU T z key (nxT T z t') (sgB (hnd T t') :: W) c' a' b td1 (nots (sgB (hnd T t') :: W)) true r → RU T z key t W c a b td (nots W) true r) ∧
    ∀ t2 c2 a2, LW T z key (l + 1) (nxT T z t') (sgB (hnd T t') :: W) c' a' b td1 t2 c2 a2 → LI T z key l t W c a b td (i + 1) t2 (sgB (hnd T t') :: c2) a2 := by
  obtain ⟨V, d, td', h1, h2, h3, h4, h5, h6, h7, h8, h9⟩ := h
  obtain ⟨⟨s1, s2, s3⟩, s4, -, s6, -⟩ := sg_in (b := hnd T t') (by omega)
  have hk : t'.2.2 = 3 := hnd_b ht s6 rfl
  rw [hx] at s4
  have hno : nots (sgB (hnd T t') :: W) = nots W := by rw [nots, if_neg s3, Nat.add_zero]
  have hst : stl (rkN (sgB (hnd T t'))) V d = (W, c') := by rw [s4, h2 _ (Nat.le_refl _), okW_stl hw (Nat.lt_succ_self _)]
  have h41 : ¬ (hnd T t' = 41 ∧ 0 < b) := fun q => by
    have e := q.1
    rw [e] at hx
    have : (99 : Nat) = l := hx
    omega
  have hok : ¬ (sgB (hnd T t') = 0 ∨ (rkN (sgB (hnd T t')) = 3 ∧ td' b ≠ 0)) := fun q => q.elim s1 (fun q => by
    have hl2 : l = 2 := by have := q.1; omega
    exact q.2 (h8 hl2 (hi hl2)))
  have hru : ∀ r, RU T z key (nxT T z t') (sgB (hnd T t') :: W) c' a' b (va_up td' b (tdU td' b (sgB (hnd T t')))) (nots (sgB (hnd T t') :: W)) true r → RU T z key t W c a b td (nots W) true r := fun r hr => by
    refine h1 r (ru_sg (by omega) h41 hok ?_)
    rw [hst, h3, ← hno]
    exact hr
  have hu : tdU td' b (sgB (hnd T t')) = if l = 2 then 1 else if 2 < l then td' b else 0 := by
    unfold tdU
    rw [s4]
    by_cases e : l = 2
    · rw [if_pos (Or.inl (by omega)), if_pos e]
    · rw [if_neg e]
      by_cases e2 : 2 < l
      · rw [if_pos e2]
        rcases h5 with q | q
        · rw [q, if_neg (fun x => x.elim (fun x => by omega) (fun x => x.2 rfl))]
        · rw [q, if_pos (Or.inr ⟨by omega, by decide⟩)]
      · rw [if_neg e2, if_neg (fun x => x.elim (fun x => by omega) (fun x => by omega))]
  refine ⟨hk, Or.inr (by omega), hno, va_up td' b (tdU td' b (sgB (hnd T t'))), ?_, fun q => ?_, hru, fun t2 c2 a2 hv => ?_⟩
  · rw [va_up_self, hu]
    split
    · exact Or.inr rfl
    · split
      · exact h5
      · exact Or.inl rfl
  · rw [va_up_self, hu, if_neg (by omega), if_neg (by omega)]
  · obtain ⟨V2, d2, td2, g1, g2, g3, g4, g5, g6, g7⟩ := hv
    refine ⟨V2, d2, td2, fun r hr => hru r (g1 r hr), fun q hq => ?_, g3.trans hno, fun i hi => ?_, g5, fun q => ?_, g7, fun _ q => absurd q (by omega), fun e _ => ?_⟩
    · rw [g2 q (by omega), stl_pop ⟨s2, by omega⟩]
    · rw [g4 i hi, va_up_ne _ _ (by omega)]; exact h4 i hi
    · rw [g6 (by omega), va_up_self, hu, if_neg (by omega), if_pos (by omega)]; exact h6 q
    · rw [g6 (by omega), va_up_self, hu, if_pos e]
theorem lp_leaf (h : isPt T key t) : LQ T z key t W c a b td (nxT T z t) (ptV T key t :: c) (a + 1) :=
  ⟨(stl 6 W (ptV T key t :: c)).1, (stl 6 W (ptV T key t :: c)).2, td, fun _ hr => ru_part h hr, rfl, fun _ _ => rfl⟩
theorem lp_not (h : LQ T z key (nxT T z t) (-10 :: W) c a b td t' c' a') (h1 : hnd T t = 33) (h2 : nots W < 8) : LQ T z key t W c a b td t' (-10 :: c') a' := by
  obtain ⟨V, d, td', g1, g2, g3⟩ := h
  exact ⟨V, d, td', fun r hr => ru_not h1 h2 (g1 r hr), by rw [← g2, stl_pop ⟨by decide, by decide⟩], g3⟩
theorem lp_close (ht : TO T z t') (h1 : hnd T t = 40) (h2 : b < 8) (h : LW T z key 0 (nxT T z t) (-11 :: W) c a (b + 1) (va_up td (b + 1) 0) t' c' a') (h3 : hnd T t' = 41) : LQ T z key t W c a b td (nxT T z t') c' a' := by
  obtain ⟨V, d, td', g1, g2, g3, g4, g5, g6, g7⟩ := h
  have hk := hnd_b ht (by decide) h3
  have hst : stl 0 V d = (-11 :: W, c') := by rw [g2 0 (by omega), stl_stop (fun q => q.1 rfl)]
  refine ⟨(stl 6 W c').1, (stl 6 W c').2, td', fun r hr => ru_open h1 h2 (g1 r (ru_close (by omega) h3 (by omega) ?_)), rfl, fun i hi => by rw [g4 i (by omega), va_up_ne _ _ (by omega)]⟩
  rw [hst]
  exact hr
theorem lv_stuck (hb : BY T z) (ht : TO T z t') (h : LW T z key 0 t W c a b td t' c' a') (h3 : b = 0 ∨ hnd T t' ≠ 41) (h4 : b ≠ 0 ∨ hnd T t' ≠ -1) : RU T z key t W c a b td (nots W) true (t'.1, none) := by
  obtain ⟨V, d, td', g1, g2, g3, g4, g5, g6, g7⟩ := h
  by_cases hk : t'.2.2 = 0
  · have hb0 : ¬ b = 0 := h4.resolve_right (fun q => q (hnd_0 hk))
    have := ru_end (T := T) (z := z) (key := key) (W := V) (C := d) (a := a') (pr := b) (td := td') (m := nots V) hk
    rw [cif_f hb0] at this
    exact g1 _ this
  · refine g1 _ (ru_bad hk (fun q => h3.elim (fun e => by have := q.2; omega) (fun e => e q.1)) ?_)
    rcases g7 with q | q | ⟨q1, q2, q3⟩
    · omega
    · exact Or.inl (sg_out ((lv_99 _).resolve_left (by omega)))
    · obtain ⟨-, s4, -⟩ := sg_in (b := hnd T t') (by omega)
      exact Or.inr ⟨by omega, by rw [q3]; decide⟩
theorem lp_stuck (hb : BY T z) (ht : TO T z t') (h1 : hnd T t = 40) (h2 : b < 8) (h : LW T z key 0 (nxT T z t) (-11 :: W) c a (b + 1) (va_up td (b + 1) 0) t' c' a') (h3 : hnd T t' ≠ 41) : RU T z key t W c a b td (nots W) true (t'.1, none) :=
  ru_open h1 h2 (lv_stuck hb ht h (Or.inr h3) (Or.inl (by omega)))
theorem lv_done (hb : BY T z) (ht : TO T z t') (h : LW T z key 0 t [] c a 0 td t' c' a') (h3 : hnd T t' = -1) : RU T z key t [] c a 0 td (nots []) true (t'.1, some (c', a')) := by
  obtain ⟨V, d, td', g1, g2, g3, g4, g5, g6, g7⟩ := h
  have hk := (hnd_k hb ht).1.mp h3
  have := ru_end (T := T) (z := z) (key := key) (W := V) (C := d) (a := a') (pr := 0) (td := td') (m := nots V) hk
  rw [cif_t rfl, g2 0 (by omega)] at this
  exact g1 _ this
end
/-! What a piece adds to the code. -/
def hgL : List Int32 → Option Nat
  | [] => some 0
  | x :: l => (hgL l).bind (stepH x)
def GR (key : Nat) (t : TKN) (c : List Int32) (t' : TKN) (c' : List Int32) : Prop := (∀ h, hgL c = some h → hgL c' = some (h + 1)) ∧ (∀ y, y ∈ c' → y ∈ c ∨ okSym key y) ∧ c'.length + t.1 ≤ c.length + t'.1 ∧ c.length ≤ c'.length
section
variable {T : VV} {z key : Nat} {t t' t2 : TKN} {c c' c2 : List Int32}
theorem pt_sym (ht : TO T z t) (hk : key ≤ 2) (h : isPt T key t) : okSym key (ptV T key t) ∧ 0 ≤ ptV T key t ∧ cSym (ptV T key t) = ptV T key t := by
  have hc : ∀ k, k ≤ 10002 → 0 ≤ nI k ∧ cSym (nI k) = nI k := fun k hk => by
    have h0 : 0 ≤ nI k := nI_pos' (by omega)
    refine ⟨h0, ?_⟩
    have hn : ∀ v : Int32, v < 0 → ¬ nI k = v := fun v hv e => absurd (e ▸ h0) (Int32.not_le.mpr hv)
    unfold cSym
    rw [if_neg (hn _ (by decide)), if_neg (hn _ (by decide)), if_neg (hn _ (by decide)), if_neg (hn _ (by decide)), if_neg (hn _ (by decide)), if_neg (hn _ (by decide)), if_neg (hn _ (by decide)), if_neg (hn _ (by decide)), if_neg (hn _ (by decide)), if_neg (hn _ (by decide))]
  by_cases e : t.2.2 = 2
  · obtain ⟨h1, h2⟩ := ht.2.2.2.2.2.1 e
    obtain ⟨k, hk1, hk2⟩ := num_ok (T := T) (s := t.1) (t.2.1 - t.1) h1 (fun i a1 a2 => h2 i a1 (by omega))
    have h3 : k < 10000 := Nat.lt_of_lt_of_le hk1 (Nat.pow_le_pow_right (n := 10) (j := 4) (by decide) h1)
    have h4 : ptV T key t = nI k := by unfold ptV; rw [if_pos e]; exact hk2
    rw [h4]
    exact ⟨Or.inl ⟨k, h3, rfl⟩, hc k (by omega)⟩
  · obtain ⟨h1, h2, h3⟩ := h.resolve_left e
    have hx : ∃ k, k ≤ (if key = 0 then 2 else 1) ∧ nmB key (T t.1) = nI k := by
      unfold nmB at h3 ⊢
      rcases (show key = 0 ∨ key = 1 ∨ key = 2 by omega) with rfl | rfl | rfl
      · rw [if_pos rfl] at h3 ⊢
        rw [if_pos rfl]
        split at h3
        · exact ⟨0, by omega, by rename_i q; rw [if_pos q]; rfl⟩
        · split at h3
          · exact ⟨1, by omega, by rename_i q0 q; rw [if_neg q0, if_pos q]; rfl⟩
          · split at h3
            · exact ⟨2, by omega, by rename_i q0 q1 q; rw [if_neg q0, if_neg q1, if_pos q]; rfl⟩
            · exact absurd h3 (by decide)
      · rw [if_neg (by decide), if_pos rfl] at h3 ⊢
        rw [if_neg (by decide)]
        split at h3
        · exact ⟨0, by omega, by rename_i q; rw [if_pos q]; rfl⟩
        · split at h3
          · exact ⟨1, by omega, by rename_i q0 q; rw [if_neg q0, if_pos q]; rfl⟩
          · exact absurd h3 (by decide)
      · rw [if_neg (by decide), if_neg (by decide)] at h3 ⊢
        rw [if_neg (by decide)]
        split at h3
        · exact ⟨0, by omega, by rename_i q; rw [if_pos q]; rfl⟩
        · split at h3
          · exact ⟨1, by omega, by rename_i q0 q; rw [if_neg q0, if_pos q]; rfl⟩
          · exact absurd h3 (by decide)
    obtain ⟨k, hk1, hk2⟩ := hx
    have h4 : ptV T key t = nI (10000 + k) := by
      unfold ptV
      rw [if_neg e, hk2]
      exact nI_add 10000 k
    rw [h4]
    exact ⟨Or.inr (Or.inl ⟨k, hk1, rfl⟩), hc _ (by revert hk1; split <;> omega)⟩
theorem gr_leaf (ht : TO T z t) (hk : key ≤ 2) (h : isPt T key t) : GR key t c (nxT T z t) (ptV T key t :: c) := by
  obtain ⟨h1, h2, -⟩ := pt_sym ht hk h
  have h3 := nxT_gt ht (by rcases h with q | q <;> omega)
  refine ⟨fun q hq => ?_, fun y hy => (List.mem_cons.mp hy).elim (fun e => Or.inr (e ▸ h1)) Or.inl, by rw [List.length_cons]; omega, by rw [List.length_cons]; omega⟩
  rw [hgL, hq]
  show stepH _ q = _
  unfold stepH
  rw [if_pos h2]
theorem gr_not (ht : TO T z t) (h1 : hnd T t = 33) (h : GR key (nxT T z t) c t' c') : GR key t c t' (-10 :: c') := by
  obtain ⟨g1, g2, g3, g4⟩ := h
  have hk := hnd_b ht (by decide) h1
  have h3 := nxT_gt ht (by omega)
  refine ⟨fun q hq => ?_, fun y hy => (List.mem_cons.mp hy).elim (fun e => Or.inr (by rw [e]; unfold okSym; simp)) (g2 y), by rw [List.length_cons]; omega, by rw [List.length_cons]; omega⟩
  rw [hgL, g1 q hq]
  show stepH _ (q + 1) = _
  unfold stepH
  rw [if_neg (by decide), if_pos rfl, if_pos (by omega)]
theorem gr_close (ht : TO T z t) (h1 : hnd T t = 40) (ht' : TO T z t') (h : GR key (nxT T z t) c t' c') : GR key t c (nxT T z t') c' := by
  obtain ⟨g1, g2, g3, g4⟩ := h
  have hk := hnd_b ht (by decide) h1
  have h3 := nxT_gt ht (by omega)
  have h4 := (nxT_ok ht').2
  have h5 := ht'.1
  exact ⟨g1, g2, by omega, g4⟩
theorem gr_sg (ht : TO T z t') (hl : lvB (hnd T t') ≤ 4) (h : GR key t c t' c') (h2 : GR key (nxT T z t') c' t2 c2) : GR key t c t2 (sgB (hnd T t') :: c2) := by
  obtain ⟨g1, g2, g3, g4⟩ := h
  obtain ⟨f1, f2, f3, f4⟩ := h2
  obtain ⟨⟨s1, s2, s3⟩, s4, -, s6, s7, s8⟩ := sg_in hl
  have hk := hnd_b ht s6 rfl
  have h3 := nxT_gt ht (by omega)
  refine ⟨fun q hq => ?_, fun y hy => (List.mem_cons.mp hy).elim (fun e => Or.inr (by rw [e]; exact Or.inr (Or.inr s7))) (fun q => (f2 y q).elim (g2 y) Or.inr), by rw [List.length_cons]; omega, by rw [List.length_cons]; omega⟩
  rw [hgL, f1 _ (g1 q hq)]
  show stepH _ (q + 1 + 1) = _
  unfold stepH
  rw [if_neg s8, if_neg s3, if_pos (by omega)]
  rfl
end
