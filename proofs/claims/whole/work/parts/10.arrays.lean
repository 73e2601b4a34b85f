/-! Arrays. -/
theorem ty_at (cy : Nat → ClassId) : (tysOf cy)[0]? = some (cy 11, .char) ∧ (tysOf cy)[1]? = some (cy 12, .int) ∧ (tysOf cy)[2]? = some (cy 13, .boolean) ∧ (tysOf cy)[7]? = some (cy 18, .array .int) := ⟨rfl, rfl, rfl, rfl⟩
theorem ty_ref (cy : Nat → ClassId) : ∀ t, 14 ≤ t → t < 18 → (tysOf cy)[t - 11]? = some (cy t, .object (cT (et t)).1) ∧ et t < 11 := by
  intro t h1 h2
  rcases (show t = 14 ∨ t = 15 ∨ t = 16 ∨ t = 17 by omega) with rfl | rfl | rfl | rfl <;> exact ⟨rfl, by decide⟩
theorem ty_any (cy : Nat → ClassId) : ∀ t, 11 ≤ t → t < 19 → ∃ ty, (tysOf cy)[t - 11]? = some (cy t, ty) := by
  intro t h1 h2
  rcases (show t = 11 ∨ t = 12 ∨ t = 13 ∨ t = 14 ∨ t = 15 ∨ t = 16 ∨ t = 17 ∨ t = 18 by omega) with rfl | rfl | rfl | rfl | rfl | rfl | rfl | rfl <;> exact ⟨_, rfl⟩
section
variable {sc : SC} {d mc ms : Nat} {md : MD} {pc : Nat} {al st : List AV} {I I' : HI} {L L' : HL} {R R' : HR} {N N' : HN} {n : Nat} {Q : HQ} {i x : Int32} {k q z : Nat}
theorem w_iald (hd : decode md.2.1 pc = .ok (.iaload, 1)) (hi : i = nI q) (hN : N k = z) (hq : q < z) (K : WP sc d mc ms md (pc + 1) al (vI (I k q) :: st) I L R N n Q) (hz : z < 2147483648 := by decide) : WP sc d mc ms md pc al (vI i :: vR 12 k :: st) I L R N n Q := by
  intro e ρ T n0 ρ0 T0 p l en Rm s m args below meth c H locs cells slots ls h
  have h' := h
  obtain ⟨⟨g1, g2, -⟩, -, -, h4, h5, ⟨hK, hP, hD, hT⟩, -⟩ := h
  obtain ⟨hk, hTk⟩ : k < n ∧ T k = 12 := ok_hd (ok_tl h5)
  have he := wsl_get (cy := e.2.1) (ρ := ρ) (T := T) (I := I) (L := L) (R := R) (N := N) hk
  rw [ce_int hTk (by decide) (by decide), hN] at he
  subst hi
  refine va_iald g1 g2 hK hP k 1 he (ty_at _).2.1 (vp_in_nI hq hz) hd ?_
  rw [nI_clamp (by omega)]
  exact K e ρ T n0 ρ0 T0 p l en Rm s m args below meth c H locs cells slots ls (h'.stack (ok_i (ok_tl (ok_tl h5))))
theorem w_zald (hd : decode md.2.1 pc = .ok (.baload, 1)) (hi : i = nI q) (hN : N k = z) (hq : q < z) (K : WP sc d mc ms md (pc + 1) al (vI (I k q) :: st) I L R N n Q) (hz : z < 2147483648 := by decide) : WP sc d mc ms md pc al (vI i :: vR 13 k :: st) I L R N n Q := by
  intro e ρ T n0 ρ0 T0 p l en Rm s m args below meth c H locs cells slots ls h
  have h' := h
  obtain ⟨⟨g1, g2, -⟩, -, -, h4, h5, ⟨hK, hP, hD, hT⟩, -⟩ := h
  obtain ⟨hk, hTk⟩ : k < n ∧ T k = 13 := ok_hd (ok_tl h5)
  have he := wsl_get (cy := e.2.1) (ρ := ρ) (T := T) (I := I) (L := L) (R := R) (N := N) hk
  rw [ce_int hTk (by decide) (by decide), hN] at he
  subst hi
  refine va_zald g1 g2 hK hP k 2 he (ty_at _).2.2.1 (vp_in_nI hq hz) hd ?_
  rw [nI_clamp (by omega)]
  exact K e ρ T n0 ρ0 T0 p l en Rm s m args below meth c H locs cells slots ls (h'.stack (ok_i (ok_tl (ok_tl h5))))
theorem w_cald (hd : decode md.2.1 pc = .ok (.caload, 1)) (hi : i = nI q) (hN : N k = z) (hq : q < z) (K : WP sc d mc ms md (pc + 1) al (vI (I k q) :: st) I L R N n Q) (hz : z < 2147483648 := by decide) : WP sc d mc ms md pc al (vI i :: vR 11 k :: st) I L R N n Q := by
  intro e ρ T n0 ρ0 T0 p l en Rm s m args below meth c H locs cells slots ls h
  have h' := h
  obtain ⟨⟨g1, g2, -⟩, -, -, h4, h5, ⟨hK, hP, hD, hT⟩, -⟩ := h
  obtain ⟨hk, hTk⟩ : k < n ∧ T k = 11 := ok_hd (ok_tl h5)
  have he := wsl_get (cy := e.2.1) (ρ := ρ) (T := T) (I := I) (L := L) (R := R) (N := N) hk
  rw [ce_int hTk (by decide) (by decide), hN] at he
  subst hi
  refine va_cald g1 g2 hK hP k 0 he (ty_at _).1 (vp_in_nI hq hz) hd ?_
  rw [nI_clamp (by omega)]
  exact K e ρ T n0 ρ0 T0 p l en Rm s m args below meth c H locs cells slots ls (h'.stack (ok_i (ok_tl (ok_tl h5))))
/-- what a number that is put into an array of numbers leaves behind -/
theorem hw_iast {e : EN} {ρ : Nat → Nat} {T : HN} {U : State} {H1 : Heap} {t : Nat} (ht : 11 ≤ t) (ht2 : t < 14) (hk : k < n) (hTk : T k = t) (hK : va_K e.1 vwCl (tysOf e.2.1) U) (hT : WT T R n)
    (hP : va_P e.1 vwCl ((wsl e.2.1 ρ T I L R N n).set k (ρ k, .inl (e.2.1 t, N k, .inl (upd (I k) q x)))) H1) (hD : va_D (EA e) ((wsl e.2.1 ρ T I L R N n).set k (ρ k, .inl (e.2.1 t, N k, .inl (upd (I k) q x))))) : HW e ρ T (va_up I k (va_up (I k) q x)) L R N n U H1 := by
  have hset : (wsl e.2.1 ρ T I L R N n).set k (ρ k, .inl (e.2.1 t, N k, .inl (upd (I k) q x))) = wsl e.2.1 ρ T (va_up I k (va_up (I k) q x)) L R N n := by
    refine wsl_upd hk ?_ (fun w hw hwk => ?_)
    · rw [ce_int hTk ht ht2, va_up_self]; rfl
    · unfold ce fval
      rw [va_up_ne _ _ hwk]
  rw [hset] at hP hD
  exact ⟨hK, hP, hD, hT⟩
theorem w_iast (hd : decode md.2.1 pc = .ok (.iastore, 1)) (hi : i = nI q) (hN : N k = z) (hq : q < z) (K : WP sc d mc ms md (pc + 1) al st (va_up I k (va_up (I k) q x)) L R N n Q) (hz : z < 2147483648 := by decide) : WP sc d mc ms md pc al (vI x :: vI i :: vR 12 k :: st) I L R N n Q := by
  intro e ρ T n0 ρ0 T0 p l en Rm s m args below meth c H locs cells slots ls h
  have h' := h
  obtain ⟨⟨g1, g2, -⟩, -, -, h4, h5, ⟨hK, hP, hD, hT⟩, hS, -⟩ := h
  obtain ⟨hk, hTk⟩ : k < n ∧ T k = 12 := ok_hd (ok_tl (ok_tl h5))
  have he := wsl_get (cy := e.2.1) (ρ := ρ) (T := T) (I := I) (L := L) (R := R) (N := N) hk
  rw [ce_int hTk (by decide) (by decide)] at he
  subst hi
  refine va_iast (x := x) g1 g2 hK hP hD hS k 1 he (ty_at _).2.1 (by rw [hN]; exact vp_in_nI hq hz) hd (fun H1 locs1 hP1 hD1 hS1 => ?_)
  rw [nI_clamp (by omega)] at hP1 hD1
  exact K e ρ T n0 ρ0 T0 p l en Rm s m args below meth c H1 locs1 cells slots ls (h'.heap (hw_iast (by decide) (by decide) hk hTk hK hT hP1 hD1) hS1 (ok_tl (ok_tl (ok_tl h5))))
theorem w_zast (hd : decode md.2.1 pc = .ok (.bastore, 1)) (hi : i = nI q) (hN : N k = z) (hq : q < z) (hx : vp_nar .boolean x = x) (K : WP sc d mc ms md (pc + 1) al st (va_up I k (va_up (I k) q x)) L R N n Q) (hz : z < 2147483648 := by decide) : WP sc d mc ms md pc al (vI x :: vI i :: vR 13 k :: st) I L R N n Q := by
  intro e ρ T n0 ρ0 T0 p l en Rm s m args below meth c H locs cells slots ls h
  have h' := h
  obtain ⟨⟨g1, g2, -⟩, -, -, h4, h5, ⟨hK, hP, hD, hT⟩, hS, -⟩ := h
  obtain ⟨hk, hTk⟩ : k < n ∧ T k = 13 := ok_hd (ok_tl (ok_tl h5))
  have he := wsl_get (cy := e.2.1) (ρ := ρ) (T := T) (I := I) (L := L) (R := R) (N := N) hk
  rw [ce_int hTk (by decide) (by decide)] at he
  subst hi
  refine va_zast (x := x) g1 g2 hK hP hD hS k 2 he (ty_at _).2.2.1 (by rw [hN]; exact vp_in_nI hq hz) hd (fun H1 locs1 hP1 hD1 hS1 => ?_)
  rw [nI_clamp (by omega), hx] at hP1 hD1
  exact K e ρ T n0 ρ0 T0 p l en Rm s m args below meth c H1 locs1 cells slots ls (h'.heap (hw_iast (by decide) (by decide) hk hTk hK hT hP1 hD1) hS1 (ok_tl (ok_tl (ok_tl h5))))
theorem w_cast (hd : decode md.2.1 pc = .ok (.castore, 1)) (hi : i = nI q) (hN : N k = z) (hq : q < z) (hx : vp_nar .char x = x) (K : WP sc d mc ms md (pc + 1) al st (va_up I k (va_up (I k) q x)) L R N n Q) (hz : z < 2147483648 := by decide) : WP sc d mc ms md pc al (vI x :: vI i :: vR 11 k :: st) I L R N n Q := by
  intro e ρ T n0 ρ0 T0 p l en Rm s m args below meth c H locs cells slots ls h
  have h' := h
  obtain ⟨⟨g1, g2, -⟩, -, -, h4, h5, ⟨hK, hP, hD, hT⟩, hS, -⟩ := h
  obtain ⟨hk, hTk⟩ : k < n ∧ T k = 11 := ok_hd (ok_tl (ok_tl h5))
  have he := wsl_get (cy := e.2.1) (ρ := ρ) (T := T) (I := I) (L := L) (R := R) (N := N) hk
  rw [ce_int hTk (by decide) (by decide)] at he
  subst hi
  refine va_cast (x := x) g1 g2 hK hP hD hS k 0 he (ty_at _).1 (by rw [hN]; exact vp_in_nI hq hz) hd (fun H1 locs1 hP1 hD1 hS1 => ?_)
  rw [nI_clamp (by omega), hx] at hP1 hD1
  exact K e ρ T n0 ρ0 T0 p l en Rm s m args below meth c H1 locs1 cells slots ls (h'.heap (hw_iast (by decide) (by decide) hk hTk hK hT hP1 hD1) hS1 (ok_tl (ok_tl (ok_tl h5))))
theorem ok_el {T : HN} {t : Nat} (hT : WT T R n) (hk : k < n) (hTk : T k = t) (ht : 14 ≤ t) : okv T n (rv (et t) (R k q)) := by
  cases hr : R k q with
  | none => exact trivial
  | some a =>
    obtain ⟨-, h1⟩ := hT k hk q a hr
    rw [hTk] at h1
    exact h1 ht
theorem w_aaldQ {t : Nat} (hd : decode md.2.1 pc = .ok (.aaload, 1)) (ht : 14 ≤ t) (ht2 : t < 18) (hi : i = nI q) (hN : N k = z) (hq : q < z) (K : WP sc d mc ms md (pc + 1) al (rv (et t) (R k q) :: st) I L R N n Q) (hz : z < 2147483648 := by decide) : WP sc d mc ms md pc al (vI i :: vR t k :: st) I L R N n Q := by
  intro e ρ T n0 ρ0 T0 p l en Rm s m args below meth c H locs cells slots ls h
  have h' := h
  obtain ⟨⟨g1, g2, -⟩, -, -, h4, h5, ⟨hK, hP, hD, hT⟩, -⟩ := h
  obtain ⟨hk, hTk⟩ : k < n ∧ T k = t := ok_hd (ok_tl h5)
  have he := wsl_get (cy := e.2.1) (ρ := ρ) (T := T) (I := I) (L := L) (R := R) (N := N) hk
  rw [ce_ref hTk ht, hN] at he
  subst hi
  refine va_aldq g1 g2 hK hP k (t - 11) he (ty_ref _ t ht ht2).1 (vp_in_nI hq hz) hd ?_
  rw [nI_clamp (by omega), ← cv_rv ρ e.2.2.1 (et t)]
  exact K e ρ T n0 ρ0 T0 p l en Rm s m args below meth c H locs cells slots ls (h'.stack (ok_cons (ok_el hT hk hTk ht) (ok_tl (ok_tl h5))))
theorem w_aaldI {a : Nat} (hd : decode md.2.1 pc = .ok (.aaload, 1)) (hi : i = nI q) (hN : N k = z) (hq : q < z) (hR : R k q = some a) (K : WP sc d mc ms md (pc + 1) al (vR 12 a :: st) I L R N n Q) (hz : z < 2147483648 := by decide) : WP sc d mc ms md pc al (vI i :: vR 18 k :: st) I L R N n Q := by
  intro e ρ T n0 ρ0 T0 p l en Rm s m args below meth c H locs cells slots ls h
  have h' := h
  obtain ⟨⟨g1, g2, -⟩, -, -, h4, h5, ⟨hK, hP, hD, hT⟩, -⟩ := h
  obtain ⟨hk, hTk⟩ : k < n ∧ T k = 18 := ok_hd (ok_tl h5)
  have he := wsl_get (cy := e.2.1) (ρ := ρ) (T := T) (I := I) (L := L) (R := R) (N := N) hk
  rw [ce_ref hTk (by decide), hN] at he
  subst hi
  have hin : vp_in (nI q) z := vp_in_nI hq hz
  have hlt : (nI q).toNatClampNeg < z := Nat.not_le.mp fun w => hin (Or.inr w)
  refine W.aald (v := va_rf ((R k q).map ρ)) (ty := .array .int) g1 g2 (hP k _ he) ((hK.2 7 _ (ty_at _).2.2.2).1 z (fun j => va_rf ((R k j).map ρ))) rfl (fun w => by cases w) (by show ¬ (nI q < 0 ∨ (arrV _ _ _).slots.size ≤ _); rw [arrV_size]; exact hin) (by show (arrV _ _ _).slots[_]? = _; rw [arrV_read _ _ hlt, nI_clamp (by omega)]) rfl rfl hd ?_
  have ho : okv T n (vR 12 a) := by
    have := ok_el (q := q) hT hk hTk (by decide)
    rw [hR] at this
    exact this
  rw [hR]
  exact K e ρ T n0 ρ0 T0 p l en Rm s m args below meth c H locs cells slots ls (h'.stack (ok_cons ho (ok_tl (ok_tl h5))))
theorem w_aald {t a : Nat} (hd : decode md.2.1 pc = .ok (.aaload, 1)) (ht : 14 ≤ t) (ht2 : t < 18) (hi : i = nI q) (hN : N k = z) (hq : q < z) (hR : R k q = some a) (K : WP sc d mc ms md (pc + 1) al (vR (et t) a :: st) I L R N n Q) (hz : z < 2147483648 := by decide) : WP sc d mc ms md pc al (vI i :: vR t k :: st) I L R N n Q :=
  w_aaldQ hd ht ht2 hi hN hq (by rw [hR]; exact K) hz
theorem hw_aast {e : EN} {ρ : Nat → Nat} {T : HN} {U : State} {H1 : Heap} {t : Nat} {r : Option Nat} (ht : 14 ≤ t) (hk : k < n) (hTk : T k = t) (hK : va_K e.1 vwCl (tysOf e.2.1) U) (hT : WT T (va_up R k (va_up (R k) q r)) n)
    (hP : va_P e.1 vwCl ((wsl e.2.1 ρ T I L R N n).set k (ρ k, .inl (e.2.1 t, N k, .inr (.inr (.inr (.inr (va_up (fun j => (R k j).map ρ) q (r.map ρ)))))))) H1) (hD : va_D (EA e) ((wsl e.2.1 ρ T I L R N n).set k (ρ k, .inl (e.2.1 t, N k, .inr (.inr (.inr (.inr (va_up (fun j => (R k j).map ρ) q (r.map ρ))))))))) : HW e ρ T I L (va_up R k (va_up (R k) q r)) N n U H1 := by
  have hset : (wsl e.2.1 ρ T I L R N n).set k (ρ k, .inl (e.2.1 t, N k, .inr (.inr (.inr (.inr (va_up (fun j => (R k j).map ρ) q (r.map ρ))))))) = wsl e.2.1 ρ T I L (va_up R k (va_up (R k) q r)) N n := by
    refine wsl_upd hk ?_ (fun w hw hwk => ?_)
    · rw [ce_ref hTk ht, va_up_self]
      congr 7
      funext j
      by_cases hj : j = q <;> simp [va_up, hj]
    · unfold ce fval
      rw [va_up_ne _ _ hwk]
  rw [hset] at hP hD
  exact ⟨hK, hP, hD, hT⟩
theorem w_aast {t : Nat} {r : Option Nat} (hd : decode md.2.1 pc = .ok (.aastore, 1)) (ht : 14 ≤ t) (ht2 : t < 18) (hi : i = nI q) (hN : N k = z) (hq : q < z) (K : WP sc d mc ms md (pc + 1) al st I L (va_up R k (va_up (R k) q r)) N n Q) (hz : z < 2147483648 := by decide) : WP sc d mc ms md pc al (rv (et t) r :: vI i :: vR t k :: st) I L R N n Q := by
  intro e ρ T n0 ρ0 T0 p l en Rm s m args below meth c H locs cells slots ls h
  have h' := h
  obtain ⟨⟨g1, g2, -⟩, -, -, h4, h5, ⟨hK, hP, hD, hT⟩, hS, -⟩ := h
  obtain ⟨hk, hTk⟩ : k < n ∧ T k = t := ok_hd (ok_tl (ok_tl h5))
  have he := wsl_get (cy := e.2.1) (ρ := ρ) (T := T) (I := I) (L := L) (R := R) (N := N) hk
  rw [ce_ref hTk ht] at he
  subst hi
  have hin : vp_in (nI q) (N k) := by rw [hN]; exact vp_in_nI hq hz
  cases r with
  | none =>
    refine va_astqN g1 g2 hK hP hD hS k (t - 11) he (ty_ref _ t ht ht2).1 hin hd (fun H1 locs1 hP1 hD1 hS1 => ?_)
    rw [nI_clamp (by omega)] at hP1 hD1
    exact K e ρ T n0 ρ0 T0 p l en Rm s m args below meth c H1 locs1 cells slots ls (h'.heap (hw_aast (r := none) ht hk hTk hK (wt_upN hT) hP1 hD1) hS1 (ok_tl (ok_tl (ok_tl h5))))
  | some a =>
    obtain ⟨ha, hTa⟩ : a < n ∧ T a = et t := ok_hd h5
    have hea := wsl_get (cy := e.2.1) (ρ := ρ) (T := T) (I := I) (L := L) (R := R) (N := N) ha
    rw [ce_obj hTa (ty_ref e.2.1 t ht ht2).2] at hea
    obtain ⟨c1, -⟩ := cl_ok _ (ty_ref e.2.1 t ht ht2).2
    refine va_astq (v := ρ a) g1 g2 hK hP hD hS k (t - 11) a (et t) he (ty_ref _ t ht ht2).1 hea c1 hin hd (fun H1 locs1 hP1 hD1 hS1 => ?_)
    rw [nI_clamp (by omega)] at hP1 hD1
    exact K e ρ T n0 ρ0 T0 p l en Rm s m args below meth c H1 locs1 cells slots ls (h'.heap (hw_aast (r := some a) ht hk hTk hK (wt_up hT (Or.inr (by omega)) (Or.inr (by rw [hTk])) ⟨ha, hTa⟩) hP1 hD1) hS1 (ok_tl (ok_tl (ok_tl h5))))
theorem w_alen {t : Nat} (hd : decode md.2.1 pc = .ok (.arraylength, 1)) (ht : 11 ≤ t) (ht2 : t < 19) (hN : N k = z) (K : WP sc d mc ms md (pc + 1) al (vI (nI z) :: st) I L R N n Q) : WP sc d mc ms md pc al (vR t k :: st) I L R N n Q := by
  intro e ρ T n0 ρ0 T0 p l en Rm s m args below meth c H locs cells slots ls h
  have h' := h
  obtain ⟨⟨g1, g2, -⟩, -, -, h4, h5, ⟨hK, hP, hD, hT⟩, -⟩ := h
  obtain ⟨hk, hTk⟩ : k < n ∧ T k = t := ok_hd h5
  have he := wsl_get (cy := e.2.1) (ρ := ρ) (T := T) (I := I) (L := L) (R := R) (N := N) hk
  obtain ⟨ty, hty⟩ := ty_any e.2.1 t ht ht2
  have kk := K e ρ T n0 ρ0 T0 p l en Rm s m args below meth c H locs cells slots ls (h'.stack (ok_i (ok_tl h5)))
  by_cases h14 : t < 14
  · rw [ce_int hTk ht h14] at he
    exact va_alen g1 g2 hK hP k (t - 11) he hty (v := nI z) (by rw [← hN]; rfl) hd kk
  · rw [ce_ref hTk (by omega)] at he
    exact va_alen g1 g2 hK hP k (t - 11) he hty (v := nI z) (by rw [← hN]; rfl) hd kk
-- the constant arrays, the script, the texts
theorem w_sald {j : Nat} (hd : decode md.2.1 pc = .ok (.iaload, 1)) (hj : j < 5) (hi : i = nI q) (hN : svN sc j = z) (hq : q < z) (K : WP sc d mc ms md (pc + 1) al (vI (svI sc j q) :: st) I L R N n Q) (hz : z < 2147483648 := by decide) : WP sc d mc ms md pc al (vI i :: vS j :: st) I L R N n Q := by
  subst hi
  refine w_go (fun _ _ _ h => ok_i (ok_tl (ok_tl h))) (fun e _ _ _ _ _ _ _ _ _ _ _ _ _ _ _ _ _ g1 g2 _ _ _ g8 g7 kk => va_ti g1 g2 (g8.1 j hj) g7 (by rw [hN]; exact vp_in_nI hq hz) (by rw [nI_clamp (by omega)]; rfl) hd kk) K
theorem w_slen {j : Nat} (hd : decode md.2.1 pc = .ok (.arraylength, 1)) (hj : j < 5) (K : WP sc d mc ms md (pc + 1) al (vI (nI (svN sc j)) :: st) I L R N n Q) : WP sc d mc ms md pc al (vS j :: st) I L R N n Q :=
  w_go (fun _ _ _ h => ok_i (ok_tl h)) (fun e _ _ _ _ _ _ _ _ _ _ _ _ _ _ _ _ _ g1 g2 _ _ _ g8 g7 kk => va_tlen g1 g2 (g8.1 j hj) g7 rfl hd kk) K
theorem w_bald {j : Nat} (hd : decode md.2.1 pc = .ok (.baload, 1)) (hj : j < 6) (hi : i = nI q) (hN : stN.getD j 0 = z) (hq : q < z) (K : WP sc d mc ms md (pc + 1) al (vI ((stB.getD j []).getD q 0) :: st) I L R N n Q) (hz : z < 2147483648 := by decide) : WP sc d mc ms md pc al (vI i :: vS (11 + j) :: st) I L R N n Q := by
  subst hi
  refine w_go (fun _ _ _ h => ok_i (ok_tl (ok_tl h))) (fun e _ _ _ _ _ _ _ _ _ _ _ _ _ _ _ _ _ g1 g2 _ _ _ g8 g7 kk => va_tb g1 g2 (g8.2.2.2.2.2.2.2.1.1 j hj).2.2.2 g7 (by rw [hN]; exact vp_in_nI hq hz) (by rw [nI_clamp (by omega)]; rfl) hd kk) K
theorem w_blen {j : Nat} (hd : decode md.2.1 pc = .ok (.arraylength, 1)) (hj : j < 6) (hN : stN.getD j 0 = z) (K : WP sc d mc ms md (pc + 1) al (vI (nI z) :: st) I L R N n Q) : WP sc d mc ms md pc al (vS (11 + j) :: st) I L R N n Q :=
  w_go (fun _ _ _ h => ok_i (ok_tl h)) (fun e _ _ _ _ _ _ _ _ _ _ _ _ _ _ _ _ _ g1 g2 _ _ _ g8 g7 kk => va_tlen g1 g2 (g8.2.2.2.2.2.2.2.1.1 j hj).2.2.2 g7 (by rw [← hN]; rfl) hd kk) K
theorem w_sval {j idx : Nat} (hd : decode md.2.1 pc = .ok (.getfield idx, 3)) (hw : Cond.fieldLink md.1.cls idx "java/lang/String" "value" "[B" ∈ gw) (hj : j < 6) (K : WP sc d mc ms md (pc + 3) al (vS (11 + j) :: st) I L R N n Q) : WP sc d mc ms md pc al (vS (5 + j) :: st) I L R N n Q :=
  w_go (fun _ _ _ h => ok_cons (a := vS (11 + j)) (show 11 + j < 18 by omega) (ok_tl h)) (fun e _ _ _ _ _ _ _ _ _ _ _ _ _ _ _ _ _ g1 g2 g5 g6 _ g8 g7 kk => vk_getf g1 g2 (g8.2.2.2.2.2.2.2.1.1 j hj).2.2.1 g7 g5 (g6 _ hw) (fun _ h => h) hd kk) K
theorem w_scod {j idx : Nat} (hd : decode md.2.1 pc = .ok (.getfield idx, 3)) (hw : Cond.fieldLink md.1.cls idx "java/lang/String" "coder" "B" ∈ gw) (hj : j < 6) (K : WP sc d mc ms md (pc + 3) al (vI 0 :: st) I L R N n Q) : WP sc d mc ms md pc al (vS (5 + j) :: st) I L R N n Q :=
  w_go (fun _ _ _ h => ok_i (ok_tl h)) (fun e _ _ _ _ _ _ _ _ _ _ _ _ _ _ _ _ _ g1 g2 g5 g6 _ g8 g7 kk => vk_getf g1 g2 (g8.2.2.2.2.2.2.2.1.1 j hj).2.1 g7 g5 (g6 _ hw) (fun _ h => h) hd kk) K
theorem w_gets0 {idx : Nat} (hd : decode md.2.1 pc = .ok (.getstatic idx, 3)) (hw : Cond.fieldLink md.1.cls idx "FineSlot" "MOST_OF_SORT" "[I" ∈ gw) (K : WP sc d mc ms md (pc + 3) al (vS 0 :: st) I L R N n Q) : WP sc d mc ms md pc al st I L R N n Q :=
  w_go (fun _ _ _ h => ok_cons (a := vS 0) (show 0 < 18 by decide) h) (fun e _ _ _ _ _ _ _ _ _ _ _ _ _ _ _ _ _ g1 g2 g5 g6 _ g8 g7 kk => va_gets g1 g2 g8.2.1 g7 g5 (g6 _ hw) (fun _ h => h) hd kk) K
theorem w_gets1 {idx : Nat} (hd : decode md.2.1 pc = .ok (.getstatic idx, 3)) (hw : Cond.fieldLink md.1.cls idx "FineSlot" "LEAST_OF_RULE" "[I" ∈ gw) (K : WP sc d mc ms md (pc + 3) al (vS 1 :: st) I L R N n Q) : WP sc d mc ms md pc al st I L R N n Q :=
  w_go (fun _ _ _ h => ok_cons (a := vS 1) (show 1 < 18 by decide) h) (fun e _ _ _ _ _ _ _ _ _ _ _ _ _ _ _ _ _ g1 g2 g5 g6 _ g8 g7 kk => va_gets g1 g2 g8.2.2.1 g7 g5 (g6 _ hw) (fun _ h => h) hd kk) K
theorem w_gets2 {idx : Nat} (hd : decode md.2.1 pc = .ok (.getstatic idx, 3)) (hw : Cond.fieldLink md.1.cls idx "FineSlot" "MOST_OF_RULE" "[I" ∈ gw) (K : WP sc d mc ms md (pc + 3) al (vS 2 :: st) I L R N n Q) : WP sc d mc ms md pc al st I L R N n Q :=
  w_go (fun _ _ _ h => ok_cons (a := vS 2) (show 2 < 18 by decide) h) (fun e _ _ _ _ _ _ _ _ _ _ _ _ _ _ _ _ _ g1 g2 g5 g6 _ g8 g7 kk => va_gets g1 g2 g8.2.2.2.1 g7 g5 (g6 _ hw) (fun _ h => h) hd kk) K
theorem w_gets3 {idx : Nat} (hd : decode md.2.1 pc = .ok (.getstatic idx, 3)) (hw : Cond.fieldLink md.1.cls idx "FineSlot" "KIND_ABOVE" "[I" ∈ gw) (K : WP sc d mc ms md (pc + 3) al (vS 3 :: st) I L R N n Q) : WP sc d mc ms md pc al st I L R N n Q :=
  w_go (fun _ _ _ h => ok_cons (a := vS 3) (show 3 < 18 by decide) h) (fun e _ _ _ _ _ _ _ _ _ _ _ _ _ _ _ _ _ g1 g2 g5 g6 _ g8 g7 kk => va_gets g1 g2 g8.2.2.2.2.1 g7 g5 (g6 _ hw) (fun _ h => h) hd kk) K
theorem w_getsC {idx : Nat} (hd : decode md.2.1 pc = .ok (.getstatic idx, 3)) (hw : Cond.fieldLink md.1.cls idx "java/lang/String" "COMPACT_STRINGS" "Z" ∈ gw) (K : WP sc d mc ms md (pc + 3) al (vI 1 :: st) I L R N n Q) : WP sc d mc ms md pc al st I L R N n Q :=
  w_go (fun _ _ _ h => ok_i h) (fun e _ _ _ _ _ _ _ _ _ _ _ _ _ _ _ _ _ g1 g2 g5 g6 _ g8 g7 kk => va_gets g1 g2 g8.2.2.2.2.2.1 g7 g5 (g6 _ hw) (fun _ h => h) hd kk) K
theorem w_getsF {idx : Nat} (hd : decode md.2.1 pc = .ok (.getstatic idx, 3)) (hw : Cond.fieldLink md.1.cls idx "jdk/internal/util/Preconditions" "SIOOBE_FORMATTER" "Ljava/util/function/BiFunction;" ∈ gw) (K : ∀ v : AV, v = vN ∨ v = vS 17 → WP sc d mc ms md (pc + 3) al (v :: st) I L R N n Q) : WP sc d mc ms md pc al st I L R N n Q := by
  intro e ρ T n0 ρ0 T0 p l en Rm s m args below meth c H locs cells slots ls h
  have h' := h
  obtain ⟨⟨g1, g2, -, -, g5, g6, -⟩, -, -, h4, h5, -, g7, g8, -⟩ := h
  rcases g8.2.2.2.2.2.2.1 with hz | hz
  · exact va_gets g1 g2 hz g7 g5 (g6 _ hw) (fun _ h => h) hd (K vN (Or.inl rfl) e ρ T n0 ρ0 T0 p l en Rm s m args below meth c H locs cells slots ls (h'.stack (ok_n h5)))
  · exact va_gets g1 g2 hz g7 g5 (g6 _ hw) (fun _ h => h) hd (K (vS 17) (Or.inr rfl) e ρ T n0 ρ0 T0 p l en Rm s m args below meth c H locs cells slots ls (h'.stack (ok_cons (a := vS 17) (show 17 < 18 by decide) h5)))
end
