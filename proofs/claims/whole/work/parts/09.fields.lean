/-! Fields and arrays. -/
def tyF : Nat → Nat → FieldType
  | 0 => tyX0 | 1 => tyX1 | 2 => tyX2 | 3 => tyX3 | 4 => tyX4 | 5 => tyX5 | 6 => tyX6 | 7 => tyX7 | 8 => tyX8 | 9 => tyX9 | _ => tyX10
theorem cl_ok : ∀ t, t < 11 → vwCl[t]? = some (cT t) ∧ (cT t).2.2 = nf t ∧ (∀ w ∈ u_ws (cT t).1 (cT t).2.1 (cT t).2.2, w ∈ gw) ∧ (∀ k, k < (cT t).2.2 → parseFieldDescriptor ((cT t).2.1 k).2.2.1 = some (tyF t k)) ∧ (∀ a, a < (cT t).2.2 → ∀ b, b < (cT t).2.2 → a ≠ b → ((cT t).2.1 a).2.1 ≠ ((cT t).2.1 b).2.1) := by
  intro t ht
  match t, ht with
  | 0, _ => exact ⟨rfl, rfl, inX0, tyX0_ok, nmX0⟩
  | 1, _ => exact ⟨rfl, rfl, inX1, tyX1_ok, nmX1⟩
  | 2, _ => exact ⟨rfl, rfl, inX2, tyX2_ok, nmX2⟩
  | 3, _ => exact ⟨rfl, rfl, inX3, tyX3_ok, nmX3⟩
  | 4, _ => exact ⟨rfl, rfl, inX4, tyX4_ok, nmX4⟩
  | 5, _ => exact ⟨rfl, rfl, inX5, tyX5_ok, nmX5⟩
  | 6, _ => exact ⟨rfl, rfl, inX6, tyX6_ok, nmX6⟩
  | 7, _ => exact ⟨rfl, rfl, inX7, tyX7_ok, nmX7⟩
  | 8, _ => exact ⟨rfl, rfl, inX8, tyX8_ok, nmX8⟩
  | 9, _ => exact ⟨rfl, rfl, inX9, tyX9_ok, nmX9⟩
  | 10, _ => exact ⟨rfl, rfl, inX10, tyX10_ok, nmX10⟩
  | t + 11, h => exact absurd h (by omega)
theorem cl_dc : ∀ t, t < 11 → ∀ j, j < nf t → ((cT t).2.1 j).1 = (cT t).1 := by decide +kernel
def isRefTy : FieldType → Bool
  | .object _ => true
  | .array _ => true
  | _ => false
/-- what a field of a kind may hold -/
theorem ty_ok : ∀ t, t < 11 → ∀ j, j < nf t → (fk t j = 0 → tyF t j = .int ∨ tyF t j = .boolean) ∧ (fk t j = 1 → tyF t j = .long) ∧ (2 ≤ fk t j → (∃ nm, tyF t j = .object nm) ∨ ∃ u, tyF t j = .array u) := by
  intro t ht j hj
  have h : ∀ t, t < 11 → ∀ j, j < nf t → (fk t j = 0 → tyF t j = .int ∨ tyF t j = .boolean) ∧ (fk t j = 1 → tyF t j = .long) ∧ (2 ≤ fk t j → isRefTy (tyF t j) = true) := by decide +kernel
  obtain ⟨h1, h2, h3⟩ := h t ht j hj
  refine ⟨h1, h2, fun q => ?_⟩
  have := h3 q
  revert this
  cases tyF t j <;> simp [isRefTy]
section
variable {cy : Nat → ClassId} {ρ : Nat → Nat} {T : HN} {I I' : HI} {L L' : HL} {R R' : HR} {N N' : HN} {n k t j : Nat}
theorem wsl_get (hk : k < n) : (wsl cy ρ T I L R N n)[k]? = some (ρ k, ce cy ρ T I L R N k) := by
  rw [wsl, List.getElem?_map, List.getElem?_range hk]; rfl
theorem wsl_none (hk : n ≤ k) : (wsl cy ρ T I L R N n)[k]? = none := by
  rw [wsl, List.getElem?_map, List.getElem?_eq_none (by rw [List.length_range]; exact hk)]; rfl
theorem wsl_len : (wsl cy ρ T I L R N n).length = n := by simp [wsl]
theorem ce_obj (h : T k = t) (ht : t < 11) : ce cy ρ T I L R N k = .inr (t, (List.range (nf t)).map (fun i => fval ρ I L R k i (fk t i))) := by
  subst h; exact if_pos ht
theorem ce_int (h : T k = t) (ht : 11 ≤ t) (ht2 : t < 14) : ce cy ρ T I L R N k = .inl (cy t, N k, .inl (I k)) := by
  subst h; rw [ce, if_neg (by omega), if_pos ht2]
theorem ce_ref (h : T k = t) (ht : 14 ≤ t) : ce cy ρ T I L R N k = .inl (cy t, N k, .inr (.inr (.inr (.inr (fun i => (R k i).map ρ))))) := by
  subst h; rw [ce, if_neg (by omega), if_neg (by omega)]
theorem wsl_upd {x : va_E} (hk : k < n) (hx : ce cy ρ T I' L' R' N' k = x) (ho : ∀ q, q < n → q ≠ k → ce cy ρ T I' L' R' N' q = ce cy ρ T I L R N q) : (wsl cy ρ T I L R N n).set k (ρ k, x) = wsl cy ρ T I' L' R' N' n := by
  apply List.ext_getElem?
  intro q
  by_cases hq : q < n
  · by_cases e : q = k
    · subst e
      rw [List.getElem?_set_self (by rw [wsl_len]; exact hq), wsl_get hq, hx]
    · rw [List.getElem?_set_ne (Ne.symm e), wsl_get hq, wsl_get hq, ho q hq e]
  · rw [wsl_none (by omega), List.getElem?_set]
    split
    · omega
    · exact wsl_none (by omega)
theorem map_set {α : Type} (m j : Nat) (g : Nat → α) (v : α) : ((List.range m).map g).set j v = (List.range m).map (va_up g j v) := by
  apply List.ext_getElem?
  intro q
  rw [List.getElem?_set]
  by_cases e : j = q
  · subst e
    by_cases hq : j < m
    · rw [if_pos rfl, if_pos (by simpa using hq), List.getElem?_map, List.getElem?_range hq]
      simp [va_up]
    · rw [if_pos rfl, if_neg (by simpa using hq), List.getElem?_map, List.getElem?_eq_none (by simpa using hq)]
      rfl
  · rw [if_neg e]
    rw [List.getElem?_map, List.getElem?_map]
    by_cases hq : q < m
    · rw [List.getElem?_range hq]
      simp [va_up, Ne.symm e]
    · rw [List.getElem?_eq_none (by simpa using hq)]
      rfl
end
section
variable {sc : SC} {d mc ms : Nat} {md : MD} {pc : Nat} {al st : List AV} {I I' : HI} {L L' : HL} {R R' : HR} {N N' : HN} {n : Nat} {Q : HQ} {e : EN} {ρ : Nat → Nat} {T : HN} {n0 : Nat} {ρ0 : Nat → Nat} {T0 : HN} {p : Program} {l : Launch} {en : Env} {Rm : Room} {s : State} {m : MethodId} {args : Array Value} {below : List Frame} {meth : Method} {c : Code} {H : Heap} {locs : List Loc} {cells slots : Nat} {ls : Array Slot}
theorem CX.heap {st' : List AV} {H' : Heap} {locs' : List Loc} (h : CX sc d mc ms md al st I L R N n e ρ T n0 ρ0 T0 p Rm s m args meth c H locs cells slots ls) (hw : HW e ρ T I' L' R' N' n s H') (hS : va_S (EA e) s.heap H' locs') (hv : ∀ v ∈ st', okv T n v) : CX sc d mc ms md al st' I' L' R' N' n e ρ T n0 ρ0 T0 p Rm s m args meth c H' locs' cells slots ls := by
  obtain ⟨h1, h2, h3, h4, h5, h6, h7, h8⟩ := h
  exact ⟨h1, h2, h3, h4, hv, hw, hS, h8⟩
theorem w_getA {idx t j k : Nat} {v : AV} (hd : decode md.2.1 pc = .ok (.getfield idx, 3)) (hf : FL md.1.cls idx t j) (hv : ∀ ρ σ : Nat → Nat, fval ρ I L R k j (fk t j) = cv ρ σ v) (hok : ∀ T : HN, WT T R n → k < n → T k = t → okv T n v)
    (K : WP sc d mc ms md (pc + 3) al (v :: st) I L R N n Q) : WP sc d mc ms md pc al (vR t k :: st) I L R N n Q := by
  intro e ρ T n0 ρ0 T0 p l en Rm s m args below meth c H locs cells slots ls h
  have h' := h
  obtain ⟨⟨g1, g2, -, -, g5, g6, -⟩, -, -, h4, h5, ⟨hK, hP, hD, hT⟩, -⟩ := h
  obtain ⟨hk, hTk⟩ : k < n ∧ T k = t := ok_hd h5
  obtain ⟨ht, hj, hlk⟩ := hf
  obtain ⟨c1, c2, c3, c4, c5⟩ := cl_ok t ht
  have he := wsl_get (cy := e.2.1) (ρ := ρ) (T := T) (I := I) (L := L) (R := R) (N := N) hk
  rw [ce_obj hTk ht] at he
  refine va_get (D := e.1) (ci := t) (C := (cT t).1) (T := (cT t).2.1) (N := (cT t).2.2) (v := cv ρ e.2.2.1 v) g1 g2 g6 c3 g5 hK hP k he c1 j (by rw [c2]; exact hj) (g6 _ hlk) (fun x hx => by rw [cl_dc t ht j hj] at hx; exact hx) ?_ hd ?_
  · rw [List.getElem?_map, List.getElem?_range hj]
    exact congrArg some (hv ρ e.2.2.1)
  · exact K e ρ T n0 ρ0 T0 p l en Rm s m args below meth c H locs cells slots ls (h'.stack (ok_cons (hok T hT hk hTk) (ok_tl h5)))
theorem w_getI {idx t j k : Nat} (hd : decode md.2.1 pc = .ok (.getfield idx, 3)) (hf : FL md.1.cls idx t j) (hk : fk t j = 0) (K : WP sc d mc ms md (pc + 3) al (vI (I k j) :: st) I L R N n Q) : WP sc d mc ms md pc al (vR t k :: st) I L R N n Q :=
  w_getA (v := vI (I k j)) hd hf (fun _ _ => by rw [hk]; rfl) (fun _ _ _ _ => trivial) K
theorem w_getL {idx t j k : Nat} (hd : decode md.2.1 pc = .ok (.getfield idx, 3)) (hf : FL md.1.cls idx t j) (hk : fk t j = 1) (K : WP sc d mc ms md (pc + 3) al (vL (L k j) :: st) I L R N n Q) : WP sc d mc ms md pc al (vR t k :: st) I L R N n Q :=
  w_getA (v := vL (L k j)) hd hf (fun _ _ => by rw [hk]; rfl) (fun _ _ _ _ => trivial) K
theorem w_getQ {idx t j k t2 : Nat} (hd : decode md.2.1 pc = .ok (.getfield idx, 3)) (hf : FL md.1.cls idx t j) (hk : fk t j = t2 + 2) (K : WP sc d mc ms md (pc + 3) al (rv t2 (R k j) :: st) I L R N n Q) : WP sc d mc ms md pc al (vR t k :: st) I L R N n Q := by
  refine w_getA hd hf (fun ρ σ => by rw [hk, cv_rv]; rfl) (fun T hT hkn hTk => ?_) K
  cases hr : R k j with
  | none => exact trivial
  | some a =>
    obtain ⟨h1, -⟩ := hT k hkn j a hr
    rw [hTk] at h1
    obtain ⟨h2, h3⟩ := h1 hf.1 (by omega)
    exact ⟨h2, by show T a = t2; omega⟩
theorem w_getR {idx t j k t2 a : Nat} (hd : decode md.2.1 pc = .ok (.getfield idx, 3)) (hf : FL md.1.cls idx t j) (hk : fk t j = t2 + 2) (hR : R k j = some a) (K : WP sc d mc ms md (pc + 3) al (vR t2 a :: st) I L R N n Q) : WP sc d mc ms md pc al (vR t k :: st) I L R N n Q :=
  w_getQ hd hf hk (by rw [hR]; exact K)
theorem w_putA {idx t j k : Nat} {v : AV} (hd : decode md.2.1 pc = .ok (.putfield idx, 3)) (hf : FL md.1.cls idx t j)
    (hfin : ((cT t).2.1 j).2.2.2 = false ∨ (((cT t).2.1 j).2.2.2 = true ∧ md.1.name = "<init>" ∧ (cT t).1 = md.1.cls))
    (hn : ∀ ρ σ : Nat → Nat, narrow (tyF t j) (cv ρ σ v) = cv ρ σ v) (hft : ∀ ρ σ : Nat → Nat, fits (tyF t j) (cv ρ σ v) = true)
    (hv : ∀ ρ σ : Nat → Nat, fval ρ I' L' R' k j (fk t j) = cv ρ σ v) (hs : ∀ i, i < nf t → i ≠ j → ∀ ρ : Nat → Nat, fval ρ I' L' R' k i (fk t i) = fval ρ I L R k i (fk t i))
    (ho : ∀ q, q ≠ k → I' q = I q ∧ L' q = L q ∧ R' q = R q) (hwt : ∀ T : HN, WT T R n → k < n → T k = t → okv T n v → WT T R' n)
    (K : WP sc d mc ms md (pc + 3) al st I' L' R' N n Q) : WP sc d mc ms md pc al (v :: vR t k :: st) I L R N n Q := by
  intro e ρ T n0 ρ0 T0 p l en Rm s m args below meth c H locs cells slots ls h
  have h' := h
  obtain ⟨⟨g1, g2, -, -, g5, g6, -, g9⟩, -, -, h4, h5, ⟨hK, hP, hD, hT⟩, hS, -⟩ := h
  obtain ⟨hk, hTk⟩ : k < n ∧ T k = t := ok_hd (ok_tl h5)
  obtain ⟨ht, hj, hlk⟩ := hf
  obtain ⟨c1, c2, c3, c4, c5⟩ := cl_ok t ht
  have he := wsl_get (cy := e.2.1) (ρ := ρ) (T := T) (I := I) (L := L) (R := R) (N := N) hk
  rw [ce_obj hTk ht] at he
  have hset : (wsl e.2.1 ρ T I L R N n).set k (ρ k, .inr (t, ((List.range (nf t)).map (fun i => fval ρ I L R k i (fk t i))).set j (cv ρ e.2.2.1 v))) = wsl e.2.1 ρ T I' L' R' N n := by
    refine wsl_upd hk ?_ (fun q hq hqk => ?_)
    · rw [ce_obj hTk ht, map_set]
      congr 2
      apply List.map_congr_left
      intro i hi
      by_cases eij : i = j
      · subst eij
        rw [va_up_self]; exact hv ρ _
      · rw [va_up_ne _ _ eij]; exact hs i (List.mem_range.mp hi) eij ρ
    · obtain ⟨o1, o2, o3⟩ := ho q hqk
      unfold ce fval
      rw [o1, o2, o3]
  have fin : ∀ (H1 : Heap) (locs1 : List Loc), va_P e.1 vwCl ((wsl e.2.1 ρ T I L R N n).set k (ρ k, .inr (t, ((List.range (nf t)).map (fun i => fval ρ I L R k i (fk t i))).set j (cv ρ e.2.2.1 v)))) H1 → va_D (EA e) ((wsl e.2.1 ρ T I L R N n).set k (ρ k, .inr (t, ((List.range (nf t)).map (fun i => fval ρ I L R k i (fk t i))).set j (cv ρ e.2.2.1 v)))) → va_S (EA e) s.heap H1 locs1 →
      W p l en Rm s m args below meth c H1 locs1 cells slots (MQ below (QM md e n0 ρ0 T0 Q) args s Rm.cells Rm.slots (EA e)) (F0 m (pc + 3) ls (st.map (cv ρ e.2.2.1))) := by
    intro H1 locs1 hP1 hD1 hS1
    rw [hset] at hP1 hD1
    exact K e ρ T n0 ρ0 T0 p l en Rm s m args below meth c H1 locs1 cells slots ls (h'.heap ⟨hK, hP1, hD1, hwt T hT hk hTk (ok_hd h5)⟩ hS1 (ok_tl (ok_tl h5)))
  rcases hfin with hfin | ⟨hfin, hnm, hcl⟩
  · exact va_put (D := e.1) (ci := t) (v := cv ρ e.2.2.1 v) (ty := tyF t j) (C := (cT t).1) (T := (cT t).2.1) (N := (cT t).2.2) g1 g2 g6 c3 (tyF t) c4 c5 g5 hK hP hD hS k he c1 j (by rw [c2]; exact hj) (g6 _ hlk) (fun x hx => by rw [cl_dc t ht j hj] at hx; exact hx) hfin (c4 j (by rw [c2]; exact hj)) (hn _ _) (hft _ _) (by simpa using hj) hd fin
  · exact va_putF (D := e.1) (ci := t) (v := cv ρ e.2.2.1 v) (ty := tyF t j) (C := (cT t).1) (T := (cT t).2.1) (N := (cT t).2.2) g1 g2 g6 c3 (tyF t) c4 c5 g5 hK hP hD hS k he c1 j (by rw [c2]; exact hj) (g6 _ hlk) (fun x hx => by rw [cl_dc t ht j hj] at hx; exact hx) hfin (g9.trans hnm) ((cl_dc t ht j hj).trans hcl) (c4 j (by rw [c2]; exact hj)) (hn _ _) (hft _ _) (by simpa using hj) hd fin
theorem fval_up {I : HI} {L : HL} {R : HR} {k i j c : Nat} {x : Int32} (hij : i ≠ j) (ρ : Nat → Nat) : fval ρ (va_up I k (va_up (I k) j x)) L R k i c = fval ρ I L R k i c := by
  unfold fval; rw [va_up_self, va_up_ne _ _ hij]
theorem fval_upL {I : HI} {L : HL} {R : HR} {k i j c : Nat} {x : Int64} (hij : i ≠ j) (ρ : Nat → Nat) : fval ρ I (va_up L k (va_up (L k) j x)) R k i c = fval ρ I L R k i c := by
  unfold fval; rw [va_up_self, va_up_ne _ _ hij]
theorem fval_upR {I : HI} {L : HL} {R : HR} {k i j c : Nat} {x : Option Nat} (hij : i ≠ j) (ρ : Nat → Nat) : fval ρ I L (va_up R k (va_up (R k) j x)) k i c = fval ρ I L R k i c := by
  unfold fval; rw [va_up_self, va_up_ne _ _ hij]
theorem w_putI {idx t j k : Nat} {x : Int32} (hd : decode md.2.1 pc = .ok (.putfield idx, 3)) (hf : FL md.1.cls idx t j) (hk : fk t j = 0) (hfin : ((cT t).2.1 j).2.2.2 = false) (hn : narrow (tyF t j) (.int x) = .int x) (hft : fits (tyF t j) (.int x) = true)
    (K : WP sc d mc ms md (pc + 3) al st (va_up I k (va_up (I k) j x)) L R N n Q) : WP sc d mc ms md pc al (vI x :: vR t k :: st) I L R N n Q :=
  w_putA hd hf (Or.inl hfin) (fun _ _ => hn) (fun _ _ => hft) (fun _ _ => by rw [hk]; show Value.int _ = Value.int _; rw [va_up_self, va_up_self]) (fun _ _ hij ρ => fval_up hij ρ) (fun q hq => ⟨va_up_ne _ _ hq, rfl, rfl⟩) (fun _ h _ _ _ => h) K
theorem w_putL {idx t j k : Nat} {x : Int64} (hd : decode md.2.1 pc = .ok (.putfield idx, 3)) (hf : FL md.1.cls idx t j) (hk : fk t j = 1) (hfin : ((cT t).2.1 j).2.2.2 = false)
    (K : WP sc d mc ms md (pc + 3) al st I (va_up L k (va_up (L k) j x)) R N n Q) : WP sc d mc ms md pc al (vL x :: vR t k :: st) I L R N n Q :=
  w_putA hd hf (Or.inl hfin) (fun _ _ => by rw [(ty_ok t hf.1 j hf.2.1).2.1 hk]; rfl) (fun _ _ => by rw [(ty_ok t hf.1 j hf.2.1).2.1 hk]; rfl) (fun _ _ => by rw [hk]; show Value.long _ = Value.long _; rw [va_up_self, va_up_self]) (fun _ _ hij ρ => fval_upL hij ρ) (fun q hq => ⟨rfl, va_up_ne _ _ hq, rfl⟩) (fun _ h _ _ _ => h) K
theorem wt_up {T : HN} {R : HR} {n k j t2 a : Nat} (hT : WT T R n) (hk : fk (T k) j = t2 + 2 ∨ 11 ≤ T k) (hk2 : T k < 11 ∨ et (T k) = t2) (ha : a < n ∧ T a = t2) : WT T (va_up R k (va_up (R k) j (some a))) n := by
  intro q hq i b hb
  by_cases e1 : q = k
  · subst e1
    rw [va_up_self] at hb
    by_cases e2 : i = j
    · subst e2
      rw [va_up_self] at hb
      cases hb
      refine ⟨fun h1 h2 => ⟨ha.1, ?_⟩, fun h1 => ⟨ha.1, ?_⟩⟩
      · rcases hk with h | h <;> omega
      · rcases hk2 with h | h <;> omega
    · rw [va_up_ne _ _ e2] at hb
      exact hT q hq i b hb
  · rw [va_up_ne _ _ e1] at hb
    exact hT q hq i b hb
theorem wt_upN {T : HN} {R : HR} {n k j : Nat} (hT : WT T R n) : WT T (va_up R k (va_up (R k) j none)) n := by
  intro q hq i b hb
  by_cases e1 : q = k
  · subst e1
    rw [va_up_self] at hb
    by_cases e2 : i = j
    · subst e2
      rw [va_up_self] at hb
      cases hb
    · rw [va_up_ne _ _ e2] at hb
      exact hT q hq i b hb
  · rw [va_up_ne _ _ e1] at hb
    exact hT q hq i b hb
/-- a final field of references, in its constructor -/
theorem w_putR {idx t j k t2 a : Nat} (hd : decode md.2.1 pc = .ok (.putfield idx, 3)) (hf : FL md.1.cls idx t j) (hk : fk t j = t2 + 2) (hfin : ((cT t).2.1 j).2.2.2 = true) (hnm : md.1.name = "<init>") (hcl : (cT t).1 = md.1.cls)
    (K : WP sc d mc ms md (pc + 3) al st I L (va_up R k (va_up (R k) j (some a))) N n Q) : WP sc d mc ms md pc al (vR t2 a :: vR t k :: st) I L R N n Q := by
  have hty := (ty_ok t hf.1 j hf.2.1).2.2 (by omega)
  refine w_putA hd hf (Or.inr ⟨hfin, hnm, hcl⟩) (fun _ _ => ?_) (fun _ _ => ?_) (fun _ _ => by rw [hk]; show va_rf _ = _; rw [va_up_self, va_up_self]; rfl) (fun _ _ hij ρ => fval_upR hij ρ) (fun q hq => ⟨rfl, rfl, va_up_ne _ _ hq⟩) (fun T h hkn hTk ho => wt_up h (Or.inl (by rw [hTk]; exact hk)) (Or.inl (by rw [hTk]; exact hf.1)) ho) K
  · rcases hty with ⟨q, h⟩ | ⟨q, h⟩ <;> rw [h] <;> rfl
  · rcases hty with ⟨q, h⟩ | ⟨q, h⟩ <;> rw [h] <;> rfl
/-- a final field of numbers, in its constructor -/
theorem w_putIF {idx t j k : Nat} {x : Int32} (hd : decode md.2.1 pc = .ok (.putfield idx, 3)) (hf : FL md.1.cls idx t j) (hk : fk t j = 0) (hfin : ((cT t).2.1 j).2.2.2 = true) (hnm : md.1.name = "<init>") (hcl : (cT t).1 = md.1.cls) (hn : narrow (tyF t j) (.int x) = .int x) (hft : fits (tyF t j) (.int x) = true)
    (K : WP sc d mc ms md (pc + 3) al st (va_up I k (va_up (I k) j x)) L R N n Q) : WP sc d mc ms md pc al (vI x :: vR t k :: st) I L R N n Q :=
  w_putA hd hf (Or.inr ⟨hfin, hnm, hcl⟩) (fun _ _ => hn) (fun _ _ => hft) (fun _ _ => by rw [hk]; show Value.int _ = Value.int _; rw [va_up_self, va_up_self]) (fun _ _ hij ρ => fval_up hij ρ) (fun q hq => ⟨va_up_ne _ _ hq, rfl, rfl⟩) (fun _ h _ _ _ => h) K
end
