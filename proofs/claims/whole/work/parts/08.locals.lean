/-! Locals that are written; fields; arrays. -/
def lvL (ρ σ : Nat → Nat) (al : List AV) : List (Nat × Value) := (List.range al.length).filterMap (fun i => (al[i]?).bind (fun v => if v = vU then none else some (i, cv ρ σ v)))
theorem lvL_in {ρ σ : Nat → Nat} {al : List AV} {i : Nat} {v : AV} (h : al[i]? = some v) (hv : v ≠ vU) : (i, cv ρ σ v) ∈ lvL ρ σ al := by
  refine List.mem_filterMap.mpr ⟨i, List.mem_range.mpr (List.getElem?_eq_some_iff.mp h).1, ?_⟩
  rw [h]
  simp [hv]
theorem lvL_of {ρ σ : Nat → Nat} {al : List AV} {q : Nat × Value} (h : q ∈ lvL ρ σ al) : ∃ v, al[q.1]? = some v ∧ v ≠ vU ∧ q.2 = cv ρ σ v := by
  obtain ⟨i, -, hi⟩ := List.mem_filterMap.mp h
  cases hv : al[i]? with
  | none => rw [hv] at hi; cases hi
  | some v =>
    rw [hv] at hi
    by_cases hu : v = vU
    · simp [hu] at hi
    · simp [hu] at hi
      subst hi
      exact ⟨v, hv, hu, rfl⟩
theorem Lr.has {ρ σ : Nat → Nat} {al : List AV} {ls : Array Slot} (h : Lr ρ σ al ls) : lv_has ls al.length (lvL ρ σ al) := ⟨h.1, h.2.1, fun q hq => by
  obtain ⟨v, h1, h2, h3⟩ := lvL_of hq
  rw [h3]
  exact h.2.2 _ _ h1 h2⟩
theorem Lr.store1 {ρ σ : Nat → Nat} {al : List AV} {ls' : Array Slot} {i : Nat} {v : AV} (hi : i < al.length) (hn : nlong al i = true)
    (h' : lv_has ls' al.length ((i, cv ρ σ v) :: (lvL ρ σ al).filter (fun q => !(q.1 == i) && !(q.1 + 1 == i && q.2.category == 2)))) : Lr ρ σ (al.set i v) ls' := by
  refine ⟨by rw [List.length_set]; exact h'.1, h'.2.1, fun j w hj hw => ?_⟩
  by_cases e : j = i
  · subst e
    rw [List.getElem?_set_self hi] at hj
    cases hj
    exact h'.2.2 _ List.mem_cons_self
  · rw [List.getElem?_set_ne (Ne.symm e)] at hj
    refine h'.2.2 (j, cv ρ σ w) (List.mem_cons_of_mem _ (List.mem_filter.mpr ⟨lvL_in hj hw, ?_⟩))
    have h2 : ¬ (j + 1 = i ∧ (cv ρ σ w).category = 2) := by
      rintro ⟨a, b⟩
      subst a
      rw [cv_cat] at b
      simp only [nlong, hj] at hn
      rcases w with x | x | q | q | q <;> simp [acat] at b hn
    simp only [Bool.and_eq_true, Bool.not_eq_true', beq_eq_false_iff_ne, Bool.and_eq_false_iff]
    refine ⟨e, ?_⟩
    by_cases a : j + 1 = i
    · exact Or.inr (fun b => h2 ⟨a, b⟩)
    · exact Or.inl a
theorem Lr.store2 {ρ σ : Nat → Nat} {al : List AV} {ls' : Array Slot} {i : Nat} {v : AV} (hi : i + 1 < al.length) (hn : nlong al i = true)
    (h' : lv_has ls' al.length ((i, cv ρ σ v) :: (lvL ρ σ al).filter (fun q => !(q.1 == i) && (!(q.1 == i + 1) && !(q.1 + 1 == i && q.2.category == 2))))) : Lr ρ σ ((al.set i v).set (i + 1) vU) ls' := by
  refine ⟨by rw [List.length_set, List.length_set]; exact h'.1, h'.2.1, fun j w hj hw => ?_⟩
  by_cases e1 : j = i + 1
  · subst e1
    rw [List.getElem?_set_self (by rw [List.length_set]; exact hi)] at hj
    cases hj
    exact absurd rfl hw
  rw [List.getElem?_set_ne (Ne.symm e1)] at hj
  by_cases e : j = i
  · subst e
    rw [List.getElem?_set_self (by omega)] at hj
    cases hj
    exact h'.2.2 _ List.mem_cons_self
  · rw [List.getElem?_set_ne (Ne.symm e)] at hj
    refine h'.2.2 (j, cv ρ σ w) (List.mem_cons_of_mem _ (List.mem_filter.mpr ⟨lvL_in hj hw, ?_⟩))
    have h2 : ¬ (j + 1 = i ∧ (cv ρ σ w).category = 2) := by
      rintro ⟨a, b⟩
      subst a
      rw [cv_cat] at b
      simp only [nlong, hj] at hn
      rcases w with x | x | q | q | q <;> simp [acat] at b hn
    simp only [Bool.and_eq_true, Bool.not_eq_true', beq_eq_false_iff_ne, Bool.and_eq_false_iff]
    refine ⟨e, e1, ?_⟩
    by_cases a : j + 1 = i
    · exact Or.inr (fun b => h2 ⟨a, b⟩)
    · exact Or.inl a
theorem ok_set {T : HN} {n i : Nat} {al : List AV} {x : AV} (h : ∀ v ∈ al, okv T n v) (hx : okv T n x) : ∀ v ∈ al.set i x, okv T n v := fun v hv => (List.mem_or_eq_of_mem_set hv).elim (h v) (fun q => q ▸ hx)
section
variable {sc : SC} {d mc ms : Nat} {md : MD} {pc : Nat} {al st : List AV} {I : HI} {L : HL} {R : HR} {N : HN} {n : Nat} {Q : HQ}
/-- a step that writes a local -/
theorem w_loc {al' st' : List AV} {pc' : Nat} (hlen : al'.length = al.length) (hv : ∀ (T : HN) (n : Nat), (∀ v ∈ al, okv T n v) → (∀ v ∈ st, okv T n v) → (∀ v ∈ al', okv T n v) ∧ ∀ v ∈ st', okv T n v)
    (hs : ∀ (e : EN) (ρ : Nat → Nat) (p : Program) (l : Launch) (en : Env) (Rm : Room) (s : State) (m : MethodId) (args : Array Value) (below : List Frame) (meth : Method) (c : Code) (H : Heap) (locs : List Loc) (cells slots : Nat) (ls : Array Slot) (Z : State → Prop),
      p.tables.exec = Jvm.exec → c.code = md.2.1 → Lr ρ e.2.2.1 al ls → (∀ ls', Lr ρ e.2.2.1 al' ls' → W p l en Rm s m args below meth c H locs cells slots Z (F0 m pc' ls' (st'.map (cv ρ e.2.2.1)))) → W p l en Rm s m args below meth c H locs cells slots Z (F0 m pc ls (st.map (cv ρ e.2.2.1))))
    (k : WP sc d mc ms md pc' al' st' I L R N n Q) : WP sc d mc ms md pc al st I L R N n Q := by
  intro e ρ T n0 ρ0 T0 p l en Rm s m args below meth c H locs cells slots ls h
  have h' := h
  obtain ⟨⟨g1, g2, -⟩, -, ⟨h3, -⟩, h4, h5, -⟩ := h
  exact hs e ρ p l en Rm s m args below meth c H locs cells slots ls _ g1 g2 h3 (fun ls' hl' => k e ρ T n0 ρ0 T0 p l en Rm s m args below meth c H locs cells slots ls' (h'.locals hl' hlen (hv T n h4 h5).1 (hv T n h4 h5).2))
theorem w_istore_n {f : Fin 4} {x : Int32} {al' : List AV} (hd : decode md.2.1 pc = .ok (.istore_n f, 1)) {w : AV} (hi0 : al[(f : Nat)]? = some w) (hn : nlong al f = true) (hs : al.set f (vI x) = al') (k : WP sc d mc ms md (pc + 1) al' st I L R N n Q) : WP sc d mc ms md pc al (vI x :: st) I L R N n Q := by
  subst hs
  have hi := (List.getElem?_eq_some_iff.mp hi0).1
  exact w_loc List.length_set (fun _ _ ha h => ⟨ok_set (x := vI x) ha trivial, ok_tl h⟩) (fun _ _ _ _ _ _ _ _ _ _ _ _ _ _ _ _ _ _ g1 g2 g3 kk => lv_istore_n g1 g2 hd rfl g3.has hi rfl (fun ls' h' => kk ls' (Lr.store1 (v := vI x) hi hn h'))) k
theorem w_istore {f : Nat} {x : Int32} {al' : List AV} (hd : decode md.2.1 pc = .ok (.istore f, 2)) {w : AV} (hi0 : al[f]? = some w) (hn : nlong al f = true) (hs : al.set f (vI x) = al') (k : WP sc d mc ms md (pc + 2) al' st I L R N n Q) : WP sc d mc ms md pc al (vI x :: st) I L R N n Q := by
  subst hs
  have hi := (List.getElem?_eq_some_iff.mp hi0).1
  exact w_loc List.length_set (fun _ _ ha h => ⟨ok_set (x := vI x) ha trivial, ok_tl h⟩) (fun _ _ _ _ _ _ _ _ _ _ _ _ _ _ _ _ _ _ g1 g2 g3 kk => lv_istore g1 g2 hd g3.has hi rfl (fun ls' h' => kk ls' (Lr.store1 (v := vI x) hi hn h'))) k
theorem w_lstore_n {f : Fin 4} {x : Int64} {al' : List AV} (hd : decode md.2.1 pc = .ok (.lstore_n f, 1)) {w : AV} (hi0 : al[(f : Nat) + 1]? = some w) (hn : nlong al f = true) (hs : (al.set f (vL x)).set (f + 1) vU = al') (k : WP sc d mc ms md (pc + 1) al' st I L R N n Q) : WP sc d mc ms md pc al (vL x :: st) I L R N n Q := by
  subst hs
  have hi := (List.getElem?_eq_some_iff.mp hi0).1
  exact w_loc (by rw [List.length_set, List.length_set]) (fun _ _ ha h => ⟨ok_set (x := vU) (ok_set (x := vL x) ha trivial) trivial, ok_tl h⟩) (fun _ _ _ _ _ _ _ _ _ _ _ _ _ _ _ _ _ _ g1 g2 g3 kk => lv_lstore_n g1 g2 hd rfl g3.has hi rfl (fun ls' h' => kk ls' (Lr.store2 (v := vL x) hi hn h'))) k
theorem w_lstore {f : Nat} {x : Int64} {al' : List AV} (hd : decode md.2.1 pc = .ok (.lstore f, 2)) {w : AV} (hi0 : al[f + 1]? = some w) (hn : nlong al f = true) (hs : (al.set f (vL x)).set (f + 1) vU = al') (k : WP sc d mc ms md (pc + 2) al' st I L R N n Q) : WP sc d mc ms md pc al (vL x :: st) I L R N n Q := by
  subst hs
  have hi := (List.getElem?_eq_some_iff.mp hi0).1
  exact w_loc (by rw [List.length_set, List.length_set]) (fun _ _ ha h => ⟨ok_set (x := vU) (ok_set (x := vL x) ha trivial) trivial, ok_tl h⟩) (fun _ _ _ _ _ _ _ _ _ _ _ _ _ _ _ _ _ _ g1 g2 g3 kk => lv_lstore g1 g2 hd g3.has hi rfl (fun ls' h' => kk ls' (Lr.store2 (v := vL x) hi hn h'))) k
theorem w_astore_n {f : Fin 4} {t x : Nat} {al' : List AV} (hd : decode md.2.1 pc = .ok (.astore_n f, 1)) {w : AV} (hi0 : al[(f : Nat)]? = some w) (hn : nlong al f = true) (hs : al.set f (vR t x) = al') (k : WP sc d mc ms md (pc + 1) al' st I L R N n Q) : WP sc d mc ms md pc al (vR t x :: st) I L R N n Q := by
  subst hs
  have hi := (List.getElem?_eq_some_iff.mp hi0).1
  exact w_loc List.length_set (fun _ _ ha h => ⟨ok_set ha (ok_hd h), ok_tl h⟩) (fun _ _ _ _ _ _ _ _ _ _ _ _ _ _ _ _ _ _ g1 g2 g3 kk => lv_astore_n g1 g2 hd rfl g3.has hi rfl (fun ls' h' => kk ls' (Lr.store1 (v := vR t x) hi hn h'))) k
theorem w_astore {f : Nat} {t x : Nat} {al' : List AV} (hd : decode md.2.1 pc = .ok (.astore f, 2)) {w : AV} (hi0 : al[f]? = some w) (hn : nlong al f = true) (hs : al.set f (vR t x) = al') (k : WP sc d mc ms md (pc + 2) al' st I L R N n Q) : WP sc d mc ms md pc al (vR t x :: st) I L R N n Q := by
  subst hs
  have hi := (List.getElem?_eq_some_iff.mp hi0).1
  exact w_loc List.length_set (fun _ _ ha h => ⟨ok_set ha (ok_hd h), ok_tl h⟩) (fun _ _ _ _ _ _ _ _ _ _ _ _ _ _ _ _ _ _ g1 g2 g3 kk => lv_astore g1 g2 hd g3.has hi rfl (fun ls' h' => kk ls' (Lr.store1 (v := vR t x) hi hn h'))) k
theorem w_astore_nN {f : Fin 4} {al' : List AV} (hd : decode md.2.1 pc = .ok (.astore_n f, 1)) {w : AV} (hi0 : al[(f : Nat)]? = some w) (hn : nlong al f = true) (hs : al.set f vN = al') (k : WP sc d mc ms md (pc + 1) al' st I L R N n Q) : WP sc d mc ms md pc al (vN :: st) I L R N n Q := by
  subst hs
  have hi := (List.getElem?_eq_some_iff.mp hi0).1
  exact w_loc List.length_set (fun _ _ ha h => ⟨ok_set (x := vN) ha trivial, ok_tl h⟩) (fun _ _ _ _ _ _ _ _ _ _ _ _ _ _ _ _ _ _ g1 g2 g3 kk => lv_astore_nN g1 g2 hd rfl g3.has hi rfl (fun ls' h' => kk ls' (Lr.store1 (v := vN) hi hn h'))) k
theorem w_astoreN {f : Nat} {al' : List AV} (hd : decode md.2.1 pc = .ok (.astore f, 2)) {w : AV} (hi0 : al[f]? = some w) (hn : nlong al f = true) (hs : al.set f vN = al') (k : WP sc d mc ms md (pc + 2) al' st I L R N n Q) : WP sc d mc ms md pc al (vN :: st) I L R N n Q := by
  subst hs
  have hi := (List.getElem?_eq_some_iff.mp hi0).1
  exact w_loc List.length_set (fun _ _ ha h => ⟨ok_set (x := vN) ha trivial, ok_tl h⟩) (fun _ _ _ _ _ _ _ _ _ _ _ _ _ _ _ _ _ _ g1 g2 g3 kk => lv_astoreN g1 g2 hd g3.has hi rfl (fun ls' h' => kk ls' (Lr.store1 (v := vN) hi hn h'))) k
theorem w_iinc {f : Nat} {z : Int} {x y : Int32} {al' : List AV} (hd : decode md.2.1 pc = .ok (.iinc f z, 3)) (hl : al[f]? = some (vI x)) (hn : nlong al f = true) (hv : Int32.ofInt z = y) (hs : al.set f (vI (x + y)) = al') (k : WP sc d mc ms md (pc + 3) al' st I L R N n Q) : WP sc d mc ms md pc al st I L R N n Q := by
  subst hs
  subst hv
  have hi : f < al.length := (List.getElem?_eq_some_iff.mp hl).1
  refine w_loc List.length_set (fun _ _ ha h => ⟨ok_set (x := vI (x + Int32.ofInt z)) ha trivial, h⟩) (fun e ρ _ _ _ _ _ _ _ _ _ _ _ _ _ _ _ _ g1 g2 g3 kk => ?_) k
  obtain ⟨q, hq⟩ := List.getElem?_of_mem (lvL_in (ρ := ρ) (σ := e.2.2.1) hl (by simp))
  exact lv_iinc g1 g2 hd g3.has hq rfl hi rfl (fun ls' h' => kk ls' (Lr.store1 (v := vI (x + Int32.ofInt z)) hi hn h'))
/-- the same number in other words -/
theorem w_top {x y : Int32} (h : x = y) (k : WP sc d mc ms md pc al (vI y :: st) I L R N n Q) : WP sc d mc ms md pc al (vI x :: st) I L R N n Q := h ▸ k
/-- forget a local -/
theorem w_kill {i : Nat} {al' : List AV} (hs : al.set i vU = al') (k : WP sc d mc ms md pc al' st I L R N n Q) : WP sc d mc ms md pc al st I L R N n Q := by
  subst hs
  refine w_loc List.length_set (fun _ _ ha h => ⟨ok_set (x := vU) ha trivial, h⟩) (fun e ρ _ _ _ _ _ _ _ _ _ _ _ _ _ _ ls _ g1 g2 g3 kk => kk ls ⟨by rw [List.length_set]; exact g3.1, g3.2.1, fun j w hj hw => ?_⟩) k
  by_cases ej : j = i
  · subst ej
    have hlt : j < al.length := by
      have := (List.getElem?_eq_some_iff.mp hj).1
      rwa [List.length_set] at this
    rw [List.getElem?_set_self hlt] at hj
    cases hj
    exact absurd rfl hw
  · rw [List.getElem?_set_ne (Ne.symm ej)] at hj
    exact g3.2.2 j w hj hw
end
