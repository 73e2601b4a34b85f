/-! Rows of rows are made: the outer array, then the inner ones. -/
theorem mn_slots (cA : ClassId) (N h : Nat) : ∀ i, i ≤ N → ∀ j, j < N → (Jvm.Free.Multi.outerC cA N h i).slots[j]? = some (if j < i then .ref (h + 1 + j) else .null)
  | 0, _, j, hj => by
    show (Array.replicate N Value.null)[j]? = _
    rw [Array.getElem?_replicate, if_pos hj, if_neg (Nat.not_lt_zero j)]
  | i + 1, hi, j, hj => by
    have ih := mn_slots cA N h i (by omega) j hj
    show ((Jvm.Free.Multi.outerC cA N h i).slots.setIfInBounds i (Value.ref (h + 1 + i)))[j]? = _
    rw [Array.getElem?_setIfInBounds, (Jvm.Free.Multi.outerC_facts cA N h i).2.2]
    by_cases e : i = j
    · subst e; rw [if_pos rfl, if_pos (by omega), if_pos (by omega)]
    · rw [if_neg e, ih]
      by_cases e2 : j < i
      · rw [if_pos e2, if_pos (by omega)]
      · rw [if_neg e2, if_neg (by omega)]
theorem mn_eta (cA : ClassId) (N h : Nat) : ∀ i, Jvm.Free.Multi.outerC cA N h i = { cls := cA, slots := (Jvm.Free.Multi.outerC cA N h i).slots, vm := .none }
  | 0 => rfl
  | i + 1 => by
    have ih := mn_eta cA N h i
    show (Jvm.Free.Multi.outerC cA N h i).setSlot i _ = { cls := cA, slots := ((Jvm.Free.Multi.outerC cA N h i).setSlot i _).slots, vm := .none }
    generalize Jvm.Free.Multi.outerC cA N h i = X at ih ⊢
    rw [ih]
    rfl
theorem mn_outer (cA : ClassId) (N h : Nat) : Jvm.Free.Multi.outerC cA N h N = vp_cell cA (N, .inr (.inr (.inr (.inr (fun i => if i < N then some (h + 1 + i) else none))))) := by
  have a3 := (Jvm.Free.Multi.outerC_facts cA N h N).2.2
  have hs : (Jvm.Free.Multi.outerC cA N h N).slots = Array.ofFn (n := N) fun j => va_rf (if j.val < N then some (h + 1 + j.val) else none) := by
    apply Array.ext_getElem?
    intro j
    by_cases hj : j < N
    · rw [mn_slots cA N h N (Nat.le_refl N) j hj, Array.getElem?_ofFn, dif_pos hj]
      show some (if j < N then _ else _) = some (va_rf (if j < N then _ else _))
      rw [if_pos hj, if_pos hj]
      rfl
    · rw [Array.getElem?_eq_none (by rw [a3]; omega), Array.getElem?_eq_none (by rw [Array.size_ofFn]; omega)]
  rw [vp_cell_q, mn_eta, hs]
  rfl
theorem mn_inner (cy : ClassId) (M : Nat) : Jvm.Free.Multi.innerC cy M (defaultValue .int) = vp_cell cy (M, .inl (fun _ => 0)) := by
  rw [vp_cell_i]
  unfold Jvm.Free.Multi.innerC arrV
  congr 1
  apply Array.ext_getElem?
  intro j
  by_cases hj : j < M
  · rw [Array.getElem?_replicate, if_pos hj, Array.getElem?_ofFn, dif_pos hj]; rfl
  · rw [Array.getElem?_eq_none (by rw [Array.size_replicate]; omega), Array.getElem?_eq_none (by rw [Array.size_ofFn]; omega)]
theorem mn_W {p : Program} {l : Launch} {e : Env} {R : Room} {s : State} {m : MethodId} {args : Array Value} {below : List Frame} {meth : Method} {c : Code} {H : Heap} {locs : List Loc} {cells slots pc : Nat} {ls : Array Slot} {rest : List Value} {Q : State → Prop}
    {cc : ByteArray} (hexec : p.tables.exec = Jvm.exec) (hb : c.code = cc) {own : String} {index : Nat} (hown : s.vm.findClass own = some m.cls) (hclink : (Cond.classLink own index ("[" ++ (FieldType.array .int).toString)).before args s = true)
    (hover : (Cond.arrayOver (.array .int)).before args s = true) (harr : (Cond.arrayClass .int).before args s = true) {n k : Int32} {N M : Nat} (hn : ¬ n < 0) (hk : ¬ k < 0) (hN : n.toNatClampNeg = N) (hM : k.toNatClampNeg = M) (hb1 : N < 1000) (hb2 : M < 1000)
    (hcells : cells + (1 + N) ≤ R.cells) (hslots : slots + (N + N * M) ≤ R.slots) (hdg : decode cc pc = .ok (.multianewarray index 2, 4))
    (kk : ∀ (cA cI : ClassId) (H1 : Heap), s.vm.findClass ("[" ++ (FieldType.array .int).toString) = some cA → s.vm.findClass (FieldType.array .int).toString = some cI → H1.size = H.size + 1 + N → (∀ x, x < H.size → H1[x]? = H[x]?) →
      H1[H.size]? = some (vp_cell cA (N, .inr (.inr (.inr (.inr (fun i => if i < N then some (H.size + 1 + i) else none)))))) → (∀ j, j < N → H1[H.size + 1 + j]? = some (vp_cell cI (M, .inl (fun _ => 0)))) →
      W p l e R s m args below meth c H1 locs (cells + 1 + N) (slots + N + N * M) Q (F0 m (pc + 4) ls (.ref H.size :: rest))) : W p l e R s m args below meth c H locs cells slots Q (F0 m pc ls (.int k :: .int n :: rest)) := by
  subst hN
  subst hM
  intro T hT Xs
  obtain ⟨vm1, cA, comp, -, fA, fC, -, -, X', step⟩ := Xs.multianewarray2F hexec hown hclink hover harr (g := F0 m pc ls (.int k :: .int n :: rest)) rfl (by rw [hb]; exact hdg) rfl hn hk (by omega) (by show _ * 4 ≤ _; omega) (by omega) rfl rfl hcells hslots
  have hTh : (T.setVm vm1).heap = H := hT
  obtain ⟨f1, f2, -, -⟩ := Jvm.Free.Multi.fill_facts (T.setVm vm1) cA comp n.toNatClampNeg k.toNatClampNeg (defaultValue .int) n.toNatClampNeg
  have hold := fun (x : Nat) (hx : x < H.size) => Jvm.Free.Multi.fill_old (T.setVm vm1) cA comp n.toNatClampNeg k.toNatClampNeg (defaultValue .int) (a := x) (by rw [hTh]; exact hx) n.toNatClampNeg
  have hrow := Jvm.Free.Multi.fill_inner (T.setVm vm1) cA comp n.toNatClampNeg k.toNatClampNeg (defaultValue .int) n.toNatClampNeg
  generalize Jvm.Free.Multi.fill (T.setVm vm1) cA comp n.toNatClampNeg k.toNatClampNeg (defaultValue .int) n.toNatClampNeg = F at X' step f1 f2 hold hrow
  rw [hTh] at f1 f2
  rw [mn_outer] at f2
  simp only [hTh, mn_inner] at hrow hold
  obtain ⟨t, a1, b1⟩ := kk cA comp F.heap fA fC f1 hold f2 hrow F rfl X'
  refine ⟨t, step t ?_, b1⟩
  have e1 : T.heap.size = H.size := by rw [hT]
  rw [e1]
  exact a1
