/-! Ends, entries, calls. -/
section
variable {sc : SC} {d mc ms : Nat} {md : MD} {pc : Nat} {al st : List AV} {I : HI} {L : HL} {R : HR} {N : HN} {n : Nat} {Q : HQ}
theorem w_ireturn {x : Int32} {ty : FieldType} (hd : decode md.2.1 pc = .ok (.ireturn, 1)) (hr : md.2.2.2 = some ty) (hn : narrow ty (.int x) = .int x) (hq : Q (vI x) I L R N n) : WP sc d mc ms md pc al [vI x] I L R N n Q := by
  intro e ρ T n0 ρ0 T0 p l en Rm s m args below meth c H locs cells slots ls h
  obtain ⟨⟨g1, g2, g3, g4, g5, g6, g7, g9⟩, ⟨-, -, r3, r4⟩, -, h4, h5, ⟨hK, hP, hD, hT⟩, hS, -, -, hE⟩ := h
  refine W.widen (k := Rm.cells) (n := Rm.slots) (by omega) (by omega) ?_
  have hu : (vI x : AV) = vU ↔ md.2.2.2 = none := ⟨fun q => (by cases q), fun q => (by rw [hr] at q; cases q)⟩
  exact W.zret g1 g2 (g3.trans hr) hn (fun t ht hW => ⟨vI x, I, L, R, N, n, ρ, T, rfl, hu, trivial, hq, ⟨hK.moved hW.alike, by rw [ht]; exact hP, hD, hT⟩, hE, hS.F ht⟩) hS.2.2 hd
theorem w_lreturn {x : Int64} (hd : decode md.2.1 pc = .ok (.lreturn, 1)) (hr : md.2.2.2 = some .long) (hq : Q (vL x) I L R N n) : WP sc d mc ms md pc al [vL x] I L R N n Q := by
  intro e ρ T n0 ρ0 T0 p l en Rm s m args below meth c H locs cells slots ls h
  obtain ⟨⟨g1, g2, g3, g4, g5, g6, g7, g9⟩, ⟨-, -, r3, r4⟩, -, h4, h5, ⟨hK, hP, hD, hT⟩, hS, -, -, hE⟩ := h
  refine W.widen (k := Rm.cells) (n := Rm.slots) (by omega) (by omega) ?_
  have hu : (vL x : AV) = vU ↔ md.2.2.2 = none := ⟨fun q => (by cases q), fun q => (by rw [hr] at q; cases q)⟩
  exact W.lret g1 g2 (g3.trans hr) (fun t ht hW => ⟨vL x, I, L, R, N, n, ρ, T, rfl, hu, trivial, hq, ⟨hK.moved hW.alike, by rw [ht]; exact hP, hD, hT⟩, hE, hS.F ht⟩) hS.2.2 hd
theorem w_return (hd : decode md.2.1 pc = .ok (.return_, 1)) (hr : md.2.2.2 = none) (hq : Q vU I L R N n) : WP sc d mc ms md pc al [] I L R N n Q := by
  intro e ρ T n0 ρ0 T0 p l en Rm s m args below meth c H locs cells slots ls h
  obtain ⟨⟨g1, g2, g3, g4, g5, g6, g7, g9⟩, ⟨-, -, r3, r4⟩, -, h4, h5, ⟨hK, hP, hD, hT⟩, hS, -, -, hE⟩ := h
  refine W.widen (k := Rm.cells) (n := Rm.slots) (by omega) (by omega) ?_
  exact W.vret g1 g2 (g3.trans hr) (fun t ht hW => ⟨vU, I, L, R, N, n, ρ, T, rfl, ⟨fun _ => hr, fun _ => rfl⟩, trivial, hq, ⟨hK.moved hW.alike, by rw [ht]; exact hP, hD, hT⟩, hE, hS.F ht⟩) hS.2.2 hd
def isRef : AV → Bool
  | .inr (.inr (.inl _)) => true
  | .inr (.inr (.inr (.inl _))) => true
  | .inr (.inr (.inr (.inr false))) => true
  | _ => false
theorem w_areturn {v : AV} {ty : FieldType} (hd : decode md.2.1 pc = .ok (.areturn, 1)) (hr : md.2.2.2 = some ty) (hty : isRefTy ty = true) (hv : isRef v = true) (hq : Q v I L R N n) : WP sc d mc ms md pc al [v] I L R N n Q := by
  intro e ρ T n0 ρ0 T0 p l en Rm s m args below meth c H locs cells slots ls h
  obtain ⟨⟨g1, g2, g3, g4, g5, g6, g7, g9⟩, ⟨-, -, r3, r4⟩, -, h4, h5, ⟨hK, hP, hD, hT⟩, hS, -, -, hE⟩ := h
  refine W.widen (k := Rm.cells) (n := Rm.slots) (by omega) (by omega) ?_
  have hrt : (∃ q, ty = .object q) ∨ ∃ q, ty = .array q := by
    revert hty; cases ty <;> simp [isRefTy]
  have hvv : cv ρ e.2.2.1 v = .null ∨ ∃ a, cv ρ e.2.2.1 v = .ref a := by
    rcases v with x | x | q | q | b
    · cases hv
    · cases hv
    · exact Or.inr ⟨_, rfl⟩
    · exact Or.inr ⟨_, rfl⟩
    · exact Or.inl rfl
  have hu : v ≠ vU := fun q => by rw [q] at hv; cases hv
  have hO : rvO ρ e.2.2.1 v = some (cv ρ e.2.2.1 v) := by
    rcases v with x | x | q | q | b
    · rfl
    · rfl
    · rfl
    · rfl
    · cases b
      · rfl
      · exact absurd rfl hu
  exact W.aret g1 g2 (g3.trans hr) hrt hvv (fun t ht hW => ⟨v, I, L, R, N, n, ρ, T, by rw [hO], ⟨fun q => absurd q hu, fun q => (by rw [hr] at q; cases q)⟩, ok_hd h5, hq, ⟨hK.moved hW.alike, by rw [ht]; exact hP, hD, hT⟩, hE, hS.F ht⟩) hS.2.2 hd
end
def spr : List AV → List AV
  | [] => []
  | .inr (.inl x) :: l => vL x :: vU :: spr l
  | .inl x :: l => vI x :: spr l
  | .inr (.inr q) :: l => .inr (.inr q) :: spr l
def ent (as : List AV) (m : Nat) : List AV := spr as ++ List.replicate (m - (spr as).length) vU
theorem spr_at (ρ σ : Nat → Nat) : ∀ (as : List AV), (spr as).length = (lg_sl (as.map (cv ρ σ))).length ∧ ∀ (i : Nat) (v : AV), (spr as)[i]? = some v → v ≠ vU → (lg_sl (as.map (cv ρ σ)))[i]? = some (.val (cv ρ σ v))
  | [] => ⟨rfl, fun i v h => by simp [spr] at h⟩
  | .inr (.inl x) :: l => by
    obtain ⟨h1, h2⟩ := spr_at ρ σ l
    have e : lg_sl ((Sum.inr (Sum.inl x) :: l : List AV).map (cv ρ σ)) = .val (.long x) :: .second :: lg_sl (l.map (cv ρ σ)) := rfl
    rw [e]
    refine ⟨by simp [spr, h1], fun i v h hv => ?_⟩
    match i with
    | 0 => cases h; rfl
    | 1 => cases h; exact absurd rfl hv
    | i + 2 => exact h2 i v h hv
  | .inl x :: l => by
    obtain ⟨h1, h2⟩ := spr_at ρ σ l
    have e : lg_sl ((Sum.inl x :: l : List AV).map (cv ρ σ)) = .val (.int x) :: lg_sl (l.map (cv ρ σ)) := rfl
    rw [e]
    refine ⟨by simp [spr, h1], fun i v h hv => ?_⟩
    match i with
    | 0 => cases h; rfl
    | i + 1 => exact h2 i v h hv
  | .inr (.inr q) :: l => by
    obtain ⟨h1, h2⟩ := spr_at ρ σ l
    have e : lg_sl ((Sum.inr (Sum.inr q) :: l : List AV).map (cv ρ σ)) = .val (cv ρ σ (.inr (.inr q))) :: lg_sl (l.map (cv ρ σ)) := by
      rcases q with a | a | a <;> rfl
    rw [e]
    refine ⟨by simp [spr, h1], fun i v h hv => ?_⟩
    match i with
    | 0 => cases h; rfl
    | i + 1 => exact h2 i v h hv
theorem spr_ok {T : HN} {n : Nat} : ∀ (as : List AV), (∀ v ∈ as, okv T n v) → ∀ v ∈ spr as, okv T n v
  | [], _ => fun v h => absurd h List.not_mem_nil
  | .inr (.inl x) :: l, h => ok_cons (a := vL x) trivial (ok_cons (a := vU) trivial (spr_ok l (ok_tl h)))
  | .inl x :: l, h => ok_cons (a := vI x) trivial (spr_ok l (ok_tl h))
  | .inr (.inr q) :: l, h => ok_cons (ok_hd h) (spr_ok l (ok_tl h))
theorem ent_ok {T : HN} {n m : Nat} {as : List AV} (h : ∀ v ∈ as, okv T n v) : ∀ v ∈ ent as m, okv T n v := fun v hv => by
  rcases List.mem_append.mp hv with q | q
  · exact spr_ok as h v q
  · rw [(List.mem_replicate.mp q).2]; exact trivial
theorem ent_len {m : Nat} {as : List AV} (h : (spr as).length ≤ m) : (ent as m).length = m := by simp [ent]; omega
theorem ent_lr (ρ σ : Nat → Nat) {m : Nat} {as : List AV} (h : (spr as).length ≤ m) : Lr ρ σ (ent as m) ((lg_sl (as.map (cv ρ σ)) ++ List.replicate (m - (lg_sl (as.map (cv ρ σ))).length) Slot.unset).toArray) := by
  obtain ⟨h1, h2⟩ := spr_at ρ σ as
  have he := lv_entry (as.map (cv ρ σ)) (n := m) (by omega)
  refine ⟨by rw [ent_len h]; exact he.1, he.2.1, fun i v hi hv => ?_⟩
  unfold ent at hi
  by_cases hl : i < (spr as).length
  · rw [List.getElem?_append_left hl] at hi
    rw [List.getElem?_toArray, List.getElem?_append_left (by omega)]
    exact h2 i v hi hv
  · rw [List.getElem?_append_right (by omega)] at hi
    have := (List.mem_replicate.mp (List.mem_of_getElem? hi)).2
    exact absurd this hv
theorem va_AI.spec {s : State} (h : va_AI s) : ∃ comp c k, s.vm.findClass (FieldType.array .int).toString = some comp ∧ (s.vm.classes.findIdx? fun (x : Class) => match x.kind with | .array component _ => component == comp | _ => false) = some c ∧ s.vm.classes[c]? = some k ∧ k.kind = .array comp (.array .int) ∧ s.vm.findClass ("[" ++ (FieldType.array .int).toString) = some c := by
  unfold va_AI Cond.before at h
  simp only [Cond.holds, Cond.value, beq_iff_eq] at h
  cases hc : s.vm.findClass (FieldType.array .int).toString with
  | none => simp [hc] at h
  | some comp =>
    simp only [hc, Option.bind_some, Option.bind_eq_some_iff, Option.map_eq_some_iff] at h
    obtain ⟨c, hi, k, hk, hb⟩ := h
    obtain ⟨hlt, hp, -⟩ := Array.findIdx?_eq_some_iff_getElem.mp hi
    have hkk : s.vm.classes[c] = k := (Array.getElem?_eq_some_iff.mp hk).2
    rw [hkk] at hp
    cases hkind : k.kind with
    | array component ty =>
      rw [hkind] at hb hp
      simp at hb hp
      exact ⟨comp, c, k, rfl, hi, hk, by rw [hkind, hp, hb.1], hb.2⟩
    | _ => rw [hkind] at hb; simp at hb
theorem va_AI.moved {u U : State} (hvm : u.vm.Alike U.vm) (h : va_AI u) : va_AI U := by
  obtain ⟨comp, c, k, h1, h2, h3, h4, h5⟩ := h.spec
  obtain ⟨k', hk', he⟩ := hvm.2.2 _ _ h3
  have hi : (U.vm.classes.findIdx? fun (x : Class) => match x.kind with | .array component _ => component == comp | _ => false) = some c := by
    have hb : U.vm.bare = u.vm.bare := by first | exact hvm.bare_eq | exact hvm.bare_eq.symm
    have h3 := va_idx_bare u.vm comp
    have h4 := va_idx_bare U.vm comp
    rw [hb] at h4
    exact h4.symm.trans (h3.trans h2)
  have hkind : k'.kind = .array comp (.array .int) := by rw [he]; exact h4
  have f1 : U.vm.findClass (FieldType.array .int).toString = some comp := by rw [hvm.findClass]; exact h1
  have f2 : U.vm.findClass ("[" ++ (FieldType.array .int).toString) = some c := by rw [hvm.findClass]; exact h5
  unfold va_AI Cond.before Cond.holds
  simp only [Cond.value]
  rw [f1, Option.bind_some]
  refine (congrArg (fun o : Option Nat => (o.bind (fun c => (U.vm.classes[c]?).map fun (k : Class) => match k.kind with | .array _ ty => decide (ty = FieldType.array .int) && decide (U.vm.findClass ("[" ++ (FieldType.array .int).toString) = some c) | _ => false) == some true)) hi).trans ?_
  simp [hk', hkind, f2]
theorem SF.same {sc : SC} {e : EN} {u U : State} {H : Heap} (hv : U.vm = u.vm) (h : SF sc e u H) : SF sc e U H := by
  have ha : u.vm.Alike U.vm := by rw [hv]; exact Vm.Alike.refl _
  obtain ⟨h1, h2, h3, h4, h5, h6, h7, h8, h9, h10, h11, h12⟩ := h
  exact ⟨fun j hj => (h1 j hj).moved ha, h2.moved ha, h3.moved ha, h4.moved ha, h5.moved ha, h6.moved ha, h7.imp (fun q => q.moved ha) (fun q => q.moved ha), h8.moved ha, fun i hi => (h9 i hi).same hv, fun q hq => va_Nw.same rfl hv.symm (h10 q hq), fun C hC => (h11 C hC).moved ha, va_AI.moved ha h12⟩
theorem SF.warm {sc : SC} {e : EN} {s U : State} {H : Heap} (hW : s.WarmedH U.vm) (h : SF sc e s H) : SF sc e U H := by
  have ha := hW.alike
  obtain ⟨h1, h2, h3, h4, h5, h6, h7, h8, h9, h10, h11, h12⟩ := h
  exact ⟨fun j hj => (h1 j hj).moved ha, h2.moved ha, h3.moved ha, h4.moved ha, h5.moved ha, h6.moved ha, h7.imp (fun q => q.moved ha) (fun q => q.moved ha), h8.moved ha, fun i hi => (h9 i hi).warm hW, fun q hq => va_Nw.warmM hW (h10 q hq), fun C hC => (h11 C hC).moved ha, va_AI.moved ha h12⟩
theorem SF.kept {sc : SC} {e : EN} {U : State} {H H1 : Heap} (h : SF sc e U H) (hq : ∀ a : Nat, a < H.size → ¬ EA e a → H1[a]? = H[a]?) : SF sc e U H1 := by
  obtain ⟨h1, h2, h3, h4, h5, h6, h7, h8, h9, h10, h11, h12⟩ := h
  exact ⟨fun j hj => (h1 j hj).kept hq, h2.kept hq, h3.kept hq, h4.kept hq, h5.kept hq, h6.kept hq, h7.imp (fun q => q.kept hq) (fun q => q.kept hq), h8.kept hq, h9, h10, h11, h12⟩
/-- what a method's world is at its start -/
def PB (sc : SC) (e : EN) (ρ : Nat → Nat) (T : HN) (I : HI) (L : HL) (R : HR) (N : HN) (n : Nat) : State → Prop := fun U => HW e ρ T I L R N n U U.heap ∧ SF sc e U U.heap ∧ e.2.2.2 ≤ U.heap.size
abbrev rmo (d mc ms : Nat) : Room := { frames := d, cells := mc, slots := ms, locals := 64 * d }
theorem WP.met {sc : SC} {d mc ms : Nat} {md : MD} {as : List AV} {I : HI} {L : HL} {R : HR} {N : HN} {n : Nat} {Q : HQ} (h : WP sc d mc ms md 0 (ent as md.2.2.1) [] I L R N n Q) (hp : plainName md.1.cls = true) (hlen : (spr as).length ≤ md.2.2.1) (l : Launch) (e : EN) (ρ : Nat → Nat) (T : HN) (hok : ∀ v ∈ as, okv T n v) :
    Met l md.1 (Cond.code md.1 md.2.1 md.2.2.1 md.2.2.2 :: gw) (rmo d mc ms) (va_Pc (as.map (cv ρ e.2.2.1)) (PB sc e ρ T I L R N n)) (QM md e n ρ T Q) mc ms (EA e) := by
  refine Met.ofW (cc := md.2.1) (maxL := md.2.2.1) (ret := md.2.2.2) hp rfl ?_
  intro p en s m args below meth c s₁ B hml hv
  obtain ⟨rfl, hw, hsf, hB⟩ := hv
  have hts := atoms_spec (ws := Cond.code md.1 md.2.1 md.2.2.1 md.2.2.2 :: gw) B.pre
  rw [lg_entry_eq]
  exact h e ρ T n ρ T p l en (rmo d mc ms) s m _ below meth c s.heap [] 0 0 _ ⟨⟨B.exec, B.bytes, B.returns, hml, findClass_of_methodNamed B.named, fun w hw => hts w (List.mem_cons_of_mem _ hw), B.notSynchronized, (name_of_methodNamed B.named B.method).1⟩, ⟨Nat.le_refl _, Nat.le_refl _, by show 0 + mc ≤ mc; omega, by show 0 + ms ≤ ms; omega⟩, ⟨ent_lr ρ e.2.2.1 hlen, ent_len hlen⟩, ent_ok hok, ok_nil, hw, va_S.rf, hsf, hB, ⟨Nat.le_refl _, fun _ _ => ⟨rfl, rfl⟩⟩⟩
theorem PB.blind {sc : SC} {e : EN} {ρ : Nat → Nat} {T : HN} {I : HI} {L : HL} {R : HR} {N : HN} {n : Nat} {as : List Value} : FrameBlind (va_Pc as (PB sc e ρ T I L R N n)) := by
  intro a U g mk q
  obtain ⟨q0, ⟨qK, qP, qD, qT⟩, qS, qB⟩ := q
  exact ⟨q0, ⟨va_K.moved (u := U) (U := U.calling g mk a) (Vm.Alike.refl U.vm) qK, qP, qD, qT⟩, SF.same (u := U) (U := U.calling g mk a) rfl qS, qB⟩
theorem good_tbl {md : MD} {na : Nat} (h : MO md na) : GoodIn gw (Cond.code md.1 md.2.1 md.2.2.1 md.2.2.2 :: gw) := fun w hw => by
  have hm : w ∈ gw := (List.mem_cons.mp hw).elim (fun q => q ▸ h.1) id
  exact ⟨hm, good_of_word (List.mem_filter.mp hm).2⟩
section
variable {sc : SC} {d d' mc ms mc' ms' : Nat} {md md' : MD} {pc : Nat} {al st rest as : List AV} {I : HI} {L : HL} {R : HR} {N : HN} {n : Nat} {Q Qc : HQ} {e : EN} {ρ : Nat → Nat} {T : HN} {n0 : Nat} {ρ0 : Nat → Nat} {T0 : HN} {p : Program} {l : Launch} {en : Env} {Rm : Room} {s : State} {m : MethodId} {args : Array Value} {below : List Frame} {meth : Method} {c : Code} {H : Heap} {locs : List Loc} {cells slots : Nat} {ls : Array Slot}
theorem cv_ex {n2 : Nat} {ρ2 : Nat → Nat} {T2 : HN} {v : AV} (σ : Nat → Nat) (hE : EX n ρ T n2 ρ2 T2) (hv : okv T n v) : cv ρ2 σ v = cv ρ σ v := by
  rcases v with x | x | q | q | b
  · rfl
  · rfl
  · exact congrArg Value.ref (hE.2 q.2 hv.1).1
  · rfl
  · rfl
theorem ok_ex {n2 : Nat} {ρ2 : Nat → Nat} {T2 : HN} {v : AV} (hE : EX n ρ T n2 ρ2 T2) (hv : okv T n v) : okv T2 n2 v := by
  rcases v with x | x | q | q | b
  · trivial
  · trivial
  · exact ⟨Nat.lt_of_lt_of_le hv.1 hE.1, ((hE.2 q.2 hv.1).2).trans hv.2⟩
  · exact hv
  · trivial
/-- behind a call -/
theorem run_W {a : Array Value} {Z : State → Prop} {st0 : List Value} (hr : va_Run p l en Rm s m args below meth c H locs cells slots mc' ms' (F0 m pc ls st0) (rest.map (cv ρ e.2.2.1)) (QM md' e n ρ T Qc a) (EA e)) (hS : va_S (EA e) s.heap H locs) (hK : va_K e.1 vwCl (tysOf e.2.1) s)
    (kk : ∀ (r : AV) (I : HI) (L : HL) (R : HR) (N : HN) (n2 : Nat) (ρ2 : Nat → Nat) (T2 : HN) (H2 : Heap) (locs2 : List Loc), (r = vU ↔ md'.2.2.2 = none) → okv T2 n2 r → Qc r I L R N n2 → HW e ρ2 T2 I L R N n2 s H2 → EX n ρ T n2 ρ2 T2 → va_S (EA e) s.heap H2 locs2 → W p l en Rm s m args below meth c H2 locs2 (cells + mc') (slots + ms') Z (F0 m (pc + 3) ls ((rvO ρ2 e.2.2.1 r).toList ++ rest.map (cv ρ e.2.2.1)))) : W p l en Rm s m args below meth c H locs cells slots Z (F0 m pc ls st0) := by
  intro T9 hT9 X
  obtain ⟨v, st₀, t, T', Lc, h0, X', hL, e1, e2, ⟨r, I2, L2, R2, N2, n2, ρ2, T2, hv, hru, hok, hq, ⟨hK2, hP2, hD2, hT2⟩, hE, hz, hk⟩, stp⟩ := hr T9 hT9 X
  cases hv
  rw [h0] at hz hk
  obtain ⟨t2, a1, b1⟩ := kk r I2 L2 R2 N2 n2 ρ2 T2 T'.heap (locs ++ Lc) hru hok hq ⟨hK, by rw [e1]; exact hP2, hD2, hT2⟩ hE
    ⟨Nat.le_trans hS.1 (by rw [e1]; exact hz), fun q h1 h2 => by rw [e1, hk q (Nat.lt_of_lt_of_le h1 hS.1) h2]; exact hS.2.1 q h1 h2, fun q hq => (List.mem_append.mp hq).elim (hS.2.2 q) (hL q)⟩ T' rfl X'
  exact ⟨t2, stp t2 a1, b1⟩
theorem CX.back {r : AV} {I2 : HI} {L2 : HL} {R2 : HR} {N2 : HN} {n2 : Nat} {ρ2 : Nat → Nat} {T2 : HN} {H2 : Heap} {locs2 : List Loc} {st2 : List AV} (h : CX sc d (mc + mc') (ms + ms') md al st I L R N n e ρ T n0 ρ0 T0 p Rm s m args meth c H locs cells slots ls) (hE : EX n ρ T n2 ρ2 T2) (hw : HW e ρ2 T2 I2 L2 R2 N2 n2 s H2) (hS : va_S (EA e) s.heap H2 locs2) (hv : ∀ v ∈ st2, okv T2 n2 v) :
    CX sc d mc ms md al st2 I2 L2 R2 N2 n2 e ρ2 T2 n0 ρ0 T0 p Rm s m args meth c H2 locs2 (cells + mc') (slots + ms') ls := by
  obtain ⟨h1, ⟨r1, r2, r3, r4⟩, ⟨⟨l1, l2, l3⟩, l4⟩, h4, h5, h6, h7, h8, h9, h10⟩ := h
  refine ⟨h1, ⟨r1, r2, by omega, by omega⟩, ⟨⟨l1, l2, fun i v hi hv => ?_⟩, l4⟩, fun v hv => ok_ex hE (h4 v hv), hv, hw, hS, h8, h9, ⟨Nat.le_trans h10.1 hE.1, fun k hk => ?_⟩⟩
  · rw [cv_ex _ hE (h4 v (List.mem_of_getElem? hi))]
    exact l3 i v hi hv
  · obtain ⟨a1, a2⟩ := h10.2 k hk
    obtain ⟨b1, b2⟩ := hE.2 k (Nat.lt_of_lt_of_le hk h10.1)
    exact ⟨b1.trans a1, b2.trans a2⟩
theorem map_ex {n2 : Nat} {ρ2 : Nat → Nat} {T2 : HN} (σ : Nat → Nat) (hE : EX n ρ T n2 ρ2 T2) (hv : ∀ v ∈ rest, okv T n v) : rest.map (cv ρ σ) = rest.map (cv ρ2 σ) := List.map_congr_left fun v h => (cv_ex σ hE (hv v h)).symm
/-- the callee's world at the call -/
theorem pre_call (h : CX sc d (mc + mc') (ms + ms') md al st I L R N n e ρ T n0 ρ0 T0 p Rm s m args meth c H locs cells slots ls) (vs : List Value) : PreS s H (va_Pc vs (PB sc e ρ T I L R N n)) vs := by
  obtain ⟨h1, h2, h3, h4, h5, ⟨hK, hP, hD, hT⟩, h7, h8, h9, h10⟩ := h
  refine ⟨PB.blind, fun U hU hW => ⟨rfl, ⟨va_K.moved hW.alike hK, by rw [hU]; exact hP, hD, hT⟩, ?_, ?_⟩⟩
  · rw [hU]
    exact (h8.kept h7.2.1).warm hW
  · rw [hU]
    exact Nat.le_trans h9 h7.1
theorem w_cont {Z : State → Prop} {st0 : List Value} {a : Array Value} (hret : ∃ ty, md'.2.2.2 = some ty) (h : CX sc d (mc + mc') (ms + ms') md al st I L R N n e ρ T n0 ρ0 T0 p Rm s m args meth c H locs cells slots ls) (hrest : ∀ v ∈ rest, okv T n v)
    (hr : va_Run p l en Rm s m args below meth c H locs cells slots mc' ms' (F0 m pc ls st0) (rest.map (cv ρ e.2.2.1)) (QM md' e n ρ T (fun r I L R N n => WP sc d mc ms md (pc + 3) al (r :: rest) I L R N n Q) a) (EA e)) :
    W p l en Rm s m args below meth c H locs cells slots (MQ below (QM md e n0 ρ0 T0 Q) args s Rm.cells Rm.slots (EA e)) (F0 m pc ls st0) := by
  have h' := h
  obtain ⟨h1, h2, h3, h4, h5, ⟨hK, hP, hD, hT⟩, h7, h8, h9, h10⟩ := h
  refine run_W hr h7 hK (fun r I2 L2 R2 N2 n2 ρ2 T2 H2 locs2 hu hok hq hw hE hS => ?_)
  obtain ⟨ty, hty⟩ := hret
  have hO : rvO ρ2 e.2.2.1 r = some (cv ρ2 e.2.2.1 r) := by
    rcases r with x | x | q | q | b
    · rfl
    · rfl
    · rfl
    · rfl
    · cases b
      · rfl
      · have := hu.mp rfl
        rw [hty] at this
        cases this
  rw [hO, map_ex _ hE hrest]
  exact hq e ρ2 T2 n0 ρ0 T0 p l en Rm s m args below meth c H2 locs2 (cells + mc') (slots + ms') ls (h'.back (r := r) hE hw hS (ok_cons hok (fun v hv => ok_ex hE (hrest v hv))))
theorem w_contV {Z : State → Prop} {st0 : List Value} {a : Array Value} (hret : md'.2.2.2 = none) (h : CX sc d (mc + mc') (ms + ms') md al st I L R N n e ρ T n0 ρ0 T0 p Rm s m args meth c H locs cells slots ls) (hrest : ∀ v ∈ rest, okv T n v)
    (hr : va_Run p l en Rm s m args below meth c H locs cells slots mc' ms' (F0 m pc ls st0) (rest.map (cv ρ e.2.2.1)) (QM md' e n ρ T (fun _ I L R N n => WP sc d mc ms md (pc + 3) al rest I L R N n Q) a) (EA e)) :
    W p l en Rm s m args below meth c H locs cells slots (MQ below (QM md e n0 ρ0 T0 Q) args s Rm.cells Rm.slots (EA e)) (F0 m pc ls st0) := by
  have h' := h
  obtain ⟨h1, h2, h3, h4, h5, ⟨hK, hP, hD, hT⟩, h7, h8, h9, h10⟩ := h
  refine run_W hr h7 hK (fun r I2 L2 R2 N2 n2 ρ2 T2 H2 locs2 hu hok hq hw hE hS => ?_)
  have hO : rvO ρ2 e.2.2.1 r = none := by rw [hu.mpr hret]; rfl
  rw [hO, map_ex _ hE hrest]
  exact hq e ρ2 T2 n0 ρ0 T0 p l en Rm s m args below meth c H2 locs2 (cells + mc') (slots + ms') ls (h'.back (r := r) hE hw hS (fun v hv => ok_ex hE (hrest v hv)))
end
