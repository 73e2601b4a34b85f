/-! What is made; the library's own. -/
section
variable {cy : Nat → ClassId} {ρ ρ' : Nat → Nat} {T T' : HN} {I I' : HI} {L L' : HL} {R R' : HR} {N N' : HN} {n k t q z : Nat}
theorem map_rf {r : Option Nat} (h : ∀ a, r = some a → ρ' a = ρ a) : r.map ρ' = r.map ρ := by
  cases r with
  | none => rfl
  | some a => exact congrArg some (h a rfl)
theorem fval_2 {j c : Nat} (h : 2 ≤ c) : fval ρ I L R k j c = va_rf ((R k j).map ρ) := by
  match c, h with
  | c + 2, _ => rfl
theorem ce_ext (hW : WT T R n) (hk : k < n) (hρ : ∀ a, a < n → ρ' a = ρ a) (hT : T' k = T k) (hI : I' k = I k) (hL : L' k = L k) (hR : R' k = R k) (hN : N' k = N k) : ce cy ρ' T' I' L' R' N' k = ce cy ρ T I L R N k := by
  by_cases h1 : T k < 11
  · rw [ce_obj hT h1, ce_obj rfl h1]
    congr 2
    apply List.map_congr_left
    intro j _
    rcases (show fk (T k) j = 0 ∨ fk (T k) j = 1 ∨ 2 ≤ fk (T k) j by omega) with h0 | h0 | h0
    · rw [h0]; show Value.int _ = Value.int _; rw [hI]
    · rw [h0]; show Value.long _ = Value.long _; rw [hL]
    · rw [fval_2 h0, fval_2 h0, hR, map_rf (fun a ha => hρ a ((hW k hk j a ha).1 h1 h0).1)]
  · by_cases h2 : T k < 14
    · rw [ce_int hT (by omega) h2, ce_int rfl (by omega) h2, hI, hN]
    · rw [ce_ref hT (by omega), ce_ref rfl (by omega), hR, hN]
      congr 7
      funext i
      exact map_rf (fun a ha => hρ a ((hW k hk i a ha).2 (by omega)).1)
theorem wsl_push {x : va_E} (hW : WT T R n) (hx : ce cy (va_up ρ n q) (va_up T n t) I' L' R' N' n = x) (ho : ∀ k, k < n → I' k = I k ∧ L' k = L k ∧ R' k = R k ∧ N' k = N k) : wsl cy ρ T I L R N n ++ [(q, x)] = wsl cy (va_up ρ n q) (va_up T n t) I' L' R' N' (n + 1) := by
  unfold wsl
  rw [List.range_succ, List.map_append]
  congr 1
  · apply List.map_congr_left
    intro k hk
    have hk' := List.mem_range.mp hk
    obtain ⟨h1, h2, h3, h4⟩ := ho k hk'
    rw [va_up_ne _ _ (by omega), ce_ext hW hk' (fun a ha => va_up_ne _ _ (by omega)) (va_up_ne _ _ (by omega)) h1 h2 h3 h4]
  · rw [List.map_cons, hx, va_up_self]; rfl
theorem wt_push (hW : WT T R n) (hR : ∀ k, k < n → R' k = R k) (hn : ∀ j, R' n j = none) : WT (va_up T n t) R' (n + 1) := by
  intro k hk j a ha
  by_cases e : k = n
  · subst e
    rw [hn] at ha
    cases ha
  · have hk' : k < n := by omega
    rw [hR k hk'] at ha
    obtain ⟨h1, h2⟩ := hW k hk' j a ha
    rw [va_up_ne _ _ e]
    refine ⟨fun a1 a2 => ?_, fun a1 => ?_⟩
    · obtain ⟨b1, b2⟩ := h1 a1 a2
      exact ⟨by omega, by rw [va_up_ne _ _ (by omega)]; exact b2⟩
    · obtain ⟨b1, b2⟩ := h2 a1
      exact ⟨by omega, by rw [va_up_ne _ _ (by omega)]; exact b2⟩
end
section
variable {sc : SC} {d mc ms mc' ms' : Nat} {md : MD} {pc pc' : Nat} {al st : List AV} {I I' : HI} {L L' : HL} {R R' : HR} {N N' : HN} {n : Nat} {Q : HQ} {t z idx : Nat} {e : EN} {ρ : Nat → Nat} {T : HN} {n0 : Nat} {ρ0 : Nat → Nat} {T0 : HN} {p : Program} {l : Launch} {en : Env} {Rm : Room} {s : State} {m : MethodId} {args : Array Value} {below : List Frame} {meth : Method} {c : Code} {H : Heap} {locs : List Loc} {cells slots : Nat} {ls : Array Slot}
/-- behind an allocation -/
theorem w_born {x : va_E} {q : Nat} {H1 : Heap} {st0 : List AV} (h : CX sc d (mc + mc') (ms + ms') md al st0 I L R N n e ρ T n0 ρ0 T0 p Rm s m args meth c H locs cells slots ls) (hst : ∀ v ∈ st, okv T n v)
    (hx : ce e.2.1 (va_up ρ n q) (va_up T n t) I' L' R' N' n = x) (ho : ∀ k, k < n → I' k = I k ∧ L' k = L k ∧ R' k = R k ∧ N' k = N k) (hn : ∀ j, R' n j = none)
    (hP : va_P e.1 vwCl (wsl e.2.1 ρ T I L R N n ++ [(q, x)]) H1) (hD : va_D (EA e) (wsl e.2.1 ρ T I L R N n ++ [(q, x)])) (hS : va_S (EA e) s.heap H1 locs)
    (K : WP sc d mc ms md pc' al (vR t n :: st) I' L' R' N' (n + 1) Q) :
    W p l en Rm s m args below meth c H1 locs (cells + mc') (slots + ms') (MQ below (QM md e n0 ρ0 T0 Q) args s Rm.cells Rm.slots (EA e)) (F0 m pc' ls (.ref q :: st.map (cv ρ e.2.2.1))) := by
  have h' := h
  obtain ⟨h1, h2, h3, h4, h5, ⟨hK, hP0, hD0, hT0⟩, h7, h8, h9, h10⟩ := h
  have hE : EX n ρ T (n + 1) (va_up ρ n q) (va_up T n t) := ⟨Nat.le_succ n, fun k hk => ⟨va_up_ne _ _ (by omega), va_up_ne _ _ (by omega)⟩⟩
  rw [wsl_push hT0 hx ho] at hP hD
  rw [map_ex e.2.2.1 hE hst]
  have hq : va_up ρ n q n = q := va_up_self ρ n q
  have := K e (va_up ρ n q) (va_up T n t) n0 ρ0 T0 p l en Rm s m args below meth c H1 locs (cells + mc') (slots + ms') ls (h'.back (r := vU) hE ⟨hK, hP, hD, wt_push hT0 (fun k hk => (ho k hk).2.2.1) hn⟩ hS (ok_cons (a := vR t n) ⟨Nat.lt_succ_self n, va_up_self T n t⟩ (fun v hv => ok_ex hE (hst v hv))))
  rw [List.map_cons, show cv (va_up ρ n q) e.2.2.1 (vR t n) = .ref q from congrArg Value.ref hq] at this
  exact this
theorem fv_new {t j k : Nat} (ht : t < 11) (hj : j < nf t) (ρ : Nat → Nat) {I : HI} {L : HL} {R : HR} (hI : I k = fun _ => 0) (hL : L k = fun _ => 0) (hR : R k = fun _ => none) : defaultValue (tyF t j) = fval ρ I L R k j (fk t j) := by
  obtain ⟨h1, h2, h3⟩ := ty_ok t ht j hj
  rcases (show fk t j = 0 ∨ fk t j = 1 ∨ 2 ≤ fk t j by omega) with h0 | h0 | h0
  · rw [h0]; show _ = Value.int _; rw [hI]; rcases h1 h0 with q | q <;> rw [q] <;> rfl
  · rw [h0]; show _ = Value.long _; rw [hL, h2 h0]; rfl
  · rw [fval_2 h0, hR]; rcases h3 h0 with ⟨q, h⟩ | ⟨q, h⟩ <;> rw [h] <;> rfl
theorem w_new (hd : decode md.2.1 pc = .ok (.new idx, 3)) (ht : t < 11) (hw : Cond.classLink md.1.cls idx (cT t).1 ∈ gw) (hin : Cond.instantiable (cT t).1 (cT t).2.2 ∈ gw) (hini : Cond.initialized (cT t).1 ∈ gw)
    (K : WP sc d mc ms md (pc + 3) al (vR t n :: st) (va_up I n (fun _ => 0)) (va_up L n (fun _ => 0)) (va_up R n (fun _ => none)) N (n + 1) Q) : WP sc d (mc + 1) (ms + nf t) md pc al st I L R N n Q := by
  intro e ρ T n0 ρ0 T0 p l en Rm s m args below meth c H locs cells slots ls h
  have h' := h
  obtain ⟨⟨g1, g2, -, -, g5, g6, -⟩, ⟨-, -, r3, r4⟩, -, h4, h5, ⟨hK, hP, hD, hT⟩, hS, -, h9, -⟩ := h
  obtain ⟨c1, c2, c3, c4, c5⟩ := cl_ok t ht
  have hA : ∀ q, s.heap.size ≤ q → EA e q := fun q hq => Nat.le_trans h9 hq
  refine va_new (D := e.1) (ci := t) (fs := (List.range (nf t)).map (fun j => fval ρ (va_up I n (fun _ => 0)) (va_up L n (fun _ => 0)) (va_up R n (fun _ => none)) n j (fk t j))) (C := (cT t).1) (T := (cT t).2.1) (N := (cT t).2.2) g1 g2 g6 c3 (tyF t) c4 g5 (g6 _ hw) (g6 _ hin) (g6 _ hini) hK hP hD hS hA c1 (fun j hj => ?_) (by omega) (by rw [c2]; omega) hd (fun q H1 hP1 hD1 hS1 => ?_)
  · rw [c2] at hj
    rw [fv_new ht hj ρ (va_up_self I n _) (va_up_self L n _) (va_up_self R n _)]
    unfold vp_V
    rw [List.getD_eq_getElem?_getD, List.getElem?_map, List.getElem?_range hj]
    rfl
  · rw [c2]
    refine w_born (t := t) (mc' := 1) (ms' := nf t) h' h5 ?_ (fun k hk => ⟨va_up_ne _ _ (by omega), va_up_ne _ _ (by omega), va_up_ne _ _ (by omega), rfl⟩) (fun j => by rw [va_up_self]) hP1 hD1 hS1 K
    rw [ce_obj (va_up_self T n t) ht]
    congr 2
    apply List.map_congr_left
    intro j hj
    rw [← fv_new ht (List.mem_range.mp hj) ρ (va_up_self I n _) (va_up_self L n _) (va_up_self R n _), ← fv_new ht (List.mem_range.mp hj) (va_up ρ n q) (va_up_self I n _) (va_up_self L n _) (va_up_self R n _)]
theorem w_newarr {x : Int32} (aty : ArrayType) {ty : FieldType} (hty : newarray.typeOf aty = ty) (ht : t = 11 ∨ t = 12 ∨ t = 13) (htt : ∀ cy : Nat → ClassId, (tysOf cy)[t - 11]? = some (cy t, ty)) (hdv : defaultValue ty = .int 0) (hra : ∀ (U : State) (cA : ClassId), va_RA U cA ty → U.vm.findClass ("[" ++ ty.toString) = some cA) (hcb : componentBytes ty ≤ 4) (hd : decode md.2.1 pc = .ok (.newarray aty, 2)) (hw : Cond.arrayClass ty ∈ gw) (hx : x = nI z) (hz : z < 100000)
    (K : WP sc d mc ms md (pc + 2) al (vR t n :: st) (va_up I n (fun _ => 0)) L (va_up R n (fun _ => none)) (va_up N n z) (n + 1) Q) : WP sc d (mc + 1) (ms + z) md pc al (vI x :: st) I L R N n Q := by
  intro e ρ T n0 ρ0 T0 p l en Rm s m args below meth c H locs cells slots ls h
  have h' := h
  obtain ⟨⟨g1, g2, -, -, g5, g6, -⟩, ⟨-, -, r3, r4⟩, -, h4, h5, ⟨hK, hP, hD, hT⟩, hS, -, h9, -⟩ := h
  subst hx
  subst hty
  have hA : ∀ q, s.heap.size ≤ q → EA e q := fun q hq => Nat.le_trans h9 hq
  have hc : (nI z).toNatClampNeg = z := nI_clamp (by omega)
  refine va_newa (atype := aty) (N' := z) (a0 := (z, .inl (fun _ => 0))) g1 g2 (g6 _ hw) rfl hK hP hD hS hA (fun cA => by rw [vp_cell_i, hdv]) (nI_pos (by omega)) hc (Nat.le_trans (Nat.mul_le_mul_left z hcb) (by omega)) (by omega) (by omega) hd (fun q cA H1 hK1 hP1 hD1 hS1 => ?_)
  have e1 := hra s cA (hK1.2 8 _ rfl).2
  have e2 := hra s _ (hK.2 (t - 11) _ (htt e.2.1)).2
  have e3 : cA = e.2.1 t := Option.some.inj (e1.symm.trans e2)
  subst e3
  refine w_born (t := t) (mc' := 1) (ms' := z) h' (ok_tl h5) ?_ (fun k hk => ⟨va_up_ne _ _ (by omega), rfl, va_up_ne _ _ (by omega), va_up_ne _ _ (by omega)⟩) (fun j => by rw [va_up_self]) hP1 hD1 hS1 K
  rw [ce_int (va_up_self T n t) (by omega) (by omega), va_up_self, va_up_self]
theorem w_newI {x : Int32} (hd : decode md.2.1 pc = .ok (.newarray .int, 2)) (hw : Cond.arrayClass .int ∈ gw) (hx : x = nI z) (hz : z < 100000)
    (K : WP sc d mc ms md (pc + 2) al (vR 12 n :: st) (va_up I n (fun _ => 0)) L (va_up R n (fun _ => none)) (va_up N n z) (n + 1) Q) : WP sc d (mc + 1) (ms + z) md pc al (vI x :: st) I L R N n Q :=
  w_newarr .int rfl (Or.inr (Or.inl rfl)) (fun _ => rfl) rfl (fun _ _ h => h) (by decide) hd hw hx hz K
theorem w_newZ {x : Int32} (hd : decode md.2.1 pc = .ok (.newarray .boolean, 2)) (hw : Cond.arrayClass .boolean ∈ gw) (hx : x = nI z) (hz : z < 100000)
    (K : WP sc d mc ms md (pc + 2) al (vR 13 n :: st) (va_up I n (fun _ => 0)) L (va_up R n (fun _ => none)) (va_up N n z) (n + 1) Q) : WP sc d (mc + 1) (ms + z) md pc al (vI x :: st) I L R N n Q :=
  w_newarr .boolean rfl (Or.inr (Or.inr rfl)) (fun _ => rfl) rfl (fun _ _ h => h) (by decide) hd hw hx hz K
theorem w_newC {x : Int32} (hd : decode md.2.1 pc = .ok (.newarray .char, 2)) (hw : Cond.arrayClass .char ∈ gw) (hx : x = nI z) (hz : z < 100000)
    (K : WP sc d mc ms md (pc + 2) al (vR 11 n :: st) (va_up I n (fun _ => 0)) L (va_up R n (fun _ => none)) (va_up N n z) (n + 1) Q) : WP sc d (mc + 1) (ms + z) md pc al (vI x :: st) I L R N n Q :=
  w_newarr .char rfl (Or.inl rfl) (fun _ => rfl) rfl (fun _ _ h => h) (by decide) hd hw hx hz K
theorem w_newO {x : Int32} (ht : 14 ≤ t) (ht2 : t < 18) (hd : decode md.2.1 pc = .ok (.anewarray idx, 3)) (hw : Cond.classLink md.1.cls idx (cT (et t)).1 ∈ gw) (hao : (cT (et t)).1 ∈ [RX3, RX4, RX5, RX7]) (hx : x = nI z) (hz : z < 100000)
    (K : WP sc d mc ms md (pc + 3) al (vR t n :: st) I L (va_up R n (fun _ => none)) (va_up N n z) (n + 1) Q) : WP sc d (mc + 1) (ms + z) md pc al (vI x :: st) I L R N n Q := by
  intro e ρ T n0 ρ0 T0 p l en Rm s m args below meth c H locs cells slots ls h
  have h' := h
  obtain ⟨⟨g1, g2, -, -, g5, g6, -⟩, ⟨-, -, r3, r4⟩, -, h4, h5, ⟨hK, hP, hD, hT⟩, hS, h8, h9, -⟩ := h
  subst hx
  have hA : ∀ q, s.heap.size ≤ q → EA e q := fun q hq => Nat.le_trans h9 hq
  have hc : (nI z).toNatClampNeg = z := nI_clamp (by omega)
  refine va_newq (N' := z) g1 g2 g5 (g6 _ hw) (h8.2.2.2.2.2.2.2.2.2.2.1 _ hao) hK hP hD hS hA (nI_pos (by omega)) hc (by omega) (by omega) (by omega) hd (fun q cA H1 hK1 hP1 hD1 hS1 => ?_)
  obtain ⟨-, -, -, -, -, e1⟩ := (hK1.2 8 _ rfl).2
  obtain ⟨-, -, -, -, -, e2⟩ := (hK.2 (t - 11) _ (ty_ref e.2.1 t ht ht2).1).2
  have e3 : cA = e.2.1 t := Option.some.inj (e1.symm.trans e2)
  subst e3
  refine w_born (t := t) (mc' := 1) (ms' := z) h' (ok_tl h5) ?_ (fun k hk => ⟨rfl, rfl, va_up_ne _ _ (by omega), va_up_ne _ _ (by omega)⟩) (fun j => by rw [va_up_self]) hP1 hD1 hS1 K
  rw [ce_ref (va_up_self T n t) ht, va_up_self, va_up_self]
  rfl
/-- Object.<init> -/
theorem w_objInit {k : Nat} (hd : decode md.2.1 pc = .ok (.invokespecial idx, 3)) (hl : Cond.methodLink md.1.cls idx Lib.objectInit ∈ gw) (hi : Cond.instanceMethod Lib.objectInit ∈ gw) (hc : Cond.code Lib.objectInit ⟨#[0xb1]⟩ 1 none ∈ gw) (hdp : 1 ≤ d) (hroom : (st.map acat).sum ≤ 8)
    (K : WP sc d mc ms md (pc + 3) al st I L R N n Q) : WP sc d mc ms md pc al (vR t k :: st) I L R N n Q := by
  intro e ρ T n0 ρ0 T0 p l en Rm s m args below meth c H locs cells slots ls h
  have h' := h
  obtain ⟨⟨g1, g2, -, g4, g5, g6, -⟩, ⟨r1, r2, -, -⟩, ⟨h3, h3b⟩, h4, h5, -⟩ := h
  have hlr := lv_room (m := m) (pc := pc) (ls := ls) (rest := List.map (cv ρ e.2.2.1) (vR t k :: st)) (st := st.map (cv ρ e.2.2.1)) (by rw [cv_sum]; exact hroom)
  exact W.objInit g1 g2 g5 (g6 _ hl) (g6 _ hi) (g6 _ hc) rfl (h3.1.trans (h3b.trans g4.symm)) rfl hd (Nat.le_trans hdp r1) (by have : 64 ≤ Rm.locals := Nat.le_trans (by omega) r2; omega) (K e ρ T n0 ρ0 T0 p l en Rm s m args below meth c H locs cells slots ls (h'.stack (ok_tl h5)))
theorem w_max {x y : Int32} (hd : decode md.2.1 pc = .ok (.invokestatic idx, 3)) (hl : Cond.methodLink md.1.cls idx Lib.Math.max.name ∈ gw) (hs : Cond.static Lib.Math.max.name ∈ gw) (hi : Cond.initialized "java/lang/Math" ∈ gw) (hc : Cond.code Lib.Math.max.name Lib.Math.max.code 2 (some .int) ∈ gw) (hdp : 1 ≤ d) (hroom : (st.map acat).sum ≤ 8)
    (K : WP sc d mc ms md (pc + 3) al (vI (if x < y then y else x) :: st) I L R N n Q) : WP sc d mc ms md pc al (vI y :: vI x :: st) I L R N n Q := by
  intro e ρ T n0 ρ0 T0 p l en Rm s m args below meth c H locs cells slots ls h
  have h' := h
  obtain ⟨⟨g1, g2, -, g4, g5, g6, -⟩, ⟨r1, r2, r3, r4⟩, ⟨h3, h3b⟩, h4, h5, -⟩ := h
  exact va_mmax g1 g2 (g4.trans (h3b.symm.trans h3.1.symm)) g5 (g6 _ hl) (g6 _ hs) (g6 _ hi) (g6 _ hc) (Nat.le_trans hdp r1) (by rw [cv_sum]; have : 64 ≤ Rm.locals := Nat.le_trans (by omega) r2; omega) (by omega) (by omega) hd (K e ρ T n0 ρ0 T0 p l en Rm s m args below meth c H locs cells slots ls (h'.stack (ok_i (ok_tl (ok_tl h5)))))
theorem w_min {x y : Int32} (hd : decode md.2.1 pc = .ok (.invokestatic idx, 3)) (hl : Cond.methodLink md.1.cls idx Lib.Math.min.name ∈ gw) (hs : Cond.static Lib.Math.min.name ∈ gw) (hi : Cond.initialized "java/lang/Math" ∈ gw) (hc : Cond.code Lib.Math.min.name Lib.Math.min.code 2 (some .int) ∈ gw) (hdp : 1 ≤ d) (hroom : (st.map acat).sum ≤ 8)
    (K : WP sc d mc ms md (pc + 3) al (vI (if y < x then y else x) :: st) I L R N n Q) : WP sc d mc ms md pc al (vI y :: vI x :: st) I L R N n Q := by
  intro e ρ T n0 ρ0 T0 p l en Rm s m args below meth c H locs cells slots ls h
  have h' := h
  obtain ⟨⟨g1, g2, -, g4, g5, g6, -⟩, ⟨r1, r2, r3, r4⟩, ⟨h3, h3b⟩, h4, h5, -⟩ := h
  exact va_mmin g1 g2 (g4.trans (h3b.symm.trans h3.1.symm)) g5 (g6 _ hl) (g6 _ hs) (g6 _ hi) (g6 _ hc) (Nat.le_trans hdp r1) (by rw [cv_sum]; have : 64 ≤ Rm.locals := Nat.le_trans (by omega) r2; omega) (by omega) (by omega) hd (K e ρ T n0 ρ0 T0 p l en Rm s m args below meth c H locs cells slots ls (h'.stack (ok_i (ok_tl (ok_tl h5)))))
theorem w_abs {x : Int32} (hd : decode md.2.1 pc = .ok (.invokestatic idx, 3)) (hl : Cond.methodLink md.1.cls idx Lib.Math.abs.name ∈ gw) (hs : Cond.static Lib.Math.abs.name ∈ gw) (hi : Cond.initialized "java/lang/Math" ∈ gw) (hc : Cond.code Lib.Math.abs.name Lib.Math.abs.code 1 (some .int) ∈ gw) (hdp : 1 ≤ d) (hroom : (st.map acat).sum ≤ 8)
    (K : WP sc d mc ms md (pc + 3) al (vI (if 0 ≤ x then x else 0 - x) :: st) I L R N n Q) : WP sc d mc ms md pc al (vI x :: st) I L R N n Q := by
  intro e ρ T n0 ρ0 T0 p l en Rm s m args below meth c H locs cells slots ls h
  have h' := h
  obtain ⟨⟨g1, g2, -, g4, g5, g6, -⟩, ⟨r1, r2, r3, r4⟩, ⟨h3, h3b⟩, h4, h5, -⟩ := h
  exact va_mabs g1 g2 (g4.trans (h3b.symm.trans h3.1.symm)) g5 (g6 _ hl) (g6 _ hs) (g6 _ hi) (g6 _ hc) (Nat.le_trans hdp r1) (by rw [cv_sum]; have : 64 ≤ Rm.locals := Nat.le_trans (by omega) r2; omega) (by omega) (by omega) hd (K e ρ T n0 ρ0 T0 p l en Rm s m args below meth c H locs cells slots ls (h'.stack (ok_i (ok_tl h5))))
theorem w_acopy {xp xq xc : Int32} {a b u v w : Nat} (hd : decode md.2.1 pc = .ok (.invokestatic idx, 3)) (hl : Cond.methodLink md.1.cls idx arraycopyName ∈ gw) (hnat : Cond.native arraycopyName ∈ gw) (hs : Cond.static arraycopyName ∈ gw) (hi : Cond.initialized "java/lang/System" ∈ gw) (hdp : 1 ≤ d) (hroom : (st.map acat).sum ≤ 8)
    (hp : xp = nI u) (hq : xq = nI v) (hc : xc = nI w) (h1 : u + w ≤ N a) (h2 : v + w ≤ N b) (hNa : N a < 2147483648) (hNb : N b < 2147483648)
    (K : WP sc d mc ms md (pc + 3) al st (va_up I b (va_cpy (I a) (I b) u v w)) L R N n Q) : WP sc d mc ms md pc al (vI xc :: vI xq :: vR 12 b :: vI xp :: vR 12 a :: st) I L R N n Q := by
  intro e ρ T n0 ρ0 T0 p l en Rm s m args below meth c H locs cells slots ls h
  have h' := h
  obtain ⟨⟨g1, g2, -, g4, g5, g6, -⟩, ⟨r1, r2, r3, r4⟩, ⟨h3, h3b⟩, h4, h5, ⟨hK, hP, hD, hT⟩, hS, -⟩ := h
  obtain ⟨hb, hTb⟩ : b < n ∧ T b = 12 := ok_hd (ok_tl (ok_tl h5))
  obtain ⟨ha, hTa⟩ : a < n ∧ T a = 12 := ok_hd (ok_tl (ok_tl (ok_tl (ok_tl h5))))
  have hea := wsl_get (cy := e.2.1) (ρ := ρ) (T := T) (I := I) (L := L) (R := R) (N := N) ha
  rw [ce_int hTa (by decide) (by decide)] at hea
  have heb := wsl_get (cy := e.2.1) (ρ := ρ) (T := T) (I := I) (L := L) (R := R) (N := N) hb
  rw [ce_int hTb (by decide) (by decide)] at heb
  subst hp; subst hq; subst hc
  have cu : (nI u).toNatClampNeg = u := nI_clamp (by omega)
  have cw : (nI w).toNatClampNeg = w := nI_clamp (by omega)
  have cq : (nI v).toNatClampNeg = v := nI_clamp (by omega)
  have hz : nativeFrameWords "java/lang/System" "arraycopy" 5 + 11 ≤ 50 := by decide +kernel
  have h64 : 64 ≤ Rm.locals := Nat.le_trans (by omega) r2
  refine va_copyi (f := I a) (g := I b) (sp := nI u) (dp := nI v) (n := nI w) g1 g2 (g4.trans (h3b.symm.trans h3.1.symm)) g5 (g6 _ hl) (g6 _ hnat) (g6 _ hs) (g6 _ hi) hK hP hD hS a b 1 1 hea heb (ty_at _).2.1 (ty_at _).2.1 rfl (nI_pos (by omega)) (nI_pos (by omega)) (nI_pos (by omega)) (by rw [cu, cw]; exact h1) (by rw [cq, cw]; exact h2) (fun _ _ => rfl) (Nat.le_trans hdp r1) (by rw [cv_sum]; omega) hd (fun H1 locs1 hP1 hD1 hS1 => ?_)
  rw [cu, cw, cq] at hP1 hD1
  have hset : (wsl e.2.1 ρ T I L R N n).set b (ρ b, .inl (e.2.1 12, N b, .inl (va_cpy (I a) (I b) u v w))) = wsl e.2.1 ρ T (va_up I b (va_cpy (I a) (I b) u v w)) L R N n := by
    refine wsl_upd hb ?_ (fun w hw hwk => ?_)
    · rw [ce_int hTb (by decide) (by decide), va_up_self]
    · unfold ce fval
      rw [va_up_ne _ _ hwk]
  rw [hset] at hP1 hD1
  exact K e ρ T n0 ρ0 T0 p l en Rm s m args below meth c H1 locs1 cells slots ls (h'.heap ⟨hK, hP1, hD1, hT⟩ hS1 (ok_tl (ok_tl (ok_tl (ok_tl (ok_tl h5))))))
end
