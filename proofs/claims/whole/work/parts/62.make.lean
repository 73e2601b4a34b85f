/-! Making, with names for the heap behind it; rows of rows. -/
section
variable {sc : SC} {d mc ms mc' ms' : Nat} {md : MD} {pc : Nat} {al st : List AV} {I : HI} {L : HL} {R : HR} {N : HN} {n : Nat} {Q : HQ} {t z idx : Nat}
theorem WP.room (h : WP sc d mc ms md pc al st I L R N n Q) (h1 : mc ≤ mc') (h2 : ms ≤ ms') : WP sc d mc' ms' md pc al st I L R N n Q := by
  intro e ρ T n0 ρ0 T0 p l en Rm s m args below meth c H locs cells slots ls hx
  obtain ⟨g1, ⟨r1, r2, r3, r4⟩, g3⟩ := hx
  exact h e ρ T n0 ρ0 T0 p l en Rm s m args below meth c H locs cells slots ls ⟨g1, ⟨r1, r2, by omega, by omega⟩, g3⟩
theorem k_new (hd : decode md.2.1 pc = .ok (.new idx, 3)) (ht : t < 11) (hw : Cond.classLink md.1.cls idx (cT t).1 ∈ gw) (hin : Cond.instantiable (cT t).1 (cT t).2.2 ∈ gw) (hini : Cond.initialized (cT t).1 ∈ gw) (hz : nf t = z) (h1 : mc + 1 ≤ mc') (h2 : ms + z ≤ ms')
    (K : ∀ (I' : HI) (L' : HL) (R' : HR), (∀ q, q ≠ n → I' q = I q) → (∀ j, I' n j = 0) → (∀ q, q ≠ n → R' q = R q) → WP sc d mc ms md (pc + 3) al (vR t n :: st) I' L' R' N (n + 1) Q) : WP sc d mc' ms' md pc al st I L R N n Q :=
  (w_new hd ht hw hin hini (K _ _ _ (fun _ h => va_up_ne _ _ h) (fun _ => by rw [va_up_self]) (fun _ h => va_up_ne _ _ h))).room h1 (by rw [hz]; exact h2)
theorem k_newI {x : Int32} (hd : decode md.2.1 pc = .ok (.newarray .int, 2)) (hw : Cond.arrayClass .int ∈ gw) (hx : x = nI z) (hz : z < 100000) (h1 : mc + 1 ≤ mc') (h2 : ms + z ≤ ms')
    (K : ∀ (I' : HI) (R' : HR) (N' : HN), (∀ q, q ≠ n → I' q = I q) → (∀ j, I' n j = 0) → (∀ q, q ≠ n → R' q = R q) → (∀ q, q ≠ n → N' q = N q) → N' n = z → WP sc d mc ms md (pc + 2) al (vR 12 n :: st) I' L R' N' (n + 1) Q) : WP sc d mc' ms' md pc al (vI x :: st) I L R N n Q :=
  (w_newI hd hw hx hz (K _ _ _ (fun _ h => va_up_ne _ _ h) (fun _ => by rw [va_up_self]) (fun _ h => va_up_ne _ _ h) (fun _ h => va_up_ne _ _ h) (va_up_self _ _ _))).room h1 h2
theorem k_newZ {x : Int32} (hd : decode md.2.1 pc = .ok (.newarray .boolean, 2)) (hw : Cond.arrayClass .boolean ∈ gw) (hx : x = nI z) (hz : z < 100000) (h1 : mc + 1 ≤ mc') (h2 : ms + z ≤ ms')
    (K : ∀ (I' : HI) (R' : HR) (N' : HN), (∀ q, q ≠ n → I' q = I q) → (∀ j, I' n j = 0) → (∀ q, q ≠ n → R' q = R q) → (∀ q, q ≠ n → N' q = N q) → N' n = z → WP sc d mc ms md (pc + 2) al (vR 13 n :: st) I' L R' N' (n + 1) Q) : WP sc d mc' ms' md pc al (vI x :: st) I L R N n Q :=
  (w_newZ hd hw hx hz (K _ _ _ (fun _ h => va_up_ne _ _ h) (fun _ => by rw [va_up_self]) (fun _ h => va_up_ne _ _ h) (fun _ h => va_up_ne _ _ h) (va_up_self _ _ _))).room h1 h2
theorem k_newC {x : Int32} (hd : decode md.2.1 pc = .ok (.newarray .char, 2)) (hw : Cond.arrayClass .char ∈ gw) (hx : x = nI z) (hz : z < 100000) (h1 : mc + 1 ≤ mc') (h2 : ms + z ≤ ms')
    (K : ∀ (I' : HI) (R' : HR) (N' : HN), (∀ q, q ≠ n → I' q = I q) → (∀ j, I' n j = 0) → (∀ q, q ≠ n → R' q = R q) → (∀ q, q ≠ n → N' q = N q) → N' n = z → WP sc d mc ms md (pc + 2) al (vR 11 n :: st) I' L R' N' (n + 1) Q) : WP sc d mc' ms' md pc al (vI x :: st) I L R N n Q :=
  (w_newC hd hw hx hz (K _ _ _ (fun _ h => va_up_ne _ _ h) (fun _ => by rw [va_up_self]) (fun _ h => va_up_ne _ _ h) (fun _ h => va_up_ne _ _ h) (va_up_self _ _ _))).room h1 h2
theorem k_newO {x : Int32} (ht : 14 ≤ t) (ht2 : t < 18) (hd : decode md.2.1 pc = .ok (.anewarray idx, 3)) (hw : Cond.classLink md.1.cls idx (cT (et t)).1 ∈ gw) (hao : (cT (et t)).1 ∈ [RX3, RX4, RX5, RX7]) (hx : x = nI z) (hz : z < 100000) (h1 : mc + 1 ≤ mc') (h2 : ms + z ≤ ms')
    (K : ∀ (R' : HR) (N' : HN), (∀ q, q ≠ n → R' q = R q) → (∀ q, q ≠ n → N' q = N q) → N' n = z → WP sc d mc ms md (pc + 3) al (vR t n :: st) I L R' N' (n + 1) Q) : WP sc d mc' ms' md pc al (vI x :: st) I L R N n Q :=
  (w_newO ht ht2 hd hw hao hx hz (K _ _ (fun _ h => va_up_ne _ _ h) (fun _ h => va_up_ne _ _ h) (va_up_self _ _ _))).room h1 h2
theorem k_putR {j k t2 a : Nat} (hd : decode md.2.1 pc = .ok (.putfield idx, 3)) (hf : FL md.1.cls idx t j) (hk : fk t j = t2 + 2) (hfin : ((cT t).2.1 j).2.2.2 = true) (hnm : md.1.name = "<init>") (hcl : (cT t).1 = md.1.cls)
    (K : ∀ R' : HR, (∀ q, q ≠ k → R' q = R q) → (∀ i, i ≠ j → R' k i = R k i) → R' k j = some a → WP sc d mc ms md (pc + 3) al st I L R' N n Q) : WP sc d mc ms md pc al (vR t2 a :: vR t k :: st) I L R N n Q :=
  w_putR hd hf hk hfin hnm hcl (K _ (fun _ h => va_up_ne _ _ h) (fun _ h => by rw [va_up_self, va_up_ne _ _ h]) (by rw [va_up_self, va_up_self]))
theorem k_aast {i : Int32} {k q a : Nat} (hd : decode md.2.1 pc = .ok (.aastore, 1)) (ht : 14 ≤ t) (ht2 : t < 18) (hi : i = nI q) (hN : N k = z) (hq : q < z) (hz : z < 2147483648)
    (K : ∀ R' : HR, (∀ p, p ≠ k → R' p = R p) → (∀ j, j ≠ q → R' k j = R k j) → R' k q = some a → WP sc d mc ms md (pc + 1) al st I L R' N n Q) : WP sc d mc ms md pc al (vR (et t) a :: vI i :: vR t k :: st) I L R N n Q :=
  w_aast (t := t) (r := some a) hd ht ht2 hi hN hq (K _ (fun _ h => va_up_ne _ _ h) (fun _ h => by rw [va_up_self, va_up_ne _ _ h]) (by rw [va_up_self, va_up_self])) hz
theorem k_I {d' mc2 ms2 na : Nat} {md' : MD} {as rest : List AV} {k : Nat} (hd : decode md.2.1 pc = .ok (.invokespecial idx, 3)) (hl : ML md.1.cls idx md'.1) (ho : MO md' na) (hv : Cond.instanceMethod md'.1 ∈ gw) (hnm : md'.1.name = "<init>") (hr : md'.2.2.2 = none) (hst : st = as.reverse ++ vR t k :: rest) (hna : as.length = na) (hlen : Nat.ble (spr (vR t k :: as)).length md'.2.2.1 = true) (hroom : Nat.ble (rest.map acat).sum 8 = true) (hdp : d' + 1 ≤ d) (h1 : mc + mc2 ≤ mc') (h2 : ms + ms2 ≤ ms')
    (K : CA sc d' mc2 ms2 md' (vR t k :: as) I L R N n (fun _ I L R N n => WP sc d mc ms md (pc + 3) al rest I L R N n Q)) : WP sc d mc' ms' md pc al st I L R N n Q :=
  (c_I hd hl ho hv hnm hr hst hna hlen hroom hdp K).room h1 h2
end
theorem arr_over (args : Array Value) (U : State) (h : va_AI U) : (Cond.arrayOver (.array .int)).before args U = true := h
section
variable {sc : SC} {d mc ms mc' ms' : Nat} {md : MD} {pc : Nat} {al st : List AV} {I : HI} {L : HL} {R : HR} {N : HN} {n : Nat} {Q : HQ} {idx k1 k2 : Nat}
theorem w_mna {x y : Int32} (hd : decode md.2.1 pc = .ok (.multianewarray idx 2, 4)) (hw : Cond.classLink md.1.cls idx "[[I" ∈ gw) (hx : x = nI k1) (hy : y = nI k2) (b1 : k1 < 1000) (b2 : k2 < 1000)
    (K : ∀ (I' : HI) (R' : HR) (N' : HN), (∀ q, q < n → I' q = I q ∧ R' q = R q ∧ N' q = N q) → (∀ j, j < k1 → R' n j = some (n + 1 + j)) → N' n = k1 → (∀ j, j < k1 → (∀ i, I' (n + 1 + j) i = 0) ∧ N' (n + 1 + j) = k2) → WP sc d mc ms md (pc + 4) al (vR 18 n :: st) I' L R' N' (n + 1 + k1) Q) : WP sc d (mc + (1 + k1)) (ms + (k1 + k1 * k2)) md pc al (vI y :: vI x :: st) I L R N n Q := by
  intro e ρ T n0 ρ0 T0 p l en Rm s m args below meth c H locs cells slots ls h
  have h' := h
  obtain ⟨⟨g1, g2, -, -, g5, g6, -⟩, ⟨-, -, r3, r4⟩, -, h4, h5, ⟨hK, hP, hD, hT⟩, hS, h8, h9, -⟩ := h
  subst hx
  subst hy
  refine mn_W (N := k1) (M := k2) g1 g2 g5 (g6 _ hw) (arr_over args s h8.2.2.2.2.2.2.2.2.2.2.2) (g6 _ ac_int) (nI_pos (by omega)) (nI_pos (by omega)) (nI_clamp (by omega)) (nI_clamp (by omega)) b1 b2 (by omega) (by omega) hd (fun cA cI H1 hcA hcI hsz hold hout hin => ?_)
  have eA : cA = e.2.1 18 := Option.some.inj (hcA.symm.trans (hK.2 7 _ rfl).2)
  have eI : cI = e.2.1 12 := Option.some.inj (hcI.symm.trans (hK.2 1 _ rfl).2)
  subst eA
  subst eI
  have hlt : ∀ k, k < n → ρ k < H.size := fun k hk => (hP k _ (wsl_get hk)).lt
  let ρ' : Nat → Nat := fun k => if k < n then ρ k else H.size + (k - n)
  let T' : HN := fun k => if k < n then T k else if k = n then 18 else 12
  let I' : HI := fun k => if k < n then I k else fun _ => 0
  let R' : HR := fun k => if k < n then R k else if k = n then fun i => if i < k1 then some (n + 1 + i) else none else fun _ => none
  let N' : HN := fun k => if k < n then N k else if k = n then k1 else k2
  have eρ : ∀ k, k < n → ρ' k = ρ k := fun k hk => if_pos hk
  have eT : ∀ k, k < n → T' k = T k := fun k hk => if_pos hk
  have eI1 : ∀ k, k < n → I' k = I k := fun k hk => if_pos hk
  have eR : ∀ k, k < n → R' k = R k := fun k hk => if_pos hk
  have eN : ∀ k, k < n → N' k = N k := fun k hk => if_pos hk
  have hnn : ¬ n < n := Nat.lt_irrefl n
  have qρ : ∀ j, ρ' (n + j) = H.size + j := fun j => by
    show (if n + j < n then ρ (n + j) else H.size + (n + j - n)) = _
    rw [if_neg (by omega)]; congr 1; omega
  have qT0 : T' n = 18 := by show (if n < n then T n else if n = n then 18 else 12) = 18; rw [if_neg hnn, if_pos rfl]
  have qT : ∀ k, n < k → T' k = 12 := fun k hk => by show (if k < n then T k else if k = n then 18 else 12) = 12; rw [if_neg (by omega), if_neg (by omega)]
  have qR0 : R' n = fun i => if i < k1 then some (n + 1 + i) else none := by show (if n < n then R n else if n = n then _ else _) = _; rw [if_neg hnn, if_pos rfl]
  have qR : ∀ k, n < k → R' k = fun _ => none := fun k hk => by show (if k < n then R k else if k = n then _ else _) = _; rw [if_neg (by omega), if_neg (by omega)]
  have qN0 : N' n = k1 := by show (if n < n then N n else if n = n then k1 else k2) = k1; rw [if_neg hnn, if_pos rfl]
  have qN : ∀ k, n < k → N' k = k2 := fun k hk => by show (if k < n then N k else if k = n then k1 else k2) = k2; rw [if_neg (by omega), if_neg (by omega)]
  have qI : ∀ k, n < k → I' k = fun _ => 0 := fun k hk => by show (if k < n then I k else fun _ => 0) = _; rw [if_neg (by omega)]
  have hE : EX n ρ T (n + 1 + k1) ρ' T' := ⟨by omega, fun k hk => ⟨eρ k hk, eT k hk⟩⟩
  have hP1 : va_P e.1 vwCl (wsl e.2.1 ρ' T' I' L R' N' (n + 1 + k1)) H1 := by
    intro k q hq
    by_cases hk : k < n + 1 + k1
    · rw [wsl_get hk] at hq
      cases hq
      by_cases hkn : k < n
      · rw [ce_ext hT hkn eρ (eT k hkn) (eI1 k hkn) rfl (eR k hkn) (eN k hkn), eρ k hkn]
        exact (hP k _ (wsl_get hkn)).kept (hold _ (hlt k hkn))
      · by_cases hk0 : k = n
        · subst hk0
          rw [ce_ref qT0 (by decide), qN0]
          show H1[ρ' k]? = some (vp_cell (e.2.1 18) (k1, .inr (.inr (.inr (.inr (fun i => (R' k i).map ρ'))))))
          have e0 : ρ' k = H.size := qρ 0
          rw [e0, hout]
          have ef : (fun i => if i < k1 then some (H.size + 1 + i) else none) = fun i => (R' k i).map ρ' := by
            funext i
            rw [qR0]
            show _ = (if i < k1 then some (k + 1 + i) else none).map ρ'
            by_cases hi : i < k1
            · rw [if_pos hi, if_pos hi]
              show _ = some (ρ' (k + 1 + i))
              rw [Nat.add_assoc k 1 i, qρ (1 + i), Nat.add_assoc]
            · rw [if_neg hi, if_neg hi]; rfl
          rw [ef]
        · rw [ce_int (qT k (by omega)) (by decide) (by decide), qN k (by omega), qI k (by omega)]
          show H1[ρ' k]? = some (vp_cell (e.2.1 12) (k2, .inl (fun _ => 0)))
          have e0 : ρ' k = H.size + 1 + (k - n - 1) := by
            have := qρ (k - n)
            rw [show n + (k - n) = k by omega] at this
            rw [this]; omega
          rw [e0]
          exact hin _ (by omega)
    · rw [wsl_none (by omega)] at hq
      cases hq
  have hD1 : va_D (EA e) (wsl e.2.1 ρ' T' I' L R' N' (n + 1 + k1)) := by
    have hpl : ∀ (k : Nat) (q : Nat × va_E), (wsl e.2.1 ρ' T' I' L R' N' (n + 1 + k1))[k]? = some q → k < n + 1 + k1 ∧ q.1 = ρ' k := fun k q hq => by
      by_cases hk : k < n + 1 + k1
      · rw [wsl_get hk] at hq; cases hq; exact ⟨hk, rfl⟩
      · rw [wsl_none (by omega)] at hq; cases hq
    have hq2 : ∀ k, n ≤ k → ρ' k = H.size + (k - n) := fun k hk => by
      have := qρ (k - n)
      rw [show n + (k - n) = k by omega] at this
      exact this
    refine ⟨fun i j pi pj hi hj he => ?_, fun k q hq => ?_⟩
    · obtain ⟨a1, a2⟩ := hpl i pi hi
      obtain ⟨c1, c2⟩ := hpl j pj hj
      rw [a2, c2] at he
      by_cases x1 : i < n
      · by_cases x2 : j < n
        · rw [eρ i x1, eρ j x2] at he
          exact hD.1 i j _ _ (wsl_get x1) (wsl_get x2) he
        · rw [eρ i x1, hq2 j (by omega)] at he
          have := hlt i x1
          omega
      · by_cases x2 : j < n
        · rw [eρ j x2, hq2 i (by omega)] at he
          have := hlt j x2
          omega
        · rw [hq2 i (by omega), hq2 j (by omega)] at he
          omega
    · obtain ⟨a1, a2⟩ := hpl k q hq
      rw [a2]
      by_cases x1 : k < n
      · rw [eρ k x1]; exact hD.2 k _ (wsl_get x1)
      · rw [hq2 k (by omega)]
        show e.2.2.2 ≤ _
        have := hS.1
        omega
  have hS1 : va_S (EA e) s.heap H1 locs := ⟨by have := hS.1; omega, fun q a1 a2 => (hold q (Nat.lt_of_lt_of_le a1 hS.1)).trans (hS.2.1 q a1 a2), hS.2.2⟩
  have hT1 : WT T' R' (n + 1 + k1) := by
    intro k hk j a ha
    by_cases hkn : k < n
    · rw [eR k hkn] at ha
      obtain ⟨a1, a2⟩ := hT k hkn j a ha
      rw [eT k hkn]
      refine ⟨fun x1 x2 => ?_, fun x1 => ?_⟩
      · obtain ⟨c1, c2⟩ := a1 x1 x2
        exact ⟨by omega, by rw [eT a c1]; exact c2⟩
      · obtain ⟨c1, c2⟩ := a2 x1
        exact ⟨by omega, by rw [eT a c1]; exact c2⟩
    · by_cases hk0 : k = n
      · subst hk0
        rw [qR0] at ha
        rw [qT0]
        have ha : (if j < k1 then some (k + 1 + j) else none) = some a := ha
        by_cases hj : j < k1
        · rw [if_pos hj] at ha
          cases ha
          exact ⟨fun x1 => absurd x1 (by decide), fun _ => ⟨by omega, qT _ (by omega)⟩⟩
        · rw [if_neg hj] at ha; cases ha
      · rw [qR k (by omega)] at ha
        cases ha
  have hst : ∀ v ∈ st, okv T n v := ok_tl (ok_tl h5)
  have := K I' R' N' (fun q hq => ⟨eI1 q hq, eR q hq, eN q hq⟩) (fun j hj => by rw [qR0]; exact if_pos hj) qN0 (fun j hj => ⟨fun i => by rw [qI _ (by omega)], qN _ (by omega)⟩) e ρ' T' n0 ρ0 T0 p l en Rm s m args below meth c H1 locs (cells + (1 + k1)) (slots + (k1 + k1 * k2)) ls (h'.back (r := vU) hE ⟨hK, hP1, hD1, hT1⟩ hS1 (ok_cons (a := vR 18 n) ⟨by show n < n + 1 + k1; omega, qT0⟩ (fun v hv => ok_ex hE (hst v hv))))
  rw [List.map_cons, show cv ρ' e.2.2.1 (vR 18 n) = .ref H.size from congrArg Value.ref (qρ 0), ← map_ex e.2.2.1 hE hst, ← Nat.add_assoc, ← Nat.add_assoc] at this
  exact this
theorem k_mna {x y : Int32} (hd : decode md.2.1 pc = .ok (.multianewarray idx 2, 4)) (hw : Cond.classLink md.1.cls idx "[[I" ∈ gw) (hx : x = nI k1) (hy : y = nI k2) (b1 : k1 < 1000) (b2 : k2 < 1000) (h1 : mc + (1 + k1) ≤ mc') (h2 : ms + (k1 + k1 * k2) ≤ ms')
    (K : ∀ (I' : HI) (R' : HR) (N' : HN), (∀ q, q < n → I' q = I q ∧ R' q = R q ∧ N' q = N q) → (∀ j, j < k1 → R' n j = some (n + 1 + j)) → N' n = k1 → (∀ j, j < k1 → (∀ i, I' (n + 1 + j) i = 0) ∧ N' (n + 1 + j) = k2) → WP sc d mc ms md (pc + 4) al (vR 18 n :: st) I' L R' N' (n + 1 + k1) Q) : WP sc d mc' ms' md pc al (vI y :: vI x :: st) I L R N n Q :=
  (w_mna hd hw hx hy b1 b2 K).room h1 h2
end
