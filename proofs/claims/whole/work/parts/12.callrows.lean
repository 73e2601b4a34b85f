/-! The rows of calls. -/
section
variable {sc : SC} {d d' mc ms mc' ms' : Nat} {md md' : MD} {pc : Nat} {al rest as : List AV} {I : HI} {L : HL} {R : HR} {N : HN} {n : Nat} {Q : HQ} {idx na t k : Nat} {ty : FieldType}
/-- invokevirtual, with an answer -/
theorem w_callV {st : List AV} (hd : decode md.2.1 pc = .ok (.invokevirtual idx, 3)) (hl : Cond.methodLink md.1.cls idx md'.1 ∈ gw) (ho : MO md' na) (hv : MV md') (ht : t < 11) (hc : (cT t).1 = md'.1.cls) (hr : md'.2.2.2 = some ty) (hst : st = as.reverse ++ vR t k :: rest) (hna : as.length = na) (hlen : (spr (vR t k :: as)).length ≤ md'.2.2.1) (hroom : (rest.map acat).sum ≤ 8) (hdp : d' + 1 ≤ d)
    (K : WP sc d' mc' ms' md' 0 (ent (vR t k :: as) md'.2.2.1) [] I L R N n (fun r I L R N n => WP sc d mc ms md (pc + 3) al (r :: rest) I L R N n Q)) : WP sc d (mc + mc') (ms + ms') md pc al st I L R N n Q := by
  intro e ρ T n0 ρ0 T0 p l en Rm s m args below meth c H locs cells slots ls h
  subst hst
  have h' := h
  obtain ⟨⟨g1, g2, g3, g4, g5, g6, g7, g9⟩, ⟨r1, r2, r3, r4⟩, ⟨h3, h3b⟩, h4, h5, ⟨hK, hP, hD, hT⟩, hS, h8, h9, h10⟩ := h
  have hrest : ∀ v ∈ rest, okv T n v := fun v hv => h5 v (List.mem_append_right _ (List.mem_cons_of_mem _ hv))
  have hok : ∀ v ∈ vR t k :: as, okv T n v := fun v hv => (List.mem_cons.mp hv).elim (fun q => h5 v (List.mem_append_right _ (q ▸ List.mem_cons_self))) (fun q => h5 v (List.mem_append_left _ (List.mem_reverse.mpr q)))
  obtain ⟨hk, hTk⟩ : k < n ∧ T k = t := ok_hd hok
  have he := wsl_get (cy := e.2.1) (ρ := ρ) (T := T) (I := I) (L := L) (R := R) (N := N) hk
  rw [ce_obj hTk ht] at he
  have hM := K.met ho.2.2.2.1 hlen l e ρ T hok
  have cw : CallW Rm s args md.1.cls md'.1.cls idx md'.1 md'.2.1 md'.2.2.1 md'.2.2.2 (Cond.code md'.1 md'.2.1 md'.2.2.1 md'.2.2.2 :: gw) (rmo d' mc' ms') mc' ms' na :=
    ⟨callB_of na g6 (good_tbl ho) rfl rfl rfl (g6 _ ho.2.1) (g6 _ hl) ho.2.2.1 ⟨Nat.le_trans hdp r1, by have := ho.2.2.2.2; show 8 + (md'.2.2.1 + 11) + 64 * d' ≤ Rm.locals; omega⟩, g6 _ hv.1, g6 _ hv.2⟩
  have hpre := pre_call h' ((vR t k :: as).map (cv ρ e.2.2.1))
  refine w_cont (rest := rest) (Z := fun _ => True) (md' := md') ⟨ty, hr⟩ h' hrest (va_runV (As := as.map (cv ρ e.2.2.1)) (b := ρ k) ⟨g1, g2, g4, g5, g6⟩ hM cw ⟨hpre.1, ?_, hpre.2⟩ rfl (by rw [List.length_map]; exact hna) (h3.1.trans h3b) ?_ ?_ hd ⟨by omega, by omega⟩)
  · have := va_recv hK hP (cl_ok t ht).1 he
    rw [hc] at this
    exact this
  · show List.map (cv ρ e.2.2.1) (as.reverse ++ vR t k :: rest) = _
    rw [List.map_append, List.map_reverse]
    rfl
  · exact lv_room (by rw [cv_sum]; exact hroom)
theorem w_callVv {st : List AV} (hd : decode md.2.1 pc = .ok (.invokevirtual idx, 3)) (hl : Cond.methodLink md.1.cls idx md'.1 ∈ gw) (ho : MO md' na) (hv : MV md') (ht : t < 11) (hc : (cT t).1 = md'.1.cls) (hr : md'.2.2.2 = none) (hst : st = as.reverse ++ vR t k :: rest) (hna : as.length = na) (hlen : (spr (vR t k :: as)).length ≤ md'.2.2.1) (hroom : (rest.map acat).sum ≤ 8) (hdp : d' + 1 ≤ d)
    (K : WP sc d' mc' ms' md' 0 (ent (vR t k :: as) md'.2.2.1) [] I L R N n (fun _ I L R N n => WP sc d mc ms md (pc + 3) al rest I L R N n Q)) : WP sc d (mc + mc') (ms + ms') md pc al st I L R N n Q := by
  intro e ρ T n0 ρ0 T0 p l en Rm s m args below meth c H locs cells slots ls h
  subst hst
  have h' := h
  obtain ⟨⟨g1, g2, g3, g4, g5, g6, g7, g9⟩, ⟨r1, r2, r3, r4⟩, ⟨h3, h3b⟩, h4, h5, ⟨hK, hP, hD, hT⟩, hS, h8, h9, h10⟩ := h
  have hrest : ∀ v ∈ rest, okv T n v := fun v hv => h5 v (List.mem_append_right _ (List.mem_cons_of_mem _ hv))
  have hok : ∀ v ∈ vR t k :: as, okv T n v := fun v hv => (List.mem_cons.mp hv).elim (fun q => h5 v (List.mem_append_right _ (q ▸ List.mem_cons_self))) (fun q => h5 v (List.mem_append_left _ (List.mem_reverse.mpr q)))
  obtain ⟨hk, hTk⟩ : k < n ∧ T k = t := ok_hd hok
  have he := wsl_get (cy := e.2.1) (ρ := ρ) (T := T) (I := I) (L := L) (R := R) (N := N) hk
  rw [ce_obj hTk ht] at he
  have hM := K.met ho.2.2.2.1 hlen l e ρ T hok
  have cw : CallW Rm s args md.1.cls md'.1.cls idx md'.1 md'.2.1 md'.2.2.1 md'.2.2.2 (Cond.code md'.1 md'.2.1 md'.2.2.1 md'.2.2.2 :: gw) (rmo d' mc' ms') mc' ms' na :=
    ⟨callB_of na g6 (good_tbl ho) rfl rfl rfl (g6 _ ho.2.1) (g6 _ hl) ho.2.2.1 ⟨Nat.le_trans hdp r1, by have := ho.2.2.2.2; show 8 + (md'.2.2.1 + 11) + 64 * d' ≤ Rm.locals; omega⟩, g6 _ hv.1, g6 _ hv.2⟩
  have hpre := pre_call h' ((vR t k :: as).map (cv ρ e.2.2.1))
  refine w_contV (rest := rest) (Z := fun _ => True) (md' := md') hr h' hrest (va_runV (As := as.map (cv ρ e.2.2.1)) (b := ρ k) ⟨g1, g2, g4, g5, g6⟩ hM cw ⟨hpre.1, ?_, hpre.2⟩ rfl (by rw [List.length_map]; exact hna) (h3.1.trans h3b) ?_ ?_ hd ⟨by omega, by omega⟩)
  · have := va_recv hK hP (cl_ok t ht).1 he
    rw [hc] at this
    exact this
  · show List.map (cv ρ e.2.2.1) (as.reverse ++ vR t k :: rest) = _
    rw [List.map_append, List.map_reverse]
    rfl
  · exact lv_room (by rw [cv_sum]; exact hroom)
/-- a method of a constant text -/
theorem w_callT {st : List AV} {j : Nat} (hd : decode md.2.1 pc = .ok (.invokevirtual idx, 3)) (hl : Cond.methodLink md.1.cls idx md'.1 ∈ gw) (ho : MO md' na) (hv : MV md') (hj : j < 6) (hc : md'.1.cls = "java/lang/String") (hr : md'.2.2.2 = some ty) (hst : st = as.reverse ++ vS (5 + j) :: rest) (hna : as.length = na) (hlen : (spr (vS (5 + j) :: as)).length ≤ md'.2.2.1) (hroom : (rest.map acat).sum ≤ 8) (hdp : d' + 1 ≤ d)
    (K : WP sc d' mc' ms' md' 0 (ent (vS (5 + j) :: as) md'.2.2.1) [] I L R N n (fun r I L R N n => WP sc d mc ms md (pc + 3) al (r :: rest) I L R N n Q)) : WP sc d (mc + mc') (ms + ms') md pc al st I L R N n Q := by
  intro e ρ T n0 ρ0 T0 p l en Rm s m args below meth c H locs cells slots ls h
  subst hst
  have h' := h
  obtain ⟨⟨g1, g2, g3, g4, g5, g6, g7, g9⟩, ⟨r1, r2, r3, r4⟩, ⟨h3, h3b⟩, h4, h5, ⟨hK, hP, hD, hT⟩, hS, h8, h9, h10⟩ := h
  have hrest : ∀ v ∈ rest, okv T n v := fun v hv => h5 v (List.mem_append_right _ (List.mem_cons_of_mem _ hv))
  have hok : ∀ v ∈ vS (5 + j) :: as, okv T n v := fun v hv => (List.mem_cons.mp hv).elim (fun q => h5 v (List.mem_append_right _ (q ▸ List.mem_cons_self))) (fun q => h5 v (List.mem_append_left _ (List.mem_reverse.mpr q)))
  have hM := K.met ho.2.2.2.1 hlen l e ρ T hok
  have cw : CallW Rm s args md.1.cls md'.1.cls idx md'.1 md'.2.1 md'.2.2.1 md'.2.2.2 (Cond.code md'.1 md'.2.1 md'.2.2.1 md'.2.2.2 :: gw) (rmo d' mc' ms') mc' ms' na :=
    ⟨callB_of na g6 (good_tbl ho) rfl rfl rfl (g6 _ ho.2.1) (g6 _ hl) ho.2.2.1 ⟨Nat.le_trans hdp r1, by have := ho.2.2.2.2; show 8 + (md'.2.2.1 + 11) + 64 * d' ≤ Rm.locals; omega⟩, g6 _ hv.1, g6 _ hv.2⟩
  have hpre := pre_call h' ((vS (5 + j) :: as).map (cv ρ e.2.2.1))
  refine w_cont (rest := rest) (Z := fun _ => True) (md' := md') ⟨ty, hr⟩ h' hrest (va_runV (As := as.map (cv ρ e.2.2.1)) (b := e.2.2.1 (5 + j)) ⟨g1, g2, g4, g5, g6⟩ hM cw ⟨hpre.1, ?_, hpre.2⟩ rfl (by rw [List.length_map]; exact hna) (h3.1.trans h3b) ?_ ?_ hd ⟨by omega, by omega⟩)
  · rw [hc]
    exact vk_recv (N := 6) (len := stN) (byt := stB) (adK := fun i => e.2.2.1 (5 + i)) (adV := fun i => e.2.2.1 (11 + i)) (i := j) h8.2.2.2.2.2.2.2.1 hj hS
  · show List.map (cv ρ e.2.2.1) (as.reverse ++ vS (5 + j) :: rest) = _
    rw [List.map_append, List.map_reverse]
    rfl
  · exact lv_room (by rw [cv_sum]; exact hroom)
/-- invokestatic -/
theorem w_callS {st : List AV} (hd : decode md.2.1 pc = .ok (.invokestatic idx, 3)) (hl : ML md.1.cls idx md'.1) (ho : MO md' na) (hv : Cond.static md'.1 ∈ gw) (hr : md'.2.2.2 = some ty) (hst : st = as.reverse ++ rest) (hna : as.length = na) (hlen : (spr as).length ≤ md'.2.2.1) (hroom : (rest.map acat).sum ≤ 8) (hdp : d' + 1 ≤ d)
    (K : WP sc d' mc' ms' md' 0 (ent as md'.2.2.1) [] I L R N n (fun r I L R N n => WP sc d mc ms md (pc + 3) al (r :: rest) I L R N n Q)) : WP sc d (mc + mc') (ms + ms') md pc al st I L R N n Q := by
  intro e ρ T n0 ρ0 T0 p l en Rm s m args below meth c H locs cells slots ls h
  subst hst
  have h' := h
  obtain ⟨⟨g1, g2, g3, g4, g5, g6, g7, g9⟩, ⟨r1, r2, r3, r4⟩, ⟨h3, h3b⟩, h4, h5, ⟨hK, hP, hD, hT⟩, hS, h8, h9, h10⟩ := h
  have hrest : ∀ v ∈ rest, okv T n v := fun v hv => h5 v (List.mem_append_right _ hv)
  have hok : ∀ v ∈ as, okv T n v := fun v hv => h5 v (List.mem_append_left _ (List.mem_reverse.mpr hv))
  have hM := K.met ho.2.2.2.1 hlen l e ρ T hok
  have hpre := pre_call h' (as.map (cv ρ e.2.2.1))
  have hroom' : (rmo d' mc' ms').frames + 1 ≤ Rm.frames ∧ 8 + (md'.2.2.1 + 11) + (rmo d' mc' ms').locals ≤ Rm.locals := ⟨Nat.le_trans hdp r1, by have := ho.2.2.2.2; show 8 + (md'.2.2.1 + 11) + 64 * d' ≤ Rm.locals; omega⟩
  have hstk : List.map (cv ρ e.2.2.1) (as.reverse ++ rest) = (as.map (cv ρ e.2.2.1)).reverse ++ rest.map (cv ρ e.2.2.1) := by rw [List.map_append, List.map_reverse]
  refine w_cont (rest := rest) (Z := fun _ => True) (md' := md') (a := (as.map (cv ρ e.2.2.1)).toArray) ⟨ty, hr⟩ h' hrest ?_
  rcases hl with hl | ⟨host, hl⟩
  · exact va_runS (As := as.map (cv ρ e.2.2.1)) ⟨g1, g2, g4, g5, g6⟩ hM ⟨callB_of na g6 (good_tbl ho) rfl rfl rfl (g6 _ ho.2.1) (g6 _ hl) ho.2.2.1 hroom', g6 _ hv⟩ hpre rfl (by rw [List.length_map]; exact hna) (h3.1.trans h3b) hstk (lv_room (by rw [cv_sum]; exact hroom)) hd ⟨by omega, by omega⟩
  · exact va_runSN (As := as.map (cv ρ e.2.2.1)) ⟨g1, g2, g4, g5, g6⟩ hM ⟨va_cnB na g6 (good_tbl ho) rfl rfl rfl (h8.2.2.2.2.2.2.2.2.2.1 _ hl) (g6 _ ho.2.1) ho.2.2.1 hroom', g6 _ hv, trivial⟩ hpre rfl (by rw [List.length_map]; exact hna) (h3.1.trans h3b) hstk (lv_room (by rw [cv_sum]; exact hroom)) hd ⟨by omega, by omega⟩
theorem w_callSv {st : List AV} (hd : decode md.2.1 pc = .ok (.invokestatic idx, 3)) (hl : ML md.1.cls idx md'.1) (ho : MO md' na) (hv : Cond.static md'.1 ∈ gw) (hr : md'.2.2.2 = none) (hst : st = as.reverse ++ rest) (hna : as.length = na) (hlen : (spr as).length ≤ md'.2.2.1) (hroom : (rest.map acat).sum ≤ 8) (hdp : d' + 1 ≤ d)
    (K : WP sc d' mc' ms' md' 0 (ent as md'.2.2.1) [] I L R N n (fun _ I L R N n => WP sc d mc ms md (pc + 3) al rest I L R N n Q)) : WP sc d (mc + mc') (ms + ms') md pc al st I L R N n Q := by
  intro e ρ T n0 ρ0 T0 p l en Rm s m args below meth c H locs cells slots ls h
  subst hst
  have h' := h
  obtain ⟨⟨g1, g2, g3, g4, g5, g6, g7, g9⟩, ⟨r1, r2, r3, r4⟩, ⟨h3, h3b⟩, h4, h5, ⟨hK, hP, hD, hT⟩, hS, h8, h9, h10⟩ := h
  have hrest : ∀ v ∈ rest, okv T n v := fun v hv => h5 v (List.mem_append_right _ hv)
  have hok : ∀ v ∈ as, okv T n v := fun v hv => h5 v (List.mem_append_left _ (List.mem_reverse.mpr hv))
  have hM := K.met ho.2.2.2.1 hlen l e ρ T hok
  have hpre := pre_call h' (as.map (cv ρ e.2.2.1))
  have hroom' : (rmo d' mc' ms').frames + 1 ≤ Rm.frames ∧ 8 + (md'.2.2.1 + 11) + (rmo d' mc' ms').locals ≤ Rm.locals := ⟨Nat.le_trans hdp r1, by have := ho.2.2.2.2; show 8 + (md'.2.2.1 + 11) + 64 * d' ≤ Rm.locals; omega⟩
  have hstk : List.map (cv ρ e.2.2.1) (as.reverse ++ rest) = (as.map (cv ρ e.2.2.1)).reverse ++ rest.map (cv ρ e.2.2.1) := by rw [List.map_append, List.map_reverse]
  refine w_contV (rest := rest) (Z := fun _ => True) (md' := md') (a := (as.map (cv ρ e.2.2.1)).toArray) hr h' hrest ?_
  rcases hl with hl | ⟨host, hl⟩
  · exact va_runS (As := as.map (cv ρ e.2.2.1)) ⟨g1, g2, g4, g5, g6⟩ hM ⟨callB_of na g6 (good_tbl ho) rfl rfl rfl (g6 _ ho.2.1) (g6 _ hl) ho.2.2.1 hroom', g6 _ hv⟩ hpre rfl (by rw [List.length_map]; exact hna) (h3.1.trans h3b) hstk (lv_room (by rw [cv_sum]; exact hroom)) hd ⟨by omega, by omega⟩
  · exact va_runSN (As := as.map (cv ρ e.2.2.1)) ⟨g1, g2, g4, g5, g6⟩ hM ⟨va_cnB na g6 (good_tbl ho) rfl rfl rfl (h8.2.2.2.2.2.2.2.2.2.1 _ hl) (g6 _ ho.2.1) ho.2.2.1 hroom', g6 _ hv, trivial⟩ hpre rfl (by rw [List.length_map]; exact hna) (h3.1.trans h3b) hstk (lv_room (by rw [cv_sum]; exact hroom)) hd ⟨by omega, by omega⟩
/-- invokespecial of a constructor -/
theorem w_callI {st : List AV} (hd : decode md.2.1 pc = .ok (.invokespecial idx, 3)) (hl : ML md.1.cls idx md'.1) (ho : MO md' na) (hv : Cond.instanceMethod md'.1 ∈ gw) (hnm : md'.1.name = "<init>") (hr : md'.2.2.2 = none) (hst : st = as.reverse ++ vR t k :: rest) (hna : as.length = na) (hlen : (spr (vR t k :: as)).length ≤ md'.2.2.1) (hroom : (rest.map acat).sum ≤ 8) (hdp : d' + 1 ≤ d)
    (K : WP sc d' mc' ms' md' 0 (ent (vR t k :: as) md'.2.2.1) [] I L R N n (fun _ I L R N n => WP sc d mc ms md (pc + 3) al rest I L R N n Q)) : WP sc d (mc + mc') (ms + ms') md pc al st I L R N n Q := by
  intro e ρ T n0 ρ0 T0 p l en Rm s m args below meth c H locs cells slots ls h
  subst hst
  have h' := h
  obtain ⟨⟨g1, g2, g3, g4, g5, g6, g7, g9⟩, ⟨r1, r2, r3, r4⟩, ⟨h3, h3b⟩, h4, h5, ⟨hK, hP, hD, hT⟩, hS, h8, h9, h10⟩ := h
  have hrest : ∀ v ∈ rest, okv T n v := fun v hv => h5 v (List.mem_append_right _ (List.mem_cons_of_mem _ hv))
  have hok : ∀ v ∈ vR t k :: as, okv T n v := fun v hv => (List.mem_cons.mp hv).elim (fun q => h5 v (List.mem_append_right _ (q ▸ List.mem_cons_self))) (fun q => h5 v (List.mem_append_left _ (List.mem_reverse.mpr q)))
  have hM := K.met ho.2.2.2.1 hlen l e ρ T hok
  rw [hr] at hM
  have hpre := pre_call h' ((vR t k :: as).map (cv ρ e.2.2.1))
  have hroom' : (rmo d' mc' ms').frames + 1 ≤ Rm.frames ∧ 8 + (md'.2.2.1 + 11) + (rmo d' mc' ms').locals ≤ Rm.locals := ⟨Nat.le_trans hdp r1, by have := ho.2.2.2.2; show 8 + (md'.2.2.1 + 11) + 64 * d' ≤ Rm.locals; omega⟩
  have hstk : List.map (cv ρ e.2.2.1) (as.reverse ++ vR t k :: rest) = (as.map (cv ρ e.2.2.1)).reverse ++ .ref (ρ k) :: rest.map (cv ρ e.2.2.1) := by
    rw [List.map_append, List.map_reverse]; rfl
  have hgood := good_tbl ho
  rw [hr] at hgood
  refine w_contV (rest := rest) (Z := fun _ => True) (md' := md') (a := (Value.ref (ρ k) :: as.map (cv ρ e.2.2.1)).toArray) hr h' hrest ?_
  rcases hl with hl | ⟨host, hl⟩
  · exact va_runI (As := as.map (cv ρ e.2.2.1)) (b := ρ k) ⟨g1, g2, g4, g5, g6⟩ hM ⟨callB_of na g6 hgood rfl rfl rfl (g6 _ ho.2.1) (g6 _ hl) ho.2.2.1 hroom', hnm, g6 _ hv⟩ hpre rfl (by rw [List.length_map]; exact hna) (h3.1.trans h3b) hstk (lv_room (by rw [cv_sum]; exact hroom)) hd ⟨by omega, by omega⟩
  · exact va_runIN (As := as.map (cv ρ e.2.2.1)) (b := ρ k) ⟨g1, g2, g4, g5, g6⟩ hM ⟨va_cnB na g6 hgood rfl rfl rfl (h8.2.2.2.2.2.2.2.2.2.1 _ hl) (g6 _ ho.2.1) ho.2.2.1 hroom', hnm, g6 _ hv⟩ hpre rfl (by rw [List.length_map]; exact hna) (h3.1.trans h3b) hstk (lv_room (by rw [cv_sum]; exact hroom)) hd ⟨by omega, by omega⟩
end
