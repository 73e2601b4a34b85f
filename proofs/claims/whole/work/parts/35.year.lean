section
variable {sc : SC} {I : HI} {L : HL} {R : HR} {N : HN} {n : Nat} {Q : HQ}
noncomputable def yDraw (p : PL) : Nat → Int32 → Int32 → Int32 × Int32
  | 0, c, z => (c, z)
  | k + 1, c, z => yDraw p k (cif ((drwF p 31 0 z).1 < 0) c (c + 1)) (drwF p 31 0 z).2
noncomputable def yAll (V : VV) : Nat → Nat → Int32 → Int32 → Int32 × Int32
  | 0, _, c, z => (c, z)
  | k + 1, s, c, z => yAll V k (s + 1) (yDraw (planV V s) (V (6 + 7 * s)).toNatClampNeg c z).1 (yDraw (planV V s) (V (6 + 7 * s)).toNatClampNeg c z).2
noncomputable def oYear (V : VV) : VV × Int32 := (va_up V 0 (yAll V (nS V) 0 0 (V 0)).2, (yAll V (nS V) 0 0 (V 0)).1)
theorem told_nd {x : Int32} (h : x = -1 ∨ ∃ i, i < 0 + 31 ∧ x = nI i) : told x = -1000000005 ↔ x < 0 := by
  rcases h with rfl | ⟨i, hi, rfl⟩
  · exact ⟨fun _ => by decide, fun _ => rfl⟩
  · rw [told_s rfl (by omega)]
    exact ⟨fun q => absurd q (nI_none (by omega)), fun q => absurd q (nI_pos (by omega))⟩

set_option maxRecDepth 20000 in
theorem lX9_year (hs : SK R N) {p : PL} {s m : Nat} {c : Int32} (h6 : s < 6) (hm : m ≤ 99) (hb : ∀ j, j < 31 → I 71 j = bI (pBs p j)) (hf : ∀ j, j < 31 → I (62 + s) j = p.2.1 j)
    (hk : ∀ I' : HI, (∀ q, q ≠ 1 + 11 → I' q = I q) → I' (1 + 11) 0 = (yDraw p m c (I (1 + 11) 0)).2 → WP sc 6 0 0 mX9_year 88 [vR 9 0, vI (yDraw p m c (I (1 + 11) 0)).1, vI (nI s), vI (nI m), vI (nI m)] [] I' L R N n Q) : WP sc 6 0 0 mX9_year 53 [vR 9 0, vI c, vI (nI s), vI (nI m), vI (nI 0)] [] I L R N n Q := by
  have lp : ∀ (k j : Nat) (I1 : HI) (c : Int32), j + k = m → (∀ q, q ≠ 1 + 11 → I1 q = I q) → (∀ I' : HI, (∀ q, q ≠ 1 + 11 → I' q = I q) → I' (1 + 11) 0 = (yDraw p k c (I1 (1 + 11) 0)).2 → WP sc 6 0 0 mX9_year 88 [vR 9 0, vI (yDraw p k c (I1 (1 + 11) 0)).1, vI (nI s), vI (nI m), vI (nI m)] [] I' L R N n Q) → WP sc 6 0 0 mX9_year 53 [vR 9 0, vI c, vI (nI s), vI (nI m), vI (nI j)] [] I1 L R N n Q := by
    intro k
    induction k with
    | zero =>
      intro j I1 c hj hI1 hk
      refine w_iload dX9_year_53 rfl ?_
      refine w_iload_n dX9_year_55 rfl ?_
      refine w_icmp_ge (tgt := 88) dX9_year_56 (by decide) (fun c56 => ?_) (fun c56 => ?_)
      · obtain rfl : j = m := by omega
        exact hk I1 hI1 rfl
      · exact absurd (nI_le (a := m) (by omega) (by omega)) c56
    | succ k ih =>
      intro j I1 c hj hI1 hk
      refine w_iload dX9_year_53 rfl ?_
      refine w_iload_n dX9_year_55 rfl ?_
      refine w_icmp_ge (tgt := 88) dX9_year_56 (by decide) (fun c56 => ?_) (fun c56 => ?_)
      · exact absurd ((nI_leI (by omega) (by omega)).mp c56) (by omega)
      · refine w_aload_n dX9_year_59 rfl ?_
        refine w_getR dX9_year_60 flX9_26 rfl (hs.r (a := 0) (j := 3) (b := 59) 2 rfl) ?_
        refine w_iload_n dX9_year_63 rfl ?_
        refine w_aload_n dX9_year_64 rfl ?_
        refine w_getR dX9_year_65 flX9_10 rfl (hs.r (a := 0) (j := 0) (b := 1) 0 rfl) ?_
        refine w_getR dX9_year_68 flX9_158 rfl (hs.r (a := 1) (j := 9) (b := 12) 13 rfl) ?_
        refine c_V (t := 2) (as := [_, _]) (d' := 1) dX9_year_71 mlX9_161 moX2_drawDay mvX2_drawDay ⟨rfl, rfl⟩ rfl rfl rfl rfl rfl (by decide) (sX2_drawDay hs (p := p) (dz := 1 + 11) h6 (fun j hj => by rw [hI1 71 (by decide)]; exact hb j hj) (fun j hj => by rw [hI1 (62 + s) (by omega)]; exact hf j hj) (by decide) (by omega) (fun I2 hI2 hz2 => ?_))
        have hdr := drw_rng p 31 0 (I1 (1 + 11) 0)
        refine w_ldc dX9_year_74 kcX9_141 ?_
        refine w_icmp_eq (tgt := 82) dX9_year_76 (by decide) (fun c76 => ?_) (fun c76 => ?_)
        · refine w_iinc (al' := [_, _, _, _, _]) dX9_year_82 rfl rfl ic_1 rfl ?_
          refine w_goto (tgt := 53) dX9_year_85 (by decide) ?_
          simp only [nI_1]
          refine ih (j + 1) I2 _ (by omega) (fun q h => (hI2 q h).trans (hI1 q h)) (fun I' h1 h2 => ?_)
          rw [hz2] at h2 ⊢
          have hgo := hk I' h1
          rw [yDraw, cif_t ((told_nd hdr).mp c76)] at hgo
          exact hgo h2
        · refine w_iinc (al' := [_, _, _, _, _]) dX9_year_79 rfl rfl ic_1 rfl ?_
          refine w_iinc (al' := [_, _, _, _, _]) dX9_year_82 rfl rfl ic_1 rfl ?_
          refine w_goto (tgt := 53) dX9_year_85 (by decide) ?_
          simp only [nI_1]
          refine ih (j + 1) I2 _ (by omega) (fun q h => (hI2 q h).trans (hI1 q h)) (fun I' h1 h2 => ?_)
          rw [hz2] at h2 ⊢
          have hgo := hk I' h1
          rw [yDraw, cif_f (fun q => c76 ((told_nd hdr).mpr q))] at hgo
          exact hgo h2
  exact lp m 0 I c (Nat.zero_add _) (fun _ _ => rfl) hk

set_option maxRecDepth 20000 in
theorem mX9_yearA (hs : SK R N) {V : VV} (hV : VO V) (hq : ∀ I' : HI, (∀ q, FC q → I' q = I q) → WC I' R N n 1 (oYear V).1 → Q (vI (oYear V).2) I' L R N n) {I1 : HI} (hI1 : ∀ q, FC q → I1 q = I q) (hC1 : WC I1 R N n 1 V) (ho : (∀ i, i < 31 → I1 60 i = owV V i)) (hf : (∀ s, s < nS V → ∀ j, j < 31 → I1 (62 + s) j = forgV V (V (6 + 7 * s + 1)) (told (V 4)) (nI j))) : WP sc 6 0 0 mX9_year 15 [vR 9 0, vI 0, vI (nI 0), vU, vU] [] I1 L R N n Q := by
  have h6 := hV.1.2
  have lp : ∀ (k s : Nat) (I1 : HI) (c z : Int32), s + k = nS V → (∀ q, FC q → I1 q = I q) → WC I1 R N n 1 (va_up V 0 z) → (∀ i, i < 31 → I1 60 i = owV V i) → (∀ s, s < nS V → ∀ j, j < 31 → I1 (62 + s) j = forgV V (V (6 + 7 * s + 1)) (told (V 4)) (nI j)) → (∀ I' : HI, (∀ q, FC q → I' q = I q) → WC I' R N n 1 (va_up V 0 (yAll V k s c z).2) → Q (vI (yAll V k s c z).1) I' L R N n) → WP sc 6 0 0 mX9_year 15 [vR 9 0, vI c, vI (nI s), vU, vU] [] I1 L R N n Q := by
    intro k
    induction k with
    | zero =>
      intro s I1 c z hj hI1 hC1 ho hf hq
      refine w_iload_n dX9_year_15 rfl ?_
      refine w_aload_n dX9_year_16 rfl ?_
      refine w_getR dX9_year_17 flX9_10 rfl (hs.r (a := 0) (j := 0) (b := 1) 0 rfl) ?_
      refine w_getI dX9_year_20 flX9_94 rfl ?_
      refine w_top (y := nI (nS V)) (hC1.1.1.trans hV.1.1) ?_
      refine w_icmp_ge (tgt := 94) dX9_year_23 (by decide) (fun c23 => ?_) (fun c23 => ?_)
      · obtain rfl : s = nS V := by omega
        refine w_iload_n dX9_year_94 rfl ?_
        refine w_ireturn dX9_year_95 rfl rfl ?_
        exact hq I1 hI1 hC1
      · exact absurd (nI_le (a := nS V) (by omega) (by omega)) c23
    | succ k ih =>
      intro s I1 c z hj hI1 hC1 ho hf hq
      refine w_iload_n dX9_year_15 rfl ?_
      refine w_aload_n dX9_year_16 rfl ?_
      refine w_getR dX9_year_17 flX9_10 rfl (hs.r (a := 0) (j := 0) (b := 1) 0 rfl) ?_
      refine w_getI dX9_year_20 flX9_94 rfl ?_
      refine w_top (y := nI (nS V)) (hC1.1.1.trans hV.1.1) ?_
      refine w_icmp_ge (tgt := 94) dX9_year_23 (by decide) (fun c23 => ?_) (fun c23 => ?_)
      · exact absurd ((nI_leI (by omega) (by omega)).mp c23) (by omega)
      · refine w_aload_n dX9_year_26 rfl ?_
        refine w_getR dX9_year_27 flX9_26 rfl (hs.r (a := 0) (j := 3) (b := 59) 2 rfl) ?_
        refine w_aload_n dX9_year_30 rfl ?_
        refine w_getR dX9_year_31 flX9_10 rfl (hs.r (a := 0) (j := 0) (b := 1) 0 rfl) ?_
        refine w_iload_n dX9_year_34 rfl ?_
        have hss : s < nS V := by omega
        obtain ⟨m, -, hm, hmv⟩ := (hV.2.2.2.1 s hss).1
        refine c_Vv (t := 2) (as := [_, _]) (d' := 4) dX9_year_35 mlX9_169 moX2_follow mvX2_follow ⟨rfl, rfl⟩ rfl rfl rfl rfl rfl (by decide) (sX2_follow hs (Or.inl rfl) (hV.dice z) hC1 hss (oF := owV V) (cd := told (V 4)) ho (fun j hj => by rw [forgV_80 (same80_up (i := 0) (v := z) (V := V) (by decide) (by decide)), va_up_ne _ _ (by omega)]; exact hf s hss j hj) (fun I2 hI2 hF2 => ?_))
        have hW2 : WC I2 R N n 1 (va_up V 0 z) := hC1.keep (hV.dice z) (fun a hz => hI2 a (by unfold WA at hz; omega) (by unfold WA at hz; omega))
        rw [plV_80 (same80_up (i := 0) (v := z) (V := V) (by decide) (by decide)) (fun i h1 h2 => va_up_ne _ _ (by omega)) (by omega)] at hF2
        refine w_aload_n dX9_year_38 rfl ?_
        refine w_getR dX9_year_39 flX9_10 rfl (hs.r (a := 0) (j := 0) (b := 1) 0 rfl) ?_
        refine w_getR dX9_year_42 flX9_90 rfl (hs.r (a := 1) (j := 0) (b := 2) 9 rfl) ?_
        refine w_iload_n dX9_year_45 rfl ?_
        refine w_aaldI dX9_year_46 rfl (hs.n (a := 2) (z := 6) 0 rfl) (by omega) (hs.rows (Or.inl rfl) (by omega)).1 ?_
        refine w_iconst dX9_year_47 ic_0 ?_
        refine w_iald (q := 0) dX9_year_48 rfl (hs.rows (Or.inl rfl) (by omega)).2 (by decide) ?_
        refine w_top (y := nI m) ((hW2.2.1 s hss 0 (by decide)).trans ((va_up_ne _ _ (by omega)).trans hmv)) ?_
        refine w_istore_n (al' := [_, _, _, _, _]) dX9_year_49 rfl rfl rfl ?_
        refine w_iconst dX9_year_50 ic_0 ?_
        refine w_istore (al' := [_, _, _, _, _]) dX9_year_51 rfl rfl rfl ?_
        refine lX9_year hs (p := planV V s) (by omega) hm (fun j hj => (hF2 j hj).2.2.2.1) (fun j hj => by rw [hI2 (62 + s) (by omega) (by omega)]; exact hf s hss j hj) (fun I3 hI3 hz3 => ?_)
        rw [hW2.1.2.2.2.2.2, va_up_self] at hz3 ⊢
        have hW3 := hW2.diceF (hV.dice z) (Or.inl rfl) hI3 hz3
        rw [up_up] at hW3
        refine w_iinc (al' := [_, _, _, _, _]) dX9_year_88 rfl rfl ic_1 rfl ?_
        refine w_goto (tgt := 15) dX9_year_91 (by decide) ?_
        refine w_kill (i := 4) (al' := [_, _, _, _, _]) rfl ?_
        refine w_kill (i := 3) (al' := [_, _, _, _, _]) rfl ?_
        simp only [nI_1]
        refine ih (s + 1) I3 _ _ (by omega) (fun q h => (hI3 q (by unfold FC at h; omega)).trans ((hI2 q (by unfold FC at h; omega) (by unfold FC at h; omega)).trans (hI1 q h))) hW3 (fun i hi => by rw [hI3 60 (by decide), hI2 60 (by decide) (by decide)]; exact ho i hi) (fun s9 hs9 i hi => by rw [hI3 (62 + s9) (by omega), hI2 (62 + s9) (by omega) (by omega)]; exact hf s9 hs9 i hi) ?_
        rw [yAll, hmv, nI_clamp (by omega)] at hq
        exact hq
  exact lp (nS V) 0 I1 0 (V 0) (Nat.zero_add _) hI1 (by rw [up_id]; exact hC1) ho hf hq

set_option maxRecDepth 20000 in
theorem sX9_year (hs : SK R N) {V : VV} (hV : VO V) (hC : WC I R N n 1 V)  (hq : ∀ I' : HI, (∀ q, FC q → I' q = I q) → WC I' R N n 1 (oYear V).1 → Q (vI (oYear V).2) I' L R N n) : CA sc 6 0 0 mX9_year [vR 9 0] I L R N n Q := by
  refine ca_in (al := [_, _, _, _, _]) rfl ?_
  refine w_aload_n dX9_year_0 rfl ?_
  refine w_getR dX9_year_1 flX9_26 rfl (hs.r (a := 0) (j := 3) (b := 59) 2 rfl) ?_
  refine w_aload_n dX9_year_4 rfl ?_
  refine w_getR dX9_year_5 flX9_10 rfl (hs.r (a := 0) (j := 0) (b := 1) 0 rfl) ?_
  refine c_Vv (t := 2) (as := [_]) (d' := 5) dX9_year_8 mlX9_165 moX2_take mvX2_take ⟨rfl, rfl⟩ rfl rfl rfl rfl rfl (by decide) (sX2_take hs (Or.inl rfl) hV hC (fun I2 hI2 ho2 hf2 => ?_))
  refine w_iconst dX9_year_11 ic_0 ?_
  refine w_istore_n (al' := [_, _, _, _, _]) dX9_year_12 rfl rfl rfl ?_
  refine w_iconst dX9_year_13 ic_0 ?_
  refine w_istore_n (al' := [_, _, _, _, _]) dX9_year_14 rfl rfl rfl ?_
  exact mX9_yearA hs hV hq (fun z h => hI2 z (by unfold FC at h; omega) (by unfold FC at h; omega)) (hC.keep hV (fun z hz => hI2 z (by unfold WA at hz; omega) (by unfold WA at hz; omega))) ho2 hf2

set_option maxRecDepth 20000 in
theorem lX10_year (hs : SK R N) {V : VV} {p : PL} {s m : Nat} {c z : Int32} (h6 : s < 6) (hm : m ≤ 99) (hmv : V (6 + 7 * s) = nI m) (hI : I 118 = va_up V 0 z) (hb : ∀ j, j < 31 → I 126 j = bI (pBs p j)) (hf : ∀ j, j < 31 → I 122 j = p.2.1 j)
    (hk : ∀ I' : HI, (∀ q, q ≠ 118 → I' q = I q) → I' 118 = va_up V 0 (yDraw p m c z).2 → WP sc 4 0 0 mX10_year 56 [vR 10 117, vI (yDraw p m c z).1, vI (nI s), vI (nI m)] [] I' L R N n Q) : WP sc 4 0 0 mX10_year 25 [vR 10 117, vI c, vI (nI s), vI (nI 0)] [] I L R N n Q := by
  have lp : ∀ (k j : Nat) (I1 : HI) (c z : Int32), j + k = m → (∀ q, q ≠ 118 → I1 q = I q) → I1 118 = va_up V 0 z → (∀ I' : HI, (∀ q, q ≠ 118 → I' q = I q) → I' 118 = va_up V 0 (yDraw p k c z).2 → WP sc 4 0 0 mX10_year 56 [vR 10 117, vI (yDraw p k c z).1, vI (nI s), vI (nI m)] [] I' L R N n Q) → WP sc 4 0 0 mX10_year 25 [vR 10 117, vI c, vI (nI s), vI (nI j)] [] I1 L R N n Q := by
    intro k
    induction k with
    | zero =>
      intro j I1 c z hj hI1 hz hk
      refine w_iload_n dX10_year_25 rfl ?_
      refine w_aload_n dX10_year_26 rfl ?_
      refine w_iload_n dX10_year_27 rfl ?_
      refine w_iconst dX10_year_28 ic_0 ?_
      refine c_V (t := 10) (as := [_, _]) (d' := 0) dX10_year_29 mlX10_111 moX10_sortOf mvX10_sortOf ⟨rfl, rfl⟩ rfl rfl rfl rfl rfl (by decide) (vX10_sortOf (V := va_up V 0 z) (b := 0) hs hz (by omega) ?_)
      refine w_top (y := nI m) ((va_up_ne _ _ (by omega)).trans hmv) ?_
      refine w_icmp_ge (tgt := 56) dX10_year_32 (by decide) (fun c32 => ?_) (fun c32 => ?_)
      · obtain rfl : j = m := by omega
        exact hk I1 hI1 hz
      · exact absurd (nI_le (a := m) (by omega) (by omega)) c32
    | succ k ih =>
      intro j I1 c z hj hI1 hz hk
      refine w_iload_n dX10_year_25 rfl ?_
      refine w_aload_n dX10_year_26 rfl ?_
      refine w_iload_n dX10_year_27 rfl ?_
      refine w_iconst dX10_year_28 ic_0 ?_
      refine c_V (t := 10) (as := [_, _]) (d' := 0) dX10_year_29 mlX10_111 moX10_sortOf mvX10_sortOf ⟨rfl, rfl⟩ rfl rfl rfl rfl rfl (by decide) (vX10_sortOf (V := va_up V 0 z) (b := 0) hs hz (by omega) ?_)
      refine w_top (y := nI m) ((va_up_ne _ _ (by omega)).trans hmv) ?_
      refine w_icmp_ge (tgt := 56) dX10_year_32 (by decide) (fun c32 => ?_) (fun c32 => ?_)
      · exact absurd ((nI_leI (by omega) (by omega)).mp c32) (by omega)
      · refine w_iload_n dX10_year_35 rfl ?_
        refine w_aload_n dX10_year_36 rfl ?_
        refine c_V (t := 10) (as := []) (d' := 1) dX10_year_37 mlX10_183 moX10_drawsDay mvX10_drawsDay ⟨rfl, rfl⟩ rfl rfl rfl rfl rfl (by decide) (sX10_drawsDay hs (p := p) (fun j hj => by rw [hI1 126 (by decide)]; exact hb j hj) (fun j hj => by rw [hI1 122 (by decide)]; exact hf j hj) (fun I2 hI2 hz2 => ?_))
        rw [hz, va_up_self] at hz2 ⊢
        refine w_if_lt (tgt := 47) dX10_year_40 (by decide) (fun c40 => ?_) (fun c40 => ?_)
        · refine w_iconst dX10_year_47 ic_0 ?_
          refine w_iadd dX10_year_48 ?_
          refine w_top (y := c) (Int32.add_zero c) ?_
          refine w_istore_n (al' := [_, _, _, _]) dX10_year_49 rfl rfl rfl ?_
          refine w_iinc (al' := [_, _, _, _]) dX10_year_50 rfl rfl ic_1 rfl ?_
          refine w_goto (tgt := 25) dX10_year_53 (by decide) ?_
          simp only [nI_1]
          refine ih (j + 1) I2 _ (drwF p 31 0 z).2 (by omega) (fun q h => (hI2 q h).trans (hI1 q h)) (by rw [hz2, up_up]) (fun I' h1 h2 => ?_)
          have hgo := hk I' h1
          rw [yDraw, cif_t c40] at hgo
          exact hgo h2
        · refine w_iconst dX10_year_43 ic_1 ?_
          refine w_goto (tgt := 48) dX10_year_44 (by decide) ?_
          refine w_iadd dX10_year_48 ?_
          refine w_istore_n (al' := [_, _, _, _]) dX10_year_49 rfl rfl rfl ?_
          refine w_iinc (al' := [_, _, _, _]) dX10_year_50 rfl rfl ic_1 rfl ?_
          refine w_goto (tgt := 25) dX10_year_53 (by decide) ?_
          simp only [nI_1]
          refine ih (j + 1) I2 _ (drwF p 31 0 z).2 (by omega) (fun q h => (hI2 q h).trans (hI1 q h)) (by rw [hz2, up_up]) (fun I' h1 h2 => ?_)
          have hgo := hk I' h1
          rw [yDraw, cif_f c40] at hgo
          exact hgo h2
  exact lp m 0 I c z (Nat.zero_add _) (fun _ _ => rfl) hI hk

set_option maxRecDepth 20000 in
theorem mX10_yearA (hs : SK R N) {V : VV} (hV : VO V) (hq : ∀ I' : HI, (∀ q, FM q → I' q = I q) → I' 118 = (oYear V).1 → Q (vI (oYear V).2) I' L R N n) {I1 : HI} (hI1 : ∀ q, FM q → I1 q = I q) (hz : I1 118 = V) (ho : (∀ i, i < 31 → I1 121 i = owV V i)) : WP sc 4 0 0 mX10_year 8 [vR 10 117, vI 0, vI (nI 0), vU] [] I1 L R N n Q := by
  have h6 := hV.1.2
  have lp : ∀ (k s : Nat) (I1 : HI) (c z : Int32), s + k = nS V → (∀ q, FM q → I1 q = I q) → I1 118 = va_up V 0 z → (∀ i, i < 31 → I1 121 i = owV V i) → (∀ I' : HI, (∀ q, FM q → I' q = I q) → I' 118 = va_up V 0 (yAll V k s c z).2 → Q (vI (yAll V k s c z).1) I' L R N n) → WP sc 4 0 0 mX10_year 8 [vR 10 117, vI c, vI (nI s), vU] [] I1 L R N n Q := by
    intro k
    induction k with
    | zero =>
      intro s I1 c z hj hI1 hz ho hq
      refine w_iload_n dX10_year_8 rfl ?_
      refine w_aload_n dX10_year_9 rfl ?_
      refine w_getR dX10_year_10 flX10_9 rfl (hs.r (a := 117) (j := 0) (b := 118) 116 rfl) ?_
      refine w_iconst dX10_year_13 ic_1 ?_
      refine w_iald (q := 1) dX10_year_14 rfl (hs.n (a := 118) (z := 1452) 72 rfl) (by decide) ?_
      refine w_top (y := nI (nS V)) (by rw [hz, va_up_ne _ _ (by decide)]; exact hV.1.1) ?_
      refine w_icmp_ge (tgt := 62) dX10_year_15 (by decide) (fun c15 => ?_) (fun c15 => ?_)
      · obtain rfl : s = nS V := by omega
        refine w_iload_n dX10_year_62 rfl ?_
        refine w_ireturn dX10_year_63 rfl rfl ?_
        exact hq I1 hI1 hz
      · exact absurd (nI_le (a := nS V) (by omega) (by omega)) c15
    | succ k ih =>
      intro s I1 c z hj hI1 hz ho hq
      refine w_iload_n dX10_year_8 rfl ?_
      refine w_aload_n dX10_year_9 rfl ?_
      refine w_getR dX10_year_10 flX10_9 rfl (hs.r (a := 117) (j := 0) (b := 118) 116 rfl) ?_
      refine w_iconst dX10_year_13 ic_1 ?_
      refine w_iald (q := 1) dX10_year_14 rfl (hs.n (a := 118) (z := 1452) 72 rfl) (by decide) ?_
      refine w_top (y := nI (nS V)) (by rw [hz, va_up_ne _ _ (by decide)]; exact hV.1.1) ?_
      refine w_icmp_ge (tgt := 62) dX10_year_15 (by decide) (fun c15 => ?_) (fun c15 => ?_)
      · exact absurd ((nI_leI (by omega) (by omega)).mp c15) (by omega)
      · refine w_aload_n dX10_year_18 rfl ?_
        refine w_iload_n dX10_year_19 rfl ?_
        have hss : s < nS V := by omega
        obtain ⟨m, -, hm, hmv⟩ := (hV.2.2.2.1 s hss).1
        refine c_Vv (t := 10) (as := [_]) (d' := 3) dX10_year_20 mlX10_175 moX10_findDays mvX10_findDays ⟨rfl, rfl⟩ rfl rfl rfl rfl rfl (by decide) (sX10_findDays hs hz (hV.dice z) hss ho (fun I2 hI2 hM2 h128 => ?_))
        have hz2 : I2 118 = va_up V 0 z := (hI2 118 (by decide) (by decide) (by decide)).trans hz
        rw [plV_80 (same80_up (i := 0) (v := z) (V := V) (by decide) (by decide)) (fun i h1 h2 => va_up_ne _ _ (by omega)) (by omega), va_up_ne V z (show (4 : Nat) ≠ 0 by decide)] at hM2
        refine w_iconst dX10_year_23 ic_0 ?_
        refine w_istore_n (al' := [_, _, _, _]) dX10_year_24 rfl rfl rfl ?_
        refine lX10_year hs (p := planV V s) (by omega) hm hmv hz2 (fun j hj => (hM2 j hj).2.2.2.2.1) (fun j hj => (hM2 j hj).1) (fun I3 hI3 hz3 => ?_)
        refine w_iinc (al' := [_, _, _, _]) dX10_year_56 rfl rfl ic_1 rfl ?_
        refine w_goto (tgt := 8) dX10_year_59 (by decide) ?_
        refine w_kill (i := 3) (al' := [_, _, _, _]) rfl ?_
        simp only [nI_1]
        refine ih (s + 1) I3 _ _ (by omega) (fun q h => (hI3 q h.1).trans ((hI2 q (by unfold FM at h; omega) (by unfold FM at h; omega) (by unfold FM at h; omega)).trans (hI1 q h))) hz3 (fun i hi => by rw [hI3 121 (by decide), hI2 121 (by decide) (by decide) (by decide)]; exact ho i hi) ?_
        rw [yAll, hmv, nI_clamp (by omega)] at hq
        exact hq
  exact lp (nS V) 0 I1 0 (V 0) (Nat.zero_add _) hI1 (by rw [up_id]; exact hz) ho hq

set_option maxRecDepth 20000 in
theorem sX10_year (hs : SK R N) {V : VV} (hI : I 118 = V) (hV : VO V)  (hq : ∀ I' : HI, (∀ q, FM q → I' q = I q) → I' 118 = (oYear V).1 → Q (vI (oYear V).2) I' L R N n) : CA sc 4 0 0 mX10_year [vR 10 117] I L R N n Q := by
  refine ca_in (al := [_, _, _, _]) rfl ?_
  refine w_aload_n dX10_year_0 rfl ?_
  refine c_Vv (t := 10) (as := []) (d' := 3) dX10_year_1 mlX10_172 moX10_findOwed mvX10_findOwed ⟨rfl, rfl⟩ rfl rfl rfl rfl rfl (by decide) (sX10_findOwed hs hI hV (fun I2 hI2 ho2 => ?_))
  refine w_iconst dX10_year_4 ic_0 ?_
  refine w_istore_n (al' := [_, _, _, _]) dX10_year_5 rfl rfl rfl ?_
  refine w_iconst dX10_year_6 ic_0 ?_
  refine w_istore_n (al' := [_, _, _, _]) dX10_year_7 rfl rfl rfl ?_
  exact mX10_yearA hs hV hq (fun z h => hI2 z (by unfold FM at h; omega) (by unfold FM at h; omega) (by unfold FM at h; omega)) ((hI2 118 (by decide) (by decide) (by decide)).trans hI) ho2

end
