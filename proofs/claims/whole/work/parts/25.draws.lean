section
variable {sc : SC} {I : HI} {L : HL} {R : HR} {N : HN} {n : Nat} {Q : HQ}
set_option maxRecDepth 20000 in
theorem sX2_firstDay (hs : SK R N) {p : PL} (hF : PF I p) (ho : ∀ j, j < 31 → I 60 j = p.1 j) {q : Nat} (hq2 : q ≤ 2) (hq : Q (vI (frst (fstP p q) 31 0)) I L R N n) : CA sc 0 0 0 mX2_firstDay [vR 2 59, vI (nI q), vI p.2.2.2.1] I L R N n Q := by
  have lp : ∀ (k j : Nat), j + k = 31 → Q (vI (frst (fstP p q) k j)) I L R N n → WP sc 0 0 0 mX2_firstDay 2 [vR 2 59, vI (nI q), vI p.2.2.2.1, vI (nI j), vU] [] I L R N n Q := by
    intro k
    induction k with
    | zero =>
      intro j hj hq
      refine w_iload_n dX2_firstDay_2 rfl ?_
      refine w_bipush dX2_firstDay_3 bp_31 ?_
      refine w_icmp_ge (tgt := 75) dX2_firstDay_5 (by decide) (fun c5 => ?_) (fun c5 => ?_)
      · refine w_ldc dX2_firstDay_75 kcX2_117 ?_
        refine w_ireturn dX2_firstDay_77 rfl rfl ?_
        exact hq
      · exact absurd (nI_le (a := 31) (by omega) (by omega)) c5
    | succ k ih =>
      intro j hj hq
      refine w_iload_n dX2_firstDay_2 rfl ?_
      refine w_bipush dX2_firstDay_3 bp_31 ?_
      refine w_icmp_ge (tgt := 75) dX2_firstDay_5 (by decide) (fun c5 => ?_) (fun c5 => ?_)
      · exact absurd ((nI_leI (a := 31) (by omega) (by omega)).mp c5) (by omega)
      · refine w_iload_n dX2_firstDay_8 rfl ?_
        refine w_if_ne (tgt := 21) dX2_firstDay_9 (by decide) (fun c9 => ?_) (fun c9 => ?_)
        · refine w_iload_n dX2_firstDay_21 rfl ?_
          refine w_iconst dX2_firstDay_22 ic_1 ?_
          refine w_icmp_ne (tgt := 44) dX2_firstDay_23 (by decide) (fun c23 => ?_) (fun c23 => ?_)
          · refine w_aload_n dX2_firstDay_44 rfl ?_
            refine w_getR dX2_firstDay_45 flX2_36 rfl (hs.r (a := 59) (j := 7) (b := 73) 72 rfl) ?_
            refine w_iload_n dX2_firstDay_48 rfl ?_
            refine w_iald dX2_firstDay_49 rfl (hs.n (a := 73) (z := 31) 51 rfl) (by omega) ?_
            refine w_top (y := pOut p (j + 1)) ((hF j (by omega)).2.2.2.2.2) ?_
            refine w_ldc dX2_firstDay_50 kcX2_116 ?_
            refine w_icmp_gt (tgt := 59) dX2_firstDay_52 (by decide) (fun c52 => ?_) (fun c52 => ?_)
            · refine w_iconst dX2_firstDay_59 ic_0 ?_
              refine w_top (y := bI (fstP p q j)) ((bI_0 (by have e0 : q ≠ 0 := fun e => c9 (by rw [e]; rfl); have e1 : q ≠ 1 := fun e => c23 (by rw [e]; rfl); unfold fstP; rw [if_neg e0, if_neg e1]; exact Int32.not_le.mpr c52)).symm) ?_
              refine w_istore (al' := [_, _, _, _, _]) dX2_firstDay_60 rfl rfl rfl ?_
              refine w_iload dX2_firstDay_62 rfl ?_
              refine w_if_eq (tgt := 69) dX2_firstDay_64 (by decide) (fun c64 => ?_) (fun c64 => ?_)
              · refine w_kill (i := 4) (al' := [_, _, _, _, _]) rfl ?_
                refine w_iinc (al' := [_, _, _, _, _]) dX2_firstDay_69 rfl rfl ic_1 rfl ?_
                refine w_goto (tgt := 2) dX2_firstDay_72 (by decide) ?_
                simp only [nI_1]
                exact ih (j + 1) (by omega) (q_e (cif_f (bI_e.mp c64)) hq)
              · refine w_iload_n dX2_firstDay_67 rfl ?_
                refine w_ireturn dX2_firstDay_68 rfl rfl ?_
                exact q_e (cif_t (bI_n.mp c64)) hq
            · refine w_iconst dX2_firstDay_55 ic_1 ?_
              refine w_top (y := bI (fstP p q j)) ((bI_1 (by have e0 : q ≠ 0 := fun e => c9 (by rw [e]; rfl); have e1 : q ≠ 1 := fun e => c23 (by rw [e]; rfl); unfold fstP; rw [if_neg e0, if_neg e1]; exact Int32.not_lt.mp c52)).symm) ?_
              refine w_goto (tgt := 60) dX2_firstDay_56 (by decide) ?_
              refine w_istore (al' := [_, _, _, _, _]) dX2_firstDay_60 rfl rfl rfl ?_
              refine w_iload dX2_firstDay_62 rfl ?_
              refine w_if_eq (tgt := 69) dX2_firstDay_64 (by decide) (fun c64 => ?_) (fun c64 => ?_)
              · refine w_kill (i := 4) (al' := [_, _, _, _, _]) rfl ?_
                refine w_iinc (al' := [_, _, _, _, _]) dX2_firstDay_69 rfl rfl ic_1 rfl ?_
                refine w_goto (tgt := 2) dX2_firstDay_72 (by decide) ?_
                simp only [nI_1]
                exact ih (j + 1) (by omega) (q_e (cif_f (bI_e.mp c64)) hq)
              · refine w_iload_n dX2_firstDay_67 rfl ?_
                refine w_ireturn dX2_firstDay_68 rfl rfl ?_
                exact q_e (cif_t (bI_n.mp c64)) hq
          · refine w_aload_n dX2_firstDay_26 rfl ?_
            refine w_getR dX2_firstDay_27 flX2_9 rfl (hs.r (a := 59) (j := 0) (b := 60) 65 rfl) ?_
            refine w_iload_n dX2_firstDay_30 rfl ?_
            refine w_iald dX2_firstDay_31 rfl (hs.n (a := 60) (z := 31) 38 rfl) (by omega) ?_
            refine w_top (y := p.1 j) (ho j (by omega)) ?_
            refine w_iload_n dX2_firstDay_32 rfl ?_
            refine w_icmp_le (tgt := 40) dX2_firstDay_33 (by decide) (fun c33 => ?_) (fun c33 => ?_)
            · refine w_iconst dX2_firstDay_40 ic_0 ?_
              refine w_top (y := bI (fstP p q j)) ((bI_0 (by have e : q = 1 := (nI_eq (b := 1) (by omega) (by omega)).mp c23; unfold fstP; rw [if_neg (by omega), if_pos e]; exact Int32.not_lt.mpr c33)).symm) ?_
              refine w_goto (tgt := 60) dX2_firstDay_41 (by decide) ?_
              refine w_istore (al' := [_, _, _, _, _]) dX2_firstDay_60 rfl rfl rfl ?_
              refine w_iload dX2_firstDay_62 rfl ?_
              refine w_if_eq (tgt := 69) dX2_firstDay_64 (by decide) (fun c64 => ?_) (fun c64 => ?_)
              · refine w_kill (i := 4) (al' := [_, _, _, _, _]) rfl ?_
                refine w_iinc (al' := [_, _, _, _, _]) dX2_firstDay_69 rfl rfl ic_1 rfl ?_
                refine w_goto (tgt := 2) dX2_firstDay_72 (by decide) ?_
                simp only [nI_1]
                exact ih (j + 1) (by omega) (q_e (cif_f (bI_e.mp c64)) hq)
              · refine w_iload_n dX2_firstDay_67 rfl ?_
                refine w_ireturn dX2_firstDay_68 rfl rfl ?_
                exact q_e (cif_t (bI_n.mp c64)) hq
            · refine w_iconst dX2_firstDay_36 ic_1 ?_
              refine w_top (y := bI (fstP p q j)) ((bI_1 (by have e : q = 1 := (nI_eq (b := 1) (by omega) (by omega)).mp c23; unfold fstP; rw [if_neg (by omega), if_pos e]; exact Int32.not_le.mp c33)).symm) ?_
              refine w_goto (tgt := 60) dX2_firstDay_37 (by decide) ?_
              refine w_istore (al' := [_, _, _, _, _]) dX2_firstDay_60 rfl rfl rfl ?_
              refine w_iload dX2_firstDay_62 rfl ?_
              refine w_if_eq (tgt := 69) dX2_firstDay_64 (by decide) (fun c64 => ?_) (fun c64 => ?_)
              · refine w_kill (i := 4) (al' := [_, _, _, _, _]) rfl ?_
                refine w_iinc (al' := [_, _, _, _, _]) dX2_firstDay_69 rfl rfl ic_1 rfl ?_
                refine w_goto (tgt := 2) dX2_firstDay_72 (by decide) ?_
                simp only [nI_1]
                exact ih (j + 1) (by omega) (q_e (cif_f (bI_e.mp c64)) hq)
              · refine w_iload_n dX2_firstDay_67 rfl ?_
                refine w_ireturn dX2_firstDay_68 rfl rfl ?_
                exact q_e (cif_t (bI_n.mp c64)) hq
        · refine w_aload_n dX2_firstDay_12 rfl ?_
          refine w_getR dX2_firstDay_13 flX2_29 rfl (hs.r (a := 59) (j := 5) (b := 71) 70 rfl) ?_
          refine w_iload_n dX2_firstDay_16 rfl ?_
          refine w_zald dX2_firstDay_17 rfl (hs.n (a := 71) (z := 31) 49 rfl) (by omega) ?_
          refine w_top (y := bI (fstP p q j)) (by rw [(hF j (by omega)).2.2.2.1]; refine bI_c ?_; have : q = 0 := (nI_eq (b := 0) (by omega) (by omega)).mp c9; unfold fstP; rw [if_pos this]) ?_
          refine w_goto (tgt := 60) dX2_firstDay_18 (by decide) ?_
          refine w_istore (al' := [_, _, _, _, _]) dX2_firstDay_60 rfl rfl rfl ?_
          refine w_iload dX2_firstDay_62 rfl ?_
          refine w_if_eq (tgt := 69) dX2_firstDay_64 (by decide) (fun c64 => ?_) (fun c64 => ?_)
          · refine w_kill (i := 4) (al' := [_, _, _, _, _]) rfl ?_
            refine w_iinc (al' := [_, _, _, _, _]) dX2_firstDay_69 rfl rfl ic_1 rfl ?_
            refine w_goto (tgt := 2) dX2_firstDay_72 (by decide) ?_
            simp only [nI_1]
            exact ih (j + 1) (by omega) (q_e (cif_f (bI_e.mp c64)) hq)
          · refine w_iload_n dX2_firstDay_67 rfl ?_
            refine w_ireturn dX2_firstDay_68 rfl rfl ?_
            exact q_e (cif_t (bI_n.mp c64)) hq
  refine ca_in (al := [_, _, _, _, _]) rfl ?_
  refine w_iconst dX2_firstDay_0 ic_0 ?_
  refine w_istore_n (al' := [_, _, _, _, _]) dX2_firstDay_1 rfl rfl rfl ?_
  exact lp 31 0 rfl hq

set_option maxRecDepth 20000 in
theorem sX2_drawDay (hs : SK R N) {p : PL} {s dz : Nat} (h6 : s < 6) (hb : ∀ j, j < 31 → I 71 j = bI (pBs p j)) (hf : ∀ j, j < 31 → I (62 + s) j = p.2.1 j) (hd1 : dz ≠ 71) (hd2 : dz ≠ 62 + s)
    (hq : ∀ I' : HI, (∀ q, q ≠ dz → I' q = I q) → I' dz 0 = (drwF p 31 0 (I dz 0)).2 → Q (vI (told (drwF p 31 0 (I dz 0)).1)) I' L R N n) : CA sc 1 0 0 mX2_drawDay [vR 2 59, vI (nI s), vR 0 dz] I L R N n Q := by
  have lp : ∀ (k j : Nat) (I1 : HI), j + k = 31 → (∀ q, q ≠ dz → I1 q = I q) → (∀ I' : HI, (∀ q, q ≠ dz → I' q = I q) → I' dz 0 = (drwF p k j (I1 dz 0)).2 → Q (vI (told (drwF p k j (I1 dz 0)).1)) I' L R N n) → WP sc 1 0 0 mX2_drawDay 14 [vR 2 59, vI (nI s), vR 0 dz, vI (nI j)] [] I1 L R N n Q := by
    intro k
    induction k with
    | zero =>
      intro j I1 hj hI1 hq
      refine w_iload_n dX2_drawDay_14 rfl ?_
      refine w_bipush dX2_drawDay_15 bp_31 ?_
      refine w_icmp_ge (tgt := 54) dX2_drawDay_17 (by decide) (fun c17 => ?_) (fun c17 => ?_)
      · refine w_ldc dX2_drawDay_54 kcX2_117 ?_
        refine w_ireturn dX2_drawDay_56 rfl rfl ?_
        exact hq I1 hI1 rfl
      · exact absurd (nI_le (a := 31) (by omega) (by omega)) c17
    | succ k ih =>
      intro j I1 hj hI1 hq
      refine w_iload_n dX2_drawDay_14 rfl ?_
      refine w_bipush dX2_drawDay_15 bp_31 ?_
      refine w_icmp_ge (tgt := 54) dX2_drawDay_17 (by decide) (fun c17 => ?_) (fun c17 => ?_)
      · exact absurd ((nI_leI (a := 31) (by omega) (by omega)).mp c17) (by omega)
      · refine w_aload_n dX2_drawDay_20 rfl ?_
        refine w_bipush dX2_drawDay_21 bp_100 ?_
        refine c_V (t := 0) (as := [_]) (d' := 0) dX2_drawDay_23 mlX2_118 moX0_restBy mvX0_restBy ⟨rfl, rfl⟩ rfl rfl rfl rfl rfl (by decide) (sX0_restBy (by decide) ?_)
        refine w_st (fun I2 hA2 hB2 hC2 => ?_)
        have hX2 : ∀ q, q ≠ dz → I2 q = I q := fun q h => (hA2 q h).trans (hI1 q h)
        refine w_aload_n dX2_drawDay_26 rfl ?_
        refine w_getR dX2_drawDay_27 flX2_17 rfl (hs.r (a := 59) (j := 1) (b := 61) 66 rfl) ?_
        refine w_iload_n dX2_drawDay_30 rfl ?_
        refine w_aaldI dX2_drawDay_31 rfl (hs.n (a := 61) (z := 6) 39 rfl) (by omega) (hs.frow h6).1 ?_
        refine w_iload_n dX2_drawDay_32 rfl ?_
        refine w_iald dX2_drawDay_33 rfl (hs.frow h6).2 (by omega) ?_
        refine w_top (y := p.2.1 j) ((congrFun (hX2 (62 + s) (Ne.symm hd2)) _).trans (hf j (by omega))) ?_
        refine w_icmp_lt (tgt := 48) dX2_drawDay_34 (by decide) (fun c34 => ?_) (fun c34 => ?_)
        · refine w_iinc (al' := [_, _, _, _]) dX2_drawDay_48 rfl rfl ic_1 rfl ?_
          refine w_goto (tgt := 14) dX2_drawDay_51 (by decide) ?_
          have hno : ¬ (p.2.1 j ≤ remI (drawV (drawZ (I1 dz 0))) 100 ∧ pBs p j) := by first | exact fun q => absurd q.1 (Int32.not_le.mpr c34) | exact fun q => (bI_e.mp c43) q.2
          have hdr : drwF p (k + 1) j (I1 dz 0) = drwF p k (j + 1) (drawZ (I1 dz 0)) := cif_f hno
          simp only [nI_1]
          refine ih (j + 1) I2 (by omega) hX2 ?_
          rw [hdr] at hq
          rw [hC2]
          exact hq
        · refine w_aload_n dX2_drawDay_37 rfl ?_
          refine w_getR dX2_drawDay_38 flX2_29 rfl (hs.r (a := 59) (j := 5) (b := 71) 70 rfl) ?_
          refine w_iload_n dX2_drawDay_41 rfl ?_
          refine w_zald dX2_drawDay_42 rfl (hs.n (a := 71) (z := 31) 49 rfl) (by omega) ?_
          refine w_top (y := bI (pBs p j)) ((congrFun (hX2 71 (Ne.symm hd1)) _).trans (hb j (by omega))) ?_
          refine w_if_eq (tgt := 48) dX2_drawDay_43 (by decide) (fun c43 => ?_) (fun c43 => ?_)
          · refine w_iinc (al' := [_, _, _, _]) dX2_drawDay_48 rfl rfl ic_1 rfl ?_
            refine w_goto (tgt := 14) dX2_drawDay_51 (by decide) ?_
            have hno : ¬ (p.2.1 j ≤ remI (drawV (drawZ (I1 dz 0))) 100 ∧ pBs p j) := by first | exact fun q => absurd q.1 (Int32.not_le.mpr c34) | exact fun q => (bI_e.mp c43) q.2
            have hdr : drwF p (k + 1) j (I1 dz 0) = drwF p k (j + 1) (drawZ (I1 dz 0)) := cif_f hno
            simp only [nI_1]
            refine ih (j + 1) I2 (by omega) hX2 ?_
            rw [hdr] at hq
            rw [hC2]
            exact hq
          · refine w_iload_n dX2_drawDay_46 rfl ?_
            refine w_ireturn dX2_drawDay_47 rfl rfl ?_
            have hdr : drwF p (k + 1) j (I1 dz 0) = (nI j, drawZ (I1 dz 0)) := cif_t ⟨Int32.not_lt.mp c34, bI_n.mp c43⟩
            have := hq I2 hX2 (by rw [hdr]; exact hC2)
            rw [hdr] at this
            exact q_e (told_s rfl (by omega)) this
  refine ca_in (al := [_, _, _, _]) rfl ?_
  refine w_iload_n dX2_drawDay_0 rfl ?_
  refine w_iconst dX2_drawDay_1 ic_0 ?_
  refine w_iconst dX2_drawDay_2 ic_5 ?_
  refine c_S (as := [_, _, _]) (d' := 0) dX2_drawDay_3 nlX2_108 moX9_within msX9_within rfl rfl rfl rfl rfl (by decide) (sX9_within ?_)
  refine w_ifB_ne (tgt := 12) dX2_drawDay_6 (by decide) (fun c6 => ?_) (fun c6 => ?_)
  · refine w_iconst dX2_drawDay_12 ic_0 ?_
    refine w_istore_n (al' := [_, _, _, _]) dX2_drawDay_13 rfl rfl rfl ?_
    exact lp 31 0 I rfl (fun _ _ => rfl) hq
  · exact absurd ⟨nI_pos' (by omega), nI_le (b := 5) (by omega) (by omega)⟩ c6

set_option maxRecDepth 20000 in
theorem sX10_drawsDay (hs : SK R N) {p : PL} (hb : ∀ j, j < 31 → I 126 j = bI (pBs p j)) (hf : ∀ j, j < 31 → I 122 j = p.2.1 j)
    (hq : ∀ I' : HI, (∀ q, q ≠ 118 → I' q = I q) → I' 118 = va_up (I 118) 0 (drwF p 31 0 (I 118 0)).2 → Q (vI (drwF p 31 0 (I 118 0)).1) I' L R N n) : CA sc 1 0 0 mX10_drawsDay [vR 10 117] I L R N n Q := by
  have lp : ∀ (k j : Nat) (I1 : HI), j + k = 31 → (∀ q, q ≠ 118 → I1 q = I q) → (∃ z, I1 118 = va_up (I 118) 0 z) → (∀ I' : HI, (∀ q, q ≠ 118 → I' q = I q) → I' 118 = va_up (I 118) 0 (drwF p k j (I1 118 0)).2 → Q (vI (drwF p k j (I1 118 0)).1) I' L R N n) → WP sc 1 0 0 mX10_drawsDay 2 [vR 10 117, vI (nI j), vU] [] I1 L R N n Q := by
    intro k
    induction k with
    | zero =>
      intro j I1 hj hI1 hz hq
      refine w_iload_n dX10_drawsDay_2 rfl ?_
      refine w_bipush dX10_drawsDay_3 bp_31 ?_
      refine w_icmp_ge (tgt := 43) dX10_drawsDay_5 (by decide) (fun c5 => ?_) (fun c5 => ?_)
      · refine w_iconst dX10_drawsDay_43 ic_m1 ?_
        refine w_ireturn dX10_drawsDay_44 rfl rfl ?_
        obtain ⟨z, hz⟩ := hz
        exact hq I1 hI1 (by rw [hz]; show va_up (I 118) 0 z = va_up (I 118) 0 (va_up (I 118) 0 z 0); rw [va_up_self])
      · exact absurd (nI_le (a := 31) (by omega) (by omega)) c5
    | succ k ih =>
      intro j I1 hj hI1 hz hq
      refine w_iload_n dX10_drawsDay_2 rfl ?_
      refine w_bipush dX10_drawsDay_3 bp_31 ?_
      refine w_icmp_ge (tgt := 43) dX10_drawsDay_5 (by decide) (fun c5 => ?_) (fun c5 => ?_)
      · exact absurd ((nI_leI (a := 31) (by omega) (by omega)).mp c5) (by omega)
      · refine w_aload_n dX10_drawsDay_8 rfl ?_
        refine c_V (t := 10) (as := []) (d' := 0) dX10_drawsDay_9 mlX10_120 moX10_draw mvX10_draw ⟨rfl, rfl⟩ rfl rfl rfl rfl rfl (by decide) (sX10_draw hs ?_)
        obtain ⟨z, hz⟩ := hz
        have hX2 : ∀ q, q ≠ 118 → (va_up I1 118 (va_up (I1 118) 0 (drawZ (I1 118 0)))) q = I q := fun q h => (va_up_ne _ _ h).trans (hI1 q h)
        have hX3 : (va_up I1 118 (va_up (I1 118) 0 (drawZ (I1 118 0)))) 118 = va_up (I 118) 0 (drawZ (I1 118 0)) := by rw [va_up_self, hz, up_up]
        generalize hIe : va_up I1 118 (va_up (I1 118) 0 (drawZ (I1 118 0))) = I2 at hX2 hX3 ⊢
        refine w_bipush dX10_drawsDay_12 bp_100 ?_
        refine w_irem dX10_drawsDay_14 (by decide) ?_
        refine w_istore_n (al' := [_, _, _]) dX10_drawsDay_15 rfl rfl rfl ?_
        refine w_iload_n dX10_drawsDay_16 rfl ?_
        refine w_aload_n dX10_drawsDay_17 rfl ?_
        refine w_getR dX10_drawsDay_18 flX10_22 rfl (hs.r (a := 117) (j := 5) (b := 122) 120 rfl) ?_
        refine w_iload_n dX10_drawsDay_21 rfl ?_
        refine w_iald dX10_drawsDay_22 rfl (hs.n (a := 122) (z := 31) 76 rfl) (by omega) ?_
        refine w_top (y := p.2.1 j) ((congrFun (hX2 122 (by decide)) _).trans (hf j (by omega))) ?_
        refine w_icmp_lt (tgt := 37) dX10_drawsDay_23 (by decide) (fun c23 => ?_) (fun c23 => ?_)
        · refine w_iinc (al' := [_, _, _]) dX10_drawsDay_37 rfl rfl ic_1 rfl ?_
          refine w_goto (tgt := 2) dX10_drawsDay_40 (by decide) ?_
          have hno : ¬ (p.2.1 j ≤ remI (drawV (drawZ (I1 118 0))) 100 ∧ pBs p j) := by first | exact fun q => absurd q.1 (Int32.not_le.mpr c23) | exact fun q => (bI_e.mp c32) q.2
          have hdr : drwF p (k + 1) j (I1 118 0) = drwF p k (j + 1) (drawZ (I1 118 0)) := cif_f hno
          refine w_kill (i := 2) (al' := [_, _, _]) rfl ?_
          simp only [nI_1]
          refine ih (j + 1) I2 (by omega) hX2 ⟨_, hX3⟩ ?_
          rw [hdr] at hq
          rw [show I2 118 0 = drawZ (I1 118 0) by rw [hX3, va_up_self]]
          exact hq
        · refine w_aload_n dX10_drawsDay_26 rfl ?_
          refine w_getR dX10_drawsDay_27 flX10_34 rfl (hs.r (a := 117) (j := 9) (b := 126) 124 rfl) ?_
          refine w_iload_n dX10_drawsDay_30 rfl ?_
          refine w_zald dX10_drawsDay_31 rfl (hs.n (a := 126) (z := 31) 80 rfl) (by omega) ?_
          refine w_top (y := bI (pBs p j)) ((congrFun (hX2 126 (by decide)) _).trans (hb j (by omega))) ?_
          refine w_if_eq (tgt := 37) dX10_drawsDay_32 (by decide) (fun c32 => ?_) (fun c32 => ?_)
          · refine w_iinc (al' := [_, _, _]) dX10_drawsDay_37 rfl rfl ic_1 rfl ?_
            refine w_goto (tgt := 2) dX10_drawsDay_40 (by decide) ?_
            have hno : ¬ (p.2.1 j ≤ remI (drawV (drawZ (I1 118 0))) 100 ∧ pBs p j) := by first | exact fun q => absurd q.1 (Int32.not_le.mpr c23) | exact fun q => (bI_e.mp c32) q.2
            have hdr : drwF p (k + 1) j (I1 118 0) = drwF p k (j + 1) (drawZ (I1 118 0)) := cif_f hno
            refine w_kill (i := 2) (al' := [_, _, _]) rfl ?_
            simp only [nI_1]
            refine ih (j + 1) I2 (by omega) hX2 ⟨_, hX3⟩ ?_
            rw [hdr] at hq
            rw [show I2 118 0 = drawZ (I1 118 0) by rw [hX3, va_up_self]]
            exact hq
          · refine w_iload_n dX10_drawsDay_35 rfl ?_
            refine w_ireturn dX10_drawsDay_36 rfl rfl ?_
            have hdr : drwF p (k + 1) j (I1 118 0) = (nI j, drawZ (I1 118 0)) := cif_t ⟨Int32.not_lt.mp c23, bI_n.mp c32⟩
            have := hq I2 hX2 (by rw [hdr]; exact hX3)
            rw [hdr] at this
            exact this
  refine ca_in (al := [_, _, _]) rfl ?_
  refine w_iconst dX10_drawsDay_0 ic_0 ?_
  refine w_istore_n (al' := [_, _, _]) dX10_drawsDay_1 rfl rfl rfl ?_
  exact lp 31 0 I rfl (fun _ _ => rfl) ⟨I 118 0, (up_id _ _).symm⟩ hq

end
