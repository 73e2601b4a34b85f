section
variable {sc : SC} {I : HI} {L : HL} {R : HR} {N : HN} {n : Nat} {Q : HQ}
theorem kFS.keep {I' : HI} {R' : HR} {N' : HN} (h : kFS I R N) (hk : ∀ q, q < 117 → I' q = I q ∧ R' q = R q ∧ N' q = N q) : kFS I' R' N' := by
  obtain ⟨⟨a0, hu⟩, ⟨a1, hv⟩, ⟨a3, hp⟩, ⟨a4, ru⟩, a5, ⟨a6, pa⟩, ⟨a7, n81⟩, ⟨a8, n82⟩, ⟨a9, n83⟩, sh, sl, k2, k10⟩ := h
  have r0 : R' 0 = R 0 := (hk 0 (by omega)).2.1
  refine ⟨⟨by rw [r0]; exact a0, hu.keep (fun q _ h => hk q (by omega))⟩, ⟨by rw [r0]; exact a1, hv.keep (fun q _ h => hk q (by omega))⟩, ⟨by rw [r0]; exact a3, hp.keep (fun q _ h => hk q (by omega))⟩, ⟨by rw [r0]; exact a4, ru.keep (fun q _ h => hk q (by omega))⟩, by rw [r0]; exact a5, ⟨by rw [r0]; exact a6, pa.keep (fun q _ h => hk q (by omega))⟩, ⟨by rw [r0]; exact a7, by rw [(hk 81 (by omega)).2.2]; exact n81⟩, ⟨by rw [r0]; exact a8, by rw [(hk 82 (by omega)).2.2]; exact n82⟩, ⟨by rw [r0]; exact a9, by rw [(hk 83 (by omega)).2.2]; exact n83⟩, fun j hj => ⟨by rw [(hk 81 (by omega)).2.1]; exact (sh j hj).1, (sh j hj).2.keep (fun q _ h => hk q (by omega))⟩, fun j hj => ⟨by rw [(hk 82 (by omega)).2.1]; exact (sl j hj).1, (sl j hj).2.keep (fun q _ h => hk q (by omega))⟩, by rw [(hk 0 (by omega)).1]; exact k2, by rw [(hk 0 (by omega)).1]; exact k10⟩
theorem lw_lt {L j : Nat} (hL : L ≤ 3072) (hj : j ≤ 512) : (nI L - 6 < nI (6 * j)) ↔ L < 6 * j + 6 := by
  have h1 : (nI L - nI 6).toInt = (L : Int) - 6 := pk_sub_toInt (by omega) (by decide)
  have h2 : (nI (6 * j)).toInt = ((6 * j : Nat) : Int) := nI_toInt (by omega)
  rw [Int32.lt_iff_toInt_lt]
  show (nI L - nI 6).toInt < _ ↔ _
  rw [h1, h2]
  omega
theorem lw_63 (x : Int32) : ∃ q : Nat, q < 64 ∧ x &&& 63 = nI q := pk_andE x 6 (by decide)
set_option maxRecDepth 20000 in
theorem lL_loop (hL : sc.1 ≤ 3072) (hq : ∀ (I' : HI) (L' : HL) (R' : HR) (N' : HN) (n' : Nat), Q (vI 1) I' L' R' N' n') : ∀ (k j : Nat) (I1 : HI) (L1 : HL) (R1 : HR) (N1 : HN) (n1 : Nat), j + k = 512 → INV I1 R1 N1 n1 → WP sc 82 (2 * k) (99 * k) mL_law 18 [vS 4, vR 9 0, vR 10 117, vI (nI (6 * j))] [] I1 L1 R1 N1 n1 Q := by
  have lp : ∀ (k j : Nat) (I1 : HI) (L1 : HL) (R1 : HR) (N1 : HN) (n1 : Nat), j + k = 512 → INV I1 R1 N1 n1 → WP sc 82 (2 * k) (99 * k) mL_law 18 [vS 4, vR 9 0, vR 10 117, vI (nI (6 * j))] [] I1 L1 R1 N1 n1 Q := by
    intro k
    induction k with
    | zero =>
      intro j I1 L1 R1 N1 n1 hj hinv
      refine w_iload_n dL_law_18 rfl ?_
      refine w_aload_nS dL_law_19 rfl ?_
      refine w_slen dL_law_20 (by decide) ?_
      refine w_top (y := nI sc.1) (rfl) ?_
      refine w_bipush dL_law_21 bp_6 ?_
      refine w_isub dL_law_23 ?_
      refine w_icmp_gt (tgt := 1432) dL_law_24 (by decide) (fun c24 => ?_) (fun c24 => ?_)
      · refine w_iconst dL_law_1432 ic_1 ?_
        refine w_ireturn dL_law_1433 rfl rfl ?_
        exact hq _ _ _ _ _
      · exact absurd ((lw_lt hL (by omega)).mpr (by omega)) c24
    | succ k ih =>
      intro j I1 L1 R1 N1 n1 hj hinv
      have hnext : ∀ (I' : HI) (L' : HL) (R' : HR) (N' : HN) (n' : Nat), INV I' R' N' n' → WP sc 82 (2 * k) (99 * k) mL_law 1426 [vS 4, vR 9 0, vR 10 117, vI (nI (6 * j))] [] I' L' R' N' n' Q := by
        intro I' L' R' N' n' h'
        refine w_iinc (al' := [_, _, _, _]) dL_law_1426 rfl rfl ic_6 rfl ?_
        refine w_goto (tgt := 18) dL_law_1429 (by decide) ?_
        rw [show nI (6 * j) + 6 = nI (6 * (j + 1)) from nI_add (6 * j) 6]
        exact ih (j + 1) I' L' R' N' n' (by omega) h'
      refine WP.room (mc := 2 * k + 2) (ms := 99 * k + 99) ?_ (by omega) (by omega)
      refine w_iload_n dL_law_18 rfl ?_
      refine w_aload_nS dL_law_19 rfl ?_
      refine w_slen dL_law_20 (by decide) ?_
      refine w_top (y := nI sc.1) (rfl) ?_
      refine w_bipush dL_law_21 bp_6 ?_
      refine w_isub dL_law_23 ?_
      refine w_icmp_gt (tgt := 1432) dL_law_24 (by decide) (fun c24 => ?_) (fun c24 => ?_)
      · refine w_iconst dL_law_1432 ic_1 ?_
        refine w_ireturn dL_law_1433 rfl rfl ?_
        exact hq _ _ _ _ _
      · have hi : 6 * j + 6 ≤ sc.1 := Nat.le_of_not_lt (fun q => c24 ((lw_lt hL (by omega)).mpr q))
        refine w_aload_nS dL_law_27 rfl ?_
        refine w_iload_n dL_law_28 rfl ?_
        refine w_sald (q := 6 * j) dL_law_29 (by decide) rfl (show svN sc 4 = sc.1 from rfl) (by omega) ?_ (by omega)
        refine w_bipush dL_law_30 bp_63 ?_
        refine w_iand dL_law_32 ?_
        obtain ⟨q, hq64, eq⟩ := lw_63 (svI sc 4 (6 * j))
        refine w_top (y := nI q) (eq) ?_
        rcases (show q = 0 ∨ q = 1 ∨ q = 2 ∨ q = 3 ∨ q = 4 ∨ q = 5 ∨ q = 6 ∨ q = 7 ∨ q = 8 ∨ q = 9 ∨ q = 10 ∨ q = 11 ∨ q = 12 ∨ q = 13 ∨ q = 14 ∨ q = 15 ∨ q = 16 ∨ q = 17 ∨ q = 18 ∨ q = 19 ∨ q = 20 ∨ q = 21 ∨ q = 22 ∨ q = 23 ∨ q = 24 ∨ q = 25 ∨ q = 26 ∨ q = 27 ∨ q = 28 ∨ q = 29 ∨ q = 30 ∨ q = 31 ∨ q = 32 ∨ q = 33 ∨ q = 34 ∨ q = 35 ∨ q = 36 ∨ q = 37 ∨ q = 38 ∨ q = 39 ∨ q = 40 ∨ 41 ≤ q by omega) with rfl | rfl | rfl | rfl | rfl | rfl | rfl | rfl | rfl | rfl | rfl | rfl | rfl | rfl | rfl | rfl | rfl | rfl | rfl | rfl | rfl | rfl | rfl | rfl | rfl | rfl | rfl | rfl | rfl | rfl | rfl | rfl | rfl | rfl | rfl | rfl | rfl | rfl | rfl | rfl | rfl | hq41
        · refine w_tblIn (tgt := 212) dL_law_33 (by decide) (by decide) rfl (by decide) ?_
          exact lL_sort hi hL hinv hnext
        · refine w_tblIn (tgt := 255) dL_law_33 (by decide) (by decide) rfl (by decide) ?_
          exact lL_sortTold hi hL hinv hnext
        · refine w_tblIn (tgt := 288) dL_law_33 (by decide) (by decide) rfl (by decide) ?_
          exact lL_change hi hL hinv hnext
        · refine w_tblIn (tgt := 331) dL_law_33 (by decide) (by decide) rfl (by decide) ?_
          exact lL_deal hi hL hinv hnext
        · refine w_tblIn (tgt := 354) dL_law_33 (by decide) (by decide) rfl (by decide) ?_
          exact lL_rule hi hL hinv hnext
        · refine w_tblIn (tgt := 407) dL_law_33 (by decide) (by decide) rfl (by decide) ?_
          exact lL_told hi hL hinv hnext
        · refine w_tblIn (tgt := 440) dL_law_33 (by decide) (by decide) rfl (by decide) ?_
          exact lL_as hi hL hinv hnext
        · refine w_tblIn (tgt := 473) dL_law_33 (by decide) (by decide) rfl (by decide) ?_
          exact lL_turns hi hL hinv hnext
        · refine w_tblIn (tgt := 506) dL_law_33 (by decide) (by decide) rfl (by decide) ?_
          exact lL_set hi hL hinv hnext
        · refine w_tblIn (tgt := 549) dL_law_33 (by decide) (by decide) rfl (by decide) ?_
          exact lL_owes hi hL hinv hnext
        · refine w_tblIn (tgt := 582) dL_law_33 (by decide) (by decide) rfl (by decide) ?_
          exact lL_force hi hL hinv hnext
        · refine w_tblIn (tgt := 605) dL_law_33 (by decide) (by decide) rfl (by decide) ?_
          exact lL_card hi hL hinv hnext
        · refine w_tblIn (tgt := 628) dL_law_33 (by decide) (by decide) rfl (by decide) ?_
          exact lL_reader hi hL hinv hnext
        · refine w_tblIn (tgt := 671) dL_law_33 (by decide) (by decide) rfl (by decide) ?_
          exact lL_first hi hL hinv hnext
        · refine w_tblIn (tgt := 704) dL_law_33 (by decide) (by decide) rfl (by decide) ?_
          exact lL_run hi hL hinv hnext
        · refine w_tblIn (tgt := 727) dL_law_33 (by decide) (by decide) rfl (by decide) ?_
          exact lL_year hi hL hinv hnext
        · refine w_tblIn (tgt := 740) dL_law_33 (by decide) (by decide) rfl (by decide) ?_
          exact lL_seed hi hL hinv hnext
        · refine w_tblIn (tgt := 763) dL_law_33 (by decide) (by decide) rfl (by decide) ?_
          exact lL_library hi hL hinv hnext
        · refine w_tblIn (tgt := 787) dL_law_33 (by decide) (by decide) rfl (by decide) ?_
          exact lL_find hi hL hinv hnext
        · refine w_tblIn (tgt := 800) dL_law_33 (by decide) (by decide) rfl (by decide) ?_
          exact lL_edge hi hL hinv hnext
        · refine w_tblIn (tgt := 823) dL_law_33 (by decide) (by decide) rfl (by decide) ?_
          exact lL_write hi hL hinv hnext
        · refine w_tblIn (tgt := 836) dL_law_33 (by decide) (by decide) rfl (by decide) ?_
          exact lL_least hi hL hinv hnext
        · refine w_tblIn (tgt := 849) dL_law_33 (by decide) (by decide) rfl (by decide) ?_
          exact lL_feed hi hL hinv hnext
        · refine w_tblIn (tgt := 892) dL_law_33 (by decide) (by decide) rfl (by decide) ?_
          exact lL_trim hi hL hinv hnext
        · refine w_tblIn (tgt := 915) dL_law_33 (by decide) (by decide) rfl (by decide) ?_
          exact lL_text hi hL hinv hnext
        · refine w_tblIn (tgt := 928) dL_law_33 (by decide) (by decide) rfl (by decide) ?_
          exact lL_textTold hi hL hinv hnext
        · refine w_tblIn (tgt := 961) dL_law_33 (by decide) (by decide) rfl (by decide) ?_
          exact lL_why hi hL hinv hnext
        · refine w_tblIn (tgt := 984) dL_law_33 (by decide) (by decide) rfl (by decide) ?_
          exact lL_sheet hi hL hinv hnext
        · refine w_tblIn (tgt := 1027) dL_law_33 (by decide) (by decide) rfl (by decide) ?_
          exact lL_mark hi hL hinv hnext
        · refine w_tblIn (tgt := 1070) dL_law_33 (by decide) (by decide) rfl (by decide) ?_
          exact lL_learn hi hL hinv hnext
        · refine w_tblIn (tgt := 1093) dL_law_33 (by decide) (by decide) rfl (by decide) ?_
          exact lL_reads hi hL hinv hnext
        · refine w_tblIn (tgt := 1126) dL_law_33 (by decide) (by decide) rfl (by decide) ?_
          exact lL_copy hi hL hinv hnext
        · refine w_tblIn (tgt := 1189) dL_law_33 (by decide) (by decide) rfl (by decide) ?_
          exact lL_lay hi hL hinv hnext
        · refine w_tblIn (tgt := 1232) dL_law_33 (by decide) (by decide) rfl (by decide) ?_
          exact lL_ask hi hL hinv hnext
        · refine w_tblIn (tgt := 1265) dL_law_33 (by decide) (by decide) rfl (by decide) ?_
          exact lL_item hi hL hinv hnext
        · refine w_tblIn (tgt := 1298) dL_law_33 (by decide) (by decide) rfl (by decide) ?_
          exact lL_rest hi hL hinv hnext
        · refine w_tblIn (tgt := 1331) dL_law_33 (by decide) (by decide) rfl (by decide) ?_
          exact lL_tell hi hL hinv hnext
        · refine w_tblIn (tgt := 1354) dL_law_33 (by decide) (by decide) rfl (by decide) ?_
          exact lL_check hi hL hinv hnext
        · refine w_tblIn (tgt := 1377) dL_law_33 (by decide) (by decide) rfl (by decide) ?_
          exact lL_keep hi hL hinv hnext
        · refine w_tblIn (tgt := 1390) dL_law_33 (by decide) (by decide) rfl (by decide) ?_
          exact lL_back hi hL hinv hnext
        · refine w_tblIn (tgt := 1403) dL_law_33 (by decide) (by decide) rfl (by decide) ?_
          exact lL_count hi hL hinv hnext
        · refine w_tblOut (tgt := 1426) dL_law_33 (by rw [nI_toInt (by omega)]; omega) (by decide) ?_
          exact (hnext I1 L1 R1 N1 n1 hinv).room (by omega) (by omega)
  exact lp

theorem sX9_init117 (hq : ∀ (I' : HI) (L' : HL) (R' : HR) (N' : HN), kFS I' R' N' → Q vU I' L' R' N' 117) : CA sc 3 116 1429 mX9_init [vR 9 0] I L R N (0 + 1) Q := sX9_init hq
theorem sX10_init146 (h0 : ∀ j, I 117 j = 0) (hq : ∀ (I' : HI) (R' : HR) (N' : HN), (∀ q, q < 117 → I' q = I q) → (∀ q, q < 117 → R' q = R q) → (∀ q, q < 117 → N' q = N q) → kMI I' → kMR R' → kMN N' → Q vU I' L R' N' 146) : CA sc 1 28 5345 mX10_init [vR 10 117] I L R N (117 + 1) Q := sX10_init h0 hq
set_option maxRecDepth 20000 in
theorem lL_start (hL : sc.1 ≤ 3072) (hq : ∀ (I' : HI) (L' : HL) (R' : HR) (N' : HN) (n' : Nat), Q (vI 1) I' L' R' N' n') : WP sc 82 1170 57517 mL_law 0 [vS 4, vU, vU, vU] [] I L R N 0 Q := by
  refine k_new (t := 9) (z := 11) (mc := 1169) (ms := 57506) dL_law_0 (by decide) clL_7 itX9 iiX9 rfl (by decide) (by decide) (fun J0 L0 Q0 jA0 jZ0 qA0 => ?_)
  refine w_dup dL_law_3 rfl ?_
  refine k_I (t := 9) (as := []) (d' := 3) (mc := 1053) (mc2 := 116) (ms := 56077) (ms2 := 1429) dL_law_4 (Or.inl mlL_9) moX9_init imX9_init rfl rfl rfl rfl rfl rfl (by decide) (by decide) (by decide) (sX9_init117 (fun J1 L1 Q1 N1 hF1 => ?_))
  refine w_astore_n (al' := [_, _, _, _]) dL_law_7 rfl rfl rfl ?_
  refine k_new (t := 10) (z := 44) (mc := 1052) (ms := 56033) dL_law_8 (by decide) clL_10 itX10 iiX10 rfl (by decide) (by decide) (fun J2 L2 Q2 jA2 jZ2 qA2 => ?_)
  refine w_dup dL_law_11 rfl ?_
  refine k_I (t := 10) (as := []) (d' := 1) (mc := 1024) (mc2 := 28) (ms := 50688) (ms2 := 5345) dL_law_12 (Or.inl mlL_12) moX10_init imX10_init rfl rfl rfl rfl rfl rfl (by decide) (by decide) (by decide) (sX10_init146 jZ2 (fun J3 Q3 N3 jA3 qA3 nA3 hI3 hR3 hN3 => ?_))
  refine w_astore_n (al' := [_, _, _, _]) dL_law_15 rfl rfl rfl ?_
  refine w_iconst dL_law_16 ic_0 ?_
  refine w_istore_n (al' := [_, _, _, _]) dL_law_17 rfl rfl rfl ?_
  have hF3 : kFS J3 Q3 N3 := hF1.keep (fun q hq => ⟨(jA3 q hq).trans (jA2 q (by omega)), (qA3 q hq).trans (qA2 q (by omega)), nA3 q hq⟩)
  exact lL_loop hL hq 512 0 J3 L2 Q3 N3 146 rfl (INV_0 hF3 hI3 hR3 hN3 (Nat.le_refl _))
end
