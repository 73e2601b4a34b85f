section
variable {sc : SC} {I : HI} {L : HL} {R : HR} {N : HN} {n : Nat} {Q : HQ}
noncomputable def planV (V : VV) (s : Nat) : PL := plV V (owV V) (told (V 4)) s
noncomputable def oReader (V : VV) (a d v : Int32) : Int32 := cif (isS V a ∧ (0 ≤ d ∧ d ≤ 30) ∧ (0 ≤ v ∧ v ≤ 6)) (partV (planV V a.toNatClampNeg) d.toNatClampNeg v) (-1000000001)
noncomputable def oFirst (V : VV) (a b : Int32) : Int32 := cif (isS V a ∧ (0 ≤ b ∧ b ≤ 2)) (frst (fstP (planV V a.toNatClampNeg) b.toNatClampNeg) 31 0) (-1000000001)
noncomputable def oRun (V : VV) (a : Int32) : VV × Int32 := cif (isS V a) (va_up V 0 (drwF (planV V a.toNatClampNeg) 31 0 (V 0)).2, told (drwF (planV V a.toNatClampNeg) 31 0 (V 0)).1) (V, -1000000001)
noncomputable def oLib (V : VV) (b : Int32) : Int64 := cif (0 ≤ b ∧ b ≤ 3) (if b = 0 then libD V (owV V) (told (V 4)) (nS V) else if b = 1 then libC V (owV V) (told (V 4)) (nS V) else if b = 2 then libL V (owV V) (told (V 4)) (nS V) else libK V (owV V) (told (V 4)) (nS V)) (-1000000001)
theorem VO_oRun {V : VV} (hV : VO V) (a : Int32) : VO (oRun V a).1 := by
  unfold oRun
  by_cases h : isS V a
  · rw [cif_t h]; exact hV.dice _
  · rw [cif_f h]; exact hV
theorem WC.diceF {I' : HI} {w : Nat} {V : VV} (hV : VO V) (hC : WC I R N n w V) (hw : w = 1 ∨ w = 30) {z : Int32} (hI : ∀ a, a ≠ w + 11 → I' a = I a) (hz : I' (w + 11) 0 = z) : WC I' R N n w (va_up V 0 z) := by
  have hi : ∀ i, i ≠ 0 → va_up V 0 z i = V i := fun i h => va_up_ne _ _ h
  have h6 := hV.1.2
  have h8 := hV.2.1.2
  refine hC.upd (same80_up (by decide) (by decide)) ?_ (fun s hs q hq => ?_) (fun r hr => ?_) (hI _ (by omega)) (fun a ha => hI a (by rcases hw with rfl | rfl <;> omega))
  · rw [hI w (by omega), hz, va_up_self, hi 1 (by decide), hi 2 (by decide), hi 3 (by decide), hi 4 (by decide)]
    exact ⟨hC.1.1, hC.1.2.1, hC.1.2.2.1, hC.1.2.2.2.1, rfl, rfl⟩
  · have : s < nS V := hs
    rw [hI _ (by omega), hi _ (by omega)]; exact hC.2.1 s hs q hq
  · have : r < nRu V := hr
    rw [hI _ (by omega), hI _ (by omega), hi _ (by omega)]
    exact ⟨(hC.2.2.1 r hr).1, fun j hj => by rw [hi _ (by omega)]; exact (hC.2.2.1 r hr).2 j hj⟩
theorem drw_rng (p : PL) : ∀ (k j : Nat) (z : Int32), (drwF p k j z).1 = -1 ∨ ∃ i, i < j + k ∧ (drwF p k j z).1 = nI i
  | 0, j, z => Or.inl rfl
  | k + 1, j, z => by
    unfold drwF
    by_cases h : p.2.1 j ≤ remI (drawV (drawZ z)) 100 ∧ pBs p j
    · rw [cif_t h]; exact Or.inr ⟨j, by omega, rfl⟩
    · rw [cif_f h]
      rcases drw_rng p k (j + 1) (drawZ z) with e | ⟨i, h1, h2⟩
      · exact Or.inl e
      · exact Or.inr ⟨i, by omega, h2⟩
theorem plan_0 (V : VV) (z : Int32) {s : Nat} (h : s < 6) : planV (va_up V 0 z) s = planV V s := by
  have h80 : same80 V (va_up V 0 z) := same80_up (by decide) (by decide)
  have ho : owV (va_up V 0 z) = owV V := by
    unfold owV owAt
    rw [va_up_ne V z (show (3 : Nat) ≠ 0 by decide)]
    split
    · rfl
    · rw [owRule_80 h80, va_up_ne _ _ (by omega), va_up_ne _ _ (by omega), va_up_ne _ _ (by omega), va_up_ne _ _ (by omega)]
  unfold planV
  rw [plV_80 h80 (fun i h1 h2 => va_up_ne _ _ (by omega)) h, ho, va_up_ne V z (show (4 : Nat) ≠ 0 by decide)]
theorem ow_0 (V : VV) (z : Int32) : owV (va_up V 0 z) = owV V := by
  have h80 : same80 V (va_up V 0 z) := same80_up (by decide) (by decide)
  unfold owV owAt
  rw [va_up_ne V z (show (3 : Nat) ≠ 0 by decide)]
  split
  · rfl
  · rw [owRule_80 h80, va_up_ne _ _ (by omega), va_up_ne _ _ (by omega), va_up_ne _ _ (by omega), va_up_ne _ _ (by omega)]

set_option maxRecDepth 20000 in
theorem sX9_reader (hs : SK R N) {V : VV} (hV : VO V) (hC : WC I R N n 1 V) {a d v : Int32} (hq : ∀ I' : HI, (∀ q, FC q → I' q = I q) → WC I' R N n 1 V → Q (vI (oReader V a d v)) I' L R N n) : CA sc 6 0 0 mX9_reader [vR 9 0, vI a, vI d, vI v] I L R N n Q := by
  refine ca_in (al := [_, _, _, _]) rfl ?_
  refine w_aload_n dX9_reader_0 rfl ?_
  refine w_getR dX9_reader_1 flX9_10 rfl (hs.r (a := 0) (j := 0) (b := 1) 0 rfl) ?_
  refine w_iload_n dX9_reader_4 rfl ?_
  refine c_V (t := 8) (as := [_]) (d' := 1) dX9_reader_5 mlX9_82 moX8_hasSort mvX8_hasSort ⟨rfl, rfl⟩ rfl rfl rfl rfl rfl (by decide) (sX8_hasSort ?_)
  refine w_ifB_eq (tgt := 28) dX9_reader_8 (by decide) (fun c8 => ?_) (fun c8 => ?_)
  · have ha : ¬ isS V a := by unfold isS; rw [← hC.1.1]; exact c8
    refine w_ldc dX9_reader_28 kcX9_77 ?_
    refine w_ireturn dX9_reader_30 rfl rfl ?_
    have e : oReader V a d v = -1000000001 := cif_f (fun z => by first | exact ha z.1)
    rw [e] at hq
    exact hq I (fun _ _ => rfl) hC
  · have ha : isS V a := by unfold isS; rw [← hC.1.1]; exact c8
    obtain ⟨s, hss, rfl⟩ := isS_of hV ha
    have h6 := hV.1.2
    have hcl : (nI s).toNatClampNeg = s := nI_clamp (by omega)
    refine w_iload_n dX9_reader_11 rfl ?_
    refine c_S (as := [_]) (d' := 1) dX9_reader_12 (Or.inl mlX9_134) moX9_isDay msX9_isDay rfl rfl rfl rfl rfl (by decide) (sX9_isDay ?_)
    refine w_ifB_eq (tgt := 28) dX9_reader_15 (by decide) (fun c15 => ?_) (fun c15 => ?_)
    · refine w_ldc dX9_reader_28 kcX9_77 ?_
      refine w_ireturn dX9_reader_30 rfl rfl ?_
      have e : oReader V (nI s) d v = -1000000001 := cif_f (fun z => by first | exact c15 z.2.1 | exact c25 z.2.2)
      rw [e] at hq
      exact hq I (fun _ _ => rfl) hC
    · refine w_iload_n dX9_reader_18 rfl ?_
      refine w_iconst dX9_reader_19 ic_0 ?_
      refine w_bipush dX9_reader_20 bp_6 ?_
      refine c_S (as := [_, _, _]) (d' := 0) dX9_reader_22 (Or.inl mlX9_86) moX9_within msX9_within rfl rfl rfl rfl rfl (by decide) (sX9_within ?_)
      refine w_ifB_ne (tgt := 31) dX9_reader_25 (by decide) (fun c25 => ?_) (fun c25 => ?_)
      · obtain ⟨j, hj30, rfl⟩ := in_of (m := 30) (by decide) c15
        have e : oReader V (nI s) (nI j) v = partV (planV V s) j v := by unfold oReader; rw [cif_t ⟨isS_to hV hss, in_to (m := 30) (by decide) hj30, c25⟩, hcl, nI_clamp (by omega)]
        rw [e] at hq
        refine w_aload_n dX9_reader_31 rfl ?_
        refine w_getR dX9_reader_32 flX9_26 rfl (hs.r (a := 0) (j := 3) (b := 59) 2 rfl) ?_
        refine w_aload_n dX9_reader_35 rfl ?_
        refine w_getR dX9_reader_36 flX9_10 rfl (hs.r (a := 0) (j := 0) (b := 1) 0 rfl) ?_
        refine w_iload_n dX9_reader_39 rfl ?_
        refine c_Vv (t := 2) (as := [_, _]) (d' := 5) dX9_reader_40 mlX9_148 moX2_followOne mvX2_followOne ⟨rfl, rfl⟩ rfl rfl rfl rfl rfl (by decide) (sX2_followOne hs (Or.inl rfl) hV hC hss (fun I2 hI2 hF2 ho2 hf2 => ?_))
        refine w_aload_n dX9_reader_43 rfl ?_
        refine w_getR dX9_reader_44 flX9_26 rfl (hs.r (a := 0) (j := 3) (b := 59) 2 rfl) ?_
        refine w_iload_n dX9_reader_47 rfl ?_
        refine w_iload_n dX9_reader_48 rfl ?_
        refine w_iload_n dX9_reader_49 rfl ?_
        refine c_V (t := 2) (as := [_, _, _]) (d' := 2) dX9_reader_50 mlX9_152 moX2_partOf mvX2_partOf ⟨rfl, rfl⟩ rfl rfl rfl rfl rfl (by decide) (sX2_partOf hs (p := planV V s) (by omega) (by omega) hF2 hf2 c25 ?_)
        refine w_ireturn dX9_reader_53 rfl rfl ?_
        exact hq I2 (fun z h => hI2 z (by unfold FC at h; omega) (by unfold FC at h; omega)) (hC.keep hV (fun z hz => hI2 z (by unfold WA at hz; omega) (by unfold WA at hz; omega)))
      · refine w_ldc dX9_reader_28 kcX9_77 ?_
        refine w_ireturn dX9_reader_30 rfl rfl ?_
        have e : oReader V (nI s) d v = -1000000001 := cif_f (fun z => by first | exact c15 z.2.1 | exact c25 z.2.2)
        rw [e] at hq
        exact hq I (fun _ _ => rfl) hC

set_option maxRecDepth 20000 in
theorem sX10_findReader (hs : SK R N) {V : VV} (hI : I 118 = V) (hV : VO V) {s : Nat} (hss : s < nS V)
    (hq : ∀ I' : HI, (∀ q, q ≠ 135 → q ≠ 136 → (q < 121 ∨ 129 ≤ q) → I' q = I q) → MF I' (planV V s) → I' 128 0 = 1000000 → (∀ j, j < 31 → I' 121 j = owV V j) → Q vU I' L R N n) : CA sc 4 0 0 mX10_findReader [vR 10 117, vI (nI s)] I L R N n Q := by
  refine ca_in (al := [_, _]) rfl ?_
  refine w_aload_n dX10_findReader_0 rfl ?_
  refine c_Vv (t := 10) (as := []) (d' := 3) dX10_findReader_1 mlX10_172 moX10_findOwed mvX10_findOwed ⟨rfl, rfl⟩ rfl rfl rfl rfl rfl (by decide) (sX10_findOwed hs hI hV (fun I2 hI2 ho2 => ?_))
  refine w_aload_n dX10_findReader_4 rfl ?_
  refine w_iload_n dX10_findReader_5 rfl ?_
  refine c_Vv (t := 10) (as := [_]) (d' := 3) dX10_findReader_6 mlX10_175 moX10_findDays mvX10_findDays ⟨rfl, rfl⟩ rfl rfl rfl rfl rfl (by decide) (sX10_findDays hs ((hI2 118 (by decide) (by decide) (by decide)).trans hI) hV hss ho2 (fun I3 hI3 hM3 h128 => ?_))
  refine w_return dX10_findReader_9 rfl ?_
  exact hq I3 (fun q a1 a2 a3 => (hI3 q a1 a2 (by omega)).trans (hI2 q a1 a2 (by omega))) hM3 h128 (fun j hj => by rw [hI3 121 (by decide) (by decide) (by decide)]; exact ho2 j hj)

set_option maxRecDepth 20000 in
theorem sX10_reader (hs : SK R N) {V : VV} (hI : I 118 = V) (hV : VO V) {a d v : Int32} (hq : ∀ I' : HI, (∀ q, FM q → I' q = I q) → I' 118 = V → Q (vI (oReader V a d v)) I' L R N n) : CA sc 5 0 0 mX10_reader [vR 10 117, vI a, vI d, vI v] I L R N n Q := by
  refine ca_in (al := [_, _, _, _]) rfl ?_
  refine w_aload_n dX10_reader_0 rfl ?_
  refine w_iload_n dX10_reader_1 rfl ?_
  refine c_V (t := 10) (as := [_]) (d' := 1) dX10_reader_2 mlX10_107 moX10_isSort mvX10_isSort ⟨rfl, rfl⟩ rfl rfl rfl rfl rfl (by decide) (sX10_isSort hs ?_)
  refine w_ifB_eq (tgt := 25) dX10_reader_5 (by decide) (fun c5 => ?_) (fun c5 => ?_)
  · have ha : ¬ isS V a := by unfold isS; rw [← hI]; exact c5
    refine w_ldc dX10_reader_25 kcX10_101 ?_
    refine w_ireturn dX10_reader_27 rfl rfl ?_
    have e : oReader V a d v = -1000000001 := cif_f (fun z => by first | exact ha z.1)
    rw [e] at hq
    exact hq I (fun _ _ => rfl) hI
  · have ha : isS V a := by unfold isS; rw [← hI]; exact c5
    obtain ⟨s, hss, rfl⟩ := isS_of hV ha
    have h6 := hV.1.2
    have hcl : (nI s).toNatClampNeg = s := nI_clamp (by omega)
    refine w_iload_n dX10_reader_8 rfl ?_
    refine c_S (as := [_]) (d' := 1) dX10_reader_9 (Or.inl mlX10_156) moX10_isDay msX10_isDay rfl rfl rfl rfl rfl (by decide) (sX10_isDay ?_)
    refine w_ifB_eq (tgt := 25) dX10_reader_12 (by decide) (fun c12 => ?_) (fun c12 => ?_)
    · refine w_ldc dX10_reader_25 kcX10_101 ?_
      refine w_ireturn dX10_reader_27 rfl rfl ?_
      have e : oReader V (nI s) d v = -1000000001 := cif_f (fun z => by first | exact c12 z.2.1 | exact c22 z.2.2)
      rw [e] at hq
      exact hq I (fun _ _ => rfl) hI
    · refine w_iload_n dX10_reader_15 rfl ?_
      refine w_iconst dX10_reader_16 ic_0 ?_
      refine w_bipush dX10_reader_17 bp_6 ?_
      refine c_S (as := [_, _, _]) (d' := 0) dX10_reader_19 (Or.inl mlX10_97) moX10_in msX10_in rfl rfl rfl rfl rfl (by decide) (sX10_in ?_)
      refine w_ifB_ne (tgt := 28) dX10_reader_22 (by decide) (fun c22 => ?_) (fun c22 => ?_)
      · obtain ⟨j, hj30, rfl⟩ := in_of (m := 30) (by decide) c12
        have e : oReader V (nI s) (nI j) v = partV (planV V s) j v := by unfold oReader; rw [cif_t ⟨isS_to hV hss, in_to (m := 30) (by decide) hj30, c22⟩, hcl, nI_clamp (by omega)]
        rw [e] at hq
        refine w_aload_n dX10_reader_28 rfl ?_
        refine w_iload_n dX10_reader_29 rfl ?_
        refine c_Vv (t := 10) (as := [_]) (d' := 4) dX10_reader_30 mlX10_179 moX10_findReader mvX10_findReader ⟨rfl, rfl⟩ rfl rfl rfl rfl rfl (by decide) (sX10_findReader hs hI hV hss (fun I2 hI2 hM2 h128 ho2 => ?_))
        have hX2 : ∀ z, FM z → I2 z = I z := fun z h => hI2 z (by unfold FM at h; omega) (by unfold FM at h; omega) (by unfold FM at h; omega)
        have hV2 : I2 118 = V := (hI2 118 (by decide) (by decide) (by decide)).trans hI
        refine w_iload_n dX10_reader_33 rfl ?_
        by_cases w34_0 : v = 0
        · refine w_tblIn (tgt := 72) dX10_reader_34 (by rw [w34_0]; decide) (by rw [w34_0]; decide) (by rw [w34_0]; rfl) (by decide) ?_
          refine w_aload_n dX10_reader_72 rfl ?_
          refine w_getR dX10_reader_73 flX10_22 rfl (hs.r (a := 117) (j := 5) (b := 122) 120 rfl) ?_
          refine w_iload_n dX10_reader_76 rfl ?_
          refine w_iald dX10_reader_77 rfl (hs.n (a := 122) (z := 31) 76 rfl) (by omega) ?_
          refine w_top (y := (planV V s).2.1 j) ((hM2 j (by omega)).1) ?_
          refine w_ireturn dX10_reader_78 rfl rfl ?_
          refine q_e ?_ (hq I2 hX2 hV2)
          unfold partV
          simp_all
        by_cases w34_1 : v = 1
        · refine w_tblIn (tgt := 79) dX10_reader_34 (by rw [w34_1]; decide) (by rw [w34_1]; decide) (by rw [w34_1]; rfl) (by decide) ?_
          refine w_aload_n dX10_reader_79 rfl ?_
          refine w_getR dX10_reader_80 flX10_25 rfl (hs.r (a := 117) (j := 6) (b := 123) 121 rfl) ?_
          refine w_iload_n dX10_reader_83 rfl ?_
          refine w_iald dX10_reader_84 rfl (hs.n (a := 123) (z := 31) 77 rfl) (by omega) ?_
          refine w_top (y := pBri (planV V s) j) ((hM2 j (by omega)).2.1) ?_
          refine w_ireturn dX10_reader_85 rfl rfl ?_
          refine q_e ?_ (hq I2 hX2 hV2)
          unfold partV
          simp_all
        by_cases w34_2 : v = 2
        · refine w_tblIn (tgt := 86) dX10_reader_34 (by rw [w34_2]; decide) (by rw [w34_2]; decide) (by rw [w34_2]; rfl) (by decide) ?_
          refine w_aload_n dX10_reader_86 rfl ?_
          refine w_getR dX10_reader_87 flX10_28 rfl (hs.r (a := 117) (j := 7) (b := 124) 122 rfl) ?_
          refine w_iload_n dX10_reader_90 rfl ?_
          refine w_iald dX10_reader_91 rfl (hs.n (a := 124) (z := 31) 78 rfl) (by omega) ?_
          refine w_top (y := pKeep (planV V s) j) ((hM2 j (by omega)).2.2.1) ?_
          refine w_ireturn dX10_reader_92 rfl rfl ?_
          refine q_e ?_ (hq I2 hX2 hV2)
          unfold partV
          simp_all
        by_cases w34_3 : v = 3
        · refine w_tblIn (tgt := 93) dX10_reader_34 (by rw [w34_3]; decide) (by rw [w34_3]; decide) (by rw [w34_3]; rfl) (by decide) ?_
          refine w_aload_n dX10_reader_93 rfl ?_
          refine w_getR dX10_reader_94 flX10_31 rfl (hs.r (a := 117) (j := 8) (b := 125) 123 rfl) ?_
          refine w_iload_n dX10_reader_97 rfl ?_
          refine w_iald dX10_reader_98 rfl (hs.n (a := 125) (z := 32) 79 rfl) (by omega) ?_
          refine w_top (y := cst (planV V s) j) ((hM2 j (by omega)).2.2.2.1) ?_
          refine w_ireturn dX10_reader_99 rfl rfl ?_
          refine q_e ?_ (hq I2 hX2 hV2)
          unfold partV
          simp_all
        by_cases w34_4 : v = 4
        · refine w_tblIn (tgt := 100) dX10_reader_34 (by rw [w34_4]; decide) (by rw [w34_4]; decide) (by rw [w34_4]; rfl) (by decide) ?_
          refine w_aload_n dX10_reader_100 rfl ?_
          refine w_getR dX10_reader_101 flX10_34 rfl (hs.r (a := 117) (j := 9) (b := 126) 124 rfl) ?_
          refine w_iload_n dX10_reader_104 rfl ?_
          refine w_zald dX10_reader_105 rfl (hs.n (a := 126) (z := 31) 80 rfl) (by omega) ?_
          refine w_top (y := bI (pBs (planV V s) j)) ((hM2 j (by omega)).2.2.2.2.1) ?_
          refine w_if_eq (tgt := 113) dX10_reader_106 (by decide) (fun c106 => ?_) (fun c106 => ?_)
          · refine w_iconst dX10_reader_113 ic_0 ?_
            refine w_ireturn dX10_reader_114 rfl rfl ?_
            refine q_e ?_ (hq I2 hX2 hV2)
            unfold partV
            rw [if_neg (by rw [w34_4]; decide), if_neg (by rw [w34_4]; decide), if_neg (by rw [w34_4]; decide), if_neg (by rw [w34_4]; decide), if_pos w34_4]
            exact bI_0 (bI_e.mp c106)
          · refine w_iconst dX10_reader_109 ic_1 ?_
            refine w_goto (tgt := 114) dX10_reader_110 (by decide) ?_
            refine w_ireturn dX10_reader_114 rfl rfl ?_
            refine q_e ?_ (hq I2 hX2 hV2)
            unfold partV
            rw [if_neg (by rw [w34_4]; decide), if_neg (by rw [w34_4]; decide), if_neg (by rw [w34_4]; decide), if_neg (by rw [w34_4]; decide), if_pos w34_4]
            exact bI_1 (bI_n.mp c106)
        by_cases w34_5 : v = 5
        · refine w_tblIn (tgt := 115) dX10_reader_34 (by rw [w34_5]; decide) (by rw [w34_5]; decide) (by rw [w34_5]; rfl) (by decide) ?_
          refine w_aload_n dX10_reader_115 rfl ?_
          refine w_getR dX10_reader_116 flX10_38 rfl (hs.r (a := 117) (j := 10) (b := 127) 125 rfl) ?_
          refine w_iload_n dX10_reader_119 rfl ?_
          refine w_iald dX10_reader_120 rfl (hs.n (a := 127) (z := 31) 81 rfl) (by omega) ?_
          refine w_top (y := pBr (planV V s) j) ((hM2 j (by omega)).2.2.2.2.2.1) ?_
          refine w_ireturn dX10_reader_121 rfl rfl ?_
          refine q_e ?_ (hq I2 hX2 hV2)
          unfold partV
          simp_all
        refine w_tblOut (tgt := 122) dX10_reader_34 (by have a0 := i_ne (k := 0) (a := 0) rfl w34_0; have a1 := i_ne (k := 1) (a := 1) rfl w34_1; have a2 := i_ne (k := 2) (a := 2) rfl w34_2; have a3 := i_ne (k := 3) (a := 3) rfl w34_3; have a4 := i_ne (k := 4) (a := 4) rfl w34_4; have a5 := i_ne (k := 5) (a := 5) rfl w34_5; have d0 : (0 : Int) ≤ v.toInt := Int32.le_iff_toInt_le.mp c22.1; omega) (by decide) ?_
        refine w_aload_n dX10_reader_122 rfl ?_
        refine w_getR dX10_reader_123 flX10_41 rfl (hs.r (a := 117) (j := 11) (b := 128) 126 rfl) ?_
        refine w_iload_n dX10_reader_126 rfl ?_
        refine w_iconst dX10_reader_127 ic_1 ?_
        refine w_iadd dX10_reader_128 ?_
        refine w_top (y := nI (j + 1)) (nI_1 j) ?_
        refine w_iald dX10_reader_129 rfl (hs.n (a := 128) (z := 32) 82 rfl) (by omega) ?_
        refine w_top (y := pOut (planV V s) (j + 1)) ((hM2 j (by omega)).2.2.2.2.2.2) ?_
        refine w_ireturn dX10_reader_130 rfl rfl ?_
        refine q_e ?_ (hq I2 hX2 hV2)
        unfold partV
        simp_all
      · refine w_ldc dX10_reader_25 kcX10_101 ?_
        refine w_ireturn dX10_reader_27 rfl rfl ?_
        have e : oReader V (nI s) d v = -1000000001 := cif_f (fun z => by first | exact c12 z.2.1 | exact c22 z.2.2)
        rw [e] at hq
        exact hq I (fun _ _ => rfl) hI

set_option maxRecDepth 20000 in
theorem sX9_first (hs : SK R N) {V : VV} (hV : VO V) (hC : WC I R N n 1 V) {a b : Int32} (hq : ∀ I' : HI, (∀ q, FC q → I' q = I q) → WC I' R N n 1 V → Q (vI (oFirst V a b)) I' L R N n) : CA sc 6 0 0 mX9_first [vR 9 0, vI a, vI b] I L R N n Q := by
  refine ca_in (al := [_, _, _]) rfl ?_
  refine w_aload_n dX9_first_0 rfl ?_
  refine w_getR dX9_first_1 flX9_10 rfl (hs.r (a := 0) (j := 0) (b := 1) 0 rfl) ?_
  refine w_iload_n dX9_first_4 rfl ?_
  refine c_V (t := 8) (as := [_]) (d' := 1) dX9_first_5 mlX9_82 moX8_hasSort mvX8_hasSort ⟨rfl, rfl⟩ rfl rfl rfl rfl rfl (by decide) (sX8_hasSort ?_)
  refine w_ifB_eq (tgt := 20) dX9_first_8 (by decide) (fun c8 => ?_) (fun c8 => ?_)
  · have ha : ¬ isS V a := by unfold isS; rw [← hC.1.1]; exact c8
    refine w_ldc dX9_first_20 kcX9_77 ?_
    refine w_ireturn dX9_first_22 rfl rfl ?_
    have e : oFirst V a b = -1000000001 := cif_f (fun z => by first | exact ha z.1)
    rw [e] at hq
    exact hq I (fun _ _ => rfl) hC
  · have ha : isS V a := by unfold isS; rw [← hC.1.1]; exact c8
    obtain ⟨s, hss, rfl⟩ := isS_of hV ha
    have h6 := hV.1.2
    have hcl : (nI s).toNatClampNeg = s := nI_clamp (by omega)
    refine w_iload_n dX9_first_11 rfl ?_
    refine w_iconst dX9_first_12 ic_0 ?_
    refine w_iconst dX9_first_13 ic_2 ?_
    refine c_S (as := [_, _, _]) (d' := 0) dX9_first_14 (Or.inl mlX9_86) moX9_within msX9_within rfl rfl rfl rfl rfl (by decide) (sX9_within ?_)
    refine w_ifB_ne (tgt := 23) dX9_first_17 (by decide) (fun c17 => ?_) (fun c17 => ?_)
    · obtain ⟨q, hq2, rfl⟩ := in_of (m := 2) (by decide) c17
      have e : oFirst V (nI s) (nI q) = frst (fstP (planV V s) q) 31 0 := by unfold oFirst; rw [cif_t ⟨isS_to hV hss, in_to (m := 2) (by decide) hq2⟩, hcl, nI_clamp (by omega)]
      rw [e] at hq
      refine w_aload_n dX9_first_23 rfl ?_
      refine w_getR dX9_first_24 flX9_26 rfl (hs.r (a := 0) (j := 3) (b := 59) 2 rfl) ?_
      refine w_aload_n dX9_first_27 rfl ?_
      refine w_getR dX9_first_28 flX9_10 rfl (hs.r (a := 0) (j := 0) (b := 1) 0 rfl) ?_
      refine w_iload_n dX9_first_31 rfl ?_
      refine c_Vv (t := 2) (as := [_, _]) (d' := 5) dX9_first_32 mlX9_148 moX2_followOne mvX2_followOne ⟨rfl, rfl⟩ rfl rfl rfl rfl rfl (by decide) (sX2_followOne hs (Or.inl rfl) hV hC hss (fun I2 hI2 hF2 ho2 hf2 => ?_))
      have hC2 : WC I2 R N n 1 V := hC.keep hV (fun z hz => hI2 z (by unfold WA at hz; omega) (by unfold WA at hz; omega))
      refine w_aload_n dX9_first_35 rfl ?_
      refine w_getR dX9_first_36 flX9_26 rfl (hs.r (a := 0) (j := 3) (b := 59) 2 rfl) ?_
      refine w_iload_n dX9_first_39 rfl ?_
      refine w_aload_n dX9_first_40 rfl ?_
      refine w_getR dX9_first_41 flX9_10 rfl (hs.r (a := 0) (j := 0) (b := 1) 0 rfl) ?_
      refine w_getR dX9_first_44 flX9_90 rfl (hs.r (a := 1) (j := 0) (b := 2) 9 rfl) ?_
      refine w_iload_n dX9_first_47 rfl ?_
      refine w_aaldI dX9_first_48 rfl (hs.n (a := 2) (z := 6) 0 rfl) (by omega) (hs.rows (Or.inl rfl) (by omega)).1 ?_
      refine w_iconst dX9_first_49 ic_4 ?_
      refine w_iald (q := 4) dX9_first_50 rfl (hs.rows (Or.inl rfl) (by omega)).2 (by decide) ?_
      refine w_top (y := (planV V s).2.2.2.1) (hC2.2.1 s hss 4 (by decide)) ?_
      refine c_V (t := 2) (as := [_, _]) (d' := 0) dX9_first_51 mlX9_155 moX2_firstDay mvX2_firstDay ⟨rfl, rfl⟩ rfl rfl rfl rfl rfl (by decide) (sX2_firstDay hs (p := planV V s) hF2 ho2 hq2 ?_)
      refine w_ireturn dX9_first_54 rfl rfl ?_
      exact hq I2 (fun z h => hI2 z (by unfold FC at h; omega) (by unfold FC at h; omega)) hC2
    · refine w_ldc dX9_first_20 kcX9_77 ?_
      refine w_ireturn dX9_first_22 rfl rfl ?_
      have e : oFirst V (nI s) b = -1000000001 := cif_f (fun z => by first | exact c17 z.2)
      rw [e] at hq
      exact hq I (fun _ _ => rfl) hC

set_option maxRecDepth 20000 in
theorem lX10_first (hs : SK R N) {V : VV} (hI : I 118 = V) {s q : Nat} (h6 : s < 6) (hq2 : q ≤ 2) (hM : MF I (planV V s)) (ho : ∀ j, j < 31 → I 121 j = owV V j) (hq : Q (vI (frst (fstP (planV V s) q) 31 0)) I L R N n) : WP sc 5 0 0 mX10_first 27 [vR 10 117, vI (nI s), vI (nI q), vI (nI 0)] [] I L R N n Q := by
  have lp : ∀ (k j : Nat), j + k = 31 → Q (vI (frst (fstP (planV V s) q) k j)) I L R N n → WP sc 5 0 0 mX10_first 27 [vR 10 117, vI (nI s), vI (nI q), vI (nI j)] [] I L R N n Q := by
    intro k
    induction k with
    | zero =>
      intro j hj hq
      refine w_iload_n dX10_first_27 rfl ?_
      refine w_bipush dX10_first_28 bp_31 ?_
      refine w_icmp_ge (tgt := 92) dX10_first_30 (by decide) (fun c30 => ?_) (fun c30 => ?_)
      · refine w_ldc dX10_first_92 kcX10_96 ?_
        refine w_ireturn dX10_first_94 rfl rfl ?_
        exact hq
      · exact absurd (nI_le (a := 31) (by omega) (by omega)) c30
    | succ k ih =>
      intro j hj hq
      refine w_iload_n dX10_first_27 rfl ?_
      refine w_bipush dX10_first_28 bp_31 ?_
      refine w_icmp_ge (tgt := 92) dX10_first_30 (by decide) (fun c30 => ?_) (fun c30 => ?_)
      · exact absurd ((nI_leI (a := 31) (by omega) (by omega)).mp c30) (by omega)
      · rcases (show q = 0 ∨ q = 1 ∨ q = 2 by omega) with rfl | rfl | rfl
        · refine w_iload_n dX10_first_33 rfl ?_
          refine w_if_ne (tgt := 46) dX10_first_34 (by decide) (fun c34 => ?_) (fun c34 => ?_)
          · exact absurd rfl c34
          · refine w_aload_n dX10_first_37 rfl ?_
            refine w_getR dX10_first_38 flX10_34 rfl (hs.r (a := 117) (j := 9) (b := 126) 124 rfl) ?_
            refine w_iload_n dX10_first_41 rfl ?_
            refine w_zald dX10_first_42 rfl (hs.n (a := 126) (z := 31) 80 rfl) (by omega) ?_
            refine w_top (y := bI (pBs (planV V s) j)) ((hM j (by omega)).2.2.2.2.1) ?_
            refine w_if_ne (tgt := 84) dX10_first_43 (by decide) (fun c43 => ?_) (fun c43 => ?_)
            · refine w_iload_n dX10_first_84 rfl ?_
              refine w_ireturn dX10_first_85 rfl rfl ?_
              have hPj : fstP (planV V s) 0 j := by unfold fstP; rw [if_pos rfl]; exact bI_n.mp c43
              exact q_e (cif_t hPj) hq
            · refine w_iload_n dX10_first_46 rfl ?_
              refine w_iconst dX10_first_47 ic_1 ?_
              refine w_icmp_ne (tgt := 66) dX10_first_48 (by decide) (fun c48 => ?_) (fun c48 => ?_)
              · refine w_iload_n dX10_first_66 rfl ?_
                refine w_iconst dX10_first_67 ic_2 ?_
                refine w_icmp_ne (tgt := 86) dX10_first_68 (by decide) (fun c68 => ?_) (fun c68 => ?_)
                · refine w_iinc (al' := [_, _, _, _]) dX10_first_86 rfl rfl ic_1 rfl ?_
                  refine w_goto (tgt := 27) dX10_first_89 (by decide) ?_
                  have hPj : ¬ fstP (planV V s) 0 j := by unfold fstP; rw [if_pos rfl]; exact bI_e.mp c43
                  simp only [nI_1]
                  exact ih (j + 1) (by omega) (q_e (cif_f hPj) hq)
                · exact absurd c68 (by decide)
              · exact absurd c48 (by decide)
        · refine w_iload_n dX10_first_33 rfl ?_
          refine w_if_ne (tgt := 46) dX10_first_34 (by decide) (fun c34 => ?_) (fun c34 => ?_)
          · refine w_iload_n dX10_first_46 rfl ?_
            refine w_iconst dX10_first_47 ic_1 ?_
            refine w_icmp_ne (tgt := 66) dX10_first_48 (by decide) (fun c48 => ?_) (fun c48 => ?_)
            · exact absurd rfl c48
            · refine w_aload_n dX10_first_51 rfl ?_
              refine w_getR dX10_first_52 flX10_19 rfl (hs.r (a := 117) (j := 4) (b := 121) 119 rfl) ?_
              refine w_iload_n dX10_first_55 rfl ?_
              refine w_iald dX10_first_56 rfl (hs.n (a := 121) (z := 31) 75 rfl) (by omega) ?_
              refine w_top (y := (planV V s).1 j) (ho j (by omega)) ?_
              refine w_aload_n dX10_first_57 rfl ?_
              refine w_iload_n dX10_first_58 rfl ?_
              refine w_iconst dX10_first_59 ic_4 ?_
              refine c_V (t := 10) (as := [_, _]) (d' := 0) dX10_first_60 mlX10_111 moX10_sortOf mvX10_sortOf ⟨rfl, rfl⟩ rfl rfl rfl rfl rfl (by decide) (vX10_sortOf (V := V) (b := 4) hs hI (by omega) ?_)
              refine w_top (y := (planV V s).2.2.2.1) (rfl) ?_
              refine w_icmp_gt (tgt := 84) dX10_first_63 (by decide) (fun c63 => ?_) (fun c63 => ?_)
              · refine w_iload_n dX10_first_84 rfl ?_
                refine w_ireturn dX10_first_85 rfl rfl ?_
                have hPj : fstP (planV V s) 1 j := by unfold fstP; rw [if_neg (by decide), if_pos rfl]; exact c63
                exact q_e (cif_t hPj) hq
              · refine w_iload_n dX10_first_66 rfl ?_
                refine w_iconst dX10_first_67 ic_2 ?_
                refine w_icmp_ne (tgt := 86) dX10_first_68 (by decide) (fun c68 => ?_) (fun c68 => ?_)
                · refine w_iinc (al' := [_, _, _, _]) dX10_first_86 rfl rfl ic_1 rfl ?_
                  refine w_goto (tgt := 27) dX10_first_89 (by decide) ?_
                  have hPj : ¬ fstP (planV V s) 1 j := by unfold fstP; rw [if_neg (by decide), if_pos rfl]; exact c63
                  simp only [nI_1]
                  exact ih (j + 1) (by omega) (q_e (cif_f hPj) hq)
                · exact absurd c68 (by decide)
          · exact absurd c34 (by decide)
        · refine w_iload_n dX10_first_33 rfl ?_
          refine w_if_ne (tgt := 46) dX10_first_34 (by decide) (fun c34 => ?_) (fun c34 => ?_)
          · refine w_iload_n dX10_first_46 rfl ?_
            refine w_iconst dX10_first_47 ic_1 ?_
            refine w_icmp_ne (tgt := 66) dX10_first_48 (by decide) (fun c48 => ?_) (fun c48 => ?_)
            · refine w_iload_n dX10_first_66 rfl ?_
              refine w_iconst dX10_first_67 ic_2 ?_
              refine w_icmp_ne (tgt := 86) dX10_first_68 (by decide) (fun c68 => ?_) (fun c68 => ?_)
              · exact absurd rfl c68
              · refine w_aload_n dX10_first_71 rfl ?_
                refine w_getR dX10_first_72 flX10_41 rfl (hs.r (a := 117) (j := 11) (b := 128) 126 rfl) ?_
                refine w_iload_n dX10_first_75 rfl ?_
                refine w_iconst dX10_first_76 ic_1 ?_
                refine w_iadd dX10_first_77 ?_
                refine w_top (y := nI (j + 1)) (nI_1 j) ?_
                refine w_iald dX10_first_78 rfl (hs.n (a := 128) (z := 32) 82 rfl) (by omega) ?_
                refine w_top (y := pOut (planV V s) (j + 1)) ((hM j (by omega)).2.2.2.2.2.2) ?_
                refine w_ldc dX10_first_79 kcX10_182 ?_
                refine w_icmp_gt (tgt := 86) dX10_first_81 (by decide) (fun c81 => ?_) (fun c81 => ?_)
                · refine w_iinc (al' := [_, _, _, _]) dX10_first_86 rfl rfl ic_1 rfl ?_
                  refine w_goto (tgt := 27) dX10_first_89 (by decide) ?_
                  have hPj : ¬ fstP (planV V s) 2 j := by unfold fstP; rw [if_neg (by decide), if_neg (by decide)]; exact Int32.not_le.mpr c81
                  simp only [nI_1]
                  exact ih (j + 1) (by omega) (q_e (cif_f hPj) hq)
                · refine w_iload_n dX10_first_84 rfl ?_
                  refine w_ireturn dX10_first_85 rfl rfl ?_
                  have hPj : fstP (planV V s) 2 j := by unfold fstP; rw [if_neg (by decide), if_neg (by decide)]; exact Int32.not_lt.mp c81
                  exact q_e (cif_t hPj) hq
            · exact absurd c48 (by decide)
          · exact absurd c34 (by decide)
  exact lp 31 0 rfl hq

set_option maxRecDepth 20000 in
theorem sX10_first (hs : SK R N) {V : VV} (hI : I 118 = V) (hV : VO V) {a b : Int32} (hq : ∀ I' : HI, (∀ q, FM q → I' q = I q) → I' 118 = V → Q (vI (oFirst V a b)) I' L R N n) : CA sc 5 0 0 mX10_first [vR 10 117, vI a, vI b] I L R N n Q := by
  refine ca_in (al := [_, _, _, _]) rfl ?_
  refine w_aload_n dX10_first_0 rfl ?_
  refine w_iload_n dX10_first_1 rfl ?_
  refine c_V (t := 10) (as := [_]) (d' := 1) dX10_first_2 mlX10_107 moX10_isSort mvX10_isSort ⟨rfl, rfl⟩ rfl rfl rfl rfl rfl (by decide) (sX10_isSort hs ?_)
  refine w_ifB_eq (tgt := 17) dX10_first_5 (by decide) (fun c5 => ?_) (fun c5 => ?_)
  · have ha : ¬ isS V a := by unfold isS; rw [← hI]; exact c5
    refine w_ldc dX10_first_17 kcX10_101 ?_
    refine w_ireturn dX10_first_19 rfl rfl ?_
    have e : oFirst V a b = -1000000001 := cif_f (fun z => by first | exact ha z.1)
    rw [e] at hq
    exact hq I (fun _ _ => rfl) hI
  · have ha : isS V a := by unfold isS; rw [← hI]; exact c5
    obtain ⟨s, hss, rfl⟩ := isS_of hV ha
    have h6 := hV.1.2
    have hcl : (nI s).toNatClampNeg = s := nI_clamp (by omega)
    refine w_iload_n dX10_first_8 rfl ?_
    refine w_iconst dX10_first_9 ic_0 ?_
    refine w_iconst dX10_first_10 ic_2 ?_
    refine c_S (as := [_, _, _]) (d' := 0) dX10_first_11 (Or.inl mlX10_97) moX10_in msX10_in rfl rfl rfl rfl rfl (by decide) (sX10_in ?_)
    refine w_ifB_ne (tgt := 20) dX10_first_14 (by decide) (fun c14 => ?_) (fun c14 => ?_)
    · obtain ⟨q, hq2, rfl⟩ := in_of (m := 2) (by decide) c14
      have e : oFirst V (nI s) (nI q) = frst (fstP (planV V s) q) 31 0 := by unfold oFirst; rw [cif_t ⟨isS_to hV hss, in_to (m := 2) (by decide) hq2⟩, hcl, nI_clamp (by omega)]
      rw [e] at hq
      refine w_aload_n dX10_first_20 rfl ?_
      refine w_iload_n dX10_first_21 rfl ?_
      refine c_Vv (t := 10) (as := [_]) (d' := 4) dX10_first_22 mlX10_179 moX10_findReader mvX10_findReader ⟨rfl, rfl⟩ rfl rfl rfl rfl rfl (by decide) (sX10_findReader hs hI hV hss (fun I2 hI2 hM2 h128 ho2 => ?_))
      have hX2 : ∀ z, FM z → I2 z = I z := fun z h => hI2 z (by unfold FM at h; omega) (by unfold FM at h; omega) (by unfold FM at h; omega)
      have hV2 : I2 118 = V := (hI2 118 (by decide) (by decide) (by decide)).trans hI
      refine w_iconst dX10_first_25 ic_0 ?_
      refine w_istore_n (al' := [_, _, _, _]) dX10_first_26 rfl rfl rfl ?_
      exact lX10_first hs hV2 (by omega) hq2 hM2 ho2 (hq I2 hX2 hV2)
    · refine w_ldc dX10_first_17 kcX10_101 ?_
      refine w_ireturn dX10_first_19 rfl rfl ?_
      have e : oFirst V (nI s) b = -1000000001 := cif_f (fun z => by first | exact c14 z.2)
      rw [e] at hq
      exact hq I (fun _ _ => rfl) hI

set_option maxRecDepth 20000 in
theorem sX9_run (hs : SK R N) {V : VV} (hV : VO V) (hC : WC I R N n 1 V) {a : Int32} (hq : ∀ I' : HI, (∀ q, FC q → I' q = I q) → WC I' R N n 1 (oRun V a).1 → Q (vI (oRun V a).2) I' L R N n) : CA sc 6 0 0 mX9_run [vR 9 0, vI a] I L R N n Q := by
  refine ca_in (al := [_, _]) rfl ?_
  refine w_aload_n dX9_run_0 rfl ?_
  refine w_getR dX9_run_1 flX9_10 rfl (hs.r (a := 0) (j := 0) (b := 1) 0 rfl) ?_
  refine w_iload_n dX9_run_4 rfl ?_
  refine c_V (t := 8) (as := [_]) (d' := 1) dX9_run_5 mlX9_82 moX8_hasSort mvX8_hasSort ⟨rfl, rfl⟩ rfl rfl rfl rfl rfl (by decide) (sX8_hasSort ?_)
  refine w_ifB_ne (tgt := 14) dX9_run_8 (by decide) (fun c8 => ?_) (fun c8 => ?_)
  · have ha : isS V a := by unfold isS; rw [← hC.1.1]; exact c8
    obtain ⟨s, hss, rfl⟩ := isS_of hV ha
    have h6 := hV.1.2
    have hcl : (nI s).toNatClampNeg = s := nI_clamp (by omega)
    have e : oRun V (nI s) = (va_up V 0 (drwF (planV V s) 31 0 (V 0)).2, told (drwF (planV V s) 31 0 (V 0)).1) := by unfold oRun; rw [cif_t (isS_to hV hss), hcl]
    rw [e] at hq
    refine w_aload_n dX9_run_14 rfl ?_
    refine w_getR dX9_run_15 flX9_26 rfl (hs.r (a := 0) (j := 3) (b := 59) 2 rfl) ?_
    refine w_aload_n dX9_run_18 rfl ?_
    refine w_getR dX9_run_19 flX9_10 rfl (hs.r (a := 0) (j := 0) (b := 1) 0 rfl) ?_
    refine w_iload_n dX9_run_22 rfl ?_
    refine c_Vv (t := 2) (as := [_, _]) (d' := 5) dX9_run_23 mlX9_148 moX2_followOne mvX2_followOne ⟨rfl, rfl⟩ rfl rfl rfl rfl rfl (by decide) (sX2_followOne hs (Or.inl rfl) hV hC hss (fun I2 hI2 hF2 ho2 hf2 => ?_))
    have hC2 : WC I2 R N n 1 V := hC.keep hV (fun z hz => hI2 z (by unfold WA at hz; omega) (by unfold WA at hz; omega))
    refine w_aload_n dX9_run_26 rfl ?_
    refine w_getR dX9_run_27 flX9_26 rfl (hs.r (a := 0) (j := 3) (b := 59) 2 rfl) ?_
    refine w_iload_n dX9_run_30 rfl ?_
    refine w_aload_n dX9_run_31 rfl ?_
    refine w_getR dX9_run_32 flX9_10 rfl (hs.r (a := 0) (j := 0) (b := 1) 0 rfl) ?_
    refine w_getR dX9_run_35 flX9_158 rfl (hs.r (a := 1) (j := 9) (b := 12) 13 rfl) ?_
    refine c_V (t := 2) (as := [_, _]) (d' := 1) dX9_run_38 mlX9_161 moX2_drawDay mvX2_drawDay ⟨rfl, rfl⟩ rfl rfl rfl rfl rfl (by decide) (sX2_drawDay hs (p := planV V s) (dz := 1 + 11) (by omega) (fun j hj => (hF2 j hj).2.2.2.1) hf2 (by decide) (by omega) (fun I3 hI3 hz3 => ?_))
    rw [hC2.1.2.2.2.2.2] at hz3 ⊢
    refine w_ireturn dX9_run_41 rfl rfl ?_
    exact hq I3 (fun z h => (hI3 z (by unfold FC at h; omega)).trans (hI2 z (by unfold FC at h; omega) (by unfold FC at h; omega))) (hC2.diceF hV (Or.inl rfl) hI3 hz3)
  · have ha : ¬ isS V a := by unfold isS; rw [← hC.1.1]; exact c8
    refine w_ldc dX9_run_11 kcX9_77 ?_
    refine w_ireturn dX9_run_13 rfl rfl ?_
    have e : oRun V a = (V, -1000000001) := cif_f (fun z => by first | exact ha z)
    rw [e] at hq
    exact hq I (fun _ _ => rfl) hC

set_option maxRecDepth 20000 in
theorem sX10_run (hs : SK R N) {V : VV} (hI : I 118 = V) (hV : VO V) {a : Int32} (hq : ∀ I' : HI, (∀ q, FM q → I' q = I q) → I' 118 = (oRun V a).1 → Q (vI (oRun V a).2) I' L R N n) : CA sc 5 0 0 mX10_run [vR 10 117, vI a] I L R N n Q := by
  refine ca_in (al := [_, _]) rfl ?_
  refine w_aload_n dX10_run_0 rfl ?_
  refine w_iload_n dX10_run_1 rfl ?_
  refine c_V (t := 10) (as := [_]) (d' := 1) dX10_run_2 mlX10_107 moX10_isSort mvX10_isSort ⟨rfl, rfl⟩ rfl rfl rfl rfl rfl (by decide) (sX10_isSort hs ?_)
  refine w_ifB_ne (tgt := 11) dX10_run_5 (by decide) (fun c5 => ?_) (fun c5 => ?_)
  · have ha : isS V a := by unfold isS; rw [← hI]; exact c5
    obtain ⟨s, hss, rfl⟩ := isS_of hV ha
    have h6 := hV.1.2
    have hcl : (nI s).toNatClampNeg = s := nI_clamp (by omega)
    have e : oRun V (nI s) = (va_up V 0 (drwF (planV V s) 31 0 (V 0)).2, told (drwF (planV V s) 31 0 (V 0)).1) := by unfold oRun; rw [cif_t (isS_to hV hss), hcl]
    rw [e] at hq
    refine w_aload_n dX10_run_11 rfl ?_
    refine w_iload_n dX10_run_12 rfl ?_
    refine c_Vv (t := 10) (as := [_]) (d' := 4) dX10_run_13 mlX10_179 moX10_findReader mvX10_findReader ⟨rfl, rfl⟩ rfl rfl rfl rfl rfl (by decide) (sX10_findReader hs hI hV hss (fun I2 hI2 hM2 h128 ho2 => ?_))
    have hX2 : ∀ z, FM z → I2 z = I z := fun z h => hI2 z (by unfold FM at h; omega) (by unfold FM at h; omega) (by unfold FM at h; omega)
    have hV2 : I2 118 = V := (hI2 118 (by decide) (by decide) (by decide)).trans hI
    refine w_aload_n dX10_run_16 rfl ?_
    refine c_V (t := 10) (as := []) (d' := 1) dX10_run_17 mlX10_183 moX10_drawsDay mvX10_drawsDay ⟨rfl, rfl⟩ rfl rfl rfl rfl rfl (by decide) (sX10_drawsDay hs (p := planV V s) (fun j hj => (hM2 j hj).2.2.2.2.1) (fun j hj => (hM2 j hj).1) (fun I3 hI3 hz3 => ?_))
    rw [hV2] at hz3 ⊢
    refine c_S (as := [_]) (d' := 0) dX10_run_20 (Or.inl mlX10_162) moX10_told0 msX10_told0 rfl rfl rfl rfl rfl (by decide) (sX10_told0 ?_)
    refine w_ireturn dX10_run_23 rfl rfl ?_
    exact hq I3 (fun z h => (hI3 z h.1).trans (hX2 z h)) hz3
  · have ha : ¬ isS V a := by unfold isS; rw [← hI]; exact c5
    refine w_ldc dX10_run_8 kcX10_101 ?_
    refine w_ireturn dX10_run_10 rfl rfl ?_
    have e : oRun V a = (V, -1000000001) := cif_f (fun z => by first | exact ha z)
    rw [e] at hq
    exact hq I (fun _ _ => rfl) hI

set_option maxRecDepth 20000 in
theorem sX9_library (hs : SK R N) {V : VV} (hV : VO V) (hC : WC I R N n 1 V) {b : Int32} (hq : ∀ (I' : HI) (L' : HL), (∀ q, FC q → I' q = I q) → WC I' R N n 1 V → Q (vL (oLib V b)) I' L' R N n) : CA sc 6 0 0 mX9_library [vR 9 0, vI b] I L R N n Q := by
  refine ca_in (al := [_, _]) rfl ?_
  refine w_iload_n dX9_library_0 rfl ?_
  refine w_iconst dX9_library_1 ic_0 ?_
  refine w_iconst dX9_library_2 ic_3 ?_
  refine c_S (as := [_, _, _]) (d' := 0) dX9_library_3 (Or.inl mlX9_86) moX9_within msX9_within rfl rfl rfl rfl rfl (by decide) (sX9_within ?_)
  refine w_ifB_ne (tgt := 13) dX9_library_6 (by decide) (fun c6 => ?_) (fun c6 => ?_)
  · refine w_aload_n dX9_library_13 rfl ?_
    refine w_getR dX9_library_14 flX9_26 rfl (hs.r (a := 0) (j := 3) (b := 59) 2 rfl) ?_
    refine w_aload_n dX9_library_17 rfl ?_
    refine w_getR dX9_library_18 flX9_10 rfl (hs.r (a := 0) (j := 0) (b := 1) 0 rfl) ?_
    refine c_Vv (t := 2) (as := [_]) (d' := 5) dX9_library_21 mlX9_165 moX2_take mvX2_take ⟨rfl, rfl⟩ rfl rfl rfl rfl rfl (by decide) (sX2_take hs (Or.inl rfl) hV hC (fun I2 hI2 ho2 hf2 => ?_))
    have hC2 : WC I2 R N n 1 V := hC.keep hV (fun z hz => hI2 z (by unfold WA at hz; omega) (by unfold WA at hz; omega))
    refine w_aload_n dX9_library_24 rfl ?_
    refine w_getR dX9_library_25 flX9_26 rfl (hs.r (a := 0) (j := 3) (b := 59) 2 rfl) ?_
    refine w_aload_n dX9_library_28 rfl ?_
    refine w_getR dX9_library_29 flX9_10 rfl (hs.r (a := 0) (j := 0) (b := 1) 0 rfl) ?_
    refine w_aload_n dX9_library_32 rfl ?_
    refine w_getR dX9_library_33 flX9_10 rfl (hs.r (a := 0) (j := 0) (b := 1) 0 rfl) ?_
    refine w_getI dX9_library_36 flX9_145 rfl ?_
    refine w_top (y := told (V 4)) (hC2.1.2.2.2.1) ?_
    refine c_Vv (t := 2) (as := [_, _]) (d' := 5) dX9_library_39 mlX9_177 moX2_tally mvX2_tally ⟨rfl, rfl⟩ rfl rfl rfl rfl rfl (by decide) (sX2_tally hs (Or.inl rfl) hV hC2 hV.card ho2 hf2 (fun I3 L3 hI3 hL3 l1 l2 l3 l4 => ?_))
    have hX3 : ∀ z, FC z → I3 z = I z := fun z h => (hI3 z (by unfold FC at h; omega) (by unfold FC at h; omega)).trans (hI2 z (by unfold FC at h; omega) (by unfold FC at h; omega))
    have hC3 : WC I3 R N n 1 V := hC2.keep hV (fun z hz => hI3 z (by unfold WA at hz; omega) (by unfold WA at hz; omega))
    refine w_iload_n dX9_library_42 rfl ?_
    refine w_if_ne (tgt := 54) dX9_library_43 (by decide) (fun c43 => ?_) (fun c43 => ?_)
    · refine w_iload_n dX9_library_54 rfl ?_
      refine w_iconst dX9_library_55 ic_1 ?_
      refine w_icmp_ne (tgt := 67) dX9_library_56 (by decide) (fun c56 => ?_) (fun c56 => ?_)
      · refine w_iload_n dX9_library_67 rfl ?_
        refine w_iconst dX9_library_68 ic_2 ?_
        refine w_icmp_ne (tgt := 82) dX9_library_69 (by decide) (fun c69 => ?_) (fun c69 => ?_)
        · refine w_aload_n dX9_library_82 rfl ?_
          refine w_getR dX9_library_83 flX9_26 rfl (hs.r (a := 0) (j := 3) (b := 59) 2 rfl) ?_
          refine w_getL dX9_library_86 flX9_190 rfl ?_
          refine w_topL l4 ?_
          refine w_lreturn dX9_library_89 rfl ?_
          have e : oLib V b = libK V (owV V) (told (V 4)) (nS V) := by unfold oLib; rw [cif_t c6, if_neg c43, if_neg c56, if_neg c69]
          rw [e] at hq
          exact hq I3 L3 hX3 hC3
        · refine w_aload_n dX9_library_72 rfl ?_
          refine w_getR dX9_library_73 flX9_26 rfl (hs.r (a := 0) (j := 3) (b := 59) 2 rfl) ?_
          refine w_getL dX9_library_76 flX9_187 rfl ?_
          refine w_topL l3 ?_
          refine w_goto (tgt := 89) dX9_library_79 (by decide) ?_
          refine w_lreturn dX9_library_89 rfl ?_
          have e : oLib V b = libL V (owV V) (told (V 4)) (nS V) := by unfold oLib; rw [cif_t c6, if_neg c43, if_neg c56, if_pos c69]
          rw [e] at hq
          exact hq I3 L3 hX3 hC3
      · refine w_aload_n dX9_library_59 rfl ?_
        refine w_getR dX9_library_60 flX9_26 rfl (hs.r (a := 0) (j := 3) (b := 59) 2 rfl) ?_
        refine w_getL dX9_library_63 flX9_184 rfl ?_
        refine w_topL l2 ?_
        refine w_lreturn dX9_library_66 rfl ?_
        have e : oLib V b = libC V (owV V) (told (V 4)) (nS V) := by unfold oLib; rw [cif_t c6, if_neg c43, if_pos c56]
        rw [e] at hq
        exact hq I3 L3 hX3 hC3
    · refine w_aload_n dX9_library_46 rfl ?_
      refine w_getR dX9_library_47 flX9_26 rfl (hs.r (a := 0) (j := 3) (b := 59) 2 rfl) ?_
      refine w_getL dX9_library_50 flX9_180 rfl ?_
      refine w_topL l1 ?_
      refine w_lreturn dX9_library_53 rfl ?_
      have e : oLib V b = libD V (owV V) (told (V 4)) (nS V) := by unfold oLib; rw [cif_t c6, if_pos c43]
      rw [e] at hq
      exact hq I3 L3 hX3 hC3
  · refine w_ldc2 dX9_library_9 kcX9_175 ?_
    refine w_lreturn dX9_library_12 rfl ?_
    have e : oLib V b = -1000000001 := cif_f c6
    rw [e] at hq
    exact hq I L (fun _ _ => rfl) hC

set_option maxRecDepth 20000 in
theorem sX10_library (hs : SK R N) {V : VV} (hI : I 118 = V) (hV : VO V) {b : Int32} (hq : ∀ (I' : HI) (L' : HL), (∀ q, FM q → I' q = I q) → I' 118 = V → Q (vL (oLib V b)) I' L' R N n) : CA sc 5 0 0 mX10_library [vR 10 117, vI b] I L R N n Q := by
  refine ca_in (al := [_, _]) rfl ?_
  refine w_iload_n dX10_library_0 rfl ?_
  refine w_iconst dX10_library_1 ic_0 ?_
  refine w_iconst dX10_library_2 ic_3 ?_
  refine c_S (as := [_, _, _]) (d' := 0) dX10_library_3 (Or.inl mlX10_97) moX10_in msX10_in rfl rfl rfl rfl rfl (by decide) (sX10_in ?_)
  refine w_ifB_ne (tgt := 13) dX10_library_6 (by decide) (fun c6 => ?_) (fun c6 => ?_)
  · refine w_aload_n dX10_library_13 rfl ?_
    refine c_Vv (t := 10) (as := []) (d' := 4) dX10_library_14 mlX10_201 moX10_findLibrary mvX10_findLibrary ⟨rfl, rfl⟩ rfl rfl rfl rfl rfl (by decide) (sX10_findLibrary hs hI hV (fun I3 L3 hI3 hL3 l1 l2 l3 l4 => ?_))
    have hX3 : ∀ z, FM z → I3 z = I z := fun z h => hI3 z (by unfold FM at h; omega) (by unfold FM at h; omega) (by unfold FM at h; omega)
    have hV3 : I3 118 = V := (hI3 118 (by decide) (by decide) (by decide)).trans hI
    refine w_iload_n dX10_library_17 rfl ?_
    refine w_if_ne (tgt := 28) dX10_library_18 (by decide) (fun c18 => ?_) (fun c18 => ?_)
    · refine w_iload_n dX10_library_28 rfl ?_
      refine w_iconst dX10_library_29 ic_1 ?_
      refine w_icmp_ne (tgt := 40) dX10_library_30 (by decide) (fun c30 => ?_) (fun c30 => ?_)
      · refine w_iload_n dX10_library_40 rfl ?_
        refine w_iconst dX10_library_41 ic_2 ?_
        refine w_icmp_ne (tgt := 52) dX10_library_42 (by decide) (fun c42 => ?_) (fun c42 => ?_)
        · refine w_aload_n dX10_library_52 rfl ?_
          refine w_getL dX10_library_53 flX10_196 rfl ?_
          refine w_topL l4 ?_
          refine w_lreturn dX10_library_56 rfl ?_
          have e : oLib V b = libK V (owV V) (told (V 4)) (nS V) := by unfold oLib; rw [cif_t c6, if_neg c18, if_neg c30, if_neg c42]
          rw [e] at hq
          exact hq I3 L3 hX3 hV3
        · refine w_aload_n dX10_library_45 rfl ?_
          refine w_getL dX10_library_46 flX10_193 rfl ?_
          refine w_topL l3 ?_
          refine w_goto (tgt := 56) dX10_library_49 (by decide) ?_
          refine w_lreturn dX10_library_56 rfl ?_
          have e : oLib V b = libL V (owV V) (told (V 4)) (nS V) := by unfold oLib; rw [cif_t c6, if_neg c18, if_neg c30, if_pos c42]
          rw [e] at hq
          exact hq I3 L3 hX3 hV3
      · refine w_aload_n dX10_library_33 rfl ?_
        refine w_getL dX10_library_34 flX10_190 rfl ?_
        refine w_topL l2 ?_
        refine w_goto (tgt := 56) dX10_library_37 (by decide) ?_
        refine w_lreturn dX10_library_56 rfl ?_
        have e : oLib V b = libC V (owV V) (told (V 4)) (nS V) := by unfold oLib; rw [cif_t c6, if_neg c18, if_pos c30]
        rw [e] at hq
        exact hq I3 L3 hX3 hV3
    · refine w_aload_n dX10_library_21 rfl ?_
      refine w_getL dX10_library_22 flX10_186 rfl ?_
      refine w_topL l1 ?_
      refine w_goto (tgt := 56) dX10_library_25 (by decide) ?_
      refine w_lreturn dX10_library_56 rfl ?_
      have e : oLib V b = libD V (owV V) (told (V 4)) (nS V) := by unfold oLib; rw [cif_t c6, if_pos c18]
      rw [e] at hq
      exact hq I3 L3 hX3 hV3
  · refine w_ldc2 dX10_library_9 kcX10_199 ?_
    refine w_lreturn dX10_library_12 rfl ?_
    have e : oLib V b = -1000000001 := cif_f c6
    rw [e] at hq
    exact hq I L (fun _ _ => rfl) hI

end
