section
variable {sc : SC} {I : HI} {L : HL} {R : HR} {N : HN} {n : Nat} {Q : HQ}
noncomputable def partV (p : PL) (d : Nat) (v : Int32) : Int32 := if v = 0 then p.2.1 d else if v = 1 then pBri p d else if v = 2 then pKeep p d else if v = 3 then cst p d else if v = 4 then bI (pBs p d) else if v = 5 then pBr p d else pOut p (d + 1)
theorem w_topL {d mc ms : Nat} {md : MD} {pc : Nat} {al st : List AV} {x y : Int64} (h : x = y) (k : WP sc d mc ms md pc al (vL y :: st) I L R N n Q) : WP sc d mc ms md pc al (vL x :: st) I L R N n Q := h ▸ k
theorem cardO_n (p : PL) : cardO p (-1000000005) = 0 := rfl
theorem cardO_s (p : PL) {c : Nat} (h : c < 31) : cardO p (nI c) = (pOut p c).toInt64 := by
  unfold cardO
  rw [if_neg (nI_pos (by omega)), nI_clamp (by omega)]
def cardOk (cd : Int32) : Prop := cd = -1000000005 ∨ ∃ c, c < 31 ∧ cd = nI c
theorem VO.card {V : VV} (h : VO V) : cardOk (told (V 4)) := by
  rcases h.2.2.2.2.2.2.1 with e | ⟨c, hc, e⟩
  · exact Or.inl (told_n e)
  · exact Or.inr ⟨c, hc, told_s e (by omega)⟩
set_option maxRecDepth 20000 in
theorem sX2_partOf (hs : SK R N) {p : PL} {s j : Nat} (h6 : s < 6) (hj : j < 31) (hF : PF I p) (hf : ∀ j, j < 31 → I (62 + s) j = p.2.1 j) {v : Int32} (hv : 0 ≤ v ∧ v ≤ 6) (hq : Q (vI (partV p j v)) I L R N n) : CA sc 2 0 0 mX2_partOf [vR 2 59, vI (nI s), vI (nI j), vI v] I L R N n Q := by
  refine ca_in (al := [_, _, _, _]) rfl ?_
  refine w_iload_n dX2_partOf_0 rfl ?_
  refine w_iconst dX2_partOf_1 ic_0 ?_
  refine w_iconst dX2_partOf_2 ic_5 ?_
  refine c_S (as := [_, _, _]) (d' := 0) dX2_partOf_3 nlX2_108 moX9_within msX9_within rfl rfl rfl rfl rfl (by decide) (sX9_within ?_)
  refine w_ifB_eq (tgt := 16) dX2_partOf_6 (by decide) (fun c6 => ?_) (fun c6 => ?_)
  · exact absurd ⟨nI_pos' (by omega), nI_le (b := 5) (by omega) (by omega)⟩ c6
  · refine w_iload_n dX2_partOf_9 rfl ?_
    refine c_S (as := [_]) (d' := 1) dX2_partOf_10 nlX2_112 moX9_isDay msX9_isDay rfl rfl rfl rfl rfl (by decide) (sX9_isDay ?_)
    refine w_ifB_ne (tgt := 19) dX2_partOf_13 (by decide) (fun c13 => ?_) (fun c13 => ?_)
    · refine w_iload_n dX2_partOf_19 rfl ?_
      by_cases w20_0 : v = 0
      · refine w_tblIn (tgt := 64) dX2_partOf_20 (by rw [w20_0]; decide) (by rw [w20_0]; decide) (by rw [w20_0]; rfl) (by decide) ?_
        refine w_aload_n dX2_partOf_64 rfl ?_
        refine w_getR dX2_partOf_65 flX2_17 rfl (hs.r (a := 59) (j := 1) (b := 61) 66 rfl) ?_
        refine w_iload_n dX2_partOf_68 rfl ?_
        refine w_aaldI dX2_partOf_69 rfl (hs.n (a := 61) (z := 6) 39 rfl) (by omega) (hs.frow h6).1 ?_
        refine w_iload_n dX2_partOf_70 rfl ?_
        refine w_iald dX2_partOf_71 rfl (hs.frow h6).2 (by omega) ?_
        refine w_top (y := p.2.1 j) (hf j hj) ?_
        refine w_ireturn dX2_partOf_72 rfl rfl ?_
        refine q_e ?_ hq
        unfold partV
        simp_all
      by_cases w20_1 : v = 1
      · refine w_tblIn (tgt := 73) dX2_partOf_20 (by rw [w20_1]; decide) (by rw [w20_1]; decide) (by rw [w20_1]; rfl) (by decide) ?_
        refine w_aload_n dX2_partOf_73 rfl ?_
        refine w_getR dX2_partOf_74 flX2_20 rfl (hs.r (a := 59) (j := 2) (b := 68) 67 rfl) ?_
        refine w_iload_n dX2_partOf_77 rfl ?_
        refine w_iald dX2_partOf_78 rfl (hs.n (a := 68) (z := 31) 46 rfl) (by omega) ?_
        refine w_top (y := pBri p j) ((hF j hj).1) ?_
        refine w_ireturn dX2_partOf_79 rfl rfl ?_
        refine q_e ?_ hq
        unfold partV
        simp_all
      by_cases w20_2 : v = 2
      · refine w_tblIn (tgt := 80) dX2_partOf_20 (by rw [w20_2]; decide) (by rw [w20_2]; decide) (by rw [w20_2]; rfl) (by decide) ?_
        refine w_aload_n dX2_partOf_80 rfl ?_
        refine w_getR dX2_partOf_81 flX2_23 rfl (hs.r (a := 59) (j := 3) (b := 69) 68 rfl) ?_
        refine w_iload_n dX2_partOf_84 rfl ?_
        refine w_iald dX2_partOf_85 rfl (hs.n (a := 69) (z := 31) 47 rfl) (by omega) ?_
        refine w_top (y := pKeep p j) ((hF j hj).2.1) ?_
        refine w_ireturn dX2_partOf_86 rfl rfl ?_
        refine q_e ?_ hq
        unfold partV
        simp_all
      by_cases w20_3 : v = 3
      · refine w_tblIn (tgt := 87) dX2_partOf_20 (by rw [w20_3]; decide) (by rw [w20_3]; decide) (by rw [w20_3]; rfl) (by decide) ?_
        refine w_aload_n dX2_partOf_87 rfl ?_
        refine w_getR dX2_partOf_88 flX2_26 rfl (hs.r (a := 59) (j := 4) (b := 70) 69 rfl) ?_
        refine w_iload_n dX2_partOf_91 rfl ?_
        refine w_iald dX2_partOf_92 rfl (hs.n (a := 70) (z := 31) 48 rfl) (by omega) ?_
        refine w_top (y := cst p j) ((hF j hj).2.2.1) ?_
        refine w_ireturn dX2_partOf_93 rfl rfl ?_
        refine q_e ?_ hq
        unfold partV
        simp_all
      by_cases w20_4 : v = 4
      · refine w_tblIn (tgt := 94) dX2_partOf_20 (by rw [w20_4]; decide) (by rw [w20_4]; decide) (by rw [w20_4]; rfl) (by decide) ?_
        refine w_aload_n dX2_partOf_94 rfl ?_
        refine w_getR dX2_partOf_95 flX2_29 rfl (hs.r (a := 59) (j := 5) (b := 71) 70 rfl) ?_
        refine w_iload_n dX2_partOf_98 rfl ?_
        refine w_zald dX2_partOf_99 rfl (hs.n (a := 71) (z := 31) 49 rfl) (by omega) ?_
        refine w_top (y := bI (pBs p j)) ((hF j hj).2.2.2.1) ?_
        refine w_if_eq (tgt := 107) dX2_partOf_100 (by decide) (fun c100 => ?_) (fun c100 => ?_)
        · refine w_iconst dX2_partOf_107 ic_0 ?_
          refine w_ireturn dX2_partOf_108 rfl rfl ?_
          refine q_e ?_ hq
          unfold partV
          rw [if_neg (by rw [w20_4]; decide), if_neg (by rw [w20_4]; decide), if_neg (by rw [w20_4]; decide), if_neg (by rw [w20_4]; decide), if_pos w20_4]
          exact bI_0 (bI_e.mp c100)
        · refine w_iconst dX2_partOf_103 ic_1 ?_
          refine w_goto (tgt := 108) dX2_partOf_104 (by decide) ?_
          refine w_ireturn dX2_partOf_108 rfl rfl ?_
          refine q_e ?_ hq
          unfold partV
          rw [if_neg (by rw [w20_4]; decide), if_neg (by rw [w20_4]; decide), if_neg (by rw [w20_4]; decide), if_neg (by rw [w20_4]; decide), if_pos w20_4]
          exact bI_1 (bI_n.mp c100)
      by_cases w20_5 : v = 5
      · refine w_tblIn (tgt := 109) dX2_partOf_20 (by rw [w20_5]; decide) (by rw [w20_5]; decide) (by rw [w20_5]; rfl) (by decide) ?_
        refine w_aload_n dX2_partOf_109 rfl ?_
        refine w_getR dX2_partOf_110 flX2_33 rfl (hs.r (a := 59) (j := 6) (b := 72) 71 rfl) ?_
        refine w_iload_n dX2_partOf_113 rfl ?_
        refine w_iald dX2_partOf_114 rfl (hs.n (a := 72) (z := 31) 50 rfl) (by omega) ?_
        refine w_top (y := pBr p j) ((hF j hj).2.2.2.2.1) ?_
        refine w_ireturn dX2_partOf_115 rfl rfl ?_
        refine q_e ?_ hq
        unfold partV
        simp_all
      by_cases w20_6 : v = 6
      · refine w_tblIn (tgt := 116) dX2_partOf_20 (by rw [w20_6]; decide) (by rw [w20_6]; decide) (by rw [w20_6]; rfl) (by decide) ?_
        refine w_aload_n dX2_partOf_116 rfl ?_
        refine w_getR dX2_partOf_117 flX2_36 rfl (hs.r (a := 59) (j := 7) (b := 73) 72 rfl) ?_
        refine w_iload_n dX2_partOf_120 rfl ?_
        refine w_iald dX2_partOf_121 rfl (hs.n (a := 73) (z := 31) 51 rfl) (by omega) ?_
        refine w_top (y := pOut p (j + 1)) ((hF j hj).2.2.2.2.2) ?_
        refine w_ireturn dX2_partOf_122 rfl rfl ?_
        refine q_e ?_ hq
        unfold partV
        simp_all
      exfalso
      have a0 := i_ne (k := 0) (a := 0) rfl w20_0
      have a1 := i_ne (k := 1) (a := 1) rfl w20_1
      have a2 := i_ne (k := 2) (a := 2) rfl w20_2
      have a3 := i_ne (k := 3) (a := 3) rfl w20_3
      have a4 := i_ne (k := 4) (a := 4) rfl w20_4
      have a5 := i_ne (k := 5) (a := 5) rfl w20_5
      have a6 := i_ne (k := 6) (a := 6) rfl w20_6
      obtain ⟨b0, b1⟩ := hv
      have d0 : (0 : Int) ≤ v.toInt := Int32.le_iff_toInt_le.mp b0
      have d1 : v.toInt ≤ (6 : Int) := Int32.le_iff_toInt_le.mp b1
      omega
    · exact absurd ⟨nI_pos' (by omega), nI_le (b := 30) (by omega) (by omega)⟩ c13

set_option maxRecDepth 20000 in
theorem sX2_owedOn (hs : SK R N) {x y : Int32} (hx : x = -1 ∧ y = 0 ∨ ∃ j, j < 31 ∧ x = nI j ∧ y = I 60 j) (hq : Q (vI y) I L R N n) : CA sc 2 0 0 mX2_owedOn [vR 2 59, vI (told x)] I L R N n Q := by
  refine ca_in (al := [_, _]) rfl ?_
  refine w_iload_n dX2_owedOn_0 rfl ?_
  rcases hx with ⟨hx, rfl⟩ | ⟨j, hj, hx, rfl⟩
  · refine w_top (y := -1000000005) (told_n hx) ?_
    refine c_S (as := [_]) (d' := 1) dX2_owedOn_1 nlX2_112 moX9_isDay msX9_isDay rfl rfl rfl rfl rfl (by decide) (sX9_isDay ?_)
    refine w_ifB_eq (tgt := 16) dX2_owedOn_4 (by decide) (fun c4 => ?_) (fun c4 => ?_)
    · refine w_iconst dX2_owedOn_16 ic_0 ?_
      refine w_ireturn dX2_owedOn_17 rfl rfl ?_
      exact hq
    · exact absurd c4.1 (by decide)
  · refine w_top (y := nI j) (told_s hx (by omega)) ?_
    refine c_S (as := [_]) (d' := 1) dX2_owedOn_1 nlX2_112 moX9_isDay msX9_isDay rfl rfl rfl rfl rfl (by decide) (sX9_isDay ?_)
    refine w_ifB_eq (tgt := 16) dX2_owedOn_4 (by decide) (fun c4 => ?_) (fun c4 => ?_)
    · exact absurd ⟨nI_pos' (by omega), nI_le (b := 30) (by omega) (by omega)⟩ c4
    · rw [told_s hx (by omega)]
      refine w_aload_n dX2_owedOn_7 rfl ?_
      refine w_getR dX2_owedOn_8 flX2_9 rfl (hs.r (a := 59) (j := 0) (b := 60) 65 rfl) ?_
      refine w_iload_n dX2_owedOn_11 rfl ?_
      refine w_iald dX2_owedOn_12 rfl (hs.n (a := 60) (z := 31) 38 rfl) (by omega) ?_
      refine w_goto (tgt := 17) dX2_owedOn_13 (by decide) ?_
      refine w_ireturn dX2_owedOn_17 rfl rfl ?_
      exact hq

set_option maxRecDepth 20000 in
theorem sX2_addUp (hs : SK R N) {p : PL} (hF : PF I p) (ho : ∀ j, j < 31 → I 60 j = p.1 j) {cd : Int32} (hcd : cardOk cd) {m : Int64}
    (hq : ∀ L' : HL, (∀ q, q ≠ 59 → L' q = L q) → L' 59 8 = L 59 8 + m * sumO p 31 → L' 59 9 = L 59 9 + m * sumC p 31 → L' 59 10 = L 59 10 + m * (pOut p 31).toInt64 → L' 59 11 = L 59 11 + m * cardO p cd → Q vU I L' R N n) : CA sc 2 0 0 mX2_addUp [vR 2 59, vL m, vI cd] I L R N n Q := by
  have lp : ∀ (k j : Nat), j + k = 31 → WP sc 2 0 0 mX2_addUp 9 [vR 2 59, vL m, vU, vI cd, vL (sumO p j), vU, vL (sumC p j), vU, vI (nI j)] [] I L R N n Q := by
    intro k
    induction k with
    | zero =>
      intro j hj
      refine w_iload dX2_addUp_9 rfl ?_
      refine w_bipush dX2_addUp_11 bp_31 ?_
      refine w_icmp_ge (tgt := 57) dX2_addUp_13 (by decide) (fun c13 => ?_) (fun c13 => ?_)
      · obtain rfl : j = 31 := by omega
        refine w_aload_n dX2_addUp_57 rfl ?_
        refine w_dup dX2_addUp_58 rfl ?_
        refine w_getL dX2_addUp_59 flX2_39 rfl ?_
        refine w_lload_n dX2_addUp_62 rfl ?_
        refine w_lload dX2_addUp_63 rfl ?_
        refine w_lmul dX2_addUp_65 ?_
        refine w_ladd dX2_addUp_66 ?_
        refine w_putL dX2_addUp_67 flX2_39 rfl rfl ?_
        refine w_aload_n dX2_addUp_70 rfl ?_
        refine w_dup dX2_addUp_71 rfl ?_
        refine w_getL dX2_addUp_72 flX2_43 rfl ?_
        refine w_lload_n dX2_addUp_75 rfl ?_
        refine w_lload dX2_addUp_76 rfl ?_
        refine w_lmul dX2_addUp_78 ?_
        refine w_ladd dX2_addUp_79 ?_
        refine w_putL dX2_addUp_80 flX2_43 rfl rfl ?_
        refine w_aload_n dX2_addUp_83 rfl ?_
        refine w_dup dX2_addUp_84 rfl ?_
        refine w_getL dX2_addUp_85 flX2_46 rfl ?_
        refine w_lload_n dX2_addUp_88 rfl ?_
        refine w_aload_n dX2_addUp_89 rfl ?_
        refine w_getR dX2_addUp_90 flX2_36 rfl (hs.r (a := 59) (j := 7) (b := 73) 72 rfl) ?_
        refine w_bipush dX2_addUp_93 bp_30 ?_
        refine w_iald (q := 30) dX2_addUp_95 rfl (hs.n (a := 73) (z := 31) 51 rfl) (by omega) ?_
        refine w_top (y := pOut p 31) ((hF 30 (by omega)).2.2.2.2.2) ?_
        refine w_i2l dX2_addUp_96 ?_
        refine w_lmul dX2_addUp_97 ?_
        refine w_ladd dX2_addUp_98 ?_
        refine w_putL dX2_addUp_99 flX2_46 rfl rfl ?_
        rcases hcd with rfl | ⟨c, hc, rfl⟩
        · refine w_iload_n dX2_addUp_102 rfl ?_
          refine c_S (as := [_]) (d' := 1) dX2_addUp_103 nlX2_112 moX9_isDay msX9_isDay rfl rfl rfl rfl rfl (by decide) (sX9_isDay ?_)
          refine w_ifB_eq (tgt := 138) dX2_addUp_106 (by decide) (fun c106 => ?_) (fun c106 => ?_)
          · refine w_return dX2_addUp_138 rfl ?_
            refine hq _ (fun q h => by simp [va_up, h]) (by simp [va_up]) (by simp [va_up]) (by simp [va_up]) ?_
            show _ = L 59 11 + m * cardO p _
            rw [cardO_n]
            simp [va_up]
          · exact absurd c106.1 (by decide)
        · refine w_iload_n dX2_addUp_102 rfl ?_
          refine c_S (as := [_]) (d' := 1) dX2_addUp_103 nlX2_112 moX9_isDay msX9_isDay rfl rfl rfl rfl rfl (by decide) (sX9_isDay ?_)
          refine w_ifB_eq (tgt := 138) dX2_addUp_106 (by decide) (fun c106 => ?_) (fun c106 => ?_)
          · exact absurd ⟨nI_pos' (by omega), nI_le (b := 30) (by omega) (by omega)⟩ c106
          · refine w_aload_n dX2_addUp_109 rfl ?_
            refine w_dup dX2_addUp_110 rfl ?_
            refine w_getL dX2_addUp_111 flX2_49 rfl ?_
            refine w_lload_n dX2_addUp_114 rfl ?_
            refine w_iload_n dX2_addUp_115 rfl ?_
            refine w_if_ne (tgt := 124) dX2_addUp_116 (by decide) (fun c116 => ?_) (fun c116 => ?_)
            · obtain ⟨c1, rfl⟩ : ∃ c1, c = c1 + 1 := ⟨c - 1, by have : c ≠ 0 := fun e => c116 (by rw [e]; rfl); omega⟩
              refine w_aload_n dX2_addUp_124 rfl ?_
              refine w_getR dX2_addUp_125 flX2_36 rfl (hs.r (a := 59) (j := 7) (b := 73) 72 rfl) ?_
              refine w_iload_n dX2_addUp_128 rfl ?_
              refine w_iconst dX2_addUp_129 ic_1 ?_
              refine w_isub dX2_addUp_130 ?_
              refine w_top (y := nI c1) (nI_pred c1) ?_
              refine w_iald dX2_addUp_131 rfl (hs.n (a := 73) (z := 31) 51 rfl) (by omega) ?_
              refine w_top (y := pOut p (c1 + 1)) ((hF c1 (by omega)).2.2.2.2.2) ?_
              refine w_i2l dX2_addUp_132 ?_
              refine w_lmul dX2_addUp_133 ?_
              refine w_ladd dX2_addUp_134 ?_
              refine w_putL dX2_addUp_135 flX2_49 rfl rfl ?_
              refine w_return dX2_addUp_138 rfl ?_
              refine hq _ (fun q h => by simp [va_up, h]) (by simp [va_up]) (by simp [va_up]) (by simp [va_up]) ?_
              show _ = L 59 11 + m * cardO p _
              rw [cardO_s p hc]
              simp [va_up]
            · obtain rfl : c = 0 := (nI_eq (b := 0) (by omega) (by omega)).mp c116
              refine w_ldc dX2_addUp_119 kcX2_107 ?_
              refine w_goto (tgt := 132) dX2_addUp_121 (by decide) ?_
              refine w_i2l dX2_addUp_132 ?_
              refine w_lmul dX2_addUp_133 ?_
              refine w_ladd dX2_addUp_134 ?_
              refine w_putL dX2_addUp_135 flX2_49 rfl rfl ?_
              refine w_return dX2_addUp_138 rfl ?_
              refine hq _ (fun q h => by simp [va_up, h]) (by simp [va_up]) (by simp [va_up]) (by simp [va_up]) ?_
              show _ = L 59 11 + m * cardO p _
              rw [cardO_s p hc, pOut_0]
              simp [va_up]
      · exact absurd (nI_le (a := 31) (by omega) (by omega)) c13
    | succ k ih =>
      intro j hj
      refine w_iload dX2_addUp_9 rfl ?_
      refine w_bipush dX2_addUp_11 bp_31 ?_
      refine w_icmp_ge (tgt := 57) dX2_addUp_13 (by decide) (fun c13 => ?_) (fun c13 => ?_)
      · exact absurd ((nI_leI (a := 31) (by omega) (by omega)).mp c13) (by omega)
      · refine w_lload dX2_addUp_16 rfl ?_
        refine w_aload_n dX2_addUp_18 rfl ?_
        refine w_getR dX2_addUp_19 flX2_36 rfl (hs.r (a := 59) (j := 7) (b := 73) 72 rfl) ?_
        refine w_iload dX2_addUp_22 rfl ?_
        refine w_iald dX2_addUp_24 rfl (hs.n (a := 73) (z := 31) 51 rfl) (by omega) ?_
        refine w_top (y := pOut p (j + 1)) ((hF j (by omega)).2.2.2.2.2) ?_
        refine w_i2l dX2_addUp_25 ?_
        refine w_ladd dX2_addUp_26 ?_
        refine w_lstore (al' := [_, _, _, _, _, _, _, _, _]) dX2_addUp_27 rfl rfl rfl ?_
        refine w_lload dX2_addUp_29 rfl ?_
        refine w_aload_n dX2_addUp_31 rfl ?_
        refine w_getR dX2_addUp_32 flX2_33 rfl (hs.r (a := 59) (j := 6) (b := 72) 71 rfl) ?_
        refine w_iload dX2_addUp_35 rfl ?_
        refine w_iald dX2_addUp_37 rfl (hs.n (a := 72) (z := 31) 50 rfl) (by omega) ?_
        refine w_top (y := pBr p j) ((hF j (by omega)).2.2.2.2.1) ?_
        refine w_i2l dX2_addUp_38 ?_
        refine w_aload_n dX2_addUp_39 rfl ?_
        refine w_getR dX2_addUp_40 flX2_9 rfl (hs.r (a := 59) (j := 0) (b := 60) 65 rfl) ?_
        refine w_iload dX2_addUp_43 rfl ?_
        refine w_iald dX2_addUp_45 rfl (hs.n (a := 60) (z := 31) 38 rfl) (by omega) ?_
        refine w_top (y := p.1 j) (ho j (by omega)) ?_
        refine w_i2l dX2_addUp_46 ?_
        refine w_lmul dX2_addUp_47 ?_
        refine w_ladd dX2_addUp_48 ?_
        refine w_lstore (al' := [_, _, _, _, _, _, _, _, _]) dX2_addUp_49 rfl rfl rfl ?_
        refine w_iinc (al' := [_, _, _, _, _, _, _, _, _]) dX2_addUp_51 rfl rfl ic_1 rfl ?_
        refine w_goto (tgt := 9) dX2_addUp_54 (by decide) ?_
        simp only [nI_1]
        exact ih (j + 1) (by omega)
  refine ca_in (al := [_, _, _, _, _, _, _, _, _]) rfl ?_
  refine w_lconst (v := 0) dX2_addUp_0 rfl ?_
  refine w_lstore (al' := [_, _, _, _, _, _, _, _, _]) dX2_addUp_1 rfl rfl rfl ?_
  refine w_lconst (v := 0) dX2_addUp_3 rfl ?_
  refine w_lstore (al' := [_, _, _, _, _, _, _, _, _]) dX2_addUp_4 rfl rfl rfl ?_
  refine w_iconst dX2_addUp_6 ic_0 ?_
  refine w_istore (al' := [_, _, _, _, _, _, _, _, _]) dX2_addUp_7 rfl rfl rfl ?_
  exact lp 31 0 rfl

set_option maxRecDepth 20000 in
theorem sX2_tally (hs : SK R N) {w : Nat} (hw : w = 1 ∨ w = 30) {V : VV} (hV : VO V) (hC : WC I R N n w V) {oF : VV} {cd : Int32} (hcd : cardOk cd) (ho : ∀ j, j < 31 → I 60 j = oF j) (hf : ∀ s, s < nS V → ∀ j, j < 31 → I (62 + s) j = forgV V (V (6 + 7 * s + 1)) cd (nI j))
    (hq : ∀ (I' : HI) (L' : HL), (∀ q, q ≠ w + 12 → (q < 68 ∨ 74 ≤ q) → I' q = I q) → (∀ q, q ≠ 59 → L' q = L q) → L' 59 8 = libD V oF cd (nS V) → L' 59 9 = libC V oF cd (nS V) → L' 59 10 = libL V oF cd (nS V) → L' 59 11 = libK V oF cd (nS V) → Q vU I' L' R N n) : CA sc 5 0 0 mX2_tally [vR 2 59, vR 8 w, vI cd] I L R N n Q := by
  have h6 := hV.1.2
  have lp : ∀ (k s : Nat) (I1 : HI) (L1 : HL), s + k = nS V → (∀ q, q ≠ w + 12 → (q < 68 ∨ 74 ≤ q) → I1 q = I q) → (∀ q, q ≠ 59 → L1 q = L q) → L1 59 8 = libD V oF cd s → L1 59 9 = libC V oF cd s → L1 59 10 = libL V oF cd s → L1 59 11 = libK V oF cd s → WP sc 5 0 0 mX2_tally 22 [vR 2 59, vR 8 w, vI cd, vI (nI s)] [] I1 L1 R N n Q := by
    intro k
    induction k with
    | zero =>
      intro s I1 L1 hj hI1 hL1 l1 l2 l3 l4
      refine w_iload_n dX2_tally_22 rfl ?_
      refine w_aload_n dX2_tally_23 rfl ?_
      refine w_getI dX2_tally_24 flX2_74 rfl ?_
      refine w_top (y := nI (nS V)) ((congrFun (hI1 w (by omega) (by rcases hw with rfl | rfl <;> omega)) 1).trans (hC.1.1.trans hV.1.1)) ?_
      refine w_icmp_ge (tgt := 56) dX2_tally_27 (by decide) (fun c27 => ?_) (fun c27 => ?_)
      · obtain rfl : s = nS V := by omega
        refine w_return dX2_tally_56 rfl ?_
        exact hq I1 L1 hI1 hL1 l1 l2 l3 l4
      · exact absurd (nI_le (a := nS V) (by omega) (by omega)) c27
    | succ k ih =>
      intro s I1 L1 hj hI1 hL1 l1 l2 l3 l4
      refine w_iload_n dX2_tally_22 rfl ?_
      refine w_aload_n dX2_tally_23 rfl ?_
      refine w_getI dX2_tally_24 flX2_74 rfl ?_
      refine w_top (y := nI (nS V)) ((congrFun (hI1 w (by omega) (by rcases hw with rfl | rfl <;> omega)) 1).trans (hC.1.1.trans hV.1.1)) ?_
      refine w_icmp_ge (tgt := 56) dX2_tally_27 (by decide) (fun c27 => ?_) (fun c27 => ?_)
      · exact absurd ((nI_leI (by omega) (by omega)).mp c27) (by omega)
      · refine w_aload_n dX2_tally_30 rfl ?_
        refine w_aload_n dX2_tally_31 rfl ?_
        refine w_iload_n dX2_tally_32 rfl ?_
        have hss : s < nS V := by omega
        have hC1 : WC I1 R N n w V := hC.keep hV (fun a ha => hI1 a (by unfold WA at ha; rcases hw with rfl | rfl <;> omega) (by unfold WA at ha; rcases hw with rfl | rfl <;> omega))
        refine c_Vv (t := 2) (as := [_, _]) (d' := 4) dX2_tally_33 mlX2_92 moX2_follow mvX2_follow ⟨rfl, rfl⟩ rfl rfl rfl rfl rfl (by decide) (sX2_follow hs hw hV hC1 hss (oF := oF) (cd := cd) (fun j hj => by rw [hI1 60 (by rcases hw with rfl | rfl <;> omega) (by omega)]; exact ho j hj) (fun j hj => by rw [hI1 (62 + s) (by rcases hw with rfl | rfl <;> omega) (by omega)]; exact hf s hss j hj) (fun I2 hI2 hF2 => ?_))
        refine w_aload_n dX2_tally_36 rfl ?_
        refine w_aload_n dX2_tally_37 rfl ?_
        refine w_getR dX2_tally_38 flX2_85 rfl (hs.wr (j := 0) (o := 1) hw 9 37 rfl rfl) ?_
        refine w_iload_n dX2_tally_41 rfl ?_
        refine w_aaldI dX2_tally_42 rfl (hs.wn (o := 1) (z := 6) hw 0 19 rfl rfl) (by omega) (hs.rows hw (by omega)).1 ?_
        refine w_iconst dX2_tally_43 ic_0 ?_
        refine w_iald (q := 0) dX2_tally_44 rfl (hs.rows hw (by omega)).2 (by decide) ?_
        refine w_top (y := V (6 + 7 * s)) ((congrFun ((hI2 (w + 2 + s) (by omega) (by rcases hw with rfl | rfl <;> omega)).trans (hI1 (w + 2 + s) (by omega) (by rcases hw with rfl | rfl <;> omega))) 0).trans (hC.2.1 s hss 0 (by decide))) ?_
        refine w_i2l dX2_tally_45 ?_
        refine w_iload_n dX2_tally_46 rfl ?_
        refine c_Vv (t := 2) (as := [_, _]) (d' := 2) dX2_tally_47 mlX2_137 moX2_addUp mvX2_addUp ⟨rfl, rfl⟩ rfl rfl rfl rfl rfl (by decide) (sX2_addUp hs hF2 (fun j hj => by rw [hI2 60 (by rcases hw with rfl | rfl <;> omega) (by omega), hI1 60 (by rcases hw with rfl | rfl <;> omega) (by omega)]; exact ho j hj) hcd (fun L2 hL2 m1 m2 m3 m4 => ?_))
        refine w_iinc (al' := [_, _, _, _]) dX2_tally_50 rfl rfl ic_1 rfl ?_
        refine w_goto (tgt := 22) dX2_tally_53 (by decide) ?_
        simp only [nI_1]
        exact ih (s + 1) I2 L2 (by omega) (fun q a1 a2 => (hI2 q a1 a2).trans (hI1 q a1 a2)) (fun q a1 => (hL2 q a1).trans (hL1 q a1)) (by rw [m1, l1]; rfl) (by rw [m2, l2]; rfl) (by rw [m3, l3]; rfl) (by rw [m4, l4]; rfl)
  refine ca_in (al := [_, _, _, _]) rfl ?_
  refine w_aload_n dX2_tally_0 rfl ?_
  refine w_lconst (v := 0) dX2_tally_1 rfl ?_
  refine w_putL dX2_tally_2 flX2_39 rfl rfl ?_
  refine w_aload_n dX2_tally_5 rfl ?_
  refine w_lconst (v := 0) dX2_tally_6 rfl ?_
  refine w_putL dX2_tally_7 flX2_43 rfl rfl ?_
  refine w_aload_n dX2_tally_10 rfl ?_
  refine w_lconst (v := 0) dX2_tally_11 rfl ?_
  refine w_putL dX2_tally_12 flX2_46 rfl rfl ?_
  refine w_aload_n dX2_tally_15 rfl ?_
  refine w_lconst (v := 0) dX2_tally_16 rfl ?_
  refine w_putL dX2_tally_17 flX2_49 rfl rfl ?_
  refine w_iconst dX2_tally_20 ic_0 ?_
  refine w_istore_n (al' := [_, _, _, _]) dX2_tally_21 rfl rfl rfl ?_
  exact lp (nS V) 0 I _ (by omega) (fun _ _ _ => rfl) (fun q h => by simp [va_up, h]) (by simp [va_up]; rfl) (by simp [va_up]; rfl) (by simp [va_up]; rfl) (by simp [va_up]; rfl)

set_option maxRecDepth 20000 in
theorem lX10_findLibrary (hs : SK R N) {p : PL} {s : Nat} {m : Int64} (hM : MF I p) (ho : ∀ j, j < 31 → I 121 j = p.1 j)
    (hk : ∀ L' : HL, (∀ q, q ≠ 117 → L' q = L q) → (∀ i, i ≠ 12 → i ≠ 13 → L' 117 i = L 117 i) → L' 117 12 = L 117 12 + m * sumO p 31 → L' 117 13 = L 117 13 + m * sumC p 31 → WP sc 4 0 0 mX10_findLibrary 114 [vR 10 117, vI (nI s), vL m, vU, vI (nI 31)] [] I L' R N n Q) : WP sc 4 0 0 mX10_findLibrary 52 [vR 10 117, vI (nI s), vL m, vU, vI (nI 0)] [] I L R N n Q := by
  have lp : ∀ (k j : Nat) (L1 : HL), j + k = 31 → (∀ q, q ≠ 117 → L1 q = L q) → (∀ i, i ≠ 12 → i ≠ 13 → L1 117 i = L 117 i) → L1 117 12 = L 117 12 + m * sumO p j → L1 117 13 = L 117 13 + m * sumC p j → WP sc 4 0 0 mX10_findLibrary 52 [vR 10 117, vI (nI s), vL m, vU, vI (nI j)] [] I L1 R N n Q := by
    intro k
    induction k with
    | zero =>
      intro j L1 hj hL hL2 h12 h13
      refine w_iload dX10_findLibrary_52 rfl ?_
      refine w_bipush dX10_findLibrary_54 bp_31 ?_
      refine w_icmp_ge (tgt := 114) dX10_findLibrary_56 (by decide) (fun c56 => ?_) (fun c56 => ?_)
      · obtain rfl : j = 31 := by omega
        exact hk L1 hL hL2 h12 h13
      · exact absurd (nI_le (a := 31) (by omega) (by omega)) c56
    | succ k ih =>
      intro j L1 hj hL hL2 h12 h13
      refine w_iload dX10_findLibrary_52 rfl ?_
      refine w_bipush dX10_findLibrary_54 bp_31 ?_
      refine w_icmp_ge (tgt := 114) dX10_findLibrary_56 (by decide) (fun c56 => ?_) (fun c56 => ?_)
      · exact absurd ((nI_leI (a := 31) (by omega) (by omega)).mp c56) (by omega)
      · refine w_aload_n dX10_findLibrary_59 rfl ?_
        refine w_dup dX10_findLibrary_60 rfl ?_
        refine w_getL dX10_findLibrary_61 flX10_186 rfl ?_
        refine w_lload_n dX10_findLibrary_64 rfl ?_
        refine w_aload_n dX10_findLibrary_65 rfl ?_
        refine w_getR dX10_findLibrary_66 flX10_41 rfl (hs.r (a := 117) (j := 11) (b := 128) 126 rfl) ?_
        refine w_iload dX10_findLibrary_69 rfl ?_
        refine w_iconst dX10_findLibrary_71 ic_1 ?_
        refine w_iadd dX10_findLibrary_72 ?_
        refine w_top (y := nI (j + 1)) (nI_1 j) ?_
        refine w_iald dX10_findLibrary_73 rfl (hs.n (a := 128) (z := 32) 82 rfl) (by omega) ?_
        refine w_top (y := pOut p (j + 1)) ((hM j (by omega)).2.2.2.2.2.2) ?_
        refine w_i2l dX10_findLibrary_74 ?_
        refine w_lmul dX10_findLibrary_75 ?_
        refine w_ladd dX10_findLibrary_76 ?_
        refine w_putL dX10_findLibrary_77 flX10_186 rfl rfl ?_
        refine w_aload_n dX10_findLibrary_80 rfl ?_
        refine w_dup dX10_findLibrary_81 rfl ?_
        refine w_getL dX10_findLibrary_82 flX10_190 rfl ?_
        refine w_lload_n dX10_findLibrary_85 rfl ?_
        refine w_aload_n dX10_findLibrary_86 rfl ?_
        refine w_getR dX10_findLibrary_87 flX10_38 rfl (hs.r (a := 117) (j := 10) (b := 127) 125 rfl) ?_
        refine w_iload dX10_findLibrary_90 rfl ?_
        refine w_iald dX10_findLibrary_92 rfl (hs.n (a := 127) (z := 31) 81 rfl) (by omega) ?_
        refine w_top (y := pBr p j) ((hM j (by omega)).2.2.2.2.2.1) ?_
        refine w_i2l dX10_findLibrary_93 ?_
        refine w_lmul dX10_findLibrary_94 ?_
        refine w_aload_n dX10_findLibrary_95 rfl ?_
        refine w_getR dX10_findLibrary_96 flX10_19 rfl (hs.r (a := 117) (j := 4) (b := 121) 119 rfl) ?_
        refine w_iload dX10_findLibrary_99 rfl ?_
        refine w_iald dX10_findLibrary_101 rfl (hs.n (a := 121) (z := 31) 75 rfl) (by omega) ?_
        refine w_top (y := p.1 j) (ho j (by omega)) ?_
        refine w_i2l dX10_findLibrary_102 ?_
        refine w_lmul dX10_findLibrary_103 ?_
        refine w_ladd dX10_findLibrary_104 ?_
        refine w_putL dX10_findLibrary_105 flX10_190 rfl rfl ?_
        refine w_iinc (al' := [_, _, _, _, _]) dX10_findLibrary_108 rfl rfl ic_1 rfl ?_
        refine w_goto (tgt := 52) dX10_findLibrary_111 (by decide) ?_
        simp only [nI_1]
        refine ih (j + 1) _ (by omega) (fun q h => by simp [va_up, h, hL q h]) (fun i e1 e2 => by simp [va_up, e1, e2, hL2 i e1 e2]) ?_ ?_
        · simp only [va_up, if_true, show ((12 : Nat) = 13) = False by decide, if_false]
          rw [h12, sumO, Int64.mul_add, Int64.add_assoc]
        · simp only [va_up, if_true, show ((13 : Nat) = 12) = False by decide, if_false]
          rw [h13, sumC, Int64.mul_add, Int64.add_assoc, Int64.mul_assoc]
  exact lp 31 0 L rfl (fun _ _ => rfl) (fun _ _ _ => rfl) (by rw [show sumO p 0 = 0 from rfl]; simp) (by rw [show sumC p 0 = 0 from rfl]; simp)

set_option maxRecDepth 20000 in
theorem sX10_findLibrary (hs : SK R N) {V : VV} (hI : I 118 = V) (hV : VO V)
    (hq : ∀ (I' : HI) (L' : HL), (∀ q, q ≠ 135 → q ≠ 136 → (q < 121 ∨ 129 ≤ q) → I' q = I q) → (∀ q, q ≠ 117 → L' q = L q) → L' 117 12 = libD V (owV V) (told (V 4)) (nS V) → L' 117 13 = libC V (owV V) (told (V 4)) (nS V) → L' 117 14 = libL V (owV V) (told (V 4)) (nS V) → L' 117 15 = libK V (owV V) (told (V 4)) (nS V) → Q vU I' L' R N n) : CA sc 4 0 0 mX10_findLibrary [vR 10 117] I L R N n Q := by
  have h6 := hV.1.2
  obtain ⟨cd, hcdd⟩ : ∃ cd, cd = told (V 4) := ⟨_, rfl⟩
  obtain ⟨oF, hoF⟩ : ∃ oF, oF = owV V := ⟨_, rfl⟩
  have lp : ∀ (k s : Nat) (I1 : HI) (L1 : HL), s + k = nS V → (∀ q, q ≠ 135 → q ≠ 136 → (q < 121 ∨ 129 ≤ q) → I1 q = I q) → (∀ j, j < 31 → I1 121 j = oF j) → (∀ q, q ≠ 117 → L1 q = L q) → L1 117 12 = libD V oF cd s → L1 117 13 = libC V oF cd s → L1 117 14 = libL V oF cd s → L1 117 15 = libK V oF cd s → WP sc 4 0 0 mX10_findLibrary 26 [vR 10 117, vI (nI s), vU, vU, vU] [] I1 L1 R N n Q := by
    intro k
    induction k with
    | zero =>
      intro s I1 L1 hj hI1 ho1 hL1 l1 l2 l3 l4
      refine w_iload_n dX10_findLibrary_26 rfl ?_
      refine w_aload_n dX10_findLibrary_27 rfl ?_
      refine w_getR dX10_findLibrary_28 flX10_9 rfl (hs.r (a := 117) (j := 0) (b := 118) 116 rfl) ?_
      refine w_iconst dX10_findLibrary_31 ic_1 ?_
      refine w_iald (q := 1) dX10_findLibrary_32 rfl (hs.n (a := 118) (z := 1452) 72 rfl) (by decide) ?_
      refine w_top (y := nI (nS V)) ((congrFun ((hI1 118 (by decide) (by decide) (by decide)).trans hI) 1).trans hV.1.1) ?_
      refine w_icmp_ge (tgt := 175) dX10_findLibrary_33 (by decide) (fun c33 => ?_) (fun c33 => ?_)
      · obtain rfl : s = nS V := by omega
        refine w_return dX10_findLibrary_175 rfl ?_
        subst hoF hcdd
        exact hq I1 L1 hI1 hL1 l1 l2 l3 l4
      · exact absurd (nI_le (a := nS V) (by omega) (by omega)) c33
    | succ k ih =>
      intro s I1 L1 hj hI1 ho1 hL1 l1 l2 l3 l4
      refine w_iload_n dX10_findLibrary_26 rfl ?_
      refine w_aload_n dX10_findLibrary_27 rfl ?_
      refine w_getR dX10_findLibrary_28 flX10_9 rfl (hs.r (a := 117) (j := 0) (b := 118) 116 rfl) ?_
      refine w_iconst dX10_findLibrary_31 ic_1 ?_
      refine w_iald (q := 1) dX10_findLibrary_32 rfl (hs.n (a := 118) (z := 1452) 72 rfl) (by decide) ?_
      refine w_top (y := nI (nS V)) ((congrFun ((hI1 118 (by decide) (by decide) (by decide)).trans hI) 1).trans hV.1.1) ?_
      refine w_icmp_ge (tgt := 175) dX10_findLibrary_33 (by decide) (fun c33 => ?_) (fun c33 => ?_)
      · exact absurd ((nI_leI (by omega) (by omega)).mp c33) (by omega)
      · refine w_aload_n dX10_findLibrary_36 rfl ?_
        refine w_iload_n dX10_findLibrary_37 rfl ?_
        have hss : s < nS V := by omega
        refine c_Vv (t := 10) (as := [_]) (d' := 3) dX10_findLibrary_38 mlX10_175 moX10_findDays mvX10_findDays ⟨rfl, rfl⟩ rfl rfl rfl rfl rfl (by decide) (sX10_findDays hs ((hI1 118 (by decide) (by decide) (by decide)).trans hI) hV hss ho1 (fun I2 hI2 hM2 h128 => ?_))
        have hX2 : (∀ q, q ≠ 135 → q ≠ 136 → (q < 121 ∨ 129 ≤ q) → I2 q = I q) := fun q a1 a2 a3 => (hI2 q a1 a2 (by omega)).trans (hI1 q a1 a2 a3)
        refine w_aload_n dX10_findLibrary_41 rfl ?_
        refine w_iload_n dX10_findLibrary_42 rfl ?_
        refine w_iconst dX10_findLibrary_43 ic_0 ?_
        refine c_V (t := 10) (as := [_, _]) (d' := 0) dX10_findLibrary_44 mlX10_111 moX10_sortOf mvX10_sortOf ⟨rfl, rfl⟩ rfl rfl rfl rfl rfl (by decide) (vX10_sortOf (V := V) (b := 0) hs ((hX2 118 (by decide) (by decide) (by decide)).trans hI) (by omega) ?_)
        refine w_i2l dX10_findLibrary_47 ?_
        refine w_lstore_n (al' := [_, _, _, _, _]) dX10_findLibrary_48 rfl rfl rfl ?_
        refine w_iconst dX10_findLibrary_49 ic_0 ?_
        refine w_istore (al' := [_, _, _, _, _]) dX10_findLibrary_50 rfl rfl rfl ?_
        refine lX10_findLibrary hs (p := plV V oF cd s) (by rw [hcdd]; exact hM2) (fun j hj => by rw [hI2 121 (by decide) (by decide) (by decide)]; exact ho1 j hj) (fun L3 hL3 hL4 e12 e13 => ?_)
        have hout : ∀ c, c ≤ 31 → I2 128 c = pOut (plV V oF cd s) c := fun c hc => by
          cases c with
          | zero => exact h128
          | succ c => rw [hcdd]; exact (hM2 c (by omega)).2.2.2.2.2.2
        refine w_aload_n dX10_findLibrary_114 rfl ?_
        refine w_dup dX10_findLibrary_115 rfl ?_
        refine w_getL dX10_findLibrary_116 flX10_193 rfl ?_
        refine w_lload_n dX10_findLibrary_119 rfl ?_
        refine w_aload_n dX10_findLibrary_120 rfl ?_
        refine w_getR dX10_findLibrary_121 flX10_41 rfl (hs.r (a := 117) (j := 11) (b := 128) 126 rfl) ?_
        refine w_bipush dX10_findLibrary_124 bp_31 ?_
        refine w_iald (q := 31) dX10_findLibrary_126 rfl (hs.n (a := 128) (z := 32) 82 rfl) (by decide) ?_
        refine w_top (y := pOut (plV V oF cd s) 31) (hout 31 (by omega)) ?_
        refine w_i2l dX10_findLibrary_127 ?_
        refine w_lmul dX10_findLibrary_128 ?_
        refine w_ladd dX10_findLibrary_129 ?_
        refine w_putL dX10_findLibrary_130 flX10_193 rfl rfl ?_
        refine w_aload_n dX10_findLibrary_133 rfl ?_
        refine w_dup dX10_findLibrary_134 rfl ?_
        refine w_getL dX10_findLibrary_135 flX10_196 rfl ?_
        refine w_aload_n dX10_findLibrary_138 rfl ?_
        refine w_getR dX10_findLibrary_139 flX10_9 rfl (hs.r (a := 117) (j := 0) (b := 118) 116 rfl) ?_
        refine w_iconst dX10_findLibrary_142 ic_4 ?_
        rcases hV.2.2.2.2.2.2.1 with hv4 | ⟨c, hc, hv4⟩
        · have hcd := told_n hv4
          refine w_iald (q := 4) dX10_findLibrary_143 rfl (hs.n (a := 118) (z := 1452) 72 rfl) (by decide) ?_
          refine w_top (y := -1) ((congrFun ((hX2 118 (by decide) (by decide) (by decide)).trans hI) 4).trans hv4) ?_
          refine w_if_ge (tgt := 151) dX10_findLibrary_144 (by decide) (fun c144 => ?_) (fun c144 => ?_)
          · exact absurd c144 (by decide)
          · refine w_lconst (v := 0) dX10_findLibrary_147 rfl ?_
            refine w_goto (tgt := 165) dX10_findLibrary_148 (by decide) ?_
            refine w_ladd dX10_findLibrary_165 ?_
            refine w_putL dX10_findLibrary_166 flX10_196 rfl rfl ?_
            refine w_iinc (al' := [_, _, _, _, _]) dX10_findLibrary_169 rfl rfl ic_1 rfl ?_
            refine w_goto (tgt := 26) dX10_findLibrary_172 (by decide) ?_
            simp only [nI_1]
            refine w_kill (i := 4) (al' := [_, _, _, _, _]) rfl ?_
            refine w_kill (i := 2) (al' := [_, _, _, _, _]) rfl ?_
            refine ih (s + 1) I2 _ (by omega) hX2 (fun j hj => by rw [hI2 121 (by decide) (by decide) (by decide)]; exact ho1 j hj) (fun q h => by simp [va_up, h, hL3 q h, hL1 q h]) ?_ ?_ ?_ ?_
            · simp [va_up, e12, l1, libD]
            · simp [va_up, e13, l2, libC]
            · simp [va_up, hL4 14 (by decide) (by decide), l3, libL]
            · simp [va_up, hL4 15 (by decide) (by decide), l4, libK, hcdd, cardO_n, hcd]
        · have hcd := told_s hv4 (by omega)
          refine w_iald (q := 4) dX10_findLibrary_143 rfl (hs.n (a := 118) (z := 1452) 72 rfl) (by decide) ?_
          refine w_top (y := nI c) ((congrFun ((hX2 118 (by decide) (by decide) (by decide)).trans hI) 4).trans hv4) ?_
          refine w_if_ge (tgt := 151) dX10_findLibrary_144 (by decide) (fun c144 => ?_) (fun c144 => ?_)
          · refine w_lload_n dX10_findLibrary_151 rfl ?_
            refine w_aload_n dX10_findLibrary_152 rfl ?_
            refine w_getR dX10_findLibrary_153 flX10_41 rfl (hs.r (a := 117) (j := 11) (b := 128) 126 rfl) ?_
            refine w_aload_n dX10_findLibrary_156 rfl ?_
            refine w_getR dX10_findLibrary_157 flX10_9 rfl (hs.r (a := 117) (j := 0) (b := 118) 116 rfl) ?_
            refine w_iconst dX10_findLibrary_160 ic_4 ?_
            refine w_iald (q := 4) dX10_findLibrary_161 rfl (hs.n (a := 118) (z := 1452) 72 rfl) (by decide) ?_
            refine w_top (y := nI c) ((congrFun ((hX2 118 (by decide) (by decide) (by decide)).trans hI) 4).trans hv4) ?_
            refine w_iald dX10_findLibrary_162 rfl (hs.n (a := 128) (z := 32) 82 rfl) (by omega) ?_
            refine w_top (y := pOut (plV V oF cd s) c) (hout c (by omega)) ?_
            refine w_i2l dX10_findLibrary_163 ?_
            refine w_lmul dX10_findLibrary_164 ?_
            refine w_ladd dX10_findLibrary_165 ?_
            refine w_putL dX10_findLibrary_166 flX10_196 rfl rfl ?_
            refine w_iinc (al' := [_, _, _, _, _]) dX10_findLibrary_169 rfl rfl ic_1 rfl ?_
            refine w_goto (tgt := 26) dX10_findLibrary_172 (by decide) ?_
            simp only [nI_1]
            refine w_kill (i := 4) (al' := [_, _, _, _, _]) rfl ?_
            refine w_kill (i := 2) (al' := [_, _, _, _, _]) rfl ?_
            refine ih (s + 1) I2 _ (by omega) hX2 (fun j hj => by rw [hI2 121 (by decide) (by decide) (by decide)]; exact ho1 j hj) (fun q h => by simp [va_up, h, hL3 q h, hL1 q h]) ?_ ?_ ?_ ?_
            · simp [va_up, e12, l1, libD]
            · simp [va_up, e13, l2, libC]
            · simp [va_up, hL4 14 (by decide) (by decide), l3, libL]
            · simp [va_up, hL4 15 (by decide) (by decide), l4, libK, hcdd, hcd, cardO_s _ hc]
          · exact absurd (nI_pos' (by omega)) c144
  refine ca_in (al := [_, _, _, _, _]) rfl ?_
  refine w_aload_n dX10_findLibrary_0 rfl ?_
  refine c_Vv (t := 10) (as := []) (d' := 3) dX10_findLibrary_1 mlX10_172 moX10_findOwed mvX10_findOwed ⟨rfl, rfl⟩ rfl rfl rfl rfl rfl (by decide) (sX10_findOwed hs hI hV (fun I0 hI0 ho0 => ?_))
  refine w_aload_n dX10_findLibrary_4 rfl ?_
  refine w_lconst (v := 0) dX10_findLibrary_5 rfl ?_
  refine w_putL dX10_findLibrary_6 flX10_186 rfl rfl ?_
  refine w_aload_n dX10_findLibrary_9 rfl ?_
  refine w_lconst (v := 0) dX10_findLibrary_10 rfl ?_
  refine w_putL dX10_findLibrary_11 flX10_190 rfl rfl ?_
  refine w_aload_n dX10_findLibrary_14 rfl ?_
  refine w_lconst (v := 0) dX10_findLibrary_15 rfl ?_
  refine w_putL dX10_findLibrary_16 flX10_193 rfl rfl ?_
  refine w_aload_n dX10_findLibrary_19 rfl ?_
  refine w_lconst (v := 0) dX10_findLibrary_20 rfl ?_
  refine w_putL dX10_findLibrary_21 flX10_196 rfl rfl ?_
  refine w_iconst dX10_findLibrary_24 ic_0 ?_
  refine w_istore_n (al' := [_, _, _, _, _]) dX10_findLibrary_25 rfl rfl rfl ?_
  exact lp (nS V) 0 I0 _ (by omega) (fun q a1 a2 a3 => hI0 q a1 a2 (by omega)) (fun j hj => by rw [hoF]; exact ho0 j hj) (fun q h => by simp [va_up, h]) (by simp [va_up]; rfl) (by simp [va_up]; rfl) (by simp [va_up]; rfl) (by simp [va_up]; rfl)

end
