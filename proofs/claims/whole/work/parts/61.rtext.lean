section
variable {sc : SC} {I : HI} {L : HL} {R : HR} {N : HN} {n : Nat} {Q : HQ}
set_option maxRecDepth 20000 in
theorem lX10_text (hs : SK R N) {V : VV} {key a : Nat} {c : List Int32} (h14 : nTx V < 14) (hc : c.length ≤ 93) (h27 : I 117 27 = nI c.length) (hC : SR (I 132) c) (hrow0 : (∀ i, I 118 i = if i = 80 + 2 * nTx V then nI (1000 * key + c.length) else if i = 80 + 2 * nTx V + 1 then nI a else if 108 + 96 * nTx V ≤ i ∧ i < 108 + 96 * nTx V + 0 then cdF c (i - (108 + 96 * nTx V)) else V i)) (hq : ∀ I' : HI, (∀ q, q ≠ 118 → I' q = I q) → I' 118 = oTxV V key c a → Q (vI (nI (nTx V))) I' L R N n) : WP sc 4 0 0 mX10_text 115 [vR 10 117, vI 1, vI (nI (nTx V)), vI (nI 0)] [] I L R N n Q := by
  have lp : ∀ (k j : Nat) (I1 : HI), j + k = c.length → (∀ q, q ≠ 118 → I1 q = I q) → (∀ i, I1 118 i = if i = 80 + 2 * nTx V then nI (1000 * key + c.length) else if i = 80 + 2 * nTx V + 1 then nI a else if 108 + 96 * nTx V ≤ i ∧ i < 108 + 96 * nTx V + j then cdF c (i - (108 + 96 * nTx V)) else V i) → WP sc 4 0 0 mX10_text 115 [vR 10 117, vI 1, vI (nI (nTx V)), vI (nI j)] [] I1 L R N n Q := by
    intro k
    induction k with
    | zero =>
      intro j I1 hj hA1 hrow
      refine w_iload_n dX10_text_115 rfl ?_
      refine w_aload_n dX10_text_116 rfl ?_
      refine w_getI dX10_text_117 flX10_244 rfl ?_
      refine w_top (y := nI c.length) (by rw [hA1 117 (by decide)]; exact h27) ?_
      refine w_icmp_ge (tgt := 149) dX10_text_120 (by decide) (fun c120 => ?_) (fun c120 => ?_)
      · obtain rfl : j = c.length := by omega
        refine w_aload_n dX10_text_149 rfl ?_
        refine w_getR dX10_text_150 flX10_9 rfl (hs.r (a := 117) (j := 0) (b := 118) 116 rfl) ?_
        refine w_iconst dX10_text_153 ic_5 ?_
        refine w_dup2 dX10_text_154 rfl rfl ?_
        refine w_iald (q := 5) dX10_text_155 rfl (hs.n (a := 118) (z := 1452) 72 rfl) (by decide) ?_
        refine w_top (y := V 5) (by rw [hrow 5, if_neg (by omega), if_neg (by omega), if_neg (by omega)]) ?_
        refine w_iconst dX10_text_156 ic_1 ?_
        refine w_iadd dX10_text_157 ?_
        refine w_iast (q := 5) dX10_text_158 rfl (hs.n (a := 118) (z := 1452) 72 rfl) (by decide) ?_
        refine w_st (fun I3 hA3 hB3 hC3 => ?_)
        refine w_iload_n dX10_text_159 rfl ?_
        refine w_ireturn dX10_text_160 rfl rfl ?_
        refine hq I3 (fun q hq => (hA3 q hq).trans (hA1 q hq)) ?_
        funext i
        unfold oTxV
        by_cases e : i = 5
        · rw [e, hC3, if_pos rfl]
        · rw [hB3 i e, hrow i, if_neg e]
      · exact absurd (nI_le (a := c.length) (by omega) (by omega)) c120
    | succ k ih =>
      intro j I1 hj hA1 hrow
      refine w_iload_n dX10_text_115 rfl ?_
      refine w_aload_n dX10_text_116 rfl ?_
      refine w_getI dX10_text_117 flX10_244 rfl ?_
      refine w_top (y := nI c.length) (by rw [hA1 117 (by decide)]; exact h27) ?_
      refine w_icmp_ge (tgt := 149) dX10_text_120 (by decide) (fun c120 => ?_) (fun c120 => ?_)
      · exact absurd ((nI_leI (by omega) (by omega)).mp c120) (by omega)
      · refine w_aload_n dX10_text_123 rfl ?_
        refine w_getR dX10_text_124 flX10_9 rfl (hs.r (a := 117) (j := 0) (b := 118) 116 rfl) ?_
        refine w_bipush dX10_text_127 bp_108 ?_
        refine w_bipush dX10_text_129 bp_96 ?_
        refine w_iload_n dX10_text_131 rfl ?_
        refine w_imul dX10_text_132 ?_
        refine w_iadd dX10_text_133 ?_
        refine w_top (y := nI (108 + 96 * nTx V)) (by show nI 108 + nI 96 * nI (nTx V) = _; rw [nI_mul, nI_add]) ?_
        refine w_iload_n dX10_text_134 rfl ?_
        refine w_iadd dX10_text_135 ?_
        refine w_top (y := nI (108 + 96 * nTx V + j)) (nI_add _ _) ?_
        refine w_aload_n dX10_text_136 rfl ?_
        refine w_getR dX10_text_137 flX10_54 rfl (hs.r (a := 117) (j := 26) (b := 132) 130 rfl) ?_
        refine w_iload_n dX10_text_140 rfl ?_
        refine w_iald dX10_text_141 rfl (hs.n (a := 132) (z := 96) 86 rfl) (by omega) ?_
        refine w_top (y := cdF c j) (by rw [hA1 132 (by decide)]; exact SR_cd hC (by omega)) ?_
        refine w_iast dX10_text_142 rfl (hs.n (a := 118) (z := 1452) 72 rfl) (by omega) ?_
        refine w_st (fun I2 hA2 hB2 hC2 => ?_)
        refine w_iinc (al' := [_, _, _, _]) dX10_text_143 rfl rfl ic_1 rfl ?_
        refine w_goto (tgt := 115) dX10_text_146 (by decide) ?_
        rw [nI_1]
        refine ih (j + 1) I2 (by omega) (fun q hq => (hA2 q hq).trans (hA1 q hq)) (fun i => ?_)
        by_cases e : i = 108 + 96 * nTx V + j
        · rw [e, hC2, if_neg (by omega), if_neg (by omega), if_pos (by omega)]
          congr 1
          omega
        · rw [hB2 i e, hrow i]
          by_cases q1 : i = 80 + 2 * nTx V
          · rw [if_pos q1, if_pos q1]
          · rw [if_neg q1, if_neg q1]
            by_cases q2 : i = 80 + 2 * nTx V + 1
            · rw [if_pos q2, if_pos q2]
            · rw [if_neg q2, if_neg q2]
              by_cases q3 : 108 + 96 * nTx V ≤ i ∧ i < 108 + 96 * nTx V + j
              · rw [if_pos q3, if_pos (by omega)]
              · rw [if_neg q3, if_neg (by omega)]
  exact lp c.length 0 I (Nat.zero_add _) (fun _ _ => rfl) hrow0

set_option maxRecDepth 20000 in
theorem sX10_text (hs : SK R N) (hK : KYC I) {V : VV} (hI : I 118 = V) (hV : VO V) {T : VV} {z : Nat} {td : VV} {r : Nat × Option (Nat × List Int32 × Nat)} (hz : z ≤ 96) (htd : va_up (I 134) 0 0 = td) (hT : ∀ i, i < z → I 129 i = T i) (h17 : I 117 17 = nI z) (hpr : PRs T z td r) (hor : okR r) (hq : ∀ I' : HI, (∀ q, q ≠ 117 → q ≠ 118 → q ≠ 132 → q ≠ 133 → q ≠ 134 → I' q = I q) → (∀ j, (j < 17 ∨ 31 ≤ j) → I' 117 j = I 117 j) → I' 117 17 = 0 → I' 118 = (oText V r).1 → Q (vI (oText V r).2) I' L R N n) : CA sc 4 0 0 mX10_text [vR 10 117] I L R N n Q := by
  refine ca_in (al := [_, _, _, _]) rfl ?_
  refine w_aload_n dX10_text_0 rfl ?_
  refine w_iconst dX10_text_1 ic_0 ?_
  refine w_putI dX10_text_2 flX10_211 rfl rfl rfl rfl ?_
  refine w_st (fun I2 hA2 hB2 hC2 => ?_)
  refine w_aload_n dX10_text_5 rfl ?_
  refine w_iconst dX10_text_6 ic_m1 ?_
  refine w_putI dX10_text_7 flX10_217 rfl rfl rfl rfl ?_
  refine w_st (fun I3 hA3 hB3 hC3 => ?_)
  refine w_aload_n dX10_text_10 rfl ?_
  refine c_Vv (t := 10) (as := []) (d' := 1) dX10_text_11 mlX10_235 moX10_go mvX10_go ⟨rfl, rfl⟩ rfl rfl rfl rfl rfl (by decide) (sX10_go (w := False) (p := 0) (T := T) hs hz (Nat.zero_le z) (fun i hi => by rw [hA3 129 (by decide), hA2 129 (by decide)]; exact hT i hi) (by rw [hB3 17 (by decide), hB2 17 (by decide)]; exact h17) ((hB3 18 (by decide)).trans hC2) (fun q => q.elim) (fun _ j _ hj e => by rw [hC3] at e; exact absurd (show nI j < 0 by rw [← e]; decide) (nI_pos (by omega))) (fun I4 hG4 hM4 => ?_))
  have hF4 : FRR I I4 := ⟨fun q a b c d => (hG4.1 q a).trans ((hA3 q a).trans (hA2 q a)), fun j hj => (hG4.2 j (by omega)).trans ((hB3 j (by omega)).trans (hB2 j (by omega)))⟩
  have hK4 : KYC I4 := by unfold KYC; rw [hF4.1 131 (by decide) (by decide) (by decide) (by decide), hF4.1 130 (by decide) (by decide) (by decide) (by decide)]; exact hK
  have ht0 : TO T z (tkA T z 0 False) := (tkA_ok (Nat.zero_le z)).1
  have hto := ht0.1
  have hto2 := ht0.2.1
  refine w_aload_n dX10_text_14 rfl ?_
  refine c_V (t := 10) (as := []) (d' := 2) dX10_text_15 mlX10_266 moX10_takesKey mvX10_takesKey ⟨rfl, rfl⟩ rfl rfl rfl rfl rfl (by decide) (sX10_takesKey hs hK4 hz ht0 hM4 (fun hky => ?_) (fun I5 key hk hky hA5 hB5 h23 hM5 => ?_))
  · obtain rfl : r = ((tkA T z 0 False).1, none) := by
      rcases hpr with ⟨_, e⟩ | ⟨key, hk, e, _⟩
      · exact e
      · exact absurd (e.symm.trans hky) (nI_none (by omega))
    refine w_if_eq (tgt := 32) dX10_text_18 (by decide) (fun c18 => ?_) (fun c18 => ?_)
    · refine w_iconst dX10_text_32 ic_0 ?_
      refine w_istore_n (al' := [_, _, _, _]) dX10_text_33 rfl rfl rfl ?_
      refine w_aload_n dX10_text_34 rfl ?_
      refine w_iconst dX10_text_35 ic_0 ?_
      refine w_putI dX10_text_36 flX10_207 rfl rfl rfl rfl ?_
      refine w_st (fun I8 hA8 hB8 hC8 => ?_)
      refine w_iload_n dX10_text_39 rfl ?_
      refine w_if_ne (tgt := 51) dX10_text_40 (by decide) (fun c40 => ?_) (fun c40 => ?_)
      · exact absurd rfl c40
      · refine w_bipush dX10_text_43 bp_m100 ?_
        refine w_aload_n dX10_text_45 rfl ?_
        refine w_getI dX10_text_46 flX10_214 rfl ?_
        refine w_top (y := nI (tkA T z 0 False).1) ((hB8 19 (by decide)).trans (hM4.2.2.1)) ?_
        refine w_isub dX10_text_49 ?_
        refine w_ireturn dX10_text_50 rfl rfl ?_
        exact hq I8 (fun q a b c d e => (hA8 q a).trans (hF4.1 q a c d e)) (fun j hj => (hB8 j (by omega)).trans (hF4.2 j (by omega))) hC8 (by rw [hA8 118 (by decide), hF4.1 118 (by decide) (by decide) (by decide) (by decide)]; exact hI)
    · exact absurd rfl c18
  · refine w_if_eq (tgt := 32) dX10_text_18 (by decide) (fun c18 => ?_) (fun c18 => ?_)
    · exact absurd c18 (by decide)
    · refine w_aload_n dX10_text_21 rfl ?_
      obtain ⟨key2, hk2, ek2, x, ⟨nn, hrun⟩, er⟩ := hpr.resolve_left (fun q => absurd (hky.symm.trans q.1) (nI_none (by omega)))
      obtain rfl : key2 = key := (nI_eq (by omega) (by omega)).mp (ek2.symm.trans hky)
      obtain ⟨x1, x2⟩ := x
      subst er
      have hF5 : FRR I I5 := hF4.trans ⟨fun q a b c d => hA5 q a, fun j hj => hB5 j (by omega)⟩
      obtain ⟨kw, hkw, -, hwd⟩ := (ky_in T (tkA T z 0 False)).resolve_left (fun q => absurd (hky.symm.trans q) (nI_none (by omega)))
      have hw3 := wd_3 hkw hwd
      have hnx := nxT_ok ht0
      refine c_V (t := 10) (as := []) (d' := 3) dX10_text_22 mlX10_269 moX10_takesE mvX10_takesE ⟨rfl, rfl⟩ rfl rfl rfl rfl rfl (by decide) (sX10_takesE (td := td) (r := (x1, x2)) (nn := nn) hs hz hk hnx.1 hM5 h23 (by omega) (by rw [hA5 134 (by decide), hG4.1 134 (by decide), hA3 134 (by decide), hA2 134 (by decide)]; exact htd) hrun (fun hx I6 hF6 h19 => ?_) (fun c a hx I6 hF6 g1 g2 g3 hk6 => ?_))
      · obtain rfl : x2 = none := hx
        have hF := hF5.trans hF6
        refine w_if_eq (tgt := 32) dX10_text_25 (by decide) (fun c25 => ?_) (fun c25 => ?_)
        · refine w_iconst dX10_text_32 ic_0 ?_
          refine w_istore_n (al' := [_, _, _, _]) dX10_text_33 rfl rfl rfl ?_
          refine w_aload_n dX10_text_34 rfl ?_
          refine w_iconst dX10_text_35 ic_0 ?_
          refine w_putI dX10_text_36 flX10_207 rfl rfl rfl rfl ?_
          refine w_st (fun I8 hA8 hB8 hC8 => ?_)
          refine w_iload_n dX10_text_39 rfl ?_
          refine w_if_ne (tgt := 51) dX10_text_40 (by decide) (fun c40 => ?_) (fun c40 => ?_)
          · exact absurd rfl c40
          · refine w_bipush dX10_text_43 bp_m100 ?_
            refine w_aload_n dX10_text_45 rfl ?_
            refine w_getI dX10_text_46 flX10_214 rfl ?_
            refine w_top (y := nI x1) ((hB8 19 (by decide)).trans (h19)) ?_
            refine w_isub dX10_text_49 ?_
            refine w_ireturn dX10_text_50 rfl rfl ?_
            exact hq I8 (fun q a b c d e => (hA8 q a).trans (hF.1 q a c d e)) (fun j hj => (hB8 j (by omega)).trans (hF.2 j (by omega))) hC8 (by rw [hA8 118 (by decide), hF.1 118 (by decide) (by decide) (by decide) (by decide)]; exact hI)
        · exact absurd rfl c25
      · obtain rfl : x2 = some (c, a) := hx
        obtain ⟨o1, o2, o3, o4⟩ := hor.2 key2 c a rfl
        have hF := hF5.trans hF6
        have h14 := hV.2.2.1.2
        have h118 : I6 118 = V := (hF.1 118 (by decide) (by decide) (by decide) (by decide)).trans hI
        have h23b : I6 117 23 = nI key2 := hk6
        refine w_if_eq (tgt := 32) dX10_text_25 (by decide) (fun c25 => ?_) (fun c25 => ?_)
        · exact absurd c25 (by decide)
        · refine w_iconst dX10_text_28 ic_1 ?_
          refine w_goto (tgt := 33) dX10_text_29 (by decide) ?_
          refine w_istore_n (al' := [_, _, _, _]) dX10_text_33 rfl rfl rfl ?_
          refine w_aload_n dX10_text_34 rfl ?_
          refine w_iconst dX10_text_35 ic_0 ?_
          refine w_putI dX10_text_36 flX10_207 rfl rfl rfl rfl ?_
          refine w_st (fun I8 hA8 hB8 hC8 => ?_)
          refine w_iload_n dX10_text_39 rfl ?_
          refine w_if_ne (tgt := 51) dX10_text_40 (by decide) (fun c40 => ?_) (fun c40 => ?_)
          · refine w_aload_n dX10_text_51 rfl ?_
            refine w_getR dX10_text_52 flX10_9 rfl (hs.r (a := 117) (j := 0) (b := 118) 116 rfl) ?_
            refine w_iconst dX10_text_55 ic_5 ?_
            refine w_iald (q := 5) dX10_text_56 rfl (hs.n (a := 118) (z := 1452) 72 rfl) (by decide) ?_
            refine w_top (y := nI (nTx V)) (by rw [hA8 118 (by decide), h118]; exact hV.2.2.1.1) ?_
            refine w_bipush dX10_text_57 bp_14 ?_
            refine w_icmp_ne (tgt := 65) dX10_text_59 (by decide) (fun c59 => ?_) (fun c59 => ?_)
            · have hlt : nTx V < 14 := by rcases Nat.lt_or_ge (nTx V) 14 with q | q; exact q; exact absurd (show nI (nTx V) = 14 by rw [show nTx V = 14 by omega]; rfl) c59
              have eo : oText V (x1, some (key2, c, a)) = (oTxV V key2 c a, nI (nTx V)) := if_neg (by omega)
              have eo1 : (oText V (x1, some (key2, c, a))).1 = oTxV V key2 c a := by rw [eo]
              have eo2 : (oText V (x1, some (key2, c, a))).2 = nI (nTx V) := by rw [eo]
              refine w_aload_n dX10_text_65 rfl ?_
              refine w_getR dX10_text_66 flX10_9 rfl (hs.r (a := 117) (j := 0) (b := 118) 116 rfl) ?_
              refine w_iconst dX10_text_69 ic_5 ?_
              refine w_iald (q := 5) dX10_text_70 rfl (hs.n (a := 118) (z := 1452) 72 rfl) (by decide) ?_
              refine w_top (y := nI (nTx V)) (by rw [hA8 118 (by decide), h118]; exact hV.2.2.1.1) ?_
              refine w_istore_n (al' := [_, _, _, _]) dX10_text_71 rfl rfl rfl ?_
              refine w_aload_n dX10_text_72 rfl ?_
              refine w_getR dX10_text_73 flX10_9 rfl (hs.r (a := 117) (j := 0) (b := 118) 116 rfl) ?_
              refine w_bipush dX10_text_76 bp_80 ?_
              refine w_iconst dX10_text_78 ic_2 ?_
              refine w_iload_n dX10_text_79 rfl ?_
              refine w_imul dX10_text_80 ?_
              refine w_iadd dX10_text_81 ?_
              refine w_top (y := nI (80 + 2 * nTx V)) (by show nI 80 + nI 2 * nI (nTx V) = _; rw [nI_mul, nI_add]) ?_
              refine w_sipush dX10_text_82 sp_1000 ?_
              refine w_aload_n dX10_text_85 rfl ?_
              refine w_getI dX10_text_86 flX10_232 rfl ?_
              refine w_top (y := nI key2) ((hB8 23 (by decide)).trans h23b) ?_
              refine w_imul dX10_text_89 ?_
              refine w_top (y := nI (1000 * key2)) (nI_mul 1000 key2) ?_
              refine w_aload_n dX10_text_90 rfl ?_
              refine w_getI dX10_text_91 flX10_244 rfl ?_
              refine w_top (y := nI c.length) ((hB8 27 (by decide)).trans g2) ?_
              refine w_iadd dX10_text_94 ?_
              refine w_top (y := nI (1000 * key2 + c.length)) (nI_add _ _) ?_
              refine w_iast dX10_text_95 rfl (hs.n (a := 118) (z := 1452) 72 rfl) (by omega) ?_
              refine w_st (fun I9 hA9 hB9 hC9 => ?_)
              refine w_aload_n dX10_text_96 rfl ?_
              refine w_getR dX10_text_97 flX10_9 rfl (hs.r (a := 117) (j := 0) (b := 118) 116 rfl) ?_
              refine w_bipush dX10_text_100 bp_80 ?_
              refine w_iconst dX10_text_102 ic_2 ?_
              refine w_iload_n dX10_text_103 rfl ?_
              refine w_imul dX10_text_104 ?_
              refine w_iadd dX10_text_105 ?_
              refine w_top (y := nI (80 + 2 * nTx V)) (by show nI 80 + nI 2 * nI (nTx V) = _; rw [nI_mul, nI_add]) ?_
              refine w_iconst dX10_text_106 ic_1 ?_
              refine w_iadd dX10_text_107 ?_
              refine w_top (y := nI (80 + 2 * nTx V + 1)) (nI_1 _) ?_
              refine w_aload_n dX10_text_108 rfl ?_
              refine w_getI dX10_text_109 flX10_250 rfl ?_
              refine w_top (y := nI a) (by rw [hA9 117 (by decide)]; exact (hB8 28 (by decide)).trans g3) ?_
              refine w_iast dX10_text_112 rfl (hs.n (a := 118) (z := 1452) 72 rfl) (by omega) ?_
              refine w_st (fun I10 hA10 hB10 hC10 => ?_)
              refine w_iconst dX10_text_113 ic_0 ?_
              refine w_top (y := nI 0) (rfl) ?_
              refine w_istore_n (al' := [_, _, _, _]) dX10_text_114 rfl rfl rfl ?_
              have hX : ∀ q, q ≠ 118 → I10 q = I8 q := fun q hq => (hA10 q hq).trans (hA9 q hq)
              refine lX10_text (V := V) (key := key2) (a := a) (c := c) hs hlt o2 (by rw [hX 117 (by decide)]; exact (hB8 27 (by decide)).trans g2) (by rw [hX 132 (by decide), hA8 132 (by decide)]; exact g1) (fun i => ?_) (fun I11 hA11 h11 => ?_)
              · by_cases q2 : i = 80 + 2 * nTx V + 1
                · rw [q2, hC10, if_neg (by omega), if_pos rfl]
                · rw [hB10 i q2]
                  by_cases q1 : i = 80 + 2 * nTx V
                  · rw [q1, hC9, if_pos rfl]
                  · rw [hB9 i q1, hA8 118 (by decide), h118, if_neg q1, if_neg q2, if_neg (by omega)]
              · exact q_e eo2 (hq I11 (fun q a1 b c d e => by rw [hA11 q b, hX q b, hA8 q a1]; exact hF.1 q a1 c d e) (fun j hj => by rw [hA11 117 (by decide), hX 117 (by decide), hB8 j (by omega)]; exact hF.2 j (by omega)) (by rw [hA11 117 (by decide), hX 117 (by decide)]; exact hC8) (h11.trans eo1.symm))
            · have e14 : nTx V = 14 := (nI_eq (b := 14) (by omega) (by decide)).mp c59
              have eo : oText V (x1, some (key2, c, a)) = (V, -1000000003) := if_pos e14
              have eo1 : (oText V (x1, some (key2, c, a))).1 = V := by rw [eo]
              have eo2 : (oText V (x1, some (key2, c, a))).2 = -1000000003 := by rw [eo]
              refine w_ldc dX10_text_62 kcX10_102 ?_
              refine w_ireturn dX10_text_64 rfl rfl ?_
              refine q_e eo2 (hq I8 (fun q a b c d e => (hA8 q a).trans (hF.1 q a c d e)) (fun j hj => (hB8 j (by omega)).trans (hF.2 j (by omega))) hC8 ?_)
              exact (by rw [hA8 118 (by decide), h118] : I8 118 = V).trans eo1.symm
          · exact absurd c40 (by decide)

end
