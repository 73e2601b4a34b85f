section
variable {sc : SC} {I : HI} {L : HL} {R : HR} {N : HN} {n : Nat} {Q : HQ}
set_option maxRecDepth 20000 in
theorem sX10_two {c a b : Int32} (hq : Q (vI (twoF c a b)) I L R N n) : CA sc 0 0 0 mX10_two [vI c, vI a, vI b] I L R N n Q := by
  refine ca_in (al := [_, _, _]) rfl ?_
  refine w_iload_n dX10_two_0 rfl ?_
  by_cases w1_m8 : c = (-8)
  · refine w_tblIn (tgt := 117) dX10_two_1 (by rw [w1_m8]; decide) (by rw [w1_m8]; decide) (by rw [w1_m8]; rfl) (by decide) ?_
    refine w_iload_n dX10_two_117 rfl ?_
    refine w_iload_n dX10_two_118 rfl ?_
    refine w_imul dX10_two_119 ?_
    refine w_ireturn dX10_two_120 rfl rfl ?_
    refine q_e ?_ hq
    simp_all [twoF]
  by_cases w1_m7 : c = (-7)
  · refine w_tblIn (tgt := 113) dX10_two_1 (by rw [w1_m7]; decide) (by rw [w1_m7]; decide) (by rw [w1_m7]; rfl) (by decide) ?_
    refine w_iload_n dX10_two_113 rfl ?_
    refine w_iload_n dX10_two_114 rfl ?_
    refine w_isub dX10_two_115 ?_
    refine w_ireturn dX10_two_116 rfl rfl ?_
    refine q_e ?_ hq
    simp_all [twoF]
  by_cases w1_m6 : c = (-6)
  · refine w_tblIn (tgt := 109) dX10_two_1 (by rw [w1_m6]; decide) (by rw [w1_m6]; decide) (by rw [w1_m6]; rfl) (by decide) ?_
    refine w_iload_n dX10_two_109 rfl ?_
    refine w_iload_n dX10_two_110 rfl ?_
    refine w_iadd dX10_two_111 ?_
    refine w_ireturn dX10_two_112 rfl rfl ?_
    refine q_e ?_ hq
    simp_all [twoF]
  by_cases w1_m5 : c = (-5)
  · refine w_tblIn (tgt := 98) dX10_two_1 (by rw [w1_m5]; decide) (by rw [w1_m5]; decide) (by rw [w1_m5]; rfl) (by decide) ?_
    refine w_iload_n dX10_two_98 rfl ?_
    refine w_iload_n dX10_two_99 rfl ?_
    refine w_icmp_le (tgt := 107) dX10_two_100 (by decide) (fun c100 => ?_) (fun c100 => ?_)
    · refine w_iconst dX10_two_107 ic_0 ?_
      refine w_ireturn dX10_two_108 rfl rfl ?_
      refine q_e ?_ hq
      simp_all [twoF]
    · refine w_iconst dX10_two_103 ic_1 ?_
      refine w_goto (tgt := 108) dX10_two_104 (by decide) ?_
      refine w_ireturn dX10_two_108 rfl rfl ?_
      refine q_e ?_ hq
      simp_all [twoF]
  by_cases w1_m4 : c = (-4)
  · refine w_tblIn (tgt := 87) dX10_two_1 (by rw [w1_m4]; decide) (by rw [w1_m4]; decide) (by rw [w1_m4]; rfl) (by decide) ?_
    refine w_iload_n dX10_two_87 rfl ?_
    refine w_iload_n dX10_two_88 rfl ?_
    refine w_icmp_ne (tgt := 96) dX10_two_89 (by decide) (fun c89 => ?_) (fun c89 => ?_)
    · refine w_iconst dX10_two_96 ic_0 ?_
      refine w_ireturn dX10_two_97 rfl rfl ?_
      refine q_e ?_ hq
      simp_all [twoF]
    · refine w_iconst dX10_two_92 ic_1 ?_
      refine w_goto (tgt := 97) dX10_two_93 (by decide) ?_
      refine w_ireturn dX10_two_97 rfl rfl ?_
      refine q_e ?_ hq
      simp_all [twoF]
  by_cases w1_m3 : c = (-3)
  · refine w_tblIn (tgt := 76) dX10_two_1 (by rw [w1_m3]; decide) (by rw [w1_m3]; decide) (by rw [w1_m3]; rfl) (by decide) ?_
    refine w_iload_n dX10_two_76 rfl ?_
    refine w_iload_n dX10_two_77 rfl ?_
    refine w_icmp_ge (tgt := 85) dX10_two_78 (by decide) (fun c78 => ?_) (fun c78 => ?_)
    · refine w_iconst dX10_two_85 ic_0 ?_
      refine w_ireturn dX10_two_86 rfl rfl ?_
      refine q_e ?_ hq
      simp_all [twoF]
    · refine w_iconst dX10_two_81 ic_1 ?_
      refine w_goto (tgt := 86) dX10_two_82 (by decide) ?_
      refine w_ireturn dX10_two_86 rfl rfl ?_
      refine q_e ?_ hq
      simp_all [twoF]
  by_cases w1_m2 : c = (-2)
  · refine w_tblIn (tgt := 62) dX10_two_1 (by rw [w1_m2]; decide) (by rw [w1_m2]; decide) (by rw [w1_m2]; rfl) (by decide) ?_
    refine w_iload_n dX10_two_62 rfl ?_
    refine w_if_eq (tgt := 74) dX10_two_63 (by decide) (fun c63 => ?_) (fun c63 => ?_)
    · refine w_iconst dX10_two_74 ic_0 ?_
      refine w_ireturn dX10_two_75 rfl rfl ?_
      refine q_e ?_ hq
      simp_all [twoF]
    · refine w_iload_n dX10_two_66 rfl ?_
      refine w_if_eq (tgt := 74) dX10_two_67 (by decide) (fun c67 => ?_) (fun c67 => ?_)
      · refine w_iconst dX10_two_74 ic_0 ?_
        refine w_ireturn dX10_two_75 rfl rfl ?_
        refine q_e ?_ hq
        simp_all [twoF]
      · refine w_iconst dX10_two_70 ic_1 ?_
        refine w_goto (tgt := 75) dX10_two_71 (by decide) ?_
        refine w_ireturn dX10_two_75 rfl rfl ?_
        refine q_e ?_ hq
        simp_all [twoF]
  by_cases w1_m1 : c = (-1)
  · refine w_tblIn (tgt := 48) dX10_two_1 (by rw [w1_m1]; decide) (by rw [w1_m1]; decide) (by rw [w1_m1]; rfl) (by decide) ?_
    refine w_iload_n dX10_two_48 rfl ?_
    refine w_if_ne (tgt := 56) dX10_two_49 (by decide) (fun c49 => ?_) (fun c49 => ?_)
    · refine w_iconst dX10_two_56 ic_1 ?_
      refine w_goto (tgt := 61) dX10_two_57 (by decide) ?_
      refine w_ireturn dX10_two_61 rfl rfl ?_
      refine q_e ?_ hq
      simp_all [twoF]
    · refine w_iload_n dX10_two_52 rfl ?_
      refine w_if_eq (tgt := 60) dX10_two_53 (by decide) (fun c53 => ?_) (fun c53 => ?_)
      · refine w_iconst dX10_two_60 ic_0 ?_
        refine w_ireturn dX10_two_61 rfl rfl ?_
        refine q_e ?_ hq
        simp_all [twoF]
      · refine w_iconst dX10_two_56 ic_1 ?_
        refine w_goto (tgt := 61) dX10_two_57 (by decide) ?_
        refine w_ireturn dX10_two_61 rfl rfl ?_
        refine q_e ?_ hq
        simp_all [twoF]
  refine w_tblOut (tgt := 121) dX10_two_1 (by have := i_ne (k := (-8)) (a := (-8)) rfl w1_m8; have := i_ne (k := (-7)) (a := (-7)) rfl w1_m7; have := i_ne (k := (-6)) (a := (-6)) rfl w1_m6; have := i_ne (k := (-5)) (a := (-5)) rfl w1_m5; have := i_ne (k := (-4)) (a := (-4)) rfl w1_m4; have := i_ne (k := (-3)) (a := (-3)) rfl w1_m3; have := i_ne (k := (-2)) (a := (-2)) rfl w1_m2; have := i_ne (k := (-1)) (a := (-1)) rfl w1_m1; omega) (by decide) ?_
  refine w_iload_n dX10_two_121 rfl ?_
  refine w_if_ne (tgt := 129) dX10_two_122 (by decide) (fun c122 => ?_) (fun c122 => ?_)
  · refine w_iload_n dX10_two_129 rfl ?_
    refine w_iload_n dX10_two_130 rfl ?_
    refine w_idiv dX10_two_131 c122 ?_
    refine w_ireturn dX10_two_132 rfl rfl ?_
    refine q_e ?_ hq
    simp_all [twoF]
  · refine w_iconst dX10_two_125 ic_0 ?_
    refine w_goto (tgt := 132) dX10_two_126 (by decide) ?_
    refine w_ireturn dX10_two_132 rfl rfl ?_
    refine q_e ?_ hq
    simp_all [twoF]

set_option maxRecDepth 20000 in
theorem sX7_joined1 {a b : Int32} (hq : Q (vI (twoF (-1) a b)) I L R N n) : CA sc 0 0 0 mX7_joined [vI 124, vI a, vI b] I L R N n Q := by
  refine ca_in (al := [_, _, _]) rfl ?_
  refine w_iload_n dX7_joined_0 rfl ?_
  refine w_tblOut (tgt := 187) dX7_joined_1 (by decide) (by decide) ?_
  refine w_iload_n dX7_joined_187 rfl ?_
  refine w_if_ne (tgt := 195) dX7_joined_188 (by decide) (fun c188 => ?_) (fun c188 => ?_)
  · refine w_iconst dX7_joined_195 ic_1 ?_
    refine w_goto (tgt := 200) dX7_joined_196 (by decide) ?_
    refine w_ireturn dX7_joined_200 rfl rfl ?_
    refine q_e ?_ hq
    simp_all [twoF]
  · refine w_iload_n dX7_joined_191 rfl ?_
    refine w_if_eq (tgt := 199) dX7_joined_192 (by decide) (fun c192 => ?_) (fun c192 => ?_)
    · refine w_iconst dX7_joined_199 ic_0 ?_
      refine w_ireturn dX7_joined_200 rfl rfl ?_
      refine q_e ?_ hq
      simp_all [twoF]
    · refine w_iconst dX7_joined_195 ic_1 ?_
      refine w_goto (tgt := 200) dX7_joined_196 (by decide) ?_
      refine w_ireturn dX7_joined_200 rfl rfl ?_
      refine q_e ?_ hq
      simp_all [twoF]

set_option maxRecDepth 20000 in
theorem sX7_joined2 {a b : Int32} (hq : Q (vI (twoF (-2) a b)) I L R N n) : CA sc 0 0 0 mX7_joined [vI 38, vI a, vI b] I L R N n Q := by
  refine ca_in (al := [_, _, _]) rfl ?_
  refine w_iload_n dX7_joined_0 rfl ?_
  refine w_tblIn (tgt := 173) dX7_joined_1 (by decide) (by decide) rfl (by decide) ?_
  refine w_iload_n dX7_joined_173 rfl ?_
  refine w_if_eq (tgt := 185) dX7_joined_174 (by decide) (fun c174 => ?_) (fun c174 => ?_)
  · refine w_iconst dX7_joined_185 ic_0 ?_
    refine w_ireturn dX7_joined_186 rfl rfl ?_
    refine q_e ?_ hq
    simp_all [twoF]
  · refine w_iload_n dX7_joined_177 rfl ?_
    refine w_if_eq (tgt := 185) dX7_joined_178 (by decide) (fun c178 => ?_) (fun c178 => ?_)
    · refine w_iconst dX7_joined_185 ic_0 ?_
      refine w_ireturn dX7_joined_186 rfl rfl ?_
      refine q_e ?_ hq
      simp_all [twoF]
    · refine w_iconst dX7_joined_181 ic_1 ?_
      refine w_goto (tgt := 186) dX7_joined_182 (by decide) ?_
      refine w_ireturn dX7_joined_186 rfl rfl ?_
      refine q_e ?_ hq
      simp_all [twoF]

set_option maxRecDepth 20000 in
theorem sX7_joined3 {a b : Int32} (hq : Q (vI (twoF (-3) a b)) I L R N n) : CA sc 0 0 0 mX7_joined [vI 60, vI a, vI b] I L R N n Q := by
  refine ca_in (al := [_, _, _]) rfl ?_
  refine w_iload_n dX7_joined_0 rfl ?_
  refine w_tblIn (tgt := 140) dX7_joined_1 (by decide) (by decide) rfl (by decide) ?_
  refine w_iload_n dX7_joined_140 rfl ?_
  refine w_iload_n dX7_joined_141 rfl ?_
  refine w_icmp_ge (tgt := 149) dX7_joined_142 (by decide) (fun c142 => ?_) (fun c142 => ?_)
  · refine w_iconst dX7_joined_149 ic_0 ?_
    refine w_ireturn dX7_joined_150 rfl rfl ?_
    refine q_e ?_ hq
    simp_all [twoF]
  · refine w_iconst dX7_joined_145 ic_1 ?_
    refine w_goto (tgt := 150) dX7_joined_146 (by decide) ?_
    refine w_ireturn dX7_joined_150 rfl rfl ?_
    refine q_e ?_ hq
    simp_all [twoF]

set_option maxRecDepth 20000 in
theorem sX7_joined4 {a b : Int32} (hq : Q (vI (twoF (-4) a b)) I L R N n) : CA sc 0 0 0 mX7_joined [vI 61, vI a, vI b] I L R N n Q := by
  refine ca_in (al := [_, _, _]) rfl ?_
  refine w_iload_n dX7_joined_0 rfl ?_
  refine w_tblIn (tgt := 151) dX7_joined_1 (by decide) (by decide) rfl (by decide) ?_
  refine w_iload_n dX7_joined_151 rfl ?_
  refine w_iload_n dX7_joined_152 rfl ?_
  refine w_icmp_ne (tgt := 160) dX7_joined_153 (by decide) (fun c153 => ?_) (fun c153 => ?_)
  · refine w_iconst dX7_joined_160 ic_0 ?_
    refine w_ireturn dX7_joined_161 rfl rfl ?_
    refine q_e ?_ hq
    simp_all [twoF]
  · refine w_iconst dX7_joined_156 ic_1 ?_
    refine w_goto (tgt := 161) dX7_joined_157 (by decide) ?_
    refine w_ireturn dX7_joined_161 rfl rfl ?_
    refine q_e ?_ hq
    simp_all [twoF]

set_option maxRecDepth 20000 in
theorem sX7_joined5 {a b : Int32} (hq : Q (vI (twoF (-5) a b)) I L R N n) : CA sc 0 0 0 mX7_joined [vI 62, vI a, vI b] I L R N n Q := by
  refine ca_in (al := [_, _, _]) rfl ?_
  refine w_iload_n dX7_joined_0 rfl ?_
  refine w_tblIn (tgt := 162) dX7_joined_1 (by decide) (by decide) rfl (by decide) ?_
  refine w_iload_n dX7_joined_162 rfl ?_
  refine w_iload_n dX7_joined_163 rfl ?_
  refine w_icmp_le (tgt := 171) dX7_joined_164 (by decide) (fun c164 => ?_) (fun c164 => ?_)
  · refine w_iconst dX7_joined_171 ic_0 ?_
    refine w_ireturn dX7_joined_172 rfl rfl ?_
    refine q_e ?_ hq
    simp_all [twoF]
  · refine w_iconst dX7_joined_167 ic_1 ?_
    refine w_goto (tgt := 172) dX7_joined_168 (by decide) ?_
    refine w_ireturn dX7_joined_172 rfl rfl ?_
    refine q_e ?_ hq
    simp_all [twoF]

set_option maxRecDepth 20000 in
theorem sX7_joined6 {a b : Int32} (hq : Q (vI (twoF (-6) a b)) I L R N n) : CA sc 0 0 0 mX7_joined [vI 43, vI a, vI b] I L R N n Q := by
  refine ca_in (al := [_, _, _]) rfl ?_
  refine w_iload_n dX7_joined_0 rfl ?_
  refine w_tblIn (tgt := 116) dX7_joined_1 (by decide) (by decide) rfl (by decide) ?_
  refine w_iload_n dX7_joined_116 rfl ?_
  refine w_iload_n dX7_joined_117 rfl ?_
  refine w_iadd dX7_joined_118 ?_
  refine w_ireturn dX7_joined_119 rfl rfl ?_
  refine q_e ?_ hq
  simp_all [twoF]

set_option maxRecDepth 20000 in
theorem sX7_joined7 {a b : Int32} (hq : Q (vI (twoF (-7) a b)) I L R N n) : CA sc 0 0 0 mX7_joined [vI 45, vI a, vI b] I L R N n Q := by
  refine ca_in (al := [_, _, _]) rfl ?_
  refine w_iload_n dX7_joined_0 rfl ?_
  refine w_tblIn (tgt := 120) dX7_joined_1 (by decide) (by decide) rfl (by decide) ?_
  refine w_iload_n dX7_joined_120 rfl ?_
  refine w_iload_n dX7_joined_121 rfl ?_
  refine w_isub dX7_joined_122 ?_
  refine w_ireturn dX7_joined_123 rfl rfl ?_
  refine q_e ?_ hq
  simp_all [twoF]

set_option maxRecDepth 20000 in
theorem sX7_joined8 {a b : Int32} (hq : Q (vI (twoF (-8) a b)) I L R N n) : CA sc 0 0 0 mX7_joined [vI 42, vI a, vI b] I L R N n Q := by
  refine ca_in (al := [_, _, _]) rfl ?_
  refine w_iload_n dX7_joined_0 rfl ?_
  refine w_tblIn (tgt := 124) dX7_joined_1 (by decide) (by decide) rfl (by decide) ?_
  refine w_iload_n dX7_joined_124 rfl ?_
  refine w_iload_n dX7_joined_125 rfl ?_
  refine w_imul dX7_joined_126 ?_
  refine w_ireturn dX7_joined_127 rfl rfl ?_
  refine q_e ?_ hq
  simp_all [twoF]

set_option maxRecDepth 20000 in
theorem sX7_joined9 {a b : Int32} (hq : Q (vI (twoF (-9) a b)) I L R N n) : CA sc 0 0 0 mX7_joined [vI 47, vI a, vI b] I L R N n Q := by
  refine ca_in (al := [_, _, _]) rfl ?_
  refine w_iload_n dX7_joined_0 rfl ?_
  refine w_tblIn (tgt := 128) dX7_joined_1 (by decide) (by decide) rfl (by decide) ?_
  refine w_iload_n dX7_joined_128 rfl ?_
  refine w_if_ne (tgt := 136) dX7_joined_129 (by decide) (fun c129 => ?_) (fun c129 => ?_)
  · refine w_iload_n dX7_joined_136 rfl ?_
    refine w_iload_n dX7_joined_137 rfl ?_
    refine w_idiv dX7_joined_138 c129 ?_
    refine w_ireturn dX7_joined_139 rfl rfl ?_
    refine q_e ?_ hq
    simp_all [twoF]
  · refine w_iconst dX7_joined_132 ic_0 ?_
    refine w_goto (tgt := 139) dX7_joined_133 (by decide) ?_
    refine w_ireturn dX7_joined_139 rfl rfl ?_
    refine q_e ?_ hq
    simp_all [twoF]

set_option maxRecDepth 20000 in
theorem sX10_worksOut (hs : SK R N) {t key m : Nat} {f0 f1 f2 : Int32} (ht : t < 14) (hV : I 118 (80 + 2 * t) = nI (1000 * key + m)) (hm : m ≤ 96) (hk : key ≤ 2) (hc : okCode key (fun j => I 118 (108 + 96 * t + j)) m) (h0 : I 136 0 = f0) (h1 : I 136 1 = f1) (h2 : I 136 2 = f2)
    (hq : ∀ I' : HI, (∀ a, a ≠ 135 → I' a = I a) → Q (vI (evV (fun j => I 118 (108 + 96 * t + j)) m f0 f1 f2)) I' L R N n) : CA sc 1 0 0 mX10_worksOut [vR 10 117, vI (nI t)] I L R N n Q := by
  have lp : ∀ (k j : Nat) (I1 : HI) (h : Nat), j + k = m → (∀ a, a ≠ 135 → I1 a = I a) → SR (I1 135) (evS (fun j => I 118 (108 + 96 * t + j)) f0 f1 f2 j) → hgt (fun j => I 118 (108 + 96 * t + j)) j = some h → WP sc 1 0 0 mX10_worksOut 21 [vR 10 117, vI (nI t), vI (nI h), vI (nI m), vI (nI j), vU] [] I1 L R N n Q := by
    intro k
    induction k with
    | zero =>
      intro j I1 h hj hI1 hSR hh
      refine w_iload dX10_worksOut_21 rfl ?_
      refine w_iload_n dX10_worksOut_23 rfl ?_
      refine w_icmp_ge (tgt := 155) dX10_worksOut_24 (by decide) (fun c24 => ?_) (fun c24 => ?_)
      · refine w_aload_n dX10_worksOut_155 rfl ?_
        refine w_getR dX10_worksOut_156 flX10_63 rfl (hs.r (a := 117) (j := 32) (b := 135) 133 rfl) ?_
        refine w_iconst dX10_worksOut_159 ic_0 ?_
        refine w_iald (q := 0) dX10_worksOut_160 rfl (hs.n (a := 135) (z := 96) 89 rfl) (by decide) ?_
        have e1 : j = m := by omega
        subst e1
        have e2 := hc.2
        rw [hh] at e2
        cases e2
        obtain ⟨hl, -⟩ := ev_len (f0 := f0) (f1 := f1) (f2 := f2) hh
        refine w_ireturn dX10_worksOut_161 rfl rfl ?_
        exact q_e (SR_val hSR hl).symm (hq _ hI1)
      · exact absurd (nI_le (show m ≤ j by omega) (by omega)) c24
    | succ k ih =>
      intro j I1 h hj hI1 hSR hh
      refine w_iload dX10_worksOut_21 rfl ?_
      refine w_iload_n dX10_worksOut_23 rfl ?_
      refine w_icmp_ge (tgt := 155) dX10_worksOut_24 (by decide) (fun c24 => ?_) (fun c24 => ?_)
      · exact absurd ((nI_leI (by omega) (by omega)).mp c24) (by omega)
      · refine w_aload_n dX10_worksOut_27 rfl ?_
        refine w_getR dX10_worksOut_28 flX10_9 rfl (hs.r (a := 117) (j := 0) (b := 118) 116 rfl) ?_
        refine w_bipush dX10_worksOut_31 bp_108 ?_
        refine w_bipush dX10_worksOut_33 bp_96 ?_
        refine w_iload_n dX10_worksOut_35 rfl ?_
        refine w_imul dX10_worksOut_36 ?_
        refine w_iadd dX10_worksOut_37 ?_
        refine w_iload dX10_worksOut_38 rfl ?_
        refine w_iadd dX10_worksOut_40 ?_
        refine w_top (y := nI (108 + 96 * t + j)) (by show nI 108 + nI 96 * nI t + nI j = _; rw [nI_mul, nI_add, nI_add]) ?_
        refine w_iald dX10_worksOut_41 rfl (hs.n (a := 118) (z := 1452) 72 rfl) (by omega) ?_
        refine w_top (y := I 118 (108 + 96 * t + j)) (congrFun (hI1 118 (by decide)) _) ?_
        obtain ⟨hl, hle⟩ := ev_len (f0 := f0) (f1 := f1) (f2 := f2) hh
        obtain ⟨h9, hh9⟩ := hgt_pre (c := (fun j => I 118 (108 + 96 * t + j))) (m := m) (j := j + 1) (by omega) (by rw [hc.2]; rfl)
        have hev := ev_cases (f0 := f0) (f1 := f1) (f2 := f2) hh hh9
        have hsy : okSym key (I 118 (108 + 96 * t + j)) := hc.1 j (by omega)
        have hlf := fun q => evS_leaf (c := (fun j => I 118 (108 + 96 * t + j))) (f0 := f0) (f1 := f1) (f2 := f2) (j := j) q
        have hnt := fun x r q => evS_not (c := (fun j => I 118 (108 + 96 * t + j))) (f0 := f0) (f1 := f1) (f2 := f2) (x := x) (r := r) (j := j) q
        have htw := fun a b r q => evS_two (c := (fun j => I 118 (108 + 96 * t + j))) (f0 := f0) (f1 := f1) (f2 := f2) (a := a) (b := b) (r := r) (j := j) q
        generalize hcj : I 118 (108 + 96 * t + j) = cj at hev hsy hlf hnt htw ⊢
        refine w_istore (al' := [_, _, _, _, _, _]) dX10_worksOut_42 rfl rfl rfl ?_
        refine w_iload dX10_worksOut_44 rfl ?_
        refine w_if_lt (tgt := 85) dX10_worksOut_46 (by decide) (fun c46 => ?_) (fun c46 => ?_)
        · have cneg : ¬ 0 ≤ cj := Int32.not_le.mpr c46
          refine w_iload dX10_worksOut_85 rfl ?_
          refine w_bipush dX10_worksOut_87 bp_m10 ?_
          refine w_icmp_ne (tgt := 119) dX10_worksOut_89 (by decide) (fun c89 => ?_) (fun c89 => ?_)
          · obtain ⟨-, -, hh1, xa, xb, xr, hx1, hx2⟩ := (hev.resolve_left (fun q => cneg q.1)).resolve_left (fun q => c89 q.1)
            rw [hx1] at hSR
            have e3 : h9 = xr.length + 1 := by omega
            subst e3
            subst hx2
            refine w_iinc (al' := [_, _, _, _, _, _]) dX10_worksOut_119 rfl rfl ic_m1 rfl ?_
            refine w_aload_n dX10_worksOut_122 rfl ?_
            refine w_getR dX10_worksOut_123 flX10_63 rfl (hs.r (a := 117) (j := 32) (b := 135) 133 rfl) ?_
            refine w_iload_n dX10_worksOut_126 rfl ?_
            refine w_iconst dX10_worksOut_127 ic_1 ?_
            refine w_isub dX10_worksOut_128 ?_
            refine w_iload dX10_worksOut_129 rfl ?_
            refine w_aload_n dX10_worksOut_131 rfl ?_
            refine w_getR dX10_worksOut_132 flX10_63 rfl (hs.r (a := 117) (j := 32) (b := 135) 133 rfl) ?_
            refine w_iload_n dX10_worksOut_135 rfl ?_
            refine w_iconst dX10_worksOut_136 ic_1 ?_
            refine w_isub dX10_worksOut_137 ?_
            refine w_top (y := nI xr.length) (by rw [nI_m1]; exact nI_pred _) ?_
            refine w_iald dX10_worksOut_138 rfl (hs.n (a := 135) (z := 96) 89 rfl) (by omega) ?_
            refine w_top (y := xa) (SR_top (SR_tl hSR)) ?_
            refine w_aload_n dX10_worksOut_139 rfl ?_
            refine w_getR dX10_worksOut_140 flX10_63 rfl (hs.r (a := 117) (j := 32) (b := 135) 133 rfl) ?_
            refine w_iload_n dX10_worksOut_143 rfl ?_
            refine w_top (y := nI (xr.length + 1)) (nI_m1 _) ?_
            refine w_iald dX10_worksOut_144 rfl (hs.n (a := 135) (z := 96) 89 rfl) (by omega) ?_
            refine w_top (y := xb) (SR_top hSR) ?_
            refine c_S (as := [_, _, _]) (d' := 0) dX10_worksOut_145 (Or.inl mlX10_272) moX10_two msX10_two rfl rfl rfl rfl rfl (by decide) (sX10_two ?_)
            refine w_iast (q := xr.length) dX10_worksOut_148 (by rw [nI_m1]; exact nI_pred _) (hs.n (a := 135) (z := 96) 89 rfl) (by omega) ?_
            refine w_iinc (al' := [_, _, _, _, _, _]) dX10_worksOut_149 rfl rfl ic_1 rfl ?_
            refine w_goto (tgt := 21) dX10_worksOut_152 (by decide) ?_
            refine w_kill (i := 5) (al' := [_, _, _, _, _, _]) rfl ?_
            simp only [nI_1, nI_m1]
            refine ih (j + 1) _ _ (by omega) (fun a ha => (va_up_ne _ _ ha).trans (hI1 a ha)) ?_ hh9
            rw [va_up_self]
            rw [htw xa xb xr cneg c89 hx1]
            exact SR_two _ hSR
          · subst c89
            obtain ⟨-, rfl, xa, xr, hx1, hx2⟩ := (hev.resolve_left (fun q => cneg q.1)).resolve_right (fun q => q.2.1 rfl)
            rw [hx1] at hSR
            have e3 : h9 = xr.length + 1 := hx2.symm
            subst e3
            refine w_aload_n dX10_worksOut_92 rfl ?_
            refine w_getR dX10_worksOut_93 flX10_63 rfl (hs.r (a := 117) (j := 32) (b := 135) 133 rfl) ?_
            refine w_iload_n dX10_worksOut_96 rfl ?_
            refine w_iconst dX10_worksOut_97 ic_1 ?_
            refine w_isub dX10_worksOut_98 ?_
            refine w_aload_n dX10_worksOut_99 rfl ?_
            refine w_getR dX10_worksOut_100 flX10_63 rfl (hs.r (a := 117) (j := 32) (b := 135) 133 rfl) ?_
            refine w_iload_n dX10_worksOut_103 rfl ?_
            refine w_iconst dX10_worksOut_104 ic_1 ?_
            refine w_isub dX10_worksOut_105 ?_
            refine w_top (y := nI xr.length) (nI_pred _) ?_
            refine w_iald dX10_worksOut_106 rfl (hs.n (a := 135) (z := 96) 89 rfl) (by omega) ?_
            refine w_top (y := xa) (SR_top hSR) ?_
            refine w_if_ne (tgt := 114) dX10_worksOut_107 (by decide) (fun c107 => ?_) (fun c107 => ?_)
            · refine w_iconst dX10_worksOut_114 ic_0 ?_
              refine w_iast (q := xr.length) dX10_worksOut_115 (nI_pred _) (hs.n (a := 135) (z := 96) 89 rfl) (by omega) ?_
              refine w_goto (tgt := 149) dX10_worksOut_116 (by decide) ?_
              refine w_iinc (al' := [_, _, _, _, _, _]) dX10_worksOut_149 rfl rfl ic_1 rfl ?_
              refine w_goto (tgt := 21) dX10_worksOut_152 (by decide) ?_
              refine w_kill (i := 5) (al' := [_, _, _, _, _, _]) rfl ?_
              simp only [nI_1, nI_m1]
              refine ih (j + 1) _ _ (by omega) (fun a ha => (va_up_ne _ _ ha).trans (hI1 a ha)) ?_ hh9
              rw [va_up_self]
              rw [hnt xa xr rfl hx1]
              first | rw [if_neg c107] | rw [if_pos c107]
              exact SR_one _ hSR
            · refine w_iconst dX10_worksOut_110 ic_1 ?_
              refine w_goto (tgt := 115) dX10_worksOut_111 (by decide) ?_
              refine w_iast (q := xr.length) dX10_worksOut_115 (nI_pred _) (hs.n (a := 135) (z := 96) 89 rfl) (by omega) ?_
              refine w_goto (tgt := 149) dX10_worksOut_116 (by decide) ?_
              refine w_iinc (al' := [_, _, _, _, _, _]) dX10_worksOut_149 rfl rfl ic_1 rfl ?_
              refine w_goto (tgt := 21) dX10_worksOut_152 (by decide) ?_
              refine w_kill (i := 5) (al' := [_, _, _, _, _, _]) rfl ?_
              simp only [nI_1, nI_m1]
              refine ih (j + 1) _ _ (by omega) (fun a ha => (va_up_ne _ _ ha).trans (hI1 a ha)) ?_ hh9
              rw [va_up_self]
              rw [hnt xa xr rfl hx1]
              first | rw [if_neg c107] | rw [if_pos c107]
              exact SR_one _ hSR
        · have cpos : 0 ≤ cj := Int32.not_lt.mp c46
          obtain ⟨-, rfl⟩ := hev.resolve_right (fun q => q.elim (fun q => by rw [q.1] at cpos; exact absurd cpos (by decide)) (fun q => q.1 cpos))
          refine w_aload_n dX10_worksOut_49 rfl ?_
          refine w_getR dX10_worksOut_50 flX10_63 rfl (hs.r (a := 117) (j := 32) (b := 135) 133 rfl) ?_
          refine w_iload_n dX10_worksOut_53 rfl ?_
          refine w_iload dX10_worksOut_54 rfl ?_
          refine w_sipush dX10_worksOut_56 sp_10000 ?_
          rcases hsy with ⟨kk, hkk, rfl⟩ | ⟨kk, hkk, rfl⟩ | hsy
          · refine w_icmp_ge (tgt := 67) dX10_worksOut_59 (by decide) (fun c59 => ?_) (fun c59 => ?_)
            · exact absurd ((nI_leI (a := 10000) (by omega) (by omega)).mp c59) (by omega)
            · refine w_iload dX10_worksOut_62 rfl ?_
              refine w_goto (tgt := 78) dX10_worksOut_64 (by decide) ?_
              refine w_iast dX10_worksOut_78 rfl (hs.n (a := 135) (z := 96) 89 rfl) (by omega) ?_
              refine w_iinc (al' := [_, _, _, _, _, _]) dX10_worksOut_79 rfl rfl ic_1 rfl ?_
              refine w_goto (tgt := 149) dX10_worksOut_82 (by decide) ?_
              refine w_iinc (al' := [_, _, _, _, _, _]) dX10_worksOut_149 rfl rfl ic_1 rfl ?_
              refine w_goto (tgt := 21) dX10_worksOut_152 (by decide) ?_
              refine w_kill (i := 5) (al' := [_, _, _, _, _, _]) rfl ?_
              simp only [nI_1, nI_m1]
              refine ih (j + 1) _ _ (by omega) (fun a ha => (va_up_ne _ _ ha).trans (hI1 a ha)) ?_ hh9
              rw [va_up_self]
              rw [hlf cpos, show leafV f0 f1 f2 (nI kk) = nI kk from if_pos (nI_lt (b := 10000) hkk (by omega)), ← hl]
              exact SR_push _ hSR
          · have hkk4 : kk < 4 := by revert hkk; split <;> omega
            refine w_icmp_ge (tgt := 67) dX10_worksOut_59 (by decide) (fun c59 => ?_) (fun c59 => ?_)
            · refine w_aload_n dX10_worksOut_67 rfl ?_
              refine w_getR dX10_worksOut_68 flX10_66 rfl (hs.r (a := 117) (j := 33) (b := 136) 134 rfl) ?_
              refine w_iload dX10_worksOut_71 rfl ?_
              refine w_sipush dX10_worksOut_73 sp_10000 ?_
              refine w_isub dX10_worksOut_76 ?_
              refine w_top (y := nI kk) (by show nI (10000 + kk) - nI 10000 = _; rw [nI_sub (by omega), Nat.add_sub_cancel_left]) ?_
              refine w_iald dX10_worksOut_77 rfl (hs.n (a := 136) (z := 4) 90 rfl) (by omega) ?_
              refine w_iast dX10_worksOut_78 rfl (hs.n (a := 135) (z := 96) 89 rfl) (by omega) ?_
              refine w_iinc (al' := [_, _, _, _, _, _]) dX10_worksOut_79 rfl rfl ic_1 rfl ?_
              refine w_goto (tgt := 149) dX10_worksOut_82 (by decide) ?_
              refine w_iinc (al' := [_, _, _, _, _, _]) dX10_worksOut_149 rfl rfl ic_1 rfl ?_
              refine w_goto (tgt := 21) dX10_worksOut_152 (by decide) ?_
              refine w_kill (i := 5) (al' := [_, _, _, _, _, _]) rfl ?_
              simp only [nI_1, nI_m1]
              refine ih (j + 1) _ _ (by omega) (fun a ha => (va_up_ne _ _ ha).trans (hI1 a ha)) ?_ hh9
              rw [va_up_self]
              have hx : I1 136 kk = leafV f0 f1 f2 (nI (10000 + kk)) := by
                rw [hI1 136 (by decide)]
                have : kk ≤ 2 := by revert hkk; split <;> omega
                rcases (show kk = 0 ∨ kk = 1 ∨ kk = 2 by omega) with rfl | rfl | rfl
                · exact h0
                · exact h1
                · exact h2
              rw [hlf cpos, ← hx, ← hl]
              exact SR_push _ hSR
            · exact absurd (nI_le (a := 10000) (b := 10000 + kk) (by omega) (by omega)) c59
          · exfalso
            rcases hsy with e | e | e | e | e | e | e | e | e | e <;> rw [e] at cpos <;> exact absurd cpos (by decide)
  refine ca_in (al := [_, _, _, _, _, _]) rfl ?_
  refine w_iconst dX10_worksOut_0 ic_0 ?_
  refine w_istore_n (al' := [_, _, _, _, _, _]) dX10_worksOut_1 rfl rfl rfl ?_
  refine w_aload_n dX10_worksOut_2 rfl ?_
  refine w_getR dX10_worksOut_3 flX10_9 rfl (hs.r (a := 117) (j := 0) (b := 118) 116 rfl) ?_
  refine w_bipush dX10_worksOut_6 bp_80 ?_
  refine w_iconst dX10_worksOut_8 ic_2 ?_
  refine w_iload_n dX10_worksOut_9 rfl ?_
  refine w_imul dX10_worksOut_10 ?_
  refine w_iadd dX10_worksOut_11 ?_
  refine w_top (y := nI (80 + 2 * t)) (by show nI 80 + nI 2 * nI t = _; rw [nI_mul, nI_add]) ?_
  refine w_iald dX10_worksOut_12 rfl (hs.n (a := 118) (z := 1452) 72 rfl) (by omega) ?_
  refine w_top (y := nI (1000 * key + m)) (hV) ?_
  refine w_sipush dX10_worksOut_13 sp_1000 ?_
  refine w_irem dX10_worksOut_16 (by decide) ?_
  refine w_top (y := nI m) (rem_len hm hk) ?_
  refine w_istore_n (al' := [_, _, _, _, _, _]) dX10_worksOut_17 rfl rfl rfl ?_
  refine w_iconst dX10_worksOut_18 ic_0 ?_
  refine w_istore (al' := [_, _, _, _, _, _]) dX10_worksOut_19 rfl rfl rfl ?_
  exact lp m 0 I 0 (by omega) (fun _ _ => rfl) (SR_nil _) rfl

theorem cSym_pos {k : Nat} (h : k < 20000) : cSym (nI k) = nI k := by
  have hn : ∀ z : Int32, z < 0 → ¬ nI k = z := fun z hz q => by rw [← q] at hz; exact nI_pos (by omega) hz
  unfold cSym
  rw [if_neg (hn _ (by decide)), if_neg (hn _ (by decide)), if_neg (hn _ (by decide)), if_neg (hn _ (by decide)), if_neg (hn _ (by decide)), if_neg (hn _ (by decide)), if_neg (hn _ (by decide)), if_neg (hn _ (by decide)), if_neg (hn _ (by decide)), if_neg (hn _ (by decide))]
set_option maxRecDepth 20000 in
theorem sX7_workOut {a ca sa key m : Nat} {c : Nat → Int32} {f0 f1 f2 : Int32} (hca : R a 2 = some ca) (hNc : N ca = m) (hNs : N sa = 96) (hne : ca ≠ sa) (hcode : ∀ j, j < m → I ca j = cSym (c j)) (hm : m ≤ 96) (hc : okCode key c m)
    (hq : ∀ I' : HI, (∀ q, q ≠ sa → I' q = I q) → Q (vI (evV c m f0 f1 f2)) I' L R N n) : CA sc 1 0 0 mX7_workOut [vR 7 a, vR 12 sa, vI f0, vI f1, vI f2] I L R N n Q := by
  have lp : ∀ (k j : Nat) (I1 : HI) (h : Nat), j + k = m → (∀ q, q ≠ sa → I1 q = I q) → SR (I1 sa) (evS c f0 f1 f2 j) → hgt c j = some h → WP sc 1 0 0 mX7_workOut 6 [vR 7 a, vR 12 sa, vI f0, vI f1, vI f2, vI (nI h), vI (nI j), vU] [] I1 L R N n Q := by
    intro k
    induction k with
    | zero =>
      intro j I1 h hj hI1 hSR hh
      refine w_iload dX7_workOut_6 rfl ?_
      refine w_aload_n dX7_workOut_8 rfl ?_
      refine w_getR dX7_workOut_9 flX7_16 rfl (by assumption) ?_
      refine w_alen dX7_workOut_12 (by decide) (by decide) (by assumption) ?_
      refine w_icmp_ge (tgt := 176) dX7_workOut_13 (by decide) (fun c13 => ?_) (fun c13 => ?_)
      · have e1 : j = m := by omega
        subst e1
        have e2 := hc.2
        rw [hh] at e2
        cases e2
        obtain ⟨hl, -⟩ := ev_len (f0 := f0) (f1 := f1) (f2 := f2) hh
        refine w_iload dX7_workOut_176 rfl ?_
        refine w_iconst dX7_workOut_178 ic_1 ?_
        refine w_aload_n dX7_workOut_179 rfl ?_
        refine w_alen dX7_workOut_180 (by decide) (by decide) (by assumption) ?_
        refine c_S (as := [_, _, _]) (d' := 0) dX7_workOut_181 nlX7_20 moX9_within msX9_within rfl rfl rfl rfl rfl (by decide) (sX9_within ?_)
        refine w_ifB_eq (tgt := 196) dX7_workOut_184 (by decide) (fun c184 => ?_) (fun c184 => ?_)
        · exact absurd (show (1 : Int32) ≤ nI 1 ∧ nI 1 ≤ nI 96 by decide) c184
        · refine w_aload_n dX7_workOut_187 rfl ?_
          refine w_iload dX7_workOut_188 rfl ?_
          refine w_iconst dX7_workOut_190 ic_1 ?_
          refine w_isub dX7_workOut_191 ?_
          refine w_iald (q := 0) dX7_workOut_192 (by decide) (by assumption) (by decide) ?_
          refine w_goto (tgt := 197) dX7_workOut_193 (by decide) ?_
          refine w_ireturn dX7_workOut_197 rfl rfl ?_
          exact q_e (SR_val hSR hl).symm (hq _ hI1)
      · exact absurd (nI_le (show m ≤ j by omega) (by omega)) c13
    | succ k ih =>
      intro j I1 h hj hI1 hSR hh
      refine w_iload dX7_workOut_6 rfl ?_
      refine w_aload_n dX7_workOut_8 rfl ?_
      refine w_getR dX7_workOut_9 flX7_16 rfl (by assumption) ?_
      refine w_alen dX7_workOut_12 (by decide) (by decide) (by assumption) ?_
      refine w_icmp_ge (tgt := 176) dX7_workOut_13 (by decide) (fun c13 => ?_) (fun c13 => ?_)
      · exact absurd ((nI_leI (by omega) (by omega)).mp c13) (by omega)
      · refine w_aload_n dX7_workOut_16 rfl ?_
        refine w_getR dX7_workOut_17 flX7_16 rfl (by assumption) ?_
        refine w_iload dX7_workOut_20 rfl ?_
        refine w_iald dX7_workOut_22 rfl (by assumption) (by omega) ?_ (by omega)
        refine w_top (y := cSym (c j)) ((congrFun (hI1 ca hne) _).trans (hcode j (by omega))) ?_
        obtain ⟨hl, hle⟩ := ev_len (f0 := f0) (f1 := f1) (f2 := f2) hh
        obtain ⟨h9, hh9⟩ := hgt_pre (c := c) (m := m) (j := j + 1) (by omega) (by rw [hc.2]; rfl)
        have hev := ev_cases (f0 := f0) (f1 := f1) (f2 := f2) hh hh9
        have hsy := hc.1 j (by omega)
        rcases hsy with ⟨kk, hkk, hcj⟩ | ⟨kk, hkk, hcj⟩ | hcj | hcj | hcj | hcj | hcj | hcj | hcj | hcj | hcj | hcj
        · have cpos : 0 ≤ c j := by rw [hcj]; exact nI_pos' (by omega)
          obtain ⟨-, rfl⟩ := hev.resolve_right (fun q => q.elim (fun q => by rw [q.1] at cpos; exact absurd cpos (by decide)) (fun q => q.1 cpos))
          refine w_top (y := nI kk) (by rw [hcj]; exact cSym_pos (by omega)) ?_
          refine w_istore (al' := [_, _, _, _, _, _, _, _]) dX7_workOut_23 rfl rfl rfl ?_
          refine w_iload dX7_workOut_25 rfl ?_
          refine w_sipush dX7_workOut_27 sp_20000 ?_
          refine w_icmp_ge (tgt := 89) dX7_workOut_30 (by decide) (fun c30 => ?_) (fun c30 => ?_)
          · exact absurd ((nI_leI (a := 20000) (by omega) (by omega)).mp c30) (by omega)
          · refine w_iload dX7_workOut_33 rfl ?_
            refine w_aload_n dX7_workOut_35 rfl ?_
            refine w_alen dX7_workOut_36 (by decide) (by decide) (by assumption) ?_
            refine w_icmp_ge (tgt := 170) dX7_workOut_37 (by decide) (fun c37 => ?_) (fun c37 => ?_)
            · exact absurd ((nI_leI (a := 96) (by omega) (by omega)).mp c37) (by omega)
            · refine w_aload_n dX7_workOut_40 rfl ?_
              refine w_iload dX7_workOut_41 rfl ?_
              refine w_iload dX7_workOut_43 rfl ?_
              refine w_sipush dX7_workOut_45 sp_10000 ?_
              refine w_icmp_ge (tgt := 56) dX7_workOut_48 (by decide) (fun c48 => ?_) (fun c48 => ?_)
              · exact absurd ((nI_leI (a := 10000) (by omega) (by omega)).mp c48) (by omega)
              · refine w_iload dX7_workOut_51 rfl ?_
                refine w_goto (tgt := 82) dX7_workOut_53 (by decide) ?_
                refine w_iast dX7_workOut_82 rfl (by assumption) (by omega) ?_
                refine w_iinc (al' := [_, _, _, _, _, _, _, _]) dX7_workOut_83 rfl rfl ic_1 rfl ?_
                refine w_goto (tgt := 170) dX7_workOut_86 (by decide) ?_
                refine w_iinc (al' := [_, _, _, _, _, _, _, _]) dX7_workOut_170 rfl rfl ic_1 rfl ?_
                refine w_goto (tgt := 6) dX7_workOut_173 (by decide) ?_
                refine w_kill (i := 7) (al' := [_, _, _, _, _, _, _, _]) rfl ?_
                simp only [nI_1, nI_m1]
                refine ih (j + 1) _ _ (by omega) (fun q hq => (va_up_ne _ _ hq).trans (hI1 q hq)) ?_ hh9
                rw [va_up_self]
                rw [evS_leaf cpos, hcj, show leafV f0 f1 f2 (nI kk) = nI kk from if_pos (nI_lt (b := 10000) hkk (by omega)), ← hl]
                exact SR_push _ hSR
        · have hkk4 : kk ≤ 2 := by revert hkk; split <;> omega
          have cpos : 0 ≤ c j := by rw [hcj]; exact nI_pos' (by omega)
          obtain ⟨-, rfl⟩ := hev.resolve_right (fun q => q.elim (fun q => by rw [q.1] at cpos; exact absurd cpos (by decide)) (fun q => q.1 cpos))
          refine w_top (y := nI (10000 + kk)) (by rw [hcj]; exact cSym_pos (by omega)) ?_
          refine w_istore (al' := [_, _, _, _, _, _, _, _]) dX7_workOut_23 rfl rfl rfl ?_
          refine w_iload dX7_workOut_25 rfl ?_
          refine w_sipush dX7_workOut_27 sp_20000 ?_
          refine w_icmp_ge (tgt := 89) dX7_workOut_30 (by decide) (fun c30 => ?_) (fun c30 => ?_)
          · exact absurd ((nI_leI (a := 20000) (by omega) (by omega)).mp c30) (by omega)
          · refine w_iload dX7_workOut_33 rfl ?_
            refine w_aload_n dX7_workOut_35 rfl ?_
            refine w_alen dX7_workOut_36 (by decide) (by decide) (by assumption) ?_
            refine w_icmp_ge (tgt := 170) dX7_workOut_37 (by decide) (fun c37 => ?_) (fun c37 => ?_)
            · exact absurd ((nI_leI (a := 96) (by omega) (by omega)).mp c37) (by omega)
            · refine w_aload_n dX7_workOut_40 rfl ?_
              refine w_iload dX7_workOut_41 rfl ?_
              refine w_iload dX7_workOut_43 rfl ?_
              refine w_sipush dX7_workOut_45 sp_10000 ?_
              refine w_icmp_ge (tgt := 56) dX7_workOut_48 (by decide) (fun c48 => ?_) (fun c48 => ?_)
              · refine w_iload dX7_workOut_56 rfl ?_
                refine w_sipush dX7_workOut_58 sp_10000 ?_
                refine w_icmp_ne (tgt := 68) dX7_workOut_61 (by decide) (fun c61 => ?_) (fun c61 => ?_)
                · refine w_iload dX7_workOut_68 rfl ?_
                  refine w_sipush dX7_workOut_70 sp_10001 ?_
                  refine w_icmp_ne (tgt := 80) dX7_workOut_73 (by decide) (fun c73 => ?_) (fun c73 => ?_)
                  · refine w_iload dX7_workOut_80 rfl ?_
                    refine w_iast dX7_workOut_82 rfl (by assumption) (by omega) ?_
                    refine w_iinc (al' := [_, _, _, _, _, _, _, _]) dX7_workOut_83 rfl rfl ic_1 rfl ?_
                    refine w_goto (tgt := 170) dX7_workOut_86 (by decide) ?_
                    refine w_iinc (al' := [_, _, _, _, _, _, _, _]) dX7_workOut_170 rfl rfl ic_1 rfl ?_
                    refine w_goto (tgt := 6) dX7_workOut_173 (by decide) ?_
                    refine w_kill (i := 7) (al' := [_, _, _, _, _, _, _, _]) rfl ?_
                    simp only [nI_1, nI_m1]
                    refine ih (j + 1) _ _ (by omega) (fun q hq => (va_up_ne _ _ hq).trans (hI1 q hq)) ?_ hh9
                    rw [va_up_self]
                    rw [evS_leaf cpos, hcj, leafV, if_neg (show ¬ nI (10000 + kk) < 10000 from nI_nlt (a := 10000 + kk) (b := 10000) (by omega) (by omega)), ← hl]
                    first | rw [if_pos c61] | rw [if_neg c61, if_pos c73] | rw [if_neg c61, if_neg c73]
                    exact SR_push _ hSR
                  · refine w_iload_n dX7_workOut_76 rfl ?_
                    refine w_goto (tgt := 82) dX7_workOut_77 (by decide) ?_
                    refine w_iast dX7_workOut_82 rfl (by assumption) (by omega) ?_
                    refine w_iinc (al' := [_, _, _, _, _, _, _, _]) dX7_workOut_83 rfl rfl ic_1 rfl ?_
                    refine w_goto (tgt := 170) dX7_workOut_86 (by decide) ?_
                    refine w_iinc (al' := [_, _, _, _, _, _, _, _]) dX7_workOut_170 rfl rfl ic_1 rfl ?_
                    refine w_goto (tgt := 6) dX7_workOut_173 (by decide) ?_
                    refine w_kill (i := 7) (al' := [_, _, _, _, _, _, _, _]) rfl ?_
                    simp only [nI_1, nI_m1]
                    refine ih (j + 1) _ _ (by omega) (fun q hq => (va_up_ne _ _ hq).trans (hI1 q hq)) ?_ hh9
                    rw [va_up_self]
                    rw [evS_leaf cpos, hcj, leafV, if_neg (show ¬ nI (10000 + kk) < 10000 from nI_nlt (a := 10000 + kk) (b := 10000) (by omega) (by omega)), ← hl]
                    first | rw [if_pos c61] | rw [if_neg c61, if_pos c73] | rw [if_neg c61, if_neg c73]
                    exact SR_push _ hSR
                · refine w_iload_n dX7_workOut_64 rfl ?_
                  refine w_goto (tgt := 82) dX7_workOut_65 (by decide) ?_
                  refine w_iast dX7_workOut_82 rfl (by assumption) (by omega) ?_
                  refine w_iinc (al' := [_, _, _, _, _, _, _, _]) dX7_workOut_83 rfl rfl ic_1 rfl ?_
                  refine w_goto (tgt := 170) dX7_workOut_86 (by decide) ?_
                  refine w_iinc (al' := [_, _, _, _, _, _, _, _]) dX7_workOut_170 rfl rfl ic_1 rfl ?_
                  refine w_goto (tgt := 6) dX7_workOut_173 (by decide) ?_
                  refine w_kill (i := 7) (al' := [_, _, _, _, _, _, _, _]) rfl ?_
                  simp only [nI_1, nI_m1]
                  refine ih (j + 1) _ _ (by omega) (fun q hq => (va_up_ne _ _ hq).trans (hI1 q hq)) ?_ hh9
                  rw [va_up_self]
                  rw [evS_leaf cpos, hcj, leafV, if_neg (show ¬ nI (10000 + kk) < 10000 from nI_nlt (a := 10000 + kk) (b := 10000) (by omega) (by omega)), ← hl]
                  first | rw [if_pos c61] | rw [if_neg c61, if_pos c73] | rw [if_neg c61, if_neg c73]
                  exact SR_push _ hSR
              · exact absurd (nI_le (a := 10000) (b := 10000 + kk) (by omega) (by omega)) c48
        · have cneg : ¬ 0 ≤ c j := by rw [hcj]; decide
          obtain ⟨-, -, hh1, xa, xb, xr, hx1, hx2⟩ := (hev.resolve_left (fun q => cneg q.1)).resolve_left (fun q => by rw [hcj] at q; exact absurd q.1 (by decide))
          rw [hx1] at hSR
          have e3 : h9 = xr.length + 1 := by omega
          subst e3
          subst hx2
          refine w_top (y := 20124) (by rw [hcj]; rfl) ?_
          refine w_istore (al' := [_, _, _, _, _, _, _, _]) dX7_workOut_23 rfl rfl rfl ?_
          refine w_iload dX7_workOut_25 rfl ?_
          refine w_sipush dX7_workOut_27 sp_20000 ?_
          refine w_icmp_ge (tgt := 89) dX7_workOut_30 (by decide) (fun c30 => ?_) (fun c30 => ?_)
          · refine w_iload dX7_workOut_89 rfl ?_
            refine w_sipush dX7_workOut_91 sp_20033 ?_
            refine w_icmp_ne (tgt := 131) dX7_workOut_94 (by decide) (fun c94 => ?_) (fun c94 => ?_)
            · refine w_iload dX7_workOut_131 rfl ?_
              refine w_iconst dX7_workOut_133 ic_2 ?_
              refine w_aload_n dX7_workOut_134 rfl ?_
              refine w_alen dX7_workOut_135 (by decide) (by decide) (by assumption) ?_
              refine c_S (as := [_, _, _]) (d' := 0) dX7_workOut_136 nlX7_20 moX9_within msX9_within rfl rfl rfl rfl rfl (by decide) (sX9_within ?_)
              refine w_ifB_eq (tgt := 170) dX7_workOut_139 (by decide) (fun c139 => ?_) (fun c139 => ?_)
              · exact absurd ⟨nI_le (a := 2) (by omega) (by omega), nI_le (b := 96) (by omega) (by omega)⟩ c139
              · refine w_iinc (al' := [_, _, _, _, _, _, _, _]) dX7_workOut_142 rfl rfl ic_m1 rfl ?_
                refine w_aload_n dX7_workOut_145 rfl ?_
                refine w_iload dX7_workOut_146 rfl ?_
                refine w_iconst dX7_workOut_148 ic_1 ?_
                refine w_isub dX7_workOut_149 ?_
                refine w_iload dX7_workOut_150 rfl ?_
                refine w_sipush dX7_workOut_152 sp_20000 ?_
                refine w_isub dX7_workOut_155 ?_
                refine w_top (y := 124) (by decide) ?_
                refine w_aload_n dX7_workOut_156 rfl ?_
                refine w_iload dX7_workOut_157 rfl ?_
                refine w_iconst dX7_workOut_159 ic_1 ?_
                refine w_isub dX7_workOut_160 ?_
                refine w_top (y := nI xr.length) (by rw [nI_m1]; exact nI_pred _) ?_
                refine w_iald dX7_workOut_161 rfl (by assumption) (by omega) ?_
                refine w_top (y := xa) (SR_top (SR_tl hSR)) ?_
                refine w_aload_n dX7_workOut_162 rfl ?_
                refine w_iload dX7_workOut_163 rfl ?_
                refine w_top (y := nI (xr.length + 1)) (nI_m1 _) ?_
                refine w_iald dX7_workOut_165 rfl (by assumption) (by omega) ?_
                refine w_top (y := xb) (SR_top hSR) ?_
                refine c_S (as := [_, _, _]) (d' := 0) dX7_workOut_166 (Or.inl mlX7_26) moX7_joined msX7_joined rfl rfl rfl rfl rfl (by decide) (sX7_joined1 ?_)
                refine w_iast (q := xr.length) dX7_workOut_169 (by rw [nI_m1]; exact nI_pred _) (by assumption) (by omega) ?_
                refine w_iinc (al' := [_, _, _, _, _, _, _, _]) dX7_workOut_170 rfl rfl ic_1 rfl ?_
                refine w_goto (tgt := 6) dX7_workOut_173 (by decide) ?_
                refine w_kill (i := 7) (al' := [_, _, _, _, _, _, _, _]) rfl ?_
                simp only [nI_1, nI_m1]
                refine ih (j + 1) _ _ (by omega) (fun q hq => (va_up_ne _ _ hq).trans (hI1 q hq)) ?_ hh9
                rw [va_up_self]
                rw [evS_two cneg (by rw [hcj]; decide) hx1, hcj]
                exact SR_two _ hSR
            · exact absurd c94 (by decide)
          · exact absurd (by decide) c30
        · have cneg : ¬ 0 ≤ c j := by rw [hcj]; decide
          obtain ⟨-, -, hh1, xa, xb, xr, hx1, hx2⟩ := (hev.resolve_left (fun q => cneg q.1)).resolve_left (fun q => by rw [hcj] at q; exact absurd q.1 (by decide))
          rw [hx1] at hSR
          have e3 : h9 = xr.length + 1 := by omega
          subst e3
          subst hx2
          refine w_top (y := 20038) (by rw [hcj]; rfl) ?_
          refine w_istore (al' := [_, _, _, _, _, _, _, _]) dX7_workOut_23 rfl rfl rfl ?_
          refine w_iload dX7_workOut_25 rfl ?_
          refine w_sipush dX7_workOut_27 sp_20000 ?_
          refine w_icmp_ge (tgt := 89) dX7_workOut_30 (by decide) (fun c30 => ?_) (fun c30 => ?_)
          · refine w_iload dX7_workOut_89 rfl ?_
            refine w_sipush dX7_workOut_91 sp_20033 ?_
            refine w_icmp_ne (tgt := 131) dX7_workOut_94 (by decide) (fun c94 => ?_) (fun c94 => ?_)
            · refine w_iload dX7_workOut_131 rfl ?_
              refine w_iconst dX7_workOut_133 ic_2 ?_
              refine w_aload_n dX7_workOut_134 rfl ?_
              refine w_alen dX7_workOut_135 (by decide) (by decide) (by assumption) ?_
              refine c_S (as := [_, _, _]) (d' := 0) dX7_workOut_136 nlX7_20 moX9_within msX9_within rfl rfl rfl rfl rfl (by decide) (sX9_within ?_)
              refine w_ifB_eq (tgt := 170) dX7_workOut_139 (by decide) (fun c139 => ?_) (fun c139 => ?_)
              · exact absurd ⟨nI_le (a := 2) (by omega) (by omega), nI_le (b := 96) (by omega) (by omega)⟩ c139
              · refine w_iinc (al' := [_, _, _, _, _, _, _, _]) dX7_workOut_142 rfl rfl ic_m1 rfl ?_
                refine w_aload_n dX7_workOut_145 rfl ?_
                refine w_iload dX7_workOut_146 rfl ?_
                refine w_iconst dX7_workOut_148 ic_1 ?_
                refine w_isub dX7_workOut_149 ?_
                refine w_iload dX7_workOut_150 rfl ?_
                refine w_sipush dX7_workOut_152 sp_20000 ?_
                refine w_isub dX7_workOut_155 ?_
                refine w_top (y := 38) (by decide) ?_
                refine w_aload_n dX7_workOut_156 rfl ?_
                refine w_iload dX7_workOut_157 rfl ?_
                refine w_iconst dX7_workOut_159 ic_1 ?_
                refine w_isub dX7_workOut_160 ?_
                refine w_top (y := nI xr.length) (by rw [nI_m1]; exact nI_pred _) ?_
                refine w_iald dX7_workOut_161 rfl (by assumption) (by omega) ?_
                refine w_top (y := xa) (SR_top (SR_tl hSR)) ?_
                refine w_aload_n dX7_workOut_162 rfl ?_
                refine w_iload dX7_workOut_163 rfl ?_
                refine w_top (y := nI (xr.length + 1)) (nI_m1 _) ?_
                refine w_iald dX7_workOut_165 rfl (by assumption) (by omega) ?_
                refine w_top (y := xb) (SR_top hSR) ?_
                refine c_S (as := [_, _, _]) (d' := 0) dX7_workOut_166 (Or.inl mlX7_26) moX7_joined msX7_joined rfl rfl rfl rfl rfl (by decide) (sX7_joined2 ?_)
                refine w_iast (q := xr.length) dX7_workOut_169 (by rw [nI_m1]; exact nI_pred _) (by assumption) (by omega) ?_
                refine w_iinc (al' := [_, _, _, _, _, _, _, _]) dX7_workOut_170 rfl rfl ic_1 rfl ?_
                refine w_goto (tgt := 6) dX7_workOut_173 (by decide) ?_
                refine w_kill (i := 7) (al' := [_, _, _, _, _, _, _, _]) rfl ?_
                simp only [nI_1, nI_m1]
                refine ih (j + 1) _ _ (by omega) (fun q hq => (va_up_ne _ _ hq).trans (hI1 q hq)) ?_ hh9
                rw [va_up_self]
                rw [evS_two cneg (by rw [hcj]; decide) hx1, hcj]
                exact SR_two _ hSR
            · exact absurd c94 (by decide)
          · exact absurd (by decide) c30
        · have cneg : ¬ 0 ≤ c j := by rw [hcj]; decide
          obtain ⟨-, -, hh1, xa, xb, xr, hx1, hx2⟩ := (hev.resolve_left (fun q => cneg q.1)).resolve_left (fun q => by rw [hcj] at q; exact absurd q.1 (by decide))
          rw [hx1] at hSR
          have e3 : h9 = xr.length + 1 := by omega
          subst e3
          subst hx2
          refine w_top (y := 20060) (by rw [hcj]; rfl) ?_
          refine w_istore (al' := [_, _, _, _, _, _, _, _]) dX7_workOut_23 rfl rfl rfl ?_
          refine w_iload dX7_workOut_25 rfl ?_
          refine w_sipush dX7_workOut_27 sp_20000 ?_
          refine w_icmp_ge (tgt := 89) dX7_workOut_30 (by decide) (fun c30 => ?_) (fun c30 => ?_)
          · refine w_iload dX7_workOut_89 rfl ?_
            refine w_sipush dX7_workOut_91 sp_20033 ?_
            refine w_icmp_ne (tgt := 131) dX7_workOut_94 (by decide) (fun c94 => ?_) (fun c94 => ?_)
            · refine w_iload dX7_workOut_131 rfl ?_
              refine w_iconst dX7_workOut_133 ic_2 ?_
              refine w_aload_n dX7_workOut_134 rfl ?_
              refine w_alen dX7_workOut_135 (by decide) (by decide) (by assumption) ?_
              refine c_S (as := [_, _, _]) (d' := 0) dX7_workOut_136 nlX7_20 moX9_within msX9_within rfl rfl rfl rfl rfl (by decide) (sX9_within ?_)
              refine w_ifB_eq (tgt := 170) dX7_workOut_139 (by decide) (fun c139 => ?_) (fun c139 => ?_)
              · exact absurd ⟨nI_le (a := 2) (by omega) (by omega), nI_le (b := 96) (by omega) (by omega)⟩ c139
              · refine w_iinc (al' := [_, _, _, _, _, _, _, _]) dX7_workOut_142 rfl rfl ic_m1 rfl ?_
                refine w_aload_n dX7_workOut_145 rfl ?_
                refine w_iload dX7_workOut_146 rfl ?_
                refine w_iconst dX7_workOut_148 ic_1 ?_
                refine w_isub dX7_workOut_149 ?_
                refine w_iload dX7_workOut_150 rfl ?_
                refine w_sipush dX7_workOut_152 sp_20000 ?_
                refine w_isub dX7_workOut_155 ?_
                refine w_top (y := 60) (by decide) ?_
                refine w_aload_n dX7_workOut_156 rfl ?_
                refine w_iload dX7_workOut_157 rfl ?_
                refine w_iconst dX7_workOut_159 ic_1 ?_
                refine w_isub dX7_workOut_160 ?_
                refine w_top (y := nI xr.length) (by rw [nI_m1]; exact nI_pred _) ?_
                refine w_iald dX7_workOut_161 rfl (by assumption) (by omega) ?_
                refine w_top (y := xa) (SR_top (SR_tl hSR)) ?_
                refine w_aload_n dX7_workOut_162 rfl ?_
                refine w_iload dX7_workOut_163 rfl ?_
                refine w_top (y := nI (xr.length + 1)) (nI_m1 _) ?_
                refine w_iald dX7_workOut_165 rfl (by assumption) (by omega) ?_
                refine w_top (y := xb) (SR_top hSR) ?_
                refine c_S (as := [_, _, _]) (d' := 0) dX7_workOut_166 (Or.inl mlX7_26) moX7_joined msX7_joined rfl rfl rfl rfl rfl (by decide) (sX7_joined3 ?_)
                refine w_iast (q := xr.length) dX7_workOut_169 (by rw [nI_m1]; exact nI_pred _) (by assumption) (by omega) ?_
                refine w_iinc (al' := [_, _, _, _, _, _, _, _]) dX7_workOut_170 rfl rfl ic_1 rfl ?_
                refine w_goto (tgt := 6) dX7_workOut_173 (by decide) ?_
                refine w_kill (i := 7) (al' := [_, _, _, _, _, _, _, _]) rfl ?_
                simp only [nI_1, nI_m1]
                refine ih (j + 1) _ _ (by omega) (fun q hq => (va_up_ne _ _ hq).trans (hI1 q hq)) ?_ hh9
                rw [va_up_self]
                rw [evS_two cneg (by rw [hcj]; decide) hx1, hcj]
                exact SR_two _ hSR
            · exact absurd c94 (by decide)
          · exact absurd (by decide) c30
        · have cneg : ¬ 0 ≤ c j := by rw [hcj]; decide
          obtain ⟨-, -, hh1, xa, xb, xr, hx1, hx2⟩ := (hev.resolve_left (fun q => cneg q.1)).resolve_left (fun q => by rw [hcj] at q; exact absurd q.1 (by decide))
          rw [hx1] at hSR
          have e3 : h9 = xr.length + 1 := by omega
          subst e3
          subst hx2
          refine w_top (y := 20061) (by rw [hcj]; rfl) ?_
          refine w_istore (al' := [_, _, _, _, _, _, _, _]) dX7_workOut_23 rfl rfl rfl ?_
          refine w_iload dX7_workOut_25 rfl ?_
          refine w_sipush dX7_workOut_27 sp_20000 ?_
          refine w_icmp_ge (tgt := 89) dX7_workOut_30 (by decide) (fun c30 => ?_) (fun c30 => ?_)
          · refine w_iload dX7_workOut_89 rfl ?_
            refine w_sipush dX7_workOut_91 sp_20033 ?_
            refine w_icmp_ne (tgt := 131) dX7_workOut_94 (by decide) (fun c94 => ?_) (fun c94 => ?_)
            · refine w_iload dX7_workOut_131 rfl ?_
              refine w_iconst dX7_workOut_133 ic_2 ?_
              refine w_aload_n dX7_workOut_134 rfl ?_
              refine w_alen dX7_workOut_135 (by decide) (by decide) (by assumption) ?_
              refine c_S (as := [_, _, _]) (d' := 0) dX7_workOut_136 nlX7_20 moX9_within msX9_within rfl rfl rfl rfl rfl (by decide) (sX9_within ?_)
              refine w_ifB_eq (tgt := 170) dX7_workOut_139 (by decide) (fun c139 => ?_) (fun c139 => ?_)
              · exact absurd ⟨nI_le (a := 2) (by omega) (by omega), nI_le (b := 96) (by omega) (by omega)⟩ c139
              · refine w_iinc (al' := [_, _, _, _, _, _, _, _]) dX7_workOut_142 rfl rfl ic_m1 rfl ?_
                refine w_aload_n dX7_workOut_145 rfl ?_
                refine w_iload dX7_workOut_146 rfl ?_
                refine w_iconst dX7_workOut_148 ic_1 ?_
                refine w_isub dX7_workOut_149 ?_
                refine w_iload dX7_workOut_150 rfl ?_
                refine w_sipush dX7_workOut_152 sp_20000 ?_
                refine w_isub dX7_workOut_155 ?_
                refine w_top (y := 61) (by decide) ?_
                refine w_aload_n dX7_workOut_156 rfl ?_
                refine w_iload dX7_workOut_157 rfl ?_
                refine w_iconst dX7_workOut_159 ic_1 ?_
                refine w_isub dX7_workOut_160 ?_
                refine w_top (y := nI xr.length) (by rw [nI_m1]; exact nI_pred _) ?_
                refine w_iald dX7_workOut_161 rfl (by assumption) (by omega) ?_
                refine w_top (y := xa) (SR_top (SR_tl hSR)) ?_
                refine w_aload_n dX7_workOut_162 rfl ?_
                refine w_iload dX7_workOut_163 rfl ?_
                refine w_top (y := nI (xr.length + 1)) (nI_m1 _) ?_
                refine w_iald dX7_workOut_165 rfl (by assumption) (by omega) ?_
                refine w_top (y := xb) (SR_top hSR) ?_
                refine c_S (as := [_, _, _]) (d' := 0) dX7_workOut_166 (Or.inl mlX7_26) moX7_joined msX7_joined rfl rfl rfl rfl rfl (by decide) (sX7_joined4 ?_)
                refine w_iast (q := xr.length) dX7_workOut_169 (by rw [nI_m1]; exact nI_pred _) (by assumption) (by omega) ?_
                refine w_iinc (al' := [_, _, _, _, _, _, _, _]) dX7_workOut_170 rfl rfl ic_1 rfl ?_
                refine w_goto (tgt := 6) dX7_workOut_173 (by decide) ?_
                refine w_kill (i := 7) (al' := [_, _, _, _, _, _, _, _]) rfl ?_
                simp only [nI_1, nI_m1]
                refine ih (j + 1) _ _ (by omega) (fun q hq => (va_up_ne _ _ hq).trans (hI1 q hq)) ?_ hh9
                rw [va_up_self]
                rw [evS_two cneg (by rw [hcj]; decide) hx1, hcj]
                exact SR_two _ hSR
            · exact absurd c94 (by decide)
          · exact absurd (by decide) c30
        · have cneg : ¬ 0 ≤ c j := by rw [hcj]; decide
          obtain ⟨-, -, hh1, xa, xb, xr, hx1, hx2⟩ := (hev.resolve_left (fun q => cneg q.1)).resolve_left (fun q => by rw [hcj] at q; exact absurd q.1 (by decide))
          rw [hx1] at hSR
          have e3 : h9 = xr.length + 1 := by omega
          subst e3
          subst hx2
          refine w_top (y := 20062) (by rw [hcj]; rfl) ?_
          refine w_istore (al' := [_, _, _, _, _, _, _, _]) dX7_workOut_23 rfl rfl rfl ?_
          refine w_iload dX7_workOut_25 rfl ?_
          refine w_sipush dX7_workOut_27 sp_20000 ?_
          refine w_icmp_ge (tgt := 89) dX7_workOut_30 (by decide) (fun c30 => ?_) (fun c30 => ?_)
          · refine w_iload dX7_workOut_89 rfl ?_
            refine w_sipush dX7_workOut_91 sp_20033 ?_
            refine w_icmp_ne (tgt := 131) dX7_workOut_94 (by decide) (fun c94 => ?_) (fun c94 => ?_)
            · refine w_iload dX7_workOut_131 rfl ?_
              refine w_iconst dX7_workOut_133 ic_2 ?_
              refine w_aload_n dX7_workOut_134 rfl ?_
              refine w_alen dX7_workOut_135 (by decide) (by decide) (by assumption) ?_
              refine c_S (as := [_, _, _]) (d' := 0) dX7_workOut_136 nlX7_20 moX9_within msX9_within rfl rfl rfl rfl rfl (by decide) (sX9_within ?_)
              refine w_ifB_eq (tgt := 170) dX7_workOut_139 (by decide) (fun c139 => ?_) (fun c139 => ?_)
              · exact absurd ⟨nI_le (a := 2) (by omega) (by omega), nI_le (b := 96) (by omega) (by omega)⟩ c139
              · refine w_iinc (al' := [_, _, _, _, _, _, _, _]) dX7_workOut_142 rfl rfl ic_m1 rfl ?_
                refine w_aload_n dX7_workOut_145 rfl ?_
                refine w_iload dX7_workOut_146 rfl ?_
                refine w_iconst dX7_workOut_148 ic_1 ?_
                refine w_isub dX7_workOut_149 ?_
                refine w_iload dX7_workOut_150 rfl ?_
                refine w_sipush dX7_workOut_152 sp_20000 ?_
                refine w_isub dX7_workOut_155 ?_
                refine w_top (y := 62) (by decide) ?_
                refine w_aload_n dX7_workOut_156 rfl ?_
                refine w_iload dX7_workOut_157 rfl ?_
                refine w_iconst dX7_workOut_159 ic_1 ?_
                refine w_isub dX7_workOut_160 ?_
                refine w_top (y := nI xr.length) (by rw [nI_m1]; exact nI_pred _) ?_
                refine w_iald dX7_workOut_161 rfl (by assumption) (by omega) ?_
                refine w_top (y := xa) (SR_top (SR_tl hSR)) ?_
                refine w_aload_n dX7_workOut_162 rfl ?_
                refine w_iload dX7_workOut_163 rfl ?_
                refine w_top (y := nI (xr.length + 1)) (nI_m1 _) ?_
                refine w_iald dX7_workOut_165 rfl (by assumption) (by omega) ?_
                refine w_top (y := xb) (SR_top hSR) ?_
                refine c_S (as := [_, _, _]) (d' := 0) dX7_workOut_166 (Or.inl mlX7_26) moX7_joined msX7_joined rfl rfl rfl rfl rfl (by decide) (sX7_joined5 ?_)
                refine w_iast (q := xr.length) dX7_workOut_169 (by rw [nI_m1]; exact nI_pred _) (by assumption) (by omega) ?_
                refine w_iinc (al' := [_, _, _, _, _, _, _, _]) dX7_workOut_170 rfl rfl ic_1 rfl ?_
                refine w_goto (tgt := 6) dX7_workOut_173 (by decide) ?_
                refine w_kill (i := 7) (al' := [_, _, _, _, _, _, _, _]) rfl ?_
                simp only [nI_1, nI_m1]
                refine ih (j + 1) _ _ (by omega) (fun q hq => (va_up_ne _ _ hq).trans (hI1 q hq)) ?_ hh9
                rw [va_up_self]
                rw [evS_two cneg (by rw [hcj]; decide) hx1, hcj]
                exact SR_two _ hSR
            · exact absurd c94 (by decide)
          · exact absurd (by decide) c30
        · have cneg : ¬ 0 ≤ c j := by rw [hcj]; decide
          obtain ⟨-, -, hh1, xa, xb, xr, hx1, hx2⟩ := (hev.resolve_left (fun q => cneg q.1)).resolve_left (fun q => by rw [hcj] at q; exact absurd q.1 (by decide))
          rw [hx1] at hSR
          have e3 : h9 = xr.length + 1 := by omega
          subst e3
          subst hx2
          refine w_top (y := 20043) (by rw [hcj]; rfl) ?_
          refine w_istore (al' := [_, _, _, _, _, _, _, _]) dX7_workOut_23 rfl rfl rfl ?_
          refine w_iload dX7_workOut_25 rfl ?_
          refine w_sipush dX7_workOut_27 sp_20000 ?_
          refine w_icmp_ge (tgt := 89) dX7_workOut_30 (by decide) (fun c30 => ?_) (fun c30 => ?_)
          · refine w_iload dX7_workOut_89 rfl ?_
            refine w_sipush dX7_workOut_91 sp_20033 ?_
            refine w_icmp_ne (tgt := 131) dX7_workOut_94 (by decide) (fun c94 => ?_) (fun c94 => ?_)
            · refine w_iload dX7_workOut_131 rfl ?_
              refine w_iconst dX7_workOut_133 ic_2 ?_
              refine w_aload_n dX7_workOut_134 rfl ?_
              refine w_alen dX7_workOut_135 (by decide) (by decide) (by assumption) ?_
              refine c_S (as := [_, _, _]) (d' := 0) dX7_workOut_136 nlX7_20 moX9_within msX9_within rfl rfl rfl rfl rfl (by decide) (sX9_within ?_)
              refine w_ifB_eq (tgt := 170) dX7_workOut_139 (by decide) (fun c139 => ?_) (fun c139 => ?_)
              · exact absurd ⟨nI_le (a := 2) (by omega) (by omega), nI_le (b := 96) (by omega) (by omega)⟩ c139
              · refine w_iinc (al' := [_, _, _, _, _, _, _, _]) dX7_workOut_142 rfl rfl ic_m1 rfl ?_
                refine w_aload_n dX7_workOut_145 rfl ?_
                refine w_iload dX7_workOut_146 rfl ?_
                refine w_iconst dX7_workOut_148 ic_1 ?_
                refine w_isub dX7_workOut_149 ?_
                refine w_iload dX7_workOut_150 rfl ?_
                refine w_sipush dX7_workOut_152 sp_20000 ?_
                refine w_isub dX7_workOut_155 ?_
                refine w_top (y := 43) (by decide) ?_
                refine w_aload_n dX7_workOut_156 rfl ?_
                refine w_iload dX7_workOut_157 rfl ?_
                refine w_iconst dX7_workOut_159 ic_1 ?_
                refine w_isub dX7_workOut_160 ?_
                refine w_top (y := nI xr.length) (by rw [nI_m1]; exact nI_pred _) ?_
                refine w_iald dX7_workOut_161 rfl (by assumption) (by omega) ?_
                refine w_top (y := xa) (SR_top (SR_tl hSR)) ?_
                refine w_aload_n dX7_workOut_162 rfl ?_
                refine w_iload dX7_workOut_163 rfl ?_
                refine w_top (y := nI (xr.length + 1)) (nI_m1 _) ?_
                refine w_iald dX7_workOut_165 rfl (by assumption) (by omega) ?_
                refine w_top (y := xb) (SR_top hSR) ?_
                refine c_S (as := [_, _, _]) (d' := 0) dX7_workOut_166 (Or.inl mlX7_26) moX7_joined msX7_joined rfl rfl rfl rfl rfl (by decide) (sX7_joined6 ?_)
                refine w_iast (q := xr.length) dX7_workOut_169 (by rw [nI_m1]; exact nI_pred _) (by assumption) (by omega) ?_
                refine w_iinc (al' := [_, _, _, _, _, _, _, _]) dX7_workOut_170 rfl rfl ic_1 rfl ?_
                refine w_goto (tgt := 6) dX7_workOut_173 (by decide) ?_
                refine w_kill (i := 7) (al' := [_, _, _, _, _, _, _, _]) rfl ?_
                simp only [nI_1, nI_m1]
                refine ih (j + 1) _ _ (by omega) (fun q hq => (va_up_ne _ _ hq).trans (hI1 q hq)) ?_ hh9
                rw [va_up_self]
                rw [evS_two cneg (by rw [hcj]; decide) hx1, hcj]
                exact SR_two _ hSR
            · exact absurd c94 (by decide)
          · exact absurd (by decide) c30
        · have cneg : ¬ 0 ≤ c j := by rw [hcj]; decide
          obtain ⟨-, -, hh1, xa, xb, xr, hx1, hx2⟩ := (hev.resolve_left (fun q => cneg q.1)).resolve_left (fun q => by rw [hcj] at q; exact absurd q.1 (by decide))
          rw [hx1] at hSR
          have e3 : h9 = xr.length + 1 := by omega
          subst e3
          subst hx2
          refine w_top (y := 20045) (by rw [hcj]; rfl) ?_
          refine w_istore (al' := [_, _, _, _, _, _, _, _]) dX7_workOut_23 rfl rfl rfl ?_
          refine w_iload dX7_workOut_25 rfl ?_
          refine w_sipush dX7_workOut_27 sp_20000 ?_
          refine w_icmp_ge (tgt := 89) dX7_workOut_30 (by decide) (fun c30 => ?_) (fun c30 => ?_)
          · refine w_iload dX7_workOut_89 rfl ?_
            refine w_sipush dX7_workOut_91 sp_20033 ?_
            refine w_icmp_ne (tgt := 131) dX7_workOut_94 (by decide) (fun c94 => ?_) (fun c94 => ?_)
            · refine w_iload dX7_workOut_131 rfl ?_
              refine w_iconst dX7_workOut_133 ic_2 ?_
              refine w_aload_n dX7_workOut_134 rfl ?_
              refine w_alen dX7_workOut_135 (by decide) (by decide) (by assumption) ?_
              refine c_S (as := [_, _, _]) (d' := 0) dX7_workOut_136 nlX7_20 moX9_within msX9_within rfl rfl rfl rfl rfl (by decide) (sX9_within ?_)
              refine w_ifB_eq (tgt := 170) dX7_workOut_139 (by decide) (fun c139 => ?_) (fun c139 => ?_)
              · exact absurd ⟨nI_le (a := 2) (by omega) (by omega), nI_le (b := 96) (by omega) (by omega)⟩ c139
              · refine w_iinc (al' := [_, _, _, _, _, _, _, _]) dX7_workOut_142 rfl rfl ic_m1 rfl ?_
                refine w_aload_n dX7_workOut_145 rfl ?_
                refine w_iload dX7_workOut_146 rfl ?_
                refine w_iconst dX7_workOut_148 ic_1 ?_
                refine w_isub dX7_workOut_149 ?_
                refine w_iload dX7_workOut_150 rfl ?_
                refine w_sipush dX7_workOut_152 sp_20000 ?_
                refine w_isub dX7_workOut_155 ?_
                refine w_top (y := 45) (by decide) ?_
                refine w_aload_n dX7_workOut_156 rfl ?_
                refine w_iload dX7_workOut_157 rfl ?_
                refine w_iconst dX7_workOut_159 ic_1 ?_
                refine w_isub dX7_workOut_160 ?_
                refine w_top (y := nI xr.length) (by rw [nI_m1]; exact nI_pred _) ?_
                refine w_iald dX7_workOut_161 rfl (by assumption) (by omega) ?_
                refine w_top (y := xa) (SR_top (SR_tl hSR)) ?_
                refine w_aload_n dX7_workOut_162 rfl ?_
                refine w_iload dX7_workOut_163 rfl ?_
                refine w_top (y := nI (xr.length + 1)) (nI_m1 _) ?_
                refine w_iald dX7_workOut_165 rfl (by assumption) (by omega) ?_
                refine w_top (y := xb) (SR_top hSR) ?_
                refine c_S (as := [_, _, _]) (d' := 0) dX7_workOut_166 (Or.inl mlX7_26) moX7_joined msX7_joined rfl rfl rfl rfl rfl (by decide) (sX7_joined7 ?_)
                refine w_iast (q := xr.length) dX7_workOut_169 (by rw [nI_m1]; exact nI_pred _) (by assumption) (by omega) ?_
                refine w_iinc (al' := [_, _, _, _, _, _, _, _]) dX7_workOut_170 rfl rfl ic_1 rfl ?_
                refine w_goto (tgt := 6) dX7_workOut_173 (by decide) ?_
                refine w_kill (i := 7) (al' := [_, _, _, _, _, _, _, _]) rfl ?_
                simp only [nI_1, nI_m1]
                refine ih (j + 1) _ _ (by omega) (fun q hq => (va_up_ne _ _ hq).trans (hI1 q hq)) ?_ hh9
                rw [va_up_self]
                rw [evS_two cneg (by rw [hcj]; decide) hx1, hcj]
                exact SR_two _ hSR
            · exact absurd c94 (by decide)
          · exact absurd (by decide) c30
        · have cneg : ¬ 0 ≤ c j := by rw [hcj]; decide
          obtain ⟨-, -, hh1, xa, xb, xr, hx1, hx2⟩ := (hev.resolve_left (fun q => cneg q.1)).resolve_left (fun q => by rw [hcj] at q; exact absurd q.1 (by decide))
          rw [hx1] at hSR
          have e3 : h9 = xr.length + 1 := by omega
          subst e3
          subst hx2
          refine w_top (y := 20042) (by rw [hcj]; rfl) ?_
          refine w_istore (al' := [_, _, _, _, _, _, _, _]) dX7_workOut_23 rfl rfl rfl ?_
          refine w_iload dX7_workOut_25 rfl ?_
          refine w_sipush dX7_workOut_27 sp_20000 ?_
          refine w_icmp_ge (tgt := 89) dX7_workOut_30 (by decide) (fun c30 => ?_) (fun c30 => ?_)
          · refine w_iload dX7_workOut_89 rfl ?_
            refine w_sipush dX7_workOut_91 sp_20033 ?_
            refine w_icmp_ne (tgt := 131) dX7_workOut_94 (by decide) (fun c94 => ?_) (fun c94 => ?_)
            · refine w_iload dX7_workOut_131 rfl ?_
              refine w_iconst dX7_workOut_133 ic_2 ?_
              refine w_aload_n dX7_workOut_134 rfl ?_
              refine w_alen dX7_workOut_135 (by decide) (by decide) (by assumption) ?_
              refine c_S (as := [_, _, _]) (d' := 0) dX7_workOut_136 nlX7_20 moX9_within msX9_within rfl rfl rfl rfl rfl (by decide) (sX9_within ?_)
              refine w_ifB_eq (tgt := 170) dX7_workOut_139 (by decide) (fun c139 => ?_) (fun c139 => ?_)
              · exact absurd ⟨nI_le (a := 2) (by omega) (by omega), nI_le (b := 96) (by omega) (by omega)⟩ c139
              · refine w_iinc (al' := [_, _, _, _, _, _, _, _]) dX7_workOut_142 rfl rfl ic_m1 rfl ?_
                refine w_aload_n dX7_workOut_145 rfl ?_
                refine w_iload dX7_workOut_146 rfl ?_
                refine w_iconst dX7_workOut_148 ic_1 ?_
                refine w_isub dX7_workOut_149 ?_
                refine w_iload dX7_workOut_150 rfl ?_
                refine w_sipush dX7_workOut_152 sp_20000 ?_
                refine w_isub dX7_workOut_155 ?_
                refine w_top (y := 42) (by decide) ?_
                refine w_aload_n dX7_workOut_156 rfl ?_
                refine w_iload dX7_workOut_157 rfl ?_
                refine w_iconst dX7_workOut_159 ic_1 ?_
                refine w_isub dX7_workOut_160 ?_
                refine w_top (y := nI xr.length) (by rw [nI_m1]; exact nI_pred _) ?_
                refine w_iald dX7_workOut_161 rfl (by assumption) (by omega) ?_
                refine w_top (y := xa) (SR_top (SR_tl hSR)) ?_
                refine w_aload_n dX7_workOut_162 rfl ?_
                refine w_iload dX7_workOut_163 rfl ?_
                refine w_top (y := nI (xr.length + 1)) (nI_m1 _) ?_
                refine w_iald dX7_workOut_165 rfl (by assumption) (by omega) ?_
                refine w_top (y := xb) (SR_top hSR) ?_
                refine c_S (as := [_, _, _]) (d' := 0) dX7_workOut_166 (Or.inl mlX7_26) moX7_joined msX7_joined rfl rfl rfl rfl rfl (by decide) (sX7_joined8 ?_)
                refine w_iast (q := xr.length) dX7_workOut_169 (by rw [nI_m1]; exact nI_pred _) (by assumption) (by omega) ?_
                refine w_iinc (al' := [_, _, _, _, _, _, _, _]) dX7_workOut_170 rfl rfl ic_1 rfl ?_
                refine w_goto (tgt := 6) dX7_workOut_173 (by decide) ?_
                refine w_kill (i := 7) (al' := [_, _, _, _, _, _, _, _]) rfl ?_
                simp only [nI_1, nI_m1]
                refine ih (j + 1) _ _ (by omega) (fun q hq => (va_up_ne _ _ hq).trans (hI1 q hq)) ?_ hh9
                rw [va_up_self]
                rw [evS_two cneg (by rw [hcj]; decide) hx1, hcj]
                exact SR_two _ hSR
            · exact absurd c94 (by decide)
          · exact absurd (by decide) c30
        · have cneg : ¬ 0 ≤ c j := by rw [hcj]; decide
          obtain ⟨-, -, hh1, xa, xb, xr, hx1, hx2⟩ := (hev.resolve_left (fun q => cneg q.1)).resolve_left (fun q => by rw [hcj] at q; exact absurd q.1 (by decide))
          rw [hx1] at hSR
          have e3 : h9 = xr.length + 1 := by omega
          subst e3
          subst hx2
          refine w_top (y := 20047) (by rw [hcj]; rfl) ?_
          refine w_istore (al' := [_, _, _, _, _, _, _, _]) dX7_workOut_23 rfl rfl rfl ?_
          refine w_iload dX7_workOut_25 rfl ?_
          refine w_sipush dX7_workOut_27 sp_20000 ?_
          refine w_icmp_ge (tgt := 89) dX7_workOut_30 (by decide) (fun c30 => ?_) (fun c30 => ?_)
          · refine w_iload dX7_workOut_89 rfl ?_
            refine w_sipush dX7_workOut_91 sp_20033 ?_
            refine w_icmp_ne (tgt := 131) dX7_workOut_94 (by decide) (fun c94 => ?_) (fun c94 => ?_)
            · refine w_iload dX7_workOut_131 rfl ?_
              refine w_iconst dX7_workOut_133 ic_2 ?_
              refine w_aload_n dX7_workOut_134 rfl ?_
              refine w_alen dX7_workOut_135 (by decide) (by decide) (by assumption) ?_
              refine c_S (as := [_, _, _]) (d' := 0) dX7_workOut_136 nlX7_20 moX9_within msX9_within rfl rfl rfl rfl rfl (by decide) (sX9_within ?_)
              refine w_ifB_eq (tgt := 170) dX7_workOut_139 (by decide) (fun c139 => ?_) (fun c139 => ?_)
              · exact absurd ⟨nI_le (a := 2) (by omega) (by omega), nI_le (b := 96) (by omega) (by omega)⟩ c139
              · refine w_iinc (al' := [_, _, _, _, _, _, _, _]) dX7_workOut_142 rfl rfl ic_m1 rfl ?_
                refine w_aload_n dX7_workOut_145 rfl ?_
                refine w_iload dX7_workOut_146 rfl ?_
                refine w_iconst dX7_workOut_148 ic_1 ?_
                refine w_isub dX7_workOut_149 ?_
                refine w_iload dX7_workOut_150 rfl ?_
                refine w_sipush dX7_workOut_152 sp_20000 ?_
                refine w_isub dX7_workOut_155 ?_
                refine w_top (y := 47) (by decide) ?_
                refine w_aload_n dX7_workOut_156 rfl ?_
                refine w_iload dX7_workOut_157 rfl ?_
                refine w_iconst dX7_workOut_159 ic_1 ?_
                refine w_isub dX7_workOut_160 ?_
                refine w_top (y := nI xr.length) (by rw [nI_m1]; exact nI_pred _) ?_
                refine w_iald dX7_workOut_161 rfl (by assumption) (by omega) ?_
                refine w_top (y := xa) (SR_top (SR_tl hSR)) ?_
                refine w_aload_n dX7_workOut_162 rfl ?_
                refine w_iload dX7_workOut_163 rfl ?_
                refine w_top (y := nI (xr.length + 1)) (nI_m1 _) ?_
                refine w_iald dX7_workOut_165 rfl (by assumption) (by omega) ?_
                refine w_top (y := xb) (SR_top hSR) ?_
                refine c_S (as := [_, _, _]) (d' := 0) dX7_workOut_166 (Or.inl mlX7_26) moX7_joined msX7_joined rfl rfl rfl rfl rfl (by decide) (sX7_joined9 ?_)
                refine w_iast (q := xr.length) dX7_workOut_169 (by rw [nI_m1]; exact nI_pred _) (by assumption) (by omega) ?_
                refine w_iinc (al' := [_, _, _, _, _, _, _, _]) dX7_workOut_170 rfl rfl ic_1 rfl ?_
                refine w_goto (tgt := 6) dX7_workOut_173 (by decide) ?_
                refine w_kill (i := 7) (al' := [_, _, _, _, _, _, _, _]) rfl ?_
                simp only [nI_1, nI_m1]
                refine ih (j + 1) _ _ (by omega) (fun q hq => (va_up_ne _ _ hq).trans (hI1 q hq)) ?_ hh9
                rw [va_up_self]
                rw [evS_two cneg (by rw [hcj]; decide) hx1, hcj]
                exact SR_two _ hSR
            · exact absurd c94 (by decide)
          · exact absurd (by decide) c30
        · have cneg : ¬ 0 ≤ c j := by rw [hcj]; decide
          obtain ⟨-, rfl, xa, xr, hx1, hx2⟩ := (hev.resolve_left (fun q => cneg q.1)).resolve_right (fun q => q.2.1 hcj)
          rw [hx1] at hSR
          have e3 : h9 = xr.length + 1 := hx2.symm
          subst e3
          refine w_top (y := 20033) (by rw [hcj]; rfl) ?_
          refine w_istore (al' := [_, _, _, _, _, _, _, _]) dX7_workOut_23 rfl rfl rfl ?_
          refine w_iload dX7_workOut_25 rfl ?_
          refine w_sipush dX7_workOut_27 sp_20000 ?_
          refine w_icmp_ge (tgt := 89) dX7_workOut_30 (by decide) (fun c30 => ?_) (fun c30 => ?_)
          · refine w_iload dX7_workOut_89 rfl ?_
            refine w_sipush dX7_workOut_91 sp_20033 ?_
            refine w_icmp_ne (tgt := 131) dX7_workOut_94 (by decide) (fun c94 => ?_) (fun c94 => ?_)
            · exact absurd rfl c94
            · refine w_iload dX7_workOut_97 rfl ?_
              refine w_iconst dX7_workOut_99 ic_1 ?_
              refine w_aload_n dX7_workOut_100 rfl ?_
              refine w_alen dX7_workOut_101 (by decide) (by decide) (by assumption) ?_
              refine c_S (as := [_, _, _]) (d' := 0) dX7_workOut_102 nlX7_20 moX9_within msX9_within rfl rfl rfl rfl rfl (by decide) (sX9_within ?_)
              refine w_ifB_eq (tgt := 170) dX7_workOut_105 (by decide) (fun c105 => ?_) (fun c105 => ?_)
              · exact absurd ⟨nI_le (a := 1) (by omega) (by omega), nI_le (b := 96) (by omega) (by omega)⟩ c105
              · refine w_aload_n dX7_workOut_108 rfl ?_
                refine w_iload dX7_workOut_109 rfl ?_
                refine w_iconst dX7_workOut_111 ic_1 ?_
                refine w_isub dX7_workOut_112 ?_
                refine w_aload_n dX7_workOut_113 rfl ?_
                refine w_iload dX7_workOut_114 rfl ?_
                refine w_iconst dX7_workOut_116 ic_1 ?_
                refine w_isub dX7_workOut_117 ?_
                refine w_top (y := nI xr.length) (nI_pred _) ?_
                refine w_iald dX7_workOut_118 rfl (by assumption) (by omega) ?_
                refine w_top (y := xa) (SR_top hSR) ?_
                refine w_if_ne (tgt := 126) dX7_workOut_119 (by decide) (fun c119 => ?_) (fun c119 => ?_)
                · refine w_iconst dX7_workOut_126 ic_0 ?_
                  refine w_iast (q := xr.length) dX7_workOut_127 (nI_pred _) (by assumption) (by omega) ?_
                  refine w_goto (tgt := 170) dX7_workOut_128 (by decide) ?_
                  refine w_iinc (al' := [_, _, _, _, _, _, _, _]) dX7_workOut_170 rfl rfl ic_1 rfl ?_
                  refine w_goto (tgt := 6) dX7_workOut_173 (by decide) ?_
                  refine w_kill (i := 7) (al' := [_, _, _, _, _, _, _, _]) rfl ?_
                  simp only [nI_1, nI_m1]
                  refine ih (j + 1) _ _ (by omega) (fun q hq => (va_up_ne _ _ hq).trans (hI1 q hq)) ?_ hh9
                  rw [va_up_self]
                  rw [evS_not hcj hx1]
                  first | rw [if_neg c119] | rw [if_pos c119]
                  exact SR_one _ hSR
                · refine w_iconst dX7_workOut_122 ic_1 ?_
                  refine w_goto (tgt := 127) dX7_workOut_123 (by decide) ?_
                  refine w_iast (q := xr.length) dX7_workOut_127 (nI_pred _) (by assumption) (by omega) ?_
                  refine w_goto (tgt := 170) dX7_workOut_128 (by decide) ?_
                  refine w_iinc (al' := [_, _, _, _, _, _, _, _]) dX7_workOut_170 rfl rfl ic_1 rfl ?_
                  refine w_goto (tgt := 6) dX7_workOut_173 (by decide) ?_
                  refine w_kill (i := 7) (al' := [_, _, _, _, _, _, _, _]) rfl ?_
                  simp only [nI_1, nI_m1]
                  refine ih (j + 1) _ _ (by omega) (fun q hq => (va_up_ne _ _ hq).trans (hI1 q hq)) ?_ hh9
                  rw [va_up_self]
                  rw [evS_not hcj hx1]
                  first | rw [if_neg c119] | rw [if_pos c119]
                  exact SR_one _ hSR
          · exact absurd (by decide) c30
  refine ca_in (al := [_, _, _, _, _, _, _, _]) rfl ?_
  refine w_iconst dX7_workOut_0 ic_0 ?_
  refine w_istore (al' := [_, _, _, _, _, _, _, _]) dX7_workOut_1 rfl rfl rfl ?_
  refine w_iconst dX7_workOut_3 ic_0 ?_
  refine w_istore (al' := [_, _, _, _, _, _, _, _]) dX7_workOut_4 rfl rfl rfl ?_
  exact lp m 0 I 0 (by omega) (fun _ _ => rfl) (SR_nil _) rfl

end
