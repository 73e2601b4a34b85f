section
variable {sc : SC} {I : HI} {L : HL} {R : HR} {N : HN} {n : Nat} {Q : HQ}
/-- what a drawn reader owes on his day -/
noncomputable def dayO (V : VV) (x : Int32) : Int32 := if x < 0 then 0 else owV V x.toNatClampNeg
/-- how many numbers stand right, from reader i on -/
noncomputable def ckF (V T : VV) (m : Nat) : Nat → Nat → Int32 → Nat
  | 0, i, _ => 2 * i
  | k + 1, i, z => cif (2 * i < m ∧ T (2 * i) = (drwF (planV V (i % nS V)) 31 0 z).1) (cif (2 * i + 1 < m ∧ T (2 * i + 1) = dayO V (drwF (planV V (i % nS V)) 31 0 z).1) (ckF V T m k (i + 1) (drwF (planV V (i % nS V)) 31 0 z).2) (2 * i + 1)) (2 * i)
def ckA (r m n : Nat) : Int32 := if r = m ∧ r = 2 * n then 0 else nI (1 + r)
theorem dayO_c {V : VV} {x : Int32} (h : x = -1 ∨ ∃ i, i < 0 + 31 ∧ x = nI i) {O : VV} (hO : ∀ j, j < 31 → O j = owV V j) : x = -1 ∧ dayO V x = 0 ∨ ∃ j, j < 31 ∧ x = nI j ∧ dayO V x = O j := by
  rcases h with rfl | ⟨i, hi, rfl⟩
  · exact Or.inl ⟨rfl, rfl⟩
  · refine Or.inr ⟨i, by omega, rfl, ?_⟩
    unfold dayO
    rw [if_neg (nI_pos (by omega)), nI_clamp (by omega), hO i (by omega)]
theorem rem_n {i s : Nat} (hi : i < 1000) (hs : 0 < s ∧ s < 1000) : nI i - nI i / nI s * nI s = nI (i % s) := by
  rw [nI_div (by omega) (by omega) hs.1, nI_mul, nI_sub (Nat.div_mul_le_self i s)]
  congr 1
  have := Nat.div_add_mod i s
  rw [Nat.mul_comm] at this
  omega

set_option maxRecDepth 20000 in
theorem lX9_check (hs : SK R N) {V : VV} (hV : VO V) (hC : WC I R N n 30 V) {T : VV} {m nn : Nat} (hn1 : 1 ≤ nn) (hn30 : nn ≤ 30) (hm60 : m ≤ 60) (hs0 : 0 < nS V) (hT : ∀ j, j < m → I 83 j = T j) {I1 : HI} {z : Int32} (hI1 : (∀ q, q ≠ 42 → (q < 60 ∨ 77 ≤ q) → I1 q = I q)) (hz : I1 76 0 = z) (ho : (∀ i, i < 31 → I1 60 i = owV V i)) (hf : (∀ s, s < nS V → ∀ j, j < 31 → I1 (62 + s) j = forgV V (V (6 + 7 * s + 1)) (told (V 4)) (nI j))) (hq : ∀ I' : HI, (∀ q, q ≠ 42 → (q < 60 ∨ 77 ≤ q) → I' q = I q) → Q (vI (ckA (ckF V T m nn 0 z) m nn)) I' L R N n) : WP sc 6 0 0 mX9_check 73 [vR 9 0, vI (nI nn), vI (nI m), vI (nI 0), vU, vU] [] I1 L R N n Q := by
  have h6 := hV.1.2
  have lp : ∀ (k i : Nat) (I1 : HI) (z : Int32), i + k = nn → (∀ q, q ≠ 42 → (q < 60 ∨ 77 ≤ q) → I1 q = I q) → I1 76 0 = z → (∀ i, i < 31 → I1 60 i = owV V i) → (∀ s, s < nS V → ∀ j, j < 31 → I1 (62 + s) j = forgV V (V (6 + 7 * s + 1)) (told (V 4)) (nI j)) → (∀ j, j < i → 2 * j + 1 < m) → (∀ I' : HI, (∀ q, q ≠ 42 → (q < 60 ∨ 77 ≤ q) → I' q = I q) → Q (vI (ckA (ckF V T m k i z) m nn)) I' L R N n) → WP sc 6 0 0 mX9_check 73 [vR 9 0, vI (nI nn), vI (nI m), vI (nI i), vU, vU] [] I1 L R N n Q := by
    intro k
    induction k with
    | zero =>
      intro i I1 z hj hI1 hz ho hf hmi hq
      refine w_iload_n dX9_check_73 rfl ?_
      refine w_iload_n dX9_check_74 rfl ?_
      refine w_icmp_ge (tgt := 181) dX9_check_75 (by decide) (fun c75 => ?_) (fun c75 => ?_)
      · obtain rfl : i = nn := by omega
        have hlast := hmi (i - 1) (by omega)
        have hgo := hq I1 hI1
        rw [ckF] at hgo
        refine w_iload_n dX9_check_181 rfl ?_
        refine w_iconst dX9_check_182 ic_2 ?_
        refine w_iload_n dX9_check_183 rfl ?_
        refine w_imul dX9_check_184 ?_
        refine w_top (y := nI (2 * i)) (nI_mul 2 i) ?_
        refine w_icmp_le (tgt := 196) dX9_check_185 (by decide) (fun c185 => ?_) (fun c185 => ?_)
        · have hle := (nI_leI (by omega) (by omega)).mp c185
          refine w_iconst dX9_check_196 ic_0 ?_
          refine w_ireturn dX9_check_197 rfl rfl ?_
          refine q_e ?_ hgo
          rw [ckA, if_pos (by omega)]
        · have hle : ¬ m ≤ 2 * i := fun q => c185 (nI_le q (by omega))
          refine w_iconst dX9_check_188 ic_2 ?_
          refine w_iload_n dX9_check_189 rfl ?_
          refine w_imul dX9_check_190 ?_
          refine w_top (y := nI (2 * i)) (nI_mul 2 i) ?_
          refine w_iconst dX9_check_191 ic_1 ?_
          refine w_iadd dX9_check_192 ?_
          refine w_goto (tgt := 197) dX9_check_193 (by decide) ?_
          refine w_ireturn dX9_check_197 rfl rfl ?_
          refine q_e ?_ hgo
          rw [ckA, if_neg (by omega), nI_1, Nat.add_comm]
      · exact absurd (nI_le (a := nn) (by omega) (by omega)) c75
    | succ k ih =>
      intro i I1 z hj hI1 hz ho hf hmi hq
      refine w_iload_n dX9_check_73 rfl ?_
      refine w_iload_n dX9_check_74 rfl ?_
      refine w_icmp_ge (tgt := 181) dX9_check_75 (by decide) (fun c75 => ?_) (fun c75 => ?_)
      · exact absurd ((nI_leI (by omega) (by omega)).mp c75) (by omega)
      · refine w_iload_n dX9_check_78 rfl ?_
        refine w_aload_n dX9_check_79 rfl ?_
        refine w_getR dX9_check_80 flX9_16 rfl (hs.r (a := 0) (j := 1) (b := 30) 1 rfl) ?_
        refine w_getI dX9_check_83 flX9_94 rfl ?_
        refine w_top (y := nI (nS V)) ((congrFun (hI1 30 (by decide) (by decide)) 1).trans (hC.1.1.trans hV.1.1)) ?_
        refine w_irem dX9_check_86 (nI_ne0 (by omega) (by omega)) ?_
        refine w_top (y := nI (i % nS V)) (rem_n (by omega) (by omega)) ?_
        refine w_istore (al' := [_, _, _, _, _, _]) dX9_check_87 rfl rfl rfl ?_
        refine w_aload_n dX9_check_89 rfl ?_
        refine w_getR dX9_check_90 flX9_26 rfl (hs.r (a := 0) (j := 3) (b := 59) 2 rfl) ?_
        refine w_aload_n dX9_check_93 rfl ?_
        refine w_getR dX9_check_94 flX9_16 rfl (hs.r (a := 0) (j := 1) (b := 30) 1 rfl) ?_
        refine w_iload dX9_check_97 rfl ?_
        have hss : i % nS V < nS V := Nat.mod_lt _ (by omega)
        have hC1 : WC I1 R N n 30 V := hC.keep hV (fun q hz => hI1 q (by unfold WA at hz; omega) (by unfold WA at hz; omega))
        refine c_Vv (t := 2) (as := [_, _]) (d' := 4) dX9_check_99 mlX9_169 moX2_follow mvX2_follow ⟨rfl, rfl⟩ rfl rfl rfl rfl rfl (by decide) (sX2_follow hs (Or.inr rfl) hV hC1 hss (oF := owV V) (cd := told (V 4)) ho (fun j hj => hf _ hss j hj) (fun I2 hI2 hF2 => ?_))
        refine w_aload_n dX9_check_102 rfl ?_
        refine w_getR dX9_check_103 flX9_26 rfl (hs.r (a := 0) (j := 3) (b := 59) 2 rfl) ?_
        refine w_iload dX9_check_106 rfl ?_
        refine w_aload_n dX9_check_108 rfl ?_
        refine w_getR dX9_check_109 flX9_40 rfl (hs.r (a := 0) (j := 5) (b := 76) 4 rfl) ?_
        refine c_V (t := 2) (as := [_, _]) (d' := 1) dX9_check_112 mlX9_161 moX2_drawDay mvX2_drawDay ⟨rfl, rfl⟩ rfl rfl rfl rfl rfl (by decide) (sX2_drawDay hs (p := planV V (i % nS V)) (dz := 76) (by omega) (fun j hj => (hF2 j hj).2.2.2.1) (fun j hj => by rw [hI2 (62 + i % nS V) (by omega) (by omega)]; exact hf _ hss j hj) (by decide) (by omega) (fun I3 hI3 hz3 => ?_))
        have e76 : I2 76 0 = z := by rw [hI2 76 (by decide) (by decide)]; exact hz
        rw [e76] at hz3 ⊢
        have hdr := drw_rng (planV V (i % nS V)) 31 0 z
        have hX3 : (∀ q, q ≠ 42 → (q < 60 ∨ 77 ≤ q) → I3 q = I q) := fun q a1 a2 => (hI3 q (by omega)).trans ((hI2 q a1 (by omega)).trans (hI1 q a1 a2))
        have hT3 : ∀ j, j < m → I3 83 j = T j := fun j hj => by rw [hX3 83 (by decide) (by decide)]; exact hT j hj
        have ho3 : (∀ i, i < 31 → I3 60 i = owV V i) := fun j hj => by rw [hI3 60 (by decide), hI2 60 (by decide) (by decide)]; exact ho j hj
        refine w_istore (al' := [_, _, _, _, _, _]) dX9_check_115 rfl rfl rfl ?_
        refine w_aload_n dX9_check_117 rfl ?_
        refine w_iconst dX9_check_118 ic_2 ?_
        refine w_iload_n dX9_check_119 rfl ?_
        refine w_imul dX9_check_120 ?_
        refine w_top (y := nI (2 * i)) (nI_mul 2 i) ?_
        refine w_iload_n dX9_check_121 rfl ?_
        refine w_iload dX9_check_122 rfl ?_
        refine w_ldc dX9_check_124 kcX9_141 ?_
        refine w_icmp_ne (tgt := 133) dX9_check_126 (by decide) (fun c126 => ?_) (fun c126 => ?_)
        · have hd9 : told (drwF (planV V (i % nS V)) 31 0 z).1 = (drwF (planV V (i % nS V)) 31 0 z).1 := (by rcases hdr with e9 | ⟨i9, h9, e9⟩; exact absurd (told_n e9) c126; rw [e9]; exact told_s rfl (by omega))
          refine w_iload dX9_check_133 rfl ?_
          refine w_top (y := (drwF (planV V (i % nS V)) 31 0 z).1) (hd9) ?_
          refine c_V (t := 9) (as := [_, _, _]) (d' := 1) dX9_check_135 mlX9_325 moX9_waitsAt mvX9_waitsAt ⟨rfl, rfl⟩ rfl rfl rfl rfl rfl (by decide) (sX9_waitsAt hs (by omega) hm60 ?_)
          refine w_ifB_ne (tgt := 147) dX9_check_138 (by decide) (fun c138 => ?_) (fun c138 => ?_)
          · have hy9 : 2 * i < m ∧ T (2 * i) = (drwF (planV V (i % nS V)) 31 0 z).1 := ⟨c138.1, (hT3 _ c138.1).symm.trans c138.2⟩
            refine w_aload_n dX9_check_147 rfl ?_
            refine w_iconst dX9_check_148 ic_2 ?_
            refine w_iload_n dX9_check_149 rfl ?_
            refine w_imul dX9_check_150 ?_
            refine w_top (y := nI (2 * i)) (nI_mul 2 i) ?_
            refine w_iconst dX9_check_151 ic_1 ?_
            refine w_iadd dX9_check_152 ?_
            refine w_top (y := nI (2 * i + 1)) (nI_1 _) ?_
            refine w_iload_n dX9_check_153 rfl ?_
            refine w_aload_n dX9_check_154 rfl ?_
            refine w_getR dX9_check_155 flX9_26 rfl (hs.r (a := 0) (j := 3) (b := 59) 2 rfl) ?_
            refine w_iload dX9_check_158 rfl ?_
            refine c_V (t := 2) (as := [_]) (d' := 2) dX9_check_160 mlX9_328 moX2_owedOn mvX2_owedOn ⟨rfl, rfl⟩ rfl rfl rfl rfl rfl (by decide) (sX2_owedOn hs (dayO_c hdr ho3) ?_)
            refine c_V (t := 9) (as := [_, _, _]) (d' := 1) dX9_check_163 mlX9_325 moX9_waitsAt mvX9_waitsAt ⟨rfl, rfl⟩ rfl rfl rfl rfl rfl (by decide) (sX9_waitsAt hs (by omega) hm60 ?_)
            refine w_ifB_ne (tgt := 175) dX9_check_166 (by decide) (fun c166 => ?_) (fun c166 => ?_)
            · have hy8 : 2 * i + 1 < m ∧ T (2 * i + 1) = dayO V (drwF (planV V (i % nS V)) 31 0 z).1 := ⟨c166.1, (hT3 _ c166.1).symm.trans c166.2⟩
              refine w_iinc (al' := [_, _, _, _, _, _]) dX9_check_175 rfl rfl ic_1 rfl ?_
              refine w_goto (tgt := 73) dX9_check_178 (by decide) ?_
              refine w_kill (i := 5) (al' := [_, _, _, _, _, _]) rfl ?_
              refine w_kill (i := 4) (al' := [_, _, _, _, _, _]) rfl ?_
              simp only [nI_1]
              refine ih (i + 1) I3 (drwF (planV V (i % nS V)) 31 0 z).2 (by omega) hX3 hz3 ho3 (fun s9 hs9 j hj => by rw [hI3 (62 + s9) (by omega), hI2 (62 + s9) (by omega) (by omega)]; exact hf s9 hs9 j hj) (fun j hj => ?_) (fun I' h1 => ?_)
              · by_cases e : j = i
                · subst e; exact hy8.1
                · exact hmi j (by omega)
              · have hgo := hq I' h1
                rw [ckF, cif_t hy9, cif_t hy8] at hgo
                exact hgo
            · have hn8 : ¬ (2 * i + 1 < m ∧ T (2 * i + 1) = dayO V (drwF (planV V (i % nS V)) 31 0 z).1) := fun q => c166 ⟨q.1, (hT3 _ q.1).trans q.2⟩
              refine w_iconst dX9_check_169 ic_2 ?_
              refine w_iload_n dX9_check_170 rfl ?_
              refine w_imul dX9_check_171 ?_
              refine w_top (y := nI (2 * i)) (nI_mul 2 i) ?_
              refine w_iconst dX9_check_172 ic_2 ?_
              refine w_iadd dX9_check_173 ?_
              refine w_top (y := ckA (ckF V T m (k + 1) i z) m nn) (by rw [ckF, cif_t hy9, cif_f hn8, ckA, if_neg (by omega)]; show nI _ + nI 2 = _; rw [nI_add]; congr 1; omega) ?_
              refine w_ireturn dX9_check_174 rfl rfl ?_
              exact hq I3 hX3
          · have hn9 : ¬ (2 * i < m ∧ T (2 * i) = (drwF (planV V (i % nS V)) 31 0 z).1) := fun q => c138 ⟨q.1, (hT3 _ q.1).trans q.2⟩
            refine w_iconst dX9_check_141 ic_2 ?_
            refine w_iload_n dX9_check_142 rfl ?_
            refine w_imul dX9_check_143 ?_
            refine w_top (y := nI (2 * i)) (nI_mul 2 i) ?_
            refine w_iconst dX9_check_144 ic_1 ?_
            refine w_iadd dX9_check_145 ?_
            refine w_top (y := ckA (ckF V T m (k + 1) i z) m nn) (by rw [ckF, cif_f hn9, ckA, if_neg (by omega), nI_1, Nat.add_comm]) ?_
            refine w_ireturn dX9_check_146 rfl rfl ?_
            exact hq I3 hX3
        · have hd9 : (drwF (planV V (i % nS V)) 31 0 z).1 = -1 := (by rcases hdr with e9 | ⟨i9, h9, e9⟩; exact e9; exact absurd (c126.symm.trans (told_s e9 (by omega))).symm (nI_none (by omega)))
          refine w_iconst dX9_check_129 ic_m1 ?_
          refine w_top (y := (drwF (planV V (i % nS V)) 31 0 z).1) (hd9.symm) ?_
          refine w_goto (tgt := 135) dX9_check_130 (by decide) ?_
          refine c_V (t := 9) (as := [_, _, _]) (d' := 1) dX9_check_135 mlX9_325 moX9_waitsAt mvX9_waitsAt ⟨rfl, rfl⟩ rfl rfl rfl rfl rfl (by decide) (sX9_waitsAt hs (by omega) hm60 ?_)
          refine w_ifB_ne (tgt := 147) dX9_check_138 (by decide) (fun c138 => ?_) (fun c138 => ?_)
          · have hy9 : 2 * i < m ∧ T (2 * i) = (drwF (planV V (i % nS V)) 31 0 z).1 := ⟨c138.1, (hT3 _ c138.1).symm.trans c138.2⟩
            refine w_aload_n dX9_check_147 rfl ?_
            refine w_iconst dX9_check_148 ic_2 ?_
            refine w_iload_n dX9_check_149 rfl ?_
            refine w_imul dX9_check_150 ?_
            refine w_top (y := nI (2 * i)) (nI_mul 2 i) ?_
            refine w_iconst dX9_check_151 ic_1 ?_
            refine w_iadd dX9_check_152 ?_
            refine w_top (y := nI (2 * i + 1)) (nI_1 _) ?_
            refine w_iload_n dX9_check_153 rfl ?_
            refine w_aload_n dX9_check_154 rfl ?_
            refine w_getR dX9_check_155 flX9_26 rfl (hs.r (a := 0) (j := 3) (b := 59) 2 rfl) ?_
            refine w_iload dX9_check_158 rfl ?_
            refine c_V (t := 2) (as := [_]) (d' := 2) dX9_check_160 mlX9_328 moX2_owedOn mvX2_owedOn ⟨rfl, rfl⟩ rfl rfl rfl rfl rfl (by decide) (sX2_owedOn hs (dayO_c hdr ho3) ?_)
            refine c_V (t := 9) (as := [_, _, _]) (d' := 1) dX9_check_163 mlX9_325 moX9_waitsAt mvX9_waitsAt ⟨rfl, rfl⟩ rfl rfl rfl rfl rfl (by decide) (sX9_waitsAt hs (by omega) hm60 ?_)
            refine w_ifB_ne (tgt := 175) dX9_check_166 (by decide) (fun c166 => ?_) (fun c166 => ?_)
            · have hy8 : 2 * i + 1 < m ∧ T (2 * i + 1) = dayO V (drwF (planV V (i % nS V)) 31 0 z).1 := ⟨c166.1, (hT3 _ c166.1).symm.trans c166.2⟩
              refine w_iinc (al' := [_, _, _, _, _, _]) dX9_check_175 rfl rfl ic_1 rfl ?_
              refine w_goto (tgt := 73) dX9_check_178 (by decide) ?_
              refine w_kill (i := 5) (al' := [_, _, _, _, _, _]) rfl ?_
              refine w_kill (i := 4) (al' := [_, _, _, _, _, _]) rfl ?_
              simp only [nI_1]
              refine ih (i + 1) I3 (drwF (planV V (i % nS V)) 31 0 z).2 (by omega) hX3 hz3 ho3 (fun s9 hs9 j hj => by rw [hI3 (62 + s9) (by omega), hI2 (62 + s9) (by omega) (by omega)]; exact hf s9 hs9 j hj) (fun j hj => ?_) (fun I' h1 => ?_)
              · by_cases e : j = i
                · subst e; exact hy8.1
                · exact hmi j (by omega)
              · have hgo := hq I' h1
                rw [ckF, cif_t hy9, cif_t hy8] at hgo
                exact hgo
            · have hn8 : ¬ (2 * i + 1 < m ∧ T (2 * i + 1) = dayO V (drwF (planV V (i % nS V)) 31 0 z).1) := fun q => c166 ⟨q.1, (hT3 _ q.1).trans q.2⟩
              refine w_iconst dX9_check_169 ic_2 ?_
              refine w_iload_n dX9_check_170 rfl ?_
              refine w_imul dX9_check_171 ?_
              refine w_top (y := nI (2 * i)) (nI_mul 2 i) ?_
              refine w_iconst dX9_check_172 ic_2 ?_
              refine w_iadd dX9_check_173 ?_
              refine w_top (y := ckA (ckF V T m (k + 1) i z) m nn) (by rw [ckF, cif_t hy9, cif_f hn8, ckA, if_neg (by omega)]; show nI _ + nI 2 = _; rw [nI_add]; congr 1; omega) ?_
              refine w_ireturn dX9_check_174 rfl rfl ?_
              exact hq I3 hX3
          · have hn9 : ¬ (2 * i < m ∧ T (2 * i) = (drwF (planV V (i % nS V)) 31 0 z).1) := fun q => c138 ⟨q.1, (hT3 _ q.1).trans q.2⟩
            refine w_iconst dX9_check_141 ic_2 ?_
            refine w_iload_n dX9_check_142 rfl ?_
            refine w_imul dX9_check_143 ?_
            refine w_top (y := nI (2 * i)) (nI_mul 2 i) ?_
            refine w_iconst dX9_check_144 ic_1 ?_
            refine w_iadd dX9_check_145 ?_
            refine w_top (y := ckA (ckF V T m (k + 1) i z) m nn) (by rw [ckF, cif_f hn9, ckA, if_neg (by omega), nI_1, Nat.add_comm]) ?_
            refine w_ireturn dX9_check_146 rfl rfl ?_
            exact hq I3 hX3
  exact lp nn 0 I1 z (Nat.zero_add _) hI1 hz ho hf (fun j hj => absurd hj (Nat.not_lt_zero j)) hq

noncomputable def oCheck (kp : Int32) (W T : VV) (m : Nat) (a : Int32) : Int32 := cif (1 ≤ a ∧ a ≤ 30) (cif (kp = 0 ∨ nS W = 0) (-1000000002) (ckA (ckF W T m a.toNatClampNeg 0 (W 0)) m a.toNatClampNeg)) (-1000000001)
set_option maxRecDepth 20000 in
theorem sX9_check (hs : SK R N) {V : VV} (hk : I 0 2 = 0 ∨ (I 0 2 = 1 ∧ VO V ∧ WC I R N n 30 V)) {T : VV} {m : Nat} (hm : I 0 10 = nI m) (hm60 : m ≤ 60) (hT : ∀ j, j < m → I 83 j = T j) {a : Int32} (hq : ∀ I' : HI, (∀ q, q ≠ 0 → q ≠ 42 → (q < 60 ∨ 77 ≤ q) → I' q = I q) → (∀ j, j ≠ 10 → I' 0 j = I 0 j) → I' 0 10 = 0 → Q (vI (oCheck (I 0 2) V T m a)) I' L R N n) : CA sc 6 0 0 mX9_check [vR 9 0, vI a] I L R N n Q := by
  refine ca_in (al := [_, _, _, _, _, _]) rfl ?_
  refine w_aload_n dX9_check_0 rfl ?_
  refine w_getI dX9_check_1 flX9_67 rfl ?_
  refine w_top (y := nI m) (hm) ?_
  refine w_istore_n (al' := [_, _, _, _, _, _]) dX9_check_4 rfl rfl rfl ?_
  refine w_aload_n dX9_check_5 rfl ?_
  refine w_iconst dX9_check_6 ic_0 ?_
  refine w_putI dX9_check_7 flX9_67 rfl rfl rfl rfl ?_
  refine w_st (fun I2 hA2 hB2 hC2 => ?_)
  refine w_iload_n dX9_check_10 rfl ?_
  refine w_iconst dX9_check_11 ic_1 ?_
  refine w_bipush dX9_check_12 bp_30 ?_
  refine c_S (as := [_, _, _]) (d' := 0) dX9_check_14 (Or.inl mlX9_86) moX9_within msX9_within rfl rfl rfl rfl rfl (by decide) (sX9_within ?_)
  refine w_ifB_ne (tgt := 23) dX9_check_17 (by decide) (fun c17 => ?_) (fun c17 => ?_)
  · have ha := c17
    obtain ⟨nn, hn1, hn30, rfl⟩ := one_of (m := 30) (by decide) c17
    have hcl : (nI nn).toNatClampNeg = nn := nI_clamp (by omega)
    refine w_aload_n dX9_check_23 rfl ?_
    rcases hk with hk | ⟨hk, hV, hC⟩
    · refine w_getI dX9_check_24 flX9_19 rfl ?_
      refine w_top (y := 0) ((hB2 2 (by decide)).trans hk) ?_
      refine w_if_eq (tgt := 40) dX9_check_27 (by decide) (fun c27 => ?_) (fun c27 => ?_)
      · refine w_ldc dX9_check_40 kcX9_197 ?_
        refine w_ireturn dX9_check_42 rfl rfl ?_
        have e : oCheck (I 0 2) V T m (nI nn) = -1000000002 := by unfold oCheck; rw [cif_t ha, cif_t (Or.inl hk)]
        rw [e] at hq
        exact hq I2 (fun q a1 a2 a3 => hA2 q a1) hB2 hC2
      · exact absurd rfl c27
    · have h6 := hV.1.2
      have hC2w : WC I2 R N n 30 V := hC.keep hV (fun q hz => hA2 q (by unfold WA at hz; omega))
      refine w_getI dX9_check_24 flX9_19 rfl ?_
      refine w_top (y := 1) ((hB2 2 (by decide)).trans hk) ?_
      refine w_if_eq (tgt := 40) dX9_check_27 (by decide) (fun c27 => ?_) (fun c27 => ?_)
      · exact absurd c27 (by decide)
      · refine w_aload_n dX9_check_30 rfl ?_
        refine w_getR dX9_check_31 flX9_16 rfl (hs.r (a := 0) (j := 1) (b := 30) 1 rfl) ?_
        refine w_getI dX9_check_34 flX9_94 rfl ?_
        refine w_top (y := nI (nS V)) (hC2w.1.1.trans hV.1.1) ?_
        refine w_if_gt (tgt := 43) dX9_check_37 (by decide) (fun c37 => ?_) (fun c37 => ?_)
        · have hs0 : 0 < nS V := (nI_ltI (a := 0) (by omega) (by omega)).mp c37
          refine w_aload_n dX9_check_43 rfl ?_
          refine w_getR dX9_check_44 flX9_26 rfl (hs.r (a := 0) (j := 3) (b := 59) 2 rfl) ?_
          refine w_aload_n dX9_check_47 rfl ?_
          refine w_getR dX9_check_48 flX9_16 rfl (hs.r (a := 0) (j := 1) (b := 30) 1 rfl) ?_
          refine c_Vv (t := 2) (as := [_]) (d' := 5) dX9_check_51 mlX9_165 moX2_take mvX2_take ⟨rfl, rfl⟩ rfl rfl rfl rfl rfl (by decide) (sX2_take hs (Or.inr rfl) hV hC2w (fun I3 hI3 ho3 hf3 => ?_))
          refine w_aload_n dX9_check_54 rfl ?_
          refine w_getR dX9_check_55 flX9_40 rfl (hs.r (a := 0) (j := 5) (b := 76) 4 rfl) ?_
          refine w_aload_n dX9_check_58 rfl ?_
          refine w_getR dX9_check_59 flX9_16 rfl (hs.r (a := 0) (j := 1) (b := 30) 1 rfl) ?_
          refine w_getR dX9_check_62 flX9_158 rfl (hs.r (a := 30) (j := 9) (b := 41) 41 rfl) ?_
          refine w_getI dX9_check_65 flX9_172 rfl ?_
          refine w_top (y := V 0) (by rw [hI3 (30 + 11) (by decide) (by decide)]; exact hC2w.1.2.2.2.2.2) ?_
          refine w_putI dX9_check_68 flX9_172 rfl rfl rfl rfl ?_
          refine w_st (fun I4 hA4 hB4 hC4 => ?_)
          refine w_iconst dX9_check_71 ic_0 ?_
          refine w_istore_n (al' := [_, _, _, _, _, _]) dX9_check_72 rfl rfl rfl ?_
          have e : oCheck (I 0 2) V T m (nI nn) = ckA (ckF V T m nn 0 (V 0)) m nn := by
            unfold oCheck
            rw [cif_t ha, cif_f (fun q => q.elim (fun q => absurd (hk.symm.trans q) (by decide)) (fun q => by omega)), hcl]
          rw [e] at hq
          refine lX9_check (I := I2) (T := T) hs hV hC2w hn1 hn30 hm60 hs0 (fun j hj => by rw [hA2 83 (by decide)]; exact hT j hj) (fun q a1 a2 => (hA4 q (by omega)).trans (hI3 q a1 (by omega))) hC4 (fun i hi => by rw [hA4 60 (by decide)]; exact ho3 i hi) (fun s9 hs9 j hj => by rw [hA4 (62 + s9) (by omega)]; exact hf3 s9 hs9 j hj) (fun I' h1 => ?_)
          exact hq I' (fun q a1 a2 a3 => (h1 q a2 a3).trans (hA2 q a1)) (fun j hj => by rw [h1 0 (by decide) (by decide)]; exact hB2 j hj) (by rw [h1 0 (by decide) (by decide)]; exact hC2)
        · have hz0 : nS V = 0 := by
            by_cases e : nS V = 0
            · exact e
            · exact absurd (nI_lt (a := 0) (by omega) (by omega)) c37
          refine w_ldc dX9_check_40 kcX9_197 ?_
          refine w_ireturn dX9_check_42 rfl rfl ?_
          have e : oCheck (I 0 2) V T m (nI nn) = -1000000002 := by unfold oCheck; rw [cif_t ha, cif_t (Or.inr hz0)]
          rw [e] at hq
          exact hq I2 (fun q a1 a2 a3 => hA2 q a1) hB2 hC2
  · refine w_ldc dX9_check_20 kcX9_77 ?_
    refine w_ireturn dX9_check_22 rfl rfl ?_
    have e : oCheck (I 0 2) V T m a = -1000000001 := cif_f c17
    rw [e] at hq
    exact hq I2 (fun q a1 a2 a3 => hA2 q a1) hB2 hC2

end
