def TM (I : HI) (T : VV) (z : Nat) (t : TKN) : Prop := I 117 17 = nI z ∧ I 117 18 = nI t.2.1 ∧ I 117 19 = nI t.1 ∧ I 117 20 = nI t.2.2 ∧ (t.2.2 = 1 ∨ t.2.2 = 3 → I 117 21 = T t.1) ∧ (t.2.2 = 2 → I 117 21 = numF T t.1 (t.2.1 - t.1)) ∧ (t.2.2 = 1 ∨ t.2.2 = 2 → I 117 22 = nI t.2.1) ∧ (t.2.2 = 3 → ∀ j, t.2.1 ≤ j → j ≤ 96 → I 117 22 ≠ nI j) ∧ ∀ i, i < z → I 129 i = T i
/-- what the tape's step leaves -/
def FRG (I I' : HI) : Prop := (∀ q, q ≠ 117 → I' q = I q) ∧ ∀ j, (j < 18 ∨ 23 ≤ j) → I' 117 j = I 117 j
theorem FRG.trans {I I' I'' : HI} (h : FRG I I') (h' : FRG I' I'') : FRG I I'' := ⟨fun q a => (h'.1 q a).trans (h.1 q a), fun j a => (h'.2 j a).trans (h.2 j a)⟩
theorem FRG.st {I I' : HI} {q : Nat} (hA : ∀ a, a ≠ 117 → I' a = I a) (hB : ∀ j, j ≠ q → I' 117 j = I 117 j) (h : 18 ≤ q ∧ q < 23) : FRG I I' := ⟨hA, fun j hj => hB j (by omega)⟩
section
variable {sc : SC} {I : HI} {L : HL} {R : HR} {N : HN} {n : Nat} {Q : HQ}
set_option maxRecDepth 20000 in
theorem sX10_isLetter (hs : SK R N) {T : VV} {z k : Nat} (hz : z ≤ 96) (hk : k ≤ 96) (h17 : I 117 17 = nI z) (hT : ∀ i, i < z → I 129 i = T i) (hq : Q (vI (bI (k < z ∧ isL (T k)))) I L R N n) : CA sc 0 0 0 mX10_isLetter [vR 10 117, vI (nI k)] I L R N n Q := by
  refine ca_in (al := [_, _]) rfl ?_
  refine w_iload_n dX10_isLetter_0 rfl ?_
  refine w_aload_n dX10_isLetter_1 rfl ?_
  refine w_getI dX10_isLetter_2 flX10_207 rfl ?_
  refine w_top (y := nI z) (h17) ?_
  refine w_icmp_ge (tgt := 34) dX10_isLetter_5 (by decide) (fun c5 => ?_) (fun c5 => ?_)
  · have hkz : ¬ k < z := by have := (nI_leI (by omega) (by omega)).mp c5; omega
    refine w_iconst dX10_isLetter_34 ic_0 ?_
    refine w_ireturn dX10_isLetter_35 rfl rfl ?_
    first | exact q_0 (fun q => hkz q.1) hq | exact q_0 (fun q => absurd q.2.1 (Int32.not_le.mpr c16)) hq | exact q_0 (fun q => absurd q.2.2 (Int32.not_le.mpr c27)) hq | exact q_1 ⟨hkz, Int32.not_lt.mp c16, Int32.not_lt.mp c27⟩ hq
  · have hkz : k < z := Nat.lt_of_not_le (fun q => c5 (nI_le q (by omega)))
    refine w_aload_n dX10_isLetter_8 rfl ?_
    refine w_getR dX10_isLetter_9 flX10_44 rfl (hs.r (a := 117) (j := 16) (b := 129) 127 rfl) ?_
    refine w_iload_n dX10_isLetter_12 rfl ?_
    refine w_iald dX10_isLetter_13 rfl (hs.n (a := 129) (z := 96) 83 rfl) (by omega) ?_
    refine w_top (y := T k) (hT k hkz) ?_
    refine w_bipush dX10_isLetter_14 bp_97 ?_
    refine w_icmp_lt (tgt := 34) dX10_isLetter_16 (by decide) (fun c16 => ?_) (fun c16 => ?_)
    · refine w_iconst dX10_isLetter_34 ic_0 ?_
      refine w_ireturn dX10_isLetter_35 rfl rfl ?_
      first | exact q_0 (fun q => hkz q.1) hq | exact q_0 (fun q => absurd q.2.1 (Int32.not_le.mpr c16)) hq | exact q_0 (fun q => absurd q.2.2 (Int32.not_le.mpr c27)) hq | exact q_1 ⟨hkz, Int32.not_lt.mp c16, Int32.not_lt.mp c27⟩ hq
    · refine w_aload_n dX10_isLetter_19 rfl ?_
      refine w_getR dX10_isLetter_20 flX10_44 rfl (hs.r (a := 117) (j := 16) (b := 129) 127 rfl) ?_
      refine w_iload_n dX10_isLetter_23 rfl ?_
      refine w_iald dX10_isLetter_24 rfl (hs.n (a := 129) (z := 96) 83 rfl) (by omega) ?_
      refine w_top (y := T k) (hT k hkz) ?_
      refine w_bipush dX10_isLetter_25 bp_122 ?_
      refine w_icmp_gt (tgt := 34) dX10_isLetter_27 (by decide) (fun c27 => ?_) (fun c27 => ?_)
      · refine w_iconst dX10_isLetter_34 ic_0 ?_
        refine w_ireturn dX10_isLetter_35 rfl rfl ?_
        first | exact q_0 (fun q => hkz q.1) hq | exact q_0 (fun q => absurd q.2.1 (Int32.not_le.mpr c16)) hq | exact q_0 (fun q => absurd q.2.2 (Int32.not_le.mpr c27)) hq | exact q_1 ⟨hkz, Int32.not_lt.mp c16, Int32.not_lt.mp c27⟩ hq
      · refine w_iconst dX10_isLetter_30 ic_1 ?_
        refine w_goto (tgt := 35) dX10_isLetter_31 (by decide) ?_
        refine w_ireturn dX10_isLetter_35 rfl rfl ?_
        first | exact q_0 (fun q => hkz q.1) hq | exact q_0 (fun q => absurd q.2.1 (Int32.not_le.mpr c16)) hq | exact q_0 (fun q => absurd q.2.2 (Int32.not_le.mpr c27)) hq | exact q_1 ⟨hkz, Int32.not_lt.mp c16, Int32.not_lt.mp c27⟩ hq

set_option maxRecDepth 20000 in
theorem sX10_isFigure (hs : SK R N) {T : VV} {z k : Nat} (hz : z ≤ 96) (hk : k ≤ 96) (h17 : I 117 17 = nI z) (hT : ∀ i, i < z → I 129 i = T i) (hq : Q (vI (bI (k < z ∧ isD (T k)))) I L R N n) : CA sc 0 0 0 mX10_isFigure [vR 10 117, vI (nI k)] I L R N n Q := by
  refine ca_in (al := [_, _]) rfl ?_
  refine w_iload_n dX10_isFigure_0 rfl ?_
  refine w_aload_n dX10_isFigure_1 rfl ?_
  refine w_getI dX10_isFigure_2 flX10_207 rfl ?_
  refine w_top (y := nI z) (h17) ?_
  refine w_icmp_ge (tgt := 34) dX10_isFigure_5 (by decide) (fun c5 => ?_) (fun c5 => ?_)
  · have hkz : ¬ k < z := by have := (nI_leI (by omega) (by omega)).mp c5; omega
    refine w_iconst dX10_isFigure_34 ic_0 ?_
    refine w_ireturn dX10_isFigure_35 rfl rfl ?_
    first | exact q_0 (fun q => hkz q.1) hq | exact q_0 (fun q => absurd q.2.1 (Int32.not_le.mpr c16)) hq | exact q_0 (fun q => absurd q.2.2 (Int32.not_le.mpr c27)) hq | exact q_1 ⟨hkz, Int32.not_lt.mp c16, Int32.not_lt.mp c27⟩ hq
  · have hkz : k < z := Nat.lt_of_not_le (fun q => c5 (nI_le q (by omega)))
    refine w_aload_n dX10_isFigure_8 rfl ?_
    refine w_getR dX10_isFigure_9 flX10_44 rfl (hs.r (a := 117) (j := 16) (b := 129) 127 rfl) ?_
    refine w_iload_n dX10_isFigure_12 rfl ?_
    refine w_iald dX10_isFigure_13 rfl (hs.n (a := 129) (z := 96) 83 rfl) (by omega) ?_
    refine w_top (y := T k) (hT k hkz) ?_
    refine w_bipush dX10_isFigure_14 bp_48 ?_
    refine w_icmp_lt (tgt := 34) dX10_isFigure_16 (by decide) (fun c16 => ?_) (fun c16 => ?_)
    · refine w_iconst dX10_isFigure_34 ic_0 ?_
      refine w_ireturn dX10_isFigure_35 rfl rfl ?_
      first | exact q_0 (fun q => hkz q.1) hq | exact q_0 (fun q => absurd q.2.1 (Int32.not_le.mpr c16)) hq | exact q_0 (fun q => absurd q.2.2 (Int32.not_le.mpr c27)) hq | exact q_1 ⟨hkz, Int32.not_lt.mp c16, Int32.not_lt.mp c27⟩ hq
    · refine w_aload_n dX10_isFigure_19 rfl ?_
      refine w_getR dX10_isFigure_20 flX10_44 rfl (hs.r (a := 117) (j := 16) (b := 129) 127 rfl) ?_
      refine w_iload_n dX10_isFigure_23 rfl ?_
      refine w_iald dX10_isFigure_24 rfl (hs.n (a := 129) (z := 96) 83 rfl) (by omega) ?_
      refine w_top (y := T k) (hT k hkz) ?_
      refine w_bipush dX10_isFigure_25 bp_57 ?_
      refine w_icmp_gt (tgt := 34) dX10_isFigure_27 (by decide) (fun c27 => ?_) (fun c27 => ?_)
      · refine w_iconst dX10_isFigure_34 ic_0 ?_
        refine w_ireturn dX10_isFigure_35 rfl rfl ?_
        first | exact q_0 (fun q => hkz q.1) hq | exact q_0 (fun q => absurd q.2.1 (Int32.not_le.mpr c16)) hq | exact q_0 (fun q => absurd q.2.2 (Int32.not_le.mpr c27)) hq | exact q_1 ⟨hkz, Int32.not_lt.mp c16, Int32.not_lt.mp c27⟩ hq
      · refine w_iconst dX10_isFigure_30 ic_1 ?_
        refine w_goto (tgt := 35) dX10_isFigure_31 (by decide) ?_
        refine w_ireturn dX10_isFigure_35 rfl rfl ?_
        first | exact q_0 (fun q => hkz q.1) hq | exact q_0 (fun q => absurd q.2.1 (Int32.not_le.mpr c16)) hq | exact q_0 (fun q => absurd q.2.2 (Int32.not_le.mpr c27)) hq | exact q_1 ⟨hkz, Int32.not_lt.mp c16, Int32.not_lt.mp c27⟩ hq

set_option maxRecDepth 20000 in
theorem lX10_goL (hs : SK R N) {T : VV} {z p s : Nat} {w : Prop} (hz : z ≤ 96) (hR : Rn isSp T z p s) (hT : ∀ i, i < z → I 129 i = T i) (h17 : I 117 17 = nI z) (h18 : I 117 18 = nI s) (h19 : I 117 19 = nI s) (hsz : s < z) (hl : isL (T s)) (hq : ∀ I' : HI, FRG I I' → TM I' T z (tkA T z p w) → Q vU I' L R N n) : WP sc 1 0 0 mX10_go 93 [vR 10 117, vI (bI (w ∧ s = p))] [] I L R N n Q := by
  have lp : ∀ (k e : Nat) (I1 : HI), e + k = z → s ≤ e → (∀ q, q ≠ 117 → I1 q = I q) → (∀ j, j ≠ 18 → I1 117 j = I 117 j) → I1 117 18 = nI e → (∀ i, s ≤ i → i < e → isL (T i)) → WP sc 1 0 0 mX10_go 93 [vR 10 117, vI (bI (w ∧ s = p))] [] I1 L R N n Q := by
    intro k
    induction k with
    | zero =>
      intro e I1 hk hse hA1 hB1 g18 hrun
      refine w_aload_n dX10_go_93 rfl ?_
      refine w_aload_n dX10_go_94 rfl ?_
      refine w_getI dX10_go_95 flX10_211 rfl ?_
      refine w_top (y := nI e) (g18) ?_
      refine c_V (t := 10) (as := [_]) (d' := 0) dX10_go_98 mlX10_223 moX10_isLetter mvX10_isLetter ⟨rfl, rfl⟩ rfl rfl rfl rfl rfl (by decide) (sX10_isLetter (T := T) hs hz (by omega) ((hB1 17 (by decide)).trans h17) (fun i hi => by rw [hA1 129 (by decide)]; exact hT i hi) ?_)
      refine w_ifB_eq (tgt := 117) dX10_go_101 (by decide) (fun c101 => ?_) (fun c101 => ?_)
      · have he : Rn isL T z s e := ⟨hse, by omega, hrun, by
          rcases Nat.lt_or_ge e z with q | q
          · exact Or.inr (fun x => c101 ⟨q, x⟩)
          · exact Or.inl (by omega)⟩
        have hpos := he.pos hsz hl
        have hto := he.2.1
        refine w_aload_n dX10_go_117 rfl ?_
        refine w_iload_n dX10_go_118 rfl ?_
        refine w_ifB_eq (tgt := 126) dX10_go_119 (by decide) (fun c119 => ?_) (fun c119 => ?_)
        · refine w_iconst dX10_go_126 ic_1 ?_
          refine w_putI dX10_go_127 flX10_220 rfl rfl rfl rfl ?_
          refine w_st (fun I2 hA2 hB2 hC2 => ?_)
          refine w_aload_n dX10_go_130 rfl ?_
          refine w_aload_n dX10_go_131 rfl ?_
          refine w_getR dX10_go_132 flX10_44 rfl (hs.r (a := 117) (j := 16) (b := 129) 127 rfl) ?_
          refine w_aload_n dX10_go_135 rfl ?_
          refine w_getI dX10_go_136 flX10_214 rfl ?_
          refine w_top (y := nI s) (by rw [hB2 19 (by decide), hB1 19 (by decide)]; exact h19) ?_
          refine w_iald dX10_go_139 rfl (hs.n (a := 129) (z := 96) 83 rfl) (by omega) ?_
          refine w_top (y := T s) (by rw [hA2 129 (by decide), hA1 129 (by decide)]; exact hT s hsz) ?_
          refine w_putI dX10_go_140 flX10_226 rfl rfl rfl rfl ?_
          refine w_st (fun I3 hA3 hB3 hC3 => ?_)
          refine w_aload_n dX10_go_143 rfl ?_
          refine w_aload_n dX10_go_144 rfl ?_
          refine w_getI dX10_go_145 flX10_211 rfl ?_
          refine w_top (y := nI e) (by rw [hB3 18 (by decide), hB2 18 (by decide)]; exact g18) ?_
          refine w_putI dX10_go_148 flX10_217 rfl rfl rfl rfl ?_
          refine w_st (fun I4 hA4 hB4 hC4 => ?_)
          refine w_goto (tgt := 303) dX10_go_151 (by decide) ?_
          refine w_return dX10_go_303 rfl ?_
          refine hq I4 (((FRG.st hA1 hB1 (by decide)).trans (FRG.st hA2 hB2 (by decide))).trans ((FRG.st hA3 hB3 (by decide)).trans (FRG.st hA4 hB4 (by decide)))) ?_
          rw [tk_let hR hsz hl he, cif_f c119]
          refine ⟨?_, ?_, ?_, ?_, fun _ => ?_, fun q => absurd q (by simp), fun _ => hC4, fun q => absurd q (by simp), fun i hi => ?_⟩
          · rw [hB4 17 (by decide), hB3 17 (by decide), hB2 17 (by decide), hB1 17 (by decide)]; exact h17
          · rw [hB4 18 (by decide), hB3 18 (by decide), hB2 18 (by decide)]; exact g18
          · rw [hB4 19 (by decide), hB3 19 (by decide), hB2 19 (by decide), hB1 19 (by decide)]; exact h19
          · rw [hB4 20 (by decide), hB3 20 (by decide)]; exact hC2
          · rw [hB4 21 (by decide)]; exact hC3
          · rw [hA4 129 (by decide), hA3 129 (by decide), hA2 129 (by decide), hA1 129 (by decide)]; exact hT i hi
        · refine w_iconst dX10_go_122 ic_4 ?_
          refine w_goto (tgt := 127) dX10_go_123 (by decide) ?_
          refine w_putI dX10_go_127 flX10_220 rfl rfl rfl rfl ?_
          refine w_st (fun I2 hA2 hB2 hC2 => ?_)
          refine w_aload_n dX10_go_130 rfl ?_
          refine w_aload_n dX10_go_131 rfl ?_
          refine w_getR dX10_go_132 flX10_44 rfl (hs.r (a := 117) (j := 16) (b := 129) 127 rfl) ?_
          refine w_aload_n dX10_go_135 rfl ?_
          refine w_getI dX10_go_136 flX10_214 rfl ?_
          refine w_top (y := nI s) (by rw [hB2 19 (by decide), hB1 19 (by decide)]; exact h19) ?_
          refine w_iald dX10_go_139 rfl (hs.n (a := 129) (z := 96) 83 rfl) (by omega) ?_
          refine w_top (y := T s) (by rw [hA2 129 (by decide), hA1 129 (by decide)]; exact hT s hsz) ?_
          refine w_putI dX10_go_140 flX10_226 rfl rfl rfl rfl ?_
          refine w_st (fun I3 hA3 hB3 hC3 => ?_)
          refine w_aload_n dX10_go_143 rfl ?_
          refine w_aload_n dX10_go_144 rfl ?_
          refine w_getI dX10_go_145 flX10_211 rfl ?_
          refine w_top (y := nI e) (by rw [hB3 18 (by decide), hB2 18 (by decide)]; exact g18) ?_
          refine w_putI dX10_go_148 flX10_217 rfl rfl rfl rfl ?_
          refine w_st (fun I4 hA4 hB4 hC4 => ?_)
          refine w_goto (tgt := 303) dX10_go_151 (by decide) ?_
          refine w_return dX10_go_303 rfl ?_
          refine hq I4 (((FRG.st hA1 hB1 (by decide)).trans (FRG.st hA2 hB2 (by decide))).trans ((FRG.st hA3 hB3 (by decide)).trans (FRG.st hA4 hB4 (by decide)))) ?_
          rw [tk_let hR hsz hl he, cif_t c119]
          refine ⟨?_, ?_, ?_, ?_, fun _ => ?_, fun q => absurd q (by simp), fun _ => hC4, fun q => absurd q (by simp), fun i hi => ?_⟩
          · rw [hB4 17 (by decide), hB3 17 (by decide), hB2 17 (by decide), hB1 17 (by decide)]; exact h17
          · rw [hB4 18 (by decide), hB3 18 (by decide), hB2 18 (by decide)]; exact g18
          · rw [hB4 19 (by decide), hB3 19 (by decide), hB2 19 (by decide), hB1 19 (by decide)]; exact h19
          · rw [hB4 20 (by decide), hB3 20 (by decide)]; exact hC2
          · rw [hB4 21 (by decide)]; exact hC3
          · rw [hA4 129 (by decide), hA3 129 (by decide), hA2 129 (by decide), hA1 129 (by decide)]; exact hT i hi
      · exact absurd c101.1 (by omega)
    | succ k ih =>
      intro e I1 hk hse hA1 hB1 g18 hrun
      refine w_aload_n dX10_go_93 rfl ?_
      refine w_aload_n dX10_go_94 rfl ?_
      refine w_getI dX10_go_95 flX10_211 rfl ?_
      refine w_top (y := nI e) (g18) ?_
      refine c_V (t := 10) (as := [_]) (d' := 0) dX10_go_98 mlX10_223 moX10_isLetter mvX10_isLetter ⟨rfl, rfl⟩ rfl rfl rfl rfl rfl (by decide) (sX10_isLetter (T := T) hs hz (by omega) ((hB1 17 (by decide)).trans h17) (fun i hi => by rw [hA1 129 (by decide)]; exact hT i hi) ?_)
      refine w_ifB_eq (tgt := 117) dX10_go_101 (by decide) (fun c101 => ?_) (fun c101 => ?_)
      · have he : Rn isL T z s e := ⟨hse, by omega, hrun, by
          rcases Nat.lt_or_ge e z with q | q
          · exact Or.inr (fun x => c101 ⟨q, x⟩)
          · exact Or.inl (by omega)⟩
        have hpos := he.pos hsz hl
        have hto := he.2.1
        refine w_aload_n dX10_go_117 rfl ?_
        refine w_iload_n dX10_go_118 rfl ?_
        refine w_ifB_eq (tgt := 126) dX10_go_119 (by decide) (fun c119 => ?_) (fun c119 => ?_)
        · refine w_iconst dX10_go_126 ic_1 ?_
          refine w_putI dX10_go_127 flX10_220 rfl rfl rfl rfl ?_
          refine w_st (fun I2 hA2 hB2 hC2 => ?_)
          refine w_aload_n dX10_go_130 rfl ?_
          refine w_aload_n dX10_go_131 rfl ?_
          refine w_getR dX10_go_132 flX10_44 rfl (hs.r (a := 117) (j := 16) (b := 129) 127 rfl) ?_
          refine w_aload_n dX10_go_135 rfl ?_
          refine w_getI dX10_go_136 flX10_214 rfl ?_
          refine w_top (y := nI s) (by rw [hB2 19 (by decide), hB1 19 (by decide)]; exact h19) ?_
          refine w_iald dX10_go_139 rfl (hs.n (a := 129) (z := 96) 83 rfl) (by omega) ?_
          refine w_top (y := T s) (by rw [hA2 129 (by decide), hA1 129 (by decide)]; exact hT s hsz) ?_
          refine w_putI dX10_go_140 flX10_226 rfl rfl rfl rfl ?_
          refine w_st (fun I3 hA3 hB3 hC3 => ?_)
          refine w_aload_n dX10_go_143 rfl ?_
          refine w_aload_n dX10_go_144 rfl ?_
          refine w_getI dX10_go_145 flX10_211 rfl ?_
          refine w_top (y := nI e) (by rw [hB3 18 (by decide), hB2 18 (by decide)]; exact g18) ?_
          refine w_putI dX10_go_148 flX10_217 rfl rfl rfl rfl ?_
          refine w_st (fun I4 hA4 hB4 hC4 => ?_)
          refine w_goto (tgt := 303) dX10_go_151 (by decide) ?_
          refine w_return dX10_go_303 rfl ?_
          refine hq I4 (((FRG.st hA1 hB1 (by decide)).trans (FRG.st hA2 hB2 (by decide))).trans ((FRG.st hA3 hB3 (by decide)).trans (FRG.st hA4 hB4 (by decide)))) ?_
          rw [tk_let hR hsz hl he, cif_f c119]
          refine ⟨?_, ?_, ?_, ?_, fun _ => ?_, fun q => absurd q (by simp), fun _ => hC4, fun q => absurd q (by simp), fun i hi => ?_⟩
          · rw [hB4 17 (by decide), hB3 17 (by decide), hB2 17 (by decide), hB1 17 (by decide)]; exact h17
          · rw [hB4 18 (by decide), hB3 18 (by decide), hB2 18 (by decide)]; exact g18
          · rw [hB4 19 (by decide), hB3 19 (by decide), hB2 19 (by decide), hB1 19 (by decide)]; exact h19
          · rw [hB4 20 (by decide), hB3 20 (by decide)]; exact hC2
          · rw [hB4 21 (by decide)]; exact hC3
          · rw [hA4 129 (by decide), hA3 129 (by decide), hA2 129 (by decide), hA1 129 (by decide)]; exact hT i hi
        · refine w_iconst dX10_go_122 ic_4 ?_
          refine w_goto (tgt := 127) dX10_go_123 (by decide) ?_
          refine w_putI dX10_go_127 flX10_220 rfl rfl rfl rfl ?_
          refine w_st (fun I2 hA2 hB2 hC2 => ?_)
          refine w_aload_n dX10_go_130 rfl ?_
          refine w_aload_n dX10_go_131 rfl ?_
          refine w_getR dX10_go_132 flX10_44 rfl (hs.r (a := 117) (j := 16) (b := 129) 127 rfl) ?_
          refine w_aload_n dX10_go_135 rfl ?_
          refine w_getI dX10_go_136 flX10_214 rfl ?_
          refine w_top (y := nI s) (by rw [hB2 19 (by decide), hB1 19 (by decide)]; exact h19) ?_
          refine w_iald dX10_go_139 rfl (hs.n (a := 129) (z := 96) 83 rfl) (by omega) ?_
          refine w_top (y := T s) (by rw [hA2 129 (by decide), hA1 129 (by decide)]; exact hT s hsz) ?_
          refine w_putI dX10_go_140 flX10_226 rfl rfl rfl rfl ?_
          refine w_st (fun I3 hA3 hB3 hC3 => ?_)
          refine w_aload_n dX10_go_143 rfl ?_
          refine w_aload_n dX10_go_144 rfl ?_
          refine w_getI dX10_go_145 flX10_211 rfl ?_
          refine w_top (y := nI e) (by rw [hB3 18 (by decide), hB2 18 (by decide)]; exact g18) ?_
          refine w_putI dX10_go_148 flX10_217 rfl rfl rfl rfl ?_
          refine w_st (fun I4 hA4 hB4 hC4 => ?_)
          refine w_goto (tgt := 303) dX10_go_151 (by decide) ?_
          refine w_return dX10_go_303 rfl ?_
          refine hq I4 (((FRG.st hA1 hB1 (by decide)).trans (FRG.st hA2 hB2 (by decide))).trans ((FRG.st hA3 hB3 (by decide)).trans (FRG.st hA4 hB4 (by decide)))) ?_
          rw [tk_let hR hsz hl he, cif_t c119]
          refine ⟨?_, ?_, ?_, ?_, fun _ => ?_, fun q => absurd q (by simp), fun _ => hC4, fun q => absurd q (by simp), fun i hi => ?_⟩
          · rw [hB4 17 (by decide), hB3 17 (by decide), hB2 17 (by decide), hB1 17 (by decide)]; exact h17
          · rw [hB4 18 (by decide), hB3 18 (by decide), hB2 18 (by decide)]; exact g18
          · rw [hB4 19 (by decide), hB3 19 (by decide), hB2 19 (by decide), hB1 19 (by decide)]; exact h19
          · rw [hB4 20 (by decide), hB3 20 (by decide)]; exact hC2
          · rw [hB4 21 (by decide)]; exact hC3
          · rw [hA4 129 (by decide), hA3 129 (by decide), hA2 129 (by decide), hA1 129 (by decide)]; exact hT i hi
      · refine w_aload_n dX10_go_104 rfl ?_
        refine w_dup dX10_go_105 rfl ?_
        refine w_getI dX10_go_106 flX10_211 rfl ?_
        refine w_top (y := nI e) (g18) ?_
        refine w_iconst dX10_go_109 ic_1 ?_
        refine w_iadd dX10_go_110 ?_
        refine w_top (y := nI (e + 1)) (nI_1 e) ?_
        refine w_putI dX10_go_111 flX10_211 rfl rfl rfl rfl ?_
        refine w_st (fun I9 hA9 hB9 hC9 => ?_)
        refine w_goto (tgt := 93) dX10_go_114 (by decide) ?_
        refine ih (e + 1) I9 (by omega) (by omega) (fun q hq => (hA9 q hq).trans (hA1 q hq)) (fun j hj => (hB9 j hj).trans (hB1 j hj)) hC9 (fun i a1 a2 => ?_)
        by_cases q : i = e
        · subst q; exact c101.2
        · exact hrun i a1 (by omega)
  exact lp (z - s) s I (by omega) (Nat.le_refl s) (fun _ _ => rfl) (fun _ _ => rfl) h18 (fun i a b => by omega)

set_option maxRecDepth 20000 in
theorem lX10_goD (hs : SK R N) {T : VV} {z p s : Nat} {w : Prop} (hz : z ≤ 96) (hR : Rn isSp T z p s) (hT : ∀ i, i < z → I 129 i = T i) (h17 : I 117 17 = nI z) (h18 : I 117 18 = nI s) (h19 : I 117 19 = nI s) (h21 : I 117 21 = 0) (hsz : s < z) (hl : ¬ isL (T s)) (hd : isD (T s)) (hq : ∀ I' : HI, FRG I I' → TM I' T z (tkA T z p w) → Q vU I' L R N n) : WP sc 1 0 0 mX10_go 170 [vR 10 117, vI (bI (w ∧ s = p))] [] I L R N n Q := by
  have lp : ∀ (k e : Nat) (I1 : HI), e + k = z → s ≤ e → (∀ q, q ≠ 117 → I1 q = I q) → (∀ j, j ≠ 18 → j ≠ 21 → I1 117 j = I 117 j) → I1 117 18 = nI e → (e - s ≤ 4 → I1 117 21 = numF T s (e - s)) → (∀ i, s ≤ i → i < e → isD (T i)) → WP sc 1 0 0 mX10_go 170 [vR 10 117, vI (bI (w ∧ s = p))] [] I1 L R N n Q := by
    intro k
    induction k with
    | zero =>
      intro e I1 hk hse hA1 hB1 g18 g21 hrun
      refine w_aload_n dX10_go_170 rfl ?_
      refine w_aload_n dX10_go_171 rfl ?_
      refine w_getI dX10_go_172 flX10_211 rfl ?_
      refine w_top (y := nI e) (g18) ?_
      refine c_V (t := 10) (as := [_]) (d' := 0) dX10_go_175 mlX10_229 moX10_isFigure mvX10_isFigure ⟨rfl, rfl⟩ rfl rfl rfl rfl rfl (by decide) (sX10_isFigure (T := T) hs hz (by omega) ((hB1 17 (by decide) (by decide)).trans h17) (fun i hi => by rw [hA1 129 (by decide)]; exact hT i hi) ?_)
      refine w_ifB_eq (tgt := 238) dX10_go_178 (by decide) (fun c178 => ?_) (fun c178 => ?_)
      · have he : Rn isD T z s e := ⟨hse, by omega, hrun, by
          rcases Nat.lt_or_ge e z with q | q
          · exact Or.inr (fun x => c178 ⟨q, x⟩)
          · exact Or.inl (by omega)⟩
        have hpos := he.pos hsz hd
        have hto := he.2.1
        refine w_aload_n dX10_go_238 rfl ?_
        refine w_iload_n dX10_go_239 rfl ?_
        refine w_ifB_ne (tgt := 256) dX10_go_240 (by decide) (fun c240 => ?_) (fun c240 => ?_)
        · refine w_iconst dX10_go_256 ic_4 ?_
          refine w_goto (tgt := 261) dX10_go_257 (by decide) ?_
          refine w_putI dX10_go_261 flX10_220 rfl rfl rfl rfl ?_
          refine w_st (fun I2 hA2 hB2 hC2 => ?_)
          refine w_aload_n dX10_go_264 rfl ?_
          refine w_aload_n dX10_go_265 rfl ?_
          refine w_getI dX10_go_266 flX10_211 rfl ?_
          refine w_top (y := nI e) (by rw [hB2 18 (by decide)]; exact g18) ?_
          refine w_putI dX10_go_269 flX10_217 rfl rfl rfl rfl ?_
          refine w_st (fun I4 hA4 hB4 hC4 => ?_)
          refine w_goto (tgt := 303) dX10_go_272 (by decide) ?_
          refine w_return dX10_go_303 rfl ?_
          refine hq I4 (FRG.trans (I' := I1) ⟨hA1, fun j hj => hB1 j (by omega) (by omega)⟩ ((FRG.st hA2 hB2 (by decide)).trans (FRG.st hA4 hB4 (by decide)))) ?_
          rw [tk_dig hR hsz hl hd he, cif_t (Or.inl c240)]
          refine ⟨?_, ?_, ?_, ?_, fun q => absurd q (by simp), fun q => absurd q (by simp), fun _ => hC4, fun q => absurd q (by simp), fun i hi => ?_⟩
          · rw [hB4 17 (by decide), hB2 17 (by decide), hB1 17 (by decide) (by decide)]; exact h17
          · rw [hB4 18 (by decide), hB2 18 (by decide)]; exact g18
          · rw [hB4 19 (by decide), hB2 19 (by decide), hB1 19 (by decide) (by decide)]; exact h19
          · rw [hB4 20 (by decide)]; exact hC2
          · rw [hA4 129 (by decide), hA2 129 (by decide), hA1 129 (by decide)]; exact hT i hi
        · refine w_aload_n dX10_go_243 rfl ?_
          refine w_getI dX10_go_244 flX10_211 rfl ?_
          refine w_top (y := nI e) (g18) ?_
          refine w_aload_n dX10_go_247 rfl ?_
          refine w_getI dX10_go_248 flX10_214 rfl ?_
          refine w_top (y := nI s) ((hB1 19 (by decide) (by decide)).trans h19) ?_
          refine w_isub dX10_go_251 ?_
          refine w_top (y := nI (e - s)) (nI_sub (by omega)) ?_
          refine w_iconst dX10_go_252 ic_4 ?_
          refine w_icmp_le (tgt := 260) dX10_go_253 (by decide) (fun c253 => ?_) (fun c253 => ?_)
          · have hle : e - s ≤ 4 := (nI_leI (b := 4) (by omega) (by decide)).mp c253
            refine w_iconst dX10_go_260 ic_2 ?_
            refine w_putI dX10_go_261 flX10_220 rfl rfl rfl rfl ?_
            refine w_st (fun I2 hA2 hB2 hC2 => ?_)
            refine w_aload_n dX10_go_264 rfl ?_
            refine w_aload_n dX10_go_265 rfl ?_
            refine w_getI dX10_go_266 flX10_211 rfl ?_
            refine w_top (y := nI e) (by rw [hB2 18 (by decide)]; exact g18) ?_
            refine w_putI dX10_go_269 flX10_217 rfl rfl rfl rfl ?_
            refine w_st (fun I4 hA4 hB4 hC4 => ?_)
            refine w_goto (tgt := 303) dX10_go_272 (by decide) ?_
            refine w_return dX10_go_303 rfl ?_
            refine hq I4 (FRG.trans (I' := I1) ⟨hA1, fun j hj => hB1 j (by omega) (by omega)⟩ ((FRG.st hA2 hB2 (by decide)).trans (FRG.st hA4 hB4 (by decide)))) ?_
            rw [tk_dig hR hsz hl hd he, cif_f (fun q => q.elim c240 (fun q => by omega))]
            refine ⟨?_, ?_, ?_, ?_, fun q => absurd q (by simp), fun _ => ?_, fun _ => hC4, fun q => absurd q (by simp), fun i hi => ?_⟩
            · rw [hB4 17 (by decide), hB2 17 (by decide), hB1 17 (by decide) (by decide)]; exact h17
            · rw [hB4 18 (by decide), hB2 18 (by decide)]; exact g18
            · rw [hB4 19 (by decide), hB2 19 (by decide), hB1 19 (by decide) (by decide)]; exact h19
            · rw [hB4 20 (by decide)]; exact hC2
            · rw [hB4 21 (by decide), hB2 21 (by decide)]; exact g21 hle
            · rw [hA4 129 (by decide), hA2 129 (by decide), hA1 129 (by decide)]; exact hT i hi
          · have hgt : 4 < e - s := Nat.lt_of_not_le (fun q => c253 (nI_le (b := 4) q (by decide)))
            refine w_iconst dX10_go_256 ic_4 ?_
            refine w_goto (tgt := 261) dX10_go_257 (by decide) ?_
            refine w_putI dX10_go_261 flX10_220 rfl rfl rfl rfl ?_
            refine w_st (fun I2 hA2 hB2 hC2 => ?_)
            refine w_aload_n dX10_go_264 rfl ?_
            refine w_aload_n dX10_go_265 rfl ?_
            refine w_getI dX10_go_266 flX10_211 rfl ?_
            refine w_top (y := nI e) (by rw [hB2 18 (by decide)]; exact g18) ?_
            refine w_putI dX10_go_269 flX10_217 rfl rfl rfl rfl ?_
            refine w_st (fun I4 hA4 hB4 hC4 => ?_)
            refine w_goto (tgt := 303) dX10_go_272 (by decide) ?_
            refine w_return dX10_go_303 rfl ?_
            refine hq I4 (FRG.trans (I' := I1) ⟨hA1, fun j hj => hB1 j (by omega) (by omega)⟩ ((FRG.st hA2 hB2 (by decide)).trans (FRG.st hA4 hB4 (by decide)))) ?_
            rw [tk_dig hR hsz hl hd he, cif_t (Or.inr hgt)]
            refine ⟨?_, ?_, ?_, ?_, fun q => absurd q (by simp), fun q => absurd q (by simp), fun _ => hC4, fun q => absurd q (by simp), fun i hi => ?_⟩
            · rw [hB4 17 (by decide), hB2 17 (by decide), hB1 17 (by decide) (by decide)]; exact h17
            · rw [hB4 18 (by decide), hB2 18 (by decide)]; exact g18
            · rw [hB4 19 (by decide), hB2 19 (by decide), hB1 19 (by decide) (by decide)]; exact h19
            · rw [hB4 20 (by decide)]; exact hC2
            · rw [hA4 129 (by decide), hA2 129 (by decide), hA1 129 (by decide)]; exact hT i hi
      · exact absurd c178.1 (by omega)
    | succ k ih =>
      intro e I1 hk hse hA1 hB1 g18 g21 hrun
      refine w_aload_n dX10_go_170 rfl ?_
      refine w_aload_n dX10_go_171 rfl ?_
      refine w_getI dX10_go_172 flX10_211 rfl ?_
      refine w_top (y := nI e) (g18) ?_
      refine c_V (t := 10) (as := [_]) (d' := 0) dX10_go_175 mlX10_229 moX10_isFigure mvX10_isFigure ⟨rfl, rfl⟩ rfl rfl rfl rfl rfl (by decide) (sX10_isFigure (T := T) hs hz (by omega) ((hB1 17 (by decide) (by decide)).trans h17) (fun i hi => by rw [hA1 129 (by decide)]; exact hT i hi) ?_)
      refine w_ifB_eq (tgt := 238) dX10_go_178 (by decide) (fun c178 => ?_) (fun c178 => ?_)
      · have he : Rn isD T z s e := ⟨hse, by omega, hrun, by
          rcases Nat.lt_or_ge e z with q | q
          · exact Or.inr (fun x => c178 ⟨q, x⟩)
          · exact Or.inl (by omega)⟩
        have hpos := he.pos hsz hd
        have hto := he.2.1
        refine w_aload_n dX10_go_238 rfl ?_
        refine w_iload_n dX10_go_239 rfl ?_
        refine w_ifB_ne (tgt := 256) dX10_go_240 (by decide) (fun c240 => ?_) (fun c240 => ?_)
        · refine w_iconst dX10_go_256 ic_4 ?_
          refine w_goto (tgt := 261) dX10_go_257 (by decide) ?_
          refine w_putI dX10_go_261 flX10_220 rfl rfl rfl rfl ?_
          refine w_st (fun I2 hA2 hB2 hC2 => ?_)
          refine w_aload_n dX10_go_264 rfl ?_
          refine w_aload_n dX10_go_265 rfl ?_
          refine w_getI dX10_go_266 flX10_211 rfl ?_
          refine w_top (y := nI e) (by rw [hB2 18 (by decide)]; exact g18) ?_
          refine w_putI dX10_go_269 flX10_217 rfl rfl rfl rfl ?_
          refine w_st (fun I4 hA4 hB4 hC4 => ?_)
          refine w_goto (tgt := 303) dX10_go_272 (by decide) ?_
          refine w_return dX10_go_303 rfl ?_
          refine hq I4 (FRG.trans (I' := I1) ⟨hA1, fun j hj => hB1 j (by omega) (by omega)⟩ ((FRG.st hA2 hB2 (by decide)).trans (FRG.st hA4 hB4 (by decide)))) ?_
          rw [tk_dig hR hsz hl hd he, cif_t (Or.inl c240)]
          refine ⟨?_, ?_, ?_, ?_, fun q => absurd q (by simp), fun q => absurd q (by simp), fun _ => hC4, fun q => absurd q (by simp), fun i hi => ?_⟩
          · rw [hB4 17 (by decide), hB2 17 (by decide), hB1 17 (by decide) (by decide)]; exact h17
          · rw [hB4 18 (by decide), hB2 18 (by decide)]; exact g18
          · rw [hB4 19 (by decide), hB2 19 (by decide), hB1 19 (by decide) (by decide)]; exact h19
          · rw [hB4 20 (by decide)]; exact hC2
          · rw [hA4 129 (by decide), hA2 129 (by decide), hA1 129 (by decide)]; exact hT i hi
        · refine w_aload_n dX10_go_243 rfl ?_
          refine w_getI dX10_go_244 flX10_211 rfl ?_
          refine w_top (y := nI e) (g18) ?_
          refine w_aload_n dX10_go_247 rfl ?_
          refine w_getI dX10_go_248 flX10_214 rfl ?_
          refine w_top (y := nI s) ((hB1 19 (by decide) (by decide)).trans h19) ?_
          refine w_isub dX10_go_251 ?_
          refine w_top (y := nI (e - s)) (nI_sub (by omega)) ?_
          refine w_iconst dX10_go_252 ic_4 ?_
          refine w_icmp_le (tgt := 260) dX10_go_253 (by decide) (fun c253 => ?_) (fun c253 => ?_)
          · have hle : e - s ≤ 4 := (nI_leI (b := 4) (by omega) (by decide)).mp c253
            refine w_iconst dX10_go_260 ic_2 ?_
            refine w_putI dX10_go_261 flX10_220 rfl rfl rfl rfl ?_
            refine w_st (fun I2 hA2 hB2 hC2 => ?_)
            refine w_aload_n dX10_go_264 rfl ?_
            refine w_aload_n dX10_go_265 rfl ?_
            refine w_getI dX10_go_266 flX10_211 rfl ?_
            refine w_top (y := nI e) (by rw [hB2 18 (by decide)]; exact g18) ?_
            refine w_putI dX10_go_269 flX10_217 rfl rfl rfl rfl ?_
            refine w_st (fun I4 hA4 hB4 hC4 => ?_)
            refine w_goto (tgt := 303) dX10_go_272 (by decide) ?_
            refine w_return dX10_go_303 rfl ?_
            refine hq I4 (FRG.trans (I' := I1) ⟨hA1, fun j hj => hB1 j (by omega) (by omega)⟩ ((FRG.st hA2 hB2 (by decide)).trans (FRG.st hA4 hB4 (by decide)))) ?_
            rw [tk_dig hR hsz hl hd he, cif_f (fun q => q.elim c240 (fun q => by omega))]
            refine ⟨?_, ?_, ?_, ?_, fun q => absurd q (by simp), fun _ => ?_, fun _ => hC4, fun q => absurd q (by simp), fun i hi => ?_⟩
            · rw [hB4 17 (by decide), hB2 17 (by decide), hB1 17 (by decide) (by decide)]; exact h17
            · rw [hB4 18 (by decide), hB2 18 (by decide)]; exact g18
            · rw [hB4 19 (by decide), hB2 19 (by decide), hB1 19 (by decide) (by decide)]; exact h19
            · rw [hB4 20 (by decide)]; exact hC2
            · rw [hB4 21 (by decide), hB2 21 (by decide)]; exact g21 hle
            · rw [hA4 129 (by decide), hA2 129 (by decide), hA1 129 (by decide)]; exact hT i hi
          · have hgt : 4 < e - s := Nat.lt_of_not_le (fun q => c253 (nI_le (b := 4) q (by decide)))
            refine w_iconst dX10_go_256 ic_4 ?_
            refine w_goto (tgt := 261) dX10_go_257 (by decide) ?_
            refine w_putI dX10_go_261 flX10_220 rfl rfl rfl rfl ?_
            refine w_st (fun I2 hA2 hB2 hC2 => ?_)
            refine w_aload_n dX10_go_264 rfl ?_
            refine w_aload_n dX10_go_265 rfl ?_
            refine w_getI dX10_go_266 flX10_211 rfl ?_
            refine w_top (y := nI e) (by rw [hB2 18 (by decide)]; exact g18) ?_
            refine w_putI dX10_go_269 flX10_217 rfl rfl rfl rfl ?_
            refine w_st (fun I4 hA4 hB4 hC4 => ?_)
            refine w_goto (tgt := 303) dX10_go_272 (by decide) ?_
            refine w_return dX10_go_303 rfl ?_
            refine hq I4 (FRG.trans (I' := I1) ⟨hA1, fun j hj => hB1 j (by omega) (by omega)⟩ ((FRG.st hA2 hB2 (by decide)).trans (FRG.st hA4 hB4 (by decide)))) ?_
            rw [tk_dig hR hsz hl hd he, cif_t (Or.inr hgt)]
            refine ⟨?_, ?_, ?_, ?_, fun q => absurd q (by simp), fun q => absurd q (by simp), fun _ => hC4, fun q => absurd q (by simp), fun i hi => ?_⟩
            · rw [hB4 17 (by decide), hB2 17 (by decide), hB1 17 (by decide) (by decide)]; exact h17
            · rw [hB4 18 (by decide), hB2 18 (by decide)]; exact g18
            · rw [hB4 19 (by decide), hB2 19 (by decide), hB1 19 (by decide) (by decide)]; exact h19
            · rw [hB4 20 (by decide)]; exact hC2
            · rw [hA4 129 (by decide), hA2 129 (by decide), hA1 129 (by decide)]; exact hT i hi
      · have hez := c178.1
        refine w_aload_n dX10_go_181 rfl ?_
        refine w_aload_n dX10_go_182 rfl ?_
        refine w_getI dX10_go_183 flX10_211 rfl ?_
        refine w_top (y := nI e) (g18) ?_
        refine w_aload_n dX10_go_186 rfl ?_
        refine w_getI dX10_go_187 flX10_214 rfl ?_
        refine w_top (y := nI s) ((hB1 19 (by decide) (by decide)).trans h19) ?_
        refine w_isub dX10_go_190 ?_
        refine w_top (y := nI (e - s)) (nI_sub (by omega)) ?_
        refine w_iconst dX10_go_191 ic_4 ?_
        refine w_icmp_ge (tgt := 218) dX10_go_192 (by decide) (fun c192 => ?_) (fun c192 => ?_)
        · have hge : 4 ≤ e - s := (nI_leI (a := 4) (by decide) (by omega)).mp c192
          refine w_aload_n dX10_go_218 rfl ?_
          refine w_getI dX10_go_219 flX10_226 rfl ?_
          refine w_putI dX10_go_222 flX10_226 rfl rfl rfl rfl ?_
          refine w_st (fun I8 hA8 hB8 hC8 => ?_)
          refine w_aload_n dX10_go_225 rfl ?_
          refine w_dup dX10_go_226 rfl ?_
          refine w_getI dX10_go_227 flX10_211 rfl ?_
          refine w_top (y := nI e) (by rw [hB8 18 (by decide)]; exact g18) ?_
          refine w_iconst dX10_go_230 ic_1 ?_
          refine w_iadd dX10_go_231 ?_
          refine w_top (y := nI (e + 1)) (nI_1 e) ?_
          refine w_putI dX10_go_232 flX10_211 rfl rfl rfl rfl ?_
          refine w_st (fun I9 hA9 hB9 hC9 => ?_)
          refine w_goto (tgt := 170) dX10_go_235 (by decide) ?_
          refine ih (e + 1) I9 (by omega) (by omega) (fun q hq => (hA9 q hq).trans ((hA8 q hq).trans (hA1 q hq))) (fun j h1 h2 => (hB9 j h1).trans ((hB8 j h2).trans (hB1 j h1 h2))) hC9 (fun hle => ?_) (fun i a1 a2 => ?_)
          · exact absurd hle (by omega)
          · by_cases q : i = e
            · subst q; exact c178.2
            · exact hrun i a1 (by omega)
        · have hlt : e - s < 4 := Nat.lt_of_not_le (fun q => c192 (nI_le (a := 4) q (by omega)))
          refine w_bipush dX10_go_195 bp_10 ?_
          refine w_aload_n dX10_go_197 rfl ?_
          refine w_getI dX10_go_198 flX10_226 rfl ?_
          refine w_top (y := numF T s (e - s)) (g21 (by omega)) ?_
          refine w_imul dX10_go_201 ?_
          refine w_aload_n dX10_go_202 rfl ?_
          refine w_getR dX10_go_203 flX10_44 rfl (hs.r (a := 117) (j := 16) (b := 129) 127 rfl) ?_
          refine w_aload_n dX10_go_206 rfl ?_
          refine w_getI dX10_go_207 flX10_211 rfl ?_
          refine w_top (y := nI e) (g18) ?_
          refine w_iald dX10_go_210 rfl (hs.n (a := 129) (z := 96) 83 rfl) (by omega) ?_
          refine w_top (y := T e) (by rw [hA1 129 (by decide)]; exact hT e hez) ?_
          refine w_iadd dX10_go_211 ?_
          refine w_bipush dX10_go_212 bp_48 ?_
          refine w_isub dX10_go_214 ?_
          refine w_top (y := numF T s (e + 1 - s)) (by rw [show e + 1 - s = (e - s) + 1 by omega]; show _ = numF T s (e - s) * 10 + T (s + (e - s)) - 48; rw [show s + (e - s) = e by omega, Int32.mul_comm]) ?_
          refine w_goto (tgt := 222) dX10_go_215 (by decide) ?_
          refine w_putI dX10_go_222 flX10_226 rfl rfl rfl rfl ?_
          refine w_st (fun I8 hA8 hB8 hC8 => ?_)
          refine w_aload_n dX10_go_225 rfl ?_
          refine w_dup dX10_go_226 rfl ?_
          refine w_getI dX10_go_227 flX10_211 rfl ?_
          refine w_top (y := nI e) (by rw [hB8 18 (by decide)]; exact g18) ?_
          refine w_iconst dX10_go_230 ic_1 ?_
          refine w_iadd dX10_go_231 ?_
          refine w_top (y := nI (e + 1)) (nI_1 e) ?_
          refine w_putI dX10_go_232 flX10_211 rfl rfl rfl rfl ?_
          refine w_st (fun I9 hA9 hB9 hC9 => ?_)
          refine w_goto (tgt := 170) dX10_go_235 (by decide) ?_
          refine ih (e + 1) I9 (by omega) (by omega) (fun q hq => (hA9 q hq).trans ((hA8 q hq).trans (hA1 q hq))) (fun j h1 h2 => (hB9 j h1).trans ((hB8 j h2).trans (hB1 j h1 h2))) hC9 (fun hle => ?_) (fun i a1 a2 => ?_)
          · rw [hB9 21 (by decide)]; exact hC8
          · by_cases q : i = e
            · subst q; exact c178.2
            · exact hrun i a1 (by omega)
  exact lp (z - s) s I (by omega) (Nat.le_refl s) (fun _ _ => rfl) (fun _ _ _ => rfl) h18 (fun _ => by rw [Nat.sub_self]; exact h21) (fun i a b => by omega)

set_option maxRecDepth 20000 in
theorem lX10_goB (hs : SK R N) {T : VV} {z p s : Nat} {w : Prop} (hz : z ≤ 96) (hR : Rn isSp T z p s) (hT : ∀ i, i < z → I 129 i = T i) (h17 : I 117 17 = nI z) (h18 : I 117 18 = nI s) (hw : w → I 117 22 = nI p) (hw2 : ¬ w → ∀ j, p ≤ j → j ≤ 96 → I 117 22 ≠ nI j) (h19 : I 117 19 = nI s) (hq : ∀ I' : HI, FRG I I' → TM I' T z (tkA T z p w) → Q vU I' L R N n) : WP sc 1 0 0 mX10_go 62 [vR 10 117, vU] [vI (bI (w ∧ s = p))] I L R N n Q := by
  have hps := hR.1
  have hsz0 := hR.2.1
  refine w_istore_n (al' := [_, _]) dX10_go_62 rfl rfl rfl ?_
  refine w_aload_n dX10_go_63 rfl ?_
  refine w_getI dX10_go_64 flX10_214 rfl ?_
  refine w_top (y := nI s) (h19) ?_
  refine w_aload_n dX10_go_67 rfl ?_
  refine w_getI dX10_go_68 flX10_207 rfl ?_
  refine w_top (y := nI z) (h17) ?_
  refine w_icmp_ne (tgt := 82) dX10_go_71 (by decide) (fun c71 => ?_) (fun c71 => ?_)
  · have hsz : s < z := by rcases Nat.lt_or_ge s z with q | q; exact q; exact absurd (show nI s = nI z by rw [show s = z by omega]) c71
    refine w_aload_n dX10_go_82 rfl ?_
    refine w_aload_n dX10_go_83 rfl ?_
    refine w_getI dX10_go_84 flX10_214 rfl ?_
    refine w_top (y := nI s) (h19) ?_
    refine c_V (t := 10) (as := [_]) (d' := 0) dX10_go_87 mlX10_223 moX10_isLetter mvX10_isLetter ⟨rfl, rfl⟩ rfl rfl rfl rfl rfl (by decide) (sX10_isLetter (T := T) hs hz (by omega) h17 hT ?_)
    refine w_ifB_eq (tgt := 154) dX10_go_90 (by decide) (fun c90 => ?_) (fun c90 => ?_)
    · have hl : ¬ isL (T s) := fun q => c90 ⟨hsz, q⟩
      refine w_aload_n dX10_go_154 rfl ?_
      refine w_aload_n dX10_go_155 rfl ?_
      refine w_getI dX10_go_156 flX10_214 rfl ?_
      refine w_top (y := nI s) (h19) ?_
      refine c_V (t := 10) (as := [_]) (d' := 0) dX10_go_159 mlX10_229 moX10_isFigure mvX10_isFigure ⟨rfl, rfl⟩ rfl rfl rfl rfl rfl (by decide) (sX10_isFigure (T := T) hs hz (by omega) h17 hT ?_)
      refine w_ifB_eq (tgt := 275) dX10_go_162 (by decide) (fun c162 => ?_) (fun c162 => ?_)
      · have hd : ¬ isD (T s) := fun q => c162 ⟨hsz, q⟩
        refine w_aload_n dX10_go_275 rfl ?_
        refine w_iconst dX10_go_276 ic_3 ?_
        refine w_putI dX10_go_277 flX10_220 rfl rfl rfl rfl ?_
        refine w_st (fun I2 hA2 hB2 hC2 => ?_)
        refine w_aload_n dX10_go_280 rfl ?_
        refine w_aload_n dX10_go_281 rfl ?_
        refine w_getR dX10_go_282 flX10_44 rfl (hs.r (a := 117) (j := 16) (b := 129) 127 rfl) ?_
        refine w_aload_n dX10_go_285 rfl ?_
        refine w_getI dX10_go_286 flX10_214 rfl ?_
        refine w_top (y := nI s) ((hB2 19 (by decide)).trans h19) ?_
        refine w_iald dX10_go_289 rfl (hs.n (a := 129) (z := 96) 83 rfl) (by omega) ?_
        refine w_top (y := T s) (by rw [hA2 129 (by decide)]; exact hT s hsz) ?_
        refine w_putI dX10_go_290 flX10_226 rfl rfl rfl rfl ?_
        refine w_st (fun I3 hA3 hB3 hC3 => ?_)
        refine w_aload_n dX10_go_293 rfl ?_
        refine w_dup dX10_go_294 rfl ?_
        refine w_getI dX10_go_295 flX10_211 rfl ?_
        refine w_top (y := nI s) (by rw [hB3 18 (by decide), hB2 18 (by decide)]; exact h18) ?_
        refine w_iconst dX10_go_298 ic_1 ?_
        refine w_iadd dX10_go_299 ?_
        refine w_top (y := nI (s + 1)) (nI_1 s) ?_
        refine w_putI dX10_go_300 flX10_211 rfl rfl rfl rfl ?_
        refine w_st (fun I4 hA4 hB4 hC4 => ?_)
        refine w_return dX10_go_303 rfl ?_
        refine hq I4 ((FRG.st hA2 hB2 (by decide)).trans ((FRG.st hA3 hB3 (by decide)).trans (FRG.st hA4 hB4 (by decide)))) ?_
        rw [tk_sig hR hsz hl hd]
        refine ⟨?_, hC4, ?_, ?_, fun _ => ?_, fun q => absurd q (by simp), fun q => absurd q (by simp), fun _ j h1 h2 => ?_, fun i hi => ?_⟩
        · rw [hB4 17 (by decide), hB3 17 (by decide), hB2 17 (by decide)]; exact h17
        · rw [hB4 19 (by decide), hB3 19 (by decide), hB2 19 (by decide)]; exact h19
        · rw [hB4 20 (by decide), hB3 20 (by decide)]; exact hC2
        · rw [hB4 21 (by decide)]; exact hC3
        · rw [hB4 22 (by decide), hB3 22 (by decide), hB2 22 (by decide)]
          have h1 : s + 1 ≤ j := h1
          by_cases q : w
          · rw [hw q]; exact fun e => absurd ((nI_eq (by omega) (by omega)).mp e) (by omega)
          · exact hw2 q j (by omega) h2
        · rw [hA4 129 (by decide), hA3 129 (by decide), hA2 129 (by decide)]; exact hT i hi
      · have hd := c162.2
        refine w_aload_n dX10_go_165 rfl ?_
        refine w_iconst dX10_go_166 ic_0 ?_
        refine w_putI dX10_go_167 flX10_226 rfl rfl rfl rfl ?_
        refine w_st (fun I2 hA2 hB2 hC2 => ?_)
        exact lX10_goD hs hz hR (fun i hi => by rw [hA2 129 (by decide)]; exact hT i hi) ((hB2 17 (by decide)).trans h17) ((hB2 18 (by decide)).trans h18) ((hB2 19 (by decide)).trans h19) hC2 hsz hl hd (fun I' h5 => hq I' ((FRG.st hA2 hB2 (by decide)).trans h5))
    · exact lX10_goL hs hz hR hT h17 h18 h19 hsz c90.2 hq
  · obtain rfl : s = z := (nI_eq (by omega) (by omega)).mp c71
    refine w_aload_n dX10_go_74 rfl ?_
    refine w_iconst dX10_go_75 ic_0 ?_
    refine w_putI dX10_go_76 flX10_220 rfl rfl rfl rfl ?_
    refine w_st (fun I2 hA2 hB2 hC2 => ?_)
    refine w_goto (tgt := 303) dX10_go_79 (by decide) ?_
    refine w_return dX10_go_303 rfl ?_
    refine hq I2 (FRG.st hA2 hB2 (by decide)) ?_
    rw [tk_end hR]
    exact ⟨(hB2 17 (by decide)).trans h17, (hB2 18 (by decide)).trans h18, (hB2 19 (by decide)).trans h19, hC2, fun q => absurd q (by simp), fun q => absurd q (by simp), fun q => absurd q (by simp), fun q => absurd q (by simp), fun i hi => by rw [hA2 129 (by decide)]; exact hT i hi⟩

set_option maxRecDepth 20000 in
theorem lX10_goA (hs : SK R N) {T : VV} {z p s : Nat} {w : Prop} (hz : z ≤ 96) (hR : Rn isSp T z p s) (hT : ∀ i, i < z → I 129 i = T i) (h17 : I 117 17 = nI z) (h18 : I 117 18 = nI s) (hw : w → I 117 22 = nI p) (hw2 : ¬ w → ∀ j, p ≤ j → j ≤ 96 → I 117 22 ≠ nI j) (hq : ∀ I' : HI, FRG I I' → TM I' T z (tkA T z p w) → Q vU I' L R N n) : WP sc 1 0 0 mX10_go 38 [vR 10 117, vU] [] I L R N n Q := by
  have hps := hR.1
  have hsz0 := hR.2.1
  have hcl : nI s = I 117 22 ↔ (w ∧ s = p) := by
    by_cases q : w
    · rw [hw q]
      exact ⟨fun e => ⟨q, (nI_eq (by omega) (by omega)).mp e⟩, fun e => by rw [e.2]⟩
    · exact ⟨fun e => absurd e.symm (hw2 q s hps (by omega)), fun e => absurd e.1 q⟩
  refine w_aload_n dX10_go_38 rfl ?_
  refine w_aload_n dX10_go_39 rfl ?_
  refine w_getI dX10_go_40 flX10_211 rfl ?_
  refine w_top (y := nI s) (h18) ?_
  refine w_putI dX10_go_43 flX10_214 rfl rfl rfl rfl ?_
  refine w_st (fun I2 hA2 hB2 hC2 => ?_)
  refine w_aload_n dX10_go_46 rfl ?_
  refine w_getI dX10_go_47 flX10_214 rfl ?_
  refine w_top (y := nI s) (hC2) ?_
  refine w_aload_n dX10_go_50 rfl ?_
  refine w_getI dX10_go_51 flX10_217 rfl ?_
  refine w_top (y := I 117 22) (hB2 22 (by decide)) ?_
  refine w_icmp_ne (tgt := 61) dX10_go_54 (by decide) (fun c54 => ?_) (fun c54 => ?_)
  · refine w_iconst dX10_go_61 ic_0 ?_
    refine w_top (y := bI (w ∧ s = p)) ((bI_0 (fun q => c54 (hcl.mpr q))).symm) ?_
    exact lX10_goB hs hz hR (fun i hi => by rw [hA2 129 (by decide)]; exact hT i hi) ((hB2 17 (by decide)).trans h17) ((hB2 18 (by decide)).trans h18) (fun q => (hB2 22 (by decide)).trans (hw q)) (fun q j a b => by rw [hB2 22 (by decide)]; exact hw2 q j a b) hC2 (fun I' h5 => hq I' ((FRG.st hA2 hB2 (by decide)).trans h5))
  · refine w_iconst dX10_go_57 ic_1 ?_
    refine w_goto (tgt := 62) dX10_go_58 (by decide) ?_
    refine w_top (y := bI (w ∧ s = p)) ((bI_1 (hcl.mp c54)).symm) ?_
    exact lX10_goB hs hz hR (fun i hi => by rw [hA2 129 (by decide)]; exact hT i hi) ((hB2 17 (by decide)).trans h17) ((hB2 18 (by decide)).trans h18) (fun q => (hB2 22 (by decide)).trans (hw q)) (fun q j a b => by rw [hB2 22 (by decide)]; exact hw2 q j a b) hC2 (fun I' h5 => hq I' ((FRG.st hA2 hB2 (by decide)).trans h5))

set_option maxRecDepth 20000 in
theorem sX10_go (hs : SK R N) {T : VV} {z p : Nat} {w : Prop} (hz : z ≤ 96) (hp : p ≤ z) (hT : ∀ i, i < z → I 129 i = T i) (h17 : I 117 17 = nI z) (h18 : I 117 18 = nI p) (hw : w → I 117 22 = nI p) (hw2 : ¬ w → ∀ j, p ≤ j → j ≤ 96 → I 117 22 ≠ nI j) (hq : ∀ I' : HI, FRG I I' → TM I' T z (tkA T z p w) → Q vU I' L R N n) : CA sc 1 0 0 mX10_go [vR 10 117] I L R N n Q := by
  have lp : ∀ (k s : Nat) (I1 : HI), s + k = z → p ≤ s → (∀ q, q ≠ 117 → I1 q = I q) → (∀ j, j ≠ 18 → I1 117 j = I 117 j) → I1 117 18 = nI s → (∀ i, p ≤ i → i < s → isSp (T i)) → WP sc 1 0 0 mX10_go 0 [vR 10 117, vU] [] I1 L R N n Q := by
    intro k
    induction k with
    | zero =>
      intro s I1 hk hps hA1 hB1 g18 hrun
      refine w_aload_n dX10_go_0 rfl ?_
      refine w_getI dX10_go_1 flX10_211 rfl ?_
      refine w_top (y := nI s) (g18) ?_
      refine w_aload_n dX10_go_4 rfl ?_
      refine w_getI dX10_go_5 flX10_207 rfl ?_
      refine w_top (y := nI z) ((hB1 17 (by decide)).trans h17) ?_
      refine w_icmp_ge (tgt := 38) dX10_go_8 (by decide) (fun c8 => ?_) (fun c8 => ?_)
      · exact lX10_goA hs hz ⟨hps, by omega, hrun, Or.inl (by omega)⟩ (fun i hi => by rw [hA1 129 (by decide)]; exact hT i hi) ((hB1 17 (by decide)).trans h17) g18 (fun q => (hB1 22 (by decide)).trans (hw q)) (fun q j a b => by rw [hB1 22 (by decide)]; exact hw2 q j a b) (fun I' h5 => hq I' ((FRG.st hA1 hB1 (by decide)).trans h5))
      · exact absurd (nI_le (a := z) (by omega) (by omega)) c8
    | succ k ih =>
      intro s I1 hk hps hA1 hB1 g18 hrun
      refine w_aload_n dX10_go_0 rfl ?_
      refine w_getI dX10_go_1 flX10_211 rfl ?_
      refine w_top (y := nI s) (g18) ?_
      refine w_aload_n dX10_go_4 rfl ?_
      refine w_getI dX10_go_5 flX10_207 rfl ?_
      refine w_top (y := nI z) ((hB1 17 (by decide)).trans h17) ?_
      refine w_icmp_ge (tgt := 38) dX10_go_8 (by decide) (fun c8 => ?_) (fun c8 => ?_)
      · exact absurd ((nI_leI (by omega) (by omega)).mp c8) (by omega)
      · refine w_aload_n dX10_go_11 rfl ?_
        refine w_getR dX10_go_12 flX10_44 rfl (hs.r (a := 117) (j := 16) (b := 129) 127 rfl) ?_
        refine w_aload_n dX10_go_15 rfl ?_
        refine w_getI dX10_go_16 flX10_211 rfl ?_
        refine w_top (y := nI s) (g18) ?_
        refine w_iald dX10_go_19 rfl (hs.n (a := 129) (z := 96) 83 rfl) (by omega) ?_
        refine w_top (y := T s) (by rw [hA1 129 (by decide)]; exact hT s (by omega)) ?_
        refine w_bipush dX10_go_20 bp_32 ?_
        refine w_icmp_ne (tgt := 38) dX10_go_22 (by decide) (fun c22 => ?_) (fun c22 => ?_)
        · exact lX10_goA hs hz ⟨hps, by omega, hrun, Or.inr c22⟩ (fun i hi => by rw [hA1 129 (by decide)]; exact hT i hi) ((hB1 17 (by decide)).trans h17) g18 (fun q => (hB1 22 (by decide)).trans (hw q)) (fun q j a b => by rw [hB1 22 (by decide)]; exact hw2 q j a b) (fun I' h5 => hq I' ((FRG.st hA1 hB1 (by decide)).trans h5))
        · refine w_aload_n dX10_go_25 rfl ?_
          refine w_dup dX10_go_26 rfl ?_
          refine w_getI dX10_go_27 flX10_211 rfl ?_
          refine w_top (y := nI s) (g18) ?_
          refine w_iconst dX10_go_30 ic_1 ?_
          refine w_iadd dX10_go_31 ?_
          refine w_top (y := nI (s + 1)) (nI_1 s) ?_
          refine w_putI dX10_go_32 flX10_211 rfl rfl rfl rfl ?_
          refine w_st (fun I2 hA2 hB2 hC2 => ?_)
          refine w_goto (tgt := 0) dX10_go_35 (by decide) ?_
          refine ih (s + 1) I2 (by omega) (by omega) (fun q hq => (hA2 q hq).trans (hA1 q hq)) (fun j hj => (hB2 j hj).trans (hB1 j hj)) hC2 (fun i a1 a2 => ?_)
          by_cases q : i = s
          · subst q; exact c22
          · exact hrun i a1 (by omega)
  refine ca_in (al := [_, _]) rfl ?_
  exact lp (z - p) p I (by omega) (Nat.le_refl p) (fun _ _ => rfl) (fun _ _ => rfl) h18 (fun i a b => by omega)

theorem sX10_next (hs : SK R N) {T : VV} {z : Nat} {t : TKN} (hz : z ≤ 96) (ht : TO T z t) (hk : t.2.2 = 1 ∨ t.2.2 = 2 ∨ t.2.2 = 3) (hM : TM I T z t) (hq : ∀ I' : HI, FRG I I' → TM I' T z (nxT T z t) → Q vU I' L R N n) : CA sc 1 0 0 mX10_go [vR 10 117] I L R N n Q := by
  obtain ⟨h1, h2, h3, h4, h5, h6, h7, h8, h9⟩ := hM
  exact sX10_go hs hz ht.2.1 h9 h1 h2 h7 (fun q => h8 (by omega)) hq
end
