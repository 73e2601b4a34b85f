def TC (I : HI) (T : VV) (z : Nat) (t : TKN) : Prop := I 78 1 = nI z ∧ I 78 2 = hnd T t ∧ I 78 3 = nI t.1 ∧ I 78 4 = nI t.2.1 ∧ ∀ i, i < z → I 79 i = T i
theorem adv_hnd {T : VV} {z p s e : Nat} {w : Prop} {h : Int32} (hR : Rn isSp T z p s) (hz : s < z) (hb : BY T z) (hh : (h = 256 ∧ isL (T s)) ∨ (h = 257 ∧ ¬ isL (T s) ∧ isD (T s)) ∨ (h = T s ∧ ¬ isL (T s) ∧ ¬ isD (T s))) (he : Rn (fun b => (h = 256 ∧ isL b) ∨ (h = 257 ∧ isD b)) T z (s + 1) e) :
    (tkA T z p w).1 = s ∧ (tkA T z p w).2.1 = e ∧ hnd T (tkA T z p w) = cif (((h = 256 ∨ h = 257) ∧ w ∧ s = p) ∨ (h = 257 ∧ 4 < e - s)) 258 h := by
  obtain ⟨e1, e2, e3, e4⟩ := he
  rcases hh with ⟨rfl, hl⟩ | ⟨rfl, hl, hd⟩ | ⟨rfl, hl, hd⟩
  · have hr : Rn isL T z s e := ⟨by omega, e2, fun i a b => by
      by_cases q : i = s
      · subst q; exact hl
      · exact (e3 i (by omega) b).elim (fun x => x.2) (fun x => absurd x.1 (by decide)), e4.imp id (fun q r => q (Or.inl ⟨rfl, r⟩))⟩
    rw [tk_let hR hz hl hr]
    refine ⟨rfl, rfl, ?_⟩
    by_cases hw : w ∧ s = p
    · rw [cif_t hw, cif_t (Or.inl ⟨Or.inl rfl, hw⟩), hnd_4 rfl]
    · rw [cif_f hw, cif_f (fun q => q.elim (fun q => hw q.2) (fun q => absurd q.1 (by decide))), hnd_1 rfl]
  · have hr : Rn isD T z s e := ⟨by omega, e2, fun i a b => by
      by_cases q : i = s
      · subst q; exact hd
      · exact (e3 i (by omega) b).elim (fun x => absurd x.1 (by decide)) (fun x => x.2), e4.imp id (fun q r => q (Or.inr ⟨rfl, r⟩))⟩
    rw [tk_dig hR hz hl hd hr]
    refine ⟨rfl, rfl, ?_⟩
    by_cases hw : (w ∧ s = p) ∨ 4 < e - s
    · rw [cif_t hw, cif_t (hw.imp (fun q => ⟨Or.inr rfl, q⟩) (fun q => ⟨rfl, q⟩)), hnd_4 rfl]
    · rw [cif_f hw, cif_f (fun q => hw (q.imp (fun q => q.2) (fun q => q.2))), hnd_2 rfl]
  · have hy := by_rng (hb s hz)
    have n1 : ¬ T s = 256 := fun q => by rw [q] at hy; exact absurd hy (by decide)
    have n2 : ¬ T s = 257 := fun q => by rw [q] at hy; exact absurd hy (by decide)
    have h1 : e = s + 1 := by
      rcases Nat.lt_or_ge (s + 1) e with q | q
      · exact (e3 (s + 1) (Nat.le_refl _) q).elim (fun x => absurd x.1 n1) (fun x => absurd x.1 n2)
      · omega
    rw [tk_sig hR hz hl hd, cif_f (fun q => q.elim (fun q => q.1.elim n1 n2) (fun q => n2 q.1)), hnd_3 rfl]
    exact ⟨rfl, h1.symm, rfl⟩
section
variable {sc : SC} {I : HI} {L : HL} {R : HR} {N : HN} {n : Nat} {Q : HQ}
set_option maxRecDepth 20000 in
theorem sX6_isLetter {v : Int32} (hq : Q (vI (bI (isL v))) I L R N n) : CA sc 0 0 0 mX6_isLetter [vI v] I L R N n Q := by
  refine ca_in (al := [_]) rfl ?_
  refine w_iload_n dX6_isLetter_0 rfl ?_
  refine w_bipush dX6_isLetter_1 bp_97 ?_
  refine w_icmp_lt (tgt := 16) dX6_isLetter_3 (by decide) (fun c3 => ?_) (fun c3 => ?_)
  · refine w_iconst dX6_isLetter_16 ic_0 ?_
    refine w_ireturn dX6_isLetter_17 rfl rfl ?_
    first | exact q_0 (by simp only [isL, isD, Int32.lt_iff_toInt_lt, Int32.le_iff_toInt_le] at *; omega) hq | exact q_1 (by simp only [isL, isD, Int32.lt_iff_toInt_lt, Int32.le_iff_toInt_le] at *; omega) hq
  · refine w_iload_n dX6_isLetter_6 rfl ?_
    refine w_bipush dX6_isLetter_7 bp_122 ?_
    refine w_icmp_gt (tgt := 16) dX6_isLetter_9 (by decide) (fun c9 => ?_) (fun c9 => ?_)
    · refine w_iconst dX6_isLetter_16 ic_0 ?_
      refine w_ireturn dX6_isLetter_17 rfl rfl ?_
      first | exact q_0 (by simp only [isL, isD, Int32.lt_iff_toInt_lt, Int32.le_iff_toInt_le] at *; omega) hq | exact q_1 (by simp only [isL, isD, Int32.lt_iff_toInt_lt, Int32.le_iff_toInt_le] at *; omega) hq
    · refine w_iconst dX6_isLetter_12 ic_1 ?_
      refine w_goto (tgt := 17) dX6_isLetter_13 (by decide) ?_
      refine w_ireturn dX6_isLetter_17 rfl rfl ?_
      first | exact q_0 (by simp only [isL, isD, Int32.lt_iff_toInt_lt, Int32.le_iff_toInt_le] at *; omega) hq | exact q_1 (by simp only [isL, isD, Int32.lt_iff_toInt_lt, Int32.le_iff_toInt_le] at *; omega) hq

set_option maxRecDepth 20000 in
theorem sX6_isDigit {v : Int32} (hq : Q (vI (bI (isD v))) I L R N n) : CA sc 0 0 0 mX6_isDigit [vI v] I L R N n Q := by
  refine ca_in (al := [_]) rfl ?_
  refine w_iload_n dX6_isDigit_0 rfl ?_
  refine w_bipush dX6_isDigit_1 bp_48 ?_
  refine w_icmp_lt (tgt := 16) dX6_isDigit_3 (by decide) (fun c3 => ?_) (fun c3 => ?_)
  · refine w_iconst dX6_isDigit_16 ic_0 ?_
    refine w_ireturn dX6_isDigit_17 rfl rfl ?_
    first | exact q_0 (by simp only [isL, isD, Int32.lt_iff_toInt_lt, Int32.le_iff_toInt_le] at *; omega) hq | exact q_1 (by simp only [isL, isD, Int32.lt_iff_toInt_lt, Int32.le_iff_toInt_le] at *; omega) hq
  · refine w_iload_n dX6_isDigit_6 rfl ?_
    refine w_bipush dX6_isDigit_7 bp_57 ?_
    refine w_icmp_gt (tgt := 16) dX6_isDigit_9 (by decide) (fun c9 => ?_) (fun c9 => ?_)
    · refine w_iconst dX6_isDigit_16 ic_0 ?_
      refine w_ireturn dX6_isDigit_17 rfl rfl ?_
      first | exact q_0 (by simp only [isL, isD, Int32.lt_iff_toInt_lt, Int32.le_iff_toInt_le] at *; omega) hq | exact q_1 (by simp only [isL, isD, Int32.lt_iff_toInt_lt, Int32.le_iff_toInt_le] at *; omega) hq
    · refine w_iconst dX6_isDigit_12 ic_1 ?_
      refine w_goto (tgt := 17) dX6_isDigit_13 (by decide) ?_
      refine w_ireturn dX6_isDigit_17 rfl rfl ?_
      first | exact q_0 (by simp only [isL, isD, Int32.lt_iff_toInt_lt, Int32.le_iff_toInt_le] at *; omega) hq | exact q_1 (by simp only [isL, isD, Int32.lt_iff_toInt_lt, Int32.le_iff_toInt_le] at *; omega) hq

set_option maxRecDepth 20000 in
theorem sX6_hasWord (hq : Q (vI (bI (I 78 2 = 256 ∨ I 78 2 = 257))) I L R N n) : CA sc 0 0 0 mX6_hasWord [vR 6 78] I L R N n Q := by
  refine ca_in (al := [_]) rfl ?_
  refine w_aload_n dX6_hasWord_0 rfl ?_
  refine w_getI dX6_hasWord_1 flX6_19 rfl ?_
  refine w_sipush dX6_hasWord_4 sp_256 ?_
  refine w_icmp_eq (tgt := 20) dX6_hasWord_7 (by decide) (fun c7 => ?_) (fun c7 => ?_)
  · refine w_iconst dX6_hasWord_20 ic_1 ?_
    refine w_goto (tgt := 25) dX6_hasWord_21 (by decide) ?_
    refine w_ireturn dX6_hasWord_25 rfl rfl ?_
    first | exact q_1 (by simp_all) hq | exact q_0 (by simp_all) hq
  · refine w_aload_n dX6_hasWord_10 rfl ?_
    refine w_getI dX6_hasWord_11 flX6_19 rfl ?_
    refine w_sipush dX6_hasWord_14 sp_257 ?_
    refine w_icmp_ne (tgt := 24) dX6_hasWord_17 (by decide) (fun c17 => ?_) (fun c17 => ?_)
    · refine w_iconst dX6_hasWord_24 ic_0 ?_
      refine w_ireturn dX6_hasWord_25 rfl rfl ?_
      first | exact q_1 (by simp_all) hq | exact q_0 (by simp_all) hq
    · refine w_iconst dX6_hasWord_20 ic_1 ?_
      refine w_goto (tgt := 25) dX6_hasWord_21 (by decide) ?_
      refine w_ireturn dX6_hasWord_25 rfl rfl ?_
      first | exact q_1 (by simp_all) hq | exact q_0 (by simp_all) hq

set_option maxRecDepth 20000 in
theorem sX6_goesOn {v : Int32} (hq : Q (vI (bI ((I 78 2 = 256 ∧ isL v) ∨ (I 78 2 = 257 ∧ isD v)))) I L R N n) : CA sc 1 0 0 mX6_goesOn [vR 6 78, vI v] I L R N n Q := by
  refine ca_in (al := [_, _]) rfl ?_
  refine w_aload_n dX6_goesOn_0 rfl ?_
  refine w_getI dX6_goesOn_1 flX6_19 rfl ?_
  refine w_sipush dX6_goesOn_4 sp_256 ?_
  refine w_icmp_ne (tgt := 17) dX6_goesOn_7 (by decide) (fun c7 => ?_) (fun c7 => ?_)
  · refine w_aload_n dX6_goesOn_17 rfl ?_
    refine w_getI dX6_goesOn_18 flX6_19 rfl ?_
    refine w_sipush dX6_goesOn_21 sp_257 ?_
    refine w_icmp_ne (tgt := 38) dX6_goesOn_24 (by decide) (fun c24 => ?_) (fun c24 => ?_)
    · refine w_iconst dX6_goesOn_38 ic_0 ?_
      refine w_ireturn dX6_goesOn_39 rfl rfl ?_
      first | exact q_1 (by simp_all) hq | exact q_0 (by simp_all) hq
    · refine w_iload_n dX6_goesOn_27 rfl ?_
      refine c_S (as := [_]) (d' := 0) dX6_goesOn_28 (Or.inl mlX6_42) moX6_isDigit msX6_isDigit rfl rfl rfl rfl rfl (by decide) (sX6_isDigit ?_)
      refine w_ifB_eq (tgt := 38) dX6_goesOn_31 (by decide) (fun c31 => ?_) (fun c31 => ?_)
      · refine w_iconst dX6_goesOn_38 ic_0 ?_
        refine w_ireturn dX6_goesOn_39 rfl rfl ?_
        first | exact q_1 (by simp_all) hq | exact q_0 (by simp_all) hq
      · refine w_iconst dX6_goesOn_34 ic_1 ?_
        refine w_goto (tgt := 39) dX6_goesOn_35 (by decide) ?_
        refine w_ireturn dX6_goesOn_39 rfl rfl ?_
        first | exact q_1 (by simp_all) hq | exact q_0 (by simp_all) hq
  · refine w_iload_n dX6_goesOn_10 rfl ?_
    refine c_S (as := [_]) (d' := 0) dX6_goesOn_11 (Or.inl mlX6_38) moX6_isLetter msX6_isLetter rfl rfl rfl rfl rfl (by decide) (sX6_isLetter ?_)
    refine w_ifB_ne (tgt := 34) dX6_goesOn_14 (by decide) (fun c14 => ?_) (fun c14 => ?_)
    · refine w_iconst dX6_goesOn_34 ic_1 ?_
      refine w_goto (tgt := 39) dX6_goesOn_35 (by decide) ?_
      refine w_ireturn dX6_goesOn_39 rfl rfl ?_
      first | exact q_1 (by simp_all) hq | exact q_0 (by simp_all) hq
    · refine w_aload_n dX6_goesOn_17 rfl ?_
      refine w_getI dX6_goesOn_18 flX6_19 rfl ?_
      refine w_sipush dX6_goesOn_21 sp_257 ?_
      refine w_icmp_ne (tgt := 38) dX6_goesOn_24 (by decide) (fun c24 => ?_) (fun c24 => ?_)
      · refine w_iconst dX6_goesOn_38 ic_0 ?_
        refine w_ireturn dX6_goesOn_39 rfl rfl ?_
        first | exact q_1 (by simp_all) hq | exact q_0 (by simp_all) hq
      · refine w_iload_n dX6_goesOn_27 rfl ?_
        refine c_S (as := [_]) (d' := 0) dX6_goesOn_28 (Or.inl mlX6_42) moX6_isDigit msX6_isDigit rfl rfl rfl rfl rfl (by decide) (sX6_isDigit ?_)
        refine w_ifB_eq (tgt := 38) dX6_goesOn_31 (by decide) (fun c31 => ?_) (fun c31 => ?_)
        · refine w_iconst dX6_goesOn_38 ic_0 ?_
          refine w_ireturn dX6_goesOn_39 rfl rfl ?_
          first | exact q_1 (by simp_all) hq | exact q_0 (by simp_all) hq
        · refine w_iconst dX6_goesOn_34 ic_1 ?_
          refine w_goto (tgt := 39) dX6_goesOn_35 (by decide) ?_
          refine w_ireturn dX6_goesOn_39 rfl rfl ?_
          first | exact q_1 (by simp_all) hq | exact q_0 (by simp_all) hq

set_option maxRecDepth 20000 in
theorem sX6_runOut (hq : ∀ I' : HI, (∀ q, q ≠ 78 → I' q = I q) → (∀ j, j ≠ 2 → j ≠ 4 → I' 78 j = I 78 j) → I' 78 4 = I 78 1 → I' 78 2 = -1 → Q vU I' L R N n) : CA sc 0 0 0 mX6_runOut [vR 6 78] I L R N n Q := by
  refine ca_in (al := [_]) rfl ?_
  refine w_aload_n dX6_runOut_0 rfl ?_
  refine w_aload_n dX6_runOut_1 rfl ?_
  refine w_getI dX6_runOut_2 flX6_15 rfl ?_
  refine w_putI dX6_runOut_5 flX6_25 rfl rfl rfl rfl ?_
  refine w_st (fun I2 hA2 hB2 hC2 => ?_)
  refine w_aload_n dX6_runOut_8 rfl ?_
  refine w_iconst dX6_runOut_9 ic_m1 ?_
  refine w_putI dX6_runOut_10 flX6_19 rfl rfl rfl rfl ?_
  refine w_st (fun I3 hA3 hB3 hC3 => ?_)
  refine w_return dX6_runOut_13 rfl ?_
  exact hq I3 (fun q hq => (hA3 q hq).trans (hA2 q hq)) (fun j h1 h2 => (hB3 j h1).trans (hB2 j h2)) ((hB3 4 (by decide)).trans hC2) hC3

set_option maxRecDepth 20000 in
theorem lX6_advC (hs : SK R N) {T : VV} {z p s : Nat} {w : Prop} (hz : z ≤ 96) (hb : BY T z) (hR : Rn isSp T z p s) (hsz : s < z) {h : Int32} (hh : (h = 256 ∧ isL (T s)) ∨ (h = 257 ∧ ¬ isL (T s) ∧ isD (T s)) ∨ (h = T s ∧ ¬ isL (T s) ∧ ¬ isD (T s))) {e : Nat} (he : Rn (fun b => (h = 256 ∧ isL b) ∨ (h = 257 ∧ isD b)) T z (s + 1) e) (hT : ∀ i, i < z → I 79 i = T i) (h1 : I 78 1 = nI z) (h2 : I 78 2 = h) (h3 : I 78 3 = nI s) (h4 : I 78 4 = nI e) (hq : ∀ I' : HI, (∀ q, q ≠ 78 → I' q = I q) → TC I' T z (tkA T z p w) → Q vU I' L R N n) : WP sc 2 0 0 mX6_advance 163 [vR 6 78, vI (nI p), vI (bI w), vI (T s)] [] I L R N n Q := by
  have hp := hR.1
  have he1 := he.1
  have he2 := he.2.1
  refine w_aload_n dX6_advance_163 rfl ?_
  refine c_V (t := 6) (as := []) (d' := 0) dX6_advance_164 mlX6_31 moX6_hasWord mvX6_hasWord ⟨rfl, rfl⟩ rfl rfl rfl rfl rfl (by decide) (sX6_hasWord ?_)
  refine w_top (y := bI (h = 256 ∨ h = 257)) (by rw [h2]) ?_
  refine w_ifB_eq (tgt := 182) dX6_advance_167 (by decide) (fun c167 => ?_) (fun c167 => ?_)
  · have hno : ¬ ((h = 256 ∨ h = 257) ∧ w ∧ s = p) := fun q => c167 q.1
    refine w_aload_n dX6_advance_182 rfl ?_
    refine w_getI dX6_advance_183 flX6_19 rfl ?_
    refine w_top (y := h) (h2) ?_
    refine w_sipush dX6_advance_186 sp_257 ?_
    refine w_icmp_ne (tgt := 212) dX6_advance_189 (by decide) (fun c189 => ?_) (fun c189 => ?_)
    · refine w_return dX6_advance_212 rfl ?_
      obtain ⟨f1, f2, f3⟩ := adv_hnd (w := w) hR hsz hb hh he
      exact hq I (fun _ _ => rfl) ⟨h1, by rw [f3, cif_f (fun q => q.elim hno (fun q => c189 q.1))]; exact h2, by rw [f1]; exact h3, by rw [f2]; exact h4, hT⟩
    · refine w_aload_n dX6_advance_192 rfl ?_
      refine w_getI dX6_advance_193 flX6_25 rfl ?_
      refine w_top (y := nI e) (h4) ?_
      refine w_aload_n dX6_advance_196 rfl ?_
      refine w_getI dX6_advance_197 flX6_22 rfl ?_
      refine w_top (y := nI s) (h3) ?_
      refine w_isub dX6_advance_200 ?_
      refine w_top (y := nI (e - s)) (nI_sub (by omega)) ?_
      refine w_iconst dX6_advance_201 ic_4 ?_
      refine w_icmp_le (tgt := 212) dX6_advance_202 (by decide) (fun c202 => ?_) (fun c202 => ?_)
      · have hle := (nI_leI (b := 4) (by omega) (by decide)).mp c202
        refine w_return dX6_advance_212 rfl ?_
        obtain ⟨f1, f2, f3⟩ := adv_hnd (w := w) hR hsz hb hh he
        exact hq I (fun _ _ => rfl) ⟨h1, by rw [f3, cif_f (fun q => q.elim hno (fun q => by omega))]; exact h2, by rw [f1]; exact h3, by rw [f2]; exact h4, hT⟩
      · have hgt : 4 < e - s := Nat.lt_of_not_le (fun q => c202 (nI_le (b := 4) q (by decide)))
        refine w_aload_n dX6_advance_205 rfl ?_
        refine w_sipush dX6_advance_206 sp_258 ?_
        refine w_putI dX6_advance_209 flX6_19 rfl rfl rfl rfl ?_
        refine w_st (fun I2 hA2 hB2 hC2 => ?_)
        refine w_return dX6_advance_212 rfl ?_
        obtain ⟨f1, f2, f3⟩ := adv_hnd (w := w) hR hsz hb hh he
        exact hq I2 hA2 ⟨(hB2 1 (by decide)).trans h1, by rw [f3, cif_t (Or.inr ⟨c189, hgt⟩)]; exact hC2, by rw [f1]; exact (hB2 3 (by decide)).trans h3, by rw [f2]; exact (hB2 4 (by decide)).trans h4, fun i hi => by rw [hA2 79 (by decide)]; exact hT i hi⟩
  · refine w_iload_n dX6_advance_170 rfl ?_
    refine w_ifB_eq (tgt := 182) dX6_advance_171 (by decide) (fun c171 => ?_) (fun c171 => ?_)
    · have hno : ¬ ((h = 256 ∨ h = 257) ∧ w ∧ s = p) := fun q => c171 q.2.1
      refine w_aload_n dX6_advance_182 rfl ?_
      refine w_getI dX6_advance_183 flX6_19 rfl ?_
      refine w_top (y := h) (h2) ?_
      refine w_sipush dX6_advance_186 sp_257 ?_
      refine w_icmp_ne (tgt := 212) dX6_advance_189 (by decide) (fun c189 => ?_) (fun c189 => ?_)
      · refine w_return dX6_advance_212 rfl ?_
        obtain ⟨f1, f2, f3⟩ := adv_hnd (w := w) hR hsz hb hh he
        exact hq I (fun _ _ => rfl) ⟨h1, by rw [f3, cif_f (fun q => q.elim hno (fun q => c189 q.1))]; exact h2, by rw [f1]; exact h3, by rw [f2]; exact h4, hT⟩
      · refine w_aload_n dX6_advance_192 rfl ?_
        refine w_getI dX6_advance_193 flX6_25 rfl ?_
        refine w_top (y := nI e) (h4) ?_
        refine w_aload_n dX6_advance_196 rfl ?_
        refine w_getI dX6_advance_197 flX6_22 rfl ?_
        refine w_top (y := nI s) (h3) ?_
        refine w_isub dX6_advance_200 ?_
        refine w_top (y := nI (e - s)) (nI_sub (by omega)) ?_
        refine w_iconst dX6_advance_201 ic_4 ?_
        refine w_icmp_le (tgt := 212) dX6_advance_202 (by decide) (fun c202 => ?_) (fun c202 => ?_)
        · have hle := (nI_leI (b := 4) (by omega) (by decide)).mp c202
          refine w_return dX6_advance_212 rfl ?_
          obtain ⟨f1, f2, f3⟩ := adv_hnd (w := w) hR hsz hb hh he
          exact hq I (fun _ _ => rfl) ⟨h1, by rw [f3, cif_f (fun q => q.elim hno (fun q => by omega))]; exact h2, by rw [f1]; exact h3, by rw [f2]; exact h4, hT⟩
        · have hgt : 4 < e - s := Nat.lt_of_not_le (fun q => c202 (nI_le (b := 4) q (by decide)))
          refine w_aload_n dX6_advance_205 rfl ?_
          refine w_sipush dX6_advance_206 sp_258 ?_
          refine w_putI dX6_advance_209 flX6_19 rfl rfl rfl rfl ?_
          refine w_st (fun I2 hA2 hB2 hC2 => ?_)
          refine w_return dX6_advance_212 rfl ?_
          obtain ⟨f1, f2, f3⟩ := adv_hnd (w := w) hR hsz hb hh he
          exact hq I2 hA2 ⟨(hB2 1 (by decide)).trans h1, by rw [f3, cif_t (Or.inr ⟨c189, hgt⟩)]; exact hC2, by rw [f1]; exact (hB2 3 (by decide)).trans h3, by rw [f2]; exact (hB2 4 (by decide)).trans h4, fun i hi => by rw [hA2 79 (by decide)]; exact hT i hi⟩
    · refine w_aload_n dX6_advance_174 rfl ?_
      refine w_getI dX6_advance_175 flX6_22 rfl ?_
      refine w_top (y := nI s) (h3) ?_
      refine w_iload_n dX6_advance_178 rfl ?_
      refine w_icmp_eq (tgt := 205) dX6_advance_179 (by decide) (fun c179 => ?_) (fun c179 => ?_)
      · have hsp : s = p := (nI_eq (by omega) (by omega)).mp c179
        refine w_aload_n dX6_advance_205 rfl ?_
        refine w_sipush dX6_advance_206 sp_258 ?_
        refine w_putI dX6_advance_209 flX6_19 rfl rfl rfl rfl ?_
        refine w_st (fun I2 hA2 hB2 hC2 => ?_)
        refine w_return dX6_advance_212 rfl ?_
        obtain ⟨f1, f2, f3⟩ := adv_hnd (w := w) hR hsz hb hh he
        exact hq I2 hA2 ⟨(hB2 1 (by decide)).trans h1, by rw [f3, cif_t (Or.inl ⟨c167, c171, hsp⟩)]; exact hC2, by rw [f1]; exact (hB2 3 (by decide)).trans h3, by rw [f2]; exact (hB2 4 (by decide)).trans h4, fun i hi => by rw [hA2 79 (by decide)]; exact hT i hi⟩
      · have hno : ¬ ((h = 256 ∨ h = 257) ∧ w ∧ s = p) := fun q => c179 (by rw [q.2.2])
        refine w_aload_n dX6_advance_182 rfl ?_
        refine w_getI dX6_advance_183 flX6_19 rfl ?_
        refine w_top (y := h) (h2) ?_
        refine w_sipush dX6_advance_186 sp_257 ?_
        refine w_icmp_ne (tgt := 212) dX6_advance_189 (by decide) (fun c189 => ?_) (fun c189 => ?_)
        · refine w_return dX6_advance_212 rfl ?_
          obtain ⟨f1, f2, f3⟩ := adv_hnd (w := w) hR hsz hb hh he
          exact hq I (fun _ _ => rfl) ⟨h1, by rw [f3, cif_f (fun q => q.elim hno (fun q => c189 q.1))]; exact h2, by rw [f1]; exact h3, by rw [f2]; exact h4, hT⟩
        · refine w_aload_n dX6_advance_192 rfl ?_
          refine w_getI dX6_advance_193 flX6_25 rfl ?_
          refine w_top (y := nI e) (h4) ?_
          refine w_aload_n dX6_advance_196 rfl ?_
          refine w_getI dX6_advance_197 flX6_22 rfl ?_
          refine w_top (y := nI s) (h3) ?_
          refine w_isub dX6_advance_200 ?_
          refine w_top (y := nI (e - s)) (nI_sub (by omega)) ?_
          refine w_iconst dX6_advance_201 ic_4 ?_
          refine w_icmp_le (tgt := 212) dX6_advance_202 (by decide) (fun c202 => ?_) (fun c202 => ?_)
          · have hle := (nI_leI (b := 4) (by omega) (by decide)).mp c202
            refine w_return dX6_advance_212 rfl ?_
            obtain ⟨f1, f2, f3⟩ := adv_hnd (w := w) hR hsz hb hh he
            exact hq I (fun _ _ => rfl) ⟨h1, by rw [f3, cif_f (fun q => q.elim hno (fun q => by omega))]; exact h2, by rw [f1]; exact h3, by rw [f2]; exact h4, hT⟩
          · have hgt : 4 < e - s := Nat.lt_of_not_le (fun q => c202 (nI_le (b := 4) q (by decide)))
            refine w_aload_n dX6_advance_205 rfl ?_
            refine w_sipush dX6_advance_206 sp_258 ?_
            refine w_putI dX6_advance_209 flX6_19 rfl rfl rfl rfl ?_
            refine w_st (fun I2 hA2 hB2 hC2 => ?_)
            refine w_return dX6_advance_212 rfl ?_
            obtain ⟨f1, f2, f3⟩ := adv_hnd (w := w) hR hsz hb hh he
            exact hq I2 hA2 ⟨(hB2 1 (by decide)).trans h1, by rw [f3, cif_t (Or.inr ⟨c189, hgt⟩)]; exact hC2, by rw [f1]; exact (hB2 3 (by decide)).trans h3, by rw [f2]; exact (hB2 4 (by decide)).trans h4, fun i hi => by rw [hA2 79 (by decide)]; exact hT i hi⟩

set_option maxRecDepth 20000 in
theorem lX6_advB (hs : SK R N) {T : VV} {z p s : Nat} {w : Prop} (hz : z ≤ 96) (hb : BY T z) (hR : Rn isSp T z p s) (hsz : s < z) {h : Int32} (hh : (h = 256 ∧ isL (T s)) ∨ (h = 257 ∧ ¬ isL (T s) ∧ isD (T s)) ∨ (h = T s ∧ ¬ isL (T s) ∧ ¬ isD (T s))) (hT : ∀ i, i < z → I 79 i = T i) (h1 : I 78 1 = nI z) (h3 : I 78 3 = nI s) (h4 : I 78 4 = nI (s + 1)) (hq : ∀ I' : HI, (∀ q, q ≠ 78 → I' q = I q) → TC I' T z (tkA T z p w) → Q vU I' L R N n) : WP sc 2 0 0 mX6_advance 120 [vR 6 78, vI (nI p), vI (bI w), vI (T s)] [vI h, vR 6 78] I L R N n Q := by
  have lp : ∀ (k e : Nat) (I1 : HI), e + k = z → s + 1 ≤ e → (∀ q, q ≠ 78 → I1 q = I q) → I1 78 1 = nI z → I1 78 2 = h → I1 78 3 = nI s → I1 78 4 = nI e → (∀ i, s + 1 ≤ i → i < e → (h = 256 ∧ isL (T i)) ∨ (h = 257 ∧ isD (T i))) → WP sc 2 0 0 mX6_advance 123 [vR 6 78, vI (nI p), vI (bI w), vI (T s)] [] I1 L R N n Q := by
    intro k
    induction k with
    | zero =>
      intro e I1 hk hse hI1 g1 g2 g3 g4 hrun
      refine w_aload_n dX6_advance_123 rfl ?_
      refine w_getI dX6_advance_124 flX6_25 rfl ?_
      refine w_top (y := nI e) (g4) ?_
      refine w_aload_n dX6_advance_127 rfl ?_
      refine w_getI dX6_advance_128 flX6_15 rfl ?_
      refine w_top (y := nI z) (g1) ?_
      refine w_icmp_ge (tgt := 163) dX6_advance_131 (by decide) (fun c131 => ?_) (fun c131 => ?_)
      · exact lX6_advC hs hz hb hR hsz hh ⟨hse, by omega, hrun, Or.inl (by omega)⟩ (fun i hi => by rw [hI1 79 (by decide)]; exact hT i hi) g1 g2 g3 g4 (fun I' h5 => hq I' (fun q hq => (h5 q hq).trans (hI1 q hq)))
      · exact absurd (nI_le (a := z) (by omega) (by omega)) c131
    | succ k ih =>
      intro e I1 hk hse hI1 g1 g2 g3 g4 hrun
      refine w_aload_n dX6_advance_123 rfl ?_
      refine w_getI dX6_advance_124 flX6_25 rfl ?_
      refine w_top (y := nI e) (g4) ?_
      refine w_aload_n dX6_advance_127 rfl ?_
      refine w_getI dX6_advance_128 flX6_15 rfl ?_
      refine w_top (y := nI z) (g1) ?_
      refine w_icmp_ge (tgt := 163) dX6_advance_131 (by decide) (fun c131 => ?_) (fun c131 => ?_)
      · exact absurd ((nI_leI (by omega) (by omega)).mp c131) (by omega)
      · refine w_aload_n dX6_advance_134 rfl ?_
        refine w_aload_n dX6_advance_135 rfl ?_
        refine w_getR dX6_advance_136 flX6_9 rfl (hs.r (a := 78) (j := 0) (b := 79) 82 rfl) ?_
        refine w_aload_n dX6_advance_139 rfl ?_
        refine w_getI dX6_advance_140 flX6_25 rfl ?_
        refine w_top (y := nI e) (g4) ?_
        refine w_iald dX6_advance_143 rfl (hs.n (a := 79) (z := 96) 53 rfl) (by omega) ?_
        refine w_top (y := T e) (by rw [hI1 79 (by decide)]; exact hT e (by omega)) ?_
        refine c_V (t := 6) (as := [_]) (d' := 1) dX6_advance_144 mlX6_45 moX6_goesOn mvX6_goesOn ⟨rfl, rfl⟩ rfl rfl rfl rfl rfl (by decide) (sX6_goesOn ?_)
        refine w_top (y := bI ((h = 256 ∧ isL (T e)) ∨ (h = 257 ∧ isD (T e)))) (by rw [g2]) ?_
        refine w_ifB_eq (tgt := 163) dX6_advance_147 (by decide) (fun c147 => ?_) (fun c147 => ?_)
        · exact lX6_advC hs hz hb hR hsz hh ⟨hse, by omega, hrun, Or.inr c147⟩ (fun i hi => by rw [hI1 79 (by decide)]; exact hT i hi) g1 g2 g3 g4 (fun I' h5 => hq I' (fun q hq => (h5 q hq).trans (hI1 q hq)))
        · refine w_aload_n dX6_advance_150 rfl ?_
          refine w_dup dX6_advance_151 rfl ?_
          refine w_getI dX6_advance_152 flX6_25 rfl ?_
          refine w_top (y := nI e) (g4) ?_
          refine w_iconst dX6_advance_155 ic_1 ?_
          refine w_iadd dX6_advance_156 ?_
          refine w_top (y := nI (e + 1)) (nI_1 e) ?_
          refine w_putI dX6_advance_157 flX6_25 rfl rfl rfl rfl ?_
          refine w_st (fun I2 hA2 hB2 hC2 => ?_)
          refine w_goto (tgt := 123) dX6_advance_160 (by decide) ?_
          refine ih (e + 1) I2 (by omega) (by omega) (fun q hq => (hA2 q hq).trans (hI1 q hq)) ((hB2 1 (by decide)).trans g1) ((hB2 2 (by decide)).trans g2) ((hB2 3 (by decide)).trans g3) hC2 (fun i a1 a2 => ?_)
          by_cases q : i = e
          · subst q; exact c147
          · exact hrun i a1 (by omega)
  refine w_putI dX6_advance_120 flX6_19 rfl rfl rfl rfl ?_
  refine w_st (fun I2 hA2 hB2 hC2 => ?_)
  exact lp (z - (s + 1)) (s + 1) I2 (by omega) (Nat.le_refl _) hA2 ((hB2 1 (by decide)).trans h1) hC2 ((hB2 3 (by decide)).trans h3) ((hB2 4 (by decide)).trans h4) (fun i a1 a2 => by omega)

set_option maxRecDepth 20000 in
theorem lX6_advA (hs : SK R N) {T : VV} {z p s : Nat} {w : Prop} (hz : z ≤ 96) (hb : BY T z) (hR : Rn isSp T z p s) (hT : ∀ i, i < z → I 79 i = T i) (h1 : I 78 1 = nI z) (h3 : I 78 3 = nI s) (hq : ∀ I' : HI, (∀ q, q ≠ 78 → I' q = I q) → TC I' T z (tkA T z p w) → Q vU I' L R N n) : WP sc 2 0 0 mX6_advance 56 [vR 6 78, vI (nI p), vI (bI w), vU] [] I L R N n Q := by
  refine w_aload_n dX6_advance_56 rfl ?_
  refine w_getI dX6_advance_57 flX6_22 rfl ?_
  refine w_top (y := nI s) (h3) ?_
  refine w_aload_n dX6_advance_60 rfl ?_
  refine w_getI dX6_advance_61 flX6_15 rfl ?_
  refine w_top (y := nI z) (h1) ?_
  refine w_icmp_lt (tgt := 72) dX6_advance_64 (by decide) (fun c64 => ?_) (fun c64 => ?_)
  · have hsz : s < z := (nI_ltI (by have := hR.2.1; omega) (by omega)).mp c64
    refine w_aload_n dX6_advance_72 rfl ?_
    refine w_getR dX6_advance_73 flX6_9 rfl (hs.r (a := 78) (j := 0) (b := 79) 82 rfl) ?_
    refine w_aload_n dX6_advance_76 rfl ?_
    refine w_getI dX6_advance_77 flX6_22 rfl ?_
    refine w_top (y := nI s) (h3) ?_
    refine w_iald dX6_advance_80 rfl (hs.n (a := 79) (z := 96) 53 rfl) (by omega) ?_
    refine w_top (y := T s) (hT s hsz) ?_
    refine w_istore_n (al' := [_, _, _, _]) dX6_advance_81 rfl rfl rfl ?_
    refine w_aload_n dX6_advance_82 rfl ?_
    refine w_aload_n dX6_advance_83 rfl ?_
    refine w_getI dX6_advance_84 flX6_22 rfl ?_
    refine w_top (y := nI s) (h3) ?_
    refine w_iconst dX6_advance_87 ic_1 ?_
    refine w_iadd dX6_advance_88 ?_
    refine w_top (y := nI (s + 1)) (nI_1 s) ?_
    refine w_putI dX6_advance_89 flX6_25 rfl rfl rfl rfl ?_
    refine w_st (fun I2 hA2 hB2 hC2 => ?_)
    refine w_aload_n dX6_advance_92 rfl ?_
    refine w_iload_n dX6_advance_93 rfl ?_
    refine c_S (as := [_]) (d' := 0) dX6_advance_94 (Or.inl mlX6_38) moX6_isLetter msX6_isLetter rfl rfl rfl rfl rfl (by decide) (sX6_isLetter ?_)
    refine w_ifB_eq (tgt := 106) dX6_advance_97 (by decide) (fun c97 => ?_) (fun c97 => ?_)
    · refine w_iload_n dX6_advance_106 rfl ?_
      refine c_S (as := [_]) (d' := 0) dX6_advance_107 (Or.inl mlX6_42) moX6_isDigit msX6_isDigit rfl rfl rfl rfl rfl (by decide) (sX6_isDigit ?_)
      refine w_ifB_eq (tgt := 119) dX6_advance_110 (by decide) (fun c110 => ?_) (fun c110 => ?_)
      · refine w_iload_n dX6_advance_119 rfl ?_
        exact lX6_advB hs hz hb hR hsz (Or.inr (Or.inr ⟨rfl, c97, c110⟩)) (fun i hi => by rw [hA2 79 (by decide)]; exact hT i hi) ((hB2 1 (by decide)).trans h1) ((hB2 3 (by decide)).trans h3) hC2 (fun I' h5 => hq I' (fun q hq => (h5 q hq).trans (hA2 q hq)))
      · refine w_sipush dX6_advance_113 sp_257 ?_
        refine w_goto (tgt := 120) dX6_advance_116 (by decide) ?_
        exact lX6_advB hs hz hb hR hsz (Or.inr (Or.inl ⟨rfl, c97, c110⟩)) (fun i hi => by rw [hA2 79 (by decide)]; exact hT i hi) ((hB2 1 (by decide)).trans h1) ((hB2 3 (by decide)).trans h3) hC2 (fun I' h5 => hq I' (fun q hq => (h5 q hq).trans (hA2 q hq)))
    · refine w_sipush dX6_advance_100 sp_256 ?_
      refine w_goto (tgt := 120) dX6_advance_103 (by decide) ?_
      exact lX6_advB hs hz hb hR hsz (Or.inl ⟨rfl, c97⟩) (fun i hi => by rw [hA2 79 (by decide)]; exact hT i hi) ((hB2 1 (by decide)).trans h1) ((hB2 3 (by decide)).trans h3) hC2 (fun I' h5 => hq I' (fun q hq => (h5 q hq).trans (hA2 q hq)))
  · have e : s = z := by have := hR.2.1; rcases Nat.lt_or_ge s z with q | q; exact absurd (nI_lt q (by omega)) c64; omega
    subst e
    refine w_aload_n dX6_advance_67 rfl ?_
    refine c_Vv (t := 6) (as := []) (d' := 0) dX6_advance_68 mlX6_35 moX6_runOut mvX6_runOut ⟨rfl, rfl⟩ rfl rfl rfl rfl rfl (by decide) (sX6_runOut (fun I2 hA2 hB2 h42 h22 => ?_))
    refine w_return dX6_advance_71 rfl ?_
    refine hq I2 hA2 ?_
    rw [tk_end hR]
    exact ⟨(hB2 1 (by decide) (by decide)).trans h1, h22.trans (hnd_0 rfl).symm, (hB2 3 (by decide) (by decide)).trans h3, h42.trans h1, fun i hi => by rw [hA2 79 (by decide)]; exact hT i hi⟩

set_option maxRecDepth 20000 in
theorem sX6_advance (hs : SK R N) {T : VV} {z p : Nat} {w : Prop} (hz : z ≤ 96) (hb : BY T z) (hp : p ≤ z) (hT : ∀ i, i < z → I 79 i = T i) (h1 : I 78 1 = nI z) (h4 : I 78 4 = nI p) (hw : w ↔ (I 78 2 = 256 ∨ I 78 2 = 257)) (hq : ∀ I' : HI, (∀ q, q ≠ 78 → I' q = I q) → TC I' T z (tkA T z p w) → Q vU I' L R N n) : CA sc 2 0 0 mX6_advance [vR 6 78] I L R N n Q := by
  have lp : ∀ (k s : Nat) (I1 : HI), s + k = z → p ≤ s → (∀ q, q ≠ 78 → I1 q = I q) → I1 78 1 = nI z → I1 78 3 = nI s → (∀ i, p ≤ i → i < s → isSp (T i)) → WP sc 2 0 0 mX6_advance 18 [vR 6 78, vI (nI p), vI (bI w), vU] [] I1 L R N n Q := by
    intro k
    induction k with
    | zero =>
      intro s I1 hk hps hI1 g1 g3 hrun
      refine w_aload_n dX6_advance_18 rfl ?_
      refine w_getI dX6_advance_19 flX6_22 rfl ?_
      refine w_top (y := nI s) (g3) ?_
      refine w_aload_n dX6_advance_22 rfl ?_
      refine w_getI dX6_advance_23 flX6_15 rfl ?_
      refine w_top (y := nI z) (g1) ?_
      refine w_icmp_ge (tgt := 56) dX6_advance_26 (by decide) (fun c26 => ?_) (fun c26 => ?_)
      · exact lX6_advA hs hz hb ⟨hps, by omega, hrun, Or.inl (by omega)⟩ (fun i hi => by rw [hI1 79 (by decide)]; exact hT i hi) g1 g3 (fun I' h5 => hq I' (fun q hq => (h5 q hq).trans (hI1 q hq)))
      · exact absurd (nI_le (a := z) (by omega) (by omega)) c26
    | succ k ih =>
      intro s I1 hk hps hI1 g1 g3 hrun
      refine w_aload_n dX6_advance_18 rfl ?_
      refine w_getI dX6_advance_19 flX6_22 rfl ?_
      refine w_top (y := nI s) (g3) ?_
      refine w_aload_n dX6_advance_22 rfl ?_
      refine w_getI dX6_advance_23 flX6_15 rfl ?_
      refine w_top (y := nI z) (g1) ?_
      refine w_icmp_ge (tgt := 56) dX6_advance_26 (by decide) (fun c26 => ?_) (fun c26 => ?_)
      · exact absurd ((nI_leI (by omega) (by omega)).mp c26) (by omega)
      · refine w_aload_n dX6_advance_29 rfl ?_
        refine w_getR dX6_advance_30 flX6_9 rfl (hs.r (a := 78) (j := 0) (b := 79) 82 rfl) ?_
        refine w_aload_n dX6_advance_33 rfl ?_
        refine w_getI dX6_advance_34 flX6_22 rfl ?_
        refine w_top (y := nI s) (g3) ?_
        refine w_iald dX6_advance_37 rfl (hs.n (a := 79) (z := 96) 53 rfl) (by omega) ?_
        refine w_top (y := T s) (by rw [hI1 79 (by decide)]; exact hT s (by omega)) ?_
        refine w_bipush dX6_advance_38 bp_32 ?_
        refine w_icmp_ne (tgt := 56) dX6_advance_40 (by decide) (fun c40 => ?_) (fun c40 => ?_)
        · exact lX6_advA hs hz hb ⟨hps, by omega, hrun, Or.inr c40⟩ (fun i hi => by rw [hI1 79 (by decide)]; exact hT i hi) g1 g3 (fun I' h5 => hq I' (fun q hq => (h5 q hq).trans (hI1 q hq)))
        · refine w_aload_n dX6_advance_43 rfl ?_
          refine w_dup dX6_advance_44 rfl ?_
          refine w_getI dX6_advance_45 flX6_22 rfl ?_
          refine w_top (y := nI s) (g3) ?_
          refine w_iconst dX6_advance_48 ic_1 ?_
          refine w_iadd dX6_advance_49 ?_
          refine w_top (y := nI (s + 1)) (nI_1 s) ?_
          refine w_putI dX6_advance_50 flX6_22 rfl rfl rfl rfl ?_
          refine w_st (fun I2 hA2 hB2 hC2 => ?_)
          refine w_goto (tgt := 18) dX6_advance_53 (by decide) ?_
          refine ih (s + 1) I2 (by omega) (by omega) (fun q hq => (hA2 q hq).trans (hI1 q hq)) ((hB2 1 (by decide)).trans g1) hC2 (fun i a1 a2 => ?_)
          by_cases q : i = s
          · subst q; exact c40
          · exact hrun i a1 (by omega)
  refine ca_in (al := [_, _, _, _]) rfl ?_
  refine w_aload_n dX6_advance_0 rfl ?_
  refine w_getI dX6_advance_1 flX6_25 rfl ?_
  refine w_top (y := nI p) (h4) ?_
  refine w_istore_n (al' := [_, _, _, _]) dX6_advance_4 rfl rfl rfl ?_
  refine w_aload_n dX6_advance_5 rfl ?_
  refine c_V (t := 6) (as := []) (d' := 0) dX6_advance_6 mlX6_31 moX6_hasWord mvX6_hasWord ⟨rfl, rfl⟩ rfl rfl rfl rfl rfl (by decide) (sX6_hasWord ?_)
  refine w_top (y := bI w) (bI_c hw.symm) ?_
  refine w_istore_n (al' := [_, _, _, _]) dX6_advance_9 rfl rfl rfl ?_
  refine w_aload_n dX6_advance_10 rfl ?_
  refine w_aload_n dX6_advance_11 rfl ?_
  refine w_getI dX6_advance_12 flX6_25 rfl ?_
  refine w_top (y := nI p) (h4) ?_
  refine w_putI dX6_advance_15 flX6_22 rfl rfl rfl rfl ?_
  refine w_st (fun I2 hA2 hB2 hC2 => ?_)
  exact lp (z - p) p I2 (by omega) (Nat.le_refl _) hA2 ((hB2 1 (by decide)).trans h1) hC2 (fun i a1 a2 => by omega)

theorem sX6_next (hs : SK R N) {T : VV} {z : Nat} {t : TKN} (hz : z ≤ 96) (hb : BY T z) (ht : TO T z t) (hC : TC I T z t) (hq : ∀ I' : HI, (∀ q, q ≠ 78 → I' q = I q) → TC I' T z (nxT T z t) → Q vU I' L R N n) : CA sc 2 0 0 mX6_advance [vR 6 78] I L R N n Q := by
  obtain ⟨h1, h2, h3, h4, h5⟩ := hC
  obtain ⟨k1, k2, k3⟩ := hnd_k hb ht
  exact sX6_advance hs hz hb ht.2.1 h5 h1 h4 (by rw [h2, k2, k3]) hq
set_option maxRecDepth 20000 in
theorem sX6_rewind (hs : SK R N) {T : VV} {z : Nat} (hz : z ≤ 96) (hb : BY T z) (hT : ∀ i, i < z → I 79 i = T i) (h1 : I 78 1 = nI z) (hq : ∀ I' : HI, (∀ q, q ≠ 78 → I' q = I q) → TC I' T z (tkA T z 0 False) → Q vU I' L R N n) : CA sc 3 0 0 mX6_rewind [vR 6 78] I L R N n Q := by
  refine ca_in (al := [_]) rfl ?_
  refine w_aload_n dX6_rewind_0 rfl ?_
  refine w_iconst dX6_rewind_1 ic_0 ?_
  refine w_putI dX6_rewind_2 flX6_25 rfl rfl rfl rfl ?_
  refine w_st (fun I2 hA2 hB2 hC2 => ?_)
  refine w_aload_n dX6_rewind_5 rfl ?_
  refine w_iconst dX6_rewind_6 ic_m1 ?_
  refine w_putI dX6_rewind_7 flX6_19 rfl rfl rfl rfl ?_
  refine w_st (fun I3 hA3 hB3 hC3 => ?_)
  refine w_aload_n dX6_rewind_10 rfl ?_
  refine c_Vv (t := 6) (as := []) (d' := 2) dX6_rewind_11 mlX6_28 moX6_advance mvX6_advance ⟨rfl, rfl⟩ rfl rfl rfl rfl rfl (by decide) (sX6_advance hs hz hb (Nat.zero_le z) (w := False) (fun i hi => by rw [hA3 79 (by decide), hA2 79 (by decide)]; exact hT i hi) ((hB3 1 (by decide)).trans ((hB2 1 (by decide)).trans h1)) ((hB3 4 (by decide)).trans hC2) (by rw [hC3]; decide) (fun I4 hA4 hC4 => ?_))
  refine w_return dX6_rewind_14 rfl ?_
  exact hq I4 (fun q hq => (hA4 q hq).trans ((hA3 q hq).trans (hA2 q hq))) hC4

set_option maxRecDepth 20000 in
theorem sX6_number (hs : SK R N) {T : VV} {z : Nat} {t : TKN} (hz : z ≤ 96) (ht : TO T z t) (hC : TC I T z t) (hq : Q (vI (numF T t.1 (t.2.1 - t.1))) I L R N n) : CA sc 0 0 0 mX6_number [vR 6 78] I L R N n Q := by
  obtain ⟨h1, h2, h3, h4, h5⟩ := hC
  have hto := ht.1
  have hto2 := ht.2.1
  have lp : ∀ (k j : Nat), t.1 + j + k = t.2.1 → WP sc 0 0 0 mX6_number 7 [vR 6 78, vI (numF T t.1 j), vI (nI (t.1 + j))] [] I L R N n Q := by
    intro k
    induction k with
    | zero =>
      intro j hj
      refine w_iload_n dX6_number_7 rfl ?_
      refine w_aload_n dX6_number_8 rfl ?_
      refine w_getI dX6_number_9 flX6_25 rfl ?_
      refine w_top (y := nI t.2.1) (h4) ?_
      refine w_icmp_ge (tgt := 44) dX6_number_12 (by decide) (fun c12 => ?_) (fun c12 => ?_)
      · obtain rfl : j = t.2.1 - t.1 := by omega
        refine w_iload_n dX6_number_44 rfl ?_
        refine w_ireturn dX6_number_45 rfl rfl ?_
        exact hq
      · exact absurd (nI_le (a := t.2.1) (by omega) (by omega)) c12
    | succ k ih =>
      intro j hj
      refine w_iload_n dX6_number_7 rfl ?_
      refine w_aload_n dX6_number_8 rfl ?_
      refine w_getI dX6_number_9 flX6_25 rfl ?_
      refine w_top (y := nI t.2.1) (h4) ?_
      refine w_icmp_ge (tgt := 44) dX6_number_12 (by decide) (fun c12 => ?_) (fun c12 => ?_)
      · exact absurd ((nI_leI (by omega) (by omega)).mp c12) (by omega)
      · refine w_iload_n dX6_number_15 rfl ?_
        refine w_aload_n dX6_number_16 rfl ?_
        refine w_getI dX6_number_17 flX6_15 rfl ?_
        refine w_top (y := nI z) (h1) ?_
        refine w_icmp_ge (tgt := 44) dX6_number_20 (by decide) (fun c20 => ?_) (fun c20 => ?_)
        · exact absurd ((nI_leI (by omega) (by omega)).mp c20) (by omega)
        · refine w_iload_n dX6_number_23 rfl ?_
          refine w_bipush dX6_number_24 bp_10 ?_
          refine w_imul dX6_number_26 ?_
          refine w_aload_n dX6_number_27 rfl ?_
          refine w_getR dX6_number_28 flX6_9 rfl (hs.r (a := 78) (j := 0) (b := 79) 82 rfl) ?_
          refine w_iload_n dX6_number_31 rfl ?_
          refine w_iald dX6_number_32 rfl (hs.n (a := 79) (z := 96) 53 rfl) (by omega) ?_
          refine w_top (y := T (t.1 + j)) (h5 _ (by omega)) ?_
          refine w_iadd dX6_number_33 ?_
          refine w_bipush dX6_number_34 bp_48 ?_
          refine w_isub dX6_number_36 ?_
          refine w_istore_n (al' := [_, _, _]) dX6_number_37 rfl rfl rfl ?_
          refine w_iinc (al' := [_, _, _]) dX6_number_38 rfl rfl ic_1 rfl ?_
          refine w_goto (tgt := 7) dX6_number_41 (by decide) ?_
          rw [nI_1]
          exact ih (j + 1) (by omega)
  refine ca_in (al := [_, _, _]) rfl ?_
  refine w_iconst dX6_number_0 ic_0 ?_
  refine w_istore_n (al' := [_, _, _]) dX6_number_1 rfl rfl rfl ?_
  refine w_aload_n dX6_number_2 rfl ?_
  refine w_getI dX6_number_3 flX6_22 rfl ?_
  refine w_top (y := nI t.1) (h3) ?_
  refine w_istore_n (al' := [_, _, _]) dX6_number_6 rfl rfl rfl ?_
  exact lp (t.2.1 - t.1) 0 (by omega)

def nmT (T : VV) (key : Nat) (t : TKN) : Int32 := if t.2.2 = 1 ∧ t.2.1 - t.1 = 1 then nmB key (T t.1) else -1
set_option maxRecDepth 20000 in
theorem sX6_placeIn (hs : SK R N) {T : VV} {z key : Nat} {t : TKN} (hz : z ≤ 96) (hb : BY T z) (hk : key ≤ 2) (ht : TO T z t) (hC : TC I T z t) (hq : Q (vI (nmT T key t)) I L R N n) : CA sc 7 0 0 mX6_placeIn [vR 6 78, vS (5 + (3 + key))] I L R N n Q := by
  obtain ⟨h1, h2, h3, h4, h5⟩ := hC
  have hto := ht.1
  have hto2 := ht.2.1
  obtain ⟨k1, k2, k3⟩ := hnd_k hb ht
  refine ca_in (al := [_, _]) rfl ?_
  refine w_aload_n dX6_placeIn_0 rfl ?_
  refine w_getI dX6_placeIn_1 flX6_19 rfl ?_
  refine w_top (y := hnd T t) (h2) ?_
  refine w_sipush dX6_placeIn_4 sp_256 ?_
  refine w_icmp_ne (tgt := 34) dX6_placeIn_7 (by decide) (fun c7 => ?_) (fun c7 => ?_)
  · have e : nmT T key t = -1 := if_neg (fun q => c7 (k2.mpr q.1))
    rw [e] at hq
    refine w_iconst dX6_placeIn_34 ic_m1 ?_
    refine w_ireturn dX6_placeIn_35 rfl rfl ?_
    exact hq
  · have hk1 := k2.mp c7
    have hlt := ht.2.2.2.1 (by omega)
    refine w_aload_n dX6_placeIn_10 rfl ?_
    refine w_getI dX6_placeIn_11 flX6_25 rfl ?_
    refine w_top (y := nI t.2.1) (h4) ?_
    refine w_aload_n dX6_placeIn_14 rfl ?_
    refine w_getI dX6_placeIn_15 flX6_22 rfl ?_
    refine w_top (y := nI t.1) (h3) ?_
    refine w_isub dX6_placeIn_18 ?_
    refine w_top (y := nI (t.2.1 - t.1)) (nI_sub hto) ?_
    refine w_iconst dX6_placeIn_19 ic_1 ?_
    refine w_icmp_ne (tgt := 34) dX6_placeIn_20 (by decide) (fun c20 => ?_) (fun c20 => ?_)
    · have e : nmT T key t = -1 := if_neg (fun q => c20 (by rw [q.2]; rfl))
      rw [e] at hq
      refine w_iconst dX6_placeIn_34 ic_m1 ?_
      refine w_ireturn dX6_placeIn_35 rfl rfl ?_
      exact hq
    · have h11 : t.2.1 - t.1 = 1 := (nI_eq (b := 1) (by omega) (by decide)).mp c20
      refine w_aload_n dX6_placeIn_23 rfl ?_
      refine w_getI dX6_placeIn_24 flX6_22 rfl ?_
      refine w_top (y := nI t.1) (h3) ?_
      refine w_aload_n dX6_placeIn_27 rfl ?_
      refine w_getI dX6_placeIn_28 flX6_15 rfl ?_
      refine w_top (y := nI z) (h1) ?_
      refine w_icmp_lt (tgt := 36) dX6_placeIn_31 (by decide) (fun c31 => ?_) (fun c31 => ?_)
      · refine w_aload_nS dX6_placeIn_36 rfl ?_
        refine w_aload_n dX6_placeIn_37 rfl ?_
        refine w_getR dX6_placeIn_38 flX6_9 rfl (hs.r (a := 78) (j := 0) (b := 79) 82 rfl) ?_
        refine w_aload_n dX6_placeIn_41 rfl ?_
        refine w_getI dX6_placeIn_42 flX6_22 rfl ?_
        refine w_top (y := nI t.1) (h3) ?_
        refine w_iald dX6_placeIn_45 rfl (hs.n (a := 79) (z := 96) 53 rfl) (by omega) ?_
        obtain ⟨c, -, hc, ec⟩ := hb t.1 (by omega)
        refine w_top (y := nI c) ((h5 _ (by omega)).trans ec) ?_
        refine w_i2c dX6_placeIn_46 ?_
        refine w_top (y := nI c) ((by_and (by omega)).2) ?_
        have hcl : c < 128 := by have h7 := (ht.2.2.2.2.1 hk1).2; rw [ec] at h7; have := (nI_leI (b := 122) (by omega) (by decide)).mp h7; omega
        refine c_T (j := 3 + key) (as := [_]) (d' := 6) dX6_placeIn_47 mlX6_58 moJ0_indexOf_0f7a4 mvJ0_indexOf_0f7a4 (by omega) rfl rfl rfl rfl rfl rfl (by decide) (sJ0_indexOf (j := 3 + key) (by omega) rfl (by rcases (show key = 0 ∨ key = 1 ∨ key = 2 by omega) with rfl | rfl | rfl <;> decide) hcl ?_)
        refine w_top (y := nmT T key t) (by rw [ix_nm hk]; unfold nmT; rw [if_pos ⟨hk1, h11⟩, ec]) ?_
        refine w_ireturn dX6_placeIn_50 rfl rfl ?_
        exact hq
      · exact absurd (nI_lt (by omega) (by omega)) c31

def wdP (T : VV) (t : TKN) (j : Nat) : Prop := t.2.2 = 1 ∧ t.2.1 - t.1 = stN.getD j 0 ∧ ∀ i, i < stN.getD j 0 → T (t.1 + i) = (stB.getD j []).getD i 0
noncomputable def kyI (T : VV) (t : TKN) : Int32 := cif (wdP T t 0) 0 (cif (wdP T t 1) 1 (cif (wdP T t 2) 2 (-1000000005)))
set_option maxRecDepth 20000 in
theorem sX6_isWord (hs : SK R N) {T : VV} {z j : Nat} {t : TKN} (hz : z ≤ 96) (hb : BY T z) (hj : j < 3) (ht : TO T z t) (hC : TC I T z t) (hq : Q (vI (bI (wdP T t j))) I L R N n) : CA sc 5 0 0 mX6_isWord [vR 6 78, vS (5 + j)] I L R N n Q := by
  obtain ⟨h1, h2, h3, h4, h5⟩ := hC
  have hto := ht.1
  have hto2 := ht.2.1
  obtain ⟨k1, k2, k3⟩ := hnd_k hb ht
  obtain ⟨l, hl⟩ : ∃ l, stN.getD j 0 = l := ⟨_, rfl⟩
  have hl6 : l ≤ 6 := by rw [← hl]; rcases (show j = 0 ∨ j = 1 ∨ j = 2 by omega) with rfl | rfl | rfl <;> decide
  refine ca_in (al := [_, _, _]) rfl ?_
  refine w_aload_n dX6_isWord_0 rfl ?_
  refine w_getI dX6_isWord_1 flX6_19 rfl ?_
  refine w_top (y := hnd T t) (h2) ?_
  refine w_sipush dX6_isWord_4 sp_256 ?_
  refine w_icmp_ne (tgt := 26) dX6_isWord_7 (by decide) (fun c7 => ?_) (fun c7 => ?_)
  · have hno : ¬ wdP T t j := fun q => c7 (k2.mpr q.1)
    refine w_iconst dX6_isWord_26 ic_0 ?_
    refine w_ireturn dX6_isWord_27 rfl rfl ?_
    exact q_0 hno hq
  · have hk1 := k2.mp c7
    refine w_aload_n dX6_isWord_10 rfl ?_
    refine w_getI dX6_isWord_11 flX6_25 rfl ?_
    refine w_top (y := nI t.2.1) (h4) ?_
    refine w_aload_n dX6_isWord_14 rfl ?_
    refine w_getI dX6_isWord_15 flX6_22 rfl ?_
    refine w_top (y := nI t.1) (h3) ?_
    refine w_isub dX6_isWord_18 ?_
    refine w_top (y := nI (t.2.1 - t.1)) (nI_sub hto) ?_
    refine w_aload_nS dX6_isWord_19 rfl ?_
    refine c_T (j := j) (as := []) (d' := 1) dX6_isWord_20 mlX6_48 moJ0_length_8abf5 mvJ0_length_8abf5 (by omega) rfl rfl rfl rfl rfl rfl (by decide) (sJ0_length (by omega) hl (by omega) ?_)
    refine w_icmp_eq (tgt := 28) dX6_isWord_23 (by decide) (fun c23 => ?_) (fun c23 => ?_)
    · have hel : t.2.1 - t.1 = l := (nI_eq (by omega) (by omega)).mp c23
      refine w_iconst dX6_isWord_28 ic_0 ?_
      refine w_istore_n (al' := [_, _, _]) dX6_isWord_29 rfl rfl rfl ?_
      have lp : ∀ (k i : Nat), i + k = l → (∀ x, x < i → T (t.1 + x) = (stB.getD j []).getD x 0) → WP sc 5 0 0 mX6_isWord 30 [vR 6 78, vS (5 + j), vI (nI i)] [] I L R N n Q := by
        intro k
        induction k with
        | zero =>
          intro i hi hrun
          refine w_iload_n dX6_isWord_30 rfl ?_
          refine w_aload_nS dX6_isWord_31 rfl ?_
          refine c_T (j := j) (as := []) (d' := 1) dX6_isWord_32 mlX6_48 moJ0_length_8abf5 mvJ0_length_8abf5 (by omega) rfl rfl rfl rfl rfl rfl (by decide) (sJ0_length (by omega) hl (by omega) ?_)
          refine w_icmp_ge (tgt := 78) dX6_isWord_35 (by decide) (fun c35 => ?_) (fun c35 => ?_)
          · refine w_iconst dX6_isWord_78 ic_1 ?_
            refine w_ireturn dX6_isWord_79 rfl rfl ?_
            exact q_1 ⟨hk1, by rw [hl]; exact hel, fun x hx => hrun x (by omega)⟩ hq
          · exact absurd (nI_le (a := l) (by omega) (by omega)) c35
        | succ k ih =>
          intro i hi hrun
          refine w_iload_n dX6_isWord_30 rfl ?_
          refine w_aload_nS dX6_isWord_31 rfl ?_
          refine c_T (j := j) (as := []) (d' := 1) dX6_isWord_32 mlX6_48 moJ0_length_8abf5 mvJ0_length_8abf5 (by omega) rfl rfl rfl rfl rfl rfl (by decide) (sJ0_length (by omega) hl (by omega) ?_)
          refine w_icmp_ge (tgt := 78) dX6_isWord_35 (by decide) (fun c35 => ?_) (fun c35 => ?_)
          · exact absurd ((nI_leI (by omega) (by omega)).mp c35) (by omega)
          · refine w_aload_n dX6_isWord_38 rfl ?_
            refine w_getI dX6_isWord_39 flX6_22 rfl ?_
            refine w_top (y := nI t.1) (h3) ?_
            refine w_iload_n dX6_isWord_42 rfl ?_
            refine w_iadd dX6_isWord_43 ?_
            refine w_top (y := nI (t.1 + i)) (nI_add _ _) ?_
            refine w_aload_n dX6_isWord_44 rfl ?_
            refine w_getI dX6_isWord_45 flX6_15 rfl ?_
            refine w_top (y := nI z) (h1) ?_
            refine w_icmp_ge (tgt := 78) dX6_isWord_48 (by decide) (fun c48 => ?_) (fun c48 => ?_)
            · exact absurd ((nI_leI (by omega) (by omega)).mp c48) (by omega)
            · refine w_aload_n dX6_isWord_51 rfl ?_
              refine w_getR dX6_isWord_52 flX6_9 rfl (hs.r (a := 78) (j := 0) (b := 79) 82 rfl) ?_
              refine w_aload_n dX6_isWord_55 rfl ?_
              refine w_getI dX6_isWord_56 flX6_22 rfl ?_
              refine w_top (y := nI t.1) (h3) ?_
              refine w_iload_n dX6_isWord_59 rfl ?_
              refine w_iadd dX6_isWord_60 ?_
              refine w_top (y := nI (t.1 + i)) (nI_add _ _) ?_
              refine w_iald dX6_isWord_61 rfl (hs.n (a := 79) (z := 96) 53 rfl) (by omega) ?_
              refine w_top (y := T (t.1 + i)) (h5 _ (by omega)) ?_
              refine w_aload_nS dX6_isWord_62 rfl ?_
              refine w_iload_n dX6_isWord_63 rfl ?_
              refine c_T (j := j) (as := [_]) (d' := 4) dX6_isWord_64 mlX6_54 moJ0_charAt_5068e mvJ0_charAt_5068e (by omega) rfl rfl rfl rfl rfl rfl (by decide) (sJ0_charAt (by omega) hl (by omega) (by omega) ?_)
              refine w_icmp_eq (tgt := 72) dX6_isWord_67 (by decide) (fun c67 => ?_) (fun c67 => ?_)
              · refine w_iinc (al' := [_, _, _]) dX6_isWord_72 rfl rfl ic_1 rfl ?_
                refine w_goto (tgt := 30) dX6_isWord_75 (by decide) ?_
                rw [nI_1]
                refine ih (i + 1) (by omega) (fun x hx => ?_)
                by_cases q : x = i
                · subst q; exact c67
                · exact hrun x (by omega)
              · refine w_iconst dX6_isWord_70 ic_0 ?_
                refine w_ireturn dX6_isWord_71 rfl rfl ?_
                exact q_0 (fun q => c67 (q.2.2 i (by omega))) hq
      exact lp l 0 (Nat.zero_add l) (fun x hx => absurd hx (Nat.not_lt_zero x))
    · have hno : ¬ wdP T t j := fun q => c23 (by rw [q.2.1, hl])
      refine w_iconst dX6_isWord_26 ic_0 ?_
      refine w_ireturn dX6_isWord_27 rfl rfl ?_
      exact q_0 hno hq

end
