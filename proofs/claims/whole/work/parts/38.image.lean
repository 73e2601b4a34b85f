section
variable {sc : SC} {I : HI} {L : HL} {R : HR} {N : HN} {n : Nat} {Q : HQ}
def mixV (A B : VV) : VV := fun j => if j < 1452 then A j else B j
theorem mix_lo (A B : VV) {j : Nat} (h : j < 1452) : mixV A B j = A j := if_pos h
theorem hgt_ext {c c' : Nat → Int32} : ∀ {m : Nat}, (∀ j, j < m → c' j = c j) → hgt c' m = hgt c m
  | 0, _ => rfl
  | m + 1, h => by rw [hgt, hgt, hgt_ext (fun j hj => h j (by omega)), h m (by omega)]
theorem lastT_ext {V V' : VV} (h : ∀ j, j < 1452 → V' j = V j) (key : Nat) : ∀ n, n ≤ 14 → lastT V' key n = lastT V key n
  | 0, _ => rfl
  | n + 1, hn => by rw [lastT, lastT, h (80 + 2 * n) (by omega), lastT_ext h key n (by omega)]
theorem ext_n {V V' : VV} (h : ∀ j, j < 1452 → V' j = V j) : nS V' = nS V ∧ nRu V' = nRu V ∧ nTx V' = nTx V := by
  unfold nS nRu nTx
  rw [h 1 (by omega), h 2 (by omega), h 5 (by omega)]
  exact ⟨rfl, rfl, rfl⟩
theorem ext_t {V V' : VV} (h : ∀ j, j < 1452 → V' j = V j) {t : Nat} (ht : t < 14) : tKey V' t = tKey V t ∧ tLen V' t = tLen V t ∧ V' (80 + 2 * t) = V (80 + 2 * t) ∧ V' (80 + 2 * t + 1) = V (80 + 2 * t + 1) ∧ ∀ j, j < 96 → tCode V' t j = tCode V t j := by
  unfold tKey tLen tCode
  rw [h (80 + 2 * t) (by omega), h (80 + 2 * t + 1) (by omega)]
  exact ⟨rfl, rfl, rfl, rfl, fun j hj => h _ (by omega)⟩
theorem VO.ext {V V' : VV} (h : ∀ j, j < 1452 → V' j = V j) (hV : VO V) : VO V' := by
  obtain ⟨n1, n2, n3⟩ := ext_n h
  obtain ⟨a1, a2, a3, a4, a5, a6, a7, a8⟩ := hV
  refine ⟨by rw [n1, h 1 (by omega)]; exact a1, by rw [n2, h 2 (by omega)]; exact a2, by rw [n3, h 5 (by omega)]; exact a3, fun s hs => ?_, fun r hr => ?_, by rw [n2, h 3 (by omega)]; exact a6, by rw [h 4 (by omega)]; exact a7, fun t ht => ?_⟩
  · rw [n1] at hs
    unfold okSort
    rw [h _ (by omega), h _ (by omega)]; exact a4 s hs
  · rw [n2] at hr
    unfold okRule
    rw [h _ (by omega), h _ (by omega)]; exact a5 r hr
  · rw [n3] at ht
    obtain ⟨b1, b2, b3, b4, b5⟩ := ext_t h (show t < 14 by omega)
    obtain ⟨c1, c2, c3, c4, c5⟩ := a8 t ht
    unfold okText okCode
    rw [b1, b2, b3]
    exact ⟨c1, c2, c3, fun j hj => by rw [b5 j (by omega)]; exact c4 j hj, (hgt_ext (fun j hj => b5 j (by omega))).trans c5⟩
theorem WC.ext {V V' : VV} (h : ∀ j, j < 1452 → V' j = V j) {w : Nat} (hV : VO V) (hC : WC I R N n w V) : WC I R N n w V' := by
  obtain ⟨n1, n2, n3⟩ := ext_n h
  have h6 := hV.1.2
  have h8 := hV.2.1.2
  have h14 := hV.2.2.1.2
  obtain ⟨⟨x1, x2, x3, x4, x5, x6⟩, y, z, u, t⟩ := hC
  refine ⟨⟨by rw [h 1 (by omega)]; exact x1, by rw [h 2 (by omega)]; exact x2, by rw [h 3 (by omega)]; exact x3, by rw [h 4 (by omega)]; exact x4, by rw [h 5 (by omega)]; exact x5, by rw [h 0 (by omega)]; exact x6⟩, fun s hs q hq => by rw [n1] at hs; rw [h _ (by omega)]; exact y s hs q hq, fun r hr => ?_, fun k hk => ?_, fun k hk => ?_⟩
  · rw [n2] at hr
    exact ⟨by rw [h _ (by omega)]; exact (z r hr).1, fun j hj => by rw [h _ (by omega)]; exact (z r hr).2 j hj⟩
  · rw [u k hk]
    unfold cntI cntV
    rw [n3, lastT_ext h k _ h14]
  · rw [n3] at hk
    obtain ⟨b1, b2, b3, b4, b5⟩ := ext_t h (show k < 14 by omega)
    obtain ⟨a, c1, c2, c3, c4, c5, c6, c7, c8⟩ := t k hk
    have hl := (hV.2.2.2.2.2.2.2 k hk).2.1
    exact ⟨a, c1, c2, c3, c4, by rw [b2]; exact c5, by rw [b1]; exact c6, by rw [b4]; exact c7, fun j hj => by rw [b2] at hj; rw [b5 j (by omega)]; exact c8 j hj⟩
theorem nTx_c {V : VV} (hV : VO V) {v : Int32} (h : 0 ≤ v ∧ v ≤ V 5 - 1) : ∃ t, t < nTx V ∧ v = nI t := by
  rw [hV.2.2.1.1] at h
  exact pr_of (by have := hV.2.2.1.2; omega) h
theorem nTx_i {V : VV} (hV : VO V) {t : Nat} (h : t < nTx V) : 0 ≤ nI t ∧ nI t ≤ V 5 - 1 := by
  rw [hV.2.2.1.1]
  exact pr_to (by have := hV.2.2.1.2; omega) h

theorem mX10_copyAllA {a b : Nat} (hab : a ≠ b) (ha : N a = 1452) (hb : N b = 1452) (hq : Q vU (va_up I b (mixV (I a) (I b))) L R N n) : CA sc 0 0 0 mX10_copyAll [vR 12 a, vR 12 b] I L R N n Q := by
  have lp : ∀ (k j : Nat), j + k = 1452 → WP sc 0 0 0 mX10_copyAll 2 [vR 12 a, vR 12 b, vI (nI j)] [] (va_up I b (fun i => if i < j then I a i else I b i)) L R N n Q := by
    intro k
    induction k with
    | zero =>
      intro j hj
      refine w_iload_n dX10_copyAll_2 rfl ?_
      refine w_sipush dX10_copyAll_3 sp_1452 ?_
      refine w_icmp_ge (tgt := 21) dX10_copyAll_6 (by decide) (fun c6 => ?_) (fun c6 => ?_)
      · obtain rfl : j = 1452 := by omega
        refine w_return dX10_copyAll_21 rfl ?_
        exact hq
      · exact absurd (nI_le (a := 1452) (by omega) (by omega)) c6
    | succ k ih =>
      intro j hj
      refine w_iload_n dX10_copyAll_2 rfl ?_
      refine w_sipush dX10_copyAll_3 sp_1452 ?_
      refine w_icmp_ge (tgt := 21) dX10_copyAll_6 (by decide) (fun c6 => ?_) (fun c6 => ?_)
      · exact absurd ((nI_leI (a := 1452) (by omega) (by omega)).mp c6) (by omega)
      · refine w_aload_n dX10_copyAll_9 rfl ?_
        refine w_iload_n dX10_copyAll_10 rfl ?_
        refine w_aload_n dX10_copyAll_11 rfl ?_
        refine w_iload_n dX10_copyAll_12 rfl ?_
        refine w_iald dX10_copyAll_13 rfl ha (by omega) ?_
        refine w_top (y := I a j) (by rw [va_up_ne _ _ hab]) ?_
        refine w_iast dX10_copyAll_14 rfl hb (by omega) ?_
        refine w_iinc (al' := [_, _, _]) dX10_copyAll_15 rfl rfl ic_1 rfl ?_
        refine w_goto (tgt := 2) dX10_copyAll_18 (by decide) ?_
        simp only [nI_1]
        refine w_I ?_ (ih (j + 1) (by omega))
        rw [up_up, va_up_self]
        congr 1
        funext i
        by_cases e : i = j
        · subst e; rw [va_up_self, if_pos (by omega)]
        · rw [va_up_ne _ _ e]
          by_cases e2 : i < j
          · rw [if_pos e2, if_pos (by omega)]
          · rw [if_neg e2, if_neg (by omega)]
  refine ca_in (al := [_, _, _]) rfl ?_
  refine w_iconst dX10_copyAll_0 ic_0 ?_
  refine w_istore_n (al' := [_, _, _]) dX10_copyAll_1 rfl rfl rfl ?_
  refine w_I ?_ (lp 1452 0 rfl)
  have e : (fun i => if i < 0 then I a i else I b i) = I b := funext fun i => if_neg (Nat.not_lt_zero i)
  rw [e, up_id]
set_option maxRecDepth 20000 in
theorem sX9_keep (hs : SK R N) {V : VV} (hV : VO V) (hC : WC I R N n 1 V) (hq : ∀ (I' : HI) (R' : HR), (∀ q, (q < 30 ∨ 59 ≤ q) → q ≠ 0 → I' q = I q) → (∀ j, j ≠ 2 → I' 0 j = I 0 j) → I' 0 2 = 1 → SK R' N → WC I' R' N n 1 V → WC I' R' N n 30 V → Q (vI (V 1)) I' L R' N n) : CA sc 3 0 0 mX9_keep [vR 9 0] I L R N n Q := by
  refine ca_in (al := [_]) rfl ?_
  refine w_aload_n dX9_keep_0 rfl ?_
  refine w_getR dX9_keep_1 flX9_16 rfl (hs.r (a := 0) (j := 1) (b := 30) 1 rfl) ?_
  refine w_aload_n dX9_keep_4 rfl ?_
  refine w_getR dX9_keep_5 flX9_10 rfl (hs.r (a := 0) (j := 0) (b := 1) 0 rfl) ?_
  refine c_Vv (t := 8) (as := [_]) (d' := 2) dX9_keep_8 mlX9_331 moX8_become mvX8_become ⟨rfl, rfl⟩ rfl rfl rfl rfl rfl (by decide) (sX8_become hs (w := 30) (w2 := 1) (Or.inr rfl) (Or.inl rfl) (by decide) (fun I2 R2 hI2 hP2 hR2 hT2 => ?_))
  obtain ⟨hC30, hC1⟩ := hC.copy hV (Or.inr ⟨rfl, rfl⟩) hI2 hP2 hR2 hT2
  have hs := hs.upR (w := 30) (Or.inr rfl) hR2
  refine w_aload_n dX9_keep_11 rfl ?_
  refine w_iconst dX9_keep_12 ic_1 ?_
  refine w_putI dX9_keep_13 flX9_19 rfl rfl rfl rfl ?_
  refine w_st (fun I3 hA3 hB3 hC3 => ?_)
  refine w_aload_n dX9_keep_16 rfl ?_
  refine w_getR dX9_keep_17 flX9_16 rfl (hs.r (a := 0) (j := 1) (b := 30) 1 rfl) ?_
  refine w_getI dX9_keep_20 flX9_94 rfl ?_
  refine w_top (y := V 1) (by rw [hA3 30 (by decide)]; exact hC30.1.1) ?_
  refine w_ireturn dX9_keep_23 rfl rfl ?_
  exact hq I3 R2 (fun q h h0 => (hA3 q h0).trans (hI2 q (by omega))) (fun j hj => by rw [hB3 j hj, hI2 0 (by decide)]) hC3 hs (hC1.keep hV (fun z hz => hA3 z (by unfold WA at hz; omega))) (hC30.keep hV (fun z hz => hA3 z (by unfold WA at hz; omega)))

set_option maxRecDepth 20000 in
theorem sX9_backN (hs : SK R N) (h : I 0 2 = 0) (hq : Q (vI (-1000000002)) I L R N n) : CA sc 3 0 0 mX9_back [vR 9 0] I L R N n Q := by
  refine ca_in (al := [_]) rfl ?_
  refine w_aload_n dX9_back_0 rfl ?_
  refine w_getI dX9_back_1 flX9_19 rfl ?_
  refine w_top (y := 0) (h) ?_
  refine w_if_ne (tgt := 10) dX9_back_4 (by decide) (fun c4 => ?_) (fun c4 => ?_)
  · exact absurd rfl c4
  · refine w_ldc dX9_back_7 kcX9_197 ?_
    refine w_ireturn dX9_back_9 rfl rfl ?_
    exact hq

set_option maxRecDepth 20000 in
theorem sX9_back (hs : SK R N) (h : I 0 2 = 1) {V : VV} (hV : VO V) (hC : WC I R N n 30 V) (hq : ∀ (I' : HI) (R' : HR), (∀ q, (q < 1 ∨ 30 ≤ q) → I' q = I q) → SK R' N → WC I' R' N n 1 V → WC I' R' N n 30 V → Q (vI (V 1)) I' L R' N n) : CA sc 3 0 0 mX9_back [vR 9 0] I L R N n Q := by
  refine ca_in (al := [_]) rfl ?_
  refine w_aload_n dX9_back_0 rfl ?_
  refine w_getI dX9_back_1 flX9_19 rfl ?_
  refine w_top (y := 1) (h) ?_
  refine w_if_ne (tgt := 10) dX9_back_4 (by decide) (fun c4 => ?_) (fun c4 => ?_)
  · refine w_aload_n dX9_back_10 rfl ?_
    refine w_getR dX9_back_11 flX9_10 rfl (hs.r (a := 0) (j := 0) (b := 1) 0 rfl) ?_
    refine w_aload_n dX9_back_14 rfl ?_
    refine w_getR dX9_back_15 flX9_16 rfl (hs.r (a := 0) (j := 1) (b := 30) 1 rfl) ?_
    refine c_Vv (t := 8) (as := [_]) (d' := 2) dX9_back_18 mlX9_331 moX8_become mvX8_become ⟨rfl, rfl⟩ rfl rfl rfl rfl rfl (by decide) (sX8_become hs (w := 1) (w2 := 30) (Or.inl rfl) (Or.inr rfl) (by decide) (fun I2 R2 hI2 hP2 hR2 hT2 => ?_))
    obtain ⟨hC1, hC30⟩ := hC.copy hV (Or.inl ⟨rfl, rfl⟩) hI2 hP2 hR2 hT2
    have hs := hs.upR (w := 1) (Or.inl rfl) hR2
    refine w_aload_n dX9_back_21 rfl ?_
    refine w_getR dX9_back_22 flX9_10 rfl (hs.r (a := 0) (j := 0) (b := 1) 0 rfl) ?_
    refine w_getI dX9_back_25 flX9_94 rfl ?_
    refine w_top (y := V 1) (hC1.1.1) ?_
    refine w_ireturn dX9_back_28 rfl rfl ?_
    exact hq I2 R2 hI2 hs hC1 hC30
  · exact absurd c4 (by decide)

set_option maxRecDepth 20000 in
theorem sX10_keep (hs : SK R N) (hq : ∀ I' : HI, (∀ q, q ≠ 117 → q ≠ 119 → I' q = I q) → (∀ j, j ≠ 3 → I' 117 j = I 117 j) → I' 117 3 = 1 → I' 119 = mixV (I 118) (I 119) → Q (vI (I 118 1)) I' L R N n) : CA sc 1 0 0 mX10_keep [vR 10 117] I L R N n Q := by
  refine ca_in (al := [_]) rfl ?_
  refine w_aload_n dX10_keep_0 rfl ?_
  refine w_getR dX10_keep_1 flX10_9 rfl (hs.r (a := 117) (j := 0) (b := 118) 116 rfl) ?_
  refine w_aload_n dX10_keep_4 rfl ?_
  refine w_getR dX10_keep_5 flX10_13 rfl (hs.r (a := 117) (j := 1) (b := 119) 117 rfl) ?_
  refine c_Sv (as := [_, _]) (d' := 0) dX10_keep_8 (Or.inl mlX10_293) moX10_copyAll msX10_copyAll rfl rfl rfl rfl rfl (by decide) (mX10_copyAllA (a := 118) (b := 119) (by decide) (hs.n (a := 118) (z := 1452) 72 rfl) (hs.n (a := 119) (z := 1452) 73 rfl) ?_)
  refine w_aload_n dX10_keep_11 rfl ?_
  refine w_iconst dX10_keep_12 ic_1 ?_
  refine w_putI dX10_keep_13 flX10_289 rfl rfl rfl rfl ?_
  refine w_aload_n dX10_keep_16 rfl ?_
  refine w_getR dX10_keep_17 flX10_9 rfl (hs.r (a := 117) (j := 0) (b := 118) 116 rfl) ?_
  refine w_iconst dX10_keep_20 ic_1 ?_
  refine w_iald (q := 1) dX10_keep_21 rfl (hs.n (a := 118) (z := 1452) 72 rfl) (by decide) ?_
  refine w_ireturn dX10_keep_22 rfl rfl ?_
  refine hq _ (fun q h1 h2 => by rw [va_up_ne _ _ h1, va_up_ne _ _ h2]) (fun j hj => by rw [va_up_self, va_up_ne _ _ hj, va_up_ne _ _ (by decide)]) (by rw [va_up_self, va_up_self]) (by rw [va_up_ne _ _ (by decide), va_up_self])

set_option maxRecDepth 20000 in
theorem sX10_backN (hs : SK R N) (h : I 117 3 = 0) (hq : Q (vI (-1000000002)) I L R N n) : CA sc 1 0 0 mX10_back [vR 10 117] I L R N n Q := by
  refine ca_in (al := [_]) rfl ?_
  refine w_aload_n dX10_back_0 rfl ?_
  refine w_getI dX10_back_1 flX10_289 rfl ?_
  refine w_top (y := 0) (h) ?_
  refine w_if_ne (tgt := 10) dX10_back_4 (by decide) (fun c4 => ?_) (fun c4 => ?_)
  · exact absurd rfl c4
  · refine w_ldc dX10_back_7 kcX10_204 ?_
    refine w_ireturn dX10_back_9 rfl rfl ?_
    exact hq

set_option maxRecDepth 20000 in
theorem sX10_back (hs : SK R N) (h : I 117 3 = 1) (hq : Q (vI (I 119 1)) (va_up I 118 (mixV (I 119) (I 118))) L R N n) : CA sc 1 0 0 mX10_back [vR 10 117] I L R N n Q := by
  refine ca_in (al := [_]) rfl ?_
  refine w_aload_n dX10_back_0 rfl ?_
  refine w_getI dX10_back_1 flX10_289 rfl ?_
  refine w_top (y := 1) (h) ?_
  refine w_if_ne (tgt := 10) dX10_back_4 (by decide) (fun c4 => ?_) (fun c4 => ?_)
  · refine w_aload_n dX10_back_10 rfl ?_
    refine w_getR dX10_back_11 flX10_13 rfl (hs.r (a := 117) (j := 1) (b := 119) 117 rfl) ?_
    refine w_aload_n dX10_back_14 rfl ?_
    refine w_getR dX10_back_15 flX10_9 rfl (hs.r (a := 117) (j := 0) (b := 118) 116 rfl) ?_
    refine c_Sv (as := [_, _]) (d' := 0) dX10_back_18 (Or.inl mlX10_293) moX10_copyAll msX10_copyAll rfl rfl rfl rfl rfl (by decide) (mX10_copyAllA (a := 119) (b := 118) (by decide) (hs.n (a := 119) (z := 1452) 73 rfl) (hs.n (a := 118) (z := 1452) 72 rfl) ?_)
    refine w_aload_n dX10_back_21 rfl ?_
    refine w_getR dX10_back_22 flX10_9 rfl (hs.r (a := 117) (j := 0) (b := 118) 116 rfl) ?_
    refine w_iconst dX10_back_25 ic_1 ?_
    refine w_iald (q := 1) dX10_back_26 rfl (hs.n (a := 118) (z := 1452) 72 rfl) (by decide) ?_
    refine w_top (y := I 119 1) (by rw [va_up_self]; exact mix_lo _ _ (by decide)) ?_
    refine w_ireturn dX10_back_27 rfl rfl ?_
    exact hq
  · exact absurd c4 (by decide)

set_option maxRecDepth 20000 in
theorem sX9_textTold (hs : SK R N) {V : VV} (hV : VO V) (hC : WC I R N n 1 V) {a b : Int32} (hq : Q (vI (oTextTold V a b)) I L R N n) : CA sc 2 0 0 mX9_textTold [vR 9 0, vI a, vI b] I L R N n Q := by
  refine ca_in (al := [_, _, _, _]) rfl ?_
  refine w_aload_n dX9_textTold_0 rfl ?_
  refine w_getR dX9_textTold_1 flX9_10 rfl (hs.r (a := 0) (j := 0) (b := 1) 0 rfl) ?_
  refine w_iload_n dX9_textTold_4 rfl ?_
  by_cases ha : 0 ≤ a ∧ a ≤ V 5 - 1
  · obtain ⟨t, ht, rfl⟩ := nTx_c hV ha
    have h14 := hV.2.2.1.2
    have hcl : (nI t).toNatClampNeg = t := nI_clamp (by omega)
    obtain ⟨ta, b1, b2, b3, b4, b5, b6, b7, b8⟩ := hC.2.2.2.2 t ht
    refine c_V (t := 8) (as := [_]) (d' := 1) dX9_textTold_5 mlX9_247 moX8_textAt mvX8_textAt ⟨rfl, rfl⟩ rfl rfl rfl rfl rfl (by decide) (sX8_textAtS hs (Or.inl rfl) (hC.1.2.2.2.2.1.trans hV.2.2.1.1) h14 ht b1 ?_)
    refine w_astore_n (al' := [_, _, _, _]) dX9_textTold_8 rfl rfl rfl ?_
    refine w_aload_n dX9_textTold_9 rfl ?_
    refine w_ifnullR dX9_textTold_10 ?_
    refine w_iload_n dX9_textTold_13 rfl ?_
    refine w_iconst dX9_textTold_14 ic_0 ?_
    refine w_iconst dX9_textTold_15 ic_1 ?_
    refine c_S (as := [_, _, _]) (d' := 0) dX9_textTold_16 (Or.inl mlX9_86) moX9_within msX9_within rfl rfl rfl rfl rfl (by decide) (sX9_within ?_)
    refine w_ifB_ne (tgt := 25) dX9_textTold_19 (by decide) (fun c19 => ?_) (fun c19 => ?_)
    · have e : oTextTold V (nI t) b = (if b = 0 then nI (tKey V t) else V (80 + 2 * t + 1)) := by unfold oTextTold; rw [cif_t ⟨nTx_i hV ht, c19⟩, hcl]
      rw [e] at hq
      refine w_iload_n dX9_textTold_25 rfl ?_
      refine w_if_ne (tgt := 36) dX9_textTold_26 (by decide) (fun c26 => ?_) (fun c26 => ?_)
      · rw [if_neg c26] at hq
        refine w_aload_n dX9_textTold_36 rfl ?_
        refine w_getI dX9_textTold_37 flX9_256 rfl ?_
        refine w_top (y := V (80 + 2 * t + 1)) (b7) ?_
        refine w_ireturn dX9_textTold_40 rfl rfl ?_
        exact hq
      · rw [if_pos c26] at hq
        refine w_aload_n dX9_textTold_29 rfl ?_
        refine w_getI dX9_textTold_30 flX9_251 rfl ?_
        refine w_top (y := nI (tKey V t)) (b6) ?_
        refine w_goto (tgt := 40) dX9_textTold_33 (by decide) ?_
        refine w_ireturn dX9_textTold_40 rfl rfl ?_
        exact hq
    · refine w_ldc dX9_textTold_22 kcX9_77 ?_
      refine w_ireturn dX9_textTold_24 rfl rfl ?_
      refine q_e (cif_f (fun z => by first | exact c19 z.2)) hq
  · refine c_V (t := 8) (as := [_]) (d' := 1) dX9_textTold_5 mlX9_247 moX8_textAt mvX8_textAt ⟨rfl, rfl⟩ rfl rfl rfl rfl rfl (by decide) (sX8_textAtN hs (Or.inl rfl) (by rw [hC.1.2.2.2.2.1]; exact ha) ?_)
    refine w_astore_nN (al' := [_, _, _, _]) dX9_textTold_8 rfl rfl rfl ?_
    refine w_aload_nN dX9_textTold_9 rfl ?_
    refine w_ifnullN (tgt := 22) dX9_textTold_10 (by decide) ?_
    refine w_ldc dX9_textTold_22 kcX9_77 ?_
    refine w_ireturn dX9_textTold_24 rfl rfl ?_
    refine q_e (cif_f (fun z => by first | exact ha z.1)) hq

set_option maxRecDepth 20000 in
theorem sX10_textTold (hs : SK R N) {V : VV} (hI : I 118 = V) (hV : VO V) {a b : Int32} (hq : Q (vI (oTextTold V a b)) I L R N n) : CA sc 1 0 0 mX10_textTold [vR 10 117, vI a, vI b] I L R N n Q := by
  refine ca_in (al := [_, _, _]) rfl ?_
  refine w_iload_n dX10_textTold_0 rfl ?_
  refine w_iconst dX10_textTold_1 ic_0 ?_
  refine w_aload_n dX10_textTold_2 rfl ?_
  refine w_getR dX10_textTold_3 flX10_9 rfl (hs.r (a := 117) (j := 0) (b := 118) 116 rfl) ?_
  refine w_iconst dX10_textTold_6 ic_5 ?_
  refine w_iald (q := 5) dX10_textTold_7 rfl (hs.n (a := 118) (z := 1452) 72 rfl) (by decide) ?_
  refine w_top (y := V 5) (congrFun hI 5) ?_
  refine w_iconst dX10_textTold_8 ic_1 ?_
  refine w_isub dX10_textTold_9 ?_
  refine c_S (as := [_, _, _]) (d' := 0) dX10_textTold_10 (Or.inl mlX10_97) moX10_in msX10_in rfl rfl rfl rfl rfl (by decide) (sX10_in ?_)
  refine w_ifB_eq (tgt := 25) dX10_textTold_13 (by decide) (fun c13 => ?_) (fun c13 => ?_)
  · refine w_ldc dX10_textTold_25 kcX10_101 ?_
    refine w_ireturn dX10_textTold_27 rfl rfl ?_
    refine q_e (cif_f (fun z => by first | exact c13 z.1)) hq
  · obtain ⟨t, ht, rfl⟩ := nTx_c hV c13
    have h14 := hV.2.2.1.2
    have hcl : (nI t).toNatClampNeg = t := nI_clamp (by omega)
    refine w_iload_n dX10_textTold_16 rfl ?_
    refine w_iconst dX10_textTold_17 ic_0 ?_
    refine w_iconst dX10_textTold_18 ic_1 ?_
    refine c_S (as := [_, _, _]) (d' := 0) dX10_textTold_19 (Or.inl mlX10_97) moX10_in msX10_in rfl rfl rfl rfl rfl (by decide) (sX10_in ?_)
    refine w_ifB_ne (tgt := 28) dX10_textTold_22 (by decide) (fun c22 => ?_) (fun c22 => ?_)
    · have e : oTextTold V (nI t) b = (if b = 0 then nI (tKey V t) else V (80 + 2 * t + 1)) := by unfold oTextTold; rw [cif_t ⟨nTx_i hV ht, c22⟩, hcl]
      rw [e] at hq
      refine w_iload_n dX10_textTold_28 rfl ?_
      refine w_if_ne (tgt := 50) dX10_textTold_29 (by decide) (fun c29 => ?_) (fun c29 => ?_)
      · rw [if_neg c29] at hq
        refine w_aload_n dX10_textTold_50 rfl ?_
        refine w_getR dX10_textTold_51 flX10_9 rfl (hs.r (a := 117) (j := 0) (b := 118) 116 rfl) ?_
        refine w_bipush dX10_textTold_54 bp_80 ?_
        refine w_iconst dX10_textTold_56 ic_2 ?_
        refine w_iload_n dX10_textTold_57 rfl ?_
        refine w_imul dX10_textTold_58 ?_
        refine w_iadd dX10_textTold_59 ?_
        refine w_top (y := nI (80 + 2 * t)) (by show nI 80 + nI 2 * nI t = _; rw [nI_mul, nI_add]) ?_
        refine w_iconst dX10_textTold_60 ic_1 ?_
        refine w_iadd dX10_textTold_61 ?_
        refine w_top (y := nI (80 + 2 * t + 1)) (nI_1 _) ?_
        refine w_iald dX10_textTold_62 rfl (hs.n (a := 118) (z := 1452) 72 rfl) (by omega) ?_
        refine w_top (y := V (80 + 2 * t + 1)) (congrFun hI _) ?_
        refine w_ireturn dX10_textTold_63 rfl rfl ?_
        exact hq
      · rw [if_pos c29] at hq
        refine w_aload_n dX10_textTold_32 rfl ?_
        refine w_getR dX10_textTold_33 flX10_9 rfl (hs.r (a := 117) (j := 0) (b := 118) 116 rfl) ?_
        refine w_bipush dX10_textTold_36 bp_80 ?_
        refine w_iconst dX10_textTold_38 ic_2 ?_
        refine w_iload_n dX10_textTold_39 rfl ?_
        refine w_imul dX10_textTold_40 ?_
        refine w_iadd dX10_textTold_41 ?_
        refine w_top (y := nI (80 + 2 * t)) (by show nI 80 + nI 2 * nI t = _; rw [nI_mul, nI_add]) ?_
        refine w_iald dX10_textTold_42 rfl (hs.n (a := 118) (z := 1452) 72 rfl) (by omega) ?_
        refine w_sipush dX10_textTold_43 sp_1000 ?_
        refine w_idiv dX10_textTold_46 (by decide) ?_
        refine w_top (y := nI (tKey V t)) (by rw [congrFun hI (80 + 2 * t)]; obtain ⟨k1, k2, k3, k4⟩ := hV.2.2.2.2.2.2.2 t ht; rw [k3]; show nI _ / nI 1000 = _; rw [nI_div (by omega) (by omega) (by omega)]; congr 1; omega) ?_
        refine w_goto (tgt := 63) dX10_textTold_47 (by decide) ?_
        refine w_ireturn dX10_textTold_63 rfl rfl ?_
        exact hq
    · refine w_ldc dX10_textTold_25 kcX10_101 ?_
      refine w_ireturn dX10_textTold_27 rfl rfl ?_
      refine q_e (cif_f (fun z => by first | exact c22 z.2)) hq

set_option maxRecDepth 20000 in
theorem sX9_tell (hs : SK R N) {z : Nat} {v : Int32} (hz : I 0 10 = nI z) (hz60 : z ≤ 60) (hq : ∀ I' : HI, (∀ q, q ≠ 0 → q ≠ 83 → I' q = I q) → (∀ j, j ≠ 10 → I' 0 j = I 0 j) → I' 0 10 = nI (if z < 60 then z + 1 else z) → (∀ j, I' 83 j = if z < 60 ∧ j = z then v else I 83 j) → Q (vI (if z < 60 then nI (z + 1) else -1000000003)) I' L R N n) : CA sc 0 0 0 mX9_tell [vR 9 0, vI v] I L R N n Q := by
  refine ca_in (al := [_, _]) rfl ?_
  refine w_aload_n dX9_tell_0 rfl ?_
  refine w_getI dX9_tell_1 flX9_67 rfl ?_
  refine w_top (y := nI z) (hz) ?_
  refine w_bipush dX9_tell_4 bp_60 ?_
  refine w_icmp_lt (tgt := 12) dX9_tell_6 (by decide) (fun c6 => ?_) (fun c6 => ?_)
  · have hlt : z < 60 := (nI_ltI (b := 60) (by omega) (by omega)).mp c6
    refine w_aload_n dX9_tell_12 rfl ?_
    refine w_getR dX9_tell_13 flX9_63 rfl (hs.r (a := 0) (j := 9) (b := 83) 8 rfl) ?_
    refine w_aload_n dX9_tell_16 rfl ?_
    refine w_getI dX9_tell_17 flX9_67 rfl ?_
    refine w_top (y := nI z) (hz) ?_
    refine w_iload_n dX9_tell_20 rfl ?_
    refine w_iast dX9_tell_21 rfl (hs.n (a := 83) (z := 60) 57 rfl) (by omega) ?_
    refine w_st (fun I2 hA2 hB2 hC2 => ?_)
    refine w_aload_n dX9_tell_22 rfl ?_
    refine w_dup dX9_tell_23 rfl ?_
    refine w_getI dX9_tell_24 flX9_67 rfl ?_
    refine w_top (y := nI z) (by rw [hA2 0 (by decide)]; exact hz) ?_
    refine w_iconst dX9_tell_27 ic_1 ?_
    refine w_iadd dX9_tell_28 ?_
    refine w_top (y := nI (z + 1)) (nI_1 z) ?_
    refine w_putI dX9_tell_29 flX9_67 rfl rfl rfl rfl ?_
    refine w_st (fun I3 hA3 hB3 hC3 => ?_)
    refine w_aload_n dX9_tell_32 rfl ?_
    refine w_getI dX9_tell_33 flX9_67 rfl ?_
    refine w_top (y := nI (z + 1)) (hC3) ?_
    refine w_ireturn dX9_tell_36 rfl rfl ?_
    rw [if_pos hlt, if_pos hlt] at hq
    refine hq I3 (fun q h1 h2 => (hA3 q h1).trans (hA2 q h2)) (fun i hi => by rw [hB3 i hi, hA2 0 (by decide)]) hC3 (fun i => ?_)
    rw [hA3 83 (by decide)]
    by_cases e : i = z
    · rw [if_pos ⟨hlt, e⟩, e]; exact hC2
    · rw [if_neg (fun q => e q.2)]; exact hB2 i e
  · have hlt : ¬ z < 60 := fun q => c6 (nI_lt (b := 60) q (by omega))
    refine w_ldc dX9_tell_9 kcX9_228 ?_
    refine w_ireturn dX9_tell_11 rfl rfl ?_
    rw [if_neg hlt, if_neg hlt] at hq
    exact hq I (fun _ _ _ => rfl) (fun _ _ => rfl) hz (fun j => by rw [if_neg (fun q => hlt q.1)])

set_option maxRecDepth 20000 in
theorem sX10_tell (hs : SK R N) {z : Nat} {v : Int32} (hz : I 117 43 = nI z) (hz60 : z ≤ 60) (hq : ∀ I' : HI, (∀ q, q ≠ 117 → q ≠ 145 → I' q = I q) → (∀ j, j ≠ 43 → I' 117 j = I 117 j) → I' 117 43 = nI (if z < 60 then z + 1 else z) → (∀ j, I' 145 j = if z < 60 ∧ j = z then v else I 145 j) → Q (vI (if z < 60 then nI (z + 1) else -1000000003)) I' L R N n) : CA sc 0 0 0 mX10_tell [vR 10 117, vI v] I L R N n Q := by
  refine ca_in (al := [_, _]) rfl ?_
  refine w_aload_n dX10_tell_0 rfl ?_
  refine w_getI dX10_tell_1 flX10_286 rfl ?_
  refine w_top (y := nI z) (hz) ?_
  refine w_bipush dX10_tell_4 bp_60 ?_
  refine w_icmp_ne (tgt := 12) dX10_tell_6 (by decide) (fun c6 => ?_) (fun c6 => ?_)
  · have hlt : z < 60 := by have : z ≠ 60 := (fun q => c6 (by rw [q]; rfl)); omega
    refine w_aload_n dX10_tell_12 rfl ?_
    refine w_getR dX10_tell_13 flX10_93 rfl (hs.r (a := 117) (j := 42) (b := 145) 143 rfl) ?_
    refine w_aload_n dX10_tell_16 rfl ?_
    refine w_getI dX10_tell_17 flX10_286 rfl ?_
    refine w_top (y := nI z) (hz) ?_
    refine w_iload_n dX10_tell_20 rfl ?_
    refine w_iast dX10_tell_21 rfl (hs.n (a := 145) (z := 60) 99 rfl) (by omega) ?_
    refine w_st (fun I2 hA2 hB2 hC2 => ?_)
    refine w_aload_n dX10_tell_22 rfl ?_
    refine w_dup dX10_tell_23 rfl ?_
    refine w_getI dX10_tell_24 flX10_286 rfl ?_
    refine w_top (y := nI z) (by rw [hA2 117 (by decide)]; exact hz) ?_
    refine w_iconst dX10_tell_27 ic_1 ?_
    refine w_iadd dX10_tell_28 ?_
    refine w_top (y := nI (z + 1)) (nI_1 z) ?_
    refine w_putI dX10_tell_29 flX10_286 rfl rfl rfl rfl ?_
    refine w_st (fun I3 hA3 hB3 hC3 => ?_)
    refine w_aload_n dX10_tell_32 rfl ?_
    refine w_getI dX10_tell_33 flX10_286 rfl ?_
    refine w_top (y := nI (z + 1)) (hC3) ?_
    refine w_ireturn dX10_tell_36 rfl rfl ?_
    rw [if_pos hlt, if_pos hlt] at hq
    refine hq I3 (fun q h1 h2 => (hA3 q h1).trans (hA2 q h2)) (fun i hi => by rw [hB3 i hi, hA2 117 (by decide)]) hC3 (fun i => ?_)
    rw [hA3 145 (by decide)]
    by_cases e : i = z
    · rw [if_pos ⟨hlt, e⟩, e]; exact hC2
    · rw [if_neg (fun q => e q.2)]; exact hB2 i e
  · have hlt : ¬ z < 60 := by have := (nI_eq (b := 60) (by omega) (by omega)).mp c6; omega
    refine w_ldc dX10_tell_9 kcX10_102 ?_
    refine w_ireturn dX10_tell_11 rfl rfl ?_
    rw [if_neg hlt, if_neg hlt] at hq
    exact hq I (fun _ _ _ => rfl) (fun _ _ => rfl) hz (fun j => by rw [if_neg (fun q => hlt q.1)])

set_option maxRecDepth 20000 in
theorem sX9_trim (hs : SK R N) {z : Nat} {v : Int32} (hz : I 78 1 = nI z) (hq : ∀ I' : HI, (∀ q, q ≠ 78 → I' q = I q) → (∀ j, j ≠ 1 → I' 78 j = I 78 j) → I' 78 1 = cif (0 ≤ v ∧ v ≤ nI z) v (nI z) → Q (vI (cif (0 ≤ v ∧ v ≤ nI z) v (-1000000001))) I' L R N n) : CA sc 1 0 0 mX9_trim [vR 9 0, vI v] I L R N n Q := by
  refine ca_in (al := [_, _]) rfl ?_
  refine w_iload_n dX9_trim_0 rfl ?_
  refine w_iconst dX9_trim_1 ic_0 ?_
  refine w_aload_n dX9_trim_2 rfl ?_
  refine w_getR dX9_trim_3 flX9_47 rfl (hs.r (a := 0) (j := 6) (b := 77) 5 rfl) ?_
  refine w_getR dX9_trim_6 flX9_219 rfl (hs.r (a := 77) (j := 0) (b := 78) 80 rfl) ?_
  refine w_getI dX9_trim_9 flX9_223 rfl ?_
  refine w_top (y := nI z) (hz) ?_
  refine c_S (as := [_, _, _]) (d' := 0) dX9_trim_12 (Or.inl mlX9_86) moX9_within msX9_within rfl rfl rfl rfl rfl (by decide) (sX9_within ?_)
  refine w_ifB_ne (tgt := 21) dX9_trim_15 (by decide) (fun c15 => ?_) (fun c15 => ?_)
  · rw [cif_t c15, cif_t c15] at hq
    refine w_aload_n dX9_trim_21 rfl ?_
    refine w_getR dX9_trim_22 flX9_47 rfl (hs.r (a := 0) (j := 6) (b := 77) 5 rfl) ?_
    refine w_getR dX9_trim_25 flX9_219 rfl (hs.r (a := 77) (j := 0) (b := 78) 80 rfl) ?_
    refine w_iload_n dX9_trim_28 rfl ?_
    refine w_putI dX9_trim_29 flX9_223 rfl rfl rfl rfl ?_
    refine w_iload_n dX9_trim_32 rfl ?_
    refine w_ireturn dX9_trim_33 rfl rfl ?_
    exact hq _ (fun q h => va_up_ne _ _ h) (fun i hi => by rw [va_up_self, va_up_ne _ _ hi]) (by rw [va_up_self, va_up_self])
  · rw [cif_f c15, cif_f c15] at hq
    refine w_ldc dX9_trim_18 kcX9_77 ?_
    refine w_ireturn dX9_trim_20 rfl rfl ?_
    exact hq I (fun _ _ => rfl) (fun _ _ => rfl) hz

set_option maxRecDepth 20000 in
theorem sX10_trim (hs : SK R N) {z : Nat} {v : Int32} (hz : I 117 17 = nI z) (hq : ∀ I' : HI, (∀ q, q ≠ 117 → I' q = I q) → (∀ j, j ≠ 17 → I' 117 j = I 117 j) → I' 117 17 = cif (0 ≤ v ∧ v ≤ nI z) v (nI z) → Q (vI (cif (0 ≤ v ∧ v ≤ nI z) v (-1000000001))) I' L R N n) : CA sc 1 0 0 mX10_trim [vR 10 117, vI v] I L R N n Q := by
  refine ca_in (al := [_, _]) rfl ?_
  refine w_iload_n dX10_trim_0 rfl ?_
  refine w_iconst dX10_trim_1 ic_0 ?_
  refine w_aload_n dX10_trim_2 rfl ?_
  refine w_getI dX10_trim_3 flX10_207 rfl ?_
  refine w_top (y := nI z) (hz) ?_
  refine c_S (as := [_, _, _]) (d' := 0) dX10_trim_6 (Or.inl mlX10_97) moX10_in msX10_in rfl rfl rfl rfl rfl (by decide) (sX10_in ?_)
  refine w_ifB_ne (tgt := 15) dX10_trim_9 (by decide) (fun c9 => ?_) (fun c9 => ?_)
  · rw [cif_t c9, cif_t c9] at hq
    refine w_aload_n dX10_trim_15 rfl ?_
    refine w_iload_n dX10_trim_16 rfl ?_
    refine w_putI dX10_trim_17 flX10_207 rfl rfl rfl rfl ?_
    refine w_iload_n dX10_trim_20 rfl ?_
    refine w_ireturn dX10_trim_21 rfl rfl ?_
    exact hq _ (fun q h => va_up_ne _ _ h) (fun i hi => by rw [va_up_self, va_up_ne _ _ hi]) (by rw [va_up_self, va_up_self])
  · rw [cif_f c9, cif_f c9] at hq
    refine w_ldc dX10_trim_12 kcX10_101 ?_
    refine w_ireturn dX10_trim_14 rfl rfl ?_
    exact hq I (fun _ _ => rfl) (fun _ _ => rfl) hz

def oCount (V : VV) (wz tz : Nat) (v : Int32) : Int32 := if v = 0 then V 1 else if v = 1 then V 2 else if v = 2 then told (V 3) else if v = 3 then told (V 4) else if v = 4 then V 5 else if v = 5 then nI wz else if v = 6 then nI tz else if v = 7 then V 0 else -1000000001
set_option maxRecDepth 20000 in
theorem sX9_count (hs : SK R N) {V : VV} (hC : WC I R N n 1 V) {wz tz : Nat} (hwz : I 0 10 = nI wz) (htz : I 78 1 = nI tz) {v : Int32} (hq : Q (vI (oCount V wz tz v)) I L R N n) : CA sc 0 0 0 mX9_count [vR 9 0, vI v] I L R N n Q := by
  refine ca_in (al := [_, _]) rfl ?_
  refine w_iload_n dX9_count_0 rfl ?_
  by_cases w1_0 : v = 0
  · refine w_tblIn (tgt := 48) dX9_count_1 (by rw [w1_0]; decide) (by rw [w1_0]; decide) (by rw [w1_0]; rfl) (by decide) ?_
    refine w_aload_n dX9_count_48 rfl ?_
    refine w_getR dX9_count_49 flX9_10 rfl (hs.r (a := 0) (j := 0) (b := 1) 0 rfl) ?_
    refine w_getI dX9_count_52 flX9_94 rfl ?_
    refine w_top (y := V 1) (hC.1.1) ?_
    refine w_ireturn dX9_count_55 rfl rfl ?_
    refine q_e ?_ hq
    clear hs hC
    unfold oCount
    simp_all
  by_cases w1_1 : v = 1
  · refine w_tblIn (tgt := 56) dX9_count_1 (by rw [w1_1]; decide) (by rw [w1_1]; decide) (by rw [w1_1]; rfl) (by decide) ?_
    refine w_aload_n dX9_count_56 rfl ?_
    refine w_getR dX9_count_57 flX9_10 rfl (hs.r (a := 0) (j := 0) (b := 1) 0 rfl) ?_
    refine w_getI dX9_count_60 flX9_216 rfl ?_
    refine w_top (y := V 2) (hC.1.2.1) ?_
    refine w_ireturn dX9_count_63 rfl rfl ?_
    refine q_e ?_ hq
    clear hs hC
    unfold oCount
    simp_all
  by_cases w1_2 : v = 2
  · refine w_tblIn (tgt := 64) dX9_count_1 (by rw [w1_2]; decide) (by rw [w1_2]; decide) (by rw [w1_2]; rfl) (by decide) ?_
    refine w_aload_n dX9_count_64 rfl ?_
    refine w_getR dX9_count_65 flX9_10 rfl (hs.r (a := 0) (j := 0) (b := 1) 0 rfl) ?_
    refine w_getI dX9_count_68 flX9_142 rfl ?_
    refine w_top (y := told (V 3)) (hC.1.2.2.1) ?_
    refine w_ireturn dX9_count_71 rfl rfl ?_
    refine q_e ?_ hq
    clear hs hC
    unfold oCount
    simp_all
  by_cases w1_3 : v = 3
  · refine w_tblIn (tgt := 72) dX9_count_1 (by rw [w1_3]; decide) (by rw [w1_3]; decide) (by rw [w1_3]; rfl) (by decide) ?_
    refine w_aload_n dX9_count_72 rfl ?_
    refine w_getR dX9_count_73 flX9_10 rfl (hs.r (a := 0) (j := 0) (b := 1) 0 rfl) ?_
    refine w_getI dX9_count_76 flX9_145 rfl ?_
    refine w_top (y := told (V 4)) (hC.1.2.2.2.1) ?_
    refine w_ireturn dX9_count_79 rfl rfl ?_
    refine q_e ?_ hq
    clear hs hC
    unfold oCount
    simp_all
  by_cases w1_4 : v = 4
  · refine w_tblIn (tgt := 80) dX9_count_1 (by rw [w1_4]; decide) (by rw [w1_4]; decide) (by rw [w1_4]; rfl) (by decide) ?_
    refine w_aload_n dX9_count_80 rfl ?_
    refine w_getR dX9_count_81 flX9_10 rfl (hs.r (a := 0) (j := 0) (b := 1) 0 rfl) ?_
    refine w_getI dX9_count_84 flX9_236 rfl ?_
    refine w_top (y := V 5) (hC.1.2.2.2.2.1) ?_
    refine w_ireturn dX9_count_87 rfl rfl ?_
    refine q_e ?_ hq
    clear hs hC
    unfold oCount
    simp_all
  by_cases w1_5 : v = 5
  · refine w_tblIn (tgt := 88) dX9_count_1 (by rw [w1_5]; decide) (by rw [w1_5]; decide) (by rw [w1_5]; rfl) (by decide) ?_
    refine w_aload_n dX9_count_88 rfl ?_
    refine w_getI dX9_count_89 flX9_67 rfl ?_
    refine w_top (y := nI wz) (hwz) ?_
    refine w_ireturn dX9_count_92 rfl rfl ?_
    refine q_e ?_ hq
    clear hs hC
    unfold oCount
    simp_all
  by_cases w1_6 : v = 6
  · refine w_tblIn (tgt := 93) dX9_count_1 (by rw [w1_6]; decide) (by rw [w1_6]; decide) (by rw [w1_6]; rfl) (by decide) ?_
    refine w_aload_n dX9_count_93 rfl ?_
    refine w_getR dX9_count_94 flX9_47 rfl (hs.r (a := 0) (j := 6) (b := 77) 5 rfl) ?_
    refine w_getR dX9_count_97 flX9_219 rfl (hs.r (a := 77) (j := 0) (b := 78) 80 rfl) ?_
    refine w_getI dX9_count_100 flX9_223 rfl ?_
    refine w_top (y := nI tz) (htz) ?_
    refine w_ireturn dX9_count_103 rfl rfl ?_
    refine q_e ?_ hq
    clear hs hC
    unfold oCount
    simp_all
  by_cases w1_7 : v = 7
  · refine w_tblIn (tgt := 104) dX9_count_1 (by rw [w1_7]; decide) (by rw [w1_7]; decide) (by rw [w1_7]; rfl) (by decide) ?_
    refine w_aload_n dX9_count_104 rfl ?_
    refine w_getR dX9_count_105 flX9_10 rfl (hs.r (a := 0) (j := 0) (b := 1) 0 rfl) ?_
    refine w_getR dX9_count_108 flX9_158 rfl (hs.r (a := 1) (j := 9) (b := 12) 13 rfl) ?_
    refine w_getI dX9_count_111 flX9_172 rfl ?_
    refine w_top (y := V 0) (hC.1.2.2.2.2.2) ?_
    refine w_ireturn dX9_count_114 rfl rfl ?_
    refine q_e ?_ hq
    clear hs hC
    unfold oCount
    simp_all
  refine w_tblOut (tgt := 115) dX9_count_1 (by have := i_ne (k := 0) (a := 0) rfl w1_0; have := i_ne (k := 1) (a := 1) rfl w1_1; have := i_ne (k := 2) (a := 2) rfl w1_2; have := i_ne (k := 3) (a := 3) rfl w1_3; have := i_ne (k := 4) (a := 4) rfl w1_4; have := i_ne (k := 5) (a := 5) rfl w1_5; have := i_ne (k := 6) (a := 6) rfl w1_6; have := i_ne (k := 7) (a := 7) rfl w1_7; omega) (by decide) ?_
  refine w_ldc dX9_count_115 kcX9_77 ?_
  refine w_ireturn dX9_count_117 rfl rfl ?_
  refine q_e ?_ hq
  clear hs hC
  unfold oCount
  simp_all

set_option maxRecDepth 20000 in
theorem sX10_count (hs : SK R N) {V : VV} (hI : I 118 = V) {wz tz : Nat} (hwz : I 117 43 = nI wz) (htz : I 117 17 = nI tz) {v : Int32} (hq : Q (vI (oCount V wz tz v)) I L R N n) : CA sc 1 0 0 mX10_count [vR 10 117, vI v] I L R N n Q := by
  refine ca_in (al := [_, _]) rfl ?_
  refine w_iload_n dX10_count_0 rfl ?_
  by_cases w1_0 : v = 0
  · refine w_tblIn (tgt := 48) dX10_count_1 (by rw [w1_0]; decide) (by rw [w1_0]; decide) (by rw [w1_0]; rfl) (by decide) ?_
    refine w_aload_n dX10_count_48 rfl ?_
    refine w_getR dX10_count_49 flX10_9 rfl (hs.r (a := 117) (j := 0) (b := 118) 116 rfl) ?_
    refine w_iconst dX10_count_52 ic_1 ?_
    refine w_iald (q := 1) dX10_count_53 rfl (hs.n (a := 118) (z := 1452) 72 rfl) (by decide) ?_
    refine w_top (y := V 1) (congrFun hI 1) ?_
    refine w_ireturn dX10_count_54 rfl rfl ?_
    refine q_e ?_ hq
    clear hs hI
    unfold oCount
    simp_all
  by_cases w1_1 : v = 1
  · refine w_tblIn (tgt := 55) dX10_count_1 (by rw [w1_1]; decide) (by rw [w1_1]; decide) (by rw [w1_1]; rfl) (by decide) ?_
    refine w_aload_n dX10_count_55 rfl ?_
    refine w_getR dX10_count_56 flX10_9 rfl (hs.r (a := 117) (j := 0) (b := 118) 116 rfl) ?_
    refine w_iconst dX10_count_59 ic_2 ?_
    refine w_iald (q := 2) dX10_count_60 rfl (hs.n (a := 118) (z := 1452) 72 rfl) (by decide) ?_
    refine w_top (y := V 2) (congrFun hI 2) ?_
    refine w_ireturn dX10_count_61 rfl rfl ?_
    refine q_e ?_ hq
    clear hs hI
    unfold oCount
    simp_all
  by_cases w1_2 : v = 2
  · refine w_tblIn (tgt := 62) dX10_count_1 (by rw [w1_2]; decide) (by rw [w1_2]; decide) (by rw [w1_2]; rfl) (by decide) ?_
    refine w_aload_n dX10_count_62 rfl ?_
    refine w_getR dX10_count_63 flX10_9 rfl (hs.r (a := 117) (j := 0) (b := 118) 116 rfl) ?_
    refine w_iconst dX10_count_66 ic_3 ?_
    refine w_iald (q := 3) dX10_count_67 rfl (hs.n (a := 118) (z := 1452) 72 rfl) (by decide) ?_
    refine w_top (y := V 3) (congrFun hI 3) ?_
    refine c_S (as := [_]) (d' := 0) dX10_count_68 (Or.inl mlX10_162) moX10_told0 msX10_told0 rfl rfl rfl rfl rfl (by decide) (sX10_told0 ?_)
    refine w_top (y := told (V 3)) (rfl) ?_
    refine w_ireturn dX10_count_71 rfl rfl ?_
    refine q_e ?_ hq
    clear hs hI
    unfold oCount
    simp_all
  by_cases w1_3 : v = 3
  · refine w_tblIn (tgt := 72) dX10_count_1 (by rw [w1_3]; decide) (by rw [w1_3]; decide) (by rw [w1_3]; rfl) (by decide) ?_
    refine w_aload_n dX10_count_72 rfl ?_
    refine w_getR dX10_count_73 flX10_9 rfl (hs.r (a := 117) (j := 0) (b := 118) 116 rfl) ?_
    refine w_iconst dX10_count_76 ic_4 ?_
    refine w_iald (q := 4) dX10_count_77 rfl (hs.n (a := 118) (z := 1452) 72 rfl) (by decide) ?_
    refine w_top (y := V 4) (congrFun hI 4) ?_
    refine c_S (as := [_]) (d' := 0) dX10_count_78 (Or.inl mlX10_162) moX10_told0 msX10_told0 rfl rfl rfl rfl rfl (by decide) (sX10_told0 ?_)
    refine w_top (y := told (V 4)) (rfl) ?_
    refine w_ireturn dX10_count_81 rfl rfl ?_
    refine q_e ?_ hq
    clear hs hI
    unfold oCount
    simp_all
  by_cases w1_4 : v = 4
  · refine w_tblIn (tgt := 82) dX10_count_1 (by rw [w1_4]; decide) (by rw [w1_4]; decide) (by rw [w1_4]; rfl) (by decide) ?_
    refine w_aload_n dX10_count_82 rfl ?_
    refine w_getR dX10_count_83 flX10_9 rfl (hs.r (a := 117) (j := 0) (b := 118) 116 rfl) ?_
    refine w_iconst dX10_count_86 ic_5 ?_
    refine w_iald (q := 5) dX10_count_87 rfl (hs.n (a := 118) (z := 1452) 72 rfl) (by decide) ?_
    refine w_top (y := V 5) (congrFun hI 5) ?_
    refine w_ireturn dX10_count_88 rfl rfl ?_
    refine q_e ?_ hq
    clear hs hI
    unfold oCount
    simp_all
  by_cases w1_5 : v = 5
  · refine w_tblIn (tgt := 89) dX10_count_1 (by rw [w1_5]; decide) (by rw [w1_5]; decide) (by rw [w1_5]; rfl) (by decide) ?_
    refine w_aload_n dX10_count_89 rfl ?_
    refine w_getI dX10_count_90 flX10_286 rfl ?_
    refine w_top (y := nI wz) (hwz) ?_
    refine w_ireturn dX10_count_93 rfl rfl ?_
    refine q_e ?_ hq
    clear hs hI
    unfold oCount
    simp_all
  by_cases w1_6 : v = 6
  · refine w_tblIn (tgt := 94) dX10_count_1 (by rw [w1_6]; decide) (by rw [w1_6]; decide) (by rw [w1_6]; rfl) (by decide) ?_
    refine w_aload_n dX10_count_94 rfl ?_
    refine w_getI dX10_count_95 flX10_207 rfl ?_
    refine w_top (y := nI tz) (htz) ?_
    refine w_ireturn dX10_count_98 rfl rfl ?_
    refine q_e ?_ hq
    clear hs hI
    unfold oCount
    simp_all
  by_cases w1_7 : v = 7
  · refine w_tblIn (tgt := 99) dX10_count_1 (by rw [w1_7]; decide) (by rw [w1_7]; decide) (by rw [w1_7]; rfl) (by decide) ?_
    refine w_aload_n dX10_count_99 rfl ?_
    refine w_getR dX10_count_100 flX10_9 rfl (hs.r (a := 117) (j := 0) (b := 118) 116 rfl) ?_
    refine w_iconst dX10_count_103 ic_0 ?_
    refine w_iald (q := 0) dX10_count_104 rfl (hs.n (a := 118) (z := 1452) 72 rfl) (by decide) ?_
    refine w_top (y := V 0) (congrFun hI 0) ?_
    refine w_ireturn dX10_count_105 rfl rfl ?_
    refine q_e ?_ hq
    clear hs hI
    unfold oCount
    simp_all
  refine w_tblOut (tgt := 106) dX10_count_1 (by have := i_ne (k := 0) (a := 0) rfl w1_0; have := i_ne (k := 1) (a := 1) rfl w1_1; have := i_ne (k := 2) (a := 2) rfl w1_2; have := i_ne (k := 3) (a := 3) rfl w1_3; have := i_ne (k := 4) (a := 4) rfl w1_4; have := i_ne (k := 5) (a := 5) rfl w1_5; have := i_ne (k := 6) (a := 6) rfl w1_6; have := i_ne (k := 7) (a := 7) rfl w1_7; omega) (by decide) ?_
  refine w_ldc dX10_count_106 kcX10_101 ?_
  refine w_ireturn dX10_count_108 rfl rfl ?_
  refine q_e ?_ hq
  clear hs hI
  unfold oCount
  simp_all

end
