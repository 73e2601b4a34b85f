section
variable {sc : SC} {I : HI} {L : HL} {R : HR} {N : HN} {n : Nat} {Q : HQ}
theorem st_n {j i : Nat} (hj : j < 6) (hi : i < stN.getD j 0) : ∃ k, k < 128 ∧ (stB.getD j []).getD i 0 = nI k := by
  have h : ∀ j, j < 6 → ∀ i, i < 6 → ((stB.getD j []).getD i 0).toNatClampNeg < 128 ∧ (stB.getD j []).getD i 0 = nI ((stB.getD j []).getD i 0).toNatClampNeg := by decide +kernel
  have hl : ∀ j, j < 6 → stN.getD j 0 ≤ 6 := by decide
  obtain ⟨h1, h2⟩ := h j hj i (Nat.lt_of_lt_of_le hi (hl j hj))
  exact ⟨_, h1, h2⟩
theorem by_and {k : Nat} (h : k < 256) : nI k &&& 255 = nI k ∧ ((nI k).toUInt32 % 65536).toInt32 = nI k := by
  have h1 : ∀ k, k < 256 → nI k &&& 255 = nI k ∧ ((nI k).toUInt32 % 65536).toInt32 = nI k := by decide +kernel
  exact h1 k h
theorem by_i2b {k : Nat} (h : k < 128) : (nI k).toInt8.toInt32 = nI k := by
  have h1 : ∀ k, k < 128 → (nI k).toInt8.toInt32 = nI k := by decide +kernel
  exact h1 k h
theorem st_ch {j i : Nat} (hj : j < 6) (hi : i < stN.getD j 0) : (((stB.getD j []).getD i 0 &&& 255).toUInt32 % 65536).toInt32 = (stB.getD j []).getD i 0 ∧ narrow .char (.int ((stB.getD j []).getD i 0)) = .int ((stB.getD j []).getD i 0) := by
  obtain ⟨k, hk, e⟩ := st_n hj hi
  rw [e, (by_and (by omega)).1, (by_and (by omega)).2]
  exact ⟨rfl, (pk_charN (by omega)).1⟩
def ixF (l : List Int32) (v : Int32) : Nat → Nat → Int32
  | 0, _ => -1
  | k + 1, i => if l.getD i 0 = v then nI i else ixF l v k (i + 1)

set_option maxRecDepth 20000 in
theorem sJ0_coder {j : Nat} (hj : j < 6) (hq : Q (vI 0) I L R N n) : CA sc 0 0 0 mJ0_coder_7d493 [vS (5 + j)] I L R N n Q := by
  refine ca_in (al := [_]) rfl ?_
  refine w_getsC dJ0_coder_7d493_0 wlJ0_38 ?_
  refine w_if_eq (tgt := 13) dJ0_coder_7d493_3 (by decide) (fun c3 => ?_) (fun c3 => ?_)
  · exact absurd c3 (by decide)
  · refine w_aload_nS dJ0_coder_7d493_6 rfl ?_
    refine w_scod (j := j) dJ0_coder_7d493_7 wlJ0_15 hj ?_
    refine w_goto (tgt := 14) dJ0_coder_7d493_10 (by decide) ?_
    refine w_ireturn dJ0_coder_7d493_14 rfl rfl ?_
    exact hq

set_option maxRecDepth 20000 in
theorem sJ0_isLatin1 {j : Nat} (hj : j < 6) (hq : Q (vI 1) I L R N n) : CA sc 0 0 0 mJ0_isLatin1_aae02 [vS (5 + j)] I L R N n Q := by
  refine ca_in (al := [_]) rfl ?_
  refine w_getsC dJ0_isLatin1_aae02_0 wlJ0_38 ?_
  refine w_if_eq (tgt := 17) dJ0_isLatin1_aae02_3 (by decide) (fun c3 => ?_) (fun c3 => ?_)
  · exact absurd c3 (by decide)
  · refine w_aload_nS dJ0_isLatin1_aae02_6 rfl ?_
    refine w_scod (j := j) dJ0_isLatin1_aae02_7 wlJ0_15 hj ?_
    refine w_if_ne (tgt := 17) dJ0_isLatin1_aae02_10 (by decide) (fun c10 => ?_) (fun c10 => ?_)
    · exact absurd rfl c10
    · refine w_iconst dJ0_isLatin1_aae02_13 ic_1 ?_
      refine w_goto (tgt := 18) dJ0_isLatin1_aae02_14 (by decide) ?_
      refine w_ireturn dJ0_isLatin1_aae02_18 rfl rfl ?_
      exact hq

set_option maxRecDepth 20000 in
theorem sJ0_length {j l : Nat} (hj : j < 6) (hl : stN.getD j 0 = l) (hl2 : l < 1000) (hq : Q (vI (nI l)) I L R N n) : CA sc 1 0 0 mJ0_length_8abf5 [vS (5 + j)] I L R N n Q := by
  refine ca_in (al := [_]) rfl ?_
  refine w_aload_nS dJ0_length_8abf5_0 rfl ?_
  refine w_sval (j := j) dJ0_length_8abf5_1 wlJ0_9 hj ?_
  refine w_blen (j := j) dJ0_length_8abf5_4 hj hl ?_
  refine w_aload_nS dJ0_length_8abf5_5 rfl ?_
  refine c_T (j := j) (as := []) (d' := 0) dJ0_length_8abf5_6 mlJ0_335 moJ0_coder_7d493 mvJ0_coder_7d493 hj rfl rfl rfl rfl rfl rfl (by decide) (sJ0_coder hj ?_)
  refine w_ishr dJ0_length_8abf5_9 ?_
  refine w_top (y := nI l) (sc_shr0 (by omega)) ?_
  refine w_ireturn dJ0_length_8abf5_10 rfl rfl ?_
  exact hq

set_option maxRecDepth 20000 in
theorem sJ3_checkIndexN {i l : Nat} (hi : i < l) (hl : l < 1000) (hq : Q (vI (nI i)) I L R N n) : CA sc 0 0 0 mJ3_checkIndex_8e157 [vI (nI i), vI (nI l), vN] I L R N n Q := by
  refine ca_in (al := [_, _, _]) rfl ?_
  refine w_iload_n dJ3_checkIndex_8e157_0 rfl ?_
  refine w_if_lt (tgt := 9) dJ3_checkIndex_8e157_1 (by decide) (fun c1 => ?_) (fun c1 => ?_)
  · exact absurd c1 (nI_pos (by omega))
  · refine w_iload_n dJ3_checkIndex_8e157_4 rfl ?_
    refine w_iload_n dJ3_checkIndex_8e157_5 rfl ?_
    refine w_icmp_lt (tgt := 16) dJ3_checkIndex_8e157_6 (by decide) (fun c6 => ?_) (fun c6 => ?_)
    · refine w_iload_n dJ3_checkIndex_8e157_16 rfl ?_
      refine w_ireturn dJ3_checkIndex_8e157_17 rfl rfl ?_
      exact hq
    · exact absurd (nI_lt hi (by omega)) c6

set_option maxRecDepth 20000 in
theorem sJ3_checkIndexS {i l : Nat} (hi : i < l) (hl : l < 1000) (hq : Q (vI (nI i)) I L R N n) : CA sc 0 0 0 mJ3_checkIndex_8e157 [vI (nI i), vI (nI l), vS 17] I L R N n Q := by
  refine ca_in (al := [_, _, _]) rfl ?_
  refine w_iload_n dJ3_checkIndex_8e157_0 rfl ?_
  refine w_if_lt (tgt := 9) dJ3_checkIndex_8e157_1 (by decide) (fun c1 => ?_) (fun c1 => ?_)
  · exact absurd c1 (nI_pos (by omega))
  · refine w_iload_n dJ3_checkIndex_8e157_4 rfl ?_
    refine w_iload_n dJ3_checkIndex_8e157_5 rfl ?_
    refine w_icmp_lt (tgt := 16) dJ3_checkIndex_8e157_6 (by decide) (fun c6 => ?_) (fun c6 => ?_)
    · refine w_iload_n dJ3_checkIndex_8e157_16 rfl ?_
      refine w_ireturn dJ3_checkIndex_8e157_17 rfl rfl ?_
      exact hq
    · exact absurd (nI_lt hi (by omega)) c6

set_option maxRecDepth 20000 in
theorem sJ0_checkIndex {i l : Nat} (hi : i < l) (hl : l < 1000) (hq : Q vU I L R N n) : CA sc 1 0 0 mJ0_checkIndex_df160 [vI (nI i), vI (nI l)] I L R N n Q := by
  refine ca_in (al := [_, _]) rfl ?_
  refine w_iload_n dJ0_checkIndex_df160_0 rfl ?_
  refine w_iload_n dJ0_checkIndex_df160_1 rfl ?_
  refine w_getsF dJ0_checkIndex_df160_2 wlJ0_1053 (fun fv hfv => ?_)
  rcases hfv with rfl | rfl
  · refine c_S (as := [_, _, _]) (d' := 0) dJ0_checkIndex_df160_5 (Or.inl mlJ0_1059) moJ3_checkIndex_8e157 msJ3_checkIndex_8e157 rfl rfl rfl rfl rfl (by decide) (sJ3_checkIndexN hi hl ?_)
    refine w_pop dJ0_checkIndex_df160_8 rfl ?_
    refine w_return dJ0_checkIndex_df160_9 rfl ?_
    exact hq
  · refine c_S (as := [_, _, _]) (d' := 0) dJ0_checkIndex_df160_5 (Or.inl mlJ0_1059) moJ3_checkIndex_8e157 msJ3_checkIndex_8e157 rfl rfl rfl rfl rfl (by decide) (sJ3_checkIndexS hi hl ?_)
    refine w_pop dJ0_checkIndex_df160_8 rfl ?_
    refine w_return dJ0_checkIndex_df160_9 rfl ?_
    exact hq

set_option maxRecDepth 20000 in
theorem sJ1_charAt {j l i : Nat} (hj : j < 6) (hl : stN.getD j 0 = l) (hl2 : l < 1000) (hi : i < l) (hq : Q (vI ((stB.getD j []).getD i 0)) I L R N n) : CA sc 2 0 0 mJ1_charAt_3b067 [vS (11 + j), vI (nI i)] I L R N n Q := by
  refine ca_in (al := [_, _]) rfl ?_
  refine w_iload_n dJ1_charAt_3b067_0 rfl ?_
  refine w_aload_nS dJ1_charAt_3b067_1 rfl ?_
  refine w_blen (j := j) dJ1_charAt_3b067_2 hj hl ?_
  refine c_Sv (as := [_, _]) (d' := 1) dJ1_charAt_3b067_3 (Or.inl mlJ1_9) moJ0_checkIndex_df160 msJ0_checkIndex_df160 rfl rfl rfl rfl rfl (by decide) (sJ0_checkIndex hi hl2 ?_)
  refine w_aload_nS dJ1_charAt_3b067_6 rfl ?_
  refine w_iload_n dJ1_charAt_3b067_7 rfl ?_
  refine w_bald (j := j) dJ1_charAt_3b067_8 hj rfl hl hi ?_ (by omega)
  refine w_sipush dJ1_charAt_3b067_9 sp_255 ?_
  refine w_iand dJ1_charAt_3b067_12 ?_
  refine w_i2c dJ1_charAt_3b067_13 ?_
  refine w_top (y := (stB.getD j []).getD i 0) ((st_ch hj (by omega)).1) ?_
  refine w_ireturn dJ1_charAt_3b067_14 rfl (st_ch hj (by omega)).2 ?_
  exact hq

set_option maxRecDepth 20000 in
theorem sJ0_charAt {j l i : Nat} (hj : j < 6) (hl : stN.getD j 0 = l) (hl2 : l < 1000) (hi : i < l) (hq : Q (vI ((stB.getD j []).getD i 0)) I L R N n) : CA sc 4 0 0 mJ0_charAt_5068e [vS (5 + j), vI (nI i)] I L R N n Q := by
  refine ca_in (al := [_, _]) rfl ?_
  refine w_aload_nS dJ0_charAt_5068e_0 rfl ?_
  refine c_T (j := j) (as := []) (d' := 0) dJ0_charAt_5068e_1 mlJ0_492 moJ0_isLatin1_aae02 mvJ0_isLatin1_aae02 hj rfl rfl rfl rfl rfl rfl (by decide) (sJ0_isLatin1 hj ?_)
  refine w_if_eq (tgt := 16) dJ0_charAt_5068e_4 (by decide) (fun c4 => ?_) (fun c4 => ?_)
  · exact absurd c4 (by decide)
  · refine w_aload_nS dJ0_charAt_5068e_7 rfl ?_
    refine w_sval (j := j) dJ0_charAt_5068e_8 wlJ0_9 hj ?_
    refine w_iload_n dJ0_charAt_5068e_11 rfl ?_
    refine c_S (as := [_, _]) (d' := 2) dJ0_charAt_5068e_12 (Or.inl mlJ0_495) moJ1_charAt_3b067 msJ1_charAt_3b067 rfl rfl rfl rfl rfl (by decide) (sJ1_charAt hj hl hl2 hi ?_)
    refine w_ireturn dJ0_charAt_5068e_15 rfl (st_ch hj (by omega)).2 ?_
    exact hq

set_option maxRecDepth 20000 in
theorem sJ1_canEncode {c : Nat} (hc : c < 128) (hq : Q (vI 1) I L R N n) : CA sc 0 0 0 mJ1_canEncode_9a6ad [vI (nI c)] I L R N n Q := by
  refine ca_in (al := [_]) rfl ?_
  refine w_iload_n dJ1_canEncode_9a6ad_0 rfl ?_
  refine w_if_lt (tgt := 15) dJ1_canEncode_9a6ad_1 (by decide) (fun c1 => ?_) (fun c1 => ?_)
  · exact absurd c1 (nI_pos (by omega))
  · refine w_iload_n dJ1_canEncode_9a6ad_4 rfl ?_
    refine w_sipush dJ1_canEncode_9a6ad_5 sp_255 ?_
    refine w_icmp_gt (tgt := 15) dJ1_canEncode_9a6ad_8 (by decide) (fun c8 => ?_) (fun c8 => ?_)
    · exact absurd c8 (nI_nlt (a := 255) (by omega) (by decide))
    · refine w_iconst dJ1_canEncode_9a6ad_11 ic_1 ?_
      refine w_goto (tgt := 16) dJ1_canEncode_9a6ad_12 (by decide) ?_
      refine w_ireturn dJ1_canEncode_9a6ad_16 rfl rfl ?_
      exact hq

set_option maxRecDepth 20000 in
theorem sJ1_indexOfChar {j l c : Nat} (hj : j < 6) (hl : stN.getD j 0 = l) (hl2 : l < 1000) (hc : c < 128) (hq : Q (vI (ixF (stB.getD j []) (nI c) l 0)) I L R N n) : CA sc 0 0 0 mJ1_indexOfChar_4cfef [vS (11 + j), vI (nI c), vI 0, vI (nI l)] I L R N n Q := by
  have lp : ∀ (k i : Nat), i + k = l → Q (vI (ixF (stB.getD j []) (nI c) k i)) I L R N n → WP sc 0 0 0 mJ1_indexOfChar_4cfef 7 [vS (11 + j), vI (nI c), vI 0, vI (nI l), vI (nI c), vI (nI i)] [] I L R N n Q := by
    intro k
    induction k with
    | zero =>
      intro i hk hq
      refine w_iload dJ1_indexOfChar_4cfef_7 rfl ?_
      refine w_iload_n dJ1_indexOfChar_4cfef_9 rfl ?_
      refine w_icmp_ge (tgt := 31) dJ1_indexOfChar_4cfef_10 (by decide) (fun c10 => ?_) (fun c10 => ?_)
      · refine w_iconst dJ1_indexOfChar_4cfef_31 ic_m1 ?_
        refine w_ireturn dJ1_indexOfChar_4cfef_32 rfl rfl ?_
        exact hq
      · exact absurd (nI_le (a := l) (by omega) (by omega)) c10
    | succ k ih =>
      intro i hk hq
      refine w_iload dJ1_indexOfChar_4cfef_7 rfl ?_
      refine w_iload_n dJ1_indexOfChar_4cfef_9 rfl ?_
      refine w_icmp_ge (tgt := 31) dJ1_indexOfChar_4cfef_10 (by decide) (fun c10 => ?_) (fun c10 => ?_)
      · exact absurd ((nI_leI (by omega) (by omega)).mp c10) (by omega)
      · refine w_aload_nS dJ1_indexOfChar_4cfef_13 rfl ?_
        refine w_iload dJ1_indexOfChar_4cfef_14 rfl ?_
        refine w_bald (j := j) dJ1_indexOfChar_4cfef_16 hj rfl hl (by omega) ?_ (by omega)
        refine w_iload dJ1_indexOfChar_4cfef_17 rfl ?_
        refine w_icmp_ne (tgt := 25) dJ1_indexOfChar_4cfef_19 (by decide) (fun c19 => ?_) (fun c19 => ?_)
        · rw [ixF, if_neg c19] at hq
          refine w_iinc (al' := [_, _, _, _, _, _]) dJ1_indexOfChar_4cfef_25 rfl rfl ic_1 rfl ?_
          refine w_goto (tgt := 7) dJ1_indexOfChar_4cfef_28 (by decide) ?_
          simp only [nI_1]
          exact ih (i + 1) (by omega) hq
        · refine w_iload dJ1_indexOfChar_4cfef_22 rfl ?_
          refine w_ireturn dJ1_indexOfChar_4cfef_24 rfl rfl ?_
          rw [ixF, if_pos c19] at hq
          exact hq
  refine ca_in (al := [_, _, _, _, _, _]) rfl ?_
  refine w_iload_n dJ1_indexOfChar_4cfef_0 rfl ?_
  refine w_i2b dJ1_indexOfChar_4cfef_1 ?_
  refine w_top (y := nI c) (by_i2b hc) ?_
  refine w_istore (al' := [_, _, _, _, _, _]) dJ1_indexOfChar_4cfef_2 rfl rfl rfl ?_
  refine w_iload_n dJ1_indexOfChar_4cfef_4 rfl ?_
  refine w_istore (al' := [_, _, _, _, _, _]) dJ1_indexOfChar_4cfef_5 rfl rfl rfl ?_
  exact lp l 0 (Nat.zero_add l) hq

set_option maxRecDepth 20000 in
theorem sJ1_indexOf {j l c : Nat} (hj : j < 6) (hl : stN.getD j 0 = l) (hl2 : 0 < l ∧ l < 1000) (hc : c < 128) (hq : Q (vI (ixF (stB.getD j []) (nI c) l 0)) I L R N n) : CA sc 1 0 0 mJ1_indexOf_4cfef [vS (11 + j), vI (nI c), vI 0, vI (nI l)] I L R N n Q := by
  refine ca_in (al := [_, _, _, _]) rfl ?_
  refine w_iload_n dJ1_indexOf_4cfef_0 rfl ?_
  refine c_S (as := [_]) (d' := 0) dJ1_indexOf_4cfef_1 (Or.inl mlJ1_88) moJ1_canEncode_9a6ad msJ1_canEncode_9a6ad rfl rfl rfl rfl rfl (by decide) (sJ1_canEncode hc ?_)
  refine w_if_ne (tgt := 9) dJ1_indexOf_4cfef_4 (by decide) (fun c4 => ?_) (fun c4 => ?_)
  · refine w_iload_n dJ1_indexOf_4cfef_9 rfl ?_
    refine w_iconst dJ1_indexOf_4cfef_10 ic_0 ?_
    refine w_max dJ1_indexOf_4cfef_11 mlJ1_92 st_max iiJ9 co_max (by decide) (Nat.le_of_ble_eq_true rfl) ?_
    refine w_top (y := 0) (by decide) ?_
    refine w_istore_n (al' := [_, _, _, _]) dJ1_indexOf_4cfef_14 rfl rfl rfl ?_
    refine w_iload_n dJ1_indexOf_4cfef_15 rfl ?_
    refine w_aload_nS dJ1_indexOf_4cfef_16 rfl ?_
    refine w_blen (j := j) dJ1_indexOf_4cfef_17 hj hl ?_
    refine w_min dJ1_indexOf_4cfef_18 mlJ1_38 st_min iiJ9 co_min (by decide) (Nat.le_of_ble_eq_true rfl) ?_
    refine w_top (y := nI l) (if_neg (fun q => absurd q (nI_nlt (Nat.le_refl l) (by omega)))) ?_
    refine w_istore_n (al' := [_, _, _, _]) dJ1_indexOf_4cfef_21 rfl rfl rfl ?_
    refine w_iload_n dJ1_indexOf_4cfef_22 rfl ?_
    refine w_iload_n dJ1_indexOf_4cfef_23 rfl ?_
    refine w_icmp_lt (tgt := 29) dJ1_indexOf_4cfef_24 (by decide) (fun c24 => ?_) (fun c24 => ?_)
    · refine w_aload_nS dJ1_indexOf_4cfef_29 rfl ?_
      refine w_iload_n dJ1_indexOf_4cfef_30 rfl ?_
      refine w_iload_n dJ1_indexOf_4cfef_31 rfl ?_
      refine w_iload_n dJ1_indexOf_4cfef_32 rfl ?_
      refine c_S (as := [_, _, _, _]) (d' := 0) dJ1_indexOf_4cfef_33 (Or.inl mlJ1_95) moJ1_indexOfChar_4cfef msJ1_indexOfChar_4cfef rfl rfl rfl rfl rfl (by decide) (sJ1_indexOfChar hj hl (by omega) hc ?_)
      refine w_ireturn dJ1_indexOf_4cfef_36 rfl rfl ?_
      exact hq
    · exact absurd (nI_lt (a := 0) (b := l) (by omega) (by omega)) c24
  · exact absurd c4 (by decide)

set_option maxRecDepth 20000 in
theorem sJ0_indexOf2 {j l c : Nat} (hj : j < 6) (hl : stN.getD j 0 = l) (hl2 : 0 < l ∧ l < 1000) (hc : c < 128) (hq : Q (vI (ixF (stB.getD j []) (nI c) l 0)) I L R N n) : CA sc 5 0 0 mJ0_indexOf_7cf53 [vS (5 + j), vI (nI c), vI 0] I L R N n Q := by
  refine ca_in (al := [_, _, _]) rfl ?_
  refine w_aload_nS dJ0_indexOf_7cf53_0 rfl ?_
  refine c_T (j := j) (as := []) (d' := 0) dJ0_indexOf_7cf53_1 mlJ0_492 moJ0_isLatin1_aae02 mvJ0_isLatin1_aae02 hj rfl rfl rfl rfl rfl rfl (by decide) (sJ0_isLatin1 hj ?_)
  refine w_if_eq (tgt := 23) dJ0_indexOf_7cf53_4 (by decide) (fun c4 => ?_) (fun c4 => ?_)
  · exact absurd c4 (by decide)
  · refine w_aload_nS dJ0_indexOf_7cf53_7 rfl ?_
    refine w_sval (j := j) dJ0_indexOf_7cf53_8 wlJ0_9 hj ?_
    refine w_iload_n dJ0_indexOf_7cf53_11 rfl ?_
    refine w_iload_n dJ0_indexOf_7cf53_12 rfl ?_
    refine w_aload_nS dJ0_indexOf_7cf53_13 rfl ?_
    refine c_T (j := j) (as := []) (d' := 1) dJ0_indexOf_7cf53_14 mlJ0_505 moJ0_length_8abf5 mvJ0_length_8abf5 hj rfl rfl rfl rfl rfl rfl (by decide) (sJ0_length hj hl (by omega) ?_)
    refine c_S (as := [_, _, _, _]) (d' := 1) dJ0_indexOf_7cf53_17 (Or.inl mlJ0_637) moJ1_indexOf_4cfef msJ1_indexOf_4cfef rfl rfl rfl rfl rfl (by decide) (sJ1_indexOf hj hl hl2 hc ?_)
    refine w_goto (tgt := 36) dJ0_indexOf_7cf53_20 (by decide) ?_
    refine w_ireturn dJ0_indexOf_7cf53_36 rfl rfl ?_
    exact hq

set_option maxRecDepth 20000 in
theorem sJ0_indexOf {j l c : Nat} (hj : j < 6) (hl : stN.getD j 0 = l) (hl2 : 0 < l ∧ l < 1000) (hc : c < 128) (hq : Q (vI (ixF (stB.getD j []) (nI c) l 0)) I L R N n) : CA sc 6 0 0 mJ0_indexOf_0f7a4 [vS (5 + j), vI (nI c)] I L R N n Q := by
  refine ca_in (al := [_, _]) rfl ?_
  refine w_aload_nS dJ0_indexOf_0f7a4_0 rfl ?_
  refine w_iload_n dJ0_indexOf_0f7a4_1 rfl ?_
  refine w_iconst dJ0_indexOf_0f7a4_2 ic_0 ?_
  refine c_T (j := j) (as := [_, _]) (d' := 5) dJ0_indexOf_0f7a4_3 mlJ0_633 moJ0_indexOf_7cf53 mvJ0_indexOf_7cf53 hj rfl rfl rfl rfl rfl rfl (by decide) (sJ0_indexOf2 hj hl hl2 hc ?_)
  refine w_ireturn dJ0_indexOf_0f7a4_6 rfl rfl ?_
  exact hq

theorem ix_nm {key : Nat} (hk : key ≤ 2) (b : Int32) : ixF (stB.getD (3 + key) []) b (stN.getD (3 + key) 0) 0 = nmB key b := by
  rcases (show key = 0 ∨ key = 1 ∨ key = 2 by omega) with rfl | rfl | rfl
  · show (if (100 : Int32) = b then nI 0 else if (97 : Int32) = b then nI 1 else if (98 : Int32) = b then nI 2 else -1) = if b = 100 then 0 else if b = 97 then 1 else if b = 98 then 2 else -1
    simp only [eq_comm (a := b)]
    rfl
  · show (if (111 : Int32) = b then nI 0 else if (115 : Int32) = b then nI 1 else -1) = if b = 111 then 0 else if b = 115 then 1 else -1
    simp only [eq_comm (a := b)]
    rfl
  · show (if (100 : Int32) = b then nI 0 else if (102 : Int32) = b then nI 1 else -1) = if b = 100 then 0 else if b = 102 then 1 else -1
    simp only [eq_comm (a := b)]
    rfl
end
