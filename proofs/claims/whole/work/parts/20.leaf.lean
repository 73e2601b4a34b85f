section
variable {sc : SC} {I : HI} {L : HL} {R : HR} {N : HN} {n : Nat} {Q : HQ}
set_option maxRecDepth 20000 in
theorem sX9_within {v lo hi : Int32} (hq : Q (vI (bI (lo ≤ v ∧ v ≤ hi))) I L R N n) : CA sc 0 0 0 mX9_within [vI v, vI lo, vI hi] I L R N n Q := by
  refine ca_in (al := [_, _, _]) rfl ?_
  refine w_iload_n dX9_within_0 rfl ?_
  refine w_iload_n dX9_within_1 rfl ?_
  refine w_icmp_lt (tgt := 14) dX9_within_2 (by decide) (fun c2 => ?_) (fun c2 => ?_)
  · refine w_iconst dX9_within_14 ic_0 ?_
    refine w_ireturn dX9_within_15 rfl rfl ?_
    first | exact q_0 (by simp only [Int32.lt_iff_toInt_lt, Int32.le_iff_toInt_le] at *; omega) hq | exact q_1 (by simp only [Int32.lt_iff_toInt_lt, Int32.le_iff_toInt_le] at *; omega) hq
  · refine w_iload_n dX9_within_5 rfl ?_
    refine w_iload_n dX9_within_6 rfl ?_
    refine w_icmp_gt (tgt := 14) dX9_within_7 (by decide) (fun c7 => ?_) (fun c7 => ?_)
    · refine w_iconst dX9_within_14 ic_0 ?_
      refine w_ireturn dX9_within_15 rfl rfl ?_
      first | exact q_0 (by simp only [Int32.lt_iff_toInt_lt, Int32.le_iff_toInt_le] at *; omega) hq | exact q_1 (by simp only [Int32.lt_iff_toInt_lt, Int32.le_iff_toInt_le] at *; omega) hq
    · refine w_iconst dX9_within_10 ic_1 ?_
      refine w_goto (tgt := 15) dX9_within_11 (by decide) ?_
      refine w_ireturn dX9_within_15 rfl rfl ?_
      first | exact q_0 (by simp only [Int32.lt_iff_toInt_lt, Int32.le_iff_toInt_le] at *; omega) hq | exact q_1 (by simp only [Int32.lt_iff_toInt_lt, Int32.le_iff_toInt_le] at *; omega) hq

set_option maxRecDepth 20000 in
theorem sX10_in {v lo hi : Int32} (hq : Q (vI (bI (lo ≤ v ∧ v ≤ hi))) I L R N n) : CA sc 0 0 0 mX10_in [vI v, vI lo, vI hi] I L R N n Q := by
  refine ca_in (al := [_, _, _]) rfl ?_
  refine w_iload_n dX10_in_0 rfl ?_
  refine w_iload_n dX10_in_1 rfl ?_
  refine w_icmp_lt (tgt := 14) dX10_in_2 (by decide) (fun c2 => ?_) (fun c2 => ?_)
  · refine w_iconst dX10_in_14 ic_0 ?_
    refine w_ireturn dX10_in_15 rfl rfl ?_
    first | exact q_0 (by simp only [Int32.lt_iff_toInt_lt, Int32.le_iff_toInt_le] at *; omega) hq | exact q_1 (by simp only [Int32.lt_iff_toInt_lt, Int32.le_iff_toInt_le] at *; omega) hq
  · refine w_iload_n dX10_in_5 rfl ?_
    refine w_iload_n dX10_in_6 rfl ?_
    refine w_icmp_gt (tgt := 14) dX10_in_7 (by decide) (fun c7 => ?_) (fun c7 => ?_)
    · refine w_iconst dX10_in_14 ic_0 ?_
      refine w_ireturn dX10_in_15 rfl rfl ?_
      first | exact q_0 (by simp only [Int32.lt_iff_toInt_lt, Int32.le_iff_toInt_le] at *; omega) hq | exact q_1 (by simp only [Int32.lt_iff_toInt_lt, Int32.le_iff_toInt_le] at *; omega) hq
    · refine w_iconst dX10_in_10 ic_1 ?_
      refine w_goto (tgt := 15) dX10_in_11 (by decide) ?_
      refine w_ireturn dX10_in_15 rfl rfl ?_
      first | exact q_0 (by simp only [Int32.lt_iff_toInt_lt, Int32.le_iff_toInt_le] at *; omega) hq | exact q_1 (by simp only [Int32.lt_iff_toInt_lt, Int32.le_iff_toInt_le] at *; omega) hq

set_option maxRecDepth 20000 in
theorem sX9_held {v lo hi : Int32} (hlh : lo ≤ hi) (hq : Q (vI (clampI v lo hi)) I L R N n) : CA sc 1 0 0 mX9_held [vI v, vI lo, vI hi] I L R N n Q := by
  refine ca_in (al := [_, _, _]) rfl ?_
  refine w_iload_n dX9_held_0 rfl ?_
  refine w_iload_n dX9_held_1 rfl ?_
  refine w_iload_n dX9_held_2 rfl ?_
  refine w_min dX9_held_3 mlX9_97 st_min iiJ9 co_min (by decide) (Nat.le_of_ble_eq_true rfl) ?_
  refine w_max dX9_held_6 mlX9_333 st_max iiJ9 co_max (by decide) (Nat.le_of_ble_eq_true rfl) ?_
  refine w_ireturn dX9_held_9 rfl rfl ?_
  refine q_e ?_ hq
  unfold clampI
  split <;> (try split) <;> (try split) <;> (try split) <;> first | rfl | (simp only [Int32.lt_iff_toInt_lt, Int32.le_iff_toInt_le, ← Int32.toInt_inj] at *; omega)

set_option maxRecDepth 20000 in
theorem sX10_within {v lo hi : Int32} (hq : Q (vI (clampI v lo hi)) I L R N n) : CA sc 0 0 0 mX10_within [vI v, vI lo, vI hi] I L R N n Q := by
  refine ca_in (al := [_, _, _]) rfl ?_
  refine w_iload_n dX10_within_0 rfl ?_
  refine w_iload_n dX10_within_1 rfl ?_
  refine w_icmp_ge (tgt := 9) dX10_within_2 (by decide) (fun c2 => ?_) (fun c2 => ?_)
  · refine w_iload_n dX10_within_9 rfl ?_
    refine w_iload_n dX10_within_10 rfl ?_
    refine w_icmp_le (tgt := 18) dX10_within_11 (by decide) (fun c11 => ?_) (fun c11 => ?_)
    · refine w_iload_n dX10_within_18 rfl ?_
      refine w_ireturn dX10_within_19 rfl rfl ?_
      refine q_e ?_ hq
      unfold clampI
      split <;> (try split) <;> (try split) <;> (try split) <;> first | rfl | (exfalso; simp only [Int32.lt_iff_toInt_lt, Int32.le_iff_toInt_le, ← Int32.toInt_inj] at *; omega)
    · refine w_iload_n dX10_within_14 rfl ?_
      refine w_goto (tgt := 19) dX10_within_15 (by decide) ?_
      refine w_ireturn dX10_within_19 rfl rfl ?_
      refine q_e ?_ hq
      unfold clampI
      split <;> (try split) <;> (try split) <;> (try split) <;> first | rfl | (exfalso; simp only [Int32.lt_iff_toInt_lt, Int32.le_iff_toInt_le, ← Int32.toInt_inj] at *; omega)
  · refine w_iload_n dX10_within_5 rfl ?_
    refine w_goto (tgt := 19) dX10_within_6 (by decide) ?_
    refine w_ireturn dX10_within_19 rfl rfl ?_
    refine q_e ?_ hq
    unfold clampI
    split <;> (try split) <;> (try split) <;> (try split) <;> first | rfl | (exfalso; simp only [Int32.lt_iff_toInt_lt, Int32.le_iff_toInt_le, ← Int32.toInt_inj] at *; omega)

set_option maxRecDepth 20000 in
theorem sX9_isDay {v : Int32} (hq : Q (vI (bI (0 ≤ v ∧ v ≤ 30))) I L R N n) : CA sc 1 0 0 mX9_isDay [vI v] I L R N n Q := by
  refine ca_in (al := [_]) rfl ?_
  refine w_iload_n dX9_isDay_0 rfl ?_
  refine w_iconst dX9_isDay_1 ic_0 ?_
  refine w_bipush dX9_isDay_2 bp_30 ?_
  refine c_S (as := [_, _, _]) (d' := 0) dX9_isDay_4 (Or.inl mlX9_86) moX9_within msX9_within rfl rfl rfl rfl rfl (by decide) (sX9_within ?_)
  refine w_ireturn dX9_isDay_7 rfl bI_z ?_
  exact hq

set_option maxRecDepth 20000 in
theorem sX9_isKind {v : Int32} (hq : Q (vI (bI (0 ≤ v ∧ v ≤ 5))) I L R N n) : CA sc 1 0 0 mX9_isKind [vI v] I L R N n Q := by
  refine ca_in (al := [_]) rfl ?_
  refine w_iload_n dX9_isKind_0 rfl ?_
  refine w_iconst dX9_isKind_1 ic_0 ?_
  refine w_iconst dX9_isKind_2 ic_5 ?_
  refine c_S (as := [_, _, _]) (d' := 0) dX9_isKind_3 (Or.inl mlX9_86) moX9_within msX9_within rfl rfl rfl rfl rfl (by decide) (sX9_within ?_)
  refine w_ireturn dX9_isKind_6 rfl bI_z ?_
  exact hq

set_option maxRecDepth 20000 in
theorem sX10_isDay {v : Int32} (hq : Q (vI (bI (0 ≤ v ∧ v ≤ 30))) I L R N n) : CA sc 1 0 0 mX10_isDay [vI v] I L R N n Q := by
  refine ca_in (al := [_]) rfl ?_
  refine w_iload_n dX10_isDay_0 rfl ?_
  refine w_iconst dX10_isDay_1 ic_0 ?_
  refine w_bipush dX10_isDay_2 bp_30 ?_
  refine c_S (as := [_, _, _]) (d' := 0) dX10_isDay_4 (Or.inl mlX10_97) moX10_in msX10_in rfl rfl rfl rfl rfl (by decide) (sX10_in ?_)
  refine w_ireturn dX10_isDay_7 rfl bI_z ?_
  exact hq

set_option maxRecDepth 20000 in
theorem sX10_isSheet {v : Int32} (hq : Q (vI (bI (0 ≤ v ∧ v ≤ 3))) I L R N n) : CA sc 1 0 0 mX10_isSheet [vI v] I L R N n Q := by
  refine ca_in (al := [_]) rfl ?_
  refine w_iload_n dX10_isSheet_0 rfl ?_
  refine w_iconst dX10_isSheet_1 ic_0 ?_
  refine w_iconst dX10_isSheet_2 ic_3 ?_
  refine c_S (as := [_, _, _]) (d' := 0) dX10_isSheet_3 (Or.inl mlX10_97) moX10_in msX10_in rfl rfl rfl rfl rfl (by decide) (sX10_in ?_)
  refine w_ireturn dX10_isSheet_6 rfl bI_z ?_
  exact hq

set_option maxRecDepth 20000 in
theorem sX10_isSlot {v : Int32} (hq : Q (vI (bI (0 ≤ v ∧ v ≤ 4))) I L R N n) : CA sc 1 0 0 mX10_isSlot [vI v] I L R N n Q := by
  refine ca_in (al := [_]) rfl ?_
  refine w_iload_n dX10_isSlot_0 rfl ?_
  refine w_iconst dX10_isSlot_1 ic_0 ?_
  refine w_iconst dX10_isSlot_2 ic_4 ?_
  refine c_S (as := [_, _, _]) (d' := 0) dX10_isSlot_3 (Or.inl mlX10_97) moX10_in msX10_in rfl rfl rfl rfl rfl (by decide) (sX10_in ?_)
  refine w_ireturn dX10_isSlot_6 rfl bI_z ?_
  exact hq

set_option maxRecDepth 20000 in
theorem sX10_told0 {v : Int32} (hq : Q (vI (if v < 0 then -1000000005 else v)) I L R N n) : CA sc 0 0 0 mX10_told0 [vI v] I L R N n Q := by
  refine ca_in (al := [_]) rfl ?_
  refine w_iload_n dX10_told0_0 rfl ?_
  refine w_if_ge (tgt := 9) dX10_told0_1 (by decide) (fun c1 => ?_) (fun c1 => ?_)
  · refine w_iload_n dX10_told0_9 rfl ?_
    refine w_ireturn dX10_told0_10 rfl rfl ?_
    refine q_e ?_ hq
    split <;> (try split) <;> (try split) <;> (try split) <;> first | rfl | (exfalso; simp only [Int32.lt_iff_toInt_lt, Int32.le_iff_toInt_le, ← Int32.toInt_inj] at *; omega)
  · refine w_ldc dX10_told0_4 kcX10_96 ?_
    refine w_goto (tgt := 10) dX10_told0_6 (by decide) ?_
    refine w_ireturn dX10_told0_10 rfl rfl ?_
    refine q_e ?_ hq
    split <;> (try split) <;> (try split) <;> (try split) <;> first | rfl | (exfalso; simp only [Int32.lt_iff_toInt_lt, Int32.le_iff_toInt_le, ← Int32.toInt_inj] at *; omega)

set_option maxRecDepth 20000 in
theorem sX10_mostOf {v : Int32} (hq : Q (vI (if v = 1 then 100 else if v = 3 then 9 else if v = 4 ∨ v = 6 then 9999 else 99)) I L R N n) : CA sc 0 0 0 mX10_mostOf [vI v] I L R N n Q := by
  refine ca_in (al := [_]) rfl ?_
  refine w_iload_n dX10_mostOf_0 rfl ?_
  refine w_iconst dX10_mostOf_1 ic_1 ?_
  refine w_icmp_ne (tgt := 10) dX10_mostOf_2 (by decide) (fun c2 => ?_) (fun c2 => ?_)
  · refine w_iload_n dX10_mostOf_10 rfl ?_
    refine w_iconst dX10_mostOf_11 ic_3 ?_
    refine w_icmp_ne (tgt := 20) dX10_mostOf_12 (by decide) (fun c12 => ?_) (fun c12 => ?_)
    · refine w_iload_n dX10_mostOf_20 rfl ?_
      refine w_iconst dX10_mostOf_21 ic_4 ?_
      refine w_icmp_eq (tgt := 31) dX10_mostOf_22 (by decide) (fun c22 => ?_) (fun c22 => ?_)
      · refine w_sipush dX10_mostOf_31 sp_9999 ?_
        refine w_goto (tgt := 39) dX10_mostOf_34 (by decide) ?_
        refine w_ireturn dX10_mostOf_39 rfl rfl ?_
        refine q_e ?_ hq
        simp_all
      · refine w_iload_n dX10_mostOf_25 rfl ?_
        refine w_bipush dX10_mostOf_26 bp_6 ?_
        refine w_icmp_ne (tgt := 37) dX10_mostOf_28 (by decide) (fun c28 => ?_) (fun c28 => ?_)
        · refine w_bipush dX10_mostOf_37 bp_99 ?_
          refine w_ireturn dX10_mostOf_39 rfl rfl ?_
          refine q_e ?_ hq
          simp_all
        · refine w_sipush dX10_mostOf_31 sp_9999 ?_
          refine w_goto (tgt := 39) dX10_mostOf_34 (by decide) ?_
          refine w_ireturn dX10_mostOf_39 rfl rfl ?_
          refine q_e ?_ hq
          simp_all
    · refine w_bipush dX10_mostOf_15 bp_9 ?_
      refine w_goto (tgt := 39) dX10_mostOf_17 (by decide) ?_
      refine w_ireturn dX10_mostOf_39 rfl rfl ?_
      refine q_e ?_ hq
      simp_all
  · refine w_bipush dX10_mostOf_5 bp_100 ?_
    refine w_goto (tgt := 39) dX10_mostOf_7 (by decide) ?_
    refine w_ireturn dX10_mostOf_39 rfl rfl ?_
    refine q_e ?_ hq
    simp_all

set_option maxRecDepth 20000 in
theorem sX10_leastOf {v : Int32} (hq : Q (vI (if v = 2 then 1 else 0)) I L R N n) : CA sc 0 0 0 mX10_leastOf [vI v] I L R N n Q := by
  refine ca_in (al := [_]) rfl ?_
  refine w_iload_n dX10_leastOf_0 rfl ?_
  refine w_iconst dX10_leastOf_1 ic_2 ?_
  refine w_icmp_ne (tgt := 9) dX10_leastOf_2 (by decide) (fun c2 => ?_) (fun c2 => ?_)
  · refine w_iconst dX10_leastOf_9 ic_0 ?_
    refine w_ireturn dX10_leastOf_10 rfl rfl ?_
    refine q_e ?_ hq
    simp_all
  · refine w_iconst dX10_leastOf_5 ic_1 ?_
    refine w_goto (tgt := 10) dX10_leastOf_6 (by decide) ?_
    refine w_ireturn dX10_leastOf_10 rfl rfl ?_
    refine q_e ?_ hq
    simp_all

set_option maxRecDepth 20000 in
theorem sX10_isSort (hs : SK R N) {v : Int32} (hq : Q (vI (bI (0 ≤ v ∧ v ≤ I 118 1 - 1))) I L R N n) : CA sc 1 0 0 mX10_isSort [vR 10 117, vI v] I L R N n Q := by
  refine ca_in (al := [_, _]) rfl ?_
  refine w_iload_n dX10_isSort_0 rfl ?_
  refine w_iconst dX10_isSort_1 ic_0 ?_
  refine w_aload_n dX10_isSort_2 rfl ?_
  refine w_getR dX10_isSort_3 flX10_9 rfl (hs.r (a := 117) (j := 0) (b := 118) 116 rfl) ?_
  refine w_iconst dX10_isSort_6 ic_1 ?_
  refine w_iald (q := 1) dX10_isSort_7 rfl (hs.n (a := 118) (z := 1452) 72 rfl) (by decide) ?_
  refine w_iconst dX10_isSort_8 ic_1 ?_
  refine w_isub dX10_isSort_9 ?_
  refine c_S (as := [_, _, _]) (d' := 0) dX10_isSort_10 (Or.inl mlX10_97) moX10_in msX10_in rfl rfl rfl rfl rfl (by decide) (sX10_in ?_)
  refine w_ireturn dX10_isSort_13 rfl bI_z ?_
  exact hq

set_option maxRecDepth 20000 in
theorem sX10_isRule (hs : SK R N) {v : Int32} (hq : Q (vI (bI (0 ≤ v ∧ v ≤ I 118 2 - 1))) I L R N n) : CA sc 1 0 0 mX10_isRule [vR 10 117, vI v] I L R N n Q := by
  refine ca_in (al := [_, _]) rfl ?_
  refine w_iload_n dX10_isRule_0 rfl ?_
  refine w_iconst dX10_isRule_1 ic_0 ?_
  refine w_aload_n dX10_isRule_2 rfl ?_
  refine w_getR dX10_isRule_3 flX10_9 rfl (hs.r (a := 117) (j := 0) (b := 118) 116 rfl) ?_
  refine w_iconst dX10_isRule_6 ic_2 ?_
  refine w_iald (q := 2) dX10_isRule_7 rfl (hs.n (a := 118) (z := 1452) 72 rfl) (by decide) ?_
  refine w_iconst dX10_isRule_8 ic_1 ?_
  refine w_isub dX10_isRule_9 ?_
  refine c_S (as := [_, _, _]) (d' := 0) dX10_isRule_10 (Or.inl mlX10_97) moX10_in msX10_in rfl rfl rfl rfl rfl (by decide) (sX10_in ?_)
  refine w_ireturn dX10_isRule_13 rfl bI_z ?_
  exact hq

set_option maxRecDepth 20000 in
theorem sX10_sortOf (hs : SK R N) {a b : Nat} (hb : 6 + 7 * a + b < 1452) (hq : Q (vI (I 118 (6 + 7 * a + b))) I L R N n) : CA sc 0 0 0 mX10_sortOf [vR 10 117, vI (nI a), vI (nI b)] I L R N n Q := by
  refine ca_in (al := [_, _, _]) rfl ?_
  refine w_aload_n dX10_sortOf_0 rfl ?_
  refine w_getR dX10_sortOf_1 flX10_9 rfl (hs.r (a := 117) (j := 0) (b := 118) 116 rfl) ?_
  refine w_bipush dX10_sortOf_4 bp_6 ?_
  refine w_bipush dX10_sortOf_6 bp_7 ?_
  refine w_iload_n dX10_sortOf_8 rfl ?_
  refine w_imul dX10_sortOf_9 ?_
  refine w_iadd dX10_sortOf_10 ?_
  refine w_iload_n dX10_sortOf_11 rfl ?_
  refine w_iadd dX10_sortOf_12 ?_
  refine w_top (y := nI (6 + 7 * a + b)) (by show nI 6 + nI 7 * nI a + nI b = _; rw [nI_mul, nI_add, nI_add]) ?_
  refine w_iald dX10_sortOf_13 rfl (hs.n (a := 118) (z := 1452) 72 rfl) (by omega) ?_
  refine w_ireturn dX10_sortOf_14 rfl rfl ?_
  exact hq

set_option maxRecDepth 20000 in
theorem sX10_of (hs : SK R N) {a b : Nat} (hb : 48 + 4 * a + b < 1452) (hq : Q (vI (I 118 (48 + 4 * a + b))) I L R N n) : CA sc 0 0 0 mX10_of [vR 10 117, vI (nI a), vI (nI b)] I L R N n Q := by
  refine ca_in (al := [_, _, _]) rfl ?_
  refine w_aload_n dX10_of_0 rfl ?_
  refine w_getR dX10_of_1 flX10_9 rfl (hs.r (a := 117) (j := 0) (b := 118) 116 rfl) ?_
  refine w_bipush dX10_of_4 bp_48 ?_
  refine w_iconst dX10_of_6 ic_4 ?_
  refine w_iload_n dX10_of_7 rfl ?_
  refine w_imul dX10_of_8 ?_
  refine w_iadd dX10_of_9 ?_
  refine w_iload_n dX10_of_10 rfl ?_
  refine w_iadd dX10_of_11 ?_
  refine w_top (y := nI (48 + 4 * a + b)) (by show nI 48 + nI 4 * nI a + nI b = _; rw [nI_mul, nI_add, nI_add]) ?_
  refine w_iald dX10_of_12 rfl (hs.n (a := 118) (z := 1452) 72 rfl) (by omega) ?_
  refine w_ireturn dX10_of_13 rfl rfl ?_
  exact hq

set_option maxRecDepth 20000 in
theorem sX10_isPart {w v : Int32} (hq : Q (vI (bI ((if w = 2 then 1 else 0) ≤ v ∧ v ≤ if w = 0 then 99 else if w = 1 then 999 else 30))) I L R N n) : CA sc 1 0 0 mX10_isPart [vI w, vI v] I L R N n Q := by
  refine ca_in (al := [_, _]) rfl ?_
  refine w_iload_n dX10_isPart_0 rfl ?_
  refine w_iload_n dX10_isPart_1 rfl ?_
  refine c_S (as := [_]) (d' := 0) dX10_isPart_2 (Or.inl mlX10_124) moX10_leastOf msX10_leastOf rfl rfl rfl rfl rfl (by decide) (sX10_leastOf ?_)
  refine w_iload_n dX10_isPart_5 rfl ?_
  refine w_if_ne (tgt := 14) dX10_isPart_6 (by decide) (fun c6 => ?_) (fun c6 => ?_)
  · refine w_iload_n dX10_isPart_14 rfl ?_
    refine w_iconst dX10_isPart_15 ic_1 ?_
    refine w_icmp_ne (tgt := 25) dX10_isPart_16 (by decide) (fun c16 => ?_) (fun c16 => ?_)
    · refine w_bipush dX10_isPart_25 bp_30 ?_
      refine c_S (as := [_, _, _]) (d' := 0) dX10_isPart_27 (Or.inl mlX10_97) moX10_in msX10_in rfl rfl rfl rfl rfl (by decide) (sX10_in ?_)
      refine w_ireturn dX10_isPart_30 rfl bI_z ?_
      refine q_e (bI_c ?_) hq
      simp_all
    · refine w_sipush dX10_isPart_19 sp_999 ?_
      refine w_goto (tgt := 27) dX10_isPart_22 (by decide) ?_
      refine c_S (as := [_, _, _]) (d' := 0) dX10_isPart_27 (Or.inl mlX10_97) moX10_in msX10_in rfl rfl rfl rfl rfl (by decide) (sX10_in ?_)
      refine w_ireturn dX10_isPart_30 rfl bI_z ?_
      refine q_e (bI_c ?_) hq
      simp_all
  · refine w_bipush dX10_isPart_9 bp_99 ?_
    refine w_goto (tgt := 27) dX10_isPart_11 (by decide) ?_
    refine c_S (as := [_, _, _]) (d' := 0) dX10_isPart_27 (Or.inl mlX10_97) moX10_in msX10_in rfl rfl rfl rfl rfl (by decide) (sX10_in ?_)
    refine w_ireturn dX10_isPart_30 rfl bI_z ?_
    refine q_e (bI_c ?_) hq
    simp_all

set_option maxRecDepth 20000 in
theorem sX10_isUnder {k one : Int32} (hq : Q (vI (bI (under k one))) I L R N n) : CA sc 0 0 0 mX10_isUnder [vI k, vI one] I L R N n Q := by
  refine ca_in (al := [_, _]) rfl ?_
  refine w_iload_n dX10_isUnder_0 rfl ?_
  refine w_if_eq (tgt := 29) dX10_isUnder_1 (by decide) (fun c1 => ?_) (fun c1 => ?_)
  · refine w_iconst dX10_isUnder_29 ic_1 ?_
    refine w_goto (tgt := 34) dX10_isUnder_30 (by decide) ?_
    refine w_ireturn dX10_isUnder_34 rfl rfl ?_
    first | exact q_1 (by unfold under; simp_all) hq | exact q_0 (by unfold under; simp_all) hq
  · refine w_iload_n dX10_isUnder_4 rfl ?_
    refine w_iload_n dX10_isUnder_5 rfl ?_
    refine w_icmp_eq (tgt := 29) dX10_isUnder_6 (by decide) (fun c6 => ?_) (fun c6 => ?_)
    · refine w_iconst dX10_isUnder_29 ic_1 ?_
      refine w_goto (tgt := 34) dX10_isUnder_30 (by decide) ?_
      refine w_ireturn dX10_isUnder_34 rfl rfl ?_
      first | exact q_1 (by unfold under; simp_all) hq | exact q_0 (by unfold under; simp_all) hq
    · refine w_iload_n dX10_isUnder_9 rfl ?_
      refine w_iconst dX10_isUnder_10 ic_1 ?_
      refine w_icmp_ne (tgt := 19) dX10_isUnder_11 (by decide) (fun c11 => ?_) (fun c11 => ?_)
      · refine w_iload_n dX10_isUnder_19 rfl ?_
        refine w_iconst dX10_isUnder_20 ic_2 ?_
        refine w_icmp_ne (tgt := 33) dX10_isUnder_21 (by decide) (fun c21 => ?_) (fun c21 => ?_)
        · refine w_iconst dX10_isUnder_33 ic_0 ?_
          refine w_ireturn dX10_isUnder_34 rfl rfl ?_
          first | exact q_1 (by unfold under; simp_all) hq | exact q_0 (by unfold under; simp_all) hq
        · refine w_iload_n dX10_isUnder_24 rfl ?_
          refine w_iconst dX10_isUnder_25 ic_4 ?_
          refine w_icmp_ne (tgt := 33) dX10_isUnder_26 (by decide) (fun c26 => ?_) (fun c26 => ?_)
          · refine w_iconst dX10_isUnder_33 ic_0 ?_
            refine w_ireturn dX10_isUnder_34 rfl rfl ?_
            first | exact q_1 (by unfold under; simp_all) hq | exact q_0 (by unfold under; simp_all) hq
          · refine w_iconst dX10_isUnder_29 ic_1 ?_
            refine w_goto (tgt := 34) dX10_isUnder_30 (by decide) ?_
            refine w_ireturn dX10_isUnder_34 rfl rfl ?_
            first | exact q_1 (by unfold under; simp_all) hq | exact q_0 (by unfold under; simp_all) hq
      · refine w_iload_n dX10_isUnder_14 rfl ?_
        refine w_iconst dX10_isUnder_15 ic_3 ?_
        refine w_icmp_eq (tgt := 29) dX10_isUnder_16 (by decide) (fun c16 => ?_) (fun c16 => ?_)
        · refine w_iconst dX10_isUnder_29 ic_1 ?_
          refine w_goto (tgt := 34) dX10_isUnder_30 (by decide) ?_
          refine w_ireturn dX10_isUnder_34 rfl rfl ?_
          first | exact q_1 (by unfold under; simp_all) hq | exact q_0 (by unfold under; simp_all) hq
        · refine w_iload_n dX10_isUnder_19 rfl ?_
          refine w_iconst dX10_isUnder_20 ic_2 ?_
          refine w_icmp_ne (tgt := 33) dX10_isUnder_21 (by decide) (fun c21 => ?_) (fun c21 => ?_)
          · refine w_iconst dX10_isUnder_33 ic_0 ?_
            refine w_ireturn dX10_isUnder_34 rfl rfl ?_
            first | exact q_1 (by unfold under; simp_all) hq | exact q_0 (by unfold under; simp_all) hq
          · refine w_iload_n dX10_isUnder_24 rfl ?_
            refine w_iconst dX10_isUnder_25 ic_4 ?_
            refine w_icmp_ne (tgt := 33) dX10_isUnder_26 (by decide) (fun c26 => ?_) (fun c26 => ?_)
            · refine w_iconst dX10_isUnder_33 ic_0 ?_
              refine w_ireturn dX10_isUnder_34 rfl rfl ?_
              first | exact q_1 (by unfold under; simp_all) hq | exact q_0 (by unfold under; simp_all) hq
            · refine w_iconst dX10_isUnder_29 ic_1 ?_
              refine w_goto (tgt := 34) dX10_isUnder_30 (by decide) ?_
              refine w_ireturn dX10_isUnder_34 rfl rfl ?_
              first | exact q_1 (by unfold under; simp_all) hq | exact q_0 (by unfold under; simp_all) hq

set_option maxRecDepth 20000 in
theorem sX10_becomes (hs : SK R N) {a b : Nat} {v : Int32} (hb : 48 + 4 * a + b < 1452) (hq : Q (vI (I 118 (48 + 4 * a + b))) (va_up I 118 (va_up (I 118) (48 + 4 * a + b) v)) L R N n) : CA sc 1 0 0 mX10_becomes [vR 10 117, vI (nI a), vI (nI b), vI v] I L R N n Q := by
  refine ca_in (al := [_, _, _, _, _]) rfl ?_
  refine w_aload_n dX10_becomes_0 rfl ?_
  refine w_iload_n dX10_becomes_1 rfl ?_
  refine w_iload_n dX10_becomes_2 rfl ?_
  refine c_V (t := 10) (as := [_, _]) (d' := 0) dX10_becomes_3 mlX10_131 moX10_of mvX10_of ⟨rfl, rfl⟩ rfl rfl rfl rfl rfl (by decide) (sX10_of hs hb ?_)
  refine w_istore (al' := [_, _, _, _, _]) dX10_becomes_6 rfl rfl rfl ?_
  refine w_aload_n dX10_becomes_8 rfl ?_
  refine w_getR dX10_becomes_9 flX10_9 rfl (hs.r (a := 117) (j := 0) (b := 118) 116 rfl) ?_
  refine w_bipush dX10_becomes_12 bp_48 ?_
  refine w_iconst dX10_becomes_14 ic_4 ?_
  refine w_iload_n dX10_becomes_15 rfl ?_
  refine w_imul dX10_becomes_16 ?_
  refine w_iadd dX10_becomes_17 ?_
  refine w_iload_n dX10_becomes_18 rfl ?_
  refine w_iadd dX10_becomes_19 ?_
  refine w_top (y := nI (48 + 4 * a + b)) (by show nI 48 + nI 4 * nI a + nI b = _; rw [nI_mul, nI_add, nI_add]) ?_
  refine w_iload_n dX10_becomes_20 rfl ?_
  refine w_iast dX10_becomes_21 rfl (hs.n (a := 118) (z := 1452) 72 rfl) (by omega) ?_
  refine w_iload dX10_becomes_22 rfl ?_
  refine w_ireturn dX10_becomes_24 rfl rfl ?_
  exact hq

set_option maxRecDepth 20000 in
theorem sX10_draw (hs : SK R N) (hq : Q (vI (drawV (drawZ (I 118 0)))) (va_up I 118 (va_up (I 118) 0 (drawZ (I 118 0)))) L R N n) : CA sc 0 0 0 mX10_draw [vR 10 117] I L R N n Q := by
  refine ca_in (al := [_]) rfl ?_
  refine w_aload_n dX10_draw_0 rfl ?_
  refine w_getR dX10_draw_1 flX10_9 rfl (hs.r (a := 117) (j := 0) (b := 118) 116 rfl) ?_
  refine w_iconst dX10_draw_4 ic_0 ?_
  refine w_aload_n dX10_draw_5 rfl ?_
  refine w_getR dX10_draw_6 flX10_9 rfl (hs.r (a := 117) (j := 0) (b := 118) 116 rfl) ?_
  refine w_iconst dX10_draw_9 ic_0 ?_
  refine w_iald (q := 0) dX10_draw_10 rfl (hs.n (a := 118) (z := 1452) 72 rfl) (by decide) ?_
  refine w_ldc dX10_draw_11 kcX10_119 ?_
  refine w_imul dX10_draw_13 ?_
  refine w_sipush dX10_draw_14 sp_12345 ?_
  refine w_iadd dX10_draw_17 ?_
  refine w_iast (q := 0) dX10_draw_18 rfl (hs.n (a := 118) (z := 1452) 72 rfl) (by decide) ?_
  refine w_aload_n dX10_draw_19 rfl ?_
  refine w_getR dX10_draw_20 flX10_9 rfl (hs.r (a := 117) (j := 0) (b := 118) 116 rfl) ?_
  refine w_iconst dX10_draw_23 ic_0 ?_
  refine w_iald (q := 0) dX10_draw_24 rfl (hs.n (a := 118) (z := 1452) 72 rfl) (by decide) ?_
  refine w_bipush dX10_draw_25 bp_8 ?_
  refine w_iushr dX10_draw_27 ?_
  refine w_ireturn dX10_draw_28 rfl rfl ?_
  simpa only [up_up, va_up_self, drawV, drawZ, remI] using hq

set_option maxRecDepth 20000 in
theorem sX0_restBy {z : Nat} {v : Int32} (hv : 0 < v) (hq : Q (vI (remI (drawV (drawZ (I z 0))) v)) (va_up I z (va_up (I z) 0 (drawZ (I z 0)))) L R N n) : CA sc 0 0 0 mX0_restBy [vR 0 z, vI v] I L R N n Q := by
  refine ca_in (al := [_, _]) rfl ?_
  refine w_aload_n dX0_restBy_0 rfl ?_
  refine w_aload_n dX0_restBy_1 rfl ?_
  refine w_getI dX0_restBy_2 flX0_7 rfl ?_
  refine w_ldc dX0_restBy_5 kcX0_13 ?_
  refine w_imul dX0_restBy_7 ?_
  refine w_sipush dX0_restBy_8 sp_12345 ?_
  refine w_iadd dX0_restBy_11 ?_
  refine w_putI dX0_restBy_12 flX0_7 rfl rfl rfl rfl ?_
  refine w_iload_n dX0_restBy_15 rfl ?_
  refine w_if_le (tgt := 31) dX0_restBy_16 (by decide) (fun c16 => ?_) (fun c16 => ?_)
  · exact absurd hv (Int32.not_lt.mpr c16)
  · refine w_aload_n dX0_restBy_19 rfl ?_
    refine w_getI dX0_restBy_20 flX0_7 rfl ?_
    refine w_bipush dX0_restBy_23 bp_8 ?_
    refine w_iushr dX0_restBy_25 ?_
    refine w_iload_n dX0_restBy_26 rfl ?_
    refine w_irem dX0_restBy_27 (fun q => by rw [q] at hv; exact absurd hv (by decide)) ?_
    refine w_goto (tgt := 32) dX0_restBy_28 (by decide) ?_
    refine w_ireturn dX0_restBy_32 rfl rfl ?_
    simpa only [up_up, va_up_self, drawV, drawZ, remI] using hq

set_option maxRecDepth 20000 in
theorem sX3_worth {r p : Nat} (hr : R r 1 = some p) (hp : N p = 3) (hq : Q (vI (worthF (I r 0) (I p 0) (I p 1) (I p 2))) I L R N n) : CA sc 0 0 0 mX3_worth [vR 3 r] I L R N n Q := by
  refine ca_in (al := [_]) rfl ?_
  refine w_aload_n dX3_worth_0 rfl ?_
  refine w_getI dX3_worth_1 flX3_9 rfl ?_
  by_cases w4_1 : I r 0 = 1
  · refine w_tblIn (tgt := 40) dX3_worth_4 (by rw [w4_1]; decide) (by rw [w4_1]; decide) (by rw [w4_1]; rfl) (by decide) ?_
    refine w_aload_n dX3_worth_40 rfl ?_
    refine w_getR dX3_worth_41 flX3_15 rfl (by assumption) ?_
    refine w_iconst dX3_worth_44 ic_0 ?_
    refine w_iald (q := 0) dX3_worth_45 rfl (by assumption) (by decide) ?_
    refine w_aload_n dX3_worth_46 rfl ?_
    refine w_getR dX3_worth_47 flX3_15 rfl (by assumption) ?_
    refine w_iconst dX3_worth_50 ic_1 ?_
    refine w_iald (q := 1) dX3_worth_51 rfl (by assumption) (by decide) ?_
    refine w_iadd dX3_worth_52 ?_
    refine w_ireturn dX3_worth_53 rfl rfl ?_
    refine q_e ?_ hq
    simp_all [worthF]
  by_cases w4_2 : I r 0 = 2
  · refine w_tblIn (tgt := 75) dX3_worth_4 (by rw [w4_2]; decide) (by rw [w4_2]; decide) (by rw [w4_2]; rfl) (by decide) ?_
    refine w_aload_n dX3_worth_75 rfl ?_
    refine w_getR dX3_worth_76 flX3_15 rfl (by assumption) ?_
    refine w_iconst dX3_worth_79 ic_1 ?_
    refine w_iald (q := 1) dX3_worth_80 rfl (by assumption) (by decide) ?_
    refine w_ireturn dX3_worth_81 rfl rfl ?_
    refine q_e ?_ hq
    simp_all [worthF]
  by_cases w4_3 : I r 0 = 3
  · refine w_tblIn (tgt := 54) dX3_worth_4 (by rw [w4_3]; decide) (by rw [w4_3]; decide) (by rw [w4_3]; rfl) (by decide) ?_
    refine w_aload_n dX3_worth_54 rfl ?_
    refine w_getR dX3_worth_55 flX3_15 rfl (by assumption) ?_
    refine w_iconst dX3_worth_58 ic_0 ?_
    refine w_iald (q := 0) dX3_worth_59 rfl (by assumption) (by decide) ?_
    refine w_aload_n dX3_worth_60 rfl ?_
    refine w_getR dX3_worth_61 flX3_15 rfl (by assumption) ?_
    refine w_iconst dX3_worth_64 ic_1 ?_
    refine w_iald (q := 1) dX3_worth_65 rfl (by assumption) (by decide) ?_
    refine w_iadd dX3_worth_66 ?_
    refine w_aload_n dX3_worth_67 rfl ?_
    refine w_getR dX3_worth_68 flX3_15 rfl (by assumption) ?_
    refine w_iconst dX3_worth_71 ic_2 ?_
    refine w_iald (q := 2) dX3_worth_72 rfl (by assumption) (by decide) ?_
    refine w_isub dX3_worth_73 ?_
    refine w_ireturn dX3_worth_74 rfl rfl ?_
    refine q_e ?_ hq
    simp_all [worthF]
  by_cases w4_4 : I r 0 = 4
  · refine w_tblIn (tgt := 82) dX3_worth_4 (by rw [w4_4]; decide) (by rw [w4_4]; decide) (by rw [w4_4]; rfl) (by decide) ?_
    refine w_aload_n dX3_worth_82 rfl ?_
    refine w_getR dX3_worth_83 flX3_15 rfl (by assumption) ?_
    refine w_iconst dX3_worth_86 ic_1 ?_
    refine w_iald (q := 1) dX3_worth_87 rfl (by assumption) (by decide) ?_
    refine w_aload_n dX3_worth_88 rfl ?_
    refine w_getR dX3_worth_89 flX3_15 rfl (by assumption) ?_
    refine w_iconst dX3_worth_92 ic_2 ?_
    refine w_iald (q := 2) dX3_worth_93 rfl (by assumption) (by decide) ?_
    refine w_iadd dX3_worth_94 ?_
    refine w_ireturn dX3_worth_95 rfl rfl ?_
    refine q_e ?_ hq
    simp_all [worthF]
  by_cases w4_5 : I r 0 = 5
  · refine w_tblIn (tgt := 96) dX3_worth_4 (by rw [w4_5]; decide) (by rw [w4_5]; decide) (by rw [w4_5]; rfl) (by decide) ?_
    refine w_iconst dX3_worth_96 ic_1 ?_
    refine w_ireturn dX3_worth_97 rfl rfl ?_
    refine q_e ?_ hq
    simp_all [worthF]
  refine w_tblOut (tgt := 98) dX3_worth_4 (by have := i_ne (k := 1) (a := 1) rfl w4_1; have := i_ne (k := 2) (a := 2) rfl w4_2; have := i_ne (k := 3) (a := 3) rfl w4_3; have := i_ne (k := 4) (a := 4) rfl w4_4; have := i_ne (k := 5) (a := 5) rfl w4_5; omega) (by decide) ?_
  refine w_aload_n dX3_worth_98 rfl ?_
  refine w_getR dX3_worth_99 flX3_15 rfl (by assumption) ?_
  refine w_iconst dX3_worth_102 ic_0 ?_
  refine w_iald (q := 0) dX3_worth_103 rfl (by assumption) (by decide) ?_
  refine w_ireturn dX3_worth_104 rfl rfl ?_
  refine q_e ?_ hq
  simp_all [worthF]

set_option maxRecDepth 20000 in
theorem sX3_owedFrom {r p : Nat} {plain day : Int32} (hr : R r 1 = some p) (hp : N p = 3) (hc : 0 < I p 2) (hq : Q (vI (owedF (I r 0) (I p 1) (I p 2) plain day)) I L R N n) : CA sc 1 0 0 mX3_owedFrom [vR 3 r, vI plain, vI day] I L R N n Q := by
  refine ca_in (al := [_, _, _]) rfl ?_
  refine w_aload_n dX3_owedFrom_0 rfl ?_
  refine w_getI dX3_owedFrom_1 flX3_9 rfl ?_
  by_cases w4_1 : I r 0 = 1
  · refine w_tblIn (tgt := 40) dX3_owedFrom_4 (by rw [w4_1]; decide) (by rw [w4_1]; decide) (by rw [w4_1]; rfl) (by decide) ?_
    refine w_iload_n dX3_owedFrom_40 rfl ?_
    refine w_iload_n dX3_owedFrom_41 rfl ?_
    refine w_imul dX3_owedFrom_42 ?_
    refine w_ireturn dX3_owedFrom_43 rfl rfl ?_
    refine q_e ?_ hq
    simp_all [owedF]
  by_cases w4_2 : I r 0 = 2
  · refine w_tblIn (tgt := 57) dX3_owedFrom_4 (by rw [w4_2]; decide) (by rw [w4_2]; decide) (by rw [w4_2]; rfl) (by decide) ?_
    refine w_iload_n dX3_owedFrom_57 rfl ?_
    refine w_aload_n dX3_owedFrom_58 rfl ?_
    refine w_getR dX3_owedFrom_59 flX3_15 rfl (by assumption) ?_
    refine w_iconst dX3_owedFrom_62 ic_1 ?_
    refine w_iald (q := 1) dX3_owedFrom_63 rfl (by assumption) (by decide) ?_
    refine w_iadd dX3_owedFrom_64 ?_
    refine w_ireturn dX3_owedFrom_65 rfl rfl ?_
    refine q_e ?_ hq
    simp_all [owedF]
  by_cases w4_3 : I r 0 = 3
  · refine w_tblIn (tgt := 44) dX3_owedFrom_4 (by rw [w4_3]; decide) (by rw [w4_3]; decide) (by rw [w4_3]; rfl) (by decide) ?_
    refine w_iload_n dX3_owedFrom_44 rfl ?_
    refine w_iload_n dX3_owedFrom_45 rfl ?_
    refine w_imul dX3_owedFrom_46 ?_
    refine w_aload_n dX3_owedFrom_47 rfl ?_
    refine w_getR dX3_owedFrom_48 flX3_15 rfl (by assumption) ?_
    refine w_iconst dX3_owedFrom_51 ic_1 ?_
    refine w_iald (q := 1) dX3_owedFrom_52 rfl (by assumption) (by decide) ?_
    refine w_min dX3_owedFrom_53 mlX3_25 st_min iiJ9 co_min (by decide) (Nat.le_of_ble_eq_true rfl) ?_
    refine w_ireturn dX3_owedFrom_56 rfl rfl ?_
    refine q_e ?_ hq
    simp_all [owedF]
  by_cases w4_4 : I r 0 = 4
  · refine w_tblIn (tgt := 66) dX3_owedFrom_4 (by rw [w4_4]; decide) (by rw [w4_4]; decide) (by rw [w4_4]; rfl) (by decide) ?_
    refine w_aload_n dX3_owedFrom_66 rfl ?_
    refine w_getR dX3_owedFrom_67 flX3_15 rfl (by assumption) ?_
    refine w_iconst dX3_owedFrom_70 ic_2 ?_
    refine w_iald (q := 2) dX3_owedFrom_71 rfl (by assumption) (by decide) ?_
    refine w_if_le (tgt := 90) dX3_owedFrom_72 (by decide) (fun c72 => ?_) (fun c72 => ?_)
    · exact absurd hc (Int32.not_lt.mpr c72)
    · refine w_iload_n dX3_owedFrom_75 rfl ?_
      refine w_aload_n dX3_owedFrom_76 rfl ?_
      refine w_getR dX3_owedFrom_77 flX3_15 rfl (by assumption) ?_
      refine w_iconst dX3_owedFrom_80 ic_2 ?_
      refine w_iald (q := 2) dX3_owedFrom_81 rfl (by assumption) (by decide) ?_
      refine w_irem dX3_owedFrom_82 (fun q => by rw [q] at hc; exact absurd hc (by decide)) ?_
      refine w_if_ne (tgt := 90) dX3_owedFrom_83 (by decide) (fun c83 => ?_) (fun c83 => ?_)
      · refine w_iload_n dX3_owedFrom_90 rfl ?_
        refine w_aload_n dX3_owedFrom_91 rfl ?_
        refine w_getR dX3_owedFrom_92 flX3_15 rfl (by assumption) ?_
        refine w_iconst dX3_owedFrom_95 ic_1 ?_
        refine w_iald (q := 1) dX3_owedFrom_96 rfl (by assumption) (by decide) ?_
        refine w_iadd dX3_owedFrom_97 ?_
        refine w_ireturn dX3_owedFrom_98 rfl rfl ?_
        refine q_e ?_ hq
        simp_all [owedF]
      · refine w_iconst dX3_owedFrom_86 ic_0 ?_
        refine w_goto (tgt := 98) dX3_owedFrom_87 (by decide) ?_
        refine w_ireturn dX3_owedFrom_98 rfl rfl ?_
        refine q_e ?_ hq
        simp_all [owedF]
  by_cases w4_5 : I r 0 = 5
  · refine w_tblIn (tgt := 99) dX3_owedFrom_4 (by rw [w4_5]; decide) (by rw [w4_5]; decide) (by rw [w4_5]; rfl) (by decide) ?_
    refine w_iconst dX3_owedFrom_99 ic_0 ?_
    refine w_ireturn dX3_owedFrom_100 rfl rfl ?_
    refine q_e ?_ hq
    simp_all [owedF]
  refine w_tblOut (tgt := 101) dX3_owedFrom_4 (by have := i_ne (k := 1) (a := 1) rfl w4_1; have := i_ne (k := 2) (a := 2) rfl w4_2; have := i_ne (k := 3) (a := 3) rfl w4_3; have := i_ne (k := 4) (a := 4) rfl w4_4; have := i_ne (k := 5) (a := 5) rfl w4_5; omega) (by decide) ?_
  refine w_iload_n dX3_owedFrom_101 rfl ?_
  refine w_ireturn dX3_owedFrom_102 rfl rfl ?_
  refine q_e ?_ hq
  simp_all [owedF]

end
