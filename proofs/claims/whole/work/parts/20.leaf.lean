section
variable {sc : SC} {I : HI} {L : HL} {R : HR} {N : HN} {n : Nat} {Q : HQ}
set_option maxRecDepth 20000 in
theorem sX9_within {v lo hi : Int32} (hq : Q (vI (bI (lo ≤ v ∧ v ≤ hi))) I L R N n) : CA sc 0 0 0 mX9_within [vI v, vI lo, vI hi] I L R N n Q := by
  refine ca_in (al := [_, _, _]) rfl ?_
  refine w_iload_n dX9_within_0 rfl ?_
  refine w_iload_n dX9_within_1 rfl ?_
  refine w_icmp_lt (tgt := 14) dX9_within_2 (by decide) (fun c2 => ?_) (fun c2 => ?_)
  · refine w_iconst dX9_within_14 ic_0 ?_
    refine w_ireturn dX9_within_15 rfl rfl ?_
    first | exact q_0 (by simp only [Int32.lt_iff_toInt_lt, Int32.le_iff_toInt_le] at *; omega) hq | exact q_1 (by simp only [Int32.lt_iff_toInt_lt, Int32.le_iff_toInt_le] at *; omega) hq
  · refine w_iload_n dX9_within_5 rfl ?_
    refine w_iload_n dX9_within_6 rfl ?_
    refine w_icmp_gt (tgt := 14) dX9_within_7 (by decide) (fun c7 => ?_) (fun c7 => ?_)
    · refine w_iconst dX9_within_14 ic_0 ?_
      refine w_ireturn dX9_within_15 rfl rfl ?_
      first | exact q_0 (by simp only [Int32.lt_iff_toInt_lt, Int32.le_iff_toInt_le] at *; omega) hq | exact q_1 (by simp only [Int32.lt_iff_toInt_lt, Int32.le_iff_toInt_le] at *; omega) hq
    · refine w_iconst dX9_within_10 ic_1 ?_
      refine w_goto (tgt := 15) dX9_within_11 (by decide) ?_
      refine w_ireturn dX9_within_15 rfl rfl ?_
      first | exact q_0 (by simp only [Int32.lt_iff_toInt_lt, Int32.le_iff_toInt_le] at *; omega) hq | exact q_1 (by simp only [Int32.lt_iff_toInt_lt, Int32.le_iff_toInt_le] at *; omega) hq

set_option maxRecDepth 20000 in
theorem sX10_in {v lo hi : Int32} (hq : Q (vI (bI (lo ≤ v ∧ v ≤ hi))) I L R N n) : CA sc 0 0 0 mX10_in [vI v, vI lo, vI hi] I L R N n Q := by
  refine ca_in (al := [_, _, _]) rfl ?_
  refine w_iload_n dX10_in_0 rfl ?_
  refine w_iload_n dX10_in_1 rfl ?_
  refine w_icmp_lt (tgt := 14) dX10_in_2 (by decide) (fun c2 => ?_) (fun c2 => ?_)
  · refine w_iconst dX10_in_14 ic_0 ?_
    refine w_ireturn dX10_in_15 rfl rfl ?_
    first | exact q_0 (by simp only [Int32.lt_iff_toInt_lt, Int32.le_iff_toInt_le] at *; omega) hq | exact q_1 (by simp only [Int32.lt_iff_toInt_lt, Int32.le_iff_toInt_le] at *; omega) hq
  · refine w_iload_n dX10_in_5 rfl ?_
    refine w_iload_n dX10_in_6 rfl ?_
    refine w_icmp_gt (tgt := 14) dX10_in_7 (by decide) (fun c7 => ?_) (fun c7 => ?_)
    · refine w_iconst dX10_in_14 ic_0 ?_
      refine w_ireturn dX10_in_15 rfl rfl ?_
      first | exact q_0 (by simp only [Int32.lt_iff_toInt_lt, Int32.le_iff_toInt_le] at *; omega) hq | exact q_1 (by simp only [Int32.lt_iff_toInt_lt, Int32.le_iff_toInt_le] at *; omega) hq
    · refine w_iconst dX10_in_10 ic_1 ?_
      refine w_goto (tgt := 15) dX10_in_11 (by decide) ?_
      refine w_ireturn dX10_in_15 rfl rfl ?_
      first | exact q_0 (by simp only [Int32.lt_iff_toInt_lt, Int32.le_iff_toInt_le] at *; omega) hq | exact q_1 (by simp only [Int32.lt_iff_toInt_lt, Int32.le_iff_toInt_le] at *; omega) hq

set_option maxRecDepth 20000 in
theorem sX9_held {v lo hi : Int32} (hlh : lo ≤ hi) (hq : Q (vI (clampI v lo hi)) I L R N n) : CA sc 1 0 0 mX9_held [vI v, vI lo, vI hi] I L R N n Q := by
  refine ca_in (al := [_, _, _]) rfl ?_
  refine w_iload_n dX9_held_0 rfl ?_
  refine w_iload_n dX9_held_1 rfl ?_
  refine w_iload_n dX9_held_2 rfl ?_
  refine w_min dX9_held_3 mlX9_97 st_min iiJ9 co_min (by decide) (Nat.le_of_ble_eq_true rfl) ?_
  refine w_max dX9_held_6 mlX9_333 st_max iiJ9 co_max (by decide) (Nat.le_of_ble_eq_true rfl) ?_
  refine w_ireturn dX9_held_9 rfl rfl ?_
  refine q_e ?_ hq
  unfold clampI
  split <;> (try split) <;> (try split) <;> (try split) <;> first | rfl | (simp only [Int32.lt_iff_toInt_lt, Int32.le_iff_toInt_le, ← Int32.toInt_inj] at *; omega)

set_option maxRecDepth 20000 in
theorem sX10_within {v lo hi : Int32} (hq : Q (vI (clampI v lo hi)) I L R N n) : CA sc 0 0 0 mX10_within [vI v, vI lo, vI hi] I L R N n Q := by
  refine ca_in (al := [_, _, _]) rfl ?_
  refine w_iload_n dX10_within_0 rfl ?_
  refine w_iload_n dX10_within_1 rfl ?_
  refine w_icmp_ge (tgt := 9) dX10_within_2 (by decide) (fun c2 => ?_) (fun c2 => ?_)
  · refine w_iload_n dX10_within_9 rfl ?_
    refine w_iload_n dX10_within_10 rfl ?_
    refine w_icmp_le (tgt := 18) dX10_within_11 (by decide) (fun c11 => ?_) (fun c11 => ?_)
    · refine w_iload_n dX10_within_18 rfl ?_
      refine w_ireturn dX10_within_19 rfl rfl ?_
      refine q_e ?_ hq
      unfold clampI
      simp_all
    · refine w_iload_n dX10_within_14 rfl ?_
      refine w_goto (tgt := 19) dX10_within_15 (by decide) ?_
      refine w_ireturn dX10_within_19 rfl rfl ?_
      refine q_e ?_ hq
      unfold clampI
      simp_all
  · refine w_iload_n dX10_within_5 rfl ?_
    refine w_goto (tgt := 19) dX10_within_6 (by decide) ?_
    refine w_ireturn dX10_within_19 rfl rfl ?_
    refine q_e ?_ hq
    unfold clampI
    simp_all

set_option maxRecDepth 20000 in
theorem sX9_isDay {v : Int32} (hq : Q (vI (bI (0 ≤ v ∧ v ≤ 30))) I L R N n) : CA sc 1 0 0 mX9_isDay [vI v] I L R N n Q := by
  refine ca_in (al := [_]) rfl ?_
  refine w_iload_n dX9_isDay_0 rfl ?_
  refine w_iconst dX9_isDay_1 ic_0 ?_
  refine w_bipush dX9_isDay_2 bp_30 ?_
  refine c_S (as := [_, _, _]) (d' := 0) dX9_isDay_4 (Or.inl mlX9_86) moX9_within msX9_within rfl rfl rfl rfl rfl (by decide) (sX9_within ?_)
  refine w_ireturn dX9_isDay_7 rfl bI_z ?_
  exact hq

set_option maxRecDepth 20000 in
theorem sX9_isKind {v : Int32} (hq : Q (vI (bI (0 ≤ v ∧ v ≤ 5))) I L R N n) : CA sc 1 0 0 mX9_isKind [vI v] I L R N n Q := by
  refine ca_in (al := [_]) rfl ?_
  refine w_iload_n dX9_isKind_0 rfl ?_
  refine w_iconst dX9_isKind_1 ic_0 ?_
  refine w_iconst dX9_isKind_2 ic_5 ?_
  refine c_S (as := [_, _, _]) (d' := 0) dX9_isKind_3 (Or.inl mlX9_86) moX9_within msX9_within rfl rfl rfl rfl rfl (by decide) (sX9_within ?_)
  refine w_ireturn dX9_isKind_6 rfl bI_z ?_
  exact hq

set_option maxRecDepth 20000 in
theorem sX10_isDay {v : Int32} (hq : Q (vI (bI (0 ≤ v ∧ v ≤ 30))) I L R N n) : CA sc 1 0 0 mX10_isDay [vI v] I L R N n Q := by
  refine ca_in (al := [_]) rfl ?_
  refine w_iload_n dX10_isDay_0 rfl ?_
  refine w_iconst dX10_isDay_1 ic_0 ?_
  refine w_bipush dX10_isDay_2 bp_30 ?_
  refine c_S (as := [_, _, _]) (d' := 0) dX10_isDay_4 (Or.inl mlX10_97) moX10_in msX10_in rfl rfl rfl rfl rfl (by decide) (sX10_in ?_)
  refine w_ireturn dX10_isDay_7 rfl bI_z ?_
  exact hq

set_option maxRecDepth 20000 in
theorem sX10_isSheet {v : Int32} (hq : Q (vI (bI (0 ≤ v ∧ v ≤ 3))) I L R N n) : CA sc 1 0 0 mX10_isSheet [vI v] I L R N n Q := by
  refine ca_in (al := [_]) rfl ?_
  refine w_iload_n dX10_isSheet_0 rfl ?_
  refine w_iconst dX10_isSheet_1 ic_0 ?_
  refine w_iconst dX10_isSheet_2 ic_3 ?_
  refine c_S (as := [_, _, _]) (d' := 0) dX10_isSheet_3 (Or.inl mlX10_97) moX10_in msX10_in rfl rfl rfl rfl rfl (by decide) (sX10_in ?_)
  refine w_ireturn dX10_isSheet_6 rfl bI_z ?_
  exact hq

set_option maxRecDepth 20000 in
theorem sX10_isSlot {v : Int32} (hq : Q (vI (bI (0 ≤ v ∧ v ≤ 4))) I L R N n) : CA sc 1 0 0 mX10_isSlot [vI v] I L R N n Q := by
  refine ca_in (al := [_]) rfl ?_
  refine w_iload_n dX10_isSlot_0 rfl ?_
  refine w_iconst dX10_isSlot_1 ic_0 ?_
  refine w_iconst dX10_isSlot_2 ic_4 ?_
  refine c_S (as := [_, _, _]) (d' := 0) dX10_isSlot_3 (Or.inl mlX10_97) moX10_in msX10_in rfl rfl rfl rfl rfl (by decide) (sX10_in ?_)
  refine w_ireturn dX10_isSlot_6 rfl bI_z ?_
  exact hq

set_option maxRecDepth 20000 in
theorem sX10_told0 {v : Int32} (hq : Q (vI (if v < 0 then -1000000005 else v)) I L R N n) : CA sc 0 0 0 mX10_told0 [vI v] I L R N n Q := by
  refine ca_in (al := [_]) rfl ?_
  refine w_iload_n dX10_told0_0 rfl ?_
  refine w_if_ge (tgt := 9) dX10_told0_1 (by decide) (fun c1 => ?_) (fun c1 => ?_)
  · refine w_iload_n dX10_told0_9 rfl ?_
    refine w_ireturn dX10_told0_10 rfl rfl ?_
    refine q_e ?_ hq
    simp_all
  · refine w_ldc dX10_told0_4 kcX10_96 ?_
    refine w_goto (tgt := 10) dX10_told0_6 (by decide) ?_
    refine w_ireturn dX10_told0_10 rfl rfl ?_
    refine q_e ?_ hq
    simp_all

set_option maxRecDepth 20000 in
theorem sX10_mostOf {v : Int32} (hq : Q (vI (if v = 1 then 100 else if v = 3 then 9 else if v = 4 ∨ v = 6 then 9999 else 99)) I L R N n) : CA sc 0 0 0 mX10_mostOf [vI v] I L R N n Q := by
  refine ca_in (al := [_]) rfl ?_
  refine w_iload_n dX10_mostOf_0 rfl ?_
  refine w_iconst dX10_mostOf_1 ic_1 ?_
  refine w_icmp_ne (tgt := 10) dX10_mostOf_2 (by decide) (fun c2 => ?_) (fun c2 => ?_)
  · refine w_iload_n dX10_mostOf_10 rfl ?_
    refine w_iconst dX10_mostOf_11 ic_3 ?_
    refine w_icmp_ne (tgt := 20) dX10_mostOf_12 (by decide) (fun c12 => ?_) (fun c12 => ?_)
    · refine w_iload_n dX10_mostOf_20 rfl ?_
      refine w_iconst dX10_mostOf_21 ic_4 ?_
      refine w_icmp_eq (tgt := 31) dX10_mostOf_22 (by decide) (fun c22 => ?_) (fun c22 => ?_)
      · refine w_sipush dX10_mostOf_31 sp_9999 ?_
        refine w_goto (tgt := 39) dX10_mostOf_34 (by decide) ?_
        refine w_ireturn dX10_mostOf_39 rfl rfl ?_
        refine q_e ?_ hq
        simp_all
      · refine w_iload_n dX10_mostOf_25 rfl ?_
        refine w_bipush dX10_mostOf_26 bp_6 ?_
        refine w_icmp_ne (tgt := 37) dX10_mostOf_28 (by decide) (fun c28 => ?_) (fun c28 => ?_)
        · refine w_bipush dX10_mostOf_37 bp_99 ?_
          refine w_ireturn dX10_mostOf_39 rfl rfl ?_
          refine q_e ?_ hq
          simp_all
        · refine w_sipush dX10_mostOf_31 sp_9999 ?_
          refine w_goto (tgt := 39) dX10_mostOf_34 (by decide) ?_
          refine w_ireturn dX10_mostOf_39 rfl rfl ?_
          refine q_e ?_ hq
          simp_all
    · refine w_bipush dX10_mostOf_15 bp_9 ?_
      refine w_goto (tgt := 39) dX10_mostOf_17 (by decide) ?_
      refine w_ireturn dX10_mostOf_39 rfl rfl ?_
      refine q_e ?_ hq
      simp_all
  · refine w_bipush dX10_mostOf_5 bp_100 ?_
    refine w_goto (tgt := 39) dX10_mostOf_7 (by decide) ?_
    refine w_ireturn dX10_mostOf_39 rfl rfl ?_
    refine q_e ?_ hq
    simp_all

set_option maxRecDepth 20000 in
theorem sX10_leastOf {v : Int32} (hq : Q (vI (if v = 2 then 1 else 0)) I L R N n) : CA sc 0 0 0 mX10_leastOf [vI v] I L R N n Q := by
  refine ca_in (al := [_]) rfl ?_
  refine w_iload_n dX10_leastOf_0 rfl ?_
  refine w_iconst dX10_leastOf_1 ic_2 ?_
  refine w_icmp_ne (tgt := 9) dX10_leastOf_2 (by decide) (fun c2 => ?_) (fun c2 => ?_)
  · refine w_iconst dX10_leastOf_9 ic_0 ?_
    refine w_ireturn dX10_leastOf_10 rfl rfl ?_
    refine q_e ?_ hq
    simp_all
  · refine w_iconst dX10_leastOf_5 ic_1 ?_
    refine w_goto (tgt := 10) dX10_leastOf_6 (by decide) ?_
    refine w_ireturn dX10_leastOf_10 rfl rfl ?_
    refine q_e ?_ hq
    simp_all

end
