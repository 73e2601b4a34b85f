section
variable {sc : SC} {I : HI} {L : HL} {R : HR} {N : HN} {n : Nat} {Q : HQ}
theorem ck_le (V T : VV) (m : Nat) : ∀ (k i : Nat) (z : Int32), ckF V T m k i z ≤ 2 * (i + k)
  | 0, i, z => Nat.le_refl _
  | k + 1, i, z => by
    unfold ckF
    by_cases h : 2 * i < m ∧ T (2 * i) = (drwF (planV V (i % nS V)) 31 0 z).1
    · rw [cif_t h]
      by_cases h2 : 2 * i + 1 < m ∧ T (2 * i + 1) = dayO V (drwF (planV V (i % nS V)) 31 0 z).1
      · rw [cif_t h2]; have := ck_le V T m k (i + 1) (drwF (planV V (i % nS V)) 31 0 z).2; omega
      · rw [cif_f h2]; omega
    · rw [cif_f h]; omega
set_option maxRecDepth 20000 in
theorem sX10_check (hs : SK R N) (hk : I 117 3 = 0 ∨ (I 117 3 = 1 ∧ VO (mixV (I 119) (I 118)))) {T : VV} {m : Nat} (hm : I 117 43 = nI m) (hm60 : m ≤ 60) (hT : ∀ j, j < m → I 145 j = T j) {a : Int32} (hq : ∀ I' : HI, (∀ q, q ≠ 117 → q ≠ 120 → q ≠ 135 → q ≠ 136 → (q < 121 ∨ 129 ≤ q) → I' q = I q) → (∀ j, j ≠ 43 → I' 117 j = I 117 j) → I' 117 43 = 0 → Q (vI (oCheck (I 117 3) (mixV (I 119) (I 118)) T m a)) I' L R N n) : CA sc 5 0 0 mX10_check [vR 10 117, vI a] I L R N n Q := by
  refine ca_in (al := [_, _, _, _]) rfl ?_
  refine w_aload_n dX10_check_0 rfl ?_
  refine w_getI dX10_check_1 flX10_286 rfl ?_
  refine w_top (y := nI m) (hm) ?_
  refine w_istore_n (al' := [_, _, _, _]) dX10_check_4 rfl rfl rfl ?_
  refine w_aload_n dX10_check_5 rfl ?_
  refine w_iconst dX10_check_6 ic_0 ?_
  refine w_putI dX10_check_7 flX10_286 rfl rfl rfl rfl ?_
  refine w_st (fun I2 hA2 hB2 hC2 => ?_)
  refine w_iload_n dX10_check_10 rfl ?_
  refine w_iconst dX10_check_11 ic_1 ?_
  refine w_bipush dX10_check_12 bp_30 ?_
  refine c_S (as := [_, _, _]) (d' := 0) dX10_check_14 (Or.inl mlX10_97) moX10_in msX10_in rfl rfl rfl rfl rfl (by decide) (sX10_in ?_)
  refine w_ifB_ne (tgt := 23) dX10_check_17 (by decide) (fun c17 => ?_) (fun c17 => ?_)
  · have ha := c17
    obtain ⟨nn, hn1, hn30, rfl⟩ := one_of (m := 30) (by decide) c17
    have hcl : (nI nn).toNatClampNeg = nn := nI_clamp (by omega)
    refine w_aload_n dX10_check_23 rfl ?_
    rcases hk with hk | ⟨hk, hV⟩
    · refine w_getI dX10_check_24 flX10_289 rfl ?_
      refine w_top (y := 0) ((hB2 3 (by decide)).trans hk) ?_
      refine w_if_eq (tgt := 39) dX10_check_27 (by decide) (fun c27 => ?_) (fun c27 => ?_)
      · refine w_ldc dX10_check_39 kcX10_204 ?_
        refine w_ireturn dX10_check_41 rfl rfl ?_
        have e : oCheck (I 117 3) (mixV (I 119) (I 118)) T m (nI nn) = -1000000002 := by unfold oCheck; rw [cif_t ha, cif_t (Or.inl hk)]
        rw [e] at hq
        exact hq I2 (fun q a1 a2 a3 a4 a5 => hA2 q a1) hB2 hC2
      · exact absurd rfl c27
    · have h6 := hV.1.2
      refine w_getI dX10_check_24 flX10_289 rfl ?_
      refine w_top (y := 1) ((hB2 3 (by decide)).trans hk) ?_
      refine w_if_eq (tgt := 39) dX10_check_27 (by decide) (fun c27 => ?_) (fun c27 => ?_)
      · exact absurd c27 (by decide)
      · refine w_aload_n dX10_check_30 rfl ?_
        refine w_getR dX10_check_31 flX10_13 rfl (hs.r (a := 117) (j := 1) (b := 119) 117 rfl) ?_
        refine w_iconst dX10_check_34 ic_1 ?_
        refine w_iald (q := 1) dX10_check_35 rfl (hs.n (a := 119) (z := 1452) 73 rfl) (by decide) ?_
        refine w_top (y := nI (nS (mixV (I 119) (I 118)))) (by rw [hA2 119 (by decide), ← mix_lo (I 119) (I 118) (show 1 < 1452 by decide)]; exact hV.1.1) ?_
        refine w_if_ne (tgt := 42) dX10_check_36 (by decide) (fun c36 => ?_) (fun c36 => ?_)
        · have hs0 : 0 < nS (mixV (I 119) (I 118)) := Nat.pos_of_ne_zero (fun q => c36 (by rw [q]; rfl))
          refine w_aload_n dX10_check_42 rfl ?_
          refine w_getR dX10_check_43 flX10_9 rfl (hs.r (a := 117) (j := 0) (b := 118) 116 rfl) ?_
          refine w_aload_n dX10_check_46 rfl ?_
          refine w_getR dX10_check_47 flX10_16 rfl (hs.r (a := 117) (j := 2) (b := 120) 118 rfl) ?_
          refine c_Sv (as := [_, _]) (d' := 0) dX10_check_50 (Or.inl mlX10_293) moX10_copyAll msX10_copyAll rfl rfl rfl rfl rfl (by decide) (mX10_copyAllA (a := 118) (b := 120) (by decide) (hs.n (a := 118) (z := 1452) 72 rfl) (hs.n (a := 120) (z := 1452) 74 rfl) ?_)
          refine w_aload_n dX10_check_53 rfl ?_
          refine w_getR dX10_check_54 flX10_13 rfl (hs.r (a := 117) (j := 1) (b := 119) 117 rfl) ?_
          refine w_aload_n dX10_check_57 rfl ?_
          refine w_getR dX10_check_58 flX10_9 rfl (hs.r (a := 117) (j := 0) (b := 118) 116 rfl) ?_
          refine c_Sv (as := [_, _]) (d' := 0) dX10_check_61 (Or.inl mlX10_293) moX10_copyAll msX10_copyAll rfl rfl rfl rfl rfl (by decide) (mX10_copyAllA (a := 119) (b := 118) (by decide) (hs.n (a := 119) (z := 1452) 73 rfl) (hs.n (a := 118) (z := 1452) 72 rfl) ?_)
          refine w_heap (fun I3 e3 => ?_)
          have hV3 : I3 118 = (mixV (I 119) (I 118)) := by rw [e3, va_up_self, va_up_ne _ _ (by decide), va_up_ne _ _ (by decide), hA2 119 (by decide), hA2 118 (by decide)]
          have hX3 : ∀ q, q ≠ 118 → q ≠ 120 → I3 q = I2 q := fun q a1 a2 => by rw [e3, va_up_ne _ _ a1, va_up_ne _ _ a2]
          have h120 : I3 120 = mixV (I 118) (I 120) := by rw [e3, va_up_ne _ _ (by decide), va_up_self, hA2 118 (by decide), hA2 120 (by decide)]
          clear e3
          refine w_aload_n dX10_check_64 rfl ?_
          refine w_iload_n dX10_check_65 rfl ?_
          refine w_iload_n dX10_check_66 rfl ?_
          refine c_V (t := 10) (as := [_, _]) (d' := 4) dX10_check_67 mlX10_297 moX10_rightReaders mvX10_rightReaders ⟨rfl, rfl⟩ rfl rfl rfl rfl rfl (by decide) (sX10_rightReaders hs hV3 hV hs0 (T := T) (m := m) hn30 hm60 (fun j hj => by rw [hX3 145 (by decide) (by decide), hA2 145 (by decide)]; exact hT j hj) (fun I4 hI4 hz4 => ?_))
          obtain ⟨z4, hz4⟩ := hz4
          obtain ⟨r, hr⟩ : ∃ r, r = ckF (mixV (I 119) (I 118)) T m nn 0 ((mixV (I 119) (I 118)) 0) := ⟨_, rfl⟩
          have hr60 : r ≤ 60 := by rw [hr]; have := ck_le (mixV (I 119) (I 118)) T m nn 0 ((mixV (I 119) (I 118)) 0); omega
          rw [← hr]
          have e : oCheck (I 117 3) (mixV (I 119) (I 118)) T m (nI nn) = ckA r m nn := by
            unfold oCheck
            rw [cif_t ha, cif_f (fun q => q.elim (fun q => absurd (hk.symm.trans q) (by decide)) (fun q => by omega)), hcl, hr]
          rw [e] at hq
          refine w_istore_n (al' := [_, _, _, _]) dX10_check_70 rfl rfl rfl ?_
          refine w_aload_n dX10_check_71 rfl ?_
          refine w_getR dX10_check_72 flX10_16 rfl (hs.r (a := 117) (j := 2) (b := 120) 118 rfl) ?_
          refine w_aload_n dX10_check_75 rfl ?_
          refine w_getR dX10_check_76 flX10_9 rfl (hs.r (a := 117) (j := 0) (b := 118) 116 rfl) ?_
          refine c_Sv (as := [_, _]) (d' := 0) dX10_check_79 (Or.inl mlX10_293) moX10_copyAll msX10_copyAll rfl rfl rfl rfl rfl (by decide) (mX10_copyAllA (a := 120) (b := 118) (by decide) (hs.n (a := 120) (z := 1452) 74 rfl) (hs.n (a := 118) (z := 1452) 72 rfl) ?_)
          refine w_heap (fun I5 e5 => ?_)
          have h5 : I5 118 = I 118 := by
            rw [e5, va_up_self, hI4 120 (by decide) (by decide) (by decide) (by decide), h120, hz4]
            funext j
            unfold mixV
            by_cases hj : j < 1452
            · rw [if_pos hj, if_pos hj]
            · rw [if_neg hj, va_up_ne _ _ (by omega), if_neg hj]
          have hX5 : ∀ q, q ≠ 118 → I5 q = I4 q := fun q a1 => by rw [e5, va_up_ne _ _ a1]
          clear e5
          have hfin := hq I5 (fun q a1 a2 a3 a4 a5 => by by_cases e8 : q = 118; rw [e8]; exact h5; rw [hX5 q e8, hI4 q e8 a3 a4 a5, hX3 q e8 a2]; exact hA2 q a1) (fun j hj => by rw [hX5 117 (by decide), hI4 117 (by decide) (by decide) (by decide) (by decide), hX3 117 (by decide) (by decide)]; exact hB2 j hj) (by rw [hX5 117 (by decide), hI4 117 (by decide) (by decide) (by decide) (by decide), hX3 117 (by decide) (by decide)]; exact hC2)
          refine w_iload_n dX10_check_82 rfl ?_
          refine w_iload_n dX10_check_83 rfl ?_
          refine w_icmp_ne (tgt := 98) dX10_check_84 (by decide) (fun c84 => ?_) (fun c84 => ?_)
          · have hne : ¬ (r = m ∧ r = 2 * nn) := fun q => c84 (by rw [q.1])
            refine w_iconst dX10_check_98 ic_1 ?_
            refine w_iload_n dX10_check_99 rfl ?_
            refine w_iadd dX10_check_100 ?_
            refine w_ireturn dX10_check_101 rfl rfl ?_
            refine q_e ?_ hfin
            rw [ckA, if_neg hne]
            exact (nI_add 1 r).symm
          · refine w_iload_n dX10_check_87 rfl ?_
            refine w_iconst dX10_check_88 ic_2 ?_
            refine w_iload_n dX10_check_89 rfl ?_
            refine w_imul dX10_check_90 ?_
            refine w_top (y := nI (2 * nn)) (nI_mul 2 nn) ?_
            refine w_icmp_ne (tgt := 98) dX10_check_91 (by decide) (fun c91 => ?_) (fun c91 => ?_)
            · have hne : ¬ (r = m ∧ r = 2 * nn) := fun q => c91 (by rw [q.2])
              refine w_iconst dX10_check_98 ic_1 ?_
              refine w_iload_n dX10_check_99 rfl ?_
              refine w_iadd dX10_check_100 ?_
              refine w_ireturn dX10_check_101 rfl rfl ?_
              refine q_e ?_ hfin
              rw [ckA, if_neg hne]
              exact (nI_add 1 r).symm
            · refine w_iconst dX10_check_94 ic_0 ?_
              refine w_goto (tgt := 101) dX10_check_95 (by decide) ?_
              refine w_ireturn dX10_check_101 rfl rfl ?_
              refine q_e ?_ hfin
              rw [ckA, if_pos ⟨(nI_eq (by omega) (by omega)).mp c84, (nI_eq (by omega) (by omega)).mp c91⟩]
        · have hz0 : nS (mixV (I 119) (I 118)) = 0 := (nI_eq (b := 0) (by omega) (by omega)).mp c36
          refine w_ldc dX10_check_39 kcX10_204 ?_
          refine w_ireturn dX10_check_41 rfl rfl ?_
          have e : oCheck (I 117 3) (mixV (I 119) (I 118)) T m (nI nn) = -1000000002 := by unfold oCheck; rw [cif_t ha, cif_t (Or.inr hz0)]
          rw [e] at hq
          exact hq I2 (fun q a1 a2 a3 a4 a5 => hA2 q a1) hB2 hC2
  · refine w_ldc dX10_check_20 kcX10_101 ?_
    refine w_ireturn dX10_check_22 rfl rfl ?_
    have e : oCheck (I 117 3) (mixV (I 119) (I 118)) T m a = -1000000001 := cif_f c17
    rw [e] at hq
    exact hq I2 (fun q a1 a2 a3 a4 a5 => hA2 q a1) hB2 hC2

end
