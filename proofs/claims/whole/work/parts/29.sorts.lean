section
variable {sc : SC} {I : HI} {L : HL} {R : HR} {N : HN} {n : Nat} {Q : HQ}
noncomputable def oSort (V : VV) (a b c : Int32) : VV × Int32 := cif ((0 ≤ a ∧ a ≤ 99) ∧ (0 ≤ b ∧ b ≤ 100) ∧ (0 ≤ c ∧ c ≤ 99)) (cif (nS V = 6) (V, -1000000003) (addS V a b c, V 1)) (V, -1000000001)
noncomputable def oSortTold (V : VV) (a b : Int32) : Int32 := cif (isS V a ∧ (0 ≤ b ∧ b ≤ 6)) (V (6 + 7 * a.toNatClampNeg + b.toNatClampNeg)) (-1000000001)
noncomputable def oChange (V : VV) (a b c : Int32) : VV × Int32 := cif (isS V a ∧ (0 ≤ b ∧ b ≤ 6) ∧ (0 ≤ c ∧ c ≤ mostN b.toNatClampNeg)) (va_up V (6 + 7 * a.toNatClampNeg + b.toNatClampNeg) c, V (6 + 7 * a.toNatClampNeg + b.toNatClampNeg)) (V, -1000000001)
theorem nS_6 {V : VV} (hV : VO V) : V 1 = 6 ↔ nS V = 6 := by
  have h6 := hV.1.2
  rw [hV.1.1]
  exact nI_eq (b := 6) (by omega) (by decide)
theorem VO_oSort {V : VV} (hV : VO V) (a b c : Int32) : VO (oSort V a b c).1 := by
  unfold oSort
  by_cases h : (0 ≤ a ∧ a ≤ 99) ∧ (0 ≤ b ∧ b ≤ 100) ∧ (0 ≤ c ∧ c ≤ 99)
  · rw [cif_t h]
    by_cases h2 : nS V = 6
    · rw [cif_t h2]; exact hV
    · rw [cif_f h2]; exact hV.oS (by have := hV.1.2; omega) (inN_of (m := 99) (by decide) h.1) (inN_of (m := 100) (by decide) h.2.1)
  · rw [cif_f h]; exact hV
theorem VO_oChange {V : VV} (hV : VO V) (a b c : Int32) : VO (oChange V a b c).1 := by
  unfold oChange
  by_cases h : isS V a ∧ (0 ≤ b ∧ b ≤ 6) ∧ (0 ≤ c ∧ c ≤ mostN b.toNatClampNeg)
  · rw [cif_t h]
    obtain ⟨h1, h2, h3⟩ := h
    obtain ⟨s, hs, rfl⟩ := isS_of hV h1
    obtain ⟨q, hq, rfl⟩ := in_of (m := 6) (by decide) h2
    have h6 := hV.1.2
    rw [nI_clamp (by omega)] at h3 ⊢
    rw [nI_clamp (by omega)]
    exact hV.cell hs (by omega) (fun e => by subst e; exact inN_of (m := 99) (by decide) h3) (fun e => by subst e; exact inN_of (m := 100) (by decide) h3)
  · rw [cif_f h]; exact hV

set_option maxRecDepth 20000 in
theorem sX8_addSortF {w : Nat} {a b c : Int32} (h : I w 1 = nI 6) (hq : Q (vI (-1000000003)) I L R N n) : CA sc 0 0 0 mX8_addSort [vR 8 w, vI a, vI b, vI c] I L R N n Q := by
  refine ca_in (al := [_, _, _, _, _]) rfl ?_
  refine w_aload_n dX8_addSort_0 rfl ?_
  refine w_getI dX8_addSort_1 flX8_16 rfl ?_
  refine w_top (y := nI 6) (h) ?_
  refine w_bipush dX8_addSort_4 bp_6 ?_
  refine w_icmp_lt (tgt := 12) dX8_addSort_6 (by decide) (fun c6 => ?_) (fun c6 => ?_)
  · exact absurd c6 (by decide)
  · refine w_ldc dX8_addSort_9 kcX8_77 ?_
    refine w_ireturn dX8_addSort_11 rfl rfl ?_
    exact hq

set_option maxRecDepth 20000 in
theorem sX8_addSort (hs : SK R N) {w : Nat} (hw : w = 1 ∨ w = 30) {V : VV} (hV : VO V) (hC : WC I R N n w V) (h6 : nS V < 6) {a b c : Int32}
    (hq : ∀ I' : HI, (∀ q, q ≠ w → q ≠ w + 2 + nS V → I' q = I q) → WC I' R N n w (addS V a b c) → Q (vI (nI (nS V))) I' L R N n) : CA sc 0 0 0 mX8_addSort [vR 8 w, vI a, vI b, vI c] I L R N n Q := by
  refine ca_in (al := [_, _, _, _, _]) rfl ?_
  refine w_aload_n dX8_addSort_0 rfl ?_
  refine w_getI dX8_addSort_1 flX8_16 rfl ?_
  refine w_top (y := nI (nS V)) (hC.1.1.trans hV.1.1) ?_
  refine w_bipush dX8_addSort_4 bp_6 ?_
  refine w_icmp_lt (tgt := 12) dX8_addSort_6 (by decide) (fun c6 => ?_) (fun c6 => ?_)
  · refine w_aload_n dX8_addSort_12 rfl ?_
    refine w_getR dX8_addSort_13 flX8_11 rfl (hs.wr (j := 0) (o := 1) hw 9 37 rfl rfl) ?_
    refine w_aload_n dX8_addSort_16 rfl ?_
    refine w_getI dX8_addSort_17 flX8_16 rfl ?_
    refine w_top (y := nI (nS V)) (hC.1.1.trans hV.1.1) ?_
    refine w_aaldI dX8_addSort_20 rfl (hs.wn (o := 1) (z := 6) hw 0 19 rfl rfl) (by omega) (hs.rows hw (by omega)).1 ?_
    refine w_astore (al' := [_, _, _, _, _]) dX8_addSort_21 rfl rfl rfl ?_
    refine w_aload dX8_addSort_23 rfl ?_
    refine w_iconst dX8_addSort_25 ic_0 ?_
    refine w_iload_n dX8_addSort_26 rfl ?_
    refine w_iast (q := 0) dX8_addSort_27 rfl (hs.rows hw (by omega)).2 (by decide) ?_
    refine w_aload dX8_addSort_28 rfl ?_
    refine w_iconst dX8_addSort_30 ic_1 ?_
    refine w_iload_n dX8_addSort_31 rfl ?_
    refine w_iast (q := 1) dX8_addSort_32 rfl (hs.rows hw (by omega)).2 (by decide) ?_
    refine w_aload dX8_addSort_33 rfl ?_
    refine w_iconst dX8_addSort_35 ic_2 ?_
    refine w_iload_n dX8_addSort_36 rfl ?_
    refine w_iast (q := 2) dX8_addSort_37 rfl (hs.rows hw (by omega)).2 (by decide) ?_
    refine w_aload dX8_addSort_38 rfl ?_
    refine w_iconst dX8_addSort_40 ic_3 ?_
    refine w_iconst dX8_addSort_41 ic_0 ?_
    refine w_iast (q := 3) dX8_addSort_42 rfl (hs.rows hw (by omega)).2 (by decide) ?_
    refine w_aload dX8_addSort_43 rfl ?_
    refine w_iconst dX8_addSort_45 ic_4 ?_
    refine w_sipush dX8_addSort_46 sp_9999 ?_
    refine w_iast (q := 4) dX8_addSort_49 rfl (hs.rows hw (by omega)).2 (by decide) ?_
    refine w_aload dX8_addSort_50 rfl ?_
    refine w_iconst dX8_addSort_52 ic_5 ?_
    refine w_iconst dX8_addSort_53 ic_0 ?_
    refine w_iast (q := 5) dX8_addSort_54 rfl (hs.rows hw (by omega)).2 (by decide) ?_
    refine w_aload dX8_addSort_55 rfl ?_
    refine w_bipush dX8_addSort_57 bp_6 ?_
    refine w_sipush dX8_addSort_59 sp_500 ?_
    refine w_iast (q := 6) dX8_addSort_62 rfl (hs.rows hw (by omega)).2 (by decide) ?_
    refine w_heap (fun I2 e2 => ?_)
    have hA2 : ∀ q, q ≠ w + 2 + nS V → I2 q = I q := fun q h => by rw [e2]; simp only [va_up, if_neg h]
    have hB2 : ∀ q, q < 7 → I2 (w + 2 + nS V) q = newS a b c q := by
      intro q hq7
      rw [e2]
      rcases (show q = 0 ∨ q = 1 ∨ q = 2 ∨ q = 3 ∨ q = 4 ∨ q = 5 ∨ q = 6 by omega) with rfl | rfl | rfl | rfl | rfl | rfl | rfl <;> simp [va_up, newS]
    clear e2
    refine w_aload_n dX8_addSort_63 rfl ?_
    refine w_dup dX8_addSort_64 rfl ?_
    refine w_getI dX8_addSort_65 flX8_16 rfl ?_
    refine w_top (y := I w 1) (by rw [hA2 w (by omega)]) ?_
    refine w_iconst dX8_addSort_68 ic_1 ?_
    refine w_iadd dX8_addSort_69 ?_
    refine w_putI dX8_addSort_70 flX8_16 rfl rfl rfl rfl ?_
    refine w_st (fun I3 hA3 hB3 hC3 => ?_)
    refine w_aload_n dX8_addSort_73 rfl ?_
    refine w_getI dX8_addSort_74 flX8_16 rfl ?_
    refine w_top (y := I w 1 + 1) (hC3) ?_
    refine w_iconst dX8_addSort_77 ic_1 ?_
    refine w_isub dX8_addSort_78 ?_
    refine w_ireturn dX8_addSort_79 rfl rfl ?_
    refine q_e (x := nI (nS V)) ?_ (hq I3 (fun q h1 h2 => (hA3 q h1).trans (hA2 q h2)) (hC.oS hV hw h6 a b c (fun q h1 h2 => (hA3 q h1).trans (hA2 q h2)) hC3 (fun j hj => (hB3 j hj).trans (by rw [hA2 w (by omega)])) (fun q hq7 => by rw [hA3 _ (by omega)]; exact hB2 q hq7)))
    rw [hC.1.1, ← hV.1.1]
    exact (Int32.add_sub_cancel _ _).symm
  · exact absurd (nI_lt (b := 6) h6 (by decide)) c6

set_option maxRecDepth 20000 in
theorem sX9_sort (hs : SK R N) {V : VV} (hV : VO V) (hC : WC I R N n 1 V) {a b c : Int32} (hq : ∀ I' : HI, (∀ q, FC q → I' q = I q) → WC I' R N n 1 (oSort V a b c).1 → Q (vI (oSort V a b c).2) I' L R N n) : CA sc 2 0 0 mX9_sort [vR 9 0, vI a, vI b, vI c] I L R N n Q := by
  refine ca_in (al := [_, _, _, _]) rfl ?_
  refine w_iconst dX9_sort_0 ic_0 ?_
  refine w_iload_n dX9_sort_1 rfl ?_
  refine c_S (as := [_, _]) (d' := 1) dX9_sort_2 (Or.inl mlX9_73) moX9_fitsSort msX9_fitsSort rfl rfl rfl rfl rfl (by decide) (sX9_fitsSort (q := 0) (by decide) ?_)
  refine w_ifB_eq (tgt := 24) dX9_sort_5 (by decide) (fun c5 => ?_) (fun c5 => ?_)
  · refine w_ldc dX9_sort_24 kcX9_77 ?_
    refine w_ireturn dX9_sort_26 rfl rfl ?_
    have e : oSort V a b c = (V, -1000000001) := cif_f (fun q => by first | exact c5 q.1 | exact c13 q.2.1 | exact c21 q.2.2)
    rw [e] at hq
    exact hq I (fun _ _ => rfl) hC
  · refine w_iconst dX9_sort_8 ic_1 ?_
    refine w_iload_n dX9_sort_9 rfl ?_
    refine c_S (as := [_, _]) (d' := 1) dX9_sort_10 (Or.inl mlX9_73) moX9_fitsSort msX9_fitsSort rfl rfl rfl rfl rfl (by decide) (sX9_fitsSort (q := 1) (by decide) ?_)
    refine w_ifB_eq (tgt := 24) dX9_sort_13 (by decide) (fun c13 => ?_) (fun c13 => ?_)
    · refine w_ldc dX9_sort_24 kcX9_77 ?_
      refine w_ireturn dX9_sort_26 rfl rfl ?_
      have e : oSort V a b c = (V, -1000000001) := cif_f (fun q => by first | exact c5 q.1 | exact c13 q.2.1 | exact c21 q.2.2)
      rw [e] at hq
      exact hq I (fun _ _ => rfl) hC
    · refine w_iconst dX9_sort_16 ic_2 ?_
      refine w_iload_n dX9_sort_17 rfl ?_
      refine c_S (as := [_, _]) (d' := 1) dX9_sort_18 (Or.inl mlX9_73) moX9_fitsSort msX9_fitsSort rfl rfl rfl rfl rfl (by decide) (sX9_fitsSort (q := 2) (by decide) ?_)
      refine w_ifB_ne (tgt := 27) dX9_sort_21 (by decide) (fun c21 => ?_) (fun c21 => ?_)
      · refine w_aload_n dX9_sort_27 rfl ?_
        refine w_getR dX9_sort_28 flX9_10 rfl (hs.r (a := 0) (j := 0) (b := 1) 0 rfl) ?_
        refine w_iload_n dX9_sort_31 rfl ?_
        refine w_iload_n dX9_sort_32 rfl ?_
        refine w_iload_n dX9_sort_33 rfl ?_
        rcases (show nS V = 6 ∨ nS V < 6 by have := hV.1.2; omega) with h6 | h6
        · have e : oSort V a b c = (V, -1000000003) := (cif_t ⟨c5, c13, c21⟩).trans (cif_t h6)
          rw [e] at hq
          refine c_V (t := 8) (as := [_, _, _]) (d' := 0) dX9_sort_34 mlX9_78 moX8_addSort mvX8_addSort ⟨rfl, rfl⟩ rfl rfl rfl rfl rfl (by decide) (sX8_addSortF (by rw [hC.1.1, hV.1.1, h6]) ?_)
          refine w_ireturn dX9_sort_37 rfl rfl ?_
          exact hq I (fun _ _ => rfl) hC
        · have e : oSort V a b c = (addS V a b c, V 1) := (cif_t ⟨c5, c13, c21⟩).trans (cif_f (by omega))
          rw [e, hV.1.1] at hq
          refine c_V (t := 8) (as := [_, _, _]) (d' := 0) dX9_sort_34 mlX9_78 moX8_addSort mvX8_addSort ⟨rfl, rfl⟩ rfl rfl rfl rfl rfl (by decide) (sX8_addSort hs (Or.inl rfl) hV hC h6 (fun I2 hI2 hC2 => ?_))
          refine w_ireturn dX9_sort_37 rfl rfl ?_
          exact hq I2 (fun q h => hI2 q (by unfold FC at h; omega) (by unfold FC at h; omega)) hC2
      · refine w_ldc dX9_sort_24 kcX9_77 ?_
        refine w_ireturn dX9_sort_26 rfl rfl ?_
        have e : oSort V a b c = (V, -1000000001) := cif_f (fun q => by first | exact c5 q.1 | exact c13 q.2.1 | exact c21 q.2.2)
        rw [e] at hq
        exact hq I (fun _ _ => rfl) hC

set_option maxRecDepth 20000 in
theorem sX10_comes (hs : SK R N) {V : VV} (hI : I 118 = V) (hV : VO V) (h6 : nS V < 6) {a b c : Int32} (hq : Q (vI (nI (nS V))) (va_up I 118 (addS V a b c)) L R N n) : CA sc 0 0 0 mX10_comes [vR 10 117, vI a, vI b, vI c] I L R N n Q := by
  refine ca_in (al := [_, _, _, _, _]) rfl ?_
  refine w_bipush dX10_comes_0 bp_6 ?_
  refine w_bipush dX10_comes_2 bp_7 ?_
  refine w_aload_n dX10_comes_4 rfl ?_
  refine w_getR dX10_comes_5 flX10_9 rfl (hs.r (a := 117) (j := 0) (b := 118) 116 rfl) ?_
  refine w_iconst dX10_comes_8 ic_1 ?_
  refine w_iald (q := 1) dX10_comes_9 rfl (hs.n (a := 118) (z := 1452) 72 rfl) (by decide) ?_
  refine w_top (y := nI (nS V)) ((congrFun hI 1).trans hV.1.1) ?_
  refine w_imul dX10_comes_10 ?_
  refine w_iadd dX10_comes_11 ?_
  refine w_top (y := nI (6 + 7 * nS V)) (by show nI 6 + nI 7 * nI (nS V) = _; rw [nI_mul, nI_add]) ?_
  refine w_istore (al' := [_, _, _, _, _]) dX10_comes_12 rfl rfl rfl ?_
  refine w_aload_n dX10_comes_14 rfl ?_
  refine w_getR dX10_comes_15 flX10_9 rfl (hs.r (a := 117) (j := 0) (b := 118) 116 rfl) ?_
  refine w_iload dX10_comes_18 rfl ?_
  refine w_iload_n dX10_comes_20 rfl ?_
  refine w_iast dX10_comes_21 rfl (hs.n (a := 118) (z := 1452) 72 rfl) (by omega) ?_
  refine w_aload_n dX10_comes_22 rfl ?_
  refine w_getR dX10_comes_23 flX10_9 rfl (hs.r (a := 117) (j := 0) (b := 118) 116 rfl) ?_
  refine w_iload dX10_comes_26 rfl ?_
  refine w_iconst dX10_comes_28 ic_1 ?_
  refine w_iadd dX10_comes_29 ?_
  refine w_top (y := nI (6 + 7 * nS V + 1)) (nI_add _ 1) ?_
  refine w_iload_n dX10_comes_30 rfl ?_
  refine w_iast dX10_comes_31 rfl (hs.n (a := 118) (z := 1452) 72 rfl) (by omega) ?_
  refine w_aload_n dX10_comes_32 rfl ?_
  refine w_getR dX10_comes_33 flX10_9 rfl (hs.r (a := 117) (j := 0) (b := 118) 116 rfl) ?_
  refine w_iload dX10_comes_36 rfl ?_
  refine w_iconst dX10_comes_38 ic_2 ?_
  refine w_iadd dX10_comes_39 ?_
  refine w_top (y := nI (6 + 7 * nS V + 2)) (nI_add _ 2) ?_
  refine w_iload_n dX10_comes_40 rfl ?_
  refine w_iast dX10_comes_41 rfl (hs.n (a := 118) (z := 1452) 72 rfl) (by omega) ?_
  refine w_aload_n dX10_comes_42 rfl ?_
  refine w_getR dX10_comes_43 flX10_9 rfl (hs.r (a := 117) (j := 0) (b := 118) 116 rfl) ?_
  refine w_iload dX10_comes_46 rfl ?_
  refine w_iconst dX10_comes_48 ic_3 ?_
  refine w_iadd dX10_comes_49 ?_
  refine w_top (y := nI (6 + 7 * nS V + 3)) (nI_add _ 3) ?_
  refine w_iconst dX10_comes_50 ic_0 ?_
  refine w_iast dX10_comes_51 rfl (hs.n (a := 118) (z := 1452) 72 rfl) (by omega) ?_
  refine w_aload_n dX10_comes_52 rfl ?_
  refine w_getR dX10_comes_53 flX10_9 rfl (hs.r (a := 117) (j := 0) (b := 118) 116 rfl) ?_
  refine w_iload dX10_comes_56 rfl ?_
  refine w_iconst dX10_comes_58 ic_4 ?_
  refine w_iadd dX10_comes_59 ?_
  refine w_top (y := nI (6 + 7 * nS V + 4)) (nI_add _ 4) ?_
  refine w_sipush dX10_comes_60 sp_9999 ?_
  refine w_iast dX10_comes_63 rfl (hs.n (a := 118) (z := 1452) 72 rfl) (by omega) ?_
  refine w_aload_n dX10_comes_64 rfl ?_
  refine w_getR dX10_comes_65 flX10_9 rfl (hs.r (a := 117) (j := 0) (b := 118) 116 rfl) ?_
  refine w_iload dX10_comes_68 rfl ?_
  refine w_iconst dX10_comes_70 ic_5 ?_
  refine w_iadd dX10_comes_71 ?_
  refine w_top (y := nI (6 + 7 * nS V + 5)) (nI_add _ 5) ?_
  refine w_iconst dX10_comes_72 ic_0 ?_
  refine w_iast dX10_comes_73 rfl (hs.n (a := 118) (z := 1452) 72 rfl) (by omega) ?_
  refine w_aload_n dX10_comes_74 rfl ?_
  refine w_getR dX10_comes_75 flX10_9 rfl (hs.r (a := 117) (j := 0) (b := 118) 116 rfl) ?_
  refine w_iload dX10_comes_78 rfl ?_
  refine w_bipush dX10_comes_80 bp_6 ?_
  refine w_iadd dX10_comes_82 ?_
  refine w_top (y := nI (6 + 7 * nS V + 6)) (nI_add _ 6) ?_
  refine w_sipush dX10_comes_83 sp_500 ?_
  refine w_iast dX10_comes_86 rfl (hs.n (a := 118) (z := 1452) 72 rfl) (by omega) ?_
  refine w_I (I' := va_up I 118 (va_up (va_up (va_up (va_up (va_up (va_up (va_up (I 118) (6 + 7 * nS V) a) (6 + 7 * nS V + 1) b) (6 + 7 * nS V + 2) c) (6 + 7 * nS V + 3) 0) (6 + 7 * nS V + 4) 9999) (6 + 7 * nS V + 5) 0) (6 + 7 * nS V + 6) 500)) (by simp only [up_up, va_up_self]) ?_
  refine w_aload_n dX10_comes_87 rfl ?_
  refine w_getR dX10_comes_88 flX10_9 rfl (hs.r (a := 117) (j := 0) (b := 118) 116 rfl) ?_
  refine w_iconst dX10_comes_91 ic_1 ?_
  refine w_dup2 dX10_comes_92 rfl rfl ?_
  refine w_iald (q := 1) dX10_comes_93 rfl (hs.n (a := 118) (z := 1452) 72 rfl) (by decide) ?_
  refine w_top (y := V 1) (by rw [va_up_self, va_up_ne _ _ (by omega), va_up_ne _ _ (by omega), va_up_ne _ _ (by omega), va_up_ne _ _ (by omega), va_up_ne _ _ (by omega), va_up_ne _ _ (by omega), va_up_ne _ _ (by omega), hI]) ?_
  refine w_iconst dX10_comes_94 ic_1 ?_
  refine w_iadd dX10_comes_95 ?_
  refine w_iast (q := 1) dX10_comes_96 rfl (hs.n (a := 118) (z := 1452) 72 rfl) (by decide) ?_
  refine w_I (I' := va_up I 118 (addS V a b c)) (by rw [← hI]; simp only [up_up, va_up_self]; rfl) ?_
  refine w_aload_n dX10_comes_97 rfl ?_
  refine w_getR dX10_comes_98 flX10_9 rfl (hs.r (a := 117) (j := 0) (b := 118) 116 rfl) ?_
  refine w_iconst dX10_comes_101 ic_1 ?_
  refine w_iald (q := 1) dX10_comes_102 rfl (hs.n (a := 118) (z := 1452) 72 rfl) (by decide) ?_
  refine w_top (y := V 1 + 1) (by rw [va_up_self]; exact addS_1 V a b c) ?_
  refine w_iconst dX10_comes_103 ic_1 ?_
  refine w_isub dX10_comes_104 ?_
  refine w_ireturn dX10_comes_105 rfl rfl ?_
  refine q_e (x := nI (nS V)) ?_ hq
  rw [← hV.1.1]
  exact (Int32.add_sub_cancel _ _).symm

set_option maxRecDepth 20000 in
theorem sX10_sort (hs : SK R N) {V : VV} (hI : I 118 = V) (hV : VO V) {a b c : Int32} (hq : ∀ I' : HI, (∀ q, FM q → I' q = I q) → I' 118 = (oSort V a b c).1 → Q (vI (oSort V a b c).2) I' L R N n) : CA sc 1 0 0 mX10_sort [vR 10 117, vI a, vI b, vI c] I L R N n Q := by
  refine ca_in (al := [_, _, _, _]) rfl ?_
  refine w_iload_n dX10_sort_0 rfl ?_
  refine w_iconst dX10_sort_1 ic_0 ?_
  refine w_bipush dX10_sort_2 bp_99 ?_
  refine c_S (as := [_, _, _]) (d' := 0) dX10_sort_4 (Or.inl mlX10_97) moX10_in msX10_in rfl rfl rfl rfl rfl (by decide) (sX10_in ?_)
  refine w_ifB_eq (tgt := 30) dX10_sort_7 (by decide) (fun c7 => ?_) (fun c7 => ?_)
  · refine w_ldc dX10_sort_30 kcX10_101 ?_
    refine w_ireturn dX10_sort_32 rfl rfl ?_
    have e : oSort V a b c = (V, -1000000001) := cif_f (fun q => by first | exact c7 q.1 | exact c17 q.2.1 | exact c27 q.2.2)
    rw [e] at hq
    exact hq I (fun _ _ => rfl) hI
  · refine w_iload_n dX10_sort_10 rfl ?_
    refine w_iconst dX10_sort_11 ic_0 ?_
    refine w_bipush dX10_sort_12 bp_100 ?_
    refine c_S (as := [_, _, _]) (d' := 0) dX10_sort_14 (Or.inl mlX10_97) moX10_in msX10_in rfl rfl rfl rfl rfl (by decide) (sX10_in ?_)
    refine w_ifB_eq (tgt := 30) dX10_sort_17 (by decide) (fun c17 => ?_) (fun c17 => ?_)
    · refine w_ldc dX10_sort_30 kcX10_101 ?_
      refine w_ireturn dX10_sort_32 rfl rfl ?_
      have e : oSort V a b c = (V, -1000000001) := cif_f (fun q => by first | exact c7 q.1 | exact c17 q.2.1 | exact c27 q.2.2)
      rw [e] at hq
      exact hq I (fun _ _ => rfl) hI
    · refine w_iload_n dX10_sort_20 rfl ?_
      refine w_iconst dX10_sort_21 ic_0 ?_
      refine w_bipush dX10_sort_22 bp_99 ?_
      refine c_S (as := [_, _, _]) (d' := 0) dX10_sort_24 (Or.inl mlX10_97) moX10_in msX10_in rfl rfl rfl rfl rfl (by decide) (sX10_in ?_)
      refine w_ifB_ne (tgt := 33) dX10_sort_27 (by decide) (fun c27 => ?_) (fun c27 => ?_)
      · refine w_aload_n dX10_sort_33 rfl ?_
        refine w_getR dX10_sort_34 flX10_9 rfl (hs.r (a := 117) (j := 0) (b := 118) 116 rfl) ?_
        refine w_iconst dX10_sort_37 ic_1 ?_
        refine w_iald (q := 1) dX10_sort_38 rfl (hs.n (a := 118) (z := 1452) 72 rfl) (by decide) ?_
        refine w_top (y := V 1) (congrFun hI 1) ?_
        refine w_bipush dX10_sort_39 bp_6 ?_
        refine w_icmp_ne (tgt := 49) dX10_sort_41 (by decide) (fun c41 => ?_) (fun c41 => ?_)
        · have h6n : nS V ≠ 6 := fun q => c41 ((nS_6 hV).mpr q)
          have e : oSort V a b c = (addS V a b c, V 1) := (cif_t ⟨c7, c17, c27⟩).trans (cif_f h6n)
          rw [e, hV.1.1] at hq
          refine w_aload_n dX10_sort_49 rfl ?_
          refine w_iload_n dX10_sort_50 rfl ?_
          refine w_iload_n dX10_sort_51 rfl ?_
          refine w_iload_n dX10_sort_52 rfl ?_
          refine c_V (t := 10) (as := [_, _, _]) (d' := 0) dX10_sort_53 mlX10_103 moX10_comes mvX10_comes ⟨rfl, rfl⟩ rfl rfl rfl rfl rfl (by decide) (sX10_comes hs hI hV (by have := hV.1.2; omega) ?_)
          refine w_ireturn dX10_sort_56 rfl rfl ?_
          exact hq _ (fun q h => va_up_ne _ _ h.1) (va_up_self _ _ _)
        · have e : oSort V a b c = (V, -1000000003) := (cif_t ⟨c7, c17, c27⟩).trans (cif_t ((nS_6 hV).mp c41))
          rw [e] at hq
          refine w_ldc dX10_sort_44 kcX10_102 ?_
          refine w_goto (tgt := 56) dX10_sort_46 (by decide) ?_
          refine w_ireturn dX10_sort_56 rfl rfl ?_
          exact hq I (fun _ _ => rfl) hI
      · refine w_ldc dX10_sort_30 kcX10_101 ?_
        refine w_ireturn dX10_sort_32 rfl rfl ?_
        have e : oSort V a b c = (V, -1000000001) := cif_f (fun q => by first | exact c7 q.1 | exact c17 q.2.1 | exact c27 q.2.2)
        rw [e] at hq
        exact hq I (fun _ _ => rfl) hI

set_option maxRecDepth 20000 in
theorem sX9_sortTold (hs : SK R N) {V : VV} (hV : VO V) (hC : WC I R N n 1 V) {a b : Int32} (hq : Q (vI (oSortTold V a b)) I L R N n) : CA sc 2 0 0 mX9_sortTold [vR 9 0, vI a, vI b] I L R N n Q := by
  refine ca_in (al := [_, _, _]) rfl ?_
  refine w_aload_n dX9_sortTold_0 rfl ?_
  refine w_getR dX9_sortTold_1 flX9_10 rfl (hs.r (a := 0) (j := 0) (b := 1) 0 rfl) ?_
  refine w_iload_n dX9_sortTold_4 rfl ?_
  refine c_V (t := 8) (as := [_]) (d' := 1) dX9_sortTold_5 mlX9_82 moX8_hasSort mvX8_hasSort ⟨rfl, rfl⟩ rfl rfl rfl rfl rfl (by decide) (sX8_hasSort ?_)
  refine w_ifB_eq (tgt := 21) dX9_sortTold_8 (by decide) (fun c8 => ?_) (fun c8 => ?_)
  · have c8 : ¬ isS V a := by unfold isS; rw [← hC.1.1]; exact c8
    refine w_ldc dX9_sortTold_21 kcX9_77 ?_
    refine w_ireturn dX9_sortTold_23 rfl rfl ?_
    refine q_e (cif_f (fun q => by first | exact c8 q.1 | exact c18 q.2)) hq
  · have c8 : isS V a := by unfold isS; rw [← hC.1.1]; exact c8
    refine w_iload_n dX9_sortTold_11 rfl ?_
    refine w_iconst dX9_sortTold_12 ic_0 ?_
    refine w_bipush dX9_sortTold_13 bp_6 ?_
    refine c_S (as := [_, _, _]) (d' := 0) dX9_sortTold_15 (Or.inl mlX9_86) moX9_within msX9_within rfl rfl rfl rfl rfl (by decide) (sX9_within ?_)
    refine w_ifB_ne (tgt := 24) dX9_sortTold_18 (by decide) (fun c18 => ?_) (fun c18 => ?_)
    · have e := cif_t (a := V (6 + 7 * a.toNatClampNeg + b.toNatClampNeg)) (b := (-1000000001 : Int32)) (show isS V a ∧ (0 ≤ b ∧ b ≤ 6) from ⟨c8, c18⟩)
      obtain ⟨s, hs2, rfl⟩ := isS_of hV c8
      have h6 := hV.1.2
      obtain ⟨q, hq7, rfl⟩ := in_of (m := 6) (by decide) c18
      refine w_aload_n dX9_sortTold_24 rfl ?_
      refine w_getR dX9_sortTold_25 flX9_10 rfl (hs.r (a := 0) (j := 0) (b := 1) 0 rfl) ?_
      refine w_getR dX9_sortTold_28 flX9_90 rfl (hs.r (a := 1) (j := 0) (b := 2) 9 rfl) ?_
      refine w_iload_n dX9_sortTold_31 rfl ?_
      refine w_aaldI dX9_sortTold_32 rfl (hs.n (a := 2) (z := 6) 0 rfl) (by omega) (hs.rows (Or.inl rfl) (by omega)).1 ?_
      refine w_iload_n dX9_sortTold_33 rfl ?_
      refine w_iald dX9_sortTold_34 rfl (hs.rows (Or.inl rfl) (by omega)).2 (by omega) ?_
      refine w_top (y := V (6 + 7 * s + q)) (hC.2.1 s hs2 q (by omega)) ?_
      refine w_ireturn dX9_sortTold_35 rfl rfl ?_
      refine q_e (x := oSortTold V (nI s) (nI q)) (e.trans ?_) hq
      rw [nI_clamp (by omega), nI_clamp (by omega)]
    · refine w_ldc dX9_sortTold_21 kcX9_77 ?_
      refine w_ireturn dX9_sortTold_23 rfl rfl ?_
      refine q_e (cif_f (fun q => by first | exact c8 q.1 | exact c18 q.2)) hq

set_option maxRecDepth 20000 in
theorem sX10_sortTold (hs : SK R N) {V : VV} (hI : I 118 = V) (hV : VO V) {a b : Int32} (hq : Q (vI (oSortTold V a b)) I L R N n) : CA sc 2 0 0 mX10_sortTold [vR 10 117, vI a, vI b] I L R N n Q := by
  refine ca_in (al := [_, _, _]) rfl ?_
  refine w_aload_n dX10_sortTold_0 rfl ?_
  refine w_iload_n dX10_sortTold_1 rfl ?_
  refine c_V (t := 10) (as := [_]) (d' := 1) dX10_sortTold_2 mlX10_107 moX10_isSort mvX10_isSort ⟨rfl, rfl⟩ rfl rfl rfl rfl rfl (by decide) (sX10_isSort hs ?_)
  refine w_ifB_eq (tgt := 27) dX10_sortTold_5 (by decide) (fun c5 => ?_) (fun c5 => ?_)
  · have c5 : ¬ isS V a := by unfold isS; rw [← hI]; exact c5
    refine w_ldc dX10_sortTold_27 kcX10_101 ?_
    refine w_top (y := oSortTold V a b) ((cif_f (fun q => by first | exact c5 q.1 | exact c15 q.2)).symm) ?_
    refine w_ireturn dX10_sortTold_29 rfl rfl ?_
    exact hq
  · have c5 : isS V a := by unfold isS; rw [← hI]; exact c5
    refine w_iload_n dX10_sortTold_8 rfl ?_
    refine w_iconst dX10_sortTold_9 ic_0 ?_
    refine w_bipush dX10_sortTold_10 bp_6 ?_
    refine c_S (as := [_, _, _]) (d' := 0) dX10_sortTold_12 (Or.inl mlX10_97) moX10_in msX10_in rfl rfl rfl rfl rfl (by decide) (sX10_in ?_)
    refine w_ifB_eq (tgt := 27) dX10_sortTold_15 (by decide) (fun c15 => ?_) (fun c15 => ?_)
    · refine w_ldc dX10_sortTold_27 kcX10_101 ?_
      refine w_top (y := oSortTold V a b) ((cif_f (fun q => by first | exact c5 q.1 | exact c15 q.2)).symm) ?_
      refine w_ireturn dX10_sortTold_29 rfl rfl ?_
      exact hq
    · have e := cif_t (a := V (6 + 7 * a.toNatClampNeg + b.toNatClampNeg)) (b := (-1000000001 : Int32)) (show isS V a ∧ (0 ≤ b ∧ b ≤ 6) from ⟨c5, c15⟩)
      obtain ⟨s, hs2, rfl⟩ := isS_of hV c5
      have h6 := hV.1.2
      obtain ⟨q, hq7, rfl⟩ := in_of (m := 6) (by decide) c15
      refine w_aload_n dX10_sortTold_18 rfl ?_
      refine w_iload_n dX10_sortTold_19 rfl ?_
      refine w_iload_n dX10_sortTold_20 rfl ?_
      refine c_V (t := 10) (as := [_, _]) (d' := 0) dX10_sortTold_21 mlX10_111 moX10_sortOf mvX10_sortOf ⟨rfl, rfl⟩ rfl rfl rfl rfl rfl (by decide) (vX10_sortOf (V := V) hs hI (by omega) ?_)
      refine w_top (y := oSortTold V (nI s) (nI q)) ((by refine Eq.symm (e.trans ?_); rw [nI_clamp (by omega), nI_clamp (by omega)])) ?_
      refine w_goto (tgt := 29) dX10_sortTold_24 (by decide) ?_
      refine w_ireturn dX10_sortTold_29 rfl rfl ?_
      exact hq

set_option maxRecDepth 20000 in
theorem sX9_change (hs : SK R N) {V : VV} (hV : VO V) (hC : WC I R N n 1 V) {a b c : Int32} (hq : ∀ I' : HI, (∀ q, FC q → I' q = I q) → WC I' R N n 1 (oChange V a b c).1 → Q (vI (oChange V a b c).2) I' L R N n) : CA sc 2 0 0 mX9_change [vR 9 0, vI a, vI b, vI c] I L R N n Q := by
  refine ca_in (al := [_, _, _, _, _]) rfl ?_
  refine w_aload_n dX9_change_0 rfl ?_
  refine w_getR dX9_change_1 flX9_10 rfl (hs.r (a := 0) (j := 0) (b := 1) 0 rfl) ?_
  refine w_iload_n dX9_change_4 rfl ?_
  refine c_V (t := 8) (as := [_]) (d' := 1) dX9_change_5 mlX9_82 moX8_hasSort mvX8_hasSort ⟨rfl, rfl⟩ rfl rfl rfl rfl rfl (by decide) (sX8_hasSort ?_)
  refine w_ifB_eq (tgt := 19) dX9_change_8 (by decide) (fun c8 => ?_) (fun c8 => ?_)
  · have c8 : ¬ isS V a := by unfold isS; rw [← hC.1.1]; exact c8
    refine w_ldc dX9_change_19 kcX9_77 ?_
    refine w_ireturn dX9_change_21 rfl rfl ?_
    have e : oChange V a b c = (V, -1000000001) := cif_f (fun q => by first | exact c8 q.1)
    rw [e] at hq
    exact hq I (fun _ _ => rfl) hC
  · have c8 : isS V a := by unfold isS; rw [← hC.1.1]; exact c8
    obtain ⟨s, hs2, rfl⟩ := isS_of hV c8
    have h6 := hV.1.2
    refine w_iload_n dX9_change_11 rfl ?_
    refine w_iload_n dX9_change_12 rfl ?_
    by_cases hb : 0 ≤ b ∧ b ≤ 6
    · obtain ⟨q, hq7, rfl⟩ := in_of (m := 6) (by decide) hb
      refine c_S (as := [_, _]) (d' := 1) dX9_change_13 (Or.inl mlX9_73) moX9_fitsSort msX9_fitsSort rfl rfl rfl rfl rfl (by decide) (sX9_fitsSort (q := q) (by omega) ?_)
      refine w_ifB_ne (tgt := 22) dX9_change_16 (by decide) (fun c16 => ?_) (fun c16 => ?_)
      · have e : oChange V (nI s) (nI q) c = (va_up V (6 + 7 * s + q) c, V (6 + 7 * s + q)) := by
          have e1 := cif_t (a := (va_up V (6 + 7 * (nI s).toNatClampNeg + (nI q).toNatClampNeg) c, V (6 + 7 * (nI s).toNatClampNeg + (nI q).toNatClampNeg))) (b := (V, (-1000000001 : Int32))) (show isS V (nI s) ∧ (0 ≤ nI q ∧ nI q ≤ 6) ∧ (0 ≤ c ∧ c ≤ mostN (nI q).toNatClampNeg) from ⟨isS_to hV hs2, in_to (m := 6) (by decide) hq7, by rw [nI_clamp (by omega)]; exact c16⟩)
          rw [nI_clamp (by omega), nI_clamp (by omega)] at e1
          unfold oChange
          rw [nI_clamp (by omega), nI_clamp (by omega)]
          exact e1
        rw [e] at hq
        refine w_aload_n dX9_change_22 rfl ?_
        refine w_getR dX9_change_23 flX9_10 rfl (hs.r (a := 0) (j := 0) (b := 1) 0 rfl) ?_
        refine w_getR dX9_change_26 flX9_90 rfl (hs.r (a := 1) (j := 0) (b := 2) 9 rfl) ?_
        refine w_iload_n dX9_change_29 rfl ?_
        refine w_aaldI dX9_change_30 rfl (hs.n (a := 2) (z := 6) 0 rfl) (by omega) (hs.rows (Or.inl rfl) (by omega)).1 ?_
        refine w_iload_n dX9_change_31 rfl ?_
        refine w_iald dX9_change_32 rfl (hs.rows (Or.inl rfl) (by omega)).2 (by omega) ?_
        refine w_top (y := V (6 + 7 * s + q)) (hC.2.1 s hs2 q (by omega)) ?_
        refine w_istore (al' := [_, _, _, _, _]) dX9_change_33 rfl rfl rfl ?_
        refine w_aload_n dX9_change_35 rfl ?_
        refine w_getR dX9_change_36 flX9_10 rfl (hs.r (a := 0) (j := 0) (b := 1) 0 rfl) ?_
        refine w_getR dX9_change_39 flX9_90 rfl (hs.r (a := 1) (j := 0) (b := 2) 9 rfl) ?_
        refine w_iload_n dX9_change_42 rfl ?_
        refine w_aaldI dX9_change_43 rfl (hs.n (a := 2) (z := 6) 0 rfl) (by omega) (hs.rows (Or.inl rfl) (by omega)).1 ?_
        refine w_iload_n dX9_change_44 rfl ?_
        refine w_iload_n dX9_change_45 rfl ?_
        refine w_iast dX9_change_46 rfl (hs.rows (Or.inl rfl) (by omega)).2 (by omega) ?_
        refine w_iload dX9_change_47 rfl ?_
        refine w_ireturn dX9_change_49 rfl rfl ?_
        exact hq _ (fun z h => va_up_ne _ _ (by unfold FC at h; omega)) (hC.cell hV (Or.inl rfl) c hs2 (by omega))
      · refine w_ldc dX9_change_19 kcX9_77 ?_
        refine w_ireturn dX9_change_21 rfl rfl ?_
        have e : oChange V (nI s) (nI q) c = (V, -1000000001) := cif_f (fun z => c16 (by have := z.2.2; rw [nI_clamp (by omega)] at this; exact this))
        rw [e] at hq
        exact hq I (fun _ _ => rfl) hC
    · refine c_S (as := [_, _]) (d' := 1) dX9_change_13 (Or.inl mlX9_73) moX9_fitsSort msX9_fitsSort rfl rfl rfl rfl rfl (by decide) (sX9_fitsSortN hb ?_)
      refine w_ifB_ne (tgt := 22) dX9_change_16 (by decide) (fun c16 => ?_) (fun c16 => ?_)
      · exact absurd c16 id
      · refine w_ldc dX9_change_19 kcX9_77 ?_
        refine w_ireturn dX9_change_21 rfl rfl ?_
        have e : oChange V (nI s) b c = (V, -1000000001) := cif_f (fun q => by first | exact hb q.2.1)
        rw [e] at hq
        exact hq I (fun _ _ => rfl) hC

set_option maxRecDepth 20000 in
theorem sX10_change (hs : SK R N) {V : VV} (hI : I 118 = V) (hV : VO V) {a b c : Int32} (hq : ∀ I' : HI, (∀ q, FM q → I' q = I q) → I' 118 = (oChange V a b c).1 → Q (vI (oChange V a b c).2) I' L R N n) : CA sc 2 0 0 mX10_change [vR 10 117, vI a, vI b, vI c] I L R N n Q := by
  refine ca_in (al := [_, _, _, _, _]) rfl ?_
  refine w_aload_n dX10_change_0 rfl ?_
  refine w_iload_n dX10_change_1 rfl ?_
  refine c_V (t := 10) (as := [_]) (d' := 1) dX10_change_2 mlX10_107 moX10_isSort mvX10_isSort ⟨rfl, rfl⟩ rfl rfl rfl rfl rfl (by decide) (sX10_isSort hs ?_)
  refine w_ifB_eq (tgt := 30) dX10_change_5 (by decide) (fun c5 => ?_) (fun c5 => ?_)
  · have c5 : ¬ isS V a := by unfold isS; rw [← hI]; exact c5
    refine w_ldc dX10_change_30 kcX10_101 ?_
    refine w_ireturn dX10_change_32 rfl rfl ?_
    have e : oChange V a b c = (V, -1000000001) := cif_f (fun z => by exact c5 z.1)
    rw [e] at hq
    exact hq I (fun _ _ => rfl) hI
  · have c5 : isS V a := by unfold isS; rw [← hI]; exact c5
    obtain ⟨s, hs2, rfl⟩ := isS_of hV c5
    have h6 := hV.1.2
    refine w_iload_n dX10_change_8 rfl ?_
    refine w_iconst dX10_change_9 ic_0 ?_
    refine w_bipush dX10_change_10 bp_6 ?_
    refine c_S (as := [_, _, _]) (d' := 0) dX10_change_12 (Or.inl mlX10_97) moX10_in msX10_in rfl rfl rfl rfl rfl (by decide) (sX10_in ?_)
    refine w_ifB_eq (tgt := 30) dX10_change_15 (by decide) (fun c15 => ?_) (fun c15 => ?_)
    · refine w_ldc dX10_change_30 kcX10_101 ?_
      refine w_ireturn dX10_change_32 rfl rfl ?_
      have e : oChange V (nI s) b c = (V, -1000000001) := cif_f (fun z => by exact c15 z.2.1)
      rw [e] at hq
      exact hq I (fun _ _ => rfl) hI
    · obtain ⟨q, hq7, rfl⟩ := in_of (m := 6) (by decide) c15
      refine w_iload_n dX10_change_18 rfl ?_
      refine w_iconst dX10_change_19 ic_0 ?_
      refine w_iload_n dX10_change_20 rfl ?_
      refine c_S (as := [_]) (d' := 0) dX10_change_21 (Or.inl mlX10_115) moX10_mostOf msX10_mostOf rfl rfl rfl rfl rfl (by decide) (sX10_mostOf ?_)
      refine w_top (y := mostN q) (mostN_e (by omega)) ?_
      refine c_S (as := [_, _, _]) (d' := 0) dX10_change_24 (Or.inl mlX10_97) moX10_in msX10_in rfl rfl rfl rfl rfl (by decide) (sX10_in ?_)
      refine w_ifB_ne (tgt := 33) dX10_change_27 (by decide) (fun c27 => ?_) (fun c27 => ?_)
      · have e : oChange V (nI s) (nI q) c = (va_up V (6 + 7 * s + q) c, V (6 + 7 * s + q)) := by
          have e1 := cif_t (a := (va_up V (6 + 7 * (nI s).toNatClampNeg + (nI q).toNatClampNeg) c, V (6 + 7 * (nI s).toNatClampNeg + (nI q).toNatClampNeg))) (b := (V, (-1000000001 : Int32))) (show isS V (nI s) ∧ (0 ≤ nI q ∧ nI q ≤ 6) ∧ (0 ≤ c ∧ c ≤ mostN (nI q).toNatClampNeg) from ⟨isS_to hV hs2, in_to (m := 6) (by decide) hq7, by rw [nI_clamp (by omega)]; exact c27⟩)
          rw [nI_clamp (by omega), nI_clamp (by omega)] at e1
          unfold oChange
          rw [nI_clamp (by omega), nI_clamp (by omega)]
          exact e1
        rw [e] at hq
        refine w_aload_n dX10_change_33 rfl ?_
        refine w_iload_n dX10_change_34 rfl ?_
        refine w_iload_n dX10_change_35 rfl ?_
        refine c_V (t := 10) (as := [_, _]) (d' := 0) dX10_change_36 mlX10_111 moX10_sortOf mvX10_sortOf ⟨rfl, rfl⟩ rfl rfl rfl rfl rfl (by decide) (vX10_sortOf (V := V) hs hI (by omega) ?_)
        refine w_istore (al' := [_, _, _, _, _]) dX10_change_39 rfl rfl rfl ?_
        refine w_aload_n dX10_change_41 rfl ?_
        refine w_getR dX10_change_42 flX10_9 rfl (hs.r (a := 117) (j := 0) (b := 118) 116 rfl) ?_
        refine w_bipush dX10_change_45 bp_6 ?_
        refine w_bipush dX10_change_47 bp_7 ?_
        refine w_iload_n dX10_change_49 rfl ?_
        refine w_imul dX10_change_50 ?_
        refine w_iadd dX10_change_51 ?_
        refine w_iload_n dX10_change_52 rfl ?_
        refine w_iadd dX10_change_53 ?_
        refine w_top (y := nI (6 + 7 * s + q)) (by show nI 6 + nI 7 * nI s + nI q = _; rw [nI_mul, nI_add, nI_add]) ?_
        refine w_iload_n dX10_change_54 rfl ?_
        refine w_iast dX10_change_55 rfl (hs.n (a := 118) (z := 1452) 72 rfl) (by omega) ?_
        refine w_iload dX10_change_56 rfl ?_
        refine w_ireturn dX10_change_58 rfl rfl ?_
        exact hq _ (fun q h => va_up_ne _ _ h.1) (by rw [va_up_self, hI])
      · refine w_ldc dX10_change_30 kcX10_101 ?_
        refine w_ireturn dX10_change_32 rfl rfl ?_
        have e : oChange V (nI s) (nI q) c = (V, -1000000001) := cif_f (fun z => by exact c27 (by have := z.2.2; rw [nI_clamp (by omega)] at this; exact this))
        rw [e] at hq
        exact hq I (fun _ _ => rfl) hI

end
