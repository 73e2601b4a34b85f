theorem RM.push {I I2 I3 : HI} {T : VV} {z key : Nat} {t : TKN} {W C : List Int32} {a : Nat} {x : Int32} (h : RM I T z key t W C a) (e2 : I2 = va_up I 133 (va_up (I 133) W.length x)) (hA3 : ∀ q, q ≠ 117 → I3 q = I2 q) (hB3 : ∀ j, j ≠ 30 → I3 117 j = I2 117 j) (hC3 : I3 117 30 = nI (W.length + 1)) : RM I3 T z key t (x :: W) C a ∧ FRR I I3 ∧ I3 134 = I 134 := by
  have h1 : ∀ q, q ≠ 133 → I2 q = I q := fun q hq => by rw [e2, va_up_ne _ _ hq]
  have hB : ∀ j, j ≠ 30 → I3 117 j = I 117 j := fun j hj => (hB3 j hj).trans (congrFun (h1 117 (by decide)) j)
  obtain ⟨g1, g2, g3, g4, g5, g6, g7⟩ := h
  refine ⟨⟨g1.keep (fun j a b => hB j (by omega)) ((hA3 129 (by decide)).trans (h1 129 (by decide))), (hB 23 (by decide)).trans g2, ?_, (hB 27 (by decide)).trans g4, (hB 28 (by decide)).trans g5, ?_, hC3⟩, ⟨fun q a b c d => (hA3 q a).trans (h1 q c), fun j hj => hB j (by omega)⟩, (hA3 134 (by decide)).trans (h1 134 (by decide))⟩
  · rw [hA3 132 (by decide), h1 132 (by decide)]; exact g3
  · rw [hA3 133 (by decide), e2, va_up_self]; exact SR_push x g6
theorem RM.pop {I I3 : HI} {T : VV} {z key : Nat} {t : TKN} {x : Int32} {W C : List Int32} {a : Nat} (h : RM I T z key t (x :: W) C a) (hA3 : ∀ q, q ≠ 117 → I3 q = I q) (hB3 : ∀ j, j ≠ 30 → I3 117 j = I 117 j) (hC3 : I3 117 30 = nI W.length) : RM I3 T z key t W C a ∧ FRR I I3 ∧ I3 134 = I 134 := by
  obtain ⟨g1, g2, g3, g4, g5, g6, g7⟩ := h
  refine ⟨⟨g1.keep (fun j a b => hB3 j (by omega)) (hA3 129 (by decide)), (hB3 23 (by decide)).trans g2, ?_, (hB3 27 (by decide)).trans g4, (hB3 28 (by decide)).trans g5, ?_, hC3⟩, ⟨fun q a b c d => hA3 q a, fun j hj => hB3 j (by omega)⟩, hA3 134 (by decide)⟩
  · rw [hA3 132 (by decide)]; exact g3
  · rw [hA3 133 (by decide)]; exact SR_tl g6
theorem RM.td {I I2 : HI} {T : VV} {z key : Nat} {t : TKN} {W C : List Int32} {a : Nat} {f : VV} (h : RM I T z key t W C a) (e2 : I2 = va_up I 134 f) : RM I2 T z key t W C a ∧ FRR I I2 ∧ I2 134 = f := by
  have h1 : ∀ q, q ≠ 134 → I2 q = I q := fun q hq => by rw [e2, va_up_ne _ _ hq]
  refine ⟨?_, ⟨fun q a b c d => h1 q d, fun j _ => congrFun (h1 117 (by decide)) j⟩, by rw [e2, va_up_self]⟩
  unfold RM TM
  rw [h1 117 (by decide), h1 132 (by decide), h1 133 (by decide), h1 129 (by decide)]
  exact h
theorem tdU_nar (td : VV) (pr : Nat) (g : Int32) : vp_nar .boolean (tdU td pr g) = tdU td pr g := by
  unfold tdU
  split <;> rfl
section
variable {sc : SC} {I : HI} {L : HL} {R : HR} {N : HN} {n : Nat} {Q : HQ}
set_option maxRecDepth 20000 in
theorem lX10_part (hs : SK R N) {T : VV} {z key : Nat} {t : TKN} {W C : List Int32} {a : Nat} (hz : z ≤ 96) (hk : key ≤ 2) (ht : TO T z t) (hM : RM I T z key t W C a) (hl : C.length + W.length + 3 ≤ t.1) (hq0 : ¬ isPt T key t → Q (vI 0) I L R N n) (hq1 : isPt T key t → ∀ I' : HI, FRR I I' → I' 134 = I 134 → RM I' T z key (nxT T z t) (stl 6 W (ptV T key t :: C)).1 (stl 6 W (ptV T key t :: C)).2 (a + 1) → Q (vI 1) I' L R N n) : WP sc 2 0 0 mX10_takesPart 37 [vR 10 117, vU] [vI (bI (t.2.2 = 1 ∧ t.2.1 - t.1 = 1 ∧ 0 ≤ nmB key (T t.1)))] I L R N n Q := by
  have hto := ht.1
  have hto2 := ht.2.1
  refine w_istore_n (al' := [_, _]) dX10_takesPart_37 rfl rfl rfl ?_
  refine w_aload_n dX10_takesPart_38 rfl ?_
  refine w_getI dX10_takesPart_39 flX10_220 rfl ?_
  refine w_top (y := nI t.2.2) (hM.1.2.2.2.1) ?_
  refine w_iconst dX10_takesPart_42 ic_2 ?_
  refine w_icmp_eq (tgt := 52) dX10_takesPart_43 (by decide) (fun c43 => ?_) (fun c43 => ?_)
  · have hk2 : t.2.2 = 2 := (nI_eq (b := 2) (by have := ht.2.2.2.2.2.2; omega) (by decide)).mp c43
    have hpt : isPt T key t := Or.inl hk2
    have hk12 : t.2.2 = 1 ∨ t.2.2 = 2 ∨ t.2.2 = 3 := Or.inr (Or.inl hk2)
    refine w_aload_n dX10_takesPart_52 rfl ?_
    refine w_getR dX10_takesPart_53 flX10_54 rfl (hs.r (a := 117) (j := 26) (b := 132) 130 rfl) ?_
    refine w_aload_n dX10_takesPart_56 rfl ?_
    refine w_getI dX10_takesPart_57 flX10_244 rfl ?_
    refine w_top (y := nI C.length) (hM.2.2.2.1) ?_
    refine w_aload_n dX10_takesPart_60 rfl ?_
    refine w_getI dX10_takesPart_61 flX10_220 rfl ?_
    refine w_top (y := nI t.2.2) (hM.1.2.2.2.1) ?_
    refine w_iconst dX10_takesPart_64 ic_2 ?_
    refine w_icmp_ne (tgt := 75) dX10_takesPart_65 (by decide) (fun c65 => ?_) (fun c65 => ?_)
    · exact absurd c43 c65
    · refine w_aload_n dX10_takesPart_68 rfl ?_
      refine w_getI dX10_takesPart_69 flX10_226 rfl ?_
      refine w_top (y := ptV T key t) (by unfold ptV; rw [if_pos hk2]; exact hM.1.2.2.2.2.2.1 hk2) ?_
      refine w_goto (tgt := 87) dX10_takesPart_72 (by decide) ?_
      refine w_iast dX10_takesPart_87 rfl (hs.n (a := 132) (z := 96) 86 rfl) (by omega) ?_
      refine w_heap (fun I2 e2 => ?_)
      refine w_aload_n dX10_takesPart_88 rfl ?_
      refine w_dup dX10_takesPart_89 rfl ?_
      refine w_getI dX10_takesPart_90 flX10_244 rfl ?_
      refine w_top (y := nI C.length) (by rw [e2, va_up_ne _ _ (by decide)]; exact hM.2.2.2.1) ?_
      refine w_iconst dX10_takesPart_93 ic_1 ?_
      refine w_iadd dX10_takesPart_94 ?_
      refine w_top (y := nI (C.length + 1)) (nI_1 _) ?_
      refine w_putI dX10_takesPart_95 flX10_244 rfl rfl rfl rfl ?_
      refine w_st (fun I3 hA3 hB3 hC3 => ?_)
      refine w_aload_n dX10_takesPart_98 rfl ?_
      refine w_dup dX10_takesPart_99 rfl ?_
      refine w_getI dX10_takesPart_100 flX10_250 rfl ?_
      refine w_top (y := nI a) (by rw [hB3 28 (by decide), e2, va_up_ne _ _ (by decide)]; exact hM.2.2.2.2.1) ?_
      refine w_iconst dX10_takesPart_103 ic_1 ?_
      refine w_iadd dX10_takesPart_104 ?_
      refine w_top (y := nI (a + 1)) (nI_1 _) ?_
      refine w_putI dX10_takesPart_105 flX10_250 rfl rfl rfl rfl ?_
      refine w_st (fun I4 hA4 hB4 hC4 => ?_)
      have h34 : ∀ q, q ≠ 117 → q ≠ 132 → I4 q = I q := fun q a b => by rw [hA4 q a, hA3 q a, e2, va_up_ne _ _ b]
      have hB4I : ∀ j, j ≠ 27 → j ≠ 28 → I4 117 j = I 117 j := fun j a b => by rw [hB4 j b, hB3 j a, e2, va_up_ne _ _ (by decide)]
      have hM4 : RM I4 T z key t W (ptV T key t :: C) (a + 1) := ⟨hM.1.keep (fun j a b => hB4I j (by omega) (by omega)) (h34 129 (by decide) (by decide)), (hB4I 23 (by decide) (by decide)).trans hM.2.1, by rw [hA4 132 (by decide), hA3 132 (by decide), e2, va_up_self]; exact SR_push _ hM.2.2.1, (hB4 27 (by decide)).trans hC3, hC4, by rw [h34 133 (by decide) (by decide)]; exact hM.2.2.2.2.2.1, (hB4I 30 (by decide) (by decide)).trans hM.2.2.2.2.2.2⟩
      have hF4 : FRR I I4 := ⟨fun q a b c d => h34 q a b, fun j hj => hB4I j (by omega) (by omega)⟩
      refine w_aload_n dX10_takesPart_108 rfl ?_
      refine w_bipush dX10_takesPart_109 bp_6 ?_
      refine w_top (y := nI 6) (rfl) ?_
      refine c_Vv (t := 10) (as := [_]) (d' := 1) dX10_takesPart_111 mlX10_253 moX10_settle mvX10_settle ⟨rfl, rfl⟩ rfl rfl rfl rfl rfl (by decide) (sX10_settleR hs (by decide) (by rw [List.length_cons]; omega) hM4 (fun I5 hF5 h5 hM5 => ?_))
      refine w_aload_n dX10_takesPart_114 rfl ?_
      refine c_Vv (t := 10) (as := []) (d' := 1) dX10_takesPart_115 mlX10_235 moX10_go mvX10_go ⟨rfl, rfl⟩ rfl rfl rfl rfl rfl (by decide) (sX10_next hs hz ht hk12 hM5.1 (fun I6 hG6 hM6 => ?_))
      refine w_iconst dX10_takesPart_118 ic_1 ?_
      refine w_ireturn dX10_takesPart_119 rfl rfl ?_
      exact hq1 hpt I6 ((hF4.trans hF5).trans hG6.r) ((hG6.1 134 (by decide)).trans (h5.trans (h34 134 (by decide) (by decide)))) (hM5.go hG6 hM6)
  · have hk2 : ¬ t.2.2 = 2 := fun q => c43 (by rw [q]; rfl)
    refine w_iload_n dX10_takesPart_46 rfl ?_
    refine w_ifB_ne (tgt := 52) dX10_takesPart_47 (by decide) (fun c47 => ?_) (fun c47 => ?_)
    · have hpt : isPt T key t := Or.inr c47
      have hk12 : t.2.2 = 1 ∨ t.2.2 = 2 ∨ t.2.2 = 3 := Or.inl c47.1
      refine w_aload_n dX10_takesPart_52 rfl ?_
      refine w_getR dX10_takesPart_53 flX10_54 rfl (hs.r (a := 117) (j := 26) (b := 132) 130 rfl) ?_
      refine w_aload_n dX10_takesPart_56 rfl ?_
      refine w_getI dX10_takesPart_57 flX10_244 rfl ?_
      refine w_top (y := nI C.length) (hM.2.2.2.1) ?_
      refine w_aload_n dX10_takesPart_60 rfl ?_
      refine w_getI dX10_takesPart_61 flX10_220 rfl ?_
      refine w_top (y := nI t.2.2) (hM.1.2.2.2.1) ?_
      refine w_iconst dX10_takesPart_64 ic_2 ?_
      refine w_icmp_ne (tgt := 75) dX10_takesPart_65 (by decide) (fun c65 => ?_) (fun c65 => ?_)
      · refine w_sipush dX10_takesPart_75 sp_10000 ?_
        refine w_aload_n dX10_takesPart_78 rfl ?_
        refine w_aload_n dX10_takesPart_79 rfl ?_
        refine w_getI dX10_takesPart_80 flX10_226 rfl ?_
        refine w_top (y := T t.1) (hM.1.2.2.2.2.1 (Or.inl c47.1)) ?_
        refine c_V (t := 10) (as := [_]) (d' := 0) dX10_takesPart_83 mlX10_247 moX10_nameOf mvX10_nameOf ⟨rfl, rfl⟩ rfl rfl rfl rfl rfl (by decide) (sX10_nameOf hs hk hM.2.1 ?_)
        refine w_iadd dX10_takesPart_86 ?_
        refine w_top (y := ptV T key t) ((if_neg hk2).symm) ?_
        refine w_iast dX10_takesPart_87 rfl (hs.n (a := 132) (z := 96) 86 rfl) (by omega) ?_
        refine w_heap (fun I2 e2 => ?_)
        refine w_aload_n dX10_takesPart_88 rfl ?_
        refine w_dup dX10_takesPart_89 rfl ?_
        refine w_getI dX10_takesPart_90 flX10_244 rfl ?_
        refine w_top (y := nI C.length) (by rw [e2, va_up_ne _ _ (by decide)]; exact hM.2.2.2.1) ?_
        refine w_iconst dX10_takesPart_93 ic_1 ?_
        refine w_iadd dX10_takesPart_94 ?_
        refine w_top (y := nI (C.length + 1)) (nI_1 _) ?_
        refine w_putI dX10_takesPart_95 flX10_244 rfl rfl rfl rfl ?_
        refine w_st (fun I3 hA3 hB3 hC3 => ?_)
        refine w_aload_n dX10_takesPart_98 rfl ?_
        refine w_dup dX10_takesPart_99 rfl ?_
        refine w_getI dX10_takesPart_100 flX10_250 rfl ?_
        refine w_top (y := nI a) (by rw [hB3 28 (by decide), e2, va_up_ne _ _ (by decide)]; exact hM.2.2.2.2.1) ?_
        refine w_iconst dX10_takesPart_103 ic_1 ?_
        refine w_iadd dX10_takesPart_104 ?_
        refine w_top (y := nI (a + 1)) (nI_1 _) ?_
        refine w_putI dX10_takesPart_105 flX10_250 rfl rfl rfl rfl ?_
        refine w_st (fun I4 hA4 hB4 hC4 => ?_)
        have h34 : ∀ q, q ≠ 117 → q ≠ 132 → I4 q = I q := fun q a b => by rw [hA4 q a, hA3 q a, e2, va_up_ne _ _ b]
        have hB4I : ∀ j, j ≠ 27 → j ≠ 28 → I4 117 j = I 117 j := fun j a b => by rw [hB4 j b, hB3 j a, e2, va_up_ne _ _ (by decide)]
        have hM4 : RM I4 T z key t W (ptV T key t :: C) (a + 1) := ⟨hM.1.keep (fun j a b => hB4I j (by omega) (by omega)) (h34 129 (by decide) (by decide)), (hB4I 23 (by decide) (by decide)).trans hM.2.1, by rw [hA4 132 (by decide), hA3 132 (by decide), e2, va_up_self]; exact SR_push _ hM.2.2.1, (hB4 27 (by decide)).trans hC3, hC4, by rw [h34 133 (by decide) (by decide)]; exact hM.2.2.2.2.2.1, (hB4I 30 (by decide) (by decide)).trans hM.2.2.2.2.2.2⟩
        have hF4 : FRR I I4 := ⟨fun q a b c d => h34 q a b, fun j hj => hB4I j (by omega) (by omega)⟩
        refine w_aload_n dX10_takesPart_108 rfl ?_
        refine w_bipush dX10_takesPart_109 bp_6 ?_
        refine w_top (y := nI 6) (rfl) ?_
        refine c_Vv (t := 10) (as := [_]) (d' := 1) dX10_takesPart_111 mlX10_253 moX10_settle mvX10_settle ⟨rfl, rfl⟩ rfl rfl rfl rfl rfl (by decide) (sX10_settleR hs (by decide) (by rw [List.length_cons]; omega) hM4 (fun I5 hF5 h5 hM5 => ?_))
        refine w_aload_n dX10_takesPart_114 rfl ?_
        refine c_Vv (t := 10) (as := []) (d' := 1) dX10_takesPart_115 mlX10_235 moX10_go mvX10_go ⟨rfl, rfl⟩ rfl rfl rfl rfl rfl (by decide) (sX10_next hs hz ht hk12 hM5.1 (fun I6 hG6 hM6 => ?_))
        refine w_iconst dX10_takesPart_118 ic_1 ?_
        refine w_ireturn dX10_takesPart_119 rfl rfl ?_
        exact hq1 hpt I6 ((hF4.trans hF5).trans hG6.r) ((hG6.1 134 (by decide)).trans (h5.trans (h34 134 (by decide) (by decide)))) (hM5.go hG6 hM6)
      · exact absurd c65 c43
    · refine w_iconst dX10_takesPart_50 ic_0 ?_
      refine w_ireturn dX10_takesPart_51 rfl rfl ?_
      exact hq0 (fun q => q.elim hk2 c47)

set_option maxRecDepth 20000 in
theorem sX10_takesPart (hs : SK R N) {T : VV} {z key : Nat} {t : TKN} {W C : List Int32} {a : Nat} (hz : z ≤ 96) (hk : key ≤ 2) (ht : TO T z t) (hM : RM I T z key t W C a) (hl : C.length + W.length + 3 ≤ t.1) (hq0 : ¬ isPt T key t → Q (vI 0) I L R N n) (hq1 : isPt T key t → ∀ I' : HI, FRR I I' → I' 134 = I 134 → RM I' T z key (nxT T z t) (stl 6 W (ptV T key t :: C)).1 (stl 6 W (ptV T key t :: C)).2 (a + 1) → Q (vI 1) I' L R N n) : CA sc 2 0 0 mX10_takesPart [vR 10 117] I L R N n Q := by
  refine ca_in (al := [_, _]) rfl ?_
  refine w_aload_n dX10_takesPart_0 rfl ?_
  refine w_getI dX10_takesPart_1 flX10_220 rfl ?_
  refine w_top (y := nI t.2.2) (hM.1.2.2.2.1) ?_
  refine w_iconst dX10_takesPart_4 ic_1 ?_
  refine w_icmp_ne (tgt := 36) dX10_takesPart_5 (by decide) (fun c5 => ?_) (fun c5 => ?_)
  · have hno : ¬ (t.2.2 = 1 ∧ t.2.1 - t.1 = 1 ∧ 0 ≤ nmB key (T t.1)) := fun q => c5 (by rw [q.1]; rfl)
    refine w_iconst dX10_takesPart_36 ic_0 ?_
    refine w_top (y := bI (t.2.2 = 1 ∧ t.2.1 - t.1 = 1 ∧ 0 ≤ nmB key (T t.1))) ((bI_0 hno).symm) ?_
    exact lX10_part hs hz hk ht hM hl hq0 hq1
  · have hk1 : t.2.2 = 1 := (nI_eq (b := 1) (by have := ht.2.2.2.2.2.2; omega) (by decide)).mp c5
    refine w_aload_n dX10_takesPart_8 rfl ?_
    refine w_getI dX10_takesPart_9 flX10_211 rfl ?_
    refine w_top (y := nI t.2.1) (hM.1.2.1) ?_
    refine w_aload_n dX10_takesPart_12 rfl ?_
    refine w_getI dX10_takesPart_13 flX10_214 rfl ?_
    refine w_top (y := nI t.1) (hM.1.2.2.1) ?_
    refine w_isub dX10_takesPart_16 ?_
    refine w_top (y := nI (t.2.1 - t.1)) (nI_sub ht.1) ?_
    refine w_iconst dX10_takesPart_17 ic_1 ?_
    refine w_icmp_ne (tgt := 36) dX10_takesPart_18 (by decide) (fun c18 => ?_) (fun c18 => ?_)
    · have hno : ¬ (t.2.2 = 1 ∧ t.2.1 - t.1 = 1 ∧ 0 ≤ nmB key (T t.1)) := fun q => c18 (by rw [q.2.1]; rfl)
      refine w_iconst dX10_takesPart_36 ic_0 ?_
      refine w_top (y := bI (t.2.2 = 1 ∧ t.2.1 - t.1 = 1 ∧ 0 ≤ nmB key (T t.1))) ((bI_0 hno).symm) ?_
      exact lX10_part hs hz hk ht hM hl hq0 hq1
    · have hk11 : t.2.1 - t.1 = 1 := (nI_eq (b := 1) (by have := ht.2.1; omega) (by decide)).mp c18
      refine w_aload_n dX10_takesPart_21 rfl ?_
      refine w_aload_n dX10_takesPart_22 rfl ?_
      refine w_getI dX10_takesPart_23 flX10_226 rfl ?_
      refine w_top (y := T t.1) (hM.1.2.2.2.2.1 (Or.inl hk1)) ?_
      refine c_V (t := 10) (as := [_]) (d' := 0) dX10_takesPart_26 mlX10_247 moX10_nameOf mvX10_nameOf ⟨rfl, rfl⟩ rfl rfl rfl rfl rfl (by decide) (sX10_nameOf hs hk hM.2.1 ?_)
      refine w_if_lt (tgt := 36) dX10_takesPart_29 (by decide) (fun c29 => ?_) (fun c29 => ?_)
      · have hno : ¬ (t.2.2 = 1 ∧ t.2.1 - t.1 = 1 ∧ 0 ≤ nmB key (T t.1)) := fun q => absurd q.2.2 (Int32.not_le.mpr c29)
        refine w_iconst dX10_takesPart_36 ic_0 ?_
        refine w_top (y := bI (t.2.2 = 1 ∧ t.2.1 - t.1 = 1 ∧ 0 ≤ nmB key (T t.1))) ((bI_0 hno).symm) ?_
        exact lX10_part hs hz hk ht hM hl hq0 hq1
      · refine w_iconst dX10_takesPart_32 ic_1 ?_
        refine w_top (y := bI (t.2.2 = 1 ∧ t.2.1 - t.1 = 1 ∧ 0 ≤ nmB key (T t.1))) ((bI_1 ⟨hk1, hk11, Int32.not_lt.mp c29⟩).symm) ?_
        refine w_goto (tgt := 37) dX10_takesPart_33 (by decide) ?_
        exact lX10_part hs hz hk ht hM hl hq0 hq1

set_option maxRecDepth 20000 in
theorem lX10_sg (hs : SK R N) {T : VV} {z key : Nat} {t : TKN} {W C : List Int32} {a : Nat} (hz : z ≤ 96) (hk : key ≤ 2) (ht : TO T z t) (hM : RM I T z key t W C a) (hl : C.length + W.length + 3 ≤ t.1) {pr m : Nat} {td : VV} {g : Int32} (htd : I 134 = td) (hpr : pr ≤ 8) (hk3 : t.2.2 = 3) (hnext : ∀ I' : HI, FRR I I' → I' 134 = va_up td pr (tdU td pr g) → RM I' T z key (nxT T z t) (g :: (stl (rkN g) W C).1) (stl (rkN g) W C).2 a → WP sc 3 0 0 mX10_takesE 28 [vR 10 117, vI (nI pr), vI (nI m), vI 1, vU] [] I' L R N n Q) : WP sc 3 0 0 mX10_takesE 305 [vR 10 117, vI (nI pr), vI (nI m), vI 0, vI g] [vI (tdU td pr g), vI (nI pr), vR 13 134] I L R N n Q := by
  have hto := ht.1
  have hto2 := ht.2.1
  have hsl := stl_len (rkN g) W C
  refine w_zast dX10_takesE_305 rfl (hs.n (a := 134) (z := 10) 88 rfl) (by omega) (tdU_nar _ _ _) ?_
  refine w_heap (fun I2 e2 => ?_)
  obtain ⟨hM2, hF2, h2⟩ := hM.td e2
  rw [htd] at h2
  refine w_aload_n dX10_takesE_306 rfl ?_
  refine w_iload dX10_takesE_307 rfl ?_
  refine c_S (as := [_]) (d' := 0) dX10_takesE_309 (Or.inl mlX10_241) moX10_rank msX10_rank rfl rfl rfl rfl rfl (by decide) (sX10_rank ?_)
  refine c_Vv (t := 10) (as := [_]) (d' := 1) dX10_takesE_312 mlX10_253 moX10_settle mvX10_settle ⟨rfl, rfl⟩ rfl rfl rfl rfl rfl (by decide) (sX10_settleR hs (rk_6 g) (by omega) hM2 (fun I3 hF3 h3 hM3 => ?_))
  refine w_aload_n dX10_takesE_315 rfl ?_
  refine w_getR dX10_takesE_316 flX10_57 rfl (hs.r (a := 117) (j := 29) (b := 133) 131 rfl) ?_
  refine w_aload_n dX10_takesE_319 rfl ?_
  refine w_getI dX10_takesE_320 flX10_238 rfl ?_
  refine w_top (y := nI (stl (rkN g) W C).1.length) (hM3.2.2.2.2.2.2) ?_
  refine w_iload dX10_takesE_323 rfl ?_
  refine w_iast dX10_takesE_325 rfl (hs.n (a := 133) (z := 96) 87 rfl) (by omega) ?_
  refine w_heap (fun I4 e4 => ?_)
  refine w_aload_n dX10_takesE_326 rfl ?_
  refine w_dup dX10_takesE_327 rfl ?_
  refine w_getI dX10_takesE_328 flX10_238 rfl ?_
  refine w_top (y := nI (stl (rkN g) W C).1.length) (by rw [e4, va_up_ne _ _ (by decide)]; exact hM3.2.2.2.2.2.2) ?_
  refine w_iconst dX10_takesE_331 ic_1 ?_
  refine w_iadd dX10_takesE_332 ?_
  refine w_top (y := nI ((stl (rkN g) W C).1.length + 1)) (nI_1 _) ?_
  refine w_putI dX10_takesE_333 flX10_238 rfl rfl rfl rfl ?_
  refine w_st (fun I5 hA5 hB5 hC5 => ?_)
  obtain ⟨hM5, hF5, h5⟩ := hM3.push e4 hA5 hB5 hC5
  refine w_iconst dX10_takesE_336 ic_1 ?_
  refine w_istore_n (al' := [_, _, _, _, _]) dX10_takesE_337 rfl rfl rfl ?_
  refine w_aload_n dX10_takesE_338 rfl ?_
  refine c_Vv (t := 10) (as := []) (d' := 1) dX10_takesE_339 mlX10_235 moX10_go mvX10_go ⟨rfl, rfl⟩ rfl rfl rfl rfl rfl (by decide) (sX10_next hs hz ht (Or.inr (Or.inr hk3)) hM5.1 (fun I6 hG6 hM6 => ?_))
  refine w_goto (tgt := 28) dX10_takesE_342 (by decide) ?_
  refine w_kill (i := 4) (al' := [_, _, _, _, _]) rfl ?_
  exact hnext I6 (((hF2.trans hF3).trans hF5).trans hG6.r) ((hG6.1 134 (by decide)).trans (h5.trans (h3.trans h2))) (hM5.go hG6 hM6)

set_option maxRecDepth 20000 in
theorem sX10_takesE (hs : SK R N) {T : VV} {z key : Nat} {t : TKN} {td : VV} {nn : Nat} {r : RES} (hz : z ≤ 96) (hk : key ≤ 2) (ht : TO T z t) (hM0 : TM I T z t) (h23 : I 117 23 = nI key) (h3 : 3 ≤ t.1) (htd0 : va_up (I 134) 0 0 = td) (hr : rrun T z key nn t [] [] 0 0 td 0 true = some r) (hq0 : r.2 = none → ∀ I' : HI, FRR I I' → I' 117 19 = nI r.1 → Q (vI 0) I' L R N n) (hq1 : ∀ c a, r.2 = some (c, a) → ∀ I' : HI, FRR I I' → SR (I' 132) c → I' 117 27 = nI c.length → I' 117 28 = nI a → I' 117 23 = nI key → Q (vI 1) I' L R N n) : CA sc 3 0 0 mX10_takesE [vR 10 117] I L R N n Q := by
  have lp : ∀ (k : Nat) (t : TKN) (W C : List Int32) (a pr : Nat) (td : VV) (m : Nat) (w : Bool) (I1 : HI), rrun T z key k t W C a pr td m w = some r → RM I1 T z key t W C a → I1 134 = td → opn W = pr → pr ≤ 8 → m ≤ 96 → C.length + W.length + 3 ≤ t.1 → TO T z t → FRR I I1 → WP sc 3 0 0 mX10_takesE 28 [vR 10 117, vI (nI pr), vI (nI m), vI (if w then 1 else 0), vU] [] I1 L R N n Q := by
    intro k
    induction k with
    | zero =>
      intro t W C a pr td m w I1 hrun hM htd hop hpr hm hl ht hF
      rw [rrun] at hrun
      cases hrun
    | succ k ih =>
      intro t W C a pr td m w I1 hrun hM htd hop hpr hm hl ht hF
      rcases w with _ | _
      · have hto := ht.1
        have hto2 := ht.2.1
        have hnx := nxT_ok ht
        rw [rrun] at hrun
        refine w_iload_n dX10_takesE_28 rfl ?_
        refine w_top (y := 0) (rfl) ?_
        refine w_if_ne (tgt := 39) dX10_takesE_29 (by decide) (fun c29 => ?_) (fun c29 => ?_)
        · exact absurd rfl c29
        · refine w_aload_n dX10_takesE_32 rfl ?_
          refine w_getI dX10_takesE_33 flX10_220 rfl ?_
          refine w_top (y := nI t.2.2) (hM.1.2.2.2.1) ?_
          refine w_if_eq (tgt := 345) dX10_takesE_36 (by decide) (fun c36 => ?_) (fun c36 => ?_)
          · have hk0 : t.2.2 = 0 := (nI_eq (b := 0) (by have := ht.2.2.2.2.2.2; omega) (by decide)).mp c36
            rw [cif_t hk0] at hrun
            have er := Option.some.inj hrun
            refine w_aload_n dX10_takesE_345 rfl ?_
            refine w_iconst dX10_takesE_346 ic_0 ?_
            refine w_top (y := nI 0) (rfl) ?_
            refine c_Vv (t := 10) (as := [_]) (d' := 1) dX10_takesE_347 mlX10_253 moX10_settle mvX10_settle ⟨rfl, rfl⟩ rfl rfl rfl rfl rfl (by decide) (sX10_settleR (r := 0) hs (by decide) (by omega) hM (fun I2 hF2 h2 hM2 => ?_))
            refine w_iload_n dX10_takesE_350 rfl ?_
            refine w_if_ne (tgt := 358) dX10_takesE_351 (by decide) (fun c351 => ?_) (fun c351 => ?_)
            · have hp0 : ¬ pr = 0 := fun q => c351 (by rw [q]; rfl)
              rw [cif_f hp0] at er
              refine w_iconst dX10_takesE_358 ic_0 ?_
              refine w_ireturn dX10_takesE_359 rfl rfl ?_
              exact hq0 (by rw [← er]) I2 (hF.trans hF2) (by rw [← er]; exact hM2.1.2.2.1)
            · have hp0 : pr = 0 := (nI_eq (b := 0) (by omega) (by decide)).mp c351
              rw [cif_t hp0] at er
              refine w_iconst dX10_takesE_354 ic_1 ?_
              refine w_goto (tgt := 359) dX10_takesE_355 (by decide) ?_
              refine w_ireturn dX10_takesE_359 rfl rfl ?_
              exact hq1 _ _ (by rw [← er]) I2 (hF.trans hF2) hM2.2.2.1 hM2.2.2.2.1 hM2.2.2.2.2.1 hM2.2.1
          · have hk0 : t.2.2 ≠ 0 := fun q => c36 (by rw [q]; rfl)
            refine w_iload_n dX10_takesE_39 rfl ?_
            refine w_top (y := 0) (rfl) ?_
            refine w_if_eq (tgt := 180) dX10_takesE_40 (by decide) (fun c40 => ?_) (fun c40 => ?_)
            · refine w_aload_n dX10_takesE_180 rfl ?_
              refine w_getI dX10_takesE_181 flX10_220 rfl ?_
              refine w_top (y := nI t.2.2) (hM.1.2.2.2.1) ?_
              refine w_iconst dX10_takesE_184 ic_3 ?_
              refine w_icmp_ne (tgt := 237) dX10_takesE_185 (by decide) (fun c185 => ?_) (fun c185 => ?_)
              · have hk3n : t.2.2 ≠ 3 := fun q => c185 (by rw [q]; rfl)
                have h41 : ¬ (hnd T t = 41 ∧ 0 < pr) := fun q => hk3n (hnd_b ht (by decide) q.1)
                refine w_aload_n dX10_takesE_237 rfl ?_
                refine c_V (t := 10) (as := []) (d' := 0) dX10_takesE_238 mlX10_263 moX10_signHere mvX10_signHere ⟨rfl, rfl⟩ rfl rfl rfl rfl rfl (by decide) (sX10_signHere hs ht hM.1 ?_)
                refine w_istore (al' := [_, _, _, _, _]) dX10_takesE_241 rfl rfl rfl ?_
                refine w_iload dX10_takesE_243 rfl ?_
                refine w_if_eq (tgt := 266) dX10_takesE_245 (by decide) (fun c245 => ?_) (fun c245 => ?_)
                · refine w_iconst dX10_takesE_266 ic_0 ?_
                  refine w_ireturn dX10_takesE_267 rfl rfl ?_
                  rw [cif_f hk0, cif_f h41, cif_t (Or.inl c245)] at hrun
                  have er := Option.some.inj hrun
                  exact hq0 (by rw [← er]) I1 hF (by rw [← er]; exact hM.1.2.2.1)
                · exact absurd (sg_n3 ht hk3n) c245
              · have hk3 : t.2.2 = 3 := (nI_eq (b := 3) (by have := ht.2.2.2.2.2.2; omega) (by decide)).mp c185
                refine w_aload_n dX10_takesE_188 rfl ?_
                refine w_getI dX10_takesE_189 flX10_226 rfl ?_
                refine w_top (y := hnd T t) ((hM.1.2.2.2.2.1 (Or.inr hk3)).trans (hnd_3 hk3).symm) ?_
                refine w_bipush dX10_takesE_192 bp_41 ?_
                refine w_icmp_ne (tgt := 237) dX10_takesE_194 (by decide) (fun c194 => ?_) (fun c194 => ?_)
                · have h41 : ¬ (hnd T t = 41 ∧ 0 < pr) := fun q => c194 q.1
                  refine w_aload_n dX10_takesE_237 rfl ?_
                  refine c_V (t := 10) (as := []) (d' := 0) dX10_takesE_238 mlX10_263 moX10_signHere mvX10_signHere ⟨rfl, rfl⟩ rfl rfl rfl rfl rfl (by decide) (sX10_signHere hs ht hM.1 ?_)
                  refine w_istore (al' := [_, _, _, _, _]) dX10_takesE_241 rfl rfl rfl ?_
                  refine w_iload dX10_takesE_243 rfl ?_
                  refine w_if_eq (tgt := 266) dX10_takesE_245 (by decide) (fun c245 => ?_) (fun c245 => ?_)
                  · refine w_iconst dX10_takesE_266 ic_0 ?_
                    refine w_ireturn dX10_takesE_267 rfl rfl ?_
                    rw [cif_f hk0, cif_f h41, cif_t (Or.inl c245)] at hrun
                    have er := Option.some.inj hrun
                    exact hq0 (by rw [← er]) I1 hF (by rw [← er]; exact hM.1.2.2.1)
                  · have hlv : lvB (hnd T t) ≤ 4 := (lv_99 _).resolve_right (fun q => c245 (sg_out q))
                    have hsg := sg_in hlv
                    refine w_iload dX10_takesE_248 rfl ?_
                    refine c_S (as := [_]) (d' := 0) dX10_takesE_250 (Or.inl mlX10_241) moX10_rank msX10_rank rfl rfl rfl rfl rfl (by decide) (sX10_rank ?_)
                    refine w_iconst dX10_takesE_253 ic_3 ?_
                    refine w_icmp_ne (tgt := 268) dX10_takesE_254 (by decide) (fun c254 => ?_) (fun c254 => ?_)
                    · have hbad : ¬ (sgB (hnd T t) = 0 ∨ (rkN (sgB (hnd T t)) = 3 ∧ td pr ≠ 0)) := fun q => q.elim c245 (fun q => c254 (by rw [q.1]; rfl))
                      refine w_aload_n dX10_takesE_268 rfl ?_
                      refine w_getR dX10_takesE_269 flX10_60 rfl (hs.r (a := 117) (j := 31) (b := 134) 132 rfl) ?_
                      refine w_iload_n dX10_takesE_272 rfl ?_
                      refine w_iload dX10_takesE_273 rfl ?_
                      refine c_S (as := [_]) (d' := 0) dX10_takesE_275 (Or.inl mlX10_241) moX10_rank msX10_rank rfl rfl rfl rfl rfl (by decide) (sX10_rank ?_)
                      refine w_iconst dX10_takesE_278 ic_3 ?_
                      refine w_icmp_eq (tgt := 300) dX10_takesE_279 (by decide) (fun c279 => ?_) (fun c279 => ?_)
                      · refine w_iconst dX10_takesE_300 ic_1 ?_
                        refine w_goto (tgt := 305) dX10_takesE_301 (by decide) ?_
                        refine w_top (y := tdU td pr (sgB (hnd T t))) ((if_pos (Or.inl ((nI_eq (b := 3) (by have := rk_6 (sgB (hnd T t)); omega) (by decide)).mp c279))).symm) ?_
                        refine lX10_sg hs hz hk ht hM hl htd hpr hk3 (fun I2 hF2 h2 hM2 => ?_)
                        rw [cif_f hk0, cif_f h41, cif_f hbad] at hrun
                        have hgt := nxT_gt ht hk0
                        have hsl := stl_len (rkN (sgB (hnd T t))) W C
                        exact ih _ _ _ _ _ _ _ true I2 hrun hM2 h2 (by rw [opn, if_neg hsg.1.2.1, stl_opn]; exact hop) hpr hm (by rw [List.length_cons]; omega) hnx.1 (hF.trans hF2)
                      · refine w_iload dX10_takesE_282 rfl ?_
                        refine c_S (as := [_]) (d' := 0) dX10_takesE_284 (Or.inl mlX10_241) moX10_rank msX10_rank rfl rfl rfl rfl rfl (by decide) (sX10_rank ?_)
                        refine w_iconst dX10_takesE_287 ic_3 ?_
                        refine w_icmp_le (tgt := 304) dX10_takesE_288 (by decide) (fun c288 => ?_) (fun c288 => ?_)
                        · have hr3 := (nI_leI (b := 3) (by have := rk_6 (sgB (hnd T t)); omega) (by decide)).mp c288
                          refine w_iconst dX10_takesE_304 ic_0 ?_
                          refine w_top (y := tdU td pr (sgB (hnd T t))) ((if_neg (fun q => q.elim (fun q => c279 (by rw [q]; rfl)) (fun q => by omega))).symm) ?_
                          refine lX10_sg hs hz hk ht hM hl htd hpr hk3 (fun I2 hF2 h2 hM2 => ?_)
                          rw [cif_f hk0, cif_f h41, cif_f hbad] at hrun
                          have hgt := nxT_gt ht hk0
                          have hsl := stl_len (rkN (sgB (hnd T t))) W C
                          exact ih _ _ _ _ _ _ _ true I2 hrun hM2 h2 (by rw [opn, if_neg hsg.1.2.1, stl_opn]; exact hop) hpr hm (by rw [List.length_cons]; omega) hnx.1 (hF.trans hF2)
                        · have hr3 : 3 < rkN (sgB (hnd T t)) := Nat.lt_of_not_le (fun q => c288 (nI_le (b := 3) q (by decide)))
                          refine w_aload_n dX10_takesE_291 rfl ?_
                          refine w_getR dX10_takesE_292 flX10_60 rfl (hs.r (a := 117) (j := 31) (b := 134) 132 rfl) ?_
                          refine w_iload_n dX10_takesE_295 rfl ?_
                          refine w_zald dX10_takesE_296 rfl (hs.n (a := 134) (z := 10) 88 rfl) (by omega) ?_
                          refine w_top (y := td pr) (by rw [htd]) ?_
                          refine w_if_eq (tgt := 304) dX10_takesE_297 (by decide) (fun c297 => ?_) (fun c297 => ?_)
                          · refine w_iconst dX10_takesE_304 ic_0 ?_
                            refine w_top (y := tdU td pr (sgB (hnd T t))) ((if_neg (fun q => q.elim (fun q => c279 (by rw [q]; rfl)) (fun q => q.2 c297))).symm) ?_
                            refine lX10_sg hs hz hk ht hM hl htd hpr hk3 (fun I2 hF2 h2 hM2 => ?_)
                            rw [cif_f hk0, cif_f h41, cif_f hbad] at hrun
                            have hgt := nxT_gt ht hk0
                            have hsl := stl_len (rkN (sgB (hnd T t))) W C
                            exact ih _ _ _ _ _ _ _ true I2 hrun hM2 h2 (by rw [opn, if_neg hsg.1.2.1, stl_opn]; exact hop) hpr hm (by rw [List.length_cons]; omega) hnx.1 (hF.trans hF2)
                          · refine w_iconst dX10_takesE_300 ic_1 ?_
                            refine w_goto (tgt := 305) dX10_takesE_301 (by decide) ?_
                            refine w_top (y := tdU td pr (sgB (hnd T t))) ((if_pos (Or.inr ⟨hr3, c297⟩)).symm) ?_
                            refine lX10_sg hs hz hk ht hM hl htd hpr hk3 (fun I2 hF2 h2 hM2 => ?_)
                            rw [cif_f hk0, cif_f h41, cif_f hbad] at hrun
                            have hgt := nxT_gt ht hk0
                            have hsl := stl_len (rkN (sgB (hnd T t))) W C
                            exact ih _ _ _ _ _ _ _ true I2 hrun hM2 h2 (by rw [opn, if_neg hsg.1.2.1, stl_opn]; exact hop) hpr hm (by rw [List.length_cons]; omega) hnx.1 (hF.trans hF2)
                    · refine w_aload_n dX10_takesE_257 rfl ?_
                      refine w_getR dX10_takesE_258 flX10_60 rfl (hs.r (a := 117) (j := 31) (b := 134) 132 rfl) ?_
                      refine w_iload_n dX10_takesE_261 rfl ?_
                      refine w_zald dX10_takesE_262 rfl (hs.n (a := 134) (z := 10) 88 rfl) (by omega) ?_
                      refine w_top (y := td pr) (by rw [htd]) ?_
                      refine w_if_eq (tgt := 268) dX10_takesE_263 (by decide) (fun c263 => ?_) (fun c263 => ?_)
                      · have hbad : ¬ (sgB (hnd T t) = 0 ∨ (rkN (sgB (hnd T t)) = 3 ∧ td pr ≠ 0)) := fun q => q.elim c245 (fun q => q.2 c263)
                        refine w_aload_n dX10_takesE_268 rfl ?_
                        refine w_getR dX10_takesE_269 flX10_60 rfl (hs.r (a := 117) (j := 31) (b := 134) 132 rfl) ?_
                        refine w_iload_n dX10_takesE_272 rfl ?_
                        refine w_iload dX10_takesE_273 rfl ?_
                        refine c_S (as := [_]) (d' := 0) dX10_takesE_275 (Or.inl mlX10_241) moX10_rank msX10_rank rfl rfl rfl rfl rfl (by decide) (sX10_rank ?_)
                        refine w_iconst dX10_takesE_278 ic_3 ?_
                        refine w_icmp_eq (tgt := 300) dX10_takesE_279 (by decide) (fun c279 => ?_) (fun c279 => ?_)
                        · refine w_iconst dX10_takesE_300 ic_1 ?_
                          refine w_goto (tgt := 305) dX10_takesE_301 (by decide) ?_
                          refine w_top (y := tdU td pr (sgB (hnd T t))) ((if_pos (Or.inl ((nI_eq (b := 3) (by have := rk_6 (sgB (hnd T t)); omega) (by decide)).mp c279))).symm) ?_
                          refine lX10_sg hs hz hk ht hM hl htd hpr hk3 (fun I2 hF2 h2 hM2 => ?_)
                          rw [cif_f hk0, cif_f h41, cif_f hbad] at hrun
                          have hgt := nxT_gt ht hk0
                          have hsl := stl_len (rkN (sgB (hnd T t))) W C
                          exact ih _ _ _ _ _ _ _ true I2 hrun hM2 h2 (by rw [opn, if_neg hsg.1.2.1, stl_opn]; exact hop) hpr hm (by rw [List.length_cons]; omega) hnx.1 (hF.trans hF2)
                        · refine w_iload dX10_takesE_282 rfl ?_
                          refine c_S (as := [_]) (d' := 0) dX10_takesE_284 (Or.inl mlX10_241) moX10_rank msX10_rank rfl rfl rfl rfl rfl (by decide) (sX10_rank ?_)
                          refine w_iconst dX10_takesE_287 ic_3 ?_
                          refine w_icmp_le (tgt := 304) dX10_takesE_288 (by decide) (fun c288 => ?_) (fun c288 => ?_)
                          · have hr3 := (nI_leI (b := 3) (by have := rk_6 (sgB (hnd T t)); omega) (by decide)).mp c288
                            refine w_iconst dX10_takesE_304 ic_0 ?_
                            refine w_top (y := tdU td pr (sgB (hnd T t))) ((if_neg (fun q => q.elim (fun q => c279 (by rw [q]; rfl)) (fun q => by omega))).symm) ?_
                            refine lX10_sg hs hz hk ht hM hl htd hpr hk3 (fun I2 hF2 h2 hM2 => ?_)
                            rw [cif_f hk0, cif_f h41, cif_f hbad] at hrun
                            have hgt := nxT_gt ht hk0
                            have hsl := stl_len (rkN (sgB (hnd T t))) W C
                            exact ih _ _ _ _ _ _ _ true I2 hrun hM2 h2 (by rw [opn, if_neg hsg.1.2.1, stl_opn]; exact hop) hpr hm (by rw [List.length_cons]; omega) hnx.1 (hF.trans hF2)
                          · have hr3 : 3 < rkN (sgB (hnd T t)) := Nat.lt_of_not_le (fun q => c288 (nI_le (b := 3) q (by decide)))
                            refine w_aload_n dX10_takesE_291 rfl ?_
                            refine w_getR dX10_takesE_292 flX10_60 rfl (hs.r (a := 117) (j := 31) (b := 134) 132 rfl) ?_
                            refine w_iload_n dX10_takesE_295 rfl ?_
                            refine w_zald dX10_takesE_296 rfl (hs.n (a := 134) (z := 10) 88 rfl) (by omega) ?_
                            refine w_top (y := td pr) (by rw [htd]) ?_
                            refine w_if_eq (tgt := 304) dX10_takesE_297 (by decide) (fun c297 => ?_) (fun c297 => ?_)
                            · refine w_iconst dX10_takesE_304 ic_0 ?_
                              refine w_top (y := tdU td pr (sgB (hnd T t))) ((if_neg (fun q => q.elim (fun q => c279 (by rw [q]; rfl)) (fun q => q.2 c297))).symm) ?_
                              refine lX10_sg hs hz hk ht hM hl htd hpr hk3 (fun I2 hF2 h2 hM2 => ?_)
                              rw [cif_f hk0, cif_f h41, cif_f hbad] at hrun
                              have hgt := nxT_gt ht hk0
                              have hsl := stl_len (rkN (sgB (hnd T t))) W C
                              exact ih _ _ _ _ _ _ _ true I2 hrun hM2 h2 (by rw [opn, if_neg hsg.1.2.1, stl_opn]; exact hop) hpr hm (by rw [List.length_cons]; omega) hnx.1 (hF.trans hF2)
                            · refine w_iconst dX10_takesE_300 ic_1 ?_
                              refine w_goto (tgt := 305) dX10_takesE_301 (by decide) ?_
                              refine w_top (y := tdU td pr (sgB (hnd T t))) ((if_pos (Or.inr ⟨hr3, c297⟩)).symm) ?_
                              refine lX10_sg hs hz hk ht hM hl htd hpr hk3 (fun I2 hF2 h2 hM2 => ?_)
                              rw [cif_f hk0, cif_f h41, cif_f hbad] at hrun
                              have hgt := nxT_gt ht hk0
                              have hsl := stl_len (rkN (sgB (hnd T t))) W C
                              exact ih _ _ _ _ _ _ _ true I2 hrun hM2 h2 (by rw [opn, if_neg hsg.1.2.1, stl_opn]; exact hop) hpr hm (by rw [List.length_cons]; omega) hnx.1 (hF.trans hF2)
                      · refine w_iconst dX10_takesE_266 ic_0 ?_
                        refine w_ireturn dX10_takesE_267 rfl rfl ?_
                        rw [cif_f hk0, cif_f h41, cif_t (Or.inr ⟨(nI_eq (b := 3) (by have := rk_6 (sgB (hnd T t)); omega) (by decide)).mp c254, c263⟩)] at hrun
                        have er := Option.some.inj hrun
                        exact hq0 (by rw [← er]) I1 hF (by rw [← er]; exact hM.1.2.2.1)
                · refine w_iload_n dX10_takesE_197 rfl ?_
                  refine w_if_le (tgt := 237) dX10_takesE_198 (by decide) (fun c198 => ?_) (fun c198 => ?_)
                  · have h41 : ¬ (hnd T t = 41 ∧ 0 < pr) := fun q => absurd c198 (nI_nle q.2 (by omega))
                    refine w_aload_n dX10_takesE_237 rfl ?_
                    refine c_V (t := 10) (as := []) (d' := 0) dX10_takesE_238 mlX10_263 moX10_signHere mvX10_signHere ⟨rfl, rfl⟩ rfl rfl rfl rfl rfl (by decide) (sX10_signHere hs ht hM.1 ?_)
                    refine w_istore (al' := [_, _, _, _, _]) dX10_takesE_241 rfl rfl rfl ?_
                    refine w_iload dX10_takesE_243 rfl ?_
                    refine w_if_eq (tgt := 266) dX10_takesE_245 (by decide) (fun c245 => ?_) (fun c245 => ?_)
                    · refine w_iconst dX10_takesE_266 ic_0 ?_
                      refine w_ireturn dX10_takesE_267 rfl rfl ?_
                      rw [cif_f hk0, cif_f h41, cif_t (Or.inl c245)] at hrun
                      have er := Option.some.inj hrun
                      exact hq0 (by rw [← er]) I1 hF (by rw [← er]; exact hM.1.2.2.1)
                    · have hlv : lvB (hnd T t) ≤ 4 := (lv_99 _).resolve_right (fun q => c245 (sg_out q))
                      have hsg := sg_in hlv
                      refine w_iload dX10_takesE_248 rfl ?_
                      refine c_S (as := [_]) (d' := 0) dX10_takesE_250 (Or.inl mlX10_241) moX10_rank msX10_rank rfl rfl rfl rfl rfl (by decide) (sX10_rank ?_)
                      refine w_iconst dX10_takesE_253 ic_3 ?_
                      refine w_icmp_ne (tgt := 268) dX10_takesE_254 (by decide) (fun c254 => ?_) (fun c254 => ?_)
                      · have hbad : ¬ (sgB (hnd T t) = 0 ∨ (rkN (sgB (hnd T t)) = 3 ∧ td pr ≠ 0)) := fun q => q.elim c245 (fun q => c254 (by rw [q.1]; rfl))
                        refine w_aload_n dX10_takesE_268 rfl ?_
                        refine w_getR dX10_takesE_269 flX10_60 rfl (hs.r (a := 117) (j := 31) (b := 134) 132 rfl) ?_
                        refine w_iload_n dX10_takesE_272 rfl ?_
                        refine w_iload dX10_takesE_273 rfl ?_
                        refine c_S (as := [_]) (d' := 0) dX10_takesE_275 (Or.inl mlX10_241) moX10_rank msX10_rank rfl rfl rfl rfl rfl (by decide) (sX10_rank ?_)
                        refine w_iconst dX10_takesE_278 ic_3 ?_
                        refine w_icmp_eq (tgt := 300) dX10_takesE_279 (by decide) (fun c279 => ?_) (fun c279 => ?_)
                        · refine w_iconst dX10_takesE_300 ic_1 ?_
                          refine w_goto (tgt := 305) dX10_takesE_301 (by decide) ?_
                          refine w_top (y := tdU td pr (sgB (hnd T t))) ((if_pos (Or.inl ((nI_eq (b := 3) (by have := rk_6 (sgB (hnd T t)); omega) (by decide)).mp c279))).symm) ?_
                          refine lX10_sg hs hz hk ht hM hl htd hpr hk3 (fun I2 hF2 h2 hM2 => ?_)
                          rw [cif_f hk0, cif_f h41, cif_f hbad] at hrun
                          have hgt := nxT_gt ht hk0
                          have hsl := stl_len (rkN (sgB (hnd T t))) W C
                          exact ih _ _ _ _ _ _ _ true I2 hrun hM2 h2 (by rw [opn, if_neg hsg.1.2.1, stl_opn]; exact hop) hpr hm (by rw [List.length_cons]; omega) hnx.1 (hF.trans hF2)
                        · refine w_iload dX10_takesE_282 rfl ?_
                          refine c_S (as := [_]) (d' := 0) dX10_takesE_284 (Or.inl mlX10_241) moX10_rank msX10_rank rfl rfl rfl rfl rfl (by decide) (sX10_rank ?_)
                          refine w_iconst dX10_takesE_287 ic_3 ?_
                          refine w_icmp_le (tgt := 304) dX10_takesE_288 (by decide) (fun c288 => ?_) (fun c288 => ?_)
                          · have hr3 := (nI_leI (b := 3) (by have := rk_6 (sgB (hnd T t)); omega) (by decide)).mp c288
                            refine w_iconst dX10_takesE_304 ic_0 ?_
                            refine w_top (y := tdU td pr (sgB (hnd T t))) ((if_neg (fun q => q.elim (fun q => c279 (by rw [q]; rfl)) (fun q => by omega))).symm) ?_
                            refine lX10_sg hs hz hk ht hM hl htd hpr hk3 (fun I2 hF2 h2 hM2 => ?_)
                            rw [cif_f hk0, cif_f h41, cif_f hbad] at hrun
                            have hgt := nxT_gt ht hk0
                            have hsl := stl_len (rkN (sgB (hnd T t))) W C
                            exact ih _ _ _ _ _ _ _ true I2 hrun hM2 h2 (by rw [opn, if_neg hsg.1.2.1, stl_opn]; exact hop) hpr hm (by rw [List.length_cons]; omega) hnx.1 (hF.trans hF2)
                          · have hr3 : 3 < rkN (sgB (hnd T t)) := Nat.lt_of_not_le (fun q => c288 (nI_le (b := 3) q (by decide)))
                            refine w_aload_n dX10_takesE_291 rfl ?_
                            refine w_getR dX10_takesE_292 flX10_60 rfl (hs.r (a := 117) (j := 31) (b := 134) 132 rfl) ?_
                            refine w_iload_n dX10_takesE_295 rfl ?_
                            refine w_zald dX10_takesE_296 rfl (hs.n (a := 134) (z := 10) 88 rfl) (by omega) ?_
                            refine w_top (y := td pr) (by rw [htd]) ?_
                            refine w_if_eq (tgt := 304) dX10_takesE_297 (by decide) (fun c297 => ?_) (fun c297 => ?_)
                            · refine w_iconst dX10_takesE_304 ic_0 ?_
                              refine w_top (y := tdU td pr (sgB (hnd T t))) ((if_neg (fun q => q.elim (fun q => c279 (by rw [q]; rfl)) (fun q => q.2 c297))).symm) ?_
                              refine lX10_sg hs hz hk ht hM hl htd hpr hk3 (fun I2 hF2 h2 hM2 => ?_)
                              rw [cif_f hk0, cif_f h41, cif_f hbad] at hrun
                              have hgt := nxT_gt ht hk0
                              have hsl := stl_len (rkN (sgB (hnd T t))) W C
                              exact ih _ _ _ _ _ _ _ true I2 hrun hM2 h2 (by rw [opn, if_neg hsg.1.2.1, stl_opn]; exact hop) hpr hm (by rw [List.length_cons]; omega) hnx.1 (hF.trans hF2)
                            · refine w_iconst dX10_takesE_300 ic_1 ?_
                              refine w_goto (tgt := 305) dX10_takesE_301 (by decide) ?_
                              refine w_top (y := tdU td pr (sgB (hnd T t))) ((if_pos (Or.inr ⟨hr3, c297⟩)).symm) ?_
                              refine lX10_sg hs hz hk ht hM hl htd hpr hk3 (fun I2 hF2 h2 hM2 => ?_)
                              rw [cif_f hk0, cif_f h41, cif_f hbad] at hrun
                              have hgt := nxT_gt ht hk0
                              have hsl := stl_len (rkN (sgB (hnd T t))) W C
                              exact ih _ _ _ _ _ _ _ true I2 hrun hM2 h2 (by rw [opn, if_neg hsg.1.2.1, stl_opn]; exact hop) hpr hm (by rw [List.length_cons]; omega) hnx.1 (hF.trans hF2)
                      · refine w_aload_n dX10_takesE_257 rfl ?_
                        refine w_getR dX10_takesE_258 flX10_60 rfl (hs.r (a := 117) (j := 31) (b := 134) 132 rfl) ?_
                        refine w_iload_n dX10_takesE_261 rfl ?_
                        refine w_zald dX10_takesE_262 rfl (hs.n (a := 134) (z := 10) 88 rfl) (by omega) ?_
                        refine w_top (y := td pr) (by rw [htd]) ?_
                        refine w_if_eq (tgt := 268) dX10_takesE_263 (by decide) (fun c263 => ?_) (fun c263 => ?_)
                        · have hbad : ¬ (sgB (hnd T t) = 0 ∨ (rkN (sgB (hnd T t)) = 3 ∧ td pr ≠ 0)) := fun q => q.elim c245 (fun q => q.2 c263)
                          refine w_aload_n dX10_takesE_268 rfl ?_
                          refine w_getR dX10_takesE_269 flX10_60 rfl (hs.r (a := 117) (j := 31) (b := 134) 132 rfl) ?_
                          refine w_iload_n dX10_takesE_272 rfl ?_
                          refine w_iload dX10_takesE_273 rfl ?_
                          refine c_S (as := [_]) (d' := 0) dX10_takesE_275 (Or.inl mlX10_241) moX10_rank msX10_rank rfl rfl rfl rfl rfl (by decide) (sX10_rank ?_)
                          refine w_iconst dX10_takesE_278 ic_3 ?_
                          refine w_icmp_eq (tgt := 300) dX10_takesE_279 (by decide) (fun c279 => ?_) (fun c279 => ?_)
                          · refine w_iconst dX10_takesE_300 ic_1 ?_
                            refine w_goto (tgt := 305) dX10_takesE_301 (by decide) ?_
                            refine w_top (y := tdU td pr (sgB (hnd T t))) ((if_pos (Or.inl ((nI_eq (b := 3) (by have := rk_6 (sgB (hnd T t)); omega) (by decide)).mp c279))).symm) ?_
                            refine lX10_sg hs hz hk ht hM hl htd hpr hk3 (fun I2 hF2 h2 hM2 => ?_)
                            rw [cif_f hk0, cif_f h41, cif_f hbad] at hrun
                            have hgt := nxT_gt ht hk0
                            have hsl := stl_len (rkN (sgB (hnd T t))) W C
                            exact ih _ _ _ _ _ _ _ true I2 hrun hM2 h2 (by rw [opn, if_neg hsg.1.2.1, stl_opn]; exact hop) hpr hm (by rw [List.length_cons]; omega) hnx.1 (hF.trans hF2)
                          · refine w_iload dX10_takesE_282 rfl ?_
                            refine c_S (as := [_]) (d' := 0) dX10_takesE_284 (Or.inl mlX10_241) moX10_rank msX10_rank rfl rfl rfl rfl rfl (by decide) (sX10_rank ?_)
                            refine w_iconst dX10_takesE_287 ic_3 ?_
                            refine w_icmp_le (tgt := 304) dX10_takesE_288 (by decide) (fun c288 => ?_) (fun c288 => ?_)
                            · have hr3 := (nI_leI (b := 3) (by have := rk_6 (sgB (hnd T t)); omega) (by decide)).mp c288
                              refine w_iconst dX10_takesE_304 ic_0 ?_
                              refine w_top (y := tdU td pr (sgB (hnd T t))) ((if_neg (fun q => q.elim (fun q => c279 (by rw [q]; rfl)) (fun q => by omega))).symm) ?_
                              refine lX10_sg hs hz hk ht hM hl htd hpr hk3 (fun I2 hF2 h2 hM2 => ?_)
                              rw [cif_f hk0, cif_f h41, cif_f hbad] at hrun
                              have hgt := nxT_gt ht hk0
                              have hsl := stl_len (rkN (sgB (hnd T t))) W C
                              exact ih _ _ _ _ _ _ _ true I2 hrun hM2 h2 (by rw [opn, if_neg hsg.1.2.1, stl_opn]; exact hop) hpr hm (by rw [List.length_cons]; omega) hnx.1 (hF.trans hF2)
                            · have hr3 : 3 < rkN (sgB (hnd T t)) := Nat.lt_of_not_le (fun q => c288 (nI_le (b := 3) q (by decide)))
                              refine w_aload_n dX10_takesE_291 rfl ?_
                              refine w_getR dX10_takesE_292 flX10_60 rfl (hs.r (a := 117) (j := 31) (b := 134) 132 rfl) ?_
                              refine w_iload_n dX10_takesE_295 rfl ?_
                              refine w_zald dX10_takesE_296 rfl (hs.n (a := 134) (z := 10) 88 rfl) (by omega) ?_
                              refine w_top (y := td pr) (by rw [htd]) ?_
                              refine w_if_eq (tgt := 304) dX10_takesE_297 (by decide) (fun c297 => ?_) (fun c297 => ?_)
                              · refine w_iconst dX10_takesE_304 ic_0 ?_
                                refine w_top (y := tdU td pr (sgB (hnd T t))) ((if_neg (fun q => q.elim (fun q => c279 (by rw [q]; rfl)) (fun q => q.2 c297))).symm) ?_
                                refine lX10_sg hs hz hk ht hM hl htd hpr hk3 (fun I2 hF2 h2 hM2 => ?_)
                                rw [cif_f hk0, cif_f h41, cif_f hbad] at hrun
                                have hgt := nxT_gt ht hk0
                                have hsl := stl_len (rkN (sgB (hnd T t))) W C
                                exact ih _ _ _ _ _ _ _ true I2 hrun hM2 h2 (by rw [opn, if_neg hsg.1.2.1, stl_opn]; exact hop) hpr hm (by rw [List.length_cons]; omega) hnx.1 (hF.trans hF2)
                              · refine w_iconst dX10_takesE_300 ic_1 ?_
                                refine w_goto (tgt := 305) dX10_takesE_301 (by decide) ?_
                                refine w_top (y := tdU td pr (sgB (hnd T t))) ((if_pos (Or.inr ⟨hr3, c297⟩)).symm) ?_
                                refine lX10_sg hs hz hk ht hM hl htd hpr hk3 (fun I2 hF2 h2 hM2 => ?_)
                                rw [cif_f hk0, cif_f h41, cif_f hbad] at hrun
                                have hgt := nxT_gt ht hk0
                                have hsl := stl_len (rkN (sgB (hnd T t))) W C
                                exact ih _ _ _ _ _ _ _ true I2 hrun hM2 h2 (by rw [opn, if_neg hsg.1.2.1, stl_opn]; exact hop) hpr hm (by rw [List.length_cons]; omega) hnx.1 (hF.trans hF2)
                        · refine w_iconst dX10_takesE_266 ic_0 ?_
                          refine w_ireturn dX10_takesE_267 rfl rfl ?_
                          rw [cif_f hk0, cif_f h41, cif_t (Or.inr ⟨(nI_eq (b := 3) (by have := rk_6 (sgB (hnd T t)); omega) (by decide)).mp c254, c263⟩)] at hrun
                          have er := Option.some.inj hrun
                          exact hq0 (by rw [← er]) I1 hF (by rw [← er]; exact hM.1.2.2.1)
                  · have hp0 : 0 < pr := by rcases Nat.eq_zero_or_pos pr with q | q; exact absurd (show nI pr ≤ 0 by rw [q]; decide) c198; exact q
                    refine w_aload_n dX10_takesE_201 rfl ?_
                    refine w_iconst dX10_takesE_202 ic_0 ?_
                    refine w_top (y := nI 0) (rfl) ?_
                    refine c_Vv (t := 10) (as := [_]) (d' := 1) dX10_takesE_203 mlX10_253 moX10_settle mvX10_settle ⟨rfl, rfl⟩ rfl rfl rfl rfl rfl (by decide) (sX10_settleR (r := 0) hs (by decide) (by omega) hM (fun I2 hF2 h2 hM2 => ?_))
                    obtain ⟨Wt, hWt⟩ := stl_0 W C (by omega)
                    have hsl := stl_len 0 W C
                    have hso := stl_opn 0 W C
                    rw [hWt] at hM2 hsl hso
                    rw [List.length_cons] at hsl
                    have hso2 : opn Wt + 1 = opn W := hso
                    refine w_aload_n dX10_takesE_206 rfl ?_
                    refine w_dup dX10_takesE_207 rfl ?_
                    refine w_getI dX10_takesE_208 flX10_238 rfl ?_
                    refine w_top (y := nI (Wt.length + 1)) (hM2.2.2.2.2.2.2) ?_
                    refine w_iconst dX10_takesE_211 ic_1 ?_
                    refine w_isub dX10_takesE_212 ?_
                    refine w_top (y := nI Wt.length) (nI_pred _) ?_
                    refine w_putI dX10_takesE_213 flX10_238 rfl rfl rfl rfl ?_
                    refine w_st (fun I3 hA3 hB3 hC3 => ?_)
                    obtain ⟨hM3, hF3, h3⟩ := hM2.pop hA3 hB3 hC3
                    refine w_iinc (al' := [_, _, _, _, _]) dX10_takesE_216 rfl rfl ic_m1 rfl ?_
                    refine w_aload_n dX10_takesE_219 rfl ?_
                    refine w_bipush dX10_takesE_220 bp_6 ?_
                    refine w_top (y := nI 6) (rfl) ?_
                    refine c_Vv (t := 10) (as := [_]) (d' := 1) dX10_takesE_222 mlX10_253 moX10_settle mvX10_settle ⟨rfl, rfl⟩ rfl rfl rfl rfl rfl (by decide) (sX10_settleR (r := 6) hs (by decide) (by omega) hM3 (fun I4 hF4 h4 hM4 => ?_))
                    have hsl2 := stl_len 6 Wt (stl 0 W C).2
                    refine w_aload_n dX10_takesE_225 rfl ?_
                    refine c_V (t := 10) (as := []) (d' := 0) dX10_takesE_226 mlX10_260 moX10_notsOpen mvX10_notsOpen ⟨rfl, rfl⟩ rfl rfl rfl rfl rfl (by decide) (sX10_notsOpen hs hM4.2.2.2.2.2.1 hM4.2.2.2.2.2.2 (by omega) ?_)
                    refine w_istore_n (al' := [_, _, _, _, _]) dX10_takesE_229 rfl rfl rfl ?_
                    refine w_aload_n dX10_takesE_230 rfl ?_
                    refine c_Vv (t := 10) (as := []) (d' := 1) dX10_takesE_231 mlX10_235 moX10_go mvX10_go ⟨rfl, rfl⟩ rfl rfl rfl rfl rfl (by decide) (sX10_next hs hz ht (Or.inr (Or.inr hk3)) hM4.1 (fun I5 hG5 hM5 => ?_))
                    refine w_goto (tgt := 28) dX10_takesE_234 (by decide) ?_
                    rw [cif_f hk0, cif_t ⟨c194, hp0⟩, hWt, List.tail_cons] at hrun
                    have hgt := nxT_gt ht hk0
                    rw [sb_m1 hp0]
                    exact ih _ _ _ _ _ _ _ false I5 hrun (hM4.go hG5 hM5) ((hG5.1 134 (by decide)).trans (h4.trans (h3.trans (h2.trans htd)))) (by rw [stl_opn]; omega) (by omega) (Nat.le_trans (nots_le _) (by omega)) (by omega) hnx.1 ((((hF.trans hF2).trans hF3).trans hF4).trans hG5.r)
            · exact absurd rfl c40
      · have hto := ht.1
        have hto2 := ht.2.1
        have hnx := nxT_ok ht
        rw [rrun] at hrun
        refine w_iload_n dX10_takesE_28 rfl ?_
        refine w_top (y := 1) (rfl) ?_
        refine w_if_ne (tgt := 39) dX10_takesE_29 (by decide) (fun c29 => ?_) (fun c29 => ?_)
        · refine w_iload_n dX10_takesE_39 rfl ?_
          refine w_top (y := 1) (rfl) ?_
          refine w_if_eq (tgt := 180) dX10_takesE_40 (by decide) (fun c40 => ?_) (fun c40 => ?_)
          · exact absurd c40 (by decide)
          · refine w_aload_n dX10_takesE_43 rfl ?_
            refine w_getI dX10_takesE_44 flX10_220 rfl ?_
            refine w_top (y := nI t.2.2) (hM.1.2.2.2.1) ?_
            refine w_iconst dX10_takesE_47 ic_3 ?_
            refine w_icmp_ne (tgt := 97) dX10_takesE_48 (by decide) (fun c48 => ?_) (fun c48 => ?_)
            · have hk3 : t.2.2 ≠ 3 := fun q => c48 (by rw [q]; rfl)
              have h33 : ¬ (hnd T t = 33 ∧ m < 8) := fun q => hk3 (hnd_b ht (by decide) q.1)
              refine w_aload_n dX10_takesE_97 rfl ?_
              refine w_getI dX10_takesE_98 flX10_220 rfl ?_
              refine w_top (y := nI t.2.2) (hM.1.2.2.2.1) ?_
              refine w_iconst dX10_takesE_101 ic_3 ?_
              refine w_icmp_ne (tgt := 158) dX10_takesE_102 (by decide) (fun c102 => ?_) (fun c102 => ?_)
              · have h40 : ¬ (hnd T t = 40 ∧ pr < 8) := fun q => hk3 (hnd_b ht (by decide) q.1)
                refine w_aload_n dX10_takesE_158 rfl ?_
                refine c_V (t := 10) (as := []) (d' := 2) dX10_takesE_159 mlX10_256 moX10_takesPart mvX10_takesPart ⟨rfl, rfl⟩ rfl rfl rfl rfl rfl (by decide) (sX10_takesPart hs hz hk ht hM hl (fun hpt => ?_) (fun hpt I2 hF2 h2 hM2 => ?_))
                · refine w_if_eq (tgt := 170) dX10_takesE_162 (by decide) (fun c162 => ?_) (fun c162 => ?_)
                  · refine w_iconst dX10_takesE_170 ic_0 ?_
                    refine w_ireturn dX10_takesE_171 rfl rfl ?_
                    rw [cif_f h33, cif_f h40, cif_f hpt] at hrun
                    have er := Option.some.inj hrun
                    exact hq0 (by rw [← er]) I1 hF (by rw [← er]; exact hM.1.2.2.1)
                  · exact absurd rfl c162
                · refine w_if_eq (tgt := 170) dX10_takesE_162 (by decide) (fun c162 => ?_) (fun c162 => ?_)
                  · exact absurd c162 (by decide)
                  · refine w_iconst dX10_takesE_165 ic_0 ?_
                    refine w_istore_n (al' := [_, _, _, _, _]) dX10_takesE_166 rfl rfl rfl ?_
                    refine w_goto (tgt := 172) dX10_takesE_167 (by decide) ?_
                    refine w_aload_n dX10_takesE_172 rfl ?_
                    refine c_V (t := 10) (as := []) (d' := 0) dX10_takesE_173 mlX10_260 moX10_notsOpen mvX10_notsOpen ⟨rfl, rfl⟩ rfl rfl rfl rfl rfl (by decide) (sX10_notsOpen hs hM2.2.2.2.2.2.1 hM2.2.2.2.2.2.2 (by have := stl_len 6 W (ptV T key t :: C); rw [List.length_cons] at this; omega) ?_)
                    have hgt := nxT_gt ht (by rcases hpt with q | q <;> omega)
                    have hsl := stl_len 6 W (ptV T key t :: C)
                    rw [List.length_cons] at hsl
                    refine w_istore_n (al' := [_, _, _, _, _]) dX10_takesE_176 rfl rfl rfl ?_
                    refine w_goto (tgt := 28) dX10_takesE_177 (by decide) ?_
                    rw [cif_f h33, cif_f h40, cif_t hpt] at hrun
                    exact ih _ _ _ _ _ _ _ false I2 hrun hM2 (h2.trans htd) ((stl_opn 6 W _).trans hop) hpr (Nat.le_trans (nots_le _) (by omega)) (by omega) hnx.1 (hF.trans hF2)
              · exact absurd c102 c48
            · have hk3 : t.2.2 = 3 := (nI_eq (b := 3) (by have := ht.2.2.2.2.2.2; omega) (by decide)).mp c48
              have hgt := nxT_gt ht (by omega)
              refine w_aload_n dX10_takesE_51 rfl ?_
              refine w_getI dX10_takesE_52 flX10_226 rfl ?_
              refine w_top (y := hnd T t) ((hM.1.2.2.2.2.1 (Or.inr hk3)).trans (hnd_3 hk3).symm) ?_
              refine w_bipush dX10_takesE_55 bp_33 ?_
              refine w_icmp_ne (tgt := 97) dX10_takesE_57 (by decide) (fun c57 => ?_) (fun c57 => ?_)
              · have h33 : ¬ (hnd T t = 33 ∧ m < 8) := fun q => c57 q.1
                refine w_aload_n dX10_takesE_97 rfl ?_
                refine w_getI dX10_takesE_98 flX10_220 rfl ?_
                refine w_top (y := nI t.2.2) (hM.1.2.2.2.1) ?_
                refine w_iconst dX10_takesE_101 ic_3 ?_
                refine w_icmp_ne (tgt := 158) dX10_takesE_102 (by decide) (fun c102 => ?_) (fun c102 => ?_)
                · exact absurd (show nI t.2.2 = 3 by rw [hk3]; rfl) c102
                · refine w_aload_n dX10_takesE_105 rfl ?_
                  refine w_getI dX10_takesE_106 flX10_226 rfl ?_
                  refine w_top (y := hnd T t) ((hM.1.2.2.2.2.1 (Or.inr hk3)).trans (hnd_3 hk3).symm) ?_
                  refine w_bipush dX10_takesE_109 bp_40 ?_
                  refine w_icmp_ne (tgt := 158) dX10_takesE_111 (by decide) (fun c111 => ?_) (fun c111 => ?_)
                  · have h40 : ¬ (hnd T t = 40 ∧ pr < 8) := fun q => c111 q.1
                    refine w_aload_n dX10_takesE_158 rfl ?_
                    refine c_V (t := 10) (as := []) (d' := 2) dX10_takesE_159 mlX10_256 moX10_takesPart mvX10_takesPart ⟨rfl, rfl⟩ rfl rfl rfl rfl rfl (by decide) (sX10_takesPart hs hz hk ht hM hl (fun hpt => ?_) (fun hpt I2 hF2 h2 hM2 => ?_))
                    · refine w_if_eq (tgt := 170) dX10_takesE_162 (by decide) (fun c162 => ?_) (fun c162 => ?_)
                      · refine w_iconst dX10_takesE_170 ic_0 ?_
                        refine w_ireturn dX10_takesE_171 rfl rfl ?_
                        rw [cif_f h33, cif_f h40, cif_f hpt] at hrun
                        have er := Option.some.inj hrun
                        exact hq0 (by rw [← er]) I1 hF (by rw [← er]; exact hM.1.2.2.1)
                      · exact absurd rfl c162
                    · refine w_if_eq (tgt := 170) dX10_takesE_162 (by decide) (fun c162 => ?_) (fun c162 => ?_)
                      · exact absurd c162 (by decide)
                      · refine w_iconst dX10_takesE_165 ic_0 ?_
                        refine w_istore_n (al' := [_, _, _, _, _]) dX10_takesE_166 rfl rfl rfl ?_
                        refine w_goto (tgt := 172) dX10_takesE_167 (by decide) ?_
                        refine w_aload_n dX10_takesE_172 rfl ?_
                        refine c_V (t := 10) (as := []) (d' := 0) dX10_takesE_173 mlX10_260 moX10_notsOpen mvX10_notsOpen ⟨rfl, rfl⟩ rfl rfl rfl rfl rfl (by decide) (sX10_notsOpen hs hM2.2.2.2.2.2.1 hM2.2.2.2.2.2.2 (by have := stl_len 6 W (ptV T key t :: C); rw [List.length_cons] at this; omega) ?_)
                        have hgt := nxT_gt ht (by rcases hpt with q | q <;> omega)
                        have hsl := stl_len 6 W (ptV T key t :: C)
                        rw [List.length_cons] at hsl
                        refine w_istore_n (al' := [_, _, _, _, _]) dX10_takesE_176 rfl rfl rfl ?_
                        refine w_goto (tgt := 28) dX10_takesE_177 (by decide) ?_
                        rw [cif_f h33, cif_f h40, cif_t hpt] at hrun
                        exact ih _ _ _ _ _ _ _ false I2 hrun hM2 (h2.trans htd) ((stl_opn 6 W _).trans hop) hpr (Nat.le_trans (nots_le _) (by omega)) (by omega) hnx.1 (hF.trans hF2)
                  · refine w_iload_n dX10_takesE_114 rfl ?_
                    refine w_bipush dX10_takesE_115 bp_8 ?_
                    refine w_icmp_ge (tgt := 158) dX10_takesE_117 (by decide) (fun c117 => ?_) (fun c117 => ?_)
                    · have h40 : ¬ (hnd T t = 40 ∧ pr < 8) := fun q => absurd ((nI_leI (a := 8) (by decide) (by omega)).mp c117) (by omega)
                      refine w_aload_n dX10_takesE_158 rfl ?_
                      refine c_V (t := 10) (as := []) (d' := 2) dX10_takesE_159 mlX10_256 moX10_takesPart mvX10_takesPart ⟨rfl, rfl⟩ rfl rfl rfl rfl rfl (by decide) (sX10_takesPart hs hz hk ht hM hl (fun hpt => ?_) (fun hpt I2 hF2 h2 hM2 => ?_))
                      · refine w_if_eq (tgt := 170) dX10_takesE_162 (by decide) (fun c162 => ?_) (fun c162 => ?_)
                        · refine w_iconst dX10_takesE_170 ic_0 ?_
                          refine w_ireturn dX10_takesE_171 rfl rfl ?_
                          rw [cif_f h33, cif_f h40, cif_f hpt] at hrun
                          have er := Option.some.inj hrun
                          exact hq0 (by rw [← er]) I1 hF (by rw [← er]; exact hM.1.2.2.1)
                        · exact absurd rfl c162
                      · refine w_if_eq (tgt := 170) dX10_takesE_162 (by decide) (fun c162 => ?_) (fun c162 => ?_)
                        · exact absurd c162 (by decide)
                        · refine w_iconst dX10_takesE_165 ic_0 ?_
                          refine w_istore_n (al' := [_, _, _, _, _]) dX10_takesE_166 rfl rfl rfl ?_
                          refine w_goto (tgt := 172) dX10_takesE_167 (by decide) ?_
                          refine w_aload_n dX10_takesE_172 rfl ?_
                          refine c_V (t := 10) (as := []) (d' := 0) dX10_takesE_173 mlX10_260 moX10_notsOpen mvX10_notsOpen ⟨rfl, rfl⟩ rfl rfl rfl rfl rfl (by decide) (sX10_notsOpen hs hM2.2.2.2.2.2.1 hM2.2.2.2.2.2.2 (by have := stl_len 6 W (ptV T key t :: C); rw [List.length_cons] at this; omega) ?_)
                          have hgt := nxT_gt ht (by rcases hpt with q | q <;> omega)
                          have hsl := stl_len 6 W (ptV T key t :: C)
                          rw [List.length_cons] at hsl
                          refine w_istore_n (al' := [_, _, _, _, _]) dX10_takesE_176 rfl rfl rfl ?_
                          refine w_goto (tgt := 28) dX10_takesE_177 (by decide) ?_
                          rw [cif_f h33, cif_f h40, cif_t hpt] at hrun
                          exact ih _ _ _ _ _ _ _ false I2 hrun hM2 (h2.trans htd) ((stl_opn 6 W _).trans hop) hpr (Nat.le_trans (nots_le _) (by omega)) (by omega) hnx.1 (hF.trans hF2)
                    · have hlt2 : pr < 8 := Nat.lt_of_not_le (fun q => c117 (nI_le (a := 8) q (by omega)))
                      refine w_aload_n dX10_takesE_120 rfl ?_
                      refine w_getR dX10_takesE_121 flX10_57 rfl (hs.r (a := 117) (j := 29) (b := 133) 131 rfl) ?_
                      refine w_aload_n dX10_takesE_124 rfl ?_
                      refine w_getI dX10_takesE_125 flX10_238 rfl ?_
                      refine w_top (y := nI W.length) (hM.2.2.2.2.2.2) ?_
                      refine w_bipush dX10_takesE_128 bp_m11 ?_
                      refine w_iast dX10_takesE_130 rfl (hs.n (a := 133) (z := 96) 87 rfl) (by omega) ?_
                      refine w_heap (fun I2 e2 => ?_)
                      refine w_aload_n dX10_takesE_131 rfl ?_
                      refine w_dup dX10_takesE_132 rfl ?_
                      refine w_getI dX10_takesE_133 flX10_238 rfl ?_
                      refine w_top (y := nI W.length) (by rw [e2, va_up_ne _ _ (by decide)]; exact hM.2.2.2.2.2.2) ?_
                      refine w_iconst dX10_takesE_136 ic_1 ?_
                      refine w_iadd dX10_takesE_137 ?_
                      refine w_top (y := nI (W.length + 1)) (nI_1 _) ?_
                      refine w_putI dX10_takesE_138 flX10_238 rfl rfl rfl rfl ?_
                      refine w_st (fun I3 hA3 hB3 hC3 => ?_)
                      obtain ⟨hM3, hF3, h3⟩ := hM.push e2 hA3 hB3 hC3
                      refine w_iinc (al' := [_, _, _, _, _]) dX10_takesE_141 rfl rfl ic_1 rfl ?_
                      refine w_aload_n dX10_takesE_144 rfl ?_
                      refine w_getR dX10_takesE_145 flX10_60 rfl (hs.r (a := 117) (j := 31) (b := 134) 132 rfl) ?_
                      refine w_iload_n dX10_takesE_148 rfl ?_
                      refine w_top (y := nI (pr + 1)) (nI_1 _) ?_
                      refine w_iconst dX10_takesE_149 ic_0 ?_
                      refine w_zast (q := pr + 1) dX10_takesE_150 rfl (hs.n (a := 134) (z := 10) 88 rfl) (by omega) rfl ?_
                      refine w_heap (fun I9 e9 => ?_)
                      obtain ⟨hM9, hF9, h9⟩ := hM3.td e9
                      refine w_aload_n dX10_takesE_151 rfl ?_
                      refine c_Vv (t := 10) (as := []) (d' := 1) dX10_takesE_152 mlX10_235 moX10_go mvX10_go ⟨rfl, rfl⟩ rfl rfl rfl rfl rfl (by decide) (sX10_next hs hz ht (Or.inr (Or.inr hk3)) hM9.1 (fun I4 hG4 hM4 => ?_))
                      have hR4 := hM9.go hG4 hM4
                      refine w_goto (tgt := 172) dX10_takesE_155 (by decide) ?_
                      refine w_aload_n dX10_takesE_172 rfl ?_
                      refine c_V (t := 10) (as := []) (d' := 0) dX10_takesE_173 mlX10_260 moX10_notsOpen mvX10_notsOpen ⟨rfl, rfl⟩ rfl rfl rfl rfl rfl (by decide) (sX10_notsOpen hs hR4.2.2.2.2.2.1 hR4.2.2.2.2.2.2 (by rw [List.length_cons]; omega) ?_)
                      refine w_istore_n (al' := [_, _, _, _, _]) dX10_takesE_176 rfl rfl rfl ?_
                      refine w_goto (tgt := 28) dX10_takesE_177 (by decide) ?_
                      rw [cif_f h33, cif_t ⟨c111, hlt2⟩] at hrun
                      rw [nI_1]
                      exact ih _ _ _ _ _ _ _ true I4 hrun hR4 (by rw [hG4.1 134 (by decide), h9, h3, htd]) (by show opn W + 1 = _; rw [hop]) (by omega) (Nat.le_trans (nots_le _) (by rw [List.length_cons]; omega)) (by rw [List.length_cons]; omega) hnx.1 (((hF.trans hF3).trans hF9).trans hG4.r)
              · refine w_iload_n dX10_takesE_60 rfl ?_
                refine w_bipush dX10_takesE_61 bp_8 ?_
                refine w_icmp_ge (tgt := 97) dX10_takesE_63 (by decide) (fun c63 => ?_) (fun c63 => ?_)
                · have h33 : ¬ (hnd T t = 33 ∧ m < 8) := fun q => absurd ((nI_leI (a := 8) (by decide) (by omega)).mp c63) (by omega)
                  refine w_aload_n dX10_takesE_97 rfl ?_
                  refine w_getI dX10_takesE_98 flX10_220 rfl ?_
                  refine w_top (y := nI t.2.2) (hM.1.2.2.2.1) ?_
                  refine w_iconst dX10_takesE_101 ic_3 ?_
                  refine w_icmp_ne (tgt := 158) dX10_takesE_102 (by decide) (fun c102 => ?_) (fun c102 => ?_)
                  · exact absurd (show nI t.2.2 = 3 by rw [hk3]; rfl) c102
                  · refine w_aload_n dX10_takesE_105 rfl ?_
                    refine w_getI dX10_takesE_106 flX10_226 rfl ?_
                    refine w_top (y := hnd T t) ((hM.1.2.2.2.2.1 (Or.inr hk3)).trans (hnd_3 hk3).symm) ?_
                    refine w_bipush dX10_takesE_109 bp_40 ?_
                    refine w_icmp_ne (tgt := 158) dX10_takesE_111 (by decide) (fun c111 => ?_) (fun c111 => ?_)
                    · have h40 : ¬ (hnd T t = 40 ∧ pr < 8) := fun q => c111 q.1
                      refine w_aload_n dX10_takesE_158 rfl ?_
                      refine c_V (t := 10) (as := []) (d' := 2) dX10_takesE_159 mlX10_256 moX10_takesPart mvX10_takesPart ⟨rfl, rfl⟩ rfl rfl rfl rfl rfl (by decide) (sX10_takesPart hs hz hk ht hM hl (fun hpt => ?_) (fun hpt I2 hF2 h2 hM2 => ?_))
                      · refine w_if_eq (tgt := 170) dX10_takesE_162 (by decide) (fun c162 => ?_) (fun c162 => ?_)
                        · refine w_iconst dX10_takesE_170 ic_0 ?_
                          refine w_ireturn dX10_takesE_171 rfl rfl ?_
                          rw [cif_f h33, cif_f h40, cif_f hpt] at hrun
                          have er := Option.some.inj hrun
                          exact hq0 (by rw [← er]) I1 hF (by rw [← er]; exact hM.1.2.2.1)
                        · exact absurd rfl c162
                      · refine w_if_eq (tgt := 170) dX10_takesE_162 (by decide) (fun c162 => ?_) (fun c162 => ?_)
                        · exact absurd c162 (by decide)
                        · refine w_iconst dX10_takesE_165 ic_0 ?_
                          refine w_istore_n (al' := [_, _, _, _, _]) dX10_takesE_166 rfl rfl rfl ?_
                          refine w_goto (tgt := 172) dX10_takesE_167 (by decide) ?_
                          refine w_aload_n dX10_takesE_172 rfl ?_
                          refine c_V (t := 10) (as := []) (d' := 0) dX10_takesE_173 mlX10_260 moX10_notsOpen mvX10_notsOpen ⟨rfl, rfl⟩ rfl rfl rfl rfl rfl (by decide) (sX10_notsOpen hs hM2.2.2.2.2.2.1 hM2.2.2.2.2.2.2 (by have := stl_len 6 W (ptV T key t :: C); rw [List.length_cons] at this; omega) ?_)
                          have hgt := nxT_gt ht (by rcases hpt with q | q <;> omega)
                          have hsl := stl_len 6 W (ptV T key t :: C)
                          rw [List.length_cons] at hsl
                          refine w_istore_n (al' := [_, _, _, _, _]) dX10_takesE_176 rfl rfl rfl ?_
                          refine w_goto (tgt := 28) dX10_takesE_177 (by decide) ?_
                          rw [cif_f h33, cif_f h40, cif_t hpt] at hrun
                          exact ih _ _ _ _ _ _ _ false I2 hrun hM2 (h2.trans htd) ((stl_opn 6 W _).trans hop) hpr (Nat.le_trans (nots_le _) (by omega)) (by omega) hnx.1 (hF.trans hF2)
                    · refine w_iload_n dX10_takesE_114 rfl ?_
                      refine w_bipush dX10_takesE_115 bp_8 ?_
                      refine w_icmp_ge (tgt := 158) dX10_takesE_117 (by decide) (fun c117 => ?_) (fun c117 => ?_)
                      · have h40 : ¬ (hnd T t = 40 ∧ pr < 8) := fun q => absurd ((nI_leI (a := 8) (by decide) (by omega)).mp c117) (by omega)
                        refine w_aload_n dX10_takesE_158 rfl ?_
                        refine c_V (t := 10) (as := []) (d' := 2) dX10_takesE_159 mlX10_256 moX10_takesPart mvX10_takesPart ⟨rfl, rfl⟩ rfl rfl rfl rfl rfl (by decide) (sX10_takesPart hs hz hk ht hM hl (fun hpt => ?_) (fun hpt I2 hF2 h2 hM2 => ?_))
                        · refine w_if_eq (tgt := 170) dX10_takesE_162 (by decide) (fun c162 => ?_) (fun c162 => ?_)
                          · refine w_iconst dX10_takesE_170 ic_0 ?_
                            refine w_ireturn dX10_takesE_171 rfl rfl ?_
                            rw [cif_f h33, cif_f h40, cif_f hpt] at hrun
                            have er := Option.some.inj hrun
                            exact hq0 (by rw [← er]) I1 hF (by rw [← er]; exact hM.1.2.2.1)
                          · exact absurd rfl c162
                        · refine w_if_eq (tgt := 170) dX10_takesE_162 (by decide) (fun c162 => ?_) (fun c162 => ?_)
                          · exact absurd c162 (by decide)
                          · refine w_iconst dX10_takesE_165 ic_0 ?_
                            refine w_istore_n (al' := [_, _, _, _, _]) dX10_takesE_166 rfl rfl rfl ?_
                            refine w_goto (tgt := 172) dX10_takesE_167 (by decide) ?_
                            refine w_aload_n dX10_takesE_172 rfl ?_
                            refine c_V (t := 10) (as := []) (d' := 0) dX10_takesE_173 mlX10_260 moX10_notsOpen mvX10_notsOpen ⟨rfl, rfl⟩ rfl rfl rfl rfl rfl (by decide) (sX10_notsOpen hs hM2.2.2.2.2.2.1 hM2.2.2.2.2.2.2 (by have := stl_len 6 W (ptV T key t :: C); rw [List.length_cons] at this; omega) ?_)
                            have hgt := nxT_gt ht (by rcases hpt with q | q <;> omega)
                            have hsl := stl_len 6 W (ptV T key t :: C)
                            rw [List.length_cons] at hsl
                            refine w_istore_n (al' := [_, _, _, _, _]) dX10_takesE_176 rfl rfl rfl ?_
                            refine w_goto (tgt := 28) dX10_takesE_177 (by decide) ?_
                            rw [cif_f h33, cif_f h40, cif_t hpt] at hrun
                            exact ih _ _ _ _ _ _ _ false I2 hrun hM2 (h2.trans htd) ((stl_opn 6 W _).trans hop) hpr (Nat.le_trans (nots_le _) (by omega)) (by omega) hnx.1 (hF.trans hF2)
                      · have hlt2 : pr < 8 := Nat.lt_of_not_le (fun q => c117 (nI_le (a := 8) q (by omega)))
                        refine w_aload_n dX10_takesE_120 rfl ?_
                        refine w_getR dX10_takesE_121 flX10_57 rfl (hs.r (a := 117) (j := 29) (b := 133) 131 rfl) ?_
                        refine w_aload_n dX10_takesE_124 rfl ?_
                        refine w_getI dX10_takesE_125 flX10_238 rfl ?_
                        refine w_top (y := nI W.length) (hM.2.2.2.2.2.2) ?_
                        refine w_bipush dX10_takesE_128 bp_m11 ?_
                        refine w_iast dX10_takesE_130 rfl (hs.n (a := 133) (z := 96) 87 rfl) (by omega) ?_
                        refine w_heap (fun I2 e2 => ?_)
                        refine w_aload_n dX10_takesE_131 rfl ?_
                        refine w_dup dX10_takesE_132 rfl ?_
                        refine w_getI dX10_takesE_133 flX10_238 rfl ?_
                        refine w_top (y := nI W.length) (by rw [e2, va_up_ne _ _ (by decide)]; exact hM.2.2.2.2.2.2) ?_
                        refine w_iconst dX10_takesE_136 ic_1 ?_
                        refine w_iadd dX10_takesE_137 ?_
                        refine w_top (y := nI (W.length + 1)) (nI_1 _) ?_
                        refine w_putI dX10_takesE_138 flX10_238 rfl rfl rfl rfl ?_
                        refine w_st (fun I3 hA3 hB3 hC3 => ?_)
                        obtain ⟨hM3, hF3, h3⟩ := hM.push e2 hA3 hB3 hC3
                        refine w_iinc (al' := [_, _, _, _, _]) dX10_takesE_141 rfl rfl ic_1 rfl ?_
                        refine w_aload_n dX10_takesE_144 rfl ?_
                        refine w_getR dX10_takesE_145 flX10_60 rfl (hs.r (a := 117) (j := 31) (b := 134) 132 rfl) ?_
                        refine w_iload_n dX10_takesE_148 rfl ?_
                        refine w_top (y := nI (pr + 1)) (nI_1 _) ?_
                        refine w_iconst dX10_takesE_149 ic_0 ?_
                        refine w_zast (q := pr + 1) dX10_takesE_150 rfl (hs.n (a := 134) (z := 10) 88 rfl) (by omega) rfl ?_
                        refine w_heap (fun I9 e9 => ?_)
                        obtain ⟨hM9, hF9, h9⟩ := hM3.td e9
                        refine w_aload_n dX10_takesE_151 rfl ?_
                        refine c_Vv (t := 10) (as := []) (d' := 1) dX10_takesE_152 mlX10_235 moX10_go mvX10_go ⟨rfl, rfl⟩ rfl rfl rfl rfl rfl (by decide) (sX10_next hs hz ht (Or.inr (Or.inr hk3)) hM9.1 (fun I4 hG4 hM4 => ?_))
                        have hR4 := hM9.go hG4 hM4
                        refine w_goto (tgt := 172) dX10_takesE_155 (by decide) ?_
                        refine w_aload_n dX10_takesE_172 rfl ?_
                        refine c_V (t := 10) (as := []) (d' := 0) dX10_takesE_173 mlX10_260 moX10_notsOpen mvX10_notsOpen ⟨rfl, rfl⟩ rfl rfl rfl rfl rfl (by decide) (sX10_notsOpen hs hR4.2.2.2.2.2.1 hR4.2.2.2.2.2.2 (by rw [List.length_cons]; omega) ?_)
                        refine w_istore_n (al' := [_, _, _, _, _]) dX10_takesE_176 rfl rfl rfl ?_
                        refine w_goto (tgt := 28) dX10_takesE_177 (by decide) ?_
                        rw [cif_f h33, cif_t ⟨c111, hlt2⟩] at hrun
                        rw [nI_1]
                        exact ih _ _ _ _ _ _ _ true I4 hrun hR4 (by rw [hG4.1 134 (by decide), h9, h3, htd]) (by show opn W + 1 = _; rw [hop]) (by omega) (Nat.le_trans (nots_le _) (by rw [List.length_cons]; omega)) (by rw [List.length_cons]; omega) hnx.1 (((hF.trans hF3).trans hF9).trans hG4.r)
                · have hlt : m < 8 := Nat.lt_of_not_le (fun q => c63 (nI_le (a := 8) q (by omega)))
                  refine w_aload_n dX10_takesE_66 rfl ?_
                  refine w_getR dX10_takesE_67 flX10_57 rfl (hs.r (a := 117) (j := 29) (b := 133) 131 rfl) ?_
                  refine w_aload_n dX10_takesE_70 rfl ?_
                  refine w_getI dX10_takesE_71 flX10_238 rfl ?_
                  refine w_top (y := nI W.length) (hM.2.2.2.2.2.2) ?_
                  refine w_bipush dX10_takesE_74 bp_m10 ?_
                  refine w_iast dX10_takesE_76 rfl (hs.n (a := 133) (z := 96) 87 rfl) (by omega) ?_
                  refine w_heap (fun I2 e2 => ?_)
                  refine w_aload_n dX10_takesE_77 rfl ?_
                  refine w_dup dX10_takesE_78 rfl ?_
                  refine w_getI dX10_takesE_79 flX10_238 rfl ?_
                  refine w_top (y := nI W.length) (by rw [e2, va_up_ne _ _ (by decide)]; exact hM.2.2.2.2.2.2) ?_
                  refine w_iconst dX10_takesE_82 ic_1 ?_
                  refine w_iadd dX10_takesE_83 ?_
                  refine w_top (y := nI (W.length + 1)) (nI_1 _) ?_
                  refine w_putI dX10_takesE_84 flX10_238 rfl rfl rfl rfl ?_
                  refine w_st (fun I3 hA3 hB3 hC3 => ?_)
                  obtain ⟨hM3, hF3, h3⟩ := hM.push e2 hA3 hB3 hC3
                  refine w_iinc (al' := [_, _, _, _, _]) dX10_takesE_87 rfl rfl ic_1 rfl ?_
                  refine w_aload_n dX10_takesE_90 rfl ?_
                  refine c_Vv (t := 10) (as := []) (d' := 1) dX10_takesE_91 mlX10_235 moX10_go mvX10_go ⟨rfl, rfl⟩ rfl rfl rfl rfl rfl (by decide) (sX10_next hs hz ht (Or.inr (Or.inr hk3)) hM3.1 (fun I4 hG4 hM4 => ?_))
                  have hR4 := hM3.go hG4 hM4
                  refine w_goto (tgt := 172) dX10_takesE_94 (by decide) ?_
                  refine w_aload_n dX10_takesE_172 rfl ?_
                  refine c_V (t := 10) (as := []) (d' := 0) dX10_takesE_173 mlX10_260 moX10_notsOpen mvX10_notsOpen ⟨rfl, rfl⟩ rfl rfl rfl rfl rfl (by decide) (sX10_notsOpen hs hR4.2.2.2.2.2.1 hR4.2.2.2.2.2.2 (by rw [List.length_cons]; omega) ?_)
                  refine w_istore_n (al' := [_, _, _, _, _]) dX10_takesE_176 rfl rfl rfl ?_
                  refine w_goto (tgt := 28) dX10_takesE_177 (by decide) ?_
                  rw [cif_t ⟨c57, hlt⟩] at hrun
                  exact ih _ _ _ _ _ _ _ true I4 hrun hR4 ((hG4.1 134 (by decide)).trans (h3.trans htd)) hop hpr (Nat.le_trans (nots_le _) (by rw [List.length_cons]; omega)) (by rw [List.length_cons]; omega) hnx.1 ((hF.trans hF3).trans hG4.r)
        · exact absurd c29 (by decide)
  refine ca_in (al := [_, _, _, _, _]) rfl ?_
  refine w_iconst dX10_takesE_0 ic_0 ?_
  refine w_top (y := nI 0) (rfl) ?_
  refine w_istore_n (al' := [_, _, _, _, _]) dX10_takesE_1 rfl rfl rfl ?_
  refine w_iconst dX10_takesE_2 ic_0 ?_
  refine w_top (y := nI 0) (rfl) ?_
  refine w_istore_n (al' := [_, _, _, _, _]) dX10_takesE_3 rfl rfl rfl ?_
  refine w_iconst dX10_takesE_4 ic_1 ?_
  refine w_istore_n (al' := [_, _, _, _, _]) dX10_takesE_5 rfl rfl rfl ?_
  refine w_aload_n dX10_takesE_6 rfl ?_
  refine w_iconst dX10_takesE_7 ic_0 ?_
  refine w_putI dX10_takesE_8 flX10_244 rfl rfl rfl rfl ?_
  refine w_st (fun I2 hA2 hB2 hC2 => ?_)
  refine w_aload_n dX10_takesE_11 rfl ?_
  refine w_iconst dX10_takesE_12 ic_0 ?_
  refine w_putI dX10_takesE_13 flX10_250 rfl rfl rfl rfl ?_
  refine w_st (fun I3 hA3 hB3 hC3 => ?_)
  refine w_aload_n dX10_takesE_16 rfl ?_
  refine w_iconst dX10_takesE_17 ic_0 ?_
  refine w_putI dX10_takesE_18 flX10_238 rfl rfl rfl rfl ?_
  refine w_st (fun I4 hA4 hB4 hC4 => ?_)
  refine w_aload_n dX10_takesE_21 rfl ?_
  refine w_getR dX10_takesE_22 flX10_60 rfl (hs.r (a := 117) (j := 31) (b := 134) 132 rfl) ?_
  refine w_iconst dX10_takesE_25 ic_0 ?_
  refine w_iconst dX10_takesE_26 ic_0 ?_
  refine w_zast (q := 0) dX10_takesE_27 rfl (hs.n (a := 134) (z := 10) 88 rfl) (by decide) rfl ?_
  refine w_heap (fun I5 e5 => ?_)
  have h5 : ∀ q, q ≠ 134 → I5 q = I4 q := fun q hq => by rw [e5, va_up_ne _ _ hq]
  have hA : ∀ q, q ≠ 117 → q ≠ 134 → I5 q = I q := fun q a b => by rw [h5 q b, hA4 q a, hA3 q a, hA2 q a]
  have hB : ∀ j, j ≠ 27 → j ≠ 28 → j ≠ 30 → I5 117 j = I 117 j := fun j a b c => by rw [h5 117 (by decide), hB4 j c, hB3 j b, hB2 j a]
  exact lp nn t [] [] 0 0 td 0 true I5 hr ⟨hM0.keep (fun j a b => hB j (by omega) (by omega) (by omega)) (hA 129 (by decide) (by decide)), (hB 23 (by decide) (by decide) (by decide)).trans h23, SR_nil _, by rw [h5 117 (by decide), hB4 27 (by decide), hB3 27 (by decide)]; exact hC2, by rw [h5 117 (by decide), hB4 28 (by decide)]; exact hC3, SR_nil _, by rw [h5 117 (by decide)]; exact hC4⟩ (by rw [e5, va_up_self, hA4 134 (by decide), hA3 134 (by decide), hA2 134 (by decide)]; exact htd0) rfl (by decide) (by decide) (by show 0 + 0 + 3 ≤ _; omega) ht ⟨fun q a b c d => hA q a d, fun j hj => hB j (by omega) (by omega) (by omega)⟩

end
