section
variable {sc : SC} {I : HI} {L : HL} {R : HR} {N : HN} {n : Nat} {Q : HQ}
set_option maxRecDepth 20000 in
theorem sX1_findFault (hs : SK R N) {T : VV} {z : Nat} {td : VV} (hz : z ≤ 96) (hb : BY T z) (htd : td 0 = 0) (hT : ∀ i, i < z → I 79 i = T i) (h1 : I 78 1 = nI z) (hqF : ∀ I' f, FRP I I' → PRs T z td (f, none) → okR (f, none) → Q (vI (nI f)) I' L R N n) (hqS : ∀ I' f key c a, FRP I I' → I' 77 2 = nI c.length → I' 77 3 = nI a → I' 77 4 = nI key → SR (I' 80) (c.map cSym) → PRs T z td (f, some (key, c, a)) → okR (f, some (key, c, a)) → Q (vI (-1000000005)) I' L R N n) : CA sc 79 0 0 mX1_findFault [vR 1 77] I L R N n Q := by
  refine ca_in (al := [_]) rfl ?_
  refine w_aload_n dX1_findFault_0 rfl ?_
  refine w_iconst dX1_findFault_1 ic_0 ?_
  refine w_putI dX1_findFault_2 flX1_22 rfl rfl rfl rfl ?_
  refine w_st (fun I2 hA2 hB2 hC2 => ?_)
  refine w_aload_n dX1_findFault_5 rfl ?_
  refine w_iconst dX1_findFault_6 ic_0 ?_
  refine w_putI dX1_findFault_7 flX1_26 rfl rfl rfl rfl ?_
  refine w_st (fun I3 hA3 hB3 hC3 => ?_)
  refine w_aload_n dX1_findFault_10 rfl ?_
  refine w_ldc dX1_findFault_11 kcX1_32 ?_
  refine w_putI dX1_findFault_13 flX1_33 rfl rfl rfl rfl ?_
  refine w_st (fun I4 hA4 hB4 hC4 => ?_)
  refine w_aload_n dX1_findFault_16 rfl ?_
  refine w_getR dX1_findFault_17 flX1_12 rfl (hs.r (a := 77) (j := 0) (b := 78) 80 rfl) ?_
  refine c_Vv (t := 6) (as := []) (d' := 3) dX1_findFault_20 mlX1_36 moX6_rewind mvX6_rewind ⟨rfl, rfl⟩ rfl rfl rfl rfl rfl (by decide) (sX6_rewind hs hz hb (fun i hi => by rw [hA4 79 (by decide), hA3 79 (by decide), hA2 79 (by decide)]; exact hT i hi) (by rw [hA4 78 (by decide), hA3 78 (by decide), hA2 78 (by decide)]; exact h1) (fun I5 hA5 hT5 => ?_))
  have ht0 : TO T z (tkA T z 0 False) := (tkA_ok (Nat.zero_le z)).1
  have hto := ht0.1
  have hto2 := ht0.2.1
  refine w_aload_n dX1_findFault_23 rfl ?_
  refine w_aload_n dX1_findFault_24 rfl ?_
  refine c_V (t := 1) (as := []) (d' := 6) dX1_findFault_25 mlX1_39 moX1_keyInHand mvX1_keyInHand ⟨rfl, rfl⟩ rfl rfl rfl rfl rfl (by decide) (sX1_keyInHand hs hz hb ht0 hT5 ?_)
  refine w_putI dX1_findFault_28 flX1_29 rfl rfl rfl rfl ?_
  refine w_st (fun I6 hA6 hB6 hC6 => ?_)
  have hF6 : FRP I I6 := fun q a b c => (hA6 q a).trans ((hA5 q b).trans ((hA4 q a).trans ((hA3 q a).trans (hA2 q a))))
  have hT6 : TC I6 T z (tkA T z 0 False) := hT5.keep (hA6 78 (by decide)) (hA6 79 (by decide))
  have z2 : I6 77 2 = nI 0 := by rw [hB6 2 (by decide), hA5 77 (by decide), hB4 2 (by decide), hB3 2 (by decide)]; exact hC2
  have z3 : I6 77 3 = nI 0 := by rw [hB6 3 (by decide), hA5 77 (by decide), hB4 3 (by decide)]; exact hC3
  have z5 : I6 77 5 = -1000000005 := by rw [hB6 5 (by decide), hA5 77 (by decide)]; exact hC4
  refine w_aload_n dX1_findFault_31 rfl ?_
  refine w_getI dX1_findFault_32 flX1_29 rfl ?_
  refine w_top (y := kyI T (tkA T z 0 False)) (hC6) ?_
  refine w_ldc dX1_findFault_35 kcX1_32 ?_
  refine w_icmp_ne (tgt := 49) dX1_findFault_37 (by decide) (fun c37 => ?_) (fun c37 => ?_)
  · obtain ⟨key, hk, hky, hwd⟩ := (ky_in T (tkA T z 0 False)).resolve_left c37
    have h3 := wd_3 hk hwd
    have hnx := nxT_ok ht0
    rw [hky] at hC6
    refine w_aload_n dX1_findFault_49 rfl ?_
    refine w_getR dX1_findFault_50 flX1_12 rfl (hs.r (a := 77) (j := 0) (b := 78) 80 rfl) ?_
    refine c_Vv (t := 6) (as := []) (d' := 2) dX1_findFault_53 mlX1_46 moX6_advance mvX6_advance ⟨rfl, rfl⟩ rfl rfl rfl rfl rfl (by decide) (sX6_next hs hz hb ht0 hT6 (fun I7 hA7 hT7 => ?_))
    have hP7 : PCl I7 T z key (nxT T z (tkA T z 0 False)) [] 0 := ⟨hT7, by rw [hA7 77 (by decide)]; exact z2, by rw [hA7 77 (by decide)]; exact z3, by rw [hA7 77 (by decide)]; exact hC6, by rw [hA7 77 (by decide)]; exact z5, SR_nil _⟩
    refine w_aload_n dX1_findFault_56 rfl ?_
    refine w_iconst dX1_findFault_57 ic_0 ?_
    refine w_top (y := nI 0) (rfl) ?_
    refine w_iconst dX1_findFault_58 ic_0 ?_
    refine w_top (y := nI 0) (rfl) ?_
    refine w_iconst dX1_findFault_59 ic_0 ?_
    refine w_top (y := nI (nots [])) (rfl) ?_
    refine c_Vv (t := 1) (as := [_, _, _]) (d' := 70 + 8) dX1_findFault_60 mlX1_49 moX1_readLevel mvX1_readLevel ⟨rfl, rfl⟩ rfl rfl rfl rfl rfl (by decide) ((sX1_read hs hz hb hk 70).2 0 0 (nxT T z (tkA T z 0 False)) [] [] 0 td I7 _ (by decide) (by decide) (by decide) (by decide) trivial (Or.inl htd) (fun _ => htd) hnx.1 hP7 (by show 0 + 3 ≤ _; omega) (fun I8 t8 c8 a8 hF8 hP8 ht8 hl8 hg8 => ?_) (fun I8 f hF8 hD8 hf8 hr8 => ?_))
    · refine w_aload_n dX1_findFault_63 rfl ?_
      refine w_getR dX1_findFault_64 flX1_12 rfl (hs.r (a := 77) (j := 0) (b := 78) 80 rfl) ?_
      refine w_getI dX1_findFault_67 flX1_53 rfl ?_
      refine w_top (y := hnd T t8) (hP8.1.2.1) ?_
      refine w_iconst dX1_findFault_70 ic_m1 ?_
      refine w_icmp_eq (tgt := 78) dX1_findFault_71 (by decide) (fun c71 => ?_) (fun c71 => ?_)
      · refine w_aload_n dX1_findFault_78 rfl ?_
        refine w_getI dX1_findFault_79 flX1_33 rfl ?_
        refine w_top (y := -1000000005) (hP8.2.2.2.2.1) ?_
        refine w_ireturn dX1_findFault_82 rfl rfl ?_
        obtain ⟨g1, g2, g3, g4⟩ := hg8
        have hb8 := ht8.1
        have hb9 := ht8.2.1
        have g30 : c8.length + (nxT T z (tkA T z 0 False)).1 ≤ 0 + t8.1 := g3
        exact hqS I8 t8.1 key c8 a8 ((hF6.trans (FRP.of78 hA7)).trans hF8) hP8.2.1 hP8.2.2.1 hP8.2.2.2.1 hP8.2.2.2.2.2 (Or.inr ⟨key, hk, hky, (t8.1, some (c8, a8)), lv_done hb ht8 hl8 c71, rfl⟩) ⟨by show t8.1 ≤ 96; omega, fun k9 c9 a9 e9 => by cases e9; exact ⟨hk, by omega, g1 0 rfl, fun y hy => (g2 y hy).resolve_left List.not_mem_nil⟩⟩
      · have hb8 := ht8.1
        have hb9 := ht8.2.1
        have g30 : c8.length + (nxT T z (tkA T z 0 False)).1 ≤ 0 + t8.1 := hg8.2.2.1
        refine w_aload_n dX1_findFault_74 rfl ?_
        refine c_Vv (t := 1) (as := []) (d' := 1) dX1_findFault_75 mlX1_43 moX1_refuse mvX1_refuse ⟨rfl, rfl⟩ rfl rfl rfl rfl rfl (by decide) (sX1_refuse (f := t8.1) hs hP8.1.1 (by omega) (Or.inl ⟨hP8.2.2.2.2.1, hP8.1.2.2.1⟩) ⟨c8.length, by omega, hP8.2.1⟩ (fun I9 hA9 hD9 => ?_))
        refine w_aload_n dX1_findFault_78 rfl ?_
        refine w_getI dX1_findFault_79 flX1_33 rfl ?_
        refine w_top (y := nI t8.1) (hD9.2.2.1) ?_
        refine w_ireturn dX1_findFault_82 rfl rfl ?_
        exact hqF I9 t8.1 (((hF6.trans (FRP.of78 hA7)).trans hF8).trans (FRP.of7778 hA9)) (Or.inr ⟨key, hk, hky, (t8.1, none), lv_stuck hb ht8 hl8 (Or.inl rfl) (Or.inr c71), rfl⟩) ⟨by show t8.1 ≤ 96; omega, fun _ _ _ q => by simp at q⟩
    · refine w_aload_n dX1_findFault_63 rfl ?_
      refine w_getR dX1_findFault_64 flX1_12 rfl (hs.r (a := 77) (j := 0) (b := 78) 80 rfl) ?_
      refine w_getI dX1_findFault_67 flX1_53 rfl ?_
      refine w_top (y := -1) (hD8.2.1) ?_
      refine w_iconst dX1_findFault_70 ic_m1 ?_
      refine w_icmp_eq (tgt := 78) dX1_findFault_71 (by decide) (fun c71 => ?_) (fun c71 => ?_)
      · refine w_aload_n dX1_findFault_78 rfl ?_
        refine w_getI dX1_findFault_79 flX1_33 rfl ?_
        refine w_top (y := nI f) (hD8.2.2.1) ?_
        refine w_ireturn dX1_findFault_82 rfl rfl ?_
        exact hqF I8 f ((hF6.trans (FRP.of78 hA7)).trans hF8) (Or.inr ⟨key, hk, hky, (f, none), hr8, rfl⟩) ⟨hf8, fun _ _ _ q => by simp at q⟩
      · exact absurd rfl c71
  · refine w_aload_n dX1_findFault_40 rfl ?_
    refine c_Vv (t := 1) (as := []) (d' := 1) dX1_findFault_41 mlX1_43 moX1_refuse mvX1_refuse ⟨rfl, rfl⟩ rfl rfl rfl rfl rfl (by decide) (sX1_refuse (f := (tkA T z 0 False).1) hs hT6.1 (by omega) (Or.inl ⟨z5, hT6.2.2.1⟩) ⟨0, by omega, z2⟩ (fun I7 hA7 hD7 => ?_))
    refine w_aload_n dX1_findFault_44 rfl ?_
    refine w_getI dX1_findFault_45 flX1_33 rfl ?_
    refine w_top (y := nI (tkA T z 0 False).1) (hD7.2.2.1) ?_
    refine w_ireturn dX1_findFault_48 rfl rfl ?_
    exact hqF I7 _ (hF6.trans (FRP.of7778 hA7)) (Or.inl ⟨c37, rfl⟩) ⟨by show (tkA T z 0 False).1 ≤ 96; omega, fun _ _ _ q => by simp at q⟩

set_option maxRecDepth 20000 in
theorem sJ7_copyOf {p m : Nat} (hz : N p = 96) (hp : p < n) (hm : m < 96) (hq : ∀ I' : HI, (∀ q, q ≠ n → I' q = I q) → (∀ j, j < m → I' n j = I p j) → Q (vR 12 n) I' L (va_up R n (fun _ => none)) (va_up N n m) (n + 1)) : CA sc 1 (0 + 1) (0 + m) mJ7_copyOf_59c91 [vR 12 p, vI (nI m)] I L R N n Q := by
  refine ca_in (al := [_, _, _]) rfl ?_
  refine w_iload_n dJ7_copyOf_59c91_0 rfl ?_
  refine w_aload_n dJ7_copyOf_59c91_1 rfl ?_
  refine w_alen dJ7_copyOf_59c91_2 (by decide) (by decide) hz ?_
  refine w_icmp_ne (tgt := 14) dJ7_copyOf_59c91_3 (by decide) (fun c3 => ?_) (fun c3 => ?_)
  · refine w_iload_n dJ7_copyOf_59c91_14 rfl ?_
    refine w_newI dJ7_copyOf_59c91_15 ac_int rfl (by omega) ?_
    refine w_astore_n (al' := [_, _, _]) dJ7_copyOf_59c91_17 rfl rfl rfl ?_
    refine w_aload_n dJ7_copyOf_59c91_18 rfl ?_
    refine w_iconst dJ7_copyOf_59c91_19 ic_0 ?_
    refine w_aload_n dJ7_copyOf_59c91_20 rfl ?_
    refine w_iconst dJ7_copyOf_59c91_21 ic_0 ?_
    refine w_aload_n dJ7_copyOf_59c91_22 rfl ?_
    refine w_alen dJ7_copyOf_59c91_23 (by decide) (by decide) (show va_up N n m p = 96 by rw [va_up_ne _ _ (by omega)]; exact hz) ?_
    refine w_iload_n dJ7_copyOf_59c91_24 rfl ?_
    refine w_min dJ7_copyOf_59c91_25 mlJ7_304 st_min iiJ9 co_min (by decide) (Nat.le_of_ble_eq_true rfl) ?_
    refine w_top (y := nI m) (if_pos (nI_lt hm (by decide))) ?_
    refine w_acopy dJ7_copyOf_59c91_28 mlJ7_150 nat_acopy st_acopy iiJ10 (by decide) (Nat.le_of_ble_eq_true rfl) (u := 0) (v := 0) (w := m) rfl rfl rfl (by rw [va_up_ne _ _ (by omega), hz]; omega) (by rw [va_up_self]; omega) (by rw [va_up_ne _ _ (by omega), hz]; decide) (by rw [va_up_self]; omega) ?_
    refine w_aload_n dJ7_copyOf_59c91_31 rfl ?_
    refine w_areturn dJ7_copyOf_59c91_32 rfl rfl rfl ?_
    refine hq _ (fun q a1 => by rw [va_up_ne _ _ a1, va_up_ne _ _ a1]) (fun j hj => ?_)
    rw [va_up_self, va_up_ne _ _ (show p ≠ n by omega)]
    unfold va_cpy
    rw [if_pos (by omega)]
    congr 1
    omega
  · exact absurd ((nI_eq (by omega) (by decide)).mp c3) (by omega)

set_option maxRecDepth 20000 in
theorem sX7_init {a p : Nat} {k l : Int32} (hq : ∀ I' : HI, (∀ q, q ≠ a → I' q = I q) → I' a 0 = k → I' a 1 = l → Q vU I' L (va_up R a (va_up (R a) 2 (some p))) N n) : CA sc 1 0 0 mX7_init [vR 7 a, vI k, vI l, vR 12 p] I L R N n Q := by
  refine ca_in (al := [_, _, _, _]) rfl ?_
  refine w_aload_n dX7_init_0 rfl ?_
  refine w_objInit dX7_init_1 mlX7_1 im_obj co_obj (by decide) (Nat.le_of_ble_eq_true rfl) ?_
  refine w_aload_n dX7_init_4 rfl ?_
  refine w_iload_n dX7_init_5 rfl ?_
  refine w_putIF dX7_init_6 flX7_7 rfl rfl rfl rfl rfl rfl ?_
  refine w_st (fun I2 hA2 hB2 hC2 => ?_)
  refine w_aload_n dX7_init_9 rfl ?_
  refine w_iload_n dX7_init_10 rfl ?_
  refine w_putIF dX7_init_11 flX7_13 rfl rfl rfl rfl rfl rfl ?_
  refine w_st (fun I3 hA3 hB3 hC3 => ?_)
  refine w_aload_n dX7_init_14 rfl ?_
  refine w_aload_n dX7_init_15 rfl ?_
  refine w_putR dX7_init_16 flX7_16 rfl rfl rfl rfl ?_
  refine w_return dX7_init_19 rfl ?_
  exact hq I3 (fun q hq => (hA3 q hq).trans (hA2 q hq)) ((hB3 0 (by decide)).trans hC2) hC3

set_option maxRecDepth 20000 in
theorem sX1_made0 (hs : SK R N) {key a : Nat} {c : List Int32} (h2 : I 77 2 = nI c.length) (h3 : I 77 3 = nI a) (h4 : I 77 4 = nI key) (hc : c.length ≤ 93) (hn : 146 ≤ n) (hq : ∀ (I' : HI) (L' : HL) (R' : HR) (N' : HN), (∀ q, q < n → I' q = I q) → (∀ q, q < n → R' q = R q) → (∀ q, q < n → N' q = N q) → I' n 0 = nI key → I' n 1 = nI a → R' n 2 = some (n + 1) → N' (n + 1) = c.length → (∀ j, j < c.length → I' (n + 1) j = I 80 j) → Q (vR 7 n) I' L' R' N' (n + 2)) : CA sc 2 (0 + 0 + (0 + 1) + 1) (0 + 0 + (0 + c.length) + 3) mX1_made [vR 1 77] I L R N n Q := by
  refine ca_in (al := [_]) rfl ?_
  refine w_new (t := 7) dX1_made_0 (by decide) clX1_56 itX7 iiX7 ?_
  refine w_dup dX1_made_3 rfl ?_
  refine w_aload_n dX1_made_4 rfl ?_
  refine w_getI dX1_made_5 flX1_29 rfl ?_
  refine w_top (y := nI key) (by rw [va_up_ne _ _ (show 77 ≠ n by omega)]; exact h4) ?_
  refine w_aload_n dX1_made_8 rfl ?_
  refine w_getI dX1_made_9 flX1_26 rfl ?_
  refine w_top (y := nI a) (by rw [va_up_ne _ _ (show 77 ≠ n by omega)]; exact h3) ?_
  refine w_aload_n dX1_made_12 rfl ?_
  refine w_getR dX1_made_13 flX1_18 rfl (show va_up R n (fun _ => none) 77 1 = some 80 by rw [va_up_ne _ _ (show 77 ≠ n by omega)]; exact hs.r (a := 77) (j := 1) (b := 80) 81 rfl) ?_
  refine w_aload_n dX1_made_16 rfl ?_
  refine w_getI dX1_made_17 flX1_22 rfl ?_
  refine w_top (y := nI c.length) (by rw [va_up_ne _ _ (show 77 ≠ n by omega)]; exact h2) ?_
  refine c_Sm (mc := 0 + 0) (mc' := 0 + 1) (ms := 0 + 0) (ms' := 0 + c.length) (as := [_, _]) (d' := 1) dX1_made_20 (Or.inl mlX1_58) moJ7_copyOf_59c91 msJ7_copyOf_59c91 rfl rfl rfl rfl rfl (by decide) (sJ7_copyOf (hs.n (a := 80) (z := 96) 54 rfl) (by omega) (by omega) (fun I2 hA2 hB2 => ?_))
  refine c_I (t := 7) (as := [_, _, _]) (d' := 1) dX1_made_23 (Or.inl mlX1_64) moX7_init imX7_init rfl rfl rfl rfl rfl rfl (by decide) (sX7_init (fun I3 hA3 h30 h31 => ?_))
  refine w_areturn dX1_made_26 rfl rfl rfl ?_
  refine hq I3 _ _ _ (fun q hq => ?_) (fun q hq => ?_) (fun q hq => ?_) h30 h31 ?_ ?_ (fun j hj => ?_)
  · rw [hA3 q (by omega), hA2 q (by omega), va_up_ne _ _ (by omega)]
  · rw [va_up_ne _ _ (by omega), va_up_ne _ _ (by omega), va_up_ne _ _ (by omega)]
  · rw [va_up_ne _ _ (by omega)]
  · rw [va_up_self, va_up_self]
  · rw [va_up_self]
  · rw [hA3 (n + 1) (by omega), hB2 j hj, va_up_ne _ _ (show 80 ≠ n by omega)]

set_option maxRecDepth 20000 in
theorem sX8_addText (hs : SK R N) {V : VV} (hV : VO V) (hC : WC I R N n 1 V) (ht : nTx V < 14) {a key : Nat} (hk : key ≤ 2) (ha : I a 0 = nI key) (ha2 : 146 ≤ a) (hq : ∀ I' : HI, (∀ q, q ≠ 1 → q ≠ 11 → I' q = I q) → (∀ j, j ≠ 7 → I' 1 j = I 1 j) → I' 1 7 = nI (nTx V + 1) → (∀ j, j ≠ key → I' 11 j = I 11 j) → I' 11 key = nI (nTx V) → Q (vI (nI (nTx V))) I' L (va_up R 10 (va_up (R 10) (nTx V) (some a))) N n) : CA sc 1 0 0 mX8_addText [vR 8 1, vR 7 a] I L R N n Q := by
  have h7 : I 1 7 = nI (nTx V) := hC.1.2.2.2.2.1.trans hV.2.2.1.1
  refine ca_in (al := [_, _]) rfl ?_
  refine w_aload_n dX8_addText_0 rfl ?_
  refine w_getI dX8_addText_1 flX8_42 rfl ?_
  refine w_top (y := nI (nTx V)) (h7) ?_
  refine w_bipush dX8_addText_4 bp_14 ?_
  refine w_icmp_ge (tgt := 21) dX8_addText_6 (by decide) (fun c6 => ?_) (fun c6 => ?_)
  · exact absurd ((nI_leI (a := 14) (by decide) (by omega)).mp c6) (by omega)
  · refine w_aload_n dX8_addText_9 rfl ?_
    refine w_getI dX8_addText_10 flX8_100 rfl ?_
    refine w_top (y := nI key) (ha) ?_
    refine w_iconst dX8_addText_13 ic_0 ?_
    refine w_iconst dX8_addText_14 ic_2 ?_
    refine c_S (as := [_, _, _]) (d' := 0) dX8_addText_15 nlX8_73 moX9_within msX9_within rfl rfl rfl rfl rfl (by decide) (sX9_within ?_)
    refine w_ifB_ne (tgt := 24) dX8_addText_18 (by decide) (fun c18 => ?_) (fun c18 => ?_)
    · refine w_aload_n dX8_addText_24 rfl ?_
      refine w_getR dX8_addText_25 flX8_38 rfl (hs.r (a := 1) (j := 6) (b := 10) 11 rfl) ?_
      refine w_aload_n dX8_addText_28 rfl ?_
      refine w_getI dX8_addText_29 flX8_42 rfl ?_
      refine w_top (y := nI (nTx V)) (h7) ?_
      refine w_aload_n dX8_addText_32 rfl ?_
      refine w_aast (t := 17) (r := some _) dX8_addText_33 (by decide) (by decide) rfl (hs.n (a := 10) (z := 14) 8 rfl) ht ?_
      refine w_aload_n dX8_addText_34 rfl ?_
      refine w_getR dX8_addText_35 flX8_45 rfl (show va_up R 10 (va_up (R 10) (nTx V) (some a)) 1 8 = some 11 by rw [va_up_ne _ _ (by decide)]; exact hs.r (a := 1) (j := 8) (b := 11) 12 rfl) ?_
      refine w_aload_n dX8_addText_38 rfl ?_
      refine w_getI dX8_addText_39 flX8_100 rfl ?_
      refine w_top (y := nI key) (ha) ?_
      refine w_aload_n dX8_addText_42 rfl ?_
      refine w_getI dX8_addText_43 flX8_42 rfl ?_
      refine w_top (y := nI (nTx V)) (h7) ?_
      refine w_iast dX8_addText_46 rfl (hs.n (a := 11) (z := 3) 9 rfl) (by omega) ?_
      refine w_st (fun I2 hA2 hB2 hC2 => ?_)
      refine w_aload_n dX8_addText_47 rfl ?_
      refine w_dup dX8_addText_48 rfl ?_
      refine w_getI dX8_addText_49 flX8_42 rfl ?_
      refine w_top (y := nI (nTx V)) (by rw [hA2 1 (by decide)]; exact h7) ?_
      refine w_iconst dX8_addText_52 ic_1 ?_
      refine w_iadd dX8_addText_53 ?_
      refine w_top (y := nI (nTx V + 1)) (nI_1 _) ?_
      refine w_putI dX8_addText_54 flX8_42 rfl rfl rfl rfl ?_
      refine w_st (fun I3 hA3 hB3 hC3 => ?_)
      refine w_aload_n dX8_addText_57 rfl ?_
      refine w_getI dX8_addText_58 flX8_42 rfl ?_
      refine w_top (y := nI (nTx V + 1)) (hC3) ?_
      refine w_iconst dX8_addText_61 ic_1 ?_
      refine w_isub dX8_addText_62 ?_
      refine w_top (y := nI (nTx V)) (nI_pred _) ?_
      refine w_ireturn dX8_addText_63 rfl rfl ?_
      exact hq I3 (fun q a b => (hA3 q a).trans (hA2 q b)) (fun j hj => by rw [hB3 j hj, hA2 1 (by decide)]) hC3 (fun j hj => by rw [hA3 11 (by decide)]; exact hB2 j hj) (by rw [hA3 11 (by decide)]; exact hC2)
    · exact absurd ⟨nI_pos' (by omega), nI_le (b := 2) hk (by decide)⟩ c18

set_option maxRecDepth 20000 in
theorem sX9_text (hs : SK R N) {V : VV} (hV : VO V) (hC : WC I R N n 1 V) (hn : 146 ≤ n) {T : VV} {z : Nat} {td : VV} (hz : z ≤ 96) (hb : BY T z) (htd : td 0 = 0) (hT : ∀ i, i < z → I 79 i = T i) (h1 : I 78 1 = nI z) (hq : ∀ (I' : HI) (L' : HL) (R' : HR) (N' : HN) (n' : Nat) (r : Nat × Option (Nat × List Int32 × Nat)), PRs T z td r → okR r → (∀ q, q < n → q ≠ 1 → q ≠ 11 → q ≠ 77 → q ≠ 78 → q ≠ 80 → I' q = I q) → I' 78 1 = 0 → SK R' N' → n ≤ n' → WC I' R' N' n' 1 (oText V r).1 → (∀ V2 : VV, VO V2 → WC I R N n 30 V2 → WC I' R' N' n' 30 V2) → Q (vI (oText V r).2) I' L' R' N' n') : CA sc 80 (0 + (0 + 0 + (0 + 1) + 1)) 99 mX9_text [vR 9 0] I L R N n Q := by
  refine ca_in (al := [_, _]) rfl ?_
  refine w_aload_n dX9_text_0 rfl ?_
  refine w_getR dX9_text_1 flX9_47 rfl (hs.r (a := 0) (j := 6) (b := 77) 5 rfl) ?_
  refine c_V (t := 1) (as := []) (d' := 79) dX9_text_4 mlX9_233 moX1_findFault mvX1_findFault ⟨rfl, rfl⟩ rfl rfl rfl rfl rfl (by decide) (sX1_findFault (td := td) hs hz hb htd hT h1 (fun I2 f hF2 hp2 ho2 => ?_) (fun I2 f key c a hF2 g2 g3 g4 g8 hp2 ho2 => ?_))
  · refine w_istore_n (al' := [_, _]) dX9_text_7 rfl rfl rfl ?_
    refine w_aload_n dX9_text_8 rfl ?_
    refine w_getR dX9_text_9 flX9_47 rfl (hs.r (a := 0) (j := 6) (b := 77) 5 rfl) ?_
    refine w_getR dX9_text_12 flX9_219 rfl (hs.r (a := 77) (j := 0) (b := 78) 80 rfl) ?_
    refine w_iconst dX9_text_15 ic_0 ?_
    refine w_putI dX9_text_16 flX9_223 rfl rfl rfl rfl ?_
    refine w_st (fun I3 hA3 hB3 hC3 => ?_)
    have hF9 : FRP I I3 := hF2.trans (FRP.of78 hA3)
    have h78 : I3 78 1 = 0 := hC3
    have hCk : WC I3 R N n 1 V := hC.keep hV (fun q hz => hF9 q (by unfold WA at hz; omega) (by unfold WA at hz; omega) (by unfold WA at hz; omega))
    refine w_iload_n dX9_text_19 rfl ?_
    refine w_ldc dX9_text_20 kcX9_141 ?_
    refine w_icmp_eq (tgt := 30) dX9_text_22 (by decide) (fun c22 => ?_) (fun c22 => ?_)
    · exact absurd c22 (nI_none (Nat.lt_of_le_of_lt ho2.1 (by decide)))
    · refine w_bipush dX9_text_25 bp_m100 ?_
      refine w_iload_n dX9_text_27 rfl ?_
      refine w_isub dX9_text_28 ?_
      refine w_ireturn dX9_text_29 rfl rfl ?_
      exact hq I3 L R N n (f, none) hp2 ho2 (fun q _ _ _ a b c => hF9 q a b c) h78 hs (Nat.le_refl n) hCk (fun V2 hV2 h2 => h2.keep hV2 (fun q hz => hF9 q (by unfold WA at hz; omega) (by unfold WA at hz; omega) (by unfold WA at hz; omega)))
  · refine w_istore_n (al' := [_, _]) dX9_text_7 rfl rfl rfl ?_
    refine w_aload_n dX9_text_8 rfl ?_
    refine w_getR dX9_text_9 flX9_47 rfl (hs.r (a := 0) (j := 6) (b := 77) 5 rfl) ?_
    refine w_getR dX9_text_12 flX9_219 rfl (hs.r (a := 77) (j := 0) (b := 78) 80 rfl) ?_
    refine w_iconst dX9_text_15 ic_0 ?_
    refine w_putI dX9_text_16 flX9_223 rfl rfl rfl rfl ?_
    refine w_st (fun I3 hA3 hB3 hC3 => ?_)
    have hF9 : FRP I I3 := hF2.trans (FRP.of78 hA3)
    have h78 : I3 78 1 = 0 := hC3
    have hCk : WC I3 R N n 1 V := hC.keep hV (fun q hz => hF9 q (by unfold WA at hz; omega) (by unfold WA at hz; omega) (by unfold WA at hz; omega))
    obtain ⟨o1, o2, o3, o4⟩ := ho2.2 key c a rfl
    have h7 : I3 1 7 = nI (nTx V) := hCk.1.2.2.2.2.1.trans hV.2.2.1.1
    have h14 := hV.2.2.1.2
    refine w_iload_n dX9_text_19 rfl ?_
    refine w_ldc dX9_text_20 kcX9_141 ?_
    refine w_icmp_eq (tgt := 30) dX9_text_22 (by decide) (fun c22 => ?_) (fun c22 => ?_)
    · refine w_aload_n dX9_text_30 rfl ?_
      refine w_getR dX9_text_31 flX9_10 rfl (hs.r (a := 0) (j := 0) (b := 1) 0 rfl) ?_
      refine w_getI dX9_text_34 flX9_236 rfl ?_
      refine w_top (y := nI (nTx V)) (h7) ?_
      refine w_bipush dX9_text_37 bp_14 ?_
      refine w_icmp_lt (tgt := 45) dX9_text_39 (by decide) (fun c39 => ?_) (fun c39 => ?_)
      · have hlt : nTx V < 14 := (nI_ltI (b := 14) (by omega) (by decide)).mp c39
        have eo : oText V (f, some (key, c, a)) = (oTxV V key c a, nI (nTx V)) := if_neg (by omega)
        refine w_aload_n dX9_text_45 rfl ?_
        refine w_getR dX9_text_46 flX9_10 rfl (hs.r (a := 0) (j := 0) (b := 1) 0 rfl) ?_
        refine w_aload_n dX9_text_49 rfl ?_
        refine w_getR dX9_text_50 flX9_47 rfl (hs.r (a := 0) (j := 6) (b := 77) 5 rfl) ?_
        refine c_Vm (mc := 0) (mc' := 0 + 0 + (0 + 1) + 1) (ms := 0) (ms' := 99) (t := 1) (as := []) (d' := 2) dX9_text_53 mlX9_239 moX1_made mvX1_made ⟨rfl, rfl⟩ rfl rfl rfl rfl rfl (by decide) (CA.room (sX1_made0 (c := c) hs ((hA3 77 (by decide)).symm ▸ g2) ((hA3 77 (by decide)).symm ▸ g3) ((hA3 77 (by decide)).symm ▸ g4) o2 hn (fun I4 L4 R4 N4 hI4 hR4 hN4 h40 h41 h42 h43 h44 => ?_)) (Nat.le_refl _) (by omega))
        have hs4 : SK R4 N4 := hs.more (fun q a _ => hR4 q (by omega)) (fun q a => hN4 q (by omega))
        have hC4 : WC I4 R4 N4 (n + 2) 1 V := hCk.more hV (Or.inl rfl) hn (by omega) (fun q a _ => hI4 q a) (fun q a _ => hR4 q a) (fun q a _ => hN4 q a)
        refine c_V (t := 8) (as := [_]) (d' := 1) dX9_text_56 mlX9_243 moX8_addText mvX8_addText ⟨rfl, rfl⟩ rfl rfl rfl rfl rfl (by decide) (sX8_addText hs4 hV hC4 hlt o1 h40 hn (fun I5 hA5 hB5 h57 hD5 h5k => ?_))
        refine w_ireturn dX9_text_59 rfl rfl ?_
        have hgo := hq I5 L4 (va_up R4 10 (va_up (R4 10) (nTx V) (some n))) N4 (n + 2) (f, some (key, c, a)) hp2 ho2 (fun q a0 a1 a2 a3 a4 a5 => by rw [hA5 q a1 a2, hI4 q a0]; exact hF9 q a3 a4 a5) (by rw [hA5 78 (by decide) (by decide), hI4 78 (by omega)]; exact h78) (hs4.upR (w := 1) (Or.inl rfl) (fun q hq => va_up_ne _ _ hq)) (by omega)
        rw [eo] at hgo
        refine hgo ?_ (fun V2 hV2 h2 => ?_)
        · refine WC.text hV hC hn hlt o1 o2 (fun q a0 a1 a2 a3 a4 a5 => by rw [hA5 q a1 a2, hI4 q a0]; exact hF9 q a3 a4 a5) (fun j hj => by rw [hB5 j hj, hI4 1 (by omega)]; exact congrFun (hF9 1 (by decide) (by decide) (by decide)) j) h57 (fun j hj => by rw [hD5 j hj, hI4 11 (by omega)]; exact congrFun (hF9 11 (by decide) (by decide) (by decide)) j) h5k (fun q a0 a1 => by rw [va_up_ne _ _ a1]; exact hR4 q a0) (fun t ht => by rw [va_up_self, va_up_ne _ _ ht, hR4 10 (by omega)]) (by rw [va_up_self, va_up_self]) (by rw [va_up_ne _ _ (by omega)]; exact h42) hN4 h43 (by rw [hA5 n (by omega) (by omega)]; exact h40) (by rw [hA5 n (by omega) (by omega)]; exact h41) (fun j hj => ?_)
          rw [hA5 (n + 1) (by omega) (by omega), h44 j hj, hA3 80 (by decide), SR_cd g8 (by rw [List.length_map]; exact hj), cd_map hj]
        · exact h2.more hV2 (Or.inr rfl) hn (by omega) (fun q a0 hz => by rw [hA5 q (by unfold WA at hz; omega) (by unfold WA at hz; omega), hI4 q a0]; exact hF9 q (by unfold WA at hz; omega) (by unfold WA at hz; omega) (by unfold WA at hz; omega)) (fun q a0 hz => by rw [va_up_ne _ _ (by omega)]; exact hR4 q a0) (fun q a0 _ => hN4 q a0)
      · have e14 : nTx V = 14 := by rcases Nat.lt_or_ge (nTx V) 14 with q | q; exact absurd (nI_lt (b := 14) q (by decide)) c39; omega
        have eo : oText V (f, some (key, c, a)) = (V, -1000000003) := if_pos e14
        refine w_ldc dX9_text_42 kcX9_228 ?_
        refine w_ireturn dX9_text_44 rfl rfl ?_
        have hgo := hq I3 L R N n (f, some (key, c, a)) hp2 ho2 (fun q _ _ _ a b c => hF9 q a b c) h78 hs (Nat.le_refl n)
        rw [eo] at hgo
        exact hgo hCk (fun V2 hV2 h2 => h2.keep hV2 (fun q hz => hF9 q (by unfold WA at hz; omega) (by unfold WA at hz; omega) (by unfold WA at hz; omega)))
    · exact absurd rfl c22

end
