def kaN : Nat → Nat
  | 0 => 0 | 1 => 3 | 2 => 8 | _ => 14
/-- the reference's rows of keys -/
def KYC (I : HI) : Prop := (∀ w, w < 4 → I 131 w = nI (kaN w)) ∧ ∀ w, w < 3 → ∀ i, i < stN.getD w 0 → I 130 (kaN w + i) = (stB.getD w []).getD i 0
theorem ka_n {w : Nat} (h : w < 3) : kaN (w + 1) = kaN w + stN.getD w 0 ∧ kaN (w + 1) ≤ 14 ∧ stN.getD w 0 ≤ 6 := by
  rcases (show w = 0 ∨ w = 1 ∨ w = 2 by omega) with rfl | rfl | rfl <;> decide
theorem ky_at {T : VV} {t : TKN} {w : Nat} (hw : w < 3) (hn : ∀ x, x < w → ¬ wdP T t x) (h : wdP T t w) : kyI T t = nI w := by
  unfold kyI
  rcases (show w = 0 ∨ w = 1 ∨ w = 2 by omega) with rfl | rfl | rfl
  · rw [cif_t h]; rfl
  · rw [cif_f (hn 0 (by omega)), cif_t h]; rfl
  · rw [cif_f (hn 0 (by omega)), cif_f (hn 1 (by omega)), cif_t h]; rfl
theorem ky_no {T : VV} {t : TKN} (hn : ∀ x, x < 3 → ¬ wdP T t x) : kyI T t = -1000000005 := by
  unfold kyI
  rw [cif_f (hn 0 (by omega)), cif_f (hn 1 (by omega)), cif_f (hn 2 (by omega))]
theorem hnd_n3 {T : VV} {z : Nat} {t : TKN} (ht : TO T z t) (h : t.2.2 ≠ 3) : hnd T t = -1 ∨ hnd T t = 256 ∨ hnd T t = 257 ∨ hnd T t = 258 := by
  rcases k_cases ht.2.2.2.2.2.2 with q | q | q | q | q
  · exact Or.inl (hnd_0 q)
  · exact Or.inr (Or.inl (hnd_1 q))
  · exact Or.inr (Or.inr (Or.inl (hnd_2 q)))
  · exact absurd q h
  · exact Or.inr (Or.inr (Or.inr (hnd_4 q)))
theorem sg_n3 {T : VV} {z : Nat} {t : TKN} (ht : TO T z t) (h : t.2.2 ≠ 3) : sgB (hnd T t) = 0 := by
  rcases hnd_n3 ht h with q | q | q | q <;> rw [q] <;> decide
theorem nots_drop (W : List Int32) {i : Nat} (h : i < W.length) : nots (W.drop (W.length - (i + 1))) = nots (W.drop (W.length - i)) + (if W.getD (W.length - 1 - i) 0 = -10 then 1 else 0) := by
  have h1 : W.length - (i + 1) < W.length := by omega
  rw [List.drop_eq_getElem_cons h1, nots, show W.length - (i + 1) + 1 = W.length - i by omega]
  congr 2
  rw [List.getD_eq_getElem?_getD, List.getElem?_eq_getElem (show W.length - 1 - i < W.length by omega), Option.getD_some]
  simp only [show W.length - 1 - i = W.length - (i + 1) by omega]
/-- the reference's parser -/
def RM (I : HI) (T : VV) (z key : Nat) (t : TKN) (W C : List Int32) (a : Nat) : Prop := TM I T z t ∧ I 117 23 = nI key ∧ SR (I 132) C ∧ I 117 27 = nI C.length ∧ I 117 28 = nI a ∧ SR (I 133) W ∧ I 117 30 = nI W.length
def FRR (I I' : HI) : Prop := (∀ q, q ≠ 117 → q ≠ 132 → q ≠ 133 → q ≠ 134 → I' q = I q) ∧ ∀ j, (j < 18 ∨ 31 ≤ j) → I' 117 j = I 117 j
theorem FRR.trans {I I' I'' : HI} (h : FRR I I') (h' : FRR I' I'') : FRR I I'' := ⟨fun q a b c d => (h'.1 q a b c d).trans (h.1 q a b c d), fun j a => (h'.2 j a).trans (h.2 j a)⟩
theorem FRG.r {I I' : HI} (h : FRG I I') : FRR I I' := ⟨fun q a _ _ _ => h.1 q a, fun j hj => h.2 j (by omega)⟩
theorem TM.keep {I I' : HI} {T : VV} {z : Nat} {t : TKN} (h : TM I T z t) (h17 : ∀ j, 17 ≤ j → j < 23 → I' 117 j = I 117 j) (h129 : I' 129 = I 129) : TM I' T z t := by
  unfold TM
  rw [h17 17 (by decide) (by decide), h17 18 (by decide) (by decide), h17 19 (by decide) (by decide), h17 20 (by decide) (by decide), h17 21 (by decide) (by decide), h17 22 (by decide) (by decide), h129]
  exact h
theorem RM.go {I I' : HI} {T : VV} {z key : Nat} {t t' : TKN} {W C : List Int32} {a : Nat} (h : RM I T z key t W C a) (hG : FRG I I') (hM : TM I' T z t') : RM I' T z key t' W C a := by
  obtain ⟨-, h2, h3, h4, h5, h6, h7⟩ := h
  exact ⟨hM, (hG.2 23 (by omega)).trans h2, by rw [hG.1 132 (by decide)]; exact h3, (hG.2 27 (by omega)).trans h4, (hG.2 28 (by omega)).trans h5, by rw [hG.1 133 (by decide)]; exact h6, (hG.2 30 (by omega)).trans h7⟩
section
variable {sc : SC} {I : HI} {L : HL} {R : HR} {N : HN} {n : Nat} {Q : HQ}
set_option maxRecDepth 20000 in
theorem lX10_key106 (hs : SK R N) {T : VV} {z w : Nat} {t : TKN} (hz : z ≤ 96) (hk1 : t.2.2 = 1) (ht : TO T z t) (hM : TM I T z t) (hw3 : w < 3) (hnw : ∀ x, x < w → ¬ wdP T t x) (hq1 : ∀ I' key, key ≤ 2 → kyI T t = nI key → (∀ q, q ≠ 117 → I' q = I q) → (∀ j, (j < 18 ∨ 24 ≤ j) → I' 117 j = I 117 j) → I' 117 23 = nI key → TM I' T z (nxT T z t) → Q (vI 1) I' L R N n) (hnxt : ¬ wdP T t w → WP sc 2 0 0 mX10_takesKey 12 [vR 10 117, vI (nI (w + 1)), vU, vU, vU] [] I L R N n Q) {b : Prop} (hb : b ↔ wdP T t w) {m i : Int32} : WP sc 2 0 0 mX10_takesKey 106 [vR 10 117, vI (nI w), vI m, vI (bI b), vI i] [] I L R N n Q := by
  refine w_iload_n dX10_takesKey_106 rfl ?_
  refine w_ifB_eq (tgt := 121) dX10_takesKey_107 (by decide) (fun c107 => ?_) (fun c107 => ?_)
  · have hno : ¬ wdP T t w := fun q => c107 (hb.mpr q)
    refine w_iinc (al' := [_, _, _, _, _]) dX10_takesKey_121 rfl rfl ic_1 rfl ?_
    refine w_goto (tgt := 12) dX10_takesKey_124 (by decide) ?_
    refine w_kill (i := 4) (al' := [_, _, _, _, _]) rfl ?_
    refine w_kill (i := 3) (al' := [_, _, _, _, _]) rfl ?_
    refine w_kill (i := 2) (al' := [_, _, _, _, _]) rfl ?_
    rw [nI_1]
    exact hnxt hno
  · have hyes := hb.mp c107
    refine w_aload_n dX10_takesKey_110 rfl ?_
    refine w_iload_n dX10_takesKey_111 rfl ?_
    refine w_putI dX10_takesKey_112 flX10_232 rfl rfl rfl rfl ?_
    refine w_st (fun I2 hA2 hB2 hC2 => ?_)
    refine w_aload_n dX10_takesKey_115 rfl ?_
    refine c_Vv (t := 10) (as := []) (d' := 1) dX10_takesKey_116 mlX10_235 moX10_go mvX10_go ⟨rfl, rfl⟩ rfl rfl rfl rfl rfl (by decide) (sX10_next hs hz ht (Or.inl hk1) (hM.keep (fun j a b => hB2 j (by omega)) (hA2 129 (by decide))) (fun I3 hG3 hM3 => ?_))
    refine w_iconst dX10_takesKey_119 ic_1 ?_
    refine w_ireturn dX10_takesKey_120 rfl rfl ?_
    exact hq1 I3 w (by omega) (ky_at hw3 hnw hyes) (fun q hq => (hG3.1 q hq).trans (hA2 q hq)) (fun j hj => (hG3.2 j (by omega)).trans (hB2 j (by omega))) ((hG3.2 23 (by omega)).trans hC2) hM3

set_option maxRecDepth 20000 in
theorem lX10_key55 (hs : SK R N) (hK : KYC I) {T : VV} {z w : Nat} {t : TKN} (hz : z ≤ 96) (hk1 : t.2.2 = 1) (ht : TO T z t) (hM : TM I T z t) (hw3 : w < 3) (hnw : ∀ x, x < w → ¬ wdP T t x) (hq1 : ∀ I' key, key ≤ 2 → kyI T t = nI key → (∀ q, q ≠ 117 → I' q = I q) → (∀ j, (j < 18 ∨ 24 ≤ j) → I' 117 j = I 117 j) → I' 117 23 = nI key → TM I' T z (nxT T z t) → Q (vI 1) I' L R N n) (hnxt : ¬ wdP T t w → WP sc 2 0 0 mX10_takesKey 12 [vR 10 117, vI (nI (w + 1)), vU, vU, vU] [] I L R N n Q) : ∀ (k i : Nat), i + k = stN.getD w 0 → WP sc 2 0 0 mX10_takesKey 55 [vR 10 117, vI (nI w), vI (nI (stN.getD w 0)), vI (bI (t.2.1 - t.1 = stN.getD w 0 ∧ ∀ x, x < i → T (t.1 + x) = (stB.getD w []).getD x 0)), vI (nI i)] [] I L R N n Q := by
  have hto := ht.1
  have hto2 := ht.2.1
  obtain ⟨ka1, ka2, ka3⟩ := ka_n hw3
  have lp : ∀ (k i : Nat), i + k = stN.getD w 0 → WP sc 2 0 0 mX10_takesKey 55 [vR 10 117, vI (nI w), vI (nI (stN.getD w 0)), vI (bI (t.2.1 - t.1 = stN.getD w 0 ∧ ∀ x, x < i → T (t.1 + x) = (stB.getD w []).getD x 0)), vI (nI i)] [] I L R N n Q := by
    intro k
    induction k with
    | zero =>
      intro i hi
      refine w_iload dX10_takesKey_55 rfl ?_
      refine w_iload_n dX10_takesKey_57 rfl ?_
      refine w_icmp_ge (tgt := 106) dX10_takesKey_58 (by decide) (fun c58 => ?_) (fun c58 => ?_)
      · exact lX10_key106 hs hz hk1 ht hM hw3 hnw hq1 hnxt (⟨fun q => ⟨hk1, q.1, fun x hx => q.2 x (by omega)⟩, fun q => ⟨q.2.1, fun x hx => q.2.2 x (by omega)⟩⟩)
      · exact absurd (nI_le (a := stN.getD w 0) (by omega) (by omega)) c58
    | succ k ih =>
      intro i hi
      refine w_iload dX10_takesKey_55 rfl ?_
      refine w_iload_n dX10_takesKey_57 rfl ?_
      refine w_icmp_ge (tgt := 106) dX10_takesKey_58 (by decide) (fun c58 => ?_) (fun c58 => ?_)
      · exact absurd ((nI_leI (by omega) (by omega)).mp c58) (by omega)
      · refine w_iload_n dX10_takesKey_61 rfl ?_
        refine w_ifB_eq (tgt := 106) dX10_takesKey_62 (by decide) (fun c62 => ?_) (fun c62 => ?_)
        · exact lX10_key106 hs hz hk1 ht hM hw3 hnw hq1 hnxt (⟨fun q => absurd q c62, fun q => absurd ⟨q.2.1, fun x hx => q.2.2 x (by omega)⟩ c62⟩)
        · refine w_aload_n dX10_takesKey_65 rfl ?_
          refine w_getR dX10_takesKey_66 flX10_44 rfl (hs.r (a := 117) (j := 16) (b := 129) 127 rfl) ?_
          refine w_aload_n dX10_takesKey_69 rfl ?_
          refine w_getI dX10_takesKey_70 flX10_214 rfl ?_
          refine w_top (y := nI t.1) (hM.2.2.1) ?_
          refine w_iload dX10_takesKey_73 rfl ?_
          refine w_iadd dX10_takesKey_75 ?_
          refine w_top (y := nI (t.1 + i)) (nI_add _ _) ?_
          refine w_iald dX10_takesKey_76 rfl (hs.n (a := 129) (z := 96) 83 rfl) (by have := c62.1; omega) ?_
          refine w_top (y := T (t.1 + i)) (hM.2.2.2.2.2.2.2.2 _ (by have := c62.1; omega)) ?_
          refine w_aload_n dX10_takesKey_77 rfl ?_
          refine w_getR dX10_takesKey_78 flX10_47 rfl (hs.r (a := 117) (j := 24) (b := 130) 128 rfl) ?_
          refine w_aload_n dX10_takesKey_81 rfl ?_
          refine w_getR dX10_takesKey_82 flX10_51 rfl (hs.r (a := 117) (j := 25) (b := 131) 129 rfl) ?_
          refine w_iload_n dX10_takesKey_85 rfl ?_
          refine w_iald dX10_takesKey_86 rfl (hs.n (a := 131) (z := 4) 85 rfl) (by omega) ?_
          refine w_top (y := nI (kaN w)) (hK.1 w (by omega)) ?_
          refine w_iload dX10_takesKey_87 rfl ?_
          refine w_iadd dX10_takesKey_89 ?_
          refine w_top (y := nI (kaN w + i)) (nI_add _ _) ?_
          refine w_cald dX10_takesKey_90 rfl (hs.n (a := 130) (z := 14) 84 rfl) (by omega) ?_
          refine w_top (y := (stB.getD w []).getD i 0) (hK.2 w hw3 i (by omega)) ?_
          refine w_icmp_ne (tgt := 98) dX10_takesKey_91 (by decide) (fun c91 => ?_) (fun c91 => ?_)
          · refine w_iconst dX10_takesKey_98 ic_0 ?_
            refine w_top (y := bI (t.2.1 - t.1 = stN.getD w 0 ∧ ∀ x, x < i + 1 → T (t.1 + x) = (stB.getD w []).getD x 0)) ((bI_0 (fun q => c91 (q.2 i (by omega)))).symm) ?_
            refine w_istore_n (al' := [_, _, _, _, _]) dX10_takesKey_99 rfl rfl rfl ?_
            refine w_iinc (al' := [_, _, _, _, _]) dX10_takesKey_100 rfl rfl ic_1 rfl ?_
            refine w_goto (tgt := 55) dX10_takesKey_103 (by decide) ?_
            rw [nI_1]
            exact ih (i + 1) (by omega)
          · refine w_iconst dX10_takesKey_94 ic_1 ?_
            refine w_top (y := bI (t.2.1 - t.1 = stN.getD w 0 ∧ ∀ x, x < i + 1 → T (t.1 + x) = (stB.getD w []).getD x 0)) ((bI_1 ⟨c62.1, fun x hx => by by_cases e : x = i; subst e; exact c91; exact c62.2 x (by omega)⟩).symm) ?_
            refine w_goto (tgt := 99) dX10_takesKey_95 (by decide) ?_
            refine w_istore_n (al' := [_, _, _, _, _]) dX10_takesKey_99 rfl rfl rfl ?_
            refine w_iinc (al' := [_, _, _, _, _]) dX10_takesKey_100 rfl rfl ic_1 rfl ?_
            refine w_goto (tgt := 55) dX10_takesKey_103 (by decide) ?_
            rw [nI_1]
            exact ih (i + 1) (by omega)
  exact lp

set_option maxRecDepth 20000 in
theorem sX10_takesKey (hs : SK R N) (hK : KYC I) {T : VV} {z : Nat} {t : TKN} (hz : z ≤ 96) (ht : TO T z t) (hM : TM I T z t) (hq0 : kyI T t = -1000000005 → Q (vI 0) I L R N n) (hq1 : ∀ I' key, key ≤ 2 → kyI T t = nI key → (∀ q, q ≠ 117 → I' q = I q) → (∀ j, (j < 18 ∨ 24 ≤ j) → I' 117 j = I 117 j) → I' 117 23 = nI key → TM I' T z (nxT T z t) → Q (vI 1) I' L R N n) : CA sc 2 0 0 mX10_takesKey [vR 10 117] I L R N n Q := by
  refine ca_in (al := [_, _, _, _, _]) rfl ?_
  refine w_aload_n dX10_takesKey_0 rfl ?_
  refine w_getI dX10_takesKey_1 flX10_220 rfl ?_
  refine w_top (y := nI t.2.2) (hM.2.2.2.1) ?_
  refine w_iconst dX10_takesKey_4 ic_1 ?_
  refine w_icmp_eq (tgt := 10) dX10_takesKey_5 (by decide) (fun c5 => ?_) (fun c5 => ?_)
  · have hk1 : t.2.2 = 1 := (nI_eq (b := 1) (by have := ht.2.2.2.2.2.2; omega) (by decide)).mp c5
    have hto := ht.1
    have hto2 := ht.2.1
    refine w_iconst dX10_takesKey_10 ic_0 ?_
    refine w_top (y := nI 0) (rfl) ?_
    refine w_istore_n (al' := [_, _, _, _, _]) dX10_takesKey_11 rfl rfl rfl ?_
    have lp : ∀ (k w : Nat), w + k = 3 → (∀ x, x < w → ¬ wdP T t x) → WP sc 2 0 0 mX10_takesKey 12 [vR 10 117, vI (nI w), vU, vU, vU] [] I L R N n Q := by
      intro k
      induction k with
      | zero =>
        intro w hw hnw
        refine w_iload_n dX10_takesKey_12 rfl ?_
        refine w_iconst dX10_takesKey_13 ic_3 ?_
        refine w_icmp_ge (tgt := 127) dX10_takesKey_14 (by decide) (fun c14 => ?_) (fun c14 => ?_)
        · refine w_iconst dX10_takesKey_127 ic_0 ?_
          refine w_ireturn dX10_takesKey_128 rfl rfl ?_
          exact hq0 (ky_no (fun x hx => hnw x (by omega)))
        · exact absurd (nI_le (a := 3) (by omega) (by omega)) c14
      | succ k ih =>
        intro w hw hnw
        refine w_iload_n dX10_takesKey_12 rfl ?_
        refine w_iconst dX10_takesKey_13 ic_3 ?_
        refine w_icmp_ge (tgt := 127) dX10_takesKey_14 (by decide) (fun c14 => ?_) (fun c14 => ?_)
        · exact absurd ((nI_leI (a := 3) (by decide) (by omega)).mp c14) (by omega)
        · obtain ⟨ka1, ka2, ka3⟩ := ka_n (w := w) (by omega)
          refine w_aload_n dX10_takesKey_17 rfl ?_
          refine w_getR dX10_takesKey_18 flX10_51 rfl (hs.r (a := 117) (j := 25) (b := 131) 129 rfl) ?_
          refine w_iload_n dX10_takesKey_21 rfl ?_
          refine w_iconst dX10_takesKey_22 ic_1 ?_
          refine w_iadd dX10_takesKey_23 ?_
          refine w_top (y := nI (w + 1)) (nI_1 w) ?_
          refine w_iald dX10_takesKey_24 rfl (hs.n (a := 131) (z := 4) 85 rfl) (by omega) ?_
          refine w_top (y := nI (kaN (w + 1))) (hK.1 (w + 1) (by omega)) ?_
          refine w_aload_n dX10_takesKey_25 rfl ?_
          refine w_getR dX10_takesKey_26 flX10_51 rfl (hs.r (a := 117) (j := 25) (b := 131) 129 rfl) ?_
          refine w_iload_n dX10_takesKey_29 rfl ?_
          refine w_iald dX10_takesKey_30 rfl (hs.n (a := 131) (z := 4) 85 rfl) (by omega) ?_
          refine w_top (y := nI (kaN w)) (hK.1 w (by omega)) ?_
          refine w_isub dX10_takesKey_31 ?_
          refine w_top (y := nI (stN.getD w 0)) (by rw [nI_sub (by omega)]; congr 1; omega) ?_
          refine w_istore_n (al' := [_, _, _, _, _]) dX10_takesKey_32 rfl rfl rfl ?_
          refine w_iload_n dX10_takesKey_33 rfl ?_
          refine w_aload_n dX10_takesKey_34 rfl ?_
          refine w_getI dX10_takesKey_35 flX10_211 rfl ?_
          refine w_top (y := nI t.2.1) (hM.2.1) ?_
          refine w_aload_n dX10_takesKey_38 rfl ?_
          refine w_getI dX10_takesKey_39 flX10_214 rfl ?_
          refine w_top (y := nI t.1) (hM.2.2.1) ?_
          refine w_isub dX10_takesKey_42 ?_
          refine w_top (y := nI (t.2.1 - t.1)) (nI_sub hto) ?_
          refine w_icmp_ne (tgt := 50) dX10_takesKey_43 (by decide) (fun c43 => ?_) (fun c43 => ?_)
          · refine w_iconst dX10_takesKey_50 ic_0 ?_
            refine w_top (y := bI (t.2.1 - t.1 = stN.getD w 0 ∧ ∀ x, x < 0 → T (t.1 + x) = (stB.getD w []).getD x 0)) ((bI_0 (fun q => c43 (by rw [q.1]))).symm) ?_
            refine w_istore_n (al' := [_, _, _, _, _]) dX10_takesKey_51 rfl rfl rfl ?_
            refine w_iconst dX10_takesKey_52 ic_0 ?_
            refine w_top (y := nI 0) (rfl) ?_
            refine w_istore (al' := [_, _, _, _, _]) dX10_takesKey_53 rfl rfl rfl ?_
            exact lX10_key55 hs hK hz hk1 ht hM (by omega) hnw hq1 (fun q => ih (w + 1) (by omega) (fun x hx => by by_cases e : x = w; subst e; exact q; exact hnw x (by omega))) (stN.getD w 0) 0 (Nat.zero_add _)
          · refine w_iconst dX10_takesKey_46 ic_1 ?_
            refine w_top (y := bI (t.2.1 - t.1 = stN.getD w 0 ∧ ∀ x, x < 0 → T (t.1 + x) = (stB.getD w []).getD x 0)) ((bI_1 ⟨((nI_eq (by omega) (by omega)).mp c43).symm, fun x hx => absurd hx (Nat.not_lt_zero x)⟩).symm) ?_
            refine w_goto (tgt := 51) dX10_takesKey_47 (by decide) ?_
            refine w_istore_n (al' := [_, _, _, _, _]) dX10_takesKey_51 rfl rfl rfl ?_
            refine w_iconst dX10_takesKey_52 ic_0 ?_
            refine w_top (y := nI 0) (rfl) ?_
            refine w_istore (al' := [_, _, _, _, _]) dX10_takesKey_53 rfl rfl rfl ?_
            exact lX10_key55 hs hK hz hk1 ht hM (by omega) hnw hq1 (fun q => ih (w + 1) (by omega) (fun x hx => by by_cases e : x = w; subst e; exact q; exact hnw x (by omega))) (stN.getD w 0) 0 (Nat.zero_add _)
    exact lp 3 0 rfl (fun x hx => absurd hx (Nat.not_lt_zero x))
  · have hk1 : ¬ t.2.2 = 1 := fun q => c5 (by rw [q]; rfl)
    refine w_iconst dX10_takesKey_8 ic_0 ?_
    refine w_ireturn dX10_takesKey_9 rfl rfl ?_
    exact hq0 (ky_no (fun x hx q => hk1 q.1))

set_option maxRecDepth 20000 in
theorem sX10_nameOf (hs : SK R N) {key : Nat} {v : Int32} (hk : key ≤ 2) (h23 : I 117 23 = nI key) (hq : Q (vI (nmB key v)) I L R N n) : CA sc 0 0 0 mX10_nameOf [vR 10 117, vI v] I L R N n Q := by
  refine ca_in (al := [_, _]) rfl ?_
  rcases (show key = 0 ∨ key = 1 ∨ key = 2 by omega) with rfl | rfl | rfl
  · refine w_aload_n dX10_nameOf_0 rfl ?_
    refine w_getI dX10_nameOf_1 flX10_232 rfl ?_
    refine w_top (y := 0) (h23) ?_
    refine w_lookup (tgt := 32) dX10_nameOf_4 rfl rfl (by decide) ?_
    refine w_iload_n dX10_nameOf_32 rfl ?_
    refine w_bipush dX10_nameOf_33 bp_100 ?_
    refine w_icmp_ne (tgt := 42) dX10_nameOf_35 (by decide) (fun c35 => ?_) (fun c35 => ?_)
    · refine w_iload_n dX10_nameOf_42 rfl ?_
      refine w_bipush dX10_nameOf_43 bp_97 ?_
      refine w_icmp_ne (tgt := 52) dX10_nameOf_45 (by decide) (fun c45 => ?_) (fun c45 => ?_)
      · refine w_iload_n dX10_nameOf_52 rfl ?_
        refine w_bipush dX10_nameOf_53 bp_98 ?_
        refine w_icmp_ne (tgt := 62) dX10_nameOf_55 (by decide) (fun c55 => ?_) (fun c55 => ?_)
        · refine w_iconst dX10_nameOf_62 ic_m1 ?_
          refine w_ireturn dX10_nameOf_63 rfl rfl ?_
          refine q_e ?_ hq
          simp_all [nmB]
        · refine w_iconst dX10_nameOf_58 ic_2 ?_
          refine w_goto (tgt := 63) dX10_nameOf_59 (by decide) ?_
          refine w_ireturn dX10_nameOf_63 rfl rfl ?_
          refine q_e ?_ hq
          simp_all [nmB]
      · refine w_iconst dX10_nameOf_48 ic_1 ?_
        refine w_goto (tgt := 63) dX10_nameOf_49 (by decide) ?_
        refine w_ireturn dX10_nameOf_63 rfl rfl ?_
        refine q_e ?_ hq
        simp_all [nmB]
    · refine w_iconst dX10_nameOf_38 ic_0 ?_
      refine w_goto (tgt := 63) dX10_nameOf_39 (by decide) ?_
      refine w_ireturn dX10_nameOf_63 rfl rfl ?_
      refine q_e ?_ hq
      simp_all [nmB]
  · refine w_aload_n dX10_nameOf_0 rfl ?_
    refine w_getI dX10_nameOf_1 flX10_232 rfl ?_
    refine w_top (y := 1) (h23) ?_
    refine w_lookup (tgt := 64) dX10_nameOf_4 rfl rfl (by decide) ?_
    refine w_iload_n dX10_nameOf_64 rfl ?_
    refine w_bipush dX10_nameOf_65 bp_111 ?_
    refine w_icmp_ne (tgt := 74) dX10_nameOf_67 (by decide) (fun c67 => ?_) (fun c67 => ?_)
    · refine w_iload_n dX10_nameOf_74 rfl ?_
      refine w_bipush dX10_nameOf_75 bp_115 ?_
      refine w_icmp_ne (tgt := 84) dX10_nameOf_77 (by decide) (fun c77 => ?_) (fun c77 => ?_)
      · refine w_iconst dX10_nameOf_84 ic_m1 ?_
        refine w_ireturn dX10_nameOf_85 rfl rfl ?_
        refine q_e ?_ hq
        simp_all [nmB]
      · refine w_iconst dX10_nameOf_80 ic_1 ?_
        refine w_goto (tgt := 85) dX10_nameOf_81 (by decide) ?_
        refine w_ireturn dX10_nameOf_85 rfl rfl ?_
        refine q_e ?_ hq
        simp_all [nmB]
    · refine w_iconst dX10_nameOf_70 ic_0 ?_
      refine w_goto (tgt := 85) dX10_nameOf_71 (by decide) ?_
      refine w_ireturn dX10_nameOf_85 rfl rfl ?_
      refine q_e ?_ hq
      simp_all [nmB]
  · refine w_aload_n dX10_nameOf_0 rfl ?_
    refine w_getI dX10_nameOf_1 flX10_232 rfl ?_
    refine w_top (y := 2) (h23) ?_
    refine w_lookup (tgt := 86) dX10_nameOf_4 rfl rfl (by decide) ?_
    refine w_iload_n dX10_nameOf_86 rfl ?_
    refine w_bipush dX10_nameOf_87 bp_100 ?_
    refine w_icmp_ne (tgt := 96) dX10_nameOf_89 (by decide) (fun c89 => ?_) (fun c89 => ?_)
    · refine w_iload_n dX10_nameOf_96 rfl ?_
      refine w_bipush dX10_nameOf_97 bp_102 ?_
      refine w_icmp_ne (tgt := 106) dX10_nameOf_99 (by decide) (fun c99 => ?_) (fun c99 => ?_)
      · refine w_iconst dX10_nameOf_106 ic_m1 ?_
        refine w_ireturn dX10_nameOf_107 rfl rfl ?_
        refine q_e ?_ hq
        simp_all [nmB]
      · refine w_iconst dX10_nameOf_102 ic_1 ?_
        refine w_goto (tgt := 107) dX10_nameOf_103 (by decide) ?_
        refine w_ireturn dX10_nameOf_107 rfl rfl ?_
        refine q_e ?_ hq
        simp_all [nmB]
    · refine w_iconst dX10_nameOf_92 ic_0 ?_
      refine w_goto (tgt := 107) dX10_nameOf_93 (by decide) ?_
      refine w_ireturn dX10_nameOf_107 rfl rfl ?_
      refine q_e ?_ hq
      simp_all [nmB]

set_option maxRecDepth 20000 in
theorem sX10_rank {g : Int32} (hq : Q (vI (nI (rkN g))) I L R N n) : CA sc 0 0 0 mX10_rank [vI g] I L R N n Q := by
  refine ca_in (al := [_]) rfl ?_
  refine w_iload_n dX10_rank_0 rfl ?_
  refine w_iconst dX10_rank_1 ic_m1 ?_
  refine w_icmp_ne (tgt := 9) dX10_rank_2 (by decide) (fun c2 => ?_) (fun c2 => ?_)
  · refine w_iload_n dX10_rank_9 rfl ?_
    refine w_bipush dX10_rank_10 bp_m2 ?_
    refine w_icmp_ne (tgt := 19) dX10_rank_12 (by decide) (fun c12 => ?_) (fun c12 => ?_)
    · refine w_iload_n dX10_rank_19 rfl ?_
      refine w_bipush dX10_rank_20 bp_m5 ?_
      refine w_icmp_lt (tgt := 29) dX10_rank_22 (by decide) (fun c22 => ?_) (fun c22 => ?_)
      · refine w_iload_n dX10_rank_29 rfl ?_
        refine w_bipush dX10_rank_30 bp_m7 ?_
        refine w_icmp_lt (tgt := 39) dX10_rank_32 (by decide) (fun c32 => ?_) (fun c32 => ?_)
        · refine w_iload_n dX10_rank_39 rfl ?_
          refine w_bipush dX10_rank_40 bp_m9 ?_
          refine w_icmp_lt (tgt := 49) dX10_rank_42 (by decide) (fun c42 => ?_) (fun c42 => ?_)
          · refine w_bipush dX10_rank_49 bp_6 ?_
            refine w_top (y := nI 6) (rfl) ?_
            refine w_ireturn dX10_rank_51 rfl rfl ?_
            refine q_e (congrArg nI ?_) hq
            unfold rkN
            first | (rw [if_pos c2]; done) | (rw [if_neg c2, if_pos c12]; done) | (rw [if_neg c2, if_neg c12, if_pos (Int32.not_lt.mp c22)]; done) | (rw [if_neg c2, if_neg c12, if_neg (Int32.not_le.mpr c22), if_pos (Int32.not_lt.mp c32)]; done) | (rw [if_neg c2, if_neg c12, if_neg (Int32.not_le.mpr c22), if_neg (Int32.not_le.mpr c32), if_pos (Int32.not_lt.mp c42)]; done) | (rw [if_neg c2, if_neg c12, if_neg (Int32.not_le.mpr c22), if_neg (Int32.not_le.mpr c32), if_neg (Int32.not_le.mpr c42)]; done)
          · refine w_iconst dX10_rank_45 ic_5 ?_
            refine w_top (y := nI 5) (rfl) ?_
            refine w_goto (tgt := 51) dX10_rank_46 (by decide) ?_
            refine w_ireturn dX10_rank_51 rfl rfl ?_
            refine q_e (congrArg nI ?_) hq
            unfold rkN
            first | (rw [if_pos c2]; done) | (rw [if_neg c2, if_pos c12]; done) | (rw [if_neg c2, if_neg c12, if_pos (Int32.not_lt.mp c22)]; done) | (rw [if_neg c2, if_neg c12, if_neg (Int32.not_le.mpr c22), if_pos (Int32.not_lt.mp c32)]; done) | (rw [if_neg c2, if_neg c12, if_neg (Int32.not_le.mpr c22), if_neg (Int32.not_le.mpr c32), if_pos (Int32.not_lt.mp c42)]; done) | (rw [if_neg c2, if_neg c12, if_neg (Int32.not_le.mpr c22), if_neg (Int32.not_le.mpr c32), if_neg (Int32.not_le.mpr c42)]; done)
        · refine w_iconst dX10_rank_35 ic_4 ?_
          refine w_top (y := nI 4) (rfl) ?_
          refine w_goto (tgt := 51) dX10_rank_36 (by decide) ?_
          refine w_ireturn dX10_rank_51 rfl rfl ?_
          refine q_e (congrArg nI ?_) hq
          unfold rkN
          first | (rw [if_pos c2]; done) | (rw [if_neg c2, if_pos c12]; done) | (rw [if_neg c2, if_neg c12, if_pos (Int32.not_lt.mp c22)]; done) | (rw [if_neg c2, if_neg c12, if_neg (Int32.not_le.mpr c22), if_pos (Int32.not_lt.mp c32)]; done) | (rw [if_neg c2, if_neg c12, if_neg (Int32.not_le.mpr c22), if_neg (Int32.not_le.mpr c32), if_pos (Int32.not_lt.mp c42)]; done) | (rw [if_neg c2, if_neg c12, if_neg (Int32.not_le.mpr c22), if_neg (Int32.not_le.mpr c32), if_neg (Int32.not_le.mpr c42)]; done)
      · refine w_iconst dX10_rank_25 ic_3 ?_
        refine w_top (y := nI 3) (rfl) ?_
        refine w_goto (tgt := 51) dX10_rank_26 (by decide) ?_
        refine w_ireturn dX10_rank_51 rfl rfl ?_
        refine q_e (congrArg nI ?_) hq
        unfold rkN
        first | (rw [if_pos c2]; done) | (rw [if_neg c2, if_pos c12]; done) | (rw [if_neg c2, if_neg c12, if_pos (Int32.not_lt.mp c22)]; done) | (rw [if_neg c2, if_neg c12, if_neg (Int32.not_le.mpr c22), if_pos (Int32.not_lt.mp c32)]; done) | (rw [if_neg c2, if_neg c12, if_neg (Int32.not_le.mpr c22), if_neg (Int32.not_le.mpr c32), if_pos (Int32.not_lt.mp c42)]; done) | (rw [if_neg c2, if_neg c12, if_neg (Int32.not_le.mpr c22), if_neg (Int32.not_le.mpr c32), if_neg (Int32.not_le.mpr c42)]; done)
    · refine w_iconst dX10_rank_15 ic_2 ?_
      refine w_top (y := nI 2) (rfl) ?_
      refine w_goto (tgt := 51) dX10_rank_16 (by decide) ?_
      refine w_ireturn dX10_rank_51 rfl rfl ?_
      refine q_e (congrArg nI ?_) hq
      unfold rkN
      first | (rw [if_pos c2]; done) | (rw [if_neg c2, if_pos c12]; done) | (rw [if_neg c2, if_neg c12, if_pos (Int32.not_lt.mp c22)]; done) | (rw [if_neg c2, if_neg c12, if_neg (Int32.not_le.mpr c22), if_pos (Int32.not_lt.mp c32)]; done) | (rw [if_neg c2, if_neg c12, if_neg (Int32.not_le.mpr c22), if_neg (Int32.not_le.mpr c32), if_pos (Int32.not_lt.mp c42)]; done) | (rw [if_neg c2, if_neg c12, if_neg (Int32.not_le.mpr c22), if_neg (Int32.not_le.mpr c32), if_neg (Int32.not_le.mpr c42)]; done)
  · refine w_iconst dX10_rank_5 ic_1 ?_
    refine w_top (y := nI 1) (rfl) ?_
    refine w_goto (tgt := 51) dX10_rank_6 (by decide) ?_
    refine w_ireturn dX10_rank_51 rfl rfl ?_
    refine q_e (congrArg nI ?_) hq
    unfold rkN
    first | (rw [if_pos c2]; done) | (rw [if_neg c2, if_pos c12]; done) | (rw [if_neg c2, if_neg c12, if_pos (Int32.not_lt.mp c22)]; done) | (rw [if_neg c2, if_neg c12, if_neg (Int32.not_le.mpr c22), if_pos (Int32.not_lt.mp c32)]; done) | (rw [if_neg c2, if_neg c12, if_neg (Int32.not_le.mpr c22), if_neg (Int32.not_le.mpr c32), if_pos (Int32.not_lt.mp c42)]; done) | (rw [if_neg c2, if_neg c12, if_neg (Int32.not_le.mpr c22), if_neg (Int32.not_le.mpr c32), if_neg (Int32.not_le.mpr c42)]; done)

set_option maxRecDepth 20000 in
theorem sX10_signHere (hs : SK R N) {T : VV} {z : Nat} {t : TKN} (ht : TO T z t) (hM : TM I T z t) (hq : Q (vI (sgB (hnd T t))) I L R N n) : CA sc 0 0 0 mX10_signHere [vR 10 117] I L R N n Q := by
  refine ca_in (al := [_]) rfl ?_
  refine w_aload_n dX10_signHere_0 rfl ?_
  refine w_getI dX10_signHere_1 flX10_220 rfl ?_
  refine w_top (y := nI t.2.2) (hM.2.2.2.1) ?_
  refine w_iconst dX10_signHere_4 ic_3 ?_
  refine w_icmp_eq (tgt := 10) dX10_signHere_5 (by decide) (fun c5 => ?_) (fun c5 => ?_)
  · have hk3 : t.2.2 = 3 := (nI_eq (b := 3) (by have := ht.2.2.2.2.2.2; omega) (by decide)).mp c5
    refine w_aload_n dX10_signHere_10 rfl ?_
    refine w_getI dX10_signHere_11 flX10_226 rfl ?_
    refine w_top (y := hnd T t) ((hM.2.2.2.2.1 (Or.inr hk3)).trans (hnd_3 hk3).symm) ?_
    generalize hnd T t = v at hq ⊢
    by_cases w14_38 : v = 38
    · refine w_lookup (tgt := 98) dX10_signHere_14 rfl (by rw [w14_38]; try rfl) (by decide) ?_
      refine w_bipush dX10_signHere_98 bp_m2 ?_
      refine w_ireturn dX10_signHere_100 rfl rfl ?_
      refine q_e ?_ hq
      first | (subst w14_38; decide) | (subst w14_42; decide) | (subst w14_43; decide) | (subst w14_45; decide) | (subst w14_47; decide) | (subst w14_60; decide) | (subst w14_61; decide) | (subst w14_62; decide) | (subst w14_124; decide) | (have h9 := sg_out ((lv_99 v).resolve_left (fun q => by rcases lv_9 q with e | e | e | e | e | e | e | e | e <;> exact absurd e (by assumption))); exact h9)
    by_cases w14_42 : v = 42
    · refine w_lookup (tgt := 116) dX10_signHere_14 rfl (by rw [w14_42]; try rfl) (by decide) ?_
      refine w_bipush dX10_signHere_116 bp_m8 ?_
      refine w_ireturn dX10_signHere_118 rfl rfl ?_
      refine q_e ?_ hq
      first | (subst w14_38; decide) | (subst w14_42; decide) | (subst w14_43; decide) | (subst w14_45; decide) | (subst w14_47; decide) | (subst w14_60; decide) | (subst w14_61; decide) | (subst w14_62; decide) | (subst w14_124; decide) | (have h9 := sg_out ((lv_99 v).resolve_left (fun q => by rcases lv_9 q with e | e | e | e | e | e | e | e | e <;> exact absurd e (by assumption))); exact h9)
    by_cases w14_43 : v = 43
    · refine w_lookup (tgt := 110) dX10_signHere_14 rfl (by rw [w14_43]; try rfl) (by decide) ?_
      refine w_bipush dX10_signHere_110 bp_m6 ?_
      refine w_ireturn dX10_signHere_112 rfl rfl ?_
      refine q_e ?_ hq
      first | (subst w14_38; decide) | (subst w14_42; decide) | (subst w14_43; decide) | (subst w14_45; decide) | (subst w14_47; decide) | (subst w14_60; decide) | (subst w14_61; decide) | (subst w14_62; decide) | (subst w14_124; decide) | (have h9 := sg_out ((lv_99 v).resolve_left (fun q => by rcases lv_9 q with e | e | e | e | e | e | e | e | e <;> exact absurd e (by assumption))); exact h9)
    by_cases w14_45 : v = 45
    · refine w_lookup (tgt := 113) dX10_signHere_14 rfl (by rw [w14_45]; try rfl) (by decide) ?_
      refine w_bipush dX10_signHere_113 bp_m7 ?_
      refine w_ireturn dX10_signHere_115 rfl rfl ?_
      refine q_e ?_ hq
      first | (subst w14_38; decide) | (subst w14_42; decide) | (subst w14_43; decide) | (subst w14_45; decide) | (subst w14_47; decide) | (subst w14_60; decide) | (subst w14_61; decide) | (subst w14_62; decide) | (subst w14_124; decide) | (have h9 := sg_out ((lv_99 v).resolve_left (fun q => by rcases lv_9 q with e | e | e | e | e | e | e | e | e <;> exact absurd e (by assumption))); exact h9)
    by_cases w14_47 : v = 47
    · refine w_lookup (tgt := 119) dX10_signHere_14 rfl (by rw [w14_47]; try rfl) (by decide) ?_
      refine w_bipush dX10_signHere_119 bp_m9 ?_
      refine w_ireturn dX10_signHere_121 rfl rfl ?_
      refine q_e ?_ hq
      first | (subst w14_38; decide) | (subst w14_42; decide) | (subst w14_43; decide) | (subst w14_45; decide) | (subst w14_47; decide) | (subst w14_60; decide) | (subst w14_61; decide) | (subst w14_62; decide) | (subst w14_124; decide) | (have h9 := sg_out ((lv_99 v).resolve_left (fun q => by rcases lv_9 q with e | e | e | e | e | e | e | e | e <;> exact absurd e (by assumption))); exact h9)
    by_cases w14_60 : v = 60
    · refine w_lookup (tgt := 101) dX10_signHere_14 rfl (by rw [w14_60]; try rfl) (by decide) ?_
      refine w_bipush dX10_signHere_101 bp_m3 ?_
      refine w_ireturn dX10_signHere_103 rfl rfl ?_
      refine q_e ?_ hq
      first | (subst w14_38; decide) | (subst w14_42; decide) | (subst w14_43; decide) | (subst w14_45; decide) | (subst w14_47; decide) | (subst w14_60; decide) | (subst w14_61; decide) | (subst w14_62; decide) | (subst w14_124; decide) | (have h9 := sg_out ((lv_99 v).resolve_left (fun q => by rcases lv_9 q with e | e | e | e | e | e | e | e | e <;> exact absurd e (by assumption))); exact h9)
    by_cases w14_61 : v = 61
    · refine w_lookup (tgt := 104) dX10_signHere_14 rfl (by rw [w14_61]; try rfl) (by decide) ?_
      refine w_bipush dX10_signHere_104 bp_m4 ?_
      refine w_ireturn dX10_signHere_106 rfl rfl ?_
      refine q_e ?_ hq
      first | (subst w14_38; decide) | (subst w14_42; decide) | (subst w14_43; decide) | (subst w14_45; decide) | (subst w14_47; decide) | (subst w14_60; decide) | (subst w14_61; decide) | (subst w14_62; decide) | (subst w14_124; decide) | (have h9 := sg_out ((lv_99 v).resolve_left (fun q => by rcases lv_9 q with e | e | e | e | e | e | e | e | e <;> exact absurd e (by assumption))); exact h9)
    by_cases w14_62 : v = 62
    · refine w_lookup (tgt := 107) dX10_signHere_14 rfl (by rw [w14_62]; try rfl) (by decide) ?_
      refine w_bipush dX10_signHere_107 bp_m5 ?_
      refine w_ireturn dX10_signHere_109 rfl rfl ?_
      refine q_e ?_ hq
      first | (subst w14_38; decide) | (subst w14_42; decide) | (subst w14_43; decide) | (subst w14_45; decide) | (subst w14_47; decide) | (subst w14_60; decide) | (subst w14_61; decide) | (subst w14_62; decide) | (subst w14_124; decide) | (have h9 := sg_out ((lv_99 v).resolve_left (fun q => by rcases lv_9 q with e | e | e | e | e | e | e | e | e <;> exact absurd e (by assumption))); exact h9)
    by_cases w14_124 : v = 124
    · refine w_lookup (tgt := 96) dX10_signHere_14 rfl (by rw [w14_124]; try rfl) (by decide) ?_
      refine w_iconst dX10_signHere_96 ic_m1 ?_
      refine w_ireturn dX10_signHere_97 rfl rfl ?_
      refine q_e ?_ hq
      first | (subst w14_38; decide) | (subst w14_42; decide) | (subst w14_43; decide) | (subst w14_45; decide) | (subst w14_47; decide) | (subst w14_60; decide) | (subst w14_61; decide) | (subst w14_62; decide) | (subst w14_124; decide) | (have h9 := sg_out ((lv_99 v).resolve_left (fun q => by rcases lv_9 q with e | e | e | e | e | e | e | e | e <;> exact absurd e (by assumption))); exact h9)
    refine w_lookup (tgt := 122) dX10_signHere_14 rfl ((lv_osw (k := 38) (a := 38) w14_38 rfl).trans ((lv_osw (k := 42) (a := 42) w14_42 rfl).trans ((lv_osw (k := 43) (a := 43) w14_43 rfl).trans ((lv_osw (k := 45) (a := 45) w14_45 rfl).trans ((lv_osw (k := 47) (a := 47) w14_47 rfl).trans ((lv_osw (k := 60) (a := 60) w14_60 rfl).trans ((lv_osw (k := 61) (a := 61) w14_61 rfl).trans ((lv_osw (k := 62) (a := 62) w14_62 rfl).trans ((lv_osw (k := 124) (a := 124) w14_124 rfl).trans rfl))))))))) rfl ?_
    refine w_iconst dX10_signHere_122 ic_0 ?_
    refine w_ireturn dX10_signHere_123 rfl rfl ?_
    refine q_e ?_ hq
    first | (subst w14_38; decide) | (subst w14_42; decide) | (subst w14_43; decide) | (subst w14_45; decide) | (subst w14_47; decide) | (subst w14_60; decide) | (subst w14_61; decide) | (subst w14_62; decide) | (subst w14_124; decide) | (have h9 := sg_out ((lv_99 v).resolve_left (fun q => by rcases lv_9 q with e | e | e | e | e | e | e | e | e <;> exact absurd e (by assumption))); exact h9)
  · have hk3 : ¬ t.2.2 = 3 := fun q => c5 (by rw [q]; rfl)
    refine w_iconst dX10_signHere_8 ic_0 ?_
    refine w_ireturn dX10_signHere_9 rfl rfl ?_
    exact q_e (sg_n3 ht hk3) hq

set_option maxRecDepth 20000 in
theorem sX10_notsOpen (hs : SK R N) {W : List Int32} (hW : SR (I 133) W) (h30 : I 117 30 = nI W.length) (hl : W.length ≤ 96) (hq : Q (vI (nI (nots W))) I L R N n) : CA sc 0 0 0 mX10_notsOpen [vR 10 117] I L R N n Q := by
  have lp : ∀ (k i : Nat), i + k = W.length → WP sc 0 0 0 mX10_notsOpen 4 [vR 10 117, vI (nI (nots (W.drop (W.length - i)))), vI (nI i)] [] I L R N n Q := by
    intro k
    induction k with
    | zero =>
      intro i hi
      refine w_iload_n dX10_notsOpen_4 rfl ?_
      refine w_aload_n dX10_notsOpen_5 rfl ?_
      refine w_getI dX10_notsOpen_6 flX10_238 rfl ?_
      refine w_top (y := nI W.length) (h30) ?_
      refine w_icmp_ge (tgt := 37) dX10_notsOpen_9 (by decide) (fun c9 => ?_) (fun c9 => ?_)
      · refine w_iload_n dX10_notsOpen_37 rfl ?_
        refine w_ireturn dX10_notsOpen_38 rfl rfl ?_
        obtain rfl : i = W.length := by omega
        rw [Nat.sub_self] at *
        exact hq
      · exact absurd (nI_le (a := W.length) (by omega) (by omega)) c9
    | succ k ih =>
      intro i hi
      refine w_iload_n dX10_notsOpen_4 rfl ?_
      refine w_aload_n dX10_notsOpen_5 rfl ?_
      refine w_getI dX10_notsOpen_6 flX10_238 rfl ?_
      refine w_top (y := nI W.length) (h30) ?_
      refine w_icmp_ge (tgt := 37) dX10_notsOpen_9 (by decide) (fun c9 => ?_) (fun c9 => ?_)
      · exact absurd ((nI_leI (by omega) (by omega)).mp c9) (by omega)
      · refine w_iload_n dX10_notsOpen_12 rfl ?_
        refine w_aload_n dX10_notsOpen_13 rfl ?_
        refine w_getR dX10_notsOpen_14 flX10_57 rfl (hs.r (a := 117) (j := 29) (b := 133) 131 rfl) ?_
        refine w_iload_n dX10_notsOpen_17 rfl ?_
        refine w_iald dX10_notsOpen_18 rfl (hs.n (a := 133) (z := 96) 87 rfl) (by omega) ?_
        refine w_top (y := W.getD (W.length - 1 - i) 0) (hW i (by omega)) ?_
        refine w_bipush dX10_notsOpen_19 bp_m10 ?_
        refine w_icmp_ne (tgt := 28) dX10_notsOpen_21 (by decide) (fun c21 => ?_) (fun c21 => ?_)
        · refine w_iconst dX10_notsOpen_28 ic_0 ?_
          refine w_iadd dX10_notsOpen_29 ?_
          refine w_top (y := nI (nots (W.drop (W.length - (i + 1))))) (by rw [nots_drop W (by omega), if_neg c21, Int32.add_zero]; rfl) ?_
          refine w_istore_n (al' := [_, _, _]) dX10_notsOpen_30 rfl rfl rfl ?_
          refine w_iinc (al' := [_, _, _]) dX10_notsOpen_31 rfl rfl ic_1 rfl ?_
          refine w_goto (tgt := 4) dX10_notsOpen_34 (by decide) ?_
          rw [nI_1]
          exact ih (i + 1) (by omega)
        · refine w_iconst dX10_notsOpen_24 ic_1 ?_
          refine w_goto (tgt := 29) dX10_notsOpen_25 (by decide) ?_
          refine w_iadd dX10_notsOpen_29 ?_
          refine w_top (y := nI (nots (W.drop (W.length - (i + 1))))) (by rw [nots_drop W (by omega), if_pos c21]; exact nI_1 _) ?_
          refine w_istore_n (al' := [_, _, _]) dX10_notsOpen_30 rfl rfl rfl ?_
          refine w_iinc (al' := [_, _, _]) dX10_notsOpen_31 rfl rfl ic_1 rfl ?_
          refine w_goto (tgt := 4) dX10_notsOpen_34 (by decide) ?_
          rw [nI_1]
          exact ih (i + 1) (by omega)
  refine ca_in (al := [_, _, _]) rfl ?_
  refine w_iconst dX10_notsOpen_0 ic_0 ?_
  refine w_top (y := nI (nots (W.drop (W.length - 0)))) (by rw [Nat.sub_zero, List.drop_length]; rfl) ?_
  refine w_istore_n (al' := [_, _, _]) dX10_notsOpen_1 rfl rfl rfl ?_
  refine w_iconst dX10_notsOpen_2 ic_0 ?_
  refine w_top (y := nI 0) (rfl) ?_
  refine w_istore_n (al' := [_, _, _]) dX10_notsOpen_3 rfl rfl rfl ?_
  exact lp W.length 0 (Nat.zero_add _)

theorem rk_6 (g : Int32) : rkN g ≤ 6 := by
  unfold rkN
  repeat' split
  all_goals decide
set_option maxRecDepth 20000 in
theorem sX10_settle (hs : SK R N) {r : Nat} {W0 C0 : List Int32} (hr : r ≤ 6) (hl : W0.length + C0.length ≤ 96) (hW0 : SR (I 133) W0) (h300 : I 117 30 = nI W0.length) (hC0 : SR (I 132) C0) (h270 : I 117 27 = nI C0.length) (hq : ∀ I' : HI, (∀ q, q ≠ 117 → q ≠ 132 → I' q = I q) → (∀ j, j ≠ 27 → j ≠ 30 → I' 117 j = I 117 j) → SR (I' 133) (stl r W0 C0).1 → I' 117 30 = nI (stl r W0 C0).1.length → SR (I' 132) (stl r W0 C0).2 → I' 117 27 = nI (stl r W0 C0).2.length → Q vU I' L R N n) : CA sc 1 0 0 mX10_settle [vR 10 117, vI (nI r)] I L R N n Q := by
  have lp : ∀ (k : Nat) (W C : List Int32) (I1 : HI), W.length = k → W.length + C.length ≤ 96 → (∀ q, q ≠ 117 → q ≠ 132 → I1 q = I q) → (∀ j, j ≠ 27 → j ≠ 30 → I1 117 j = I 117 j) → SR (I1 133) W → I1 117 30 = nI W.length → SR (I1 132) C → I1 117 27 = nI C.length → stl r W C = stl r W0 C0 → WP sc 1 0 0 mX10_settle 0 [vR 10 117, vI (nI r)] [] I1 L R N n Q := by
    intro k
    induction k with
    | zero =>
      intro W C I1 hk hlen hA1 hB1 hW h30 hC h27 heq
      obtain rfl := List.length_eq_zero_iff.mp hk
      refine w_aload_n dX10_settle_0 rfl ?_
      refine w_getI dX10_settle_1 flX10_238 rfl ?_
      refine w_top (y := nI 0) (h30) ?_
      refine w_if_le (tgt := 82) dX10_settle_4 (by decide) (fun c4 => ?_) (fun c4 => ?_)
      · refine w_return dX10_settle_82 rfl ?_
        refine hq I1 hA1 hB1 ?_ ?_ ?_ ?_ <;> rw [← heq, stl]
        · exact hW
        · exact h30
        · exact hC
        · exact h27
      · exact absurd (show nI 0 ≤ 0 by decide) c4
    | succ k ih =>
      intro W C I1 hk hlen hA1 hB1 hW h30 hC h27 heq
      obtain ⟨x, Wt, rfl⟩ : ∃ x Wt, W = x :: Wt := by
        cases W with
        | nil => cases hk
        | cons x Wt => exact ⟨x, Wt, rfl⟩
      rw [List.length_cons] at hlen h30 hk
      refine w_aload_n dX10_settle_0 rfl ?_
      refine w_getI dX10_settle_1 flX10_238 rfl ?_
      refine w_top (y := nI (Wt.length + 1)) (h30) ?_
      refine w_if_le (tgt := 82) dX10_settle_4 (by decide) (fun c4 => ?_) (fun c4 => ?_)
      · exact absurd c4 (nI_nle (by omega) (by omega))
      · refine w_aload_n dX10_settle_7 rfl ?_
        refine w_getR dX10_settle_8 flX10_57 rfl (hs.r (a := 117) (j := 29) (b := 133) 131 rfl) ?_
        refine w_aload_n dX10_settle_11 rfl ?_
        refine w_getI dX10_settle_12 flX10_238 rfl ?_
        refine w_top (y := nI (Wt.length + 1)) (h30) ?_
        refine w_iconst dX10_settle_15 ic_1 ?_
        refine w_isub dX10_settle_16 ?_
        refine w_top (y := nI Wt.length) (nI_pred _) ?_
        refine w_iald dX10_settle_17 rfl (hs.n (a := 133) (z := 96) 87 rfl) (by omega) ?_
        refine w_top (y := x) (SR_top hW) ?_
        refine w_bipush dX10_settle_18 bp_m11 ?_
        refine w_icmp_eq (tgt := 82) dX10_settle_20 (by decide) (fun c20 => ?_) (fun c20 => ?_)
        · have hno : ¬ (x ≠ -11 ∧ r ≤ rkN x) := fun q => q.1 c20
          refine w_return dX10_settle_82 rfl ?_
          refine hq I1 hA1 hB1 ?_ ?_ ?_ ?_ <;> rw [← heq, stl_stop hno]
          · exact hW
          · exact h30
          · exact hC
          · exact h27
        · refine w_aload_n dX10_settle_23 rfl ?_
          refine w_getR dX10_settle_24 flX10_57 rfl (hs.r (a := 117) (j := 29) (b := 133) 131 rfl) ?_
          refine w_aload_n dX10_settle_27 rfl ?_
          refine w_getI dX10_settle_28 flX10_238 rfl ?_
          refine w_top (y := nI (Wt.length + 1)) (h30) ?_
          refine w_iconst dX10_settle_31 ic_1 ?_
          refine w_isub dX10_settle_32 ?_
          refine w_top (y := nI Wt.length) (nI_pred _) ?_
          refine w_iald dX10_settle_33 rfl (hs.n (a := 133) (z := 96) 87 rfl) (by omega) ?_
          refine w_top (y := x) (SR_top hW) ?_
          refine c_S (as := [_]) (d' := 0) dX10_settle_34 (Or.inl mlX10_241) moX10_rank msX10_rank rfl rfl rfl rfl rfl (by decide) (sX10_rank ?_)
          refine w_iload_n dX10_settle_37 rfl ?_
          refine w_icmp_lt (tgt := 82) dX10_settle_38 (by decide) (fun c38 => ?_) (fun c38 => ?_)
          · have hno : ¬ (x ≠ -11 ∧ r ≤ rkN x) := fun q => absurd c38 (nI_nlt q.2 (by have := rk_6 x; omega))
            refine w_return dX10_settle_82 rfl ?_
            refine hq I1 hA1 hB1 ?_ ?_ ?_ ?_ <;> rw [← heq, stl_stop hno]
            · exact hW
            · exact h30
            · exact hC
            · exact h27
          · have hyes : x ≠ -11 ∧ r ≤ rkN x := ⟨c20, Nat.le_of_not_lt (fun q => c38 (nI_lt q (by omega)))⟩
            refine w_aload_n dX10_settle_41 rfl ?_
            refine w_dup dX10_settle_42 rfl ?_
            refine w_getI dX10_settle_43 flX10_238 rfl ?_
            refine w_top (y := nI (Wt.length + 1)) (h30) ?_
            refine w_iconst dX10_settle_46 ic_1 ?_
            refine w_isub dX10_settle_47 ?_
            refine w_top (y := nI Wt.length) (nI_pred _) ?_
            refine w_putI dX10_settle_48 flX10_238 rfl rfl rfl rfl ?_
            refine w_st (fun I2 hA2 hB2 hC2 => ?_)
            refine w_aload_n dX10_settle_51 rfl ?_
            refine w_getR dX10_settle_52 flX10_54 rfl (hs.r (a := 117) (j := 26) (b := 132) 130 rfl) ?_
            refine w_aload_n dX10_settle_55 rfl ?_
            refine w_getI dX10_settle_56 flX10_244 rfl ?_
            refine w_top (y := nI C.length) ((hB2 27 (by decide)).trans h27) ?_
            refine w_aload_n dX10_settle_59 rfl ?_
            refine w_getR dX10_settle_60 flX10_57 rfl (hs.r (a := 117) (j := 29) (b := 133) 131 rfl) ?_
            refine w_aload_n dX10_settle_63 rfl ?_
            refine w_getI dX10_settle_64 flX10_238 rfl ?_
            refine w_top (y := nI Wt.length) (hC2) ?_
            refine w_iald dX10_settle_67 rfl (hs.n (a := 133) (z := 96) 87 rfl) (by omega) ?_
            refine w_top (y := x) (by rw [hA2 133 (by decide)]; exact SR_top hW) ?_
            refine w_iast dX10_settle_68 rfl (hs.n (a := 132) (z := 96) 86 rfl) (by omega) ?_
            refine w_heap (fun I3 e3 => ?_)
            refine w_aload_n dX10_settle_69 rfl ?_
            refine w_dup dX10_settle_70 rfl ?_
            refine w_getI dX10_settle_71 flX10_244 rfl ?_
            refine w_top (y := nI C.length) (by rw [e3, va_up_ne _ _ (by decide)]; exact (hB2 27 (by decide)).trans h27) ?_
            refine w_iconst dX10_settle_74 ic_1 ?_
            refine w_iadd dX10_settle_75 ?_
            refine w_top (y := nI (C.length + 1)) (nI_1 _) ?_
            refine w_putI dX10_settle_76 flX10_244 rfl rfl rfl rfl ?_
            refine w_st (fun I4 hA4 hB4 hC4 => ?_)
            refine w_goto (tgt := 0) dX10_settle_79 (by decide) ?_
            have h34 : ∀ q, q ≠ 132 → I3 q = I2 q := fun q hq => by rw [e3, va_up_ne _ _ hq]
            refine ih Wt (x :: C) I4 (by omega) (by rw [List.length_cons]; omega) (fun q a b => (hA4 q a).trans ((h34 q b).trans ((hA2 q a).trans (hA1 q a b)))) (fun j a b => (hB4 j a).trans ((congrFun (h34 117 (by decide)) j).trans ((hB2 j b).trans (hB1 j a b)))) ?_ ?_ ?_ hC4 (by rw [← heq, stl_pop hyes])
            · rw [hA4 133 (by decide), h34 133 (by decide), hA2 133 (by decide)]; exact SR_tl hW
            · rw [hB4 30 (by decide), h34 117 (by decide)]; exact hC2
            · rw [hA4 132 (by decide), e3, va_up_self]; refine SR_push x ?_; rw [hA2 132 (by decide)]; exact hC
  refine ca_in (al := [_, _]) rfl ?_
  exact lp W0.length W0 C0 I rfl hl (fun _ _ _ => rfl) (fun _ _ _ => rfl) hW0 h300 hC0 h270 rfl

theorem sX10_settleR (hs : SK R N) {r : Nat} {T : VV} {z key : Nat} {t : TKN} {W C : List Int32} {a : Nat} (hr : r ≤ 6) (hl : W.length + C.length ≤ 96) (hM : RM I T z key t W C a) (hq : ∀ I' : HI, FRR I I' → I' 134 = I 134 → RM I' T z key t (stl r W C).1 (stl r W C).2 a → Q vU I' L R N n) : CA sc 1 0 0 mX10_settle [vR 10 117, vI (nI r)] I L R N n Q := by
  obtain ⟨h1, h2, h3, h4, h5, h6, h7⟩ := hM
  refine sX10_settle hs hr hl h6 h7 h3 h4 (fun I' hA hB g1 g2 g3 g4 => ?_)
  exact hq I' ⟨fun q a b c d => hA q a b, fun j hj => hB j (by omega) (by omega)⟩ (hA 134 (by decide) (by decide)) ⟨h1.keep (fun j a b => hB j (by omega) (by omega)) (hA 129 (by decide) (by decide)), (hB 23 (by decide) (by decide)).trans h2, g3, g4, (hB 28 (by decide) (by decide)).trans h5, g1, g2⟩
end
