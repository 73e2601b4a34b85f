section
variable {sc : SC} {I : HI} {L : HL} {R : HR} {N : HN} {n : Nat} {Q : HQ}
theorem drawV_nn (z : Int32) : ¬ drawV z < 0 := by
  intro h
  have h1 : (drawV z).toBitVec.toNat = z.toBitVec.toNat / 2 ^ 8 := pk_ushr z 8 8 rfl
  have h2 : z.toBitVec.toNat < 2 ^ 32 := z.toBitVec.isLt
  have h3 := Int32.lt_iff_toInt_lt.mp h
  have h4 : (drawV z).toInt = (drawV z).toBitVec.toInt := rfl
  rw [h4, BitVec.toInt_eq_toNat_of_lt (by omega)] at h3
  have h5 : (0 : Int32).toInt = 0 := rfl
  omega
theorem rem_rng {x : Int32} (hx : ¬ x < 0) (m : Nat) (hm : 0 < m ∧ m < 1000) : inN (remI x (nI m)) 0 (m - 1) := by
  obtain ⟨j, hj, rfl⟩ := nI_of hx
  refine ⟨j % m, Nat.zero_le _, by have := Nat.mod_lt j hm.1; omega, ?_⟩
  unfold remI
  rw [nI_div (by omega) (by omega) hm.1, nI_mul, nI_sub (Nat.div_mul_le_self j m)]
  congr 1
  have := Nat.div_add_mod j m
  rw [Nat.mul_comm] at this
  omega
def z1 (V : VV) : Int32 := drawZ (V 0)
def z2 (V : VV) : Int32 := drawZ (z1 V)
def z3 (V : VV) : Int32 := drawZ (z2 V)
def z4 (V : VV) : Int32 := drawZ (z3 V)
def z5 (V : VV) : Int32 := drawZ (z4 V)
def dealA (V : VV) : VV := addS (va_up V 0 (z3 V)) (remI (drawV (z1 V)) 100) (remI (drawV (z2 V)) 101) (remI (drawV (z3 V)) 100)
def dealB (V : VV) : VV := va_up (va_up (dealA V) 0 (z4 V)) (6 + 7 * nS V + 3) (remI (drawV (z4 V)) 10)
def dealS (V : VV) : VV := va_up (va_up (dealB V) 0 (z5 V)) (6 + 7 * nS V + 5) (remI (drawV (z5 V)) 20)
theorem dealA_0 {V : VV} (h : nS V < 6) : dealA V 0 = z3 V := by
  unfold dealA
  rw [addS_off _ _ _ _ (by decide) (Or.inl (by omega)), va_up_self]
theorem dealA_n {V : VV} (hV : VO V) : dealA V 1 = nI (nS V + 1) ∧ nS (dealA V) = nS V + 1 := by
  have h := addS_n (hV.dice (z3 V)) (remI (drawV (z1 V)) 100) (remI (drawV (z2 V)) 101) (remI (drawV (z3 V)) 100)
  rw [nS_0] at h
  exact h
theorem VO_dealA {V : VV} (hV : VO V) (h : nS V < 6) : VO (dealA V) := (hV.dice (z3 V)).oS (by rw [nS_0]; exact h) (rem_rng (drawV_nn _) 100 (by decide)) (rem_rng (drawV_nn _) 101 (by decide))
theorem dealB_n {V : VV} (hV : VO V) : nS (va_up (dealA V) 0 (z4 V)) = nS V + 1 := (nS_0 _ _).trans (dealA_n hV).2
theorem VO_dealB {V : VV} (hV : VO V) (h : nS V < 6) : VO (dealB V) ∧ nS (dealB V) = nS V + 1 :=
  ⟨((VO_dealA hV h).dice (z4 V)).cell (by rw [dealB_n hV]; omega) (by decide) (fun e => absurd e (by decide)) (fun e => absurd e (by decide)), (nS_hi (by omega)).trans (dealB_n hV)⟩
theorem dealB_0 {V : VV} (h : nS V < 6) : dealB V 0 = z4 V := (va_up_ne _ _ (by omega)).trans (va_up_self _ _ _)
theorem VO_dealS {V : VV} (hV : VO V) (h : nS V < 6) : VO (dealS V) ∧ nS (dealS V) = nS V + 1 := by
  obtain ⟨h1, h2⟩ := VO_dealB hV h
  exact ⟨(h1.dice (z5 V)).cell (by rw [nS_0]; omega) (by decide) (fun e => absurd e (by decide)) (fun e => absurd e (by decide)), (nS_hi (by omega)).trans ((nS_0 _ _).trans h2)⟩
def dealK (V : VV) : Nat → VV
  | 0 => V
  | i + 1 => dealS (dealK V i)
theorem VO_dealK {V : VV} (hV : VO V) : ∀ i, nS V + i ≤ 6 → VO (dealK V i) ∧ nS (dealK V i) = nS V + i
  | 0, _ => ⟨hV, rfl⟩
  | i + 1, h => by
    obtain ⟨h1, h2⟩ := VO_dealK hV i (by omega)
    obtain ⟨h3, h4⟩ := VO_dealS h1 (by omega)
    exact ⟨h3, by show nS (dealS (dealK V i)) = _; omega⟩
def dealC (V : VV) (a : Int32) : Nat := min a.toNatClampNeg (6 - nS V)
noncomputable def oDeal (V : VV) (a : Int32) : VV × Int32 := cif (1 ≤ a ∧ a ≤ 6) (dealK V (dealC V a), nI (dealC V a)) (V, -1000000001)
theorem VO_oDeal {V : VV} (hV : VO V) (a : Int32) : VO (oDeal V a).1 := by
  unfold oDeal
  by_cases h : 1 ≤ a ∧ a ≤ 6
  · rw [cif_t h]; exact (VO_dealK hV _ (by have := hV.1.2; unfold dealC; omega)).1
  · rw [cif_f h]; exact hV
theorem one_of {a : Int32} {m : Nat} (hm : m < 2147483648) (h : 1 ≤ a ∧ a ≤ nI m) : ∃ k, 1 ≤ k ∧ k ≤ m ∧ a = nI k := by
  obtain ⟨k, hk, rfl⟩ := in_of hm ⟨Int32.le_trans (by decide) h.1, h.2⟩
  exact ⟨k, (nI_leI (a := 1) (by omega) (by omega)).mp h.1, hk, rfl⟩

set_option maxRecDepth 20000 in
theorem sX8_drawSort (hs : SK R N) {w : Nat} (hw : w = 1 ∨ w = 30) {V : VV} (hV : VO V) (hC : WC I R N n w V) (h6 : nS V < 6)
    (hq : ∀ I' : HI, (∀ q, q ≠ w → q ≠ w + 2 + nS V → q ≠ w + 11 → I' q = I q) → WC I' R N n w (dealS V) → Q vU I' L R N n) : CA sc 2 0 0 mX8_drawSort [vR 8 w] I L R N n Q := by
  have hW0 := hC
  have hz0 : I (w + 11) 0 = V 0 := hC.1.2.2.2.2.2
  refine ca_in (al := [_, _, _, _, _]) rfl ?_
  refine w_aload_n dX8_drawSort_0 rfl ?_
  refine w_getR dX8_drawSort_1 flX8_52 rfl (hs.wr (j := 9) (o := 11) hw 13 41 rfl rfl) ?_
  refine w_bipush dX8_drawSort_4 bp_100 ?_
  refine c_V (t := 0) (as := [_]) (d' := 0) dX8_drawSort_6 mlX8_78 moX0_restBy mvX0_restBy ⟨rfl, rfl⟩ rfl rfl rfl rfl rfl (by decide) (sX0_restBy (by decide) ?_)
  refine w_top (y := remI (drawV (z1 V)) 100) (by rw [hz0, z1]) ?_
  refine w_heap (fun I1 e1 => ?_)
  have hA1 : ∀ q, q ≠ w + 11 → I1 q = I q := fun q h => by rw [e1]; exact va_up_ne _ _ h
  have hW1 : WC I1 R N n w (va_up V 0 (z1 V)) := by rw [e1, hz0]; exact hC.dice hV hw _
  have hz1 : I1 (w + 11) 0 = z1 V := hW1.1.2.2.2.2.2
  clear e1
  refine w_istore_n (al' := [_, _, _, _, _]) dX8_drawSort_9 rfl rfl rfl ?_
  refine w_aload_n dX8_drawSort_10 rfl ?_
  refine w_getR dX8_drawSort_11 flX8_52 rfl (hs.wr (j := 9) (o := 11) hw 13 41 rfl rfl) ?_
  refine w_bipush dX8_drawSort_14 bp_101 ?_
  refine c_V (t := 0) (as := [_]) (d' := 0) dX8_drawSort_16 mlX8_78 moX0_restBy mvX0_restBy ⟨rfl, rfl⟩ rfl rfl rfl rfl rfl (by decide) (sX0_restBy (by decide) ?_)
  refine w_top (y := remI (drawV (z2 V)) 101) (by rw [hz1, z2]) ?_
  refine w_heap (fun I2 e2 => ?_)
  have hA2 : ∀ q, q ≠ w + 11 → I2 q = I1 q := fun q h => by rw [e2]; exact va_up_ne _ _ h
  have hW2 : WC I2 R N n w (va_up V 0 (z2 V)) := by have hx := hW1.dice (hV.dice _) hw (z2 V); rw [up_up] at hx; rw [e2, hz1]; exact hx
  have hz2 : I2 (w + 11) 0 = z2 V := hW2.1.2.2.2.2.2
  clear e2
  refine w_istore_n (al' := [_, _, _, _, _]) dX8_drawSort_19 rfl rfl rfl ?_
  refine w_aload_n dX8_drawSort_20 rfl ?_
  refine w_getR dX8_drawSort_21 flX8_52 rfl (hs.wr (j := 9) (o := 11) hw 13 41 rfl rfl) ?_
  refine w_bipush dX8_drawSort_24 bp_100 ?_
  refine c_V (t := 0) (as := [_]) (d' := 0) dX8_drawSort_26 mlX8_78 moX0_restBy mvX0_restBy ⟨rfl, rfl⟩ rfl rfl rfl rfl rfl (by decide) (sX0_restBy (by decide) ?_)
  refine w_top (y := remI (drawV (z3 V)) 100) (by rw [hz2, z3]) ?_
  refine w_heap (fun I3 e3 => ?_)
  have hA3 : ∀ q, q ≠ w + 11 → I3 q = I2 q := fun q h => by rw [e3]; exact va_up_ne _ _ h
  have hW3 : WC I3 R N n w (va_up V 0 (z3 V)) := by have hx := hW2.dice (hV.dice _) hw (z3 V); rw [up_up] at hx; rw [e3, hz2]; exact hx
  have hz3 : I3 (w + 11) 0 = z3 V := hW3.1.2.2.2.2.2
  clear e3
  refine w_istore_n (al' := [_, _, _, _, _]) dX8_drawSort_29 rfl rfl rfl ?_
  refine w_aload_n dX8_drawSort_30 rfl ?_
  refine w_iload_n dX8_drawSort_31 rfl ?_
  refine w_iload_n dX8_drawSort_32 rfl ?_
  refine w_iload_n dX8_drawSort_33 rfl ?_
  refine c_V (t := 8) (as := [_, _, _]) (d' := 0) dX8_drawSort_34 mlX8_82 moX8_addSort mvX8_addSort ⟨rfl, rfl⟩ rfl rfl rfl rfl rfl (by decide) (sX8_addSort hs hw (hV.dice (z3 V)) hW3 (by rw [nS_0]; exact h6) (fun I4 hI4 hW4 => ?_))
  rw [nS_0] at hI4 ⊢
  have hW4 : WC I4 R N n w (dealA V) := hW4
  have hz4 : I4 (w + 11) 0 = z3 V := hW4.1.2.2.2.2.2.trans (dealA_0 h6)
  have hn4 := dealA_n hV
  refine w_istore (al' := [_, _, _, _, _]) dX8_drawSort_37 rfl rfl rfl ?_
  refine w_aload_n dX8_drawSort_39 rfl ?_
  refine w_iload dX8_drawSort_40 rfl ?_
  refine c_V (t := 8) (as := [_]) (d' := 1) dX8_drawSort_42 mlX8_86 moX8_hasSort mvX8_hasSort ⟨rfl, rfl⟩ rfl rfl rfl rfl rfl (by decide) (sX8_hasSort ?_)
  refine w_ifB_eq (tgt := 84) dX8_drawSort_45 (by decide) (fun c45 => ?_) (fun c45 => ?_)
  · exact absurd (by rw [hW4.1.1, hn4.1]; exact pr_to (by omega) (by omega)) c45
  · refine w_aload_n dX8_drawSort_48 rfl ?_
    refine w_getR dX8_drawSort_49 flX8_11 rfl (hs.wr (j := 0) (o := 1) hw 9 37 rfl rfl) ?_
    refine w_iload dX8_drawSort_52 rfl ?_
    refine w_aaldI dX8_drawSort_54 rfl (hs.wn (o := 1) (z := 6) hw 0 19 rfl rfl) (by omega) (hs.rows hw (by omega)).1 ?_
    refine w_iconst dX8_drawSort_55 ic_3 ?_
    refine w_aload_n dX8_drawSort_56 rfl ?_
    refine w_getR dX8_drawSort_57 flX8_52 rfl (hs.wr (j := 9) (o := 11) hw 13 41 rfl rfl) ?_
    refine w_bipush dX8_drawSort_60 bp_10 ?_
    refine c_V (t := 0) (as := [_]) (d' := 0) dX8_drawSort_62 mlX8_78 moX0_restBy mvX0_restBy ⟨rfl, rfl⟩ rfl rfl rfl rfl rfl (by decide) (sX0_restBy (by decide) ?_)
    refine w_top (y := remI (drawV (z4 V)) 10) (by rw [hz4, z4]) ?_
    refine w_heap (fun I5 e5 => ?_)
    have hA5 : ∀ q, q ≠ w + 11 → I5 q = I4 q := fun q h => by rw [e5]; exact va_up_ne _ _ h
    have hW5 : WC I5 R N n w (va_up (dealA V) 0 (z4 V)) := by rw [e5, hz4]; exact hW4.dice (VO_dealA hV h6) hw _
    have hz5 : I5 (w + 11) 0 = z4 V := hW5.1.2.2.2.2.2
    clear e5
    refine w_iast (q := 3) dX8_drawSort_65 rfl (hs.rows hw (by omega)).2 (by decide) ?_
    refine w_heap (fun I6 e6 => ?_)
    have hA6 : ∀ q, q ≠ w + 2 + nS V → I6 q = I5 q := fun q h => by rw [e6]; exact va_up_ne _ _ h
    have hW6 : WC I6 R N n w (dealB V) := by rw [e6]; exact hW5.cell ((VO_dealA hV h6).dice _) hw _ (by rw [dealB_n hV]; omega) (by decide)
    have hz6 : I6 (w + 11) 0 = z4 V := hW6.1.2.2.2.2.2.trans (dealB_0 h6)
    clear e6
    refine w_aload_n dX8_drawSort_66 rfl ?_
    refine w_getR dX8_drawSort_67 flX8_11 rfl (hs.wr (j := 0) (o := 1) hw 9 37 rfl rfl) ?_
    refine w_iload dX8_drawSort_70 rfl ?_
    refine w_aaldI dX8_drawSort_72 rfl (hs.wn (o := 1) (z := 6) hw 0 19 rfl rfl) (by omega) (hs.rows hw (by omega)).1 ?_
    refine w_iconst dX8_drawSort_73 ic_5 ?_
    refine w_aload_n dX8_drawSort_74 rfl ?_
    refine w_getR dX8_drawSort_75 flX8_52 rfl (hs.wr (j := 9) (o := 11) hw 13 41 rfl rfl) ?_
    refine w_bipush dX8_drawSort_78 bp_20 ?_
    refine c_V (t := 0) (as := [_]) (d' := 0) dX8_drawSort_80 mlX8_78 moX0_restBy mvX0_restBy ⟨rfl, rfl⟩ rfl rfl rfl rfl rfl (by decide) (sX0_restBy (by decide) ?_)
    refine w_top (y := remI (drawV (z5 V)) 20) (by rw [hz6, z5]) ?_
    refine w_heap (fun I7 e7 => ?_)
    have hA7 : ∀ q, q ≠ w + 11 → I7 q = I6 q := fun q h => by rw [e7]; exact va_up_ne _ _ h
    have hW7 : WC I7 R N n w (va_up (dealB V) 0 (z5 V)) := by rw [e7, hz6]; exact hW6.dice (VO_dealB hV h6).1 hw _
    have hz7 : I7 (w + 11) 0 = z5 V := hW7.1.2.2.2.2.2
    clear e7
    refine w_iast (q := 5) dX8_drawSort_83 rfl (hs.rows hw (by omega)).2 (by decide) ?_
    refine w_return dX8_drawSort_84 rfl ?_
    refine hq _ (fun q a1 a2 a3 => ?_) (hW7.cell ((VO_dealB hV h6).1.dice _) hw _ (by rw [nS_0, (VO_dealB hV h6).2]; omega) (by decide))
    rw [va_up_ne _ _ a2, hA7 q a3, hA6 q a2, hA5 q a3, hI4 q a1 a2, hA3 q a3, hA2 q a3, hA1 q a3]

set_option maxRecDepth 20000 in
theorem lX9_deal (hs : SK R N) {V : VV} (hV : VO V) (hC : WC I R N n 1 V) {a c : Nat} (hc : nS V + c ≤ 6) (hq : ∀ I' : HI, (∀ q, FC q → I' q = I q) → WC I' R N n 1 (dealK V c) → Q (vI (nI c)) I' L R N n) : WP sc 3 0 0 mX9_deal 30 [vR 9 0, vI (nI a), vI (nI c), vI (nI 0)] [] I L R N n Q := by
  have h6 := hV.1.2
  have lp : ∀ (k j : Nat) (I1 : HI), j + k = c → (∀ q, FC q → I1 q = I q) → WC I1 R N n 1 (dealK V j) → WP sc 3 0 0 mX9_deal 30 [vR 9 0, vI (nI a), vI (nI c), vI (nI j)] [] I1 L R N n Q := by
    intro k
    induction k with
    | zero =>
      intro j I1 hj hI1 hC1
      refine w_iload_n dX9_deal_30 rfl ?_
      refine w_iload_n dX9_deal_31 rfl ?_
      refine w_icmp_ge (tgt := 48) dX9_deal_32 (by decide) (fun c32 => ?_) (fun c32 => ?_)
      · obtain rfl : j = c := by omega
        refine w_iload_n dX9_deal_48 rfl ?_
        refine w_ireturn dX9_deal_49 rfl rfl ?_
        exact hq I1 hI1 hC1
      · exact absurd (nI_le (a := c) (by omega) (by omega)) c32
    | succ k ih =>
      intro j I1 hj hI1 hC1
      refine w_iload_n dX9_deal_30 rfl ?_
      refine w_iload_n dX9_deal_31 rfl ?_
      refine w_icmp_ge (tgt := 48) dX9_deal_32 (by decide) (fun c32 => ?_) (fun c32 => ?_)
      · exact absurd ((nI_leI (by omega) (by omega)).mp c32) (by omega)
      · refine w_aload_n dX9_deal_35 rfl ?_
        refine w_getR dX9_deal_36 flX9_10 rfl (hs.r (a := 0) (j := 0) (b := 1) 0 rfl) ?_
        obtain ⟨hv, hn⟩ := VO_dealK hV j (by omega)
        refine c_Vv (t := 8) (as := []) (d' := 2) dX9_deal_39 mlX9_103 moX8_drawSort mvX8_drawSort ⟨rfl, rfl⟩ rfl rfl rfl rfl rfl (by decide) (sX8_drawSort hs (Or.inl rfl) hv hC1 (by omega) (fun I2 hI2 hC2 => ?_))
        refine w_iinc (al' := [_, _, _, _]) dX9_deal_42 rfl rfl ic_1 rfl ?_
        refine w_goto (tgt := 30) dX9_deal_45 (by decide) ?_
        simp only [nI_1]
        exact ih (j + 1) I2 (by omega) (fun q h => (hI2 q (by unfold FC at h; omega) (by unfold FC at h; omega) (by unfold FC at h; omega)).trans (hI1 q h)) hC2
  exact lp c 0 I (Nat.zero_add _) (fun _ _ => rfl) hC

theorem minI {a b : Nat} (ha : a < 1000) (hb : b < 1000) : (if nI b < nI a then nI b else nI a) = nI (min a b) := by
  by_cases h : a ≤ b
  · rw [if_neg (nI_nlt h (by omega)), Nat.min_eq_left h]
  · rw [if_pos (nI_lt (by omega) (by omega)), Nat.min_eq_right (by omega)]
set_option maxRecDepth 20000 in
theorem sX9_deal (hs : SK R N) {V : VV} (hV : VO V) (hC : WC I R N n 1 V) {a : Int32} (hq : ∀ I' : HI, (∀ q, FC q → I' q = I q) → WC I' R N n 1 (oDeal V a).1 → Q (vI (oDeal V a).2) I' L R N n) : CA sc 3 0 0 mX9_deal [vR 9 0, vI a] I L R N n Q := by
  have h6 := hV.1.2
  refine ca_in (al := [_, _, _, _]) rfl ?_
  refine w_iload_n dX9_deal_0 rfl ?_
  refine w_iconst dX9_deal_1 ic_1 ?_
  refine w_bipush dX9_deal_2 bp_6 ?_
  refine c_S (as := [_, _, _]) (d' := 0) dX9_deal_4 (Or.inl mlX9_86) moX9_within msX9_within rfl rfl rfl rfl rfl (by decide) (sX9_within ?_)
  refine w_ifB_ne (tgt := 13) dX9_deal_7 (by decide) (fun c7 => ?_) (fun c7 => ?_)
  · obtain ⟨k, hk1, hk6, rfl⟩ := one_of (m := 6) (by decide) c7
    have e : oDeal V (nI k) = (dealK V (min k (6 - nS V)), nI (min k (6 - nS V))) := by
      unfold oDeal dealC
      rw [cif_t c7, nI_clamp (by omega)]
    rw [e] at hq
    refine w_iload_n dX9_deal_13 rfl ?_
    refine w_bipush dX9_deal_14 bp_6 ?_
    refine w_aload_n dX9_deal_16 rfl ?_
    refine w_getR dX9_deal_17 flX9_10 rfl (hs.r (a := 0) (j := 0) (b := 1) 0 rfl) ?_
    refine w_getI dX9_deal_20 flX9_94 rfl ?_
    refine w_top (y := nI (nS V)) (hC.1.1.trans hV.1.1) ?_
    refine w_isub dX9_deal_23 ?_
    refine w_top (y := nI (6 - nS V)) (nI_sub (a := 6) (by omega)) ?_
    refine w_min dX9_deal_24 mlX9_97 st_min iiJ9 co_min (by decide) (Nat.le_of_ble_eq_true rfl) ?_
    refine w_top (y := nI (min k (6 - nS V))) (minI (a := k) (b := 6 - nS V) (by omega) (by omega)) ?_
    refine w_istore_n (al' := [_, _, _, _]) dX9_deal_27 rfl rfl rfl ?_
    refine w_iconst dX9_deal_28 ic_0 ?_
    refine w_istore_n (al' := [_, _, _, _]) dX9_deal_29 rfl rfl rfl ?_
    exact lX9_deal hs hV hC (by omega) hq
  · refine w_ldc dX9_deal_10 kcX9_77 ?_
    refine w_ireturn dX9_deal_12 rfl rfl ?_
    have e : oDeal V a = (V, -1000000001) := cif_f (fun z => by first | exact c7 z)
    rw [e] at hq
    exact hq I (fun _ _ => rfl) hC

set_option maxRecDepth 20000 in
theorem lX10_deal (hs : SK R N) {V : VV} (hV : VO V) (hI : I 118 = V) {a c : Nat} (ha : a ≤ 6) (hc : c = min a (6 - nS V)) (hq : ∀ I' : HI, (∀ q, FM q → I' q = I q) → I' 118 = dealK V c → Q (vI (nI c)) I' L R N n) : WP sc 1 0 0 mX10_deal 15 [vR 10 117, vI (nI a), vI (nI 0), vU, vU, vU] [] I L R N n Q := by
  have h6 := hV.1.2
  have lp : ∀ (k j : Nat) (I1 : HI), j + k = c → (∀ q, FM q → I1 q = I q) → I1 118 = dealK V j → WP sc 1 0 0 mX10_deal 15 [vR 10 117, vI (nI a), vI (nI j), vU, vU, vU] [] I1 L R N n Q := by
    intro k
    induction k with
    | zero =>
      intro j I1 hj hI1 hV1
      obtain ⟨hv, hn⟩ := VO_dealK hV j (by omega)
      refine w_iload_n dX10_deal_15 rfl ?_
      refine w_iload_n dX10_deal_16 rfl ?_
      refine w_icmp_ge (tgt := 114) dX10_deal_17 (by decide) (fun c17 => ?_) (fun c17 => ?_)
      · obtain rfl : j = c := by omega
        refine w_iload_n dX10_deal_114 rfl ?_
        refine w_ireturn dX10_deal_115 rfl rfl ?_
        exact hq I1 hI1 hV1
      · have hjk := Nat.lt_of_not_le (fun q => c17 (nI_le q (by omega)))
        obtain rfl : j = c := by omega
        refine w_aload_n dX10_deal_20 rfl ?_
        refine w_getR dX10_deal_21 flX10_9 rfl (hs.r (a := 117) (j := 0) (b := 118) 116 rfl) ?_
        refine w_iconst dX10_deal_24 ic_1 ?_
        refine w_iald (q := 1) dX10_deal_25 rfl (hs.n (a := 118) (z := 1452) 72 rfl) (by decide) ?_
        refine w_top (y := nI (nS V + j)) ((congrFun hV1 1).trans (by rw [hv.1.1, hn])) ?_
        refine w_bipush dX10_deal_26 bp_6 ?_
        refine w_icmp_ge (tgt := 114) dX10_deal_28 (by decide) (fun c28 => ?_) (fun c28 => ?_)
        · refine w_iload_n dX10_deal_114 rfl ?_
          refine w_ireturn dX10_deal_115 rfl rfl ?_
          exact hq I1 hI1 hV1
        · exact absurd ((nI_leI (a := 6) (b := nS V + j) (by omega) (by omega)).mpr (by omega)) c28
    | succ k ih =>
      intro j I1 hj hI1 hV1
      obtain ⟨hv, hn⟩ := VO_dealK hV j (by omega)
      refine w_iload_n dX10_deal_15 rfl ?_
      refine w_iload_n dX10_deal_16 rfl ?_
      refine w_icmp_ge (tgt := 114) dX10_deal_17 (by decide) (fun c17 => ?_) (fun c17 => ?_)
      · exact absurd ((nI_leI (by omega) (by omega)).mp c17) (by omega)
      · refine w_aload_n dX10_deal_20 rfl ?_
        refine w_getR dX10_deal_21 flX10_9 rfl (hs.r (a := 117) (j := 0) (b := 118) 116 rfl) ?_
        refine w_iconst dX10_deal_24 ic_1 ?_
        refine w_iald (q := 1) dX10_deal_25 rfl (hs.n (a := 118) (z := 1452) 72 rfl) (by decide) ?_
        refine w_top (y := nI (nS V + j)) ((congrFun hV1 1).trans (by rw [hv.1.1, hn])) ?_
        refine w_bipush dX10_deal_26 bp_6 ?_
        refine w_icmp_ge (tgt := 114) dX10_deal_28 (by decide) (fun c28 => ?_) (fun c28 => ?_)
        · exact absurd ((nI_leI (a := 6) (by omega) (by omega)).mp c28) (by omega)
        · obtain ⟨U, hU⟩ : ∃ U, U = dealK V j := ⟨_, rfl⟩
          rw [← hU] at hV1 hv hn
          have hu6 : nS U < 6 := by omega
          refine w_aload_n dX10_deal_31 rfl ?_
          refine c_V (t := 10) (as := []) (d' := 0) dX10_deal_32 mlX10_120 moX10_draw mvX10_draw ⟨rfl, rfl⟩ rfl rfl rfl rfl rfl (by decide) (sX10_draw hs ?_)
          refine w_top (y := drawV (z1 U)) (by rw [hV1, z1]) ?_
          refine w_heap (fun I2 e9 => ?_)
          have hAI2 : ∀ q, q ≠ 118 → I2 q = I1 q := fun q h => by rw [e9]; exact va_up_ne _ _ h
          have hVI2 : I2 118 = va_up U 0 (z1 U) := by rw [e9, va_up_self, hV1]; rw [z1]
          clear e9
          refine w_bipush dX10_deal_35 bp_100 ?_
          refine w_irem dX10_deal_37 (by decide) ?_
          refine w_istore_n (al' := [_, _, _, _, _, _]) dX10_deal_38 rfl rfl rfl ?_
          refine w_aload_n dX10_deal_39 rfl ?_
          refine c_V (t := 10) (as := []) (d' := 0) dX10_deal_40 mlX10_120 moX10_draw mvX10_draw ⟨rfl, rfl⟩ rfl rfl rfl rfl rfl (by decide) (sX10_draw hs ?_)
          refine w_top (y := drawV (z2 U)) (by rw [hVI2, va_up_self, z2]) ?_
          refine w_heap (fun I3 e9 => ?_)
          have hAI3 : ∀ q, q ≠ 118 → I3 q = I2 q := fun q h => by rw [e9]; exact va_up_ne _ _ h
          have hVI3 : I3 118 = va_up U 0 (z2 U) := by rw [e9, va_up_self, hVI2]; rw [up_up, va_up_self, z2]
          clear e9
          refine w_bipush dX10_deal_43 bp_101 ?_
          refine w_irem dX10_deal_45 (by decide) ?_
          refine w_istore (al' := [_, _, _, _, _, _]) dX10_deal_46 rfl rfl rfl ?_
          refine w_aload_n dX10_deal_48 rfl ?_
          refine w_iload_n dX10_deal_49 rfl ?_
          refine w_iload dX10_deal_50 rfl ?_
          refine w_aload_n dX10_deal_52 rfl ?_
          refine c_V (t := 10) (as := []) (d' := 0) dX10_deal_53 mlX10_120 moX10_draw mvX10_draw ⟨rfl, rfl⟩ rfl rfl rfl rfl rfl (by decide) (sX10_draw hs ?_)
          refine w_top (y := drawV (z3 U)) (by rw [hVI3, va_up_self, z3]) ?_
          refine w_heap (fun I4 e9 => ?_)
          have hAI4 : ∀ q, q ≠ 118 → I4 q = I3 q := fun q h => by rw [e9]; exact va_up_ne _ _ h
          have hVI4 : I4 118 = va_up U 0 (z3 U) := by rw [e9, va_up_self, hVI3]; rw [up_up, va_up_self, z3]
          clear e9
          refine w_bipush dX10_deal_56 bp_100 ?_
          refine w_irem dX10_deal_58 (by decide) ?_
          refine c_V (t := 10) (as := [_, _, _]) (d' := 0) dX10_deal_59 mlX10_103 moX10_comes mvX10_comes ⟨rfl, rfl⟩ rfl rfl rfl rfl rfl (by decide) (sX10_comes hs hVI4 (hv.dice (z3 U)) (by rw [nS_0]; exact hu6) ?_)
          rw [nS_0]
          refine w_heap (fun I5 e9 => ?_)
          have hAI5 : ∀ q, q ≠ 118 → I5 q = I4 q := fun q h => by rw [e9]; exact va_up_ne _ _ h
          have hVI5 : I5 118 = dealA U := by rw [e9, va_up_self, dealA]; simp only [remI]
          clear e9
          refine w_istore (al' := [_, _, _, _, _, _]) dX10_deal_62 rfl rfl rfl ?_
          refine w_aload_n dX10_deal_64 rfl ?_
          refine w_getR dX10_deal_65 flX10_9 rfl (hs.r (a := 117) (j := 0) (b := 118) 116 rfl) ?_
          refine w_bipush dX10_deal_68 bp_6 ?_
          refine w_bipush dX10_deal_70 bp_7 ?_
          refine w_iload dX10_deal_72 rfl ?_
          refine w_imul dX10_deal_74 ?_
          refine w_iadd dX10_deal_75 ?_
          refine w_iconst dX10_deal_76 ic_3 ?_
          refine w_iadd dX10_deal_77 ?_
          refine w_top (y := nI (6 + 7 * nS U + 3)) (by show nI 6 + nI 7 * nI (nS U) + nI 3 = _; rw [nI_mul, nI_add, nI_add]) ?_
          refine w_aload_n dX10_deal_78 rfl ?_
          refine c_V (t := 10) (as := []) (d' := 0) dX10_deal_79 mlX10_120 moX10_draw mvX10_draw ⟨rfl, rfl⟩ rfl rfl rfl rfl rfl (by decide) (sX10_draw hs ?_)
          refine w_top (y := drawV (z4 U)) (by rw [hVI5, dealA_0 hu6, z4]) ?_
          refine w_heap (fun I6 e9 => ?_)
          have hAI6 : ∀ q, q ≠ 118 → I6 q = I5 q := fun q h => by rw [e9]; exact va_up_ne _ _ h
          have hVI6 : I6 118 = va_up (dealA U) 0 (z4 U) := by rw [e9, va_up_self, hVI5]; rw [dealA_0 hu6, z4]
          clear e9
          refine w_bipush dX10_deal_82 bp_10 ?_
          refine w_irem dX10_deal_84 (by decide) ?_
          refine w_iast dX10_deal_85 rfl (hs.n (a := 118) (z := 1452) 72 rfl) (by omega) ?_
          refine w_heap (fun I7 e9 => ?_)
          have hAI7 : ∀ q, q ≠ 118 → I7 q = I6 q := fun q h => by rw [e9]; exact va_up_ne _ _ h
          have hVI7 : I7 118 = dealB U := by rw [e9, va_up_self, hVI6, dealB, remI]
          clear e9
          refine w_aload_n dX10_deal_86 rfl ?_
          refine w_getR dX10_deal_87 flX10_9 rfl (hs.r (a := 117) (j := 0) (b := 118) 116 rfl) ?_
          refine w_bipush dX10_deal_90 bp_6 ?_
          refine w_bipush dX10_deal_92 bp_7 ?_
          refine w_iload dX10_deal_94 rfl ?_
          refine w_imul dX10_deal_96 ?_
          refine w_iadd dX10_deal_97 ?_
          refine w_iconst dX10_deal_98 ic_5 ?_
          refine w_iadd dX10_deal_99 ?_
          refine w_top (y := nI (6 + 7 * nS U + 5)) (by show nI 6 + nI 7 * nI (nS U) + nI 5 = _; rw [nI_mul, nI_add, nI_add]) ?_
          refine w_aload_n dX10_deal_100 rfl ?_
          refine c_V (t := 10) (as := []) (d' := 0) dX10_deal_101 mlX10_120 moX10_draw mvX10_draw ⟨rfl, rfl⟩ rfl rfl rfl rfl rfl (by decide) (sX10_draw hs ?_)
          refine w_top (y := drawV (z5 U)) (by rw [hVI7, dealB_0 hu6, z5]) ?_
          refine w_heap (fun I8 e9 => ?_)
          have hAI8 : ∀ q, q ≠ 118 → I8 q = I7 q := fun q h => by rw [e9]; exact va_up_ne _ _ h
          have hVI8 : I8 118 = va_up (dealB U) 0 (z5 U) := by rw [e9, va_up_self, hVI7]; rw [dealB_0 hu6, z5]
          clear e9
          refine w_bipush dX10_deal_104 bp_20 ?_
          refine w_irem dX10_deal_106 (by decide) ?_
          refine w_iast dX10_deal_107 rfl (hs.n (a := 118) (z := 1452) 72 rfl) (by omega) ?_
          refine w_iinc (al' := [_, _, _, _, _, _]) dX10_deal_108 rfl rfl ic_1 rfl ?_
          refine w_goto (tgt := 15) dX10_deal_111 (by decide) ?_
          refine w_kill (i := 5) (al' := [_, _, _, _, _, _]) rfl ?_
          refine w_kill (i := 4) (al' := [_, _, _, _, _, _]) rfl ?_
          refine w_kill (i := 3) (al' := [_, _, _, _, _, _]) rfl ?_
          simp only [nI_1]
          refine ih (j + 1) _ (by omega) (fun q h => ?_) ?_
          · rw [va_up_ne _ _ h.1, hAI8 q h.1, hAI7 q h.1, hAI6 q h.1, hAI5 q h.1, hAI4 q h.1, hAI3 q h.1, hAI2 q h.1]; exact hI1 q h
          · rw [va_up_self, hVI8, dealK, ← hU, dealS, remI]
  exact lp c 0 I (Nat.zero_add _) (fun _ _ => rfl) hI

set_option maxRecDepth 20000 in
theorem sX10_deal (hs : SK R N) {V : VV} (hI : I 118 = V) (hV : VO V) {a : Int32} (hq : ∀ I' : HI, (∀ q, FM q → I' q = I q) → I' 118 = (oDeal V a).1 → Q (vI (oDeal V a).2) I' L R N n) : CA sc 1 0 0 mX10_deal [vR 10 117, vI a] I L R N n Q := by
  have h6 := hV.1.2
  refine ca_in (al := [_, _, _, _, _, _]) rfl ?_
  refine w_iload_n dX10_deal_0 rfl ?_
  refine w_iconst dX10_deal_1 ic_1 ?_
  refine w_bipush dX10_deal_2 bp_6 ?_
  refine c_S (as := [_, _, _]) (d' := 0) dX10_deal_4 (Or.inl mlX10_97) moX10_in msX10_in rfl rfl rfl rfl rfl (by decide) (sX10_in ?_)
  refine w_ifB_ne (tgt := 13) dX10_deal_7 (by decide) (fun c7 => ?_) (fun c7 => ?_)
  · obtain ⟨k, hk1, hk6, rfl⟩ := one_of (m := 6) (by decide) c7
    have e : oDeal V (nI k) = (dealK V (min k (6 - nS V)), nI (min k (6 - nS V))) := by
      unfold oDeal dealC
      rw [cif_t c7, nI_clamp (by omega)]
    rw [e] at hq
    refine w_iconst dX10_deal_13 ic_0 ?_
    refine w_istore_n (al' := [_, _, _, _, _, _]) dX10_deal_14 rfl rfl rfl ?_
    exact lX10_deal hs hV hI hk6 rfl hq
  · refine w_ldc dX10_deal_10 kcX10_101 ?_
    refine w_ireturn dX10_deal_12 rfl rfl ?_
    have e : oDeal V a = (V, -1000000001) := cif_f (fun z => by first | exact c7 z)
    rw [e] at hq
    exact hq I (fun _ _ => rfl) hI

end
