section
variable {sc : SC} {I : HI} {L : HL} {R : HR} {N : HN} {n : Nat} {Q : HQ}
theorem and255 (x : Int32) : inN (x &&& 255) 0 255 := by
  refine ⟨(x &&& 255).toBitVec.toNat, Nat.zero_le _, ?_, ?_⟩
  · show (x.toBitVec &&& 255#32).toNat ≤ 255
    rw [BitVec.toNat_and]
    exact Nat.and_le_right
  · apply Int32.toBitVec_inj.mp
    show _ = BitVec.ofNat 32 _
    rw [BitVec.ofNat_toNat, BitVec.setWidth_eq]
/-- byte j of a number -/
def btF (v : Int32) (j : Nat) : Int32 := ushr v (nI (8 * (3 - j))) &&& 255
theorem bt_rng (v : Int32) (j : Nat) : inN (btF v j) 0 255 := and255 _
theorem sh_next {k : Nat} : nI (8 * (k + 1)) - 8 = nI (8 * k) := by
  show nI (8 * (k + 1)) - nI 8 = _
  rw [nI_sub (by omega)]
  congr 1

set_option maxRecDepth 20000 in
theorem sX6_addFour (hs : SK R N) {v : Int32} {z : Nat} (hz : I 78 1 = nI z) (hz92 : z + 4 ≤ 96) (hq : ∀ I' : HI, (∀ q, q ≠ 78 → q ≠ 79 → I' q = I q) → (∀ j, j ≠ 1 → I' 78 j = I 78 j) → I' 78 1 = nI (z + 4) → (∀ i, I' 79 i = if z ≤ i ∧ i < z + 4 then btF v (i - z) else I 79 i) → Q vU I' L R N n) : CA sc 0 0 0 mX6_addFour [vR 6 78, vI v] I L R N n Q := by
  have lp : ∀ (k : Nat) (I1 : HI), k ≤ 4 → (∀ q, q ≠ 78 → q ≠ 79 → I1 q = I q) → (∀ j, j ≠ 1 → I1 78 j = I 78 j) → I1 78 1 = nI (z + (4 - k)) → (∀ i, I1 79 i = if z ≤ i ∧ i < z + (4 - k) then btF v (i - z) else I 79 i) → WP sc 0 0 0 mX6_addFour 3 [vR 6 78, vI v, vI (nI (8 * k) - 8)] [] I1 L R N n Q := by
    intro k
    induction k with
    | zero =>
      intro I1 hk hI1 hj1 hz1 hb1
      refine w_iload_n dX6_addFour_3 rfl ?_
      refine w_if_lt (tgt := 48) dX6_addFour_4 (by decide) (fun c4 => ?_) (fun c4 => ?_)
      · refine w_return dX6_addFour_48 rfl ?_
        exact hq I1 hI1 hj1 hz1 hb1
      · exact absurd (show nI (8 * 0) - 8 < 0 by decide) c4
    | succ k ih =>
      intro I1 hk hI1 hj1 hz1 hb1
      refine w_iload_n dX6_addFour_3 rfl ?_
      refine w_top (y := nI (8 * k)) (sh_next) ?_
      refine w_if_lt (tgt := 48) dX6_addFour_4 (by decide) (fun c4 => ?_) (fun c4 => ?_)
      · exact absurd c4 (nI_pos (by omega))
      · refine w_aload_n dX6_addFour_7 rfl ?_
        refine w_getI dX6_addFour_8 flX6_15 rfl ?_
        refine w_top (y := nI (z + (4 - (k + 1)))) (hz1) ?_
        refine w_bipush dX6_addFour_11 bp_96 ?_
        refine w_icmp_ge (tgt := 48) dX6_addFour_13 (by decide) (fun c13 => ?_) (fun c13 => ?_)
        · exact absurd ((nI_leI (a := 96) (by omega) (by omega)).mp c13) (by omega)
        · refine w_aload_n dX6_addFour_16 rfl ?_
          refine w_getR dX6_addFour_17 flX6_9 rfl (hs.r (a := 78) (j := 0) (b := 79) 82 rfl) ?_
          refine w_aload_n dX6_addFour_20 rfl ?_
          refine w_getI dX6_addFour_21 flX6_15 rfl ?_
          refine w_top (y := nI (z + (4 - (k + 1)))) (hz1) ?_
          refine w_iload_n dX6_addFour_24 rfl ?_
          refine w_iload_n dX6_addFour_25 rfl ?_
          refine w_top (y := nI (8 * k)) (sh_next) ?_
          refine w_iushr dX6_addFour_26 ?_
          refine w_sipush dX6_addFour_27 sp_255 ?_
          refine w_iand dX6_addFour_30 ?_
          refine w_iast dX6_addFour_31 rfl (hs.n (a := 79) (z := 96) 53 rfl) (by omega) ?_
          refine w_st (fun I2 hA2 hB2 hC2 => ?_)
          refine w_aload_n dX6_addFour_32 rfl ?_
          refine w_dup dX6_addFour_33 rfl ?_
          refine w_getI dX6_addFour_34 flX6_15 rfl ?_
          refine w_top (y := nI (z + (4 - (k + 1)))) (by rw [hA2 78 (by decide)]; exact hz1) ?_
          refine w_iconst dX6_addFour_37 ic_1 ?_
          refine w_iadd dX6_addFour_38 ?_
          refine w_top (y := nI (z + (4 - k))) (by rw [nI_1]; congr 1; omega) ?_
          refine w_putI dX6_addFour_39 flX6_15 rfl rfl rfl rfl ?_
          refine w_st (fun I3 hA3 hB3 hC3 => ?_)
          refine w_iinc (al' := [_, _, _]) dX6_addFour_42 rfl rfl ic_m8 rfl ?_
          refine w_goto (tgt := 3) dX6_addFour_45 (by decide) ?_
          rw [show nI (8 * (k + 1)) - 8 + -8 = nI (8 * k) - 8 by rw [sh_next, ← Int32.sub_eq_add_neg]]
          refine ih I3 (by omega) (fun q a1 a2 => (hA3 q a1).trans ((hA2 q a2).trans (hI1 q a1 a2))) (fun j hj => by rw [hB3 j hj, hA2 78 (by decide)]; exact hj1 j hj) hC3 (fun i => ?_)
          rw [hA3 79 (by decide)]
          by_cases e : i = z + (4 - (k + 1))
          · rw [e, hC2, if_pos (by omega)]
            unfold btF
            rw [show 3 - (z + (4 - (k + 1)) - z) = k by omega]
          · rw [hB2 i e, hb1 i]
            by_cases e2 : z ≤ i ∧ i < z + (4 - (k + 1))
            · rw [if_pos e2, if_pos (by omega)]
            · rw [if_neg e2, if_neg (by omega)]
  refine ca_in (al := [_, _, _]) rfl ?_
  refine w_bipush dX6_addFour_0 bp_24 ?_
  refine w_istore_n (al' := [_, _, _]) dX6_addFour_2 rfl rfl rfl ?_
  exact lp 4 I (Nat.le_refl _) (fun _ _ _ => rfl) (fun _ _ => rfl) hz (fun i => by rw [if_neg (by omega)])

def fdB (a b c : Int32) (j : Nat) : Int32 := btF (if j < 4 then a else if j < 8 then b else c) (j % 4)
theorem fd_rng (a b c : Int32) (j : Nat) : inN (fdB a b c j) 0 255 := and255 _
set_option maxRecDepth 20000 in
theorem sX9_feed (hs : SK R N) {a b c : Int32} {z : Nat} (hz : I 78 1 = nI z) (hz96 : z ≤ 96) (hq : ∀ I' : HI, (∀ q, q ≠ 78 → q ≠ 79 → I' q = I q) → (∀ j, j ≠ 1 → I' 78 j = I 78 j) → I' 78 1 = nI (if z ≤ 84 then z + 12 else z) → (∀ i, I' 79 i = if z ≤ 84 ∧ z ≤ i ∧ i < z + 12 then fdB a b c (i - z) else I 79 i) → Q (vI (if z ≤ 84 then nI (z + 12) else -1000000003)) I' L R N n) : CA sc 1 0 0 mX9_feed [vR 9 0, vI a, vI b, vI c] I L R N n Q := by
  refine ca_in (al := [_, _, _, _]) rfl ?_
  refine w_aload_n dX9_feed_0 rfl ?_
  refine w_getR dX9_feed_1 flX9_47 rfl (hs.r (a := 0) (j := 6) (b := 77) 5 rfl) ?_
  refine w_getR dX9_feed_4 flX9_219 rfl (hs.r (a := 77) (j := 0) (b := 78) 80 rfl) ?_
  refine w_getI dX9_feed_7 flX9_223 rfl ?_
  refine w_top (y := nI z) (hz) ?_
  refine w_bipush dX9_feed_10 bp_84 ?_
  refine w_icmp_le (tgt := 18) dX9_feed_12 (by decide) (fun c12 => ?_) (fun c12 => ?_)
  · have hle : z ≤ 84 := (nI_leI (b := 84) (by omega) (by decide)).mp c12
    rw [if_pos hle, if_pos hle] at hq
    refine w_aload_n dX9_feed_18 rfl ?_
    refine w_getR dX9_feed_19 flX9_47 rfl (hs.r (a := 0) (j := 6) (b := 77) 5 rfl) ?_
    refine w_getR dX9_feed_22 flX9_219 rfl (hs.r (a := 77) (j := 0) (b := 78) 80 rfl) ?_
    refine w_iload_n dX9_feed_25 rfl ?_
    refine c_Vv (t := 6) (as := [_]) (d' := 0) dX9_feed_26 mlX9_229 moX6_addFour mvX6_addFour ⟨rfl, rfl⟩ rfl rfl rfl rfl rfl (by decide) (sX6_addFour hs (z := z) hz (by omega) (fun I1 hA1 hj1 hz1 hb1 => ?_))
    refine w_aload_n dX9_feed_29 rfl ?_
    refine w_getR dX9_feed_30 flX9_47 rfl (hs.r (a := 0) (j := 6) (b := 77) 5 rfl) ?_
    refine w_getR dX9_feed_33 flX9_219 rfl (hs.r (a := 77) (j := 0) (b := 78) 80 rfl) ?_
    refine w_iload_n dX9_feed_36 rfl ?_
    refine c_Vv (t := 6) (as := [_]) (d' := 0) dX9_feed_37 mlX9_229 moX6_addFour mvX6_addFour ⟨rfl, rfl⟩ rfl rfl rfl rfl rfl (by decide) (sX6_addFour hs (z := z + 4) hz1 (by omega) (fun I2 hA2 hj2 hz2 hb2 => ?_))
    refine w_aload_n dX9_feed_40 rfl ?_
    refine w_getR dX9_feed_41 flX9_47 rfl (hs.r (a := 0) (j := 6) (b := 77) 5 rfl) ?_
    refine w_getR dX9_feed_44 flX9_219 rfl (hs.r (a := 77) (j := 0) (b := 78) 80 rfl) ?_
    refine w_iload_n dX9_feed_47 rfl ?_
    refine c_Vv (t := 6) (as := [_]) (d' := 0) dX9_feed_48 mlX9_229 moX6_addFour mvX6_addFour ⟨rfl, rfl⟩ rfl rfl rfl rfl rfl (by decide) (sX6_addFour hs (z := z + 4 + 4) hz2 (by omega) (fun I3 hA3 hj3 hz3 hb3 => ?_))
    refine w_aload_n dX9_feed_51 rfl ?_
    refine w_getR dX9_feed_52 flX9_47 rfl (hs.r (a := 0) (j := 6) (b := 77) 5 rfl) ?_
    refine w_getR dX9_feed_55 flX9_219 rfl (hs.r (a := 77) (j := 0) (b := 78) 80 rfl) ?_
    refine w_getI dX9_feed_58 flX9_223 rfl ?_
    refine w_top (y := nI (z + 12)) (hz3) ?_
    refine w_ireturn dX9_feed_61 rfl rfl ?_
    refine hq I3 (fun q a1 a2 => (hA3 q a1 a2).trans ((hA2 q a1 a2).trans (hA1 q a1 a2))) (fun j hj => (hj3 j hj).trans ((hj2 j hj).trans (hj1 j hj))) hz3 (fun i => ?_)
    rw [hb3 i]
    by_cases e3 : z + 4 + 4 ≤ i ∧ i < z + 4 + 4 + 4
    · rw [if_pos e3, if_pos (by omega)]
      unfold fdB
      rw [if_neg (by omega), if_neg (by omega), show (i - z) % 4 = i - (z + 4 + 4) by omega]
    · rw [if_neg e3, hb2 i]
      by_cases e2 : z + 4 ≤ i ∧ i < z + 4 + 4
      · rw [if_pos e2, if_pos (by omega)]
        unfold fdB
        rw [if_neg (by omega), if_pos (by omega), show (i - z) % 4 = i - (z + 4) by omega]
      · rw [if_neg e2, hb1 i]
        by_cases e1 : z ≤ i ∧ i < z + 4
        · rw [if_pos e1, if_pos (by omega)]
          unfold fdB
          rw [if_pos (by omega), show (i - z) % 4 = i - z by omega]
        · rw [if_neg e1, if_neg (by omega)]
  · have hle : ¬ z ≤ 84 := fun q => c12 (nI_le (b := 84) q (by decide))
    rw [if_neg hle, if_neg hle] at hq
    refine w_ldc dX9_feed_15 kcX9_228 ?_
    refine w_ireturn dX9_feed_17 rfl rfl ?_
    exact hq I (fun _ _ _ => rfl) (fun _ _ => rfl) hz (fun i => by rw [if_neg (fun q => hle q.1)])

set_option maxRecDepth 20000 in
theorem lX10_feed (hs : SK R N) {a b c : Int32} {z : Nat} (hz : I 117 17 = nI z) (hle0 : z ≤ 84) (hq : ∀ I' : HI, (∀ q, q ≠ 117 → q ≠ 129 → I' q = I q) → (∀ j, j ≠ 17 → I' 117 j = I 117 j) → I' 117 17 = nI (z + 12) → (∀ i, I' 129 i = if z ≤ 84 ∧ z ≤ i ∧ i < z + 12 then fdB a b c (i - z) else I 129 i) → Q (vI (nI (z + 12))) I' L R N n) : WP sc 0 0 0 mX10_feed 18 [vR 10 117, vI a, vI b, vI c, vI (nI 0), vU] [] I L R N n Q := by
  have hle : z ≤ 84 := hle0
  have lp : ∀ (k j : Nat) (I1 : HI), j + k = 12 → (∀ q, q ≠ 129 → I1 q = I q) → (∀ i, I1 129 i = if z ≤ i ∧ i < z + j then fdB a b c (i - z) else I 129 i) → WP sc 0 0 0 mX10_feed 18 [vR 10 117, vI a, vI b, vI c, vI (nI j), vU] [] I1 L R N n Q := by
    intro k
    induction k with
    | zero =>
      intro j I1 hj hI1 hb1
      refine w_iload dX10_feed_18 rfl ?_
      refine w_bipush dX10_feed_20 bp_12 ?_
      refine w_icmp_ge (tgt := 84) dX10_feed_22 (by decide) (fun c22 => ?_) (fun c22 => ?_)
      · obtain rfl : j = 12 := by omega
        refine w_aload_n dX10_feed_84 rfl ?_
        refine w_dup dX10_feed_85 rfl ?_
        refine w_getI dX10_feed_86 flX10_207 rfl ?_
        refine w_top (y := nI z) (by rw [hI1 117 (by decide)]; exact hz) ?_
        refine w_bipush dX10_feed_89 bp_12 ?_
        refine w_iadd dX10_feed_91 ?_
        refine w_top (y := nI (z + 12)) (nI_add z 12) ?_
        refine w_putI dX10_feed_92 flX10_207 rfl rfl rfl rfl ?_
        refine w_st (fun I3 hA3 hB3 hC3 => ?_)
        refine w_aload_n dX10_feed_95 rfl ?_
        refine w_getI dX10_feed_96 flX10_207 rfl ?_
        refine w_top (y := nI (z + 12)) (hC3) ?_
        refine w_ireturn dX10_feed_99 rfl rfl ?_
        refine hq I3 (fun q a1 a2 => (hA3 q a1).trans (hI1 q a2)) (fun j hj => by rw [hB3 j hj, hI1 117 (by decide)]) hC3 (fun i => ?_)
        rw [hA3 129 (by decide), hb1 i]
        by_cases e : z ≤ i ∧ i < z + 12
        · rw [if_pos e, if_pos ⟨hle, e⟩]
        · rw [if_neg e, if_neg (fun q => e q.2)]
      · exact absurd (nI_le (a := 12) (by omega) (by omega)) c22
    | succ k ih =>
      intro j I1 hj hI1 hb1
      refine w_iload dX10_feed_18 rfl ?_
      refine w_bipush dX10_feed_20 bp_12 ?_
      refine w_icmp_ge (tgt := 84) dX10_feed_22 (by decide) (fun c22 => ?_) (fun c22 => ?_)
      · exact absurd ((nI_leI (a := 12) (by omega) (by omega)).mp c22) (by omega)
      · refine w_iload dX10_feed_25 rfl ?_
        refine w_iconst dX10_feed_27 ic_4 ?_
        refine w_icmp_ge (tgt := 35) dX10_feed_28 (by decide) (fun c28 => ?_) (fun c28 => ?_)
        · have hj4 : ¬ j < 4 := by have := (nI_leI (a := 4) (by omega) (by omega)).mp c28; omega
          refine w_iload dX10_feed_35 rfl ?_
          refine w_bipush dX10_feed_37 bp_8 ?_
          refine w_icmp_ge (tgt := 46) dX10_feed_39 (by decide) (fun c39 => ?_) (fun c39 => ?_)
          · have hj8 : ¬ j < 8 := by have := (nI_leI (a := 8) (by omega) (by omega)).mp c39; omega
            refine w_iload_n dX10_feed_46 rfl ?_
            refine w_top (y := (if j < 4 then a else if j < 8 then b else c)) (by rw [if_neg hj4, if_neg hj8]) ?_
            refine w_istore (al' := [_, _, _, _, _, _]) dX10_feed_47 rfl rfl rfl ?_
            refine w_aload_n dX10_feed_49 rfl ?_
            refine w_getR dX10_feed_50 flX10_44 rfl (hs.r (a := 117) (j := 16) (b := 129) 127 rfl) ?_
            refine w_aload_n dX10_feed_53 rfl ?_
            refine w_getI dX10_feed_54 flX10_207 rfl ?_
            refine w_top (y := nI z) (by rw [hI1 117 (by decide)]; exact hz) ?_
            refine w_iload dX10_feed_57 rfl ?_
            refine w_iadd dX10_feed_59 ?_
            refine w_top (y := nI (z + j)) (nI_add z j) ?_
            refine w_iload dX10_feed_60 rfl ?_
            refine w_bipush dX10_feed_62 bp_24 ?_
            refine w_bipush dX10_feed_64 bp_8 ?_
            refine w_iload dX10_feed_66 rfl ?_
            refine w_iconst dX10_feed_68 ic_4 ?_
            refine w_irem dX10_feed_69 (by decide) ?_
            refine w_top (y := nI (j % 4)) (rem_n (s := 4) (by omega) (by decide)) ?_
            refine w_imul dX10_feed_70 ?_
            refine w_isub dX10_feed_71 ?_
            refine w_top (y := nI (8 * (3 - j % 4))) (by show nI 24 - nI 8 * nI (j % 4) = _; rw [nI_mul, nI_sub (by omega)]; congr 1; omega) ?_
            refine w_ishr dX10_feed_72 ?_
            refine w_sipush dX10_feed_73 sp_255 ?_
            refine w_iand dX10_feed_76 ?_
            refine w_top (y := fdB a b c j) (by unfold fdB btF; exact (byte_e _ (by omega)).symm) ?_
            refine w_iast dX10_feed_77 rfl (hs.n (a := 129) (z := 96) 83 rfl) (by omega) ?_
            refine w_st (fun I2 hA2 hB2 hC2 => ?_)
            refine w_iinc (al' := [_, _, _, _, _, _]) dX10_feed_78 rfl rfl ic_1 rfl ?_
            refine w_goto (tgt := 18) dX10_feed_81 (by decide) ?_
            refine w_kill (i := 5) (al' := [_, _, _, _, _, _]) rfl ?_
            simp only [nI_1]
            refine ih (j + 1) I2 (by omega) (fun q a1 => (hA2 q a1).trans (hI1 q a1)) (fun i => ?_)
            by_cases e : i = z + j
            · rw [e, hC2, if_pos (by omega), show z + j - z = j by omega]
            · rw [hB2 i e, hb1 i]
              by_cases e2 : z ≤ i ∧ i < z + j
              · rw [if_pos e2, if_pos (by omega)]
              · rw [if_neg e2, if_neg (by omega)]
          · have hj8 : j < 8 := Nat.lt_of_not_le (fun q => c39 (nI_le (a := 8) q (by omega)))
            refine w_iload_n dX10_feed_42 rfl ?_
            refine w_top (y := (if j < 4 then a else if j < 8 then b else c)) (by rw [if_neg hj4, if_pos hj8]) ?_
            refine w_goto (tgt := 47) dX10_feed_43 (by decide) ?_
            refine w_istore (al' := [_, _, _, _, _, _]) dX10_feed_47 rfl rfl rfl ?_
            refine w_aload_n dX10_feed_49 rfl ?_
            refine w_getR dX10_feed_50 flX10_44 rfl (hs.r (a := 117) (j := 16) (b := 129) 127 rfl) ?_
            refine w_aload_n dX10_feed_53 rfl ?_
            refine w_getI dX10_feed_54 flX10_207 rfl ?_
            refine w_top (y := nI z) (by rw [hI1 117 (by decide)]; exact hz) ?_
            refine w_iload dX10_feed_57 rfl ?_
            refine w_iadd dX10_feed_59 ?_
            refine w_top (y := nI (z + j)) (nI_add z j) ?_
            refine w_iload dX10_feed_60 rfl ?_
            refine w_bipush dX10_feed_62 bp_24 ?_
            refine w_bipush dX10_feed_64 bp_8 ?_
            refine w_iload dX10_feed_66 rfl ?_
            refine w_iconst dX10_feed_68 ic_4 ?_
            refine w_irem dX10_feed_69 (by decide) ?_
            refine w_top (y := nI (j % 4)) (rem_n (s := 4) (by omega) (by decide)) ?_
            refine w_imul dX10_feed_70 ?_
            refine w_isub dX10_feed_71 ?_
            refine w_top (y := nI (8 * (3 - j % 4))) (by show nI 24 - nI 8 * nI (j % 4) = _; rw [nI_mul, nI_sub (by omega)]; congr 1; omega) ?_
            refine w_ishr dX10_feed_72 ?_
            refine w_sipush dX10_feed_73 sp_255 ?_
            refine w_iand dX10_feed_76 ?_
            refine w_top (y := fdB a b c j) (by unfold fdB btF; exact (byte_e _ (by omega)).symm) ?_
            refine w_iast dX10_feed_77 rfl (hs.n (a := 129) (z := 96) 83 rfl) (by omega) ?_
            refine w_st (fun I2 hA2 hB2 hC2 => ?_)
            refine w_iinc (al' := [_, _, _, _, _, _]) dX10_feed_78 rfl rfl ic_1 rfl ?_
            refine w_goto (tgt := 18) dX10_feed_81 (by decide) ?_
            refine w_kill (i := 5) (al' := [_, _, _, _, _, _]) rfl ?_
            simp only [nI_1]
            refine ih (j + 1) I2 (by omega) (fun q a1 => (hA2 q a1).trans (hI1 q a1)) (fun i => ?_)
            by_cases e : i = z + j
            · rw [e, hC2, if_pos (by omega), show z + j - z = j by omega]
            · rw [hB2 i e, hb1 i]
              by_cases e2 : z ≤ i ∧ i < z + j
              · rw [if_pos e2, if_pos (by omega)]
              · rw [if_neg e2, if_neg (by omega)]
        · have hj4 : j < 4 := Nat.lt_of_not_le (fun q => c28 (nI_le (a := 4) q (by omega)))
          refine w_iload_n dX10_feed_31 rfl ?_
          refine w_top (y := (if j < 4 then a else if j < 8 then b else c)) ((if_pos hj4).symm) ?_
          refine w_goto (tgt := 47) dX10_feed_32 (by decide) ?_
          refine w_istore (al' := [_, _, _, _, _, _]) dX10_feed_47 rfl rfl rfl ?_
          refine w_aload_n dX10_feed_49 rfl ?_
          refine w_getR dX10_feed_50 flX10_44 rfl (hs.r (a := 117) (j := 16) (b := 129) 127 rfl) ?_
          refine w_aload_n dX10_feed_53 rfl ?_
          refine w_getI dX10_feed_54 flX10_207 rfl ?_
          refine w_top (y := nI z) (by rw [hI1 117 (by decide)]; exact hz) ?_
          refine w_iload dX10_feed_57 rfl ?_
          refine w_iadd dX10_feed_59 ?_
          refine w_top (y := nI (z + j)) (nI_add z j) ?_
          refine w_iload dX10_feed_60 rfl ?_
          refine w_bipush dX10_feed_62 bp_24 ?_
          refine w_bipush dX10_feed_64 bp_8 ?_
          refine w_iload dX10_feed_66 rfl ?_
          refine w_iconst dX10_feed_68 ic_4 ?_
          refine w_irem dX10_feed_69 (by decide) ?_
          refine w_top (y := nI (j % 4)) (rem_n (s := 4) (by omega) (by decide)) ?_
          refine w_imul dX10_feed_70 ?_
          refine w_isub dX10_feed_71 ?_
          refine w_top (y := nI (8 * (3 - j % 4))) (by show nI 24 - nI 8 * nI (j % 4) = _; rw [nI_mul, nI_sub (by omega)]; congr 1; omega) ?_
          refine w_ishr dX10_feed_72 ?_
          refine w_sipush dX10_feed_73 sp_255 ?_
          refine w_iand dX10_feed_76 ?_
          refine w_top (y := fdB a b c j) (by unfold fdB btF; exact (byte_e _ (by omega)).symm) ?_
          refine w_iast dX10_feed_77 rfl (hs.n (a := 129) (z := 96) 83 rfl) (by omega) ?_
          refine w_st (fun I2 hA2 hB2 hC2 => ?_)
          refine w_iinc (al' := [_, _, _, _, _, _]) dX10_feed_78 rfl rfl ic_1 rfl ?_
          refine w_goto (tgt := 18) dX10_feed_81 (by decide) ?_
          refine w_kill (i := 5) (al' := [_, _, _, _, _, _]) rfl ?_
          simp only [nI_1]
          refine ih (j + 1) I2 (by omega) (fun q a1 => (hA2 q a1).trans (hI1 q a1)) (fun i => ?_)
          by_cases e : i = z + j
          · rw [e, hC2, if_pos (by omega), show z + j - z = j by omega]
          · rw [hB2 i e, hb1 i]
            by_cases e2 : z ≤ i ∧ i < z + j
            · rw [if_pos e2, if_pos (by omega)]
            · rw [if_neg e2, if_neg (by omega)]
  exact lp 12 0 I rfl (fun _ _ => rfl) (fun i => by rw [if_neg (by omega)])

set_option maxRecDepth 20000 in
theorem sX10_feed (hs : SK R N) {a b c : Int32} {z : Nat} (hz : I 117 17 = nI z) (hz96 : z ≤ 96) (hq : ∀ I' : HI, (∀ q, q ≠ 117 → q ≠ 129 → I' q = I q) → (∀ j, j ≠ 17 → I' 117 j = I 117 j) → I' 117 17 = nI (if z ≤ 84 then z + 12 else z) → (∀ i, I' 129 i = if z ≤ 84 ∧ z ≤ i ∧ i < z + 12 then fdB a b c (i - z) else I 129 i) → Q (vI (if z ≤ 84 then nI (z + 12) else -1000000003)) I' L R N n) : CA sc 0 0 0 mX10_feed [vR 10 117, vI a, vI b, vI c] I L R N n Q := by
  refine ca_in (al := [_, _, _, _, _, _]) rfl ?_
  refine w_aload_n dX10_feed_0 rfl ?_
  refine w_getI dX10_feed_1 flX10_207 rfl ?_
  refine w_top (y := nI z) (hz) ?_
  refine w_bipush dX10_feed_4 bp_12 ?_
  refine w_iadd dX10_feed_6 ?_
  refine w_top (y := nI (z + 12)) (nI_add z 12) ?_
  refine w_bipush dX10_feed_7 bp_96 ?_
  refine w_icmp_le (tgt := 15) dX10_feed_9 (by decide) (fun c9 => ?_) (fun c9 => ?_)
  · have hle : z ≤ 84 := by have := (nI_leI (b := 96) (by omega) (by decide)).mp c9; omega
    rw [if_pos hle, if_pos hle] at hq
    refine w_iconst dX10_feed_15 ic_0 ?_
    refine w_istore (al' := [_, _, _, _, _, _]) dX10_feed_16 rfl rfl rfl ?_
    exact lX10_feed hs hz hle hq
  · have hle : ¬ z ≤ 84 := fun q => c9 (nI_le (b := 96) (by omega) (by decide))
    rw [if_neg hle, if_neg hle] at hq
    refine w_ldc dX10_feed_12 kcX10_102 ?_
    refine w_ireturn dX10_feed_14 rfl rfl ?_
    exact hq I (fun _ _ _ => rfl) (fun _ _ => rfl) hz (fun i => by rw [if_neg (fun q => hle q.1)])

end
