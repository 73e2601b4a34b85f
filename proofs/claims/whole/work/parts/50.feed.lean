section
variable {sc : SC} {I : HI} {L : HL} {R : HR} {N : HN} {n : Nat} {Q : HQ}
theorem and255 (x : Int32) : inN (x &&& 255) 0 255 := by
  refine ⟨(x &&& 255).toBitVec.toNat, Nat.zero_le _, ?_, ?_⟩
  · show (x.toBitVec &&& 255#32).toNat ≤ 255
    rw [BitVec.toNat_and]
    exact Nat.and_le_right
  · apply Int32.toBitVec_inj.mp
    show _ = BitVec.ofNat 32 _
    rw [BitVec.ofNat_toNat, BitVec.setWidth_eq]
/-- byte j of a number -/
def btF (v : Int32) (j : Nat) : Int32 := ushr v (nI (8 * (3 - j))) &&& 255
theorem bt_rng (v : Int32) (j : Nat) : inN (btF v j) 0 255 := and255 _
theorem sh_next {k : Nat} : nI (8 * (k + 1)) - 8 = nI (8 * k) := by
  show nI (8 * (k + 1)) - nI 8 = _
  rw [nI_sub (by omega)]
  congr 1

set_option maxRecDepth 20000 in
theorem sX6_addFour (hs : SK R N) {v : Int32} {z : Nat} (hz : I 78 1 = nI z) (hz92 : z + 4 ≤ 96) (hq : ∀ I' : HI, (∀ q, q ≠ 78 → q ≠ 79 → I' q = I q) → (∀ j, j ≠ 1 → I' 78 j = I 78 j) → I' 78 1 = nI (z + 4) → (∀ i, I' 79 i = if z ≤ i ∧ i < z + 4 then btF v (i - z) else I 79 i) → Q vU I' L R N n) : CA sc 0 0 0 mX6_addFour [vR 6 78, vI v] I L R N n Q := by
  have lp : ∀ (k : Nat) (I1 : HI), k ≤ 4 → (∀ q, q ≠ 78 → q ≠ 79 → I1 q = I q) → (∀ j, j ≠ 1 → I1 78 j = I 78 j) → I1 78 1 = nI (z + (4 - k)) → (∀ i, I1 79 i = if z ≤ i ∧ i < z + (4 - k) then btF v (i - z) else I 79 i) → WP sc 0 0 0 mX6_addFour 3 [vR 6 78, vI v, vI (nI (8 * k) - 8)] [] I1 L R N n Q := by
    intro k
    induction k with
    | zero =>
      intro I1 hk hI1 hj1 hz1 hb1
      refine w_iload_n dX6_addFour_3 rfl ?_
      refine w_if_lt (tgt := 48) dX6_addFour_4 (by decide) (fun c4 => ?_) (fun c4 => ?_)
      · refine w_return dX6_addFour_48 rfl ?_
        exact hq I1 hI1 hj1 hz1 hb1
      · exact absurd (show nI (8 * 0) - 8 < 0 by decide) c4
    | succ k ih =>
      intro I1 hk hI1 hj1 hz1 hb1
      refine w_iload_n dX6_addFour_3 rfl ?_
      refine w_top (y := nI (8 * k)) (sh_next) ?_
      refine w_if_lt (tgt := 48) dX6_addFour_4 (by decide) (fun c4 => ?_) (fun c4 => ?_)
      · exact absurd c4 (nI_pos (by omega))
      · refine w_aload_n dX6_addFour_7 rfl ?_
        refine w_getI dX6_addFour_8 flX6_15 rfl ?_
        refine w_top (y := nI (z + (4 - (k + 1)))) (hz1) ?_
        refine w_bipush dX6_addFour_11 bp_96 ?_
        refine w_icmp_ge (tgt := 48) dX6_addFour_13 (by decide) (fun c13 => ?_) (fun c13 => ?_)
        · exact absurd ((nI_leI (a := 96) (by omega) (by omega)).mp c13) (by omega)
        · refine w_aload_n dX6_addFour_16 rfl ?_
          refine w_getR dX6_addFour_17 flX6_9 rfl (hs.r (a := 78) (j := 0) (b := 79) 82 rfl) ?_
          refine w_aload_n dX6_addFour_20 rfl ?_
          refine w_getI dX6_addFour_21 flX6_15 rfl ?_
          refine w_top (y := nI (z + (4 - (k + 1)))) (hz1) ?_
          refine w_iload_n dX6_addFour_24 rfl ?_
          refine w_iload_n dX6_addFour_25 rfl ?_
          refine w_top (y := nI (8 * k)) (sh_next) ?_
          refine w_iushr dX6_addFour_26 ?_
          refine w_sipush dX6_addFour_27 sp_255 ?_
          refine w_iand dX6_addFour_30 ?_
          refine w_iast dX6_addFour_31 rfl (hs.n (a := 79) (z := 96) 53 rfl) (by omega) ?_
          refine w_st (fun I2 hA2 hB2 hC2 => ?_)
          refine w_aload_n dX6_addFour_32 rfl ?_
          refine w_dup dX6_addFour_33 rfl ?_
          refine w_getI dX6_addFour_34 flX6_15 rfl ?_
          refine w_top (y := nI (z + (4 - (k + 1)))) (by rw [hA2 78 (by decide)]; exact hz1) ?_
          refine w_iconst dX6_addFour_37 ic_1 ?_
          refine w_iadd dX6_addFour_38 ?_
          refine w_top (y := nI (z + (4 - k))) (by rw [nI_1]; congr 1; omega) ?_
          refine w_putI dX6_addFour_39 flX6_15 rfl rfl rfl rfl ?_
          refine w_st (fun I3 hA3 hB3 hC3 => ?_)
          refine w_iinc (al' := [_, _, _]) dX6_addFour_42 rfl rfl ic_m8 rfl ?_
          refine w_goto (tgt := 3) dX6_addFour_45 (by decide) ?_
          rw [show nI (8 * (k + 1)) - 8 + -8 = nI (8 * k) - 8 by rw [sh_next, ← Int32.sub_eq_add_neg]]
          refine ih I3 (by omega) (fun q a1 a2 => (hA3 q a1).trans ((hA2 q a2).trans (hI1 q a1 a2))) (fun j hj => by rw [hB3 j hj, hA2 78 (by decide)]; exact hj1 j hj) hC3 (fun i => ?_)
          rw [hA3 79 (by decide)]
          by_cases e : i = z + (4 - (k + 1))
          · rw [e, hC2, if_pos (by omega)]
            unfold btF
            rw [show 3 - (z + (4 - (k + 1)) - z) = k by omega]
          · rw [hB2 i e, hb1 i]
            by_cases e2 : z ≤ i ∧ i < z + (4 - (k + 1))
            · rw [if_pos e2, if_pos (by omega)]
            · rw [if_neg e2, if_neg (by omega)]
  refine ca_in (al := [_, _, _]) rfl ?_
  refine w_bipush dX6_addFour_0 bp_24 ?_
  refine w_istore_n (al' := [_, _, _]) dX6_addFour_2 rfl rfl rfl ?_
  exact lp 4 I (Nat.le_refl _) (fun _ _ _ => rfl) (fun _ _ => rfl) hz (fun i => by rw [if_neg (by omega)])

end
