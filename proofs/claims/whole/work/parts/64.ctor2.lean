def kFS (I : HI) (R : HR) (N : HN) : Prop := (R 0 0 = some 1 ∧ kWO I R N 1) ∧ (R 0 1 = some 30 ∧ kWO I R N 30) ∧ (R 0 3 = some 59 ∧ kPL I R N 59) ∧ (R 0 4 = some 74 ∧ kRU I R N 74) ∧ R 0 5 = some 76 ∧ (R 0 6 = some 77 ∧ kPA I R N 77) ∧ (R 0 7 = some 81 ∧ N 81 = 4) ∧ (R 0 8 = some 82 ∧ N 82 = 5) ∧ (R 0 9 = some 83 ∧ N 83 = 60) ∧ (∀ j, j < 4 → R 81 j = some (84 + 2 * j) ∧ kSH I R N (84 + 2 * j)) ∧ (∀ j, j < 5 → R 82 j = some (92 + 5 * j) ∧ kSL I R N (92 + 5 * j)) ∧ I 0 2 = 0 ∧ I 0 10 = 0
section
variable {sc : SC} {I : HI} {L : HL} {R : HR} {N : HN} {n : Nat} {Q : HQ}
set_option maxRecDepth 20000 in
theorem lX8_init {a : Nat} (hR2 : R a 2 = some (a + 8)) (hN8 : N (a + 8) = 8) (hq : ∀ (I' : HI) (L' : HL) (R' : HR) (N' : HN), (∀ q, q < a + 13 → I' q = I q) → (∀ q, q < a + 13 → q ≠ a + 8 → R' q = R q) → (∀ q, q < a + 13 → N' q = N q) → (∀ r, r < 8 → R' (a + 8) r = some (a + 13 + 2 * r) ∧ kRU I' R' N' (a + 13 + 2 * r)) → Q vU I' L' R' N' (a + 13 + 2 * 8)) : WP sc 2 (2 * 8) (5 * 8) mX8_init 104 [vR 8 a, vI (nI 0)] [] I L R N (a + 13 + 2 * 0) Q := by
  have lp : ∀ (k i : Nat) (Ia : HI) (La : HL) (Ra : HR) (Na : HN), i + k = 8 → (∀ q, q < a + 13 → Ia q = I q) → (∀ q, q < a + 13 → q ≠ a + 8 → Ra q = R q) → (∀ q, q < a + 13 → Na q = N q) → (∀ r, r < i → Ra (a + 8) r = some (a + 13 + 2 * r) ∧ kRU Ia Ra Na (a + 13 + 2 * r)) → WP sc 2 (2 * k) (5 * k) mX8_init 104 [vR 8 a, vI (nI i)] [] Ia La Ra Na (a + 13 + 2 * i) Q := by
    intro k
    induction k with
    | zero =>
      intro i Ia La Ra Na hj hI1 hR1 hN1 hf1
      refine w_iload_n dX8_init_104 rfl ?_
      refine w_bipush dX8_init_105 bp_8 ?_
      refine w_icmp_ge (tgt := 129) dX8_init_107 (by decide) (fun c107 => ?_) (fun c107 => ?_)
      · obtain rfl : i = 8 := by omega
        refine w_return dX8_init_129 rfl ?_
        exact hq Ia La Ra Na hI1 hR1 hN1 hf1
      · exact absurd (nI_le (a := 8) (by omega) (by omega)) c107
    | succ k ih =>
      intro i Ia La Ra Na hj hI1 hR1 hN1 hf1
      refine w_iload_n dX8_init_104 rfl ?_
      refine w_bipush dX8_init_105 bp_8 ?_
      refine w_icmp_ge (tgt := 129) dX8_init_107 (by decide) (fun c107 => ?_) (fun c107 => ?_)
      · exact absurd ((nI_leI (a := 8) (by decide) (by omega)).mp c107) (by omega)
      · refine w_aload_n dX8_init_110 rfl ?_
        refine w_getR dX8_init_111 flX8_22 rfl (show Ra a 2 = some (a + 8) by rw [hR1 a (by omega) (by omega)]; exact hR2) ?_
        refine w_iload_n dX8_init_114 rfl ?_
        refine k_new (t := 3) (z := 2) (mc := 2 * k + 1) (ms := 5 * k + 3) dX8_init_115 (by decide) clX8_20 itX3 iiX3 rfl (by omega) (by omega) (fun J0 L0 Q0 jA0 jZ0 qA0 => ?_)
        refine w_dup dX8_init_118 rfl ?_
        refine k_I (t := 3) (as := []) (d' := 1) (mc := 2 * k + 0) (mc2 := 1) (ms := 5 * k + 0) (ms2 := 3) dX8_init_119 nlX8_59 moX3_init imX3_init rfl rfl rfl rfl rfl rfl (by decide) (by omega) (by omega) (sX3_init (fun J1 L1 Q1 N1 jA1 qA1 nA1 bF1 => ?_))
        refine k_aast (t := 14) dX8_init_122 (by decide) (by decide) rfl (show N1 (a + 8) = 8 by rw [nA1 (a + 8) (by omega), hN1 (a + 8) (by omega)]; exact hN8) (by omega) (by decide) (fun Q2 qA2 qB2 qC2 => ?_)
        refine w_iinc (al' := [_, _]) dX8_init_123 rfl rfl ic_1 rfl ?_
        refine w_goto (tgt := 104) dX8_init_126 (by decide) ?_
        rw [nI_1, show a + 13 + 2 * i + 2 = a + 13 + 2 * (i + 1) by omega]
        refine ih (i + 1) J1 L1 Q2 N1 (by omega) (fun q hq => by rw [jA1 q (by omega), jA0 q (by omega)]; exact hI1 q hq) (fun q hq hne => by rw [qA2 q hne, qA1 q (by omega), qA0 q (by omega)]; exact hR1 q hq hne) (fun q hq => by rw [nA1 q (by omega)]; exact hN1 q hq) (fun r hr => ?_)
        by_cases e : r = i
        · subst e; exact ⟨qC2, bF1.keep (fun q h1 h2 => ⟨rfl, qA2 q (by omega), rfl⟩)⟩
        · refine ⟨by rw [qB2 r e, qA1 (a + 8) (by omega), qA0 (a + 8) (by omega)]; exact (hf1 r (by omega)).1, (hf1 r (by omega)).2.keep (fun q h1 h2 => ⟨?_, ?_, ?_⟩)⟩
          · rw [jA1 q (by omega), jA0 q (by omega)]
          · rw [qA2 q (by omega), qA1 q (by omega), qA0 q (by omega)]
          · rw [nA1 q (by omega)]
  exact lp 8 0 I L R N rfl (fun _ _ => rfl) (fun _ _ _ => rfl) (fun _ _ => rfl) (fun r hr => absurd hr (Nat.not_lt_zero r))

set_option maxRecDepth 20000 in
theorem sX8_init {a : Nat} (hq : ∀ (I' : HI) (L' : HL) (R' : HR) (N' : HN), (∀ q, q < a → I' q = I q) → (∀ q, q < a → R' q = R q) → (∀ q, q < a → N' q = N q) → kWO I' R' N' a → Q vU I' L' R' N' (a + 29)) : CA sc 2 28 210 mX8_init [vR 8 a] I L R N (a + 1) Q := by
  refine ca_in (al := [_, _]) rfl ?_
  refine w_aload_n dX8_init_0 rfl ?_
  refine w_objInit dX8_init_1 mlX8_3 im_obj co_obj (by decide) (Nat.le_of_ble_eq_true rfl) ?_
  refine w_aload_n dX8_init_4 rfl ?_
  refine w_bipush dX8_init_5 bp_6 ?_
  refine w_bipush dX8_init_7 bp_7 ?_
  refine k_mna (k1 := 6) (k2 := 7) (mc := 21) (ms := 162) dX8_init_9 clX8_9 rfl rfl (by decide) (by decide) (by decide) (by decide) (fun J0 Q0 N0 mA0 mR0 nC0 mI0 => ?_)
  refine k_putR dX8_init_13 flX8_11 rfl rfl rfl rfl (fun Q1 qA1 qB1 qC1 => ?_)
  refine w_aload_n dX8_init_16 rfl ?_
  refine w_iconst dX8_init_17 ic_0 ?_
  refine w_putI dX8_init_18 flX8_16 rfl rfl rfl rfl ?_
  refine w_st (fun J2 jA2 jB2 jC2 => ?_)
  refine w_aload_n dX8_init_21 rfl ?_
  refine w_bipush dX8_init_22 bp_8 ?_
  refine k_newO (t := 14) (z := 8) (mc := 20) (ms := 154) (by decide) (by decide) dX8_init_24 clX8_20 (by decide +kernel) rfl (by decide) (by decide) (by decide) (fun Q3 N3 qA3 nA3 nC3 => ?_)
  refine k_putR dX8_init_27 flX8_22 rfl rfl rfl rfl (fun Q4 qA4 qB4 qC4 => ?_)
  refine w_aload_n dX8_init_30 rfl ?_
  refine w_iconst dX8_init_31 ic_0 ?_
  refine w_putI dX8_init_32 flX8_26 rfl rfl rfl rfl ?_
  refine w_st (fun J5 jA5 jB5 jC5 => ?_)
  refine w_aload_n dX8_init_35 rfl ?_
  refine w_ldc dX8_init_36 kcX8_29 ?_
  refine w_putI dX8_init_38 flX8_30 rfl rfl rfl rfl ?_
  refine w_st (fun J6 jA6 jB6 jC6 => ?_)
  refine w_aload_n dX8_init_41 rfl ?_
  refine w_ldc dX8_init_42 kcX8_29 ?_
  refine w_putI dX8_init_44 flX8_33 rfl rfl rfl rfl ?_
  refine w_st (fun J7 jA7 jB7 jC7 => ?_)
  refine w_aload_n dX8_init_47 rfl ?_
  refine w_bipush dX8_init_48 bp_14 ?_
  refine k_newO (t := 17) (z := 14) (mc := 19) (ms := 140) (by decide) (by decide) dX8_init_50 clX8_36 (by decide +kernel) rfl (by decide) (by decide) (by decide) (fun Q8 N8 qA8 nA8 nC8 => ?_)
  refine k_putR dX8_init_53 flX8_38 rfl rfl rfl rfl (fun Q9 qA9 qB9 qC9 => ?_)
  refine w_aload_n dX8_init_56 rfl ?_
  refine w_iconst dX8_init_57 ic_0 ?_
  refine w_putI dX8_init_58 flX8_42 rfl rfl rfl rfl ?_
  refine w_st (fun J10 jA10 jB10 jC10 => ?_)
  refine w_aload_n dX8_init_61 rfl ?_
  refine w_iconst dX8_init_62 ic_3 ?_
  refine k_newI (z := 3) (mc := 18) (ms := 137) dX8_init_63 ac_int rfl (by decide) (by decide) (by decide) (fun J11 Q11 N11 jA11 jZ11 qA11 nA11 nC11 => ?_)
  refine w_dup dX8_init_65 rfl ?_
  refine w_iconst dX8_init_66 ic_0 ?_
  refine w_ldc dX8_init_67 kcX8_29 ?_
  refine w_iast (q := 0) dX8_init_69 rfl (nC11) (by decide) ?_
  refine w_st (fun J12 jA12 jB12 jC12 => ?_)
  refine w_dup dX8_init_70 rfl ?_
  refine w_iconst dX8_init_71 ic_1 ?_
  refine w_ldc dX8_init_72 kcX8_29 ?_
  refine w_iast (q := 1) dX8_init_74 rfl (nC11) (by decide) ?_
  refine w_st (fun J13 jA13 jB13 jC13 => ?_)
  refine w_dup dX8_init_75 rfl ?_
  refine w_iconst dX8_init_76 ic_2 ?_
  refine w_ldc dX8_init_77 kcX8_29 ?_
  refine w_iast (q := 2) dX8_init_79 rfl (nC11) (by decide) ?_
  refine w_st (fun J14 jA14 jB14 jC14 => ?_)
  refine k_putR dX8_init_80 flX8_45 rfl rfl rfl rfl (fun Q15 qA15 qB15 qC15 => ?_)
  refine w_aload_n dX8_init_83 rfl ?_
  refine k_new (t := 0) (z := 1) (mc := 17) (ms := 136) dX8_init_84 (by decide) clX8_49 itX0 iiX0 rfl (by decide) (by decide) (fun J16 L16 Q16 jA16 jZ16 qA16 => ?_)
  refine w_dup dX8_init_87 rfl ?_
  refine k_I (t := 0) (as := []) (d' := 1) (mc := 17) (mc2 := 0) (ms := 136) (ms2 := 0) dX8_init_88 nlX8_51 moX0_init imX0_init rfl rfl rfl rfl rfl rfl (by decide) (by decide) (by decide) (sX0_init (fun J17 L17 Q17 N17 jA17 qA17 nA17 bF17 => ?_))
  refine k_putR dX8_init_91 flX8_52 rfl rfl rfl rfl (fun Q18 qA18 qB18 qC18 => ?_)
  refine w_aload_n dX8_init_94 rfl ?_
  refine w_bipush dX8_init_95 bp_96 ?_
  refine k_newI (z := 96) (mc := 16) (ms := 40) dX8_init_97 ac_int rfl (by decide) (by decide) (by decide) (fun J19 Q19 N19 jA19 jZ19 qA19 nA19 nC19 => ?_)
  refine k_putR dX8_init_99 flX8_56 rfl rfl rfl rfl (fun Q20 qA20 qB20 qC20 => ?_)
  refine w_iconst dX8_init_102 ic_0 ?_
  refine w_top (y := nI 0) (rfl) ?_
  refine w_istore_n (al' := [_, _]) dX8_init_103 rfl rfl rfl ?_
  refine lX8_init (I := J19) (R := Q20) (N := N19) (by rw [qB20 2 (by decide), qA19 (a) (by omega), qB18 2 (by decide), qA17 (a) (by omega), qA16 (a) (by omega), qB15 2 (by decide), qA11 (a) (by omega), qB9 2 (by decide), qA8 (a) (by omega)]; exact qC4) (by rw [nA19 (a + 8) (by omega), nA17 (a + 8) (by omega), nA11 (a + 8) (by omega), nA8 (a + 8) (by omega)]; exact nC3) (fun I9 L9 R9 N9 hI9 hR9 hN9 hf9 => ?_)
  exact hq I9 L9 R9 N9 (fun q hlt => by rw [hI9 q (by omega), jA19 (q) (by omega), jA17 (q) (by omega), jA16 (q) (by omega), jA14 (q) (by omega), jA13 (q) (by omega), jA12 (q) (by omega), jA11 (q) (by omega), jA10 (q) (by omega), jA7 (q) (by omega), jA6 (q) (by omega), jA5 (q) (by omega), jA2 (q) (by omega), (mA0 (q) (by omega)).1]) (fun q hlt => by rw [hR9 q (by omega) (by omega), qA20 (q) (by omega), qA19 (q) (by omega), qA18 (q) (by omega), qA17 (q) (by omega), qA16 (q) (by omega), qA15 (q) (by omega), qA11 (q) (by omega), qA9 (q) (by omega), qA8 (q) (by omega), qA4 (q) (by omega), qA3 (q) (by omega), qA1 (q) (by omega), (mA0 (q) (by omega)).2.1]) (fun q hlt => by rw [hN9 q (by omega), nA19 (q) (by omega), nA17 (q) (by omega), nA11 (q) (by omega), nA8 (q) (by omega), nA3 (q) (by omega), (mA0 (q) (by omega)).2.2]) ⟨(by rw [hR9 (a) (by omega) (by omega)]; exact (by rw [qB20 0 (by decide), qA19 (a) (by omega), qB18 0 (by decide), qA17 (a) (by omega), qA16 (a) (by omega), qB15 0 (by decide), qA11 (a) (by omega), qB9 0 (by decide), qA8 (a) (by omega), qB4 0 (by decide), qA3 (a) (by omega)]; exact qC1)), (by rw [hN9 (a + 1) (by omega)]; exact (by rw [nA19 (a + 1) (by omega), nA17 (a + 1) (by omega), nA11 (a + 1) (by omega), nA8 (a + 1) (by omega), nA3 (a + 1) (by omega)]; exact nC0)), (by rw [hR9 (a + 1) (by omega) (by omega)]; exact (by rw [qA20 (a + 1) (by omega), qA19 (a + 1) (by omega), qA18 (a + 1) (by omega), qA17 (a + 1) (by omega), qA16 (a + 1) (by omega), qA15 (a + 1) (by omega), qA11 (a + 1) (by omega), qA9 (a + 1) (by omega), qA8 (a + 1) (by omega), qA4 (a + 1) (by omega), qA3 (a + 1) (by omega), qA1 (a + 1) (by omega)]; exact mR0 0 (by decide))), (by rw [hR9 (a + 1) (by omega) (by omega)]; exact (by rw [qA20 (a + 1) (by omega), qA19 (a + 1) (by omega), qA18 (a + 1) (by omega), qA17 (a + 1) (by omega), qA16 (a + 1) (by omega), qA15 (a + 1) (by omega), qA11 (a + 1) (by omega), qA9 (a + 1) (by omega), qA8 (a + 1) (by omega), qA4 (a + 1) (by omega), qA3 (a + 1) (by omega), qA1 (a + 1) (by omega)]; exact mR0 1 (by decide))), (by rw [hR9 (a + 1) (by omega) (by omega)]; exact (by rw [qA20 (a + 1) (by omega), qA19 (a + 1) (by omega), qA18 (a + 1) (by omega), qA17 (a + 1) (by omega), qA16 (a + 1) (by omega), qA15 (a + 1) (by omega), qA11 (a + 1) (by omega), qA9 (a + 1) (by omega), qA8 (a + 1) (by omega), qA4 (a + 1) (by omega), qA3 (a + 1) (by omega), qA1 (a + 1) (by omega)]; exact mR0 2 (by decide))), (by rw [hR9 (a + 1) (by omega) (by omega)]; exact (by rw [qA20 (a + 1) (by omega), qA19 (a + 1) (by omega), qA18 (a + 1) (by omega), qA17 (a + 1) (by omega), qA16 (a + 1) (by omega), qA15 (a + 1) (by omega), qA11 (a + 1) (by omega), qA9 (a + 1) (by omega), qA8 (a + 1) (by omega), qA4 (a + 1) (by omega), qA3 (a + 1) (by omega), qA1 (a + 1) (by omega)]; exact mR0 3 (by decide))), (by rw [hR9 (a + 1) (by omega) (by omega)]; exact (by rw [qA20 (a + 1) (by omega), qA19 (a + 1) (by omega), qA18 (a + 1) (by omega), qA17 (a + 1) (by omega), qA16 (a + 1) (by omega), qA15 (a + 1) (by omega), qA11 (a + 1) (by omega), qA9 (a + 1) (by omega), qA8 (a + 1) (by omega), qA4 (a + 1) (by omega), qA3 (a + 1) (by omega), qA1 (a + 1) (by omega)]; exact mR0 4 (by decide))), (by rw [hR9 (a + 1) (by omega) (by omega)]; exact (by rw [qA20 (a + 1) (by omega), qA19 (a + 1) (by omega), qA18 (a + 1) (by omega), qA17 (a + 1) (by omega), qA16 (a + 1) (by omega), qA15 (a + 1) (by omega), qA11 (a + 1) (by omega), qA9 (a + 1) (by omega), qA8 (a + 1) (by omega), qA4 (a + 1) (by omega), qA3 (a + 1) (by omega), qA1 (a + 1) (by omega)]; exact mR0 5 (by decide))), (by rw [hN9 (a + 2) (by omega)]; exact (by rw [nA19 (a + 2) (by omega), nA17 (a + 2) (by omega), nA11 (a + 2) (by omega), nA8 (a + 2) (by omega), nA3 (a + 2) (by omega)]; exact (mI0 0 (by decide)).2)), (by rw [hN9 (a + 3) (by omega)]; exact (by rw [nA19 (a + 3) (by omega), nA17 (a + 3) (by omega), nA11 (a + 3) (by omega), nA8 (a + 3) (by omega), nA3 (a + 3) (by omega)]; exact (mI0 1 (by decide)).2)), (by rw [hN9 (a + 4) (by omega)]; exact (by rw [nA19 (a + 4) (by omega), nA17 (a + 4) (by omega), nA11 (a + 4) (by omega), nA8 (a + 4) (by omega), nA3 (a + 4) (by omega)]; exact (mI0 2 (by decide)).2)), (by rw [hN9 (a + 5) (by omega)]; exact (by rw [nA19 (a + 5) (by omega), nA17 (a + 5) (by omega), nA11 (a + 5) (by omega), nA8 (a + 5) (by omega), nA3 (a + 5) (by omega)]; exact (mI0 3 (by decide)).2)), (by rw [hN9 (a + 6) (by omega)]; exact (by rw [nA19 (a + 6) (by omega), nA17 (a + 6) (by omega), nA11 (a + 6) (by omega), nA8 (a + 6) (by omega), nA3 (a + 6) (by omega)]; exact (mI0 4 (by decide)).2)), (by rw [hN9 (a + 7) (by omega)]; exact (by rw [nA19 (a + 7) (by omega), nA17 (a + 7) (by omega), nA11 (a + 7) (by omega), nA8 (a + 7) (by omega), nA3 (a + 7) (by omega)]; exact (mI0 5 (by decide)).2)), (by rw [hR9 (a) (by omega) (by omega)]; exact (by rw [qB20 2 (by decide), qA19 (a) (by omega), qB18 2 (by decide), qA17 (a) (by omega), qA16 (a) (by omega), qB15 2 (by decide), qA11 (a) (by omega), qB9 2 (by decide), qA8 (a) (by omega)]; exact qC4)), (by rw [hN9 (a + 8) (by omega)]; exact (by rw [nA19 (a + 8) (by omega), nA17 (a + 8) (by omega), nA11 (a + 8) (by omega), nA8 (a + 8) (by omega)]; exact nC3)), (by rw [hR9 (a) (by omega) (by omega)]; exact (by rw [qB20 6 (by decide), qA19 (a) (by omega), qB18 6 (by decide), qA17 (a) (by omega), qA16 (a) (by omega), qB15 6 (by decide), qA11 (a) (by omega)]; exact qC9)), (by rw [hN9 (a + 9) (by omega)]; exact (by rw [nA19 (a + 9) (by omega), nA17 (a + 9) (by omega), nA11 (a + 9) (by omega)]; exact nC8)), (by rw [hR9 (a) (by omega) (by omega)]; exact (by rw [qB20 8 (by decide), qA19 (a) (by omega), qB18 8 (by decide), qA17 (a) (by omega), qA16 (a) (by omega)]; exact qC15)), (by rw [hN9 (a + 10) (by omega)]; exact (by rw [nA19 (a + 10) (by omega), nA17 (a + 10) (by omega)]; exact nC11)), (by rw [hR9 (a) (by omega) (by omega)]; exact (by rw [qB20 9 (by decide), qA19 (a) (by omega)]; exact qC18)), (by rw [hR9 (a) (by omega) (by omega)]; exact (qC20)), (by rw [hN9 (a + 12) (by omega)]; exact (nC19)), hf9, (by rw [hI9 (a) (by omega)]; exact (by rw [jA19 (a) (by omega), jA17 (a) (by omega), jA16 (a) (by omega), jA14 (a) (by omega), jA13 (a) (by omega), jA12 (a) (by omega), jA11 (a) (by omega), jB10 1 (by decide), jB7 1 (by decide), jB6 1 (by decide), jB5 1 (by decide)]; exact jC2)), (by rw [hI9 (a) (by omega)]; exact (by rw [jA19 (a) (by omega), jA17 (a) (by omega), jA16 (a) (by omega), jA14 (a) (by omega), jA13 (a) (by omega), jA12 (a) (by omega), jA11 (a) (by omega), jB10 3 (by decide), jB7 3 (by decide), jB6 3 (by decide)]; exact jC5)), (by rw [hI9 (a) (by omega)]; exact (by rw [jA19 (a) (by omega), jA17 (a) (by omega), jA16 (a) (by omega), jA14 (a) (by omega), jA13 (a) (by omega), jA12 (a) (by omega), jA11 (a) (by omega), jB10 4 (by decide), jB7 4 (by decide)]; exact jC6)), (by rw [hI9 (a) (by omega)]; exact (by rw [jA19 (a) (by omega), jA17 (a) (by omega), jA16 (a) (by omega), jA14 (a) (by omega), jA13 (a) (by omega), jA12 (a) (by omega), jA11 (a) (by omega), jB10 5 (by decide)]; exact jC7)), (by rw [hI9 (a) (by omega)]; exact (by rw [jA19 (a) (by omega), jA17 (a) (by omega), jA16 (a) (by omega), jA14 (a) (by omega), jA13 (a) (by omega), jA12 (a) (by omega), jA11 (a) (by omega)]; exact jC10)), (by rw [hI9 (a + 10) (by omega)]; exact (by rw [jA19 (a + 10) (by omega), jA17 (a + 10) (by omega), jA16 (a + 10) (by omega), jB14 0 (by decide), jB13 0 (by decide)]; exact jC12)), (by rw [hI9 (a + 10) (by omega)]; exact (by rw [jA19 (a + 10) (by omega), jA17 (a + 10) (by omega), jA16 (a + 10) (by omega), jB14 1 (by decide)]; exact jC13)), (by rw [hI9 (a + 10) (by omega)]; exact (by rw [jA19 (a + 10) (by omega), jA17 (a + 10) (by omega), jA16 (a + 10) (by omega)]; exact jC14)), (by rw [hI9 (a + 11) (by omega)]; exact (show kDI J19 Q20 N19 (a + 11) from (bF17.keep (fun q h1 h2 => ⟨by rw [jA19 (q) (by omega)], by rw [qA20 (q) (by omega), qA19 (q) (by omega), qA18 (q) (by omega)], by rw [nA19 (q) (by omega)]⟩))))⟩

set_option maxRecDepth 20000 in
theorem lX9_slots (hR2 : R 0 8 = some 82) (hN8 : N 82 = 5) (hq : ∀ (i : Nat) (I' : HI) (L' : HL) (R' : HR) (N' : HN), i = 5 → (∀ q, q < 92 → I' q = I q) → (∀ q, q < 92 → q ≠ 82 → R' q = R q) → (∀ q, q < 92 → N' q = N q) → (∀ r, r < i → R' 82 r = some (92 + 5 * r) ∧ kSL I' R' N' (92 + 5 * r)) → WP sc 3 (5 * 0 + 0) (36 * 0 + 0) mX9_init 156 [vR 9 0, vI (nI i)] [] I' L' R' N' (92 + 5 * i) Q) : WP sc 3 (5 * 5 + 0) (36 * 5 + 0) mX9_init 132 [vR 9 0, vI (nI 0)] [] I L R N (92 + 5 * 0) Q := by
  have lp : ∀ (k i : Nat) (Ia : HI) (La : HL) (Ra : HR) (Na : HN), i + k = 5 → (∀ q, q < 92 → Ia q = I q) → (∀ q, q < 92 → q ≠ 82 → Ra q = R q) → (∀ q, q < 92 → Na q = N q) → (∀ r, r < i → Ra 82 r = some (92 + 5 * r) ∧ kSL Ia Ra Na (92 + 5 * r)) → WP sc 3 (5 * k + 0) (36 * k + 0) mX9_init 132 [vR 9 0, vI (nI i)] [] Ia La Ra Na (92 + 5 * i) Q := by
    intro k
    induction k with
    | zero =>
      intro i Ia La Ra Na hj hI1 hR1 hN1 hf1
      refine w_iload_n dX9_init_132 rfl ?_
      refine w_iconst dX9_init_133 ic_5 ?_
      refine w_icmp_ge (tgt := 156) dX9_init_134 (by decide) (fun c134 => ?_) (fun c134 => ?_)
      · exact hq i Ia La Ra Na (by omega) hI1 hR1 hN1 hf1
      · exact absurd (nI_le (a := 5) (by omega) (by omega)) c134
    | succ k ih =>
      intro i Ia La Ra Na hj hI1 hR1 hN1 hf1
      refine w_iload_n dX9_init_132 rfl ?_
      refine w_iconst dX9_init_133 ic_5 ?_
      refine w_icmp_ge (tgt := 156) dX9_init_134 (by decide) (fun c134 => ?_) (fun c134 => ?_)
      · exact absurd ((nI_leI (a := 5) (by decide) (by omega)).mp c134) (by omega)
      · refine w_aload_n dX9_init_137 rfl ?_
        refine w_getR dX9_init_138 flX9_59 rfl (show Ra 0 8 = some 82 by rw [hR1 0 (by omega) (by omega)]; exact hR2) ?_
        refine w_iload_n dX9_init_141 rfl ?_
        refine k_new (t := 5) (z := 4) (mc := 5 * k + 4) (ms := 36 * k + 32) dX9_init_142 (by decide) clX9_57 itX5 iiX5 rfl (by omega) (by omega) (fun J0 L0 Q0 jA0 jZ0 qA0 => ?_)
        refine w_dup dX9_init_145 rfl ?_
        refine k_I (t := 5) (as := []) (d' := 2) (mc := 5 * k + 0) (mc2 := 4) (ms := 36 * k + 0) (ms2 := 32) dX9_init_146 nlX9_72 moX5_init imX5_init rfl rfl rfl rfl rfl rfl (by decide) (by omega) (by omega) (sX5_init (fun J1 L1 Q1 N1 jA1 qA1 nA1 bF1 => ?_))
        refine k_aast (t := 16) dX9_init_149 (by decide) (by decide) rfl (show N1 82 = 5 by rw [nA1 82 (by omega), hN1 82 (by omega)]; exact hN8) (by omega) (by decide) (fun Q2 qA2 qB2 qC2 => ?_)
        refine w_iinc (al' := [_, _]) dX9_init_150 rfl rfl ic_1 rfl ?_
        refine w_goto (tgt := 132) dX9_init_153 (by decide) ?_
        rw [nI_1, show 92 + 5 * i + 5 = 92 + 5 * (i + 1) by omega]
        refine ih (i + 1) J1 L1 Q2 N1 (by omega) (fun q hq => by rw [jA1 q (by omega), jA0 q (by omega)]; exact hI1 q hq) (fun q hq hne => by rw [qA2 q hne, qA1 q (by omega), qA0 q (by omega)]; exact hR1 q hq hne) (fun q hq => by rw [nA1 q (by omega)]; exact hN1 q hq) (fun r hr => ?_)
        by_cases e : r = i
        · subst e; exact ⟨qC2, bF1.keep (fun q h1 h2 => ⟨rfl, qA2 q (by omega), rfl⟩)⟩
        · refine ⟨by rw [qB2 r e, qA1 82 (by omega), qA0 82 (by omega)]; exact (hf1 r (by omega)).1, (hf1 r (by omega)).2.keep (fun q h1 h2 => ⟨?_, ?_, ?_⟩)⟩
          · rw [jA1 q (by omega), jA0 q (by omega)]
          · rw [qA2 q (by omega), qA1 q (by omega), qA0 q (by omega)]
          · rw [nA1 q (by omega)]
  exact lp 5 0 I L R N rfl (fun _ _ => rfl) (fun _ _ _ => rfl) (fun _ _ => rfl) (fun r hr => absurd hr (Nat.not_lt_zero r))

set_option maxRecDepth 20000 in
theorem lX9_sheets (hR2 : R 0 7 = some 81) (hN8 : N 81 = 4) (hq : ∀ (i : Nat) (I' : HI) (L' : HL) (R' : HR) (N' : HN), i = 4 → (∀ q, q < 84 → I' q = I q) → (∀ q, q < 84 → q ≠ 81 → R' q = R q) → (∀ q, q < 84 → N' q = N q) → (∀ r, r < i → R' 81 r = some (84 + 2 * r) ∧ kSH I' R' N' (84 + 2 * r)) → WP sc 3 (2 * 0 + 25) (27 * 0 + 180) mX9_init 130 [vR 9 0, vI (nI i)] [] I' L' R' N' (84 + 2 * i) Q) : WP sc 3 (2 * 4 + 25) (27 * 4 + 180) mX9_init 106 [vR 9 0, vI (nI 0)] [] I L R N (84 + 2 * 0) Q := by
  have lp : ∀ (k i : Nat) (Ia : HI) (La : HL) (Ra : HR) (Na : HN), i + k = 4 → (∀ q, q < 84 → Ia q = I q) → (∀ q, q < 84 → q ≠ 81 → Ra q = R q) → (∀ q, q < 84 → Na q = N q) → (∀ r, r < i → Ra 81 r = some (84 + 2 * r) ∧ kSH Ia Ra Na (84 + 2 * r)) → WP sc 3 (2 * k + 25) (27 * k + 180) mX9_init 106 [vR 9 0, vI (nI i)] [] Ia La Ra Na (84 + 2 * i) Q := by
    intro k
    induction k with
    | zero =>
      intro i Ia La Ra Na hj hI1 hR1 hN1 hf1
      refine w_iload_n dX9_init_106 rfl ?_
      refine w_iconst dX9_init_107 ic_4 ?_
      refine w_icmp_ge (tgt := 130) dX9_init_108 (by decide) (fun c108 => ?_) (fun c108 => ?_)
      · exact hq i Ia La Ra Na (by omega) hI1 hR1 hN1 hf1
      · exact absurd (nI_le (a := 4) (by omega) (by omega)) c108
    | succ k ih =>
      intro i Ia La Ra Na hj hI1 hR1 hN1 hf1
      refine w_iload_n dX9_init_106 rfl ?_
      refine w_iconst dX9_init_107 ic_4 ?_
      refine w_icmp_ge (tgt := 130) dX9_init_108 (by decide) (fun c108 => ?_) (fun c108 => ?_)
      · exact absurd ((nI_leI (a := 4) (by decide) (by omega)).mp c108) (by omega)
      · refine w_aload_n dX9_init_111 rfl ?_
        refine w_getR dX9_init_112 flX9_53 rfl (show Ra 0 7 = some 81 by rw [hR1 0 (by omega) (by omega)]; exact hR2) ?_
        refine w_iload_n dX9_init_115 rfl ?_
        refine k_new (t := 4) (z := 3) (mc := 2 * k + 26) (ms := 27 * k + 204) dX9_init_116 (by decide) clX9_51 itX4 iiX4 rfl (by omega) (by omega) (fun J0 L0 Q0 jA0 jZ0 qA0 => ?_)
        refine w_dup dX9_init_119 rfl ?_
        refine k_I (t := 4) (as := []) (d' := 1) (mc := 2 * k + 25) (mc2 := 1) (ms := 27 * k + 180) (ms2 := 24) dX9_init_120 nlX9_71 moX4_init imX4_init rfl rfl rfl rfl rfl rfl (by decide) (by omega) (by omega) (sX4_init (fun J1 L1 Q1 N1 jA1 qA1 nA1 bF1 => ?_))
        refine k_aast (t := 15) dX9_init_123 (by decide) (by decide) rfl (show N1 81 = 4 by rw [nA1 81 (by omega), hN1 81 (by omega)]; exact hN8) (by omega) (by decide) (fun Q2 qA2 qB2 qC2 => ?_)
        refine w_iinc (al' := [_, _]) dX9_init_124 rfl rfl ic_1 rfl ?_
        refine w_goto (tgt := 106) dX9_init_127 (by decide) ?_
        rw [nI_1, show 84 + 2 * i + 2 = 84 + 2 * (i + 1) by omega]
        refine ih (i + 1) J1 L1 Q2 N1 (by omega) (fun q hq => by rw [jA1 q (by omega), jA0 q (by omega)]; exact hI1 q hq) (fun q hq hne => by rw [qA2 q hne, qA1 q (by omega), qA0 q (by omega)]; exact hR1 q hq hne) (fun q hq => by rw [nA1 q (by omega)]; exact hN1 q hq) (fun r hr => ?_)
        by_cases e : r = i
        · subst e; exact ⟨qC2, bF1.keep (fun q h1 h2 => ⟨rfl, qA2 q (by omega), rfl⟩)⟩
        · refine ⟨by rw [qB2 r e, qA1 81 (by omega), qA0 81 (by omega)]; exact (hf1 r (by omega)).1, (hf1 r (by omega)).2.keep (fun q h1 h2 => ⟨?_, ?_, ?_⟩)⟩
          · rw [jA1 q (by omega), jA0 q (by omega)]
          · rw [qA2 q (by omega), qA1 q (by omega), qA0 q (by omega)]
          · rw [nA1 q (by omega)]
  exact lp 4 0 I L R N rfl (fun _ _ => rfl) (fun _ _ _ => rfl) (fun _ _ => rfl) (fun r hr => absurd hr (Nat.not_lt_zero r))

set_option maxRecDepth 20000 in
theorem sX9_init (hq : ∀ (I' : HI) (L' : HL) (R' : HR) (N' : HN), kFS I' R' N' → Q vU I' L' R' N' (92 + 5 * 5)) : CA sc 3 116 1429 mX9_init [vR 9 0] I L R N (0 + 1) Q := by
  refine ca_in (al := [_, _]) rfl ?_
  refine w_aload_n dX9_init_0 rfl ?_
  refine w_objInit dX9_init_1 mlX9_1 im_obj co_obj (by decide) (Nat.le_of_ble_eq_true rfl) ?_
  refine w_aload_n dX9_init_4 rfl ?_
  refine k_new (t := 8) (z := 11) (mc := 115) (ms := 1418) dX9_init_5 (by decide) clX9_7 itX8 iiX8 rfl (by decide) (by decide) (fun J0 L0 Q0 jA0 jZ0 qA0 => ?_)
  refine w_dup dX9_init_8 rfl ?_
  refine k_I (t := 8) (as := []) (d' := 2) (mc := 87) (mc2 := 28) (ms := 1208) (ms2 := 210) dX9_init_9 (Or.inl mlX9_9) moX8_init imX8_init rfl rfl rfl rfl rfl rfl (by decide) (by decide) (by decide) (sX8_init (fun J1 L1 Q1 N1 jA1 qA1 nA1 bF1 => ?_))
  refine k_putR dX9_init_12 flX9_10 rfl rfl rfl rfl (fun Q2 qA2 qB2 qC2 => ?_)
  refine w_aload_n dX9_init_15 rfl ?_
  refine k_new (t := 8) (z := 11) (mc := 86) (ms := 1197) dX9_init_16 (by decide) clX9_7 itX8 iiX8 rfl (by decide) (by decide) (fun J3 L3 Q3 jA3 jZ3 qA3 => ?_)
  refine w_dup dX9_init_19 rfl ?_
  refine k_I (t := 8) (as := []) (d' := 2) (mc := 58) (mc2 := 28) (ms := 987) (ms2 := 210) dX9_init_20 (Or.inl mlX9_9) moX8_init imX8_init rfl rfl rfl rfl rfl rfl (by decide) (by decide) (by decide) (sX8_init (fun J4 L4 Q4 N4 jA4 qA4 nA4 bF4 => ?_))
  refine k_putR dX9_init_23 flX9_16 rfl rfl rfl rfl (fun Q5 qA5 qB5 qC5 => ?_)
  refine w_aload_n dX9_init_26 rfl ?_
  refine w_iconst dX9_init_27 ic_0 ?_
  refine w_putI dX9_init_28 flX9_19 rfl rfl rfl rfl ?_
  refine w_st (fun J6 jA6 jB6 jC6 => ?_)
  refine w_aload_n dX9_init_31 rfl ?_
  refine k_new (t := 2) (z := 12) (mc := 57) (ms := 975) dX9_init_32 (by decide) clX9_23 itX2 iiX2 rfl (by decide) (by decide) (fun J7 L7 Q7 jA7 jZ7 qA7 => ?_)
  refine w_dup dX9_init_35 rfl ?_
  refine k_I (t := 2) (as := []) (d' := 1) (mc := 43) (mc2 := 14) (ms := 566) (ms2 := 409) dX9_init_36 nlX9_25 moX2_init imX2_init rfl rfl rfl rfl rfl rfl (by decide) (by decide) (by decide) (sX2_init (fun J8 L8 Q8 N8 jA8 qA8 nA8 bF8 => ?_))
  refine k_putR dX9_init_39 flX9_26 rfl rfl rfl rfl (fun Q9 qA9 qB9 qC9 => ?_)
  refine w_aload_n dX9_init_42 rfl ?_
  refine k_new (t := 3) (z := 2) (mc := 42) (ms := 564) dX9_init_43 (by decide) clX9_30 itX3 iiX3 rfl (by decide) (by decide) (fun J10 L10 Q10 jA10 jZ10 qA10 => ?_)
  refine w_dup dX9_init_46 rfl ?_
  refine k_I (t := 3) (as := []) (d' := 1) (mc := 41) (mc2 := 1) (ms := 561) (ms2 := 3) dX9_init_47 nlX9_32 moX3_init imX3_init rfl rfl rfl rfl rfl rfl (by decide) (by decide) (by decide) (sX3_init (fun J11 L11 Q11 N11 jA11 qA11 nA11 bF11 => ?_))
  refine k_putR dX9_init_50 flX9_33 rfl rfl rfl rfl (fun Q12 qA12 qB12 qC12 => ?_)
  refine w_aload_n dX9_init_53 rfl ?_
  refine k_new (t := 0) (z := 1) (mc := 40) (ms := 560) dX9_init_54 (by decide) clX9_37 itX0 iiX0 rfl (by decide) (by decide) (fun J13 L13 Q13 jA13 jZ13 qA13 => ?_)
  refine w_dup dX9_init_57 rfl ?_
  refine k_I (t := 0) (as := []) (d' := 1) (mc := 40) (mc2 := 0) (ms := 560) (ms2 := 0) dX9_init_58 nlX9_39 moX0_init imX0_init rfl rfl rfl rfl rfl rfl (by decide) (by decide) (by decide) (sX0_init (fun J14 L14 Q14 N14 jA14 qA14 nA14 bF14 => ?_))
  refine k_putR dX9_init_61 flX9_40 rfl rfl rfl rfl (fun Q15 qA15 qB15 qC15 => ?_)
  refine w_aload_n dX9_init_64 rfl ?_
  refine k_new (t := 1) (z := 6) (mc := 39) (ms := 554) dX9_init_65 (by decide) clX9_44 itX1 iiX1 rfl (by decide) (by decide) (fun J16 L16 Q16 jA16 jZ16 qA16 => ?_)
  refine w_dup dX9_init_68 rfl ?_
  refine k_I (t := 1) (as := []) (d' := 2) (mc := 36) (mc2 := 3) (ms := 357) (ms2 := 197) dX9_init_69 nlX9_46 moX1_init imX1_init rfl rfl rfl rfl rfl rfl (by decide) (by decide) (by decide) (sX1_init (fun J17 L17 Q17 N17 jA17 qA17 nA17 bF17 => ?_))
  refine k_putR dX9_init_72 flX9_47 rfl rfl rfl rfl (fun Q18 qA18 qB18 qC18 => ?_)
  refine w_aload_n dX9_init_75 rfl ?_
  refine w_iconst dX9_init_76 ic_4 ?_
  refine k_newO (t := 15) (z := 4) (mc := 35) (ms := 353) (by decide) (by decide) dX9_init_77 clX9_51 (by decide +kernel) rfl (by decide) (by decide) (by decide) (fun Q19 N19 qA19 nA19 nC19 => ?_)
  refine k_putR dX9_init_80 flX9_53 rfl rfl rfl rfl (fun Q20 qA20 qB20 qC20 => ?_)
  refine w_aload_n dX9_init_83 rfl ?_
  refine w_iconst dX9_init_84 ic_5 ?_
  refine k_newO (t := 16) (z := 5) (mc := 34) (ms := 348) (by decide) (by decide) dX9_init_85 clX9_57 (by decide +kernel) rfl (by decide) (by decide) (by decide) (fun Q21 N21 qA21 nA21 nC21 => ?_)
  refine k_putR dX9_init_88 flX9_59 rfl rfl rfl rfl (fun Q22 qA22 qB22 qC22 => ?_)
  refine w_aload_n dX9_init_91 rfl ?_
  refine w_bipush dX9_init_92 bp_60 ?_
  refine k_newI (z := 60) (mc := 33) (ms := 288) dX9_init_94 ac_int rfl (by decide) (by decide) (by decide) (fun J23 Q23 N23 jA23 jZ23 qA23 nA23 nC23 => ?_)
  refine k_putR dX9_init_96 flX9_63 rfl rfl rfl rfl (fun Q24 qA24 qB24 qC24 => ?_)
  refine w_aload_n dX9_init_99 rfl ?_
  refine w_iconst dX9_init_100 ic_0 ?_
  refine w_putI dX9_init_101 flX9_67 rfl rfl rfl rfl ?_
  refine w_st (fun J25 jA25 jB25 jC25 => ?_)
  refine w_iconst dX9_init_104 ic_0 ?_
  refine w_top (y := nI 0) (rfl) ?_
  refine w_istore_n (al' := [_, _]) dX9_init_105 rfl rfl rfl ?_
  refine lX9_sheets (I := J25) (R := Q24) (N := N23) (by rw [qB24 7 (by decide), qA23 (0) (by omega), qB22 7 (by decide), qA21 (0) (by omega)]; exact qC20) (by rw [nA23 (81) (by omega), nA21 (81) (by omega)]; exact nC19) (fun i9 I9 L9 R9 N9 e9 hI9 hR9 hN9 hf9 => ?_)
  subst e9
  refine w_iconst dX9_init_130 ic_0 ?_
  refine w_istore_n (al' := [_, _]) dX9_init_131 rfl rfl rfl ?_
  refine lX9_slots (I := I9) (R := R9) (N := N9) (by rw [hR9 0 (by decide) (by decide)]; exact (by rw [qB24 8 (by decide), qA23 (0) (by omega)]; exact qC22)) (by rw [hN9 82 (by decide)]; exact (by rw [nA23 (82) (by omega)]; exact nC21)) (fun i8 I8 L8 R8 N8 e8 hI8 hR8 hN8 hf8 => ?_)
  subst e8
  refine w_return dX9_init_156 rfl ?_
  exact hq I8 L8 R8 N8 ⟨⟨(by rw [hR8 0 (by decide) (by decide), hR9 0 (by decide) (by decide)]; exact (by rw [qB24 0 (by decide), qA23 (0) (by omega), qB22 0 (by decide), qA21 (0) (by omega), qB20 0 (by decide), qA19 (0) (by omega), qB18 0 (by decide), qA17 (0) (by omega), qA16 (0) (by omega), qB15 0 (by decide), qA14 (0) (by omega), qA13 (0) (by omega), qB12 0 (by decide), qA11 (0) (by omega), qA10 (0) (by omega), qB9 0 (by decide), qA8 (0) (by omega), qA7 (0) (by omega), qB5 0 (by decide), qA4 (0) (by omega), qA3 (0) (by omega)]; exact qC2)), ((show kWO J25 Q24 N23 1 from (bF1.keep (fun q h1 h2 => ⟨by rw [jA25 (q) (by omega), jA23 (q) (by omega), jA17 (q) (by omega), jA16 (q) (by omega), jA14 (q) (by omega), jA13 (q) (by omega), jA11 (q) (by omega), jA10 (q) (by omega), jA8 (q) (by omega), jA7 (q) (by omega), jA6 (q) (by omega), jA4 (q) (by omega), jA3 (q) (by omega)], by rw [qA24 (q) (by omega), qA23 (q) (by omega), qA22 (q) (by omega), qA21 (q) (by omega), qA20 (q) (by omega), qA19 (q) (by omega), qA18 (q) (by omega), qA17 (q) (by omega), qA16 (q) (by omega), qA15 (q) (by omega), qA14 (q) (by omega), qA13 (q) (by omega), qA12 (q) (by omega), qA11 (q) (by omega), qA10 (q) (by omega), qA9 (q) (by omega), qA8 (q) (by omega), qA7 (q) (by omega), qA5 (q) (by omega), qA4 (q) (by omega), qA3 (q) (by omega), qA2 (q) (by omega)], by rw [nA23 (q) (by omega), nA21 (q) (by omega), nA19 (q) (by omega), nA17 (q) (by omega), nA14 (q) (by omega), nA11 (q) (by omega), nA8 (q) (by omega), nA4 (q) (by omega)]⟩))).keep (fun q h1 h2 => ⟨by rw [hI8 q (by omega), hI9 q (by omega)], by rw [hR8 q (by omega) (by omega), hR9 q (by omega) (by omega)], by rw [hN8 q (by omega), hN9 q (by omega)]⟩))⟩, ⟨(by rw [hR8 0 (by decide) (by decide), hR9 0 (by decide) (by decide)]; exact (by rw [qB24 1 (by decide), qA23 (0) (by omega), qB22 1 (by decide), qA21 (0) (by omega), qB20 1 (by decide), qA19 (0) (by omega), qB18 1 (by decide), qA17 (0) (by omega), qA16 (0) (by omega), qB15 1 (by decide), qA14 (0) (by omega), qA13 (0) (by omega), qB12 1 (by decide), qA11 (0) (by omega), qA10 (0) (by omega), qB9 1 (by decide), qA8 (0) (by omega), qA7 (0) (by omega)]; exact qC5)), ((show kWO J25 Q24 N23 30 from (bF4.keep (fun q h1 h2 => ⟨by rw [jA25 (q) (by omega), jA23 (q) (by omega), jA17 (q) (by omega), jA16 (q) (by omega), jA14 (q) (by omega), jA13 (q) (by omega), jA11 (q) (by omega), jA10 (q) (by omega), jA8 (q) (by omega), jA7 (q) (by omega), jA6 (q) (by omega)], by rw [qA24 (q) (by omega), qA23 (q) (by omega), qA22 (q) (by omega), qA21 (q) (by omega), qA20 (q) (by omega), qA19 (q) (by omega), qA18 (q) (by omega), qA17 (q) (by omega), qA16 (q) (by omega), qA15 (q) (by omega), qA14 (q) (by omega), qA13 (q) (by omega), qA12 (q) (by omega), qA11 (q) (by omega), qA10 (q) (by omega), qA9 (q) (by omega), qA8 (q) (by omega), qA7 (q) (by omega), qA5 (q) (by omega)], by rw [nA23 (q) (by omega), nA21 (q) (by omega), nA19 (q) (by omega), nA17 (q) (by omega), nA14 (q) (by omega), nA11 (q) (by omega), nA8 (q) (by omega)]⟩))).keep (fun q h1 h2 => ⟨by rw [hI8 q (by omega), hI9 q (by omega)], by rw [hR8 q (by omega) (by omega), hR9 q (by omega) (by omega)], by rw [hN8 q (by omega), hN9 q (by omega)]⟩))⟩, ⟨(by rw [hR8 0 (by decide) (by decide), hR9 0 (by decide) (by decide)]; exact (by rw [qB24 3 (by decide), qA23 (0) (by omega), qB22 3 (by decide), qA21 (0) (by omega), qB20 3 (by decide), qA19 (0) (by omega), qB18 3 (by decide), qA17 (0) (by omega), qA16 (0) (by omega), qB15 3 (by decide), qA14 (0) (by omega), qA13 (0) (by omega), qB12 3 (by decide), qA11 (0) (by omega), qA10 (0) (by omega)]; exact qC9)), ((show kPL J25 Q24 N23 59 from (bF8.keep (fun q h1 h2 => ⟨by rw [jA25 (q) (by omega), jA23 (q) (by omega), jA17 (q) (by omega), jA16 (q) (by omega), jA14 (q) (by omega), jA13 (q) (by omega), jA11 (q) (by omega), jA10 (q) (by omega)], by rw [qA24 (q) (by omega), qA23 (q) (by omega), qA22 (q) (by omega), qA21 (q) (by omega), qA20 (q) (by omega), qA19 (q) (by omega), qA18 (q) (by omega), qA17 (q) (by omega), qA16 (q) (by omega), qA15 (q) (by omega), qA14 (q) (by omega), qA13 (q) (by omega), qA12 (q) (by omega), qA11 (q) (by omega), qA10 (q) (by omega), qA9 (q) (by omega)], by rw [nA23 (q) (by omega), nA21 (q) (by omega), nA19 (q) (by omega), nA17 (q) (by omega), nA14 (q) (by omega), nA11 (q) (by omega)]⟩))).keep (fun q h1 h2 => ⟨by rw [hI8 q (by omega), hI9 q (by omega)], by rw [hR8 q (by omega) (by omega), hR9 q (by omega) (by omega)], by rw [hN8 q (by omega), hN9 q (by omega)]⟩))⟩, ⟨(by rw [hR8 0 (by decide) (by decide), hR9 0 (by decide) (by decide)]; exact (by rw [qB24 4 (by decide), qA23 (0) (by omega), qB22 4 (by decide), qA21 (0) (by omega), qB20 4 (by decide), qA19 (0) (by omega), qB18 4 (by decide), qA17 (0) (by omega), qA16 (0) (by omega), qB15 4 (by decide), qA14 (0) (by omega), qA13 (0) (by omega)]; exact qC12)), ((show kRU J25 Q24 N23 74 from (bF11.keep (fun q h1 h2 => ⟨by rw [jA25 (q) (by omega), jA23 (q) (by omega), jA17 (q) (by omega), jA16 (q) (by omega), jA14 (q) (by omega), jA13 (q) (by omega)], by rw [qA24 (q) (by omega), qA23 (q) (by omega), qA22 (q) (by omega), qA21 (q) (by omega), qA20 (q) (by omega), qA19 (q) (by omega), qA18 (q) (by omega), qA17 (q) (by omega), qA16 (q) (by omega), qA15 (q) (by omega), qA14 (q) (by omega), qA13 (q) (by omega), qA12 (q) (by omega)], by rw [nA23 (q) (by omega), nA21 (q) (by omega), nA19 (q) (by omega), nA17 (q) (by omega), nA14 (q) (by omega)]⟩))).keep (fun q h1 h2 => ⟨by rw [hI8 q (by omega), hI9 q (by omega)], by rw [hR8 q (by omega) (by omega), hR9 q (by omega) (by omega)], by rw [hN8 q (by omega), hN9 q (by omega)]⟩))⟩, (by rw [hR8 0 (by decide) (by decide), hR9 0 (by decide) (by decide)]; exact (by rw [qB24 5 (by decide), qA23 (0) (by omega), qB22 5 (by decide), qA21 (0) (by omega), qB20 5 (by decide), qA19 (0) (by omega), qB18 5 (by decide), qA17 (0) (by omega), qA16 (0) (by omega)]; exact qC15)), ⟨(by rw [hR8 0 (by decide) (by decide), hR9 0 (by decide) (by decide)]; exact (by rw [qB24 6 (by decide), qA23 (0) (by omega), qB22 6 (by decide), qA21 (0) (by omega), qB20 6 (by decide), qA19 (0) (by omega)]; exact qC18)), ((show kPA J25 Q24 N23 77 from (bF17.keep (fun q h1 h2 => ⟨by rw [jA25 (q) (by omega), jA23 (q) (by omega)], by rw [qA24 (q) (by omega), qA23 (q) (by omega), qA22 (q) (by omega), qA21 (q) (by omega), qA20 (q) (by omega), qA19 (q) (by omega), qA18 (q) (by omega)], by rw [nA23 (q) (by omega), nA21 (q) (by omega), nA19 (q) (by omega)]⟩))).keep (fun q h1 h2 => ⟨by rw [hI8 q (by omega), hI9 q (by omega)], by rw [hR8 q (by omega) (by omega), hR9 q (by omega) (by omega)], by rw [hN8 q (by omega), hN9 q (by omega)]⟩))⟩, ⟨(by rw [hR8 0 (by decide) (by decide), hR9 0 (by decide) (by decide)]; exact (by rw [qB24 7 (by decide), qA23 (0) (by omega), qB22 7 (by decide), qA21 (0) (by omega)]; exact qC20)), (by rw [hN8 81 (by decide), hN9 81 (by decide)]; exact (by rw [nA23 (81) (by omega), nA21 (81) (by omega)]; exact nC19))⟩, ⟨(by rw [hR8 0 (by decide) (by decide), hR9 0 (by decide) (by decide)]; exact (by rw [qB24 8 (by decide), qA23 (0) (by omega)]; exact qC22)), (by rw [hN8 82 (by decide), hN9 82 (by decide)]; exact (by rw [nA23 (82) (by omega)]; exact nC21))⟩, ⟨(by rw [hR8 0 (by decide) (by decide), hR9 0 (by decide) (by decide)]; exact (qC24)), (by rw [hN8 83 (by decide), hN9 83 (by decide)]; exact (nC23))⟩, (fun j hj => ⟨by rw [hR8 81 (by decide) (by decide)]; exact (hf9 j hj).1, (hf9 j hj).2.keep (fun q h1 h2 => ⟨hI8 q (by omega), hR8 q (by omega) (by omega), hN8 q (by omega)⟩)⟩), hf8, (by rw [hI8 0 (by decide), hI9 0 (by decide)]; exact (by rw [jB25 2 (by decide), jA23 (0) (by omega), jA17 (0) (by omega), jA16 (0) (by omega), jA14 (0) (by omega), jA13 (0) (by omega), jA11 (0) (by omega), jA10 (0) (by omega), jA8 (0) (by omega), jA7 (0) (by omega)]; exact jC6)), (by rw [hI8 0 (by decide), hI9 0 (by decide)]; exact (jC25))⟩

end
