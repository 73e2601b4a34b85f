section
variable {sc : SC} {I : HI} {L : HL} {R : HR} {N : HN} {n : Nat} {Q : HQ}
theorem half_rng {f : Int32} (h : inN f 0 100) : inN (f / 2) 0 100 := by
  obtain ⟨k, -, hk, rfl⟩ := h
  refine ⟨k / 2, Nat.zero_le _, by omega, ?_⟩
  show nI k / nI 2 = _
  exact nI_div (by omega) (by omega) (by omega)
theorem clamp_rng (v : Int32) : inN (clampI v 0 100) 0 100 := by
  unfold clampI
  split
  · exact ⟨0, by omega, by omega, rfl⟩
  · split
    · exact ⟨100, by omega, by omega, rfl⟩
    · exact inN_of (m := 100) (by decide) ⟨Int32.not_lt.mp (by assumption), Int32.not_lt.mp (by assumption)⟩
theorem forg_rng {V : VV} (hV : VO V) {s : Nat} (hs : s < nS V) (cd d : Int32) : inN (forgV V (V (6 + 7 * s + 1)) cd d) 0 100 := by
  have hf := (hV.2.2.2.1 s hs).2
  unfold forgV
  split
  · split
    · exact hf
    · exact half_rng hf
  · exact clamp_rng _
theorem pOut_rng (p : PL) (hF : ∀ d, d < 31 → inN (p.2.1 d) 0 100) : ∀ d, d ≤ 31 → ∃ k, k ≤ 1000000 ∧ pOut p d = nI k
  | 0, _ => ⟨1000000, Nat.le_refl _, rfl⟩
  | d + 1, hd => by
    obtain ⟨k, hk, e⟩ := pOut_rng p hF d (by omega)
    obtain ⟨f, -, hf, e2⟩ := hF d (by omega)
    rw [pOut_s]
    unfold pBr
    by_cases h : pBs p d
    · rw [cif_t h, e, e2]
      have e3 : nI k * (100 - nI f) / 100 = nI (k * (100 - f) / 100) := by
        show nI k * (nI 100 - nI f) / nI 100 = _
        rw [nI_sub hf, nI_mul, nI_div (by have := Nat.mul_le_mul hk (Nat.sub_le 100 f); omega) (by omega) (by omega)]
      have h4 : k * (100 - f) / 100 ≤ k := by
        have := Nat.mul_le_mul_left k (Nat.sub_le 100 f)
        omega
      rw [e3, nI_sub h4]
      exact ⟨_, by omega, rfl⟩
    · rw [cif_f h, e]
      exact ⟨k, hk, Int32.sub_zero _⟩
theorem sumO_rng (p : PL) (hF : ∀ d, d < 31 → inN (p.2.1 d) 0 100) : ∀ d, d ≤ 31 → ∃ m, m ≤ d * 1000000 ∧ sumO p d = lN m
  | 0, _ => ⟨0, Nat.zero_le _, rfl⟩
  | d + 1, hd => by
    obtain ⟨m, hm, e⟩ := sumO_rng p hF d (by omega)
    obtain ⟨k, hk, e2⟩ := pOut_rng p hF (d + 1) hd
    refine ⟨m + k, by omega, ?_⟩
    rw [sumO, e, e2, nI_l (by omega), lN_add]
theorem libD_rng {V : VV} (hV : VO V) (oF : VV) (cd : Int32) : ∀ s, s ≤ nS V → ∃ m, m ≤ s * 3069000000 ∧ libD V oF cd s = lN m
  | 0, _ => ⟨0, Nat.zero_le _, rfl⟩
  | s + 1, hs => by
    obtain ⟨m, hm, e⟩ := libD_rng hV oF cd s (by omega)
    obtain ⟨a, -, ha, e1⟩ := (hV.2.2.2.1 s (by omega)).1
    obtain ⟨b, hb, e2⟩ := sumO_rng (plV V oF cd s) (fun d hd => forg_rng hV (by omega) cd (nI d)) 31 (Nat.le_refl _)
    refine ⟨m + a * b, ?_, ?_⟩
    · have := Nat.mul_le_mul ha hb
      omega
    · rw [libD, e, e1, e2, nI_l (by omega), lN_mul, lN_add]
theorem lN_nn {m : Nat} (h : m < 9223372036854775808) : ¬ lN m < 0 := by
  intro q
  have h1 : (lN m).toInt = (m : Int) := Int64.toInt_ofNat_of_lt h
  have h2 := Int64.lt_iff_toInt_lt.mp q
  rw [h1] at h2
  have h3 : (0 : Int64).toInt = 0 := rfl
  omega
theorem libD_nn {V : VV} (hV : VO V) (oF : VV) (cd : Int32) : ¬ libD V oF cd (nS V) < 0 := by
  obtain ⟨m, hm, e⟩ := libD_rng hV oF cd (nS V) (Nat.le_refl _)
  have := hV.1.2
  rw [e]
  exact lN_nn (by have := Nat.mul_le_mul_right 3069000000 this; omega)
theorem nI_none {k : Nat} (h : k < 2147483648) : nI k ≠ -1000000005 := fun e => absurd (e ▸ nI_pos' h) (by decide)
noncomputable def bestF (f : Nat → Int64) : Nat → Nat × Int64
  | 0 => (0, f 0)
  | k + 1 => cif (f (k + 1) < (bestF f k).2) (k + 1, f (k + 1)) (bestF f k)
theorem best_in (f : Nat → Int64) : ∀ k, (bestF f k).1 ≤ k ∧ (bestF f k).2 = f (bestF f k).1
  | 0 => ⟨Nat.le_refl _, rfl⟩
  | k + 1 => by
    unfold bestF
    by_cases h : f (k + 1) < (bestF f k).2
    · rw [cif_t h]; exact ⟨Nat.le_refl _, rfl⟩
    · rw [cif_f h]; exact ⟨by have := (best_in f k).1; omega, (best_in f k).2⟩
noncomputable def fSt (f : Nat → Int64) (g : Nat → Int32) (x : Int32) (y : Int64) : Nat → Int32 × Int64
  | 0 => (x, y)
  | k + 1 => (g (bestF f k).1, (bestF f k).2)
theorem fSt_t {f : Nat → Int64} {g : Nat → Int32} {x : Int32} {y : Int64} {k : Nat} (h : f (k + 1) < (bestF f k).2) : fSt f g x y (k + 2) = (g (k + 1), f (k + 1)) := by
  show (g (bestF f (k + 1)).1, (bestF f (k + 1)).2) = _
  rw [show bestF f (k + 1) = (k + 1, f (k + 1)) from cif_t h]
theorem fSt_f {f : Nat → Int64} {g : Nat → Int32} {x : Int32} {y : Int64} {k : Nat} (h : ¬ f (k + 1) < (bestF f k).2) : fSt f g x y (k + 2) = fSt f g x y (k + 1) := by
  show (g (bestF f (k + 1)).1, (bestF f (k + 1)).2) = _
  rw [show bestF f (k + 1) = bestF f k from cif_f h]
  rfl
/-- what is owed, with another a -/
def owA (V : VV) (r a : Nat) : VV := owRule V (V (48 + 4 * r)) (nI a) (V (48 + 4 * r + 2)) (V (48 + 4 * r + 3))
noncomputable def fD (V : VV) (r a : Nat) : Int64 := libD V (owA V r a) (told (V 4)) (nS V)
noncomputable def oFind (V : VV) : Int32 := cif (V 3 < 0) (-1000000002) (nI (bestF (fD V (V 3).toNatClampNeg) 40).1)
theorem V3_n {V : VV} (h : V 3 = -1) : V 3 < 0 := by rw [h]; decide
theorem V3_s {V : VV} {r : Nat} (h : V 3 = nI r) (hr : r < 8) : ¬ V 3 < 0 ∧ (V 3).toNatClampNeg = r := by rw [h]; exact ⟨nI_pos (by omega), nI_clamp (by omega)⟩
theorem ow_a {V : VV} {r a : Nat} (hr : r < 8) (hv3 : V 3 = nI r) : owV (va_up V (48 + 4 * r + 1) (nI a)) = owA V r a := by
  have h3 : (va_up V (48 + 4 * r + 1) (nI a)) 3 = nI r := (va_up_ne _ _ (by omega)).trans hv3
  rw [owV_s h3 hr]
  unfold owAt owA
  rw [owRule_80 (same80_up (by omega) (by omega)), va_up_ne _ _ (by omega), va_up_self, va_up_ne _ _ (by omega), va_up_ne _ _ (by omega)]
theorem lib_a {V : VV} {r a : Nat} (hr : r < 8) (hv3 : V 3 = nI r) (hV : VO V) : libD (va_up V (48 + 4 * r + 1) (nI a)) (owV (va_up V (48 + 4 * r + 1) (nI a))) (told (va_up V (48 + 4 * r + 1) (nI a) 4)) (nS (va_up V (48 + 4 * r + 1) (nI a))) = fD V r a := by
  rw [ow_a hr hv3, nS_hi (by omega), va_up_ne V (nI a) (show (4 : Nat) ≠ 48 + 4 * r + 1 by omega), (lib_80 (same80_up (by omega) (by omega)) (fun i h1 h2 => va_up_ne _ _ (by omega)) _ _ _ hV.1.2).1]
  rfl
theorem plan_a {V : VV} {r a s : Nat} (hr : r < 8) (hv3 : V 3 = nI r) (h6 : s < 6) : planV (va_up V (48 + 4 * r + 1) (nI a)) s = plV V (owA V r a) (told (V 4)) s := by
  unfold planV
  rw [ow_a hr hv3, va_up_ne V (nI a) (show (4 : Nat) ≠ 48 + 4 * r + 1 by omega), plV_80 (same80_up (by omega) (by omega)) (fun i h1 h2 => va_up_ne _ _ (by omega)) h6]

set_option maxRecDepth 20000 in
theorem sX3_become {r p r2 p2 : Nat} (hr : R r 1 = some p) (hp : N p = 3) (hr2 : R r2 1 = some p2) (hp2 : N p2 = 3) (h1 : p2 ≠ r) (h2 : r ≠ p)
    (hq : ∀ I' : HI, (∀ q, q ≠ r → q ≠ p → I' q = I q) → I' r 0 = I r2 0 → (∀ j, j < 3 → I' p j = I p2 j) → Q vU I' L R N n) : CA sc 1 0 0 mX3_become [vR 3 r, vR 3 r2] I L R N n Q := by
  refine ca_in (al := [_, _]) rfl ?_
  refine w_aload_n dX3_become_0 rfl ?_
  refine w_aload_n dX3_become_1 rfl ?_
  refine w_getI dX3_become_2 flX3_9 rfl ?_
  refine w_putI dX3_become_5 flX3_9 rfl rfl rfl rfl ?_
  refine w_aload_n dX3_become_8 rfl ?_
  refine w_getR dX3_become_9 flX3_15 rfl hr2 ?_
  refine w_iconst dX3_become_12 ic_0 ?_
  refine w_aload_n dX3_become_13 rfl ?_
  refine w_getR dX3_become_14 flX3_15 rfl hr ?_
  refine w_iconst dX3_become_17 ic_0 ?_
  refine w_iconst dX3_become_18 ic_3 ?_
  refine w_acopy dX3_become_19 mlX3_19 nat_acopy st_acopy iiJ10 (by decide) (Nat.le_of_ble_eq_true rfl) (u := 0) (v := 0) (w := 3) rfl rfl rfl (by omega) (by omega) (by omega) (by omega) ?_
  refine w_return dX3_become_22 rfl ?_
  refine hq _ (fun q a1 a2 => by rw [va_up_ne _ _ a2, va_up_ne _ _ a1]) (by rw [va_up_ne _ _ h2, va_up_self, va_up_self]) (fun j hj => ?_)
  rw [va_up_self, va_up_ne _ _ h1]
  unfold va_cpy
  rw [if_pos (by omega)]
  congr 1
  omega

theorem c_pos {V : VV} (hV : VO V) {r : Nat} (hr : r < nRu V) : 0 < V (48 + 4 * r + 3) := by
  obtain ⟨k, h1, h2, h3⟩ := (hV.2.2.2.2.1 r hr).2
  rw [h3]
  exact nI_lt (a := 0) (by omega) (by omega)
set_option maxRecDepth 20000 in
theorem lX9_find (hs : SK R N) {V : VV} (hV : VO V) {r rr : Nat} (hr : r < nRu V) (hq : ∀ (I' : HI) (L' : HL), (∀ q, FC q → I' q = I q) → WC I' R N n 1 V → Q (vI (nI (bestF (fD V r) 40).1)) I' L' R N n) {I1 : HI} {L1 : HL} (hI1 : ∀ q, FC q → I1 q = I q) (hC1 : WC I1 R N n 1 V) (ht : I1 74 0 = V (48 + 4 * r) ∧ I1 75 1 = V (48 + 4 * r + 2) ∧ I1 75 2 = V (48 + 4 * r + 3)) (hf : ∀ s, s < nS V → ∀ j, j < 31 → I1 (62 + s) j = forgV V (V (6 + 7 * s + 1)) (told (V 4)) (nI j)) : WP sc 6 0 0 mX9_find 49 [vR 9 0, vR 3 rr, vI (-1000000005), vL 0, vU, vI (nI 0)] [] I1 L1 R N n Q := by
  have h6 := hV.1.2
  have h8 := hV.2.1.2
  have lp : ∀ (k j : Nat) (I1 : HI) (L1 : HL), j + k = 41 → (∀ q, FC q → I1 q = I q) → WC I1 R N n 1 V → (I1 74 0 = V (48 + 4 * r) ∧ I1 75 1 = V (48 + 4 * r + 2) ∧ I1 75 2 = V (48 + 4 * r + 3)) → (∀ s, s < nS V → ∀ j, j < 31 → I1 (62 + s) j = forgV V (V (6 + 7 * s + 1)) (told (V 4)) (nI j)) → WP sc 6 0 0 mX9_find 49 [vR 9 0, vR 3 rr, vI (fSt (fD V r) nI (-1000000005) 0 j).1, vL (fSt (fD V r) nI (-1000000005) 0 j).2, vU, vI (nI j)] [] I1 L1 R N n Q := by
    intro k
    induction k with
    | zero =>
      intro j I1 L1 hj hI1 hC1 ht hf
      refine w_iload dX9_find_49 rfl ?_
      refine w_bipush dX9_find_51 bp_40 ?_
      refine w_icmp_gt (tgt := 135) dX9_find_53 (by decide) (fun c53 => ?_) (fun c53 => ?_)
      · obtain rfl : j = 41 := by omega
        refine w_iload_n dX9_find_135 rfl ?_
        refine w_ireturn dX9_find_136 rfl rfl ?_
        exact hq I1 L1 hI1 hC1
      · exact absurd (nI_lt (a := 40) (by omega) (by omega)) c53
    | succ k ih =>
      intro j I1 L1 hj hI1 hC1 ht hf
      refine w_iload dX9_find_49 rfl ?_
      refine w_bipush dX9_find_51 bp_40 ?_
      refine w_icmp_gt (tgt := 135) dX9_find_53 (by decide) (fun c53 => ?_) (fun c53 => ?_)
      · exact absurd ((nI_ltI (a := 40) (by omega) (by omega)).mp c53) (by omega)
      · refine w_aload_n dX9_find_56 rfl ?_
        refine w_getR dX9_find_57 flX9_33 rfl (hs.r (a := 0) (j := 4) (b := 74) 3 rfl) ?_
        refine w_getR dX9_find_60 flX9_127 rfl (hs.r (a := 74) (j := 1) (b := 75) 79 rfl) ?_
        refine w_iconst dX9_find_63 ic_0 ?_
        refine w_iload dX9_find_64 rfl ?_
        refine w_iast (q := 0) dX9_find_66 rfl (hs.n (a := 75) (z := 3) 52 rfl) (by decide) ?_
        refine w_st (fun I2 hA2 hB2 hC2 => ?_)
        have hW2 : WC I2 R N n 1 V := hC1.keep hV (fun z hz => hA2 z (by unfold WA at hz; omega))
        refine w_aload_n dX9_find_67 rfl ?_
        refine w_getR dX9_find_68 flX9_26 rfl (hs.r (a := 0) (j := 3) (b := 59) 2 rfl) ?_
        refine w_aload_n dX9_find_71 rfl ?_
        refine w_getR dX9_find_72 flX9_10 rfl (hs.r (a := 0) (j := 0) (b := 1) 0 rfl) ?_
        refine w_aload_n dX9_find_75 rfl ?_
        refine w_getR dX9_find_76 flX9_33 rfl (hs.r (a := 0) (j := 4) (b := 74) 3 rfl) ?_
        refine c_Vv (t := 2) (as := [_, _]) (d' := 3) dX9_find_79 mlX9_205 moX2_takeRule mvX2_takeRule ⟨rfl, rfl⟩ rfl rfl rfl rfl rfl (by decide) (sX2_takeRuleS hs (Or.inl rfl) hV hW2 (r := 74) (p := 75) (hs.r (a := 74) (j := 1) (b := 75) 79 rfl) (hs.n (a := 75) (z := 3) 52 rfl) (by rw [hB2 2 (by decide), ht.2.2]; exact c_pos hV hr) (by decide) (by decide) (by decide) (by decide) (fun I3 hI3 ho3 => ?_))
        have hW3 : WC I3 R N n 1 V := hW2.keep hV (fun z hz => hI3 z (by unfold WA at hz; omega) (by unfold WA at hz; omega))
        rw [hA2 74 (by decide), hB2 1 (by decide), hB2 2 (by decide), hC2, ht.1, ht.2.1, ht.2.2] at ho3
        refine w_aload_n dX9_find_82 rfl ?_
        refine w_getR dX9_find_83 flX9_26 rfl (hs.r (a := 0) (j := 3) (b := 59) 2 rfl) ?_
        refine w_aload_n dX9_find_86 rfl ?_
        refine w_getR dX9_find_87 flX9_10 rfl (hs.r (a := 0) (j := 0) (b := 1) 0 rfl) ?_
        refine w_aload_n dX9_find_90 rfl ?_
        refine w_getR dX9_find_91 flX9_10 rfl (hs.r (a := 0) (j := 0) (b := 1) 0 rfl) ?_
        refine w_getI dX9_find_94 flX9_145 rfl ?_
        refine w_top (y := told (V 4)) (hW3.1.2.2.2.1) ?_
        refine c_Vv (t := 2) (as := [_, _]) (d' := 5) dX9_find_97 mlX9_177 moX2_tally mvX2_tally ⟨rfl, rfl⟩ rfl rfl rfl rfl rfl (by decide) (sX2_tally hs (Or.inl rfl) hV hW3 hV.card (oF := owA V r j) ho3 (fun s hs9 i hi => by rw [hI3 (62 + s) (by omega) (by omega), hA2 (62 + s) (by omega)]; exact hf s hs9 i hi) (fun I4 L4 hI4 hL4 l1 l2 l3 l4 => ?_))
        have hW4 : WC I4 R N n 1 V := hW3.keep hV (fun z hz => hI4 z (by unfold WA at hz; omega) (by unfold WA at hz; omega))
        have hX4 : ∀ z, FC z → I4 z = I z := fun z h => (hI4 z (by unfold FC at h; omega) (by unfold FC at h; omega)).trans ((hI3 z (by unfold FC at h; omega) (by unfold FC at h; omega)).trans ((hA2 z (by unfold FC at h; omega)).trans (hI1 z h)))
        have ht4 : I4 74 0 = V (48 + 4 * r) ∧ I4 75 1 = V (48 + 4 * r + 2) ∧ I4 75 2 = V (48 + 4 * r + 3) := by rw [hI4 74 (by decide) (by decide), hI4 75 (by decide) (by decide), hI3 74 (by decide) (by decide), hI3 75 (by decide) (by decide), hA2 74 (by decide), hB2 1 (by decide), hB2 2 (by decide)]; exact ht
        have hf4 : ∀ s, s < nS V → ∀ j, j < 31 → I4 (62 + s) j = forgV V (V (6 + 7 * s + 1)) (told (V 4)) (nI j) := fun s hs9 i hi => by have h6 := hV.1.2; rw [hI4 (62 + s) (by omega) (by omega), hI3 (62 + s) (by omega) (by omega), hA2 (62 + s) (by omega)]; exact hf s hs9 i hi
        have l1 : L4 59 8 = fD V r j := l1
        rcases (show j = 0 ∨ ∃ i, j = i + 1 by cases j with | zero => exact Or.inl rfl | succ i => exact Or.inr ⟨i, rfl⟩) with rfl | ⟨i, rfl⟩
        · refine w_iload_n dX9_find_100 rfl ?_
          refine w_ldc dX9_find_101 kcX9_141 ?_
          refine w_icmp_eq (tgt := 118) dX9_find_103 (by decide) (fun c103 => ?_) (fun c103 => ?_)
          · refine w_iload dX9_find_118 rfl ?_
            refine w_istore_n (al' := [_, _, _, _, _, _]) dX9_find_120 rfl rfl rfl ?_
            refine w_aload_n dX9_find_121 rfl ?_
            refine w_getR dX9_find_122 flX9_26 rfl (hs.r (a := 0) (j := 3) (b := 59) 2 rfl) ?_
            refine w_getL dX9_find_125 flX9_180 rfl ?_
            refine w_topL l1 ?_
            refine w_lstore_n (al' := [_, _, _, _, _, _]) dX9_find_128 rfl rfl rfl ?_
            refine w_iinc (al' := [_, _, _, _, _, _]) dX9_find_129 rfl rfl ic_1 rfl ?_
            refine w_goto (tgt := 49) dX9_find_132 (by decide) ?_
            simp only [nI_1]
            exact ih 1 I4 L4 (by omega) hX4 hW4 ht4 hf4
          · exact absurd rfl c103
        · refine w_iload_n dX9_find_100 rfl ?_
          refine w_ldc dX9_find_101 kcX9_141 ?_
          refine w_icmp_eq (tgt := 118) dX9_find_103 (by decide) (fun c103 => ?_) (fun c103 => ?_)
          · exact absurd c103 (nI_none (by have := (best_in (fD V r) i).1; omega))
          · refine w_aload_n dX9_find_106 rfl ?_
            refine w_getR dX9_find_107 flX9_26 rfl (hs.r (a := 0) (j := 3) (b := 59) 2 rfl) ?_
            refine w_getL dX9_find_110 flX9_180 rfl ?_
            refine w_topL l1 ?_
            refine w_lload_n dX9_find_113 rfl ?_
            refine w_lcmp dX9_find_114 ?_
            refine w_if_ge (tgt := 129) dX9_find_115 (by decide) (fun c115 => ?_) (fun c115 => ?_)
            · have c115 := Int64.not_lt.mpr ((lg_cmp_ge _ _).mp c115)
              refine w_iinc (al' := [_, _, _, _, _, _]) dX9_find_129 rfl rfl ic_1 rfl ?_
              refine w_goto (tgt := 49) dX9_find_132 (by decide) ?_
              simp only [nI_1]
              have hgo := ih (i + 2) I4 L4 (by omega) hX4 hW4 ht4 hf4
              rw [fSt_f c115] at hgo
              exact hgo
            · have c115 := Int64.not_le.mp (fun q => c115 ((lg_cmp_ge _ _).mpr q))
              refine w_iload dX9_find_118 rfl ?_
              refine w_istore_n (al' := [_, _, _, _, _, _]) dX9_find_120 rfl rfl rfl ?_
              refine w_aload_n dX9_find_121 rfl ?_
              refine w_getR dX9_find_122 flX9_26 rfl (hs.r (a := 0) (j := 3) (b := 59) 2 rfl) ?_
              refine w_getL dX9_find_125 flX9_180 rfl ?_
              refine w_topL l1 ?_
              refine w_lstore_n (al' := [_, _, _, _, _, _]) dX9_find_128 rfl rfl rfl ?_
              refine w_iinc (al' := [_, _, _, _, _, _]) dX9_find_129 rfl rfl ic_1 rfl ?_
              refine w_goto (tgt := 49) dX9_find_132 (by decide) ?_
              simp only [nI_1]
              have hgo := ih (i + 2) I4 L4 (by omega) hX4 hW4 ht4 hf4
              rw [fSt_t c115] at hgo
              exact hgo
  exact lp 41 0 I1 L1 rfl hI1 hC1 ht hf

set_option maxRecDepth 20000 in
theorem sX9_find (hs : SK R N) {V : VV} (hV : VO V) (hC : WC I R N n 1 V)  (hq : ∀ (I' : HI) (L' : HL), (∀ q, FC q → I' q = I q) → WC I' R N n 1 V → Q (vI (oFind V)) I' L' R N n) : CA sc 6 0 0 mX9_find [vR 9 0] I L R N n Q := by
  refine ca_in (al := [_, _, _, _, _, _]) rfl ?_
  refine w_aload_n dX9_find_0 rfl ?_
  refine w_getR dX9_find_1 flX9_10 rfl (hs.r (a := 0) (j := 0) (b := 1) 0 rfl) ?_
  rcases hV.2.2.2.2.2.1 with hv3 | ⟨r, hr, hv3⟩
  · have hv0 := V3_n hv3
    refine c_V (t := 8) (as := []) (d' := 2) dX9_find_4 mlX9_193 moX8_ruleInForce mvX8_ruleInForce ⟨rfl, rfl⟩ rfl rfl rfl rfl rfl (by decide) (sX8_ruleInForceN hs (Or.inl rfl) (hC.1.2.2.1.trans (told_n hv3)) ?_)
    refine w_astore_nN (al' := [_, _, _, _, _, _]) dX9_find_7 rfl rfl rfl ?_
    refine w_aload_nN dX9_find_8 rfl ?_
    refine w_ifnonnullN dX9_find_9 ?_
    refine w_ldc dX9_find_12 kcX9_197 ?_
    refine w_ireturn dX9_find_14 rfl rfl ?_
    have e : oFind V = -1000000002 := cif_t hv0
    rw [e] at hq
    exact hq I L (fun _ _ => rfl) hC
  · have h8 := hV.2.1.2
    obtain ⟨hv0, hvc⟩ := V3_s hv3 (by omega)
    have hrl := hs.rules (Or.inl rfl) (show r < 8 by omega)
    have hru := hC.2.2.1 r hr
    refine c_V (t := 8) (as := []) (d' := 2) dX9_find_4 mlX9_193 moX8_ruleInForce mvX8_ruleInForce ⟨rfl, rfl⟩ rfl rfl rfl rfl rfl (by decide) (sX8_ruleInForceS hs (Or.inl rfl) (hC.1.2.2.1.trans (told_s hv3 (by omega))) (hC.1.2.1.trans hV.2.1.1) h8 hr ?_)
    refine w_astore_n (al' := [_, _, _, _, _, _]) dX9_find_7 rfl rfl rfl ?_
    refine w_aload_n dX9_find_8 rfl ?_
    refine w_ifnonnullR (tgt := 15) dX9_find_9 (by decide) ?_
    refine w_aload_n dX9_find_15 rfl ?_
    refine w_getR dX9_find_16 flX9_33 rfl (hs.r (a := 0) (j := 4) (b := 74) 3 rfl) ?_
    refine w_aload_n dX9_find_19 rfl ?_
    refine c_Vv (t := 3) (as := [_]) (d' := 1) dX9_find_20 mlX9_198 moX3_become mvX3_become ⟨rfl, rfl⟩ rfl rfl rfl rfl rfl (by decide) (sX3_become (r := 74) (p := 75) (hs.r (a := 74) (j := 1) (b := 75) 79 rfl) (hs.n (a := 75) (z := 3) 52 rfl) hrl.2.1 hrl.2.2 (by omega) (by omega) (fun I2 hI2 hk2 hp2 => ?_))
    have hC2 : WC I2 R N n 1 V := hC.keep hV (fun z hz => hI2 z (by unfold WA at hz; omega) (by unfold WA at hz; omega))
    refine w_aload_n dX9_find_23 rfl ?_
    refine w_getR dX9_find_24 flX9_26 rfl (hs.r (a := 0) (j := 3) (b := 59) 2 rfl) ?_
    refine w_aload_n dX9_find_27 rfl ?_
    refine w_getR dX9_find_28 flX9_10 rfl (hs.r (a := 0) (j := 0) (b := 1) 0 rfl) ?_
    refine w_aload_n dX9_find_31 rfl ?_
    refine w_getR dX9_find_32 flX9_10 rfl (hs.r (a := 0) (j := 0) (b := 1) 0 rfl) ?_
    refine w_getI dX9_find_35 flX9_145 rfl ?_
    refine w_top (y := told (V 4)) (hC2.1.2.2.2.1) ?_
    refine c_Vv (t := 2) (as := [_, _]) (d' := 4) dX9_find_38 mlX9_202 moX2_takeCard mvX2_takeCard ⟨rfl, rfl⟩ rfl rfl rfl rfl rfl (by decide) (sX2_takeCard hs (Or.inl rfl) hV hC2 (fun I3 hI3 hf3 => ?_))
    refine w_ldc dX9_find_41 kcX9_141 ?_
    refine w_istore_n (al' := [_, _, _, _, _, _]) dX9_find_43 rfl rfl rfl ?_
    refine w_lconst (v := 0) dX9_find_44 rfl ?_
    refine w_lstore_n (al' := [_, _, _, _, _, _]) dX9_find_45 rfl rfl rfl ?_
    refine w_iconst dX9_find_46 ic_0 ?_
    refine w_istore (al' := [_, _, _, _, _, _]) dX9_find_47 rfl rfl rfl ?_
    have e : oFind V = nI (bestF (fD V r) 40).1 := by unfold oFind; rw [cif_f hv0, hvc]
    rw [e] at hq
    exact lX9_find hs hV hr hq (fun z h => (hI3 z (by unfold FC at h; omega) (by unfold FC at h; omega)).trans (hI2 z (by unfold FC at h; omega) (by unfold FC at h; omega))) (hC2.keep hV (fun z hz => hI3 z (by unfold WA at hz; omega) (by unfold WA at hz; omega))) (by rw [hI3 74 (by decide) (by decide), hI3 75 (by decide) (by decide), hk2, hp2 1 (by decide), hp2 2 (by decide)]; exact ⟨hru.1, hru.2 1 (by decide), hru.2 2 (by decide)⟩) hf3

set_option maxRecDepth 20000 in
theorem lX10_find (hs : SK R N) {V : VV} (hV : VO V) {r : Nat} (hr : r < nRu V) (hv3 : V 3 = nI r) (hI : I 118 = V) (hq : ∀ (I' : HI) (L' : HL), (∀ q, FM q → I' q = I q) → I' 118 = V → Q (vI (nI (bestF (fD V r) 40).1)) I' L' R N n) : WP sc 5 0 0 mX10_find 43 [vR 10 117, vI (nI (48 + 4 * r + 1)), vI (V (48 + 4 * r + 1)), vI 0, vL (-1), vU, vI (nI 0)] [] I L R N n Q := by
  have h6 := hV.1.2
  have h8 := hV.2.1.2
  have lp : ∀ (k j : Nat) (I1 : HI) (L1 : HL), j + k = 41 → (∀ q, FM q → I1 q = I q) → (∃ x, I1 118 = va_up V (48 + 4 * r + 1) x) → WP sc 5 0 0 mX10_find 43 [vR 10 117, vI (nI (48 + 4 * r + 1)), vI (V (48 + 4 * r + 1)), vI (fSt (fD V r) nI 0 (-1) j).1, vL (fSt (fD V r) nI 0 (-1) j).2, vU, vI (nI j)] [] I1 L1 R N n Q := by
    intro k
    induction k with
    | zero =>
      intro j I1 L1 hj hI1 hx
      refine w_iload dX10_find_43 rfl ?_
      refine w_bipush dX10_find_45 bp_40 ?_
      refine w_icmp_gt (tgt := 120) dX10_find_47 (by decide) (fun c47 => ?_) (fun c47 => ?_)
      · obtain rfl : j = 41 := by omega
        refine w_aload_n dX10_find_120 rfl ?_
        refine w_getR dX10_find_121 flX10_9 rfl (hs.r (a := 117) (j := 0) (b := 118) 116 rfl) ?_
        refine w_iload_n dX10_find_124 rfl ?_
        refine w_iload_n dX10_find_125 rfl ?_
        refine w_iast dX10_find_126 rfl (hs.n (a := 118) (z := 1452) 72 rfl) (by omega) ?_
        refine w_iload_n dX10_find_127 rfl ?_
        refine w_ireturn dX10_find_128 rfl rfl ?_
        obtain ⟨x, hx⟩ := hx
        exact hq _ L1 (fun z h => (va_up_ne _ _ h.1).trans (hI1 z h)) (by rw [va_up_self, hx, up_up, up_id])
      · exact absurd (nI_lt (a := 40) (by omega) (by omega)) c47
    | succ k ih =>
      intro j I1 L1 hj hI1 hx
      refine w_iload dX10_find_43 rfl ?_
      refine w_bipush dX10_find_45 bp_40 ?_
      refine w_icmp_gt (tgt := 120) dX10_find_47 (by decide) (fun c47 => ?_) (fun c47 => ?_)
      · exact absurd ((nI_ltI (a := 40) (by omega) (by omega)).mp c47) (by omega)
      · refine w_aload_n dX10_find_50 rfl ?_
        refine w_getR dX10_find_51 flX10_9 rfl (hs.r (a := 117) (j := 0) (b := 118) 116 rfl) ?_
        refine w_iload_n dX10_find_54 rfl ?_
        refine w_iload dX10_find_55 rfl ?_
        refine w_iast dX10_find_57 rfl (hs.n (a := 118) (z := 1452) 72 rfl) (by omega) ?_
        refine w_heap (fun I2 e2 => ?_)
        have hA2 : ∀ z, FM z → I2 z = I1 z := fun z h => by rw [e2]; exact va_up_ne _ _ h.1
        have hV2 : I2 118 = va_up V (48 + 4 * r + 1) (nI j) := by obtain ⟨x, hx⟩ := hx; rw [e2, va_up_self, hx, up_up]
        refine w_aload_n dX10_find_58 rfl ?_
        refine c_Vv (t := 10) (as := []) (d' := 4) dX10_find_59 mlX10_201 moX10_findLibrary mvX10_findLibrary ⟨rfl, rfl⟩ rfl rfl rfl rfl rfl (by decide) (sX10_findLibrary hs (V := va_up V (48 + 4 * r + 1) (nI j)) hV2 (hV.rcell hr (q := 1) (by decide) (fun e => absurd e (by decide)) (fun e => absurd e (by decide))) (fun I3 L3 hI3 hL3 l1 l2 l3 l4 => ?_))
        have l1 : L3 117 12 = fD V r j := l1.trans (lib_a (by omega) hv3 hV)
        have hX3 : ∀ z, FM z → I3 z = I z := fun z h => (hI3 z (by unfold FM at h; omega) (by unfold FM at h; omega) (by unfold FM at h; omega)).trans ((hA2 z h).trans (hI1 z h))
        have hV3 : ∃ x, I3 118 = va_up V (48 + 4 * r + 1) x := ⟨_, (hI3 118 (by decide) (by decide) (by decide)).trans hV2⟩
        have hnn : ¬ fD V r j < 0 := libD_nn hV _ _
        rcases (show j = 0 ∨ ∃ i, j = i + 1 by cases j with | zero => exact Or.inl rfl | succ i => exact Or.inr ⟨i, rfl⟩) with rfl | ⟨i, rfl⟩
        · refine w_lload dX10_find_62 rfl ?_
          refine w_lconst (v := 0) dX10_find_64 rfl ?_
          refine w_lcmp dX10_find_65 ?_
          refine w_if_lt (tgt := 79) dX10_find_66 (by decide) (fun c66 => ?_) (fun c66 => ?_)
          · refine w_iload dX10_find_79 rfl ?_
            refine w_goto (tgt := 85) dX10_find_81 (by decide) ?_
            refine w_istore_n (al' := [_, _, _, _, _, _, _]) dX10_find_85 rfl rfl rfl ?_
            refine w_lload dX10_find_86 rfl ?_
            refine w_lconst (v := 0) dX10_find_88 rfl ?_
            refine w_lcmp dX10_find_89 ?_
            refine w_if_lt (tgt := 103) dX10_find_90 (by decide) (fun c90 => ?_) (fun c90 => ?_)
            · refine w_aload_n dX10_find_103 rfl ?_
              refine w_getL dX10_find_104 flX10_186 rfl ?_
              refine w_topL l1 ?_
              refine w_goto (tgt := 112) dX10_find_107 (by decide) ?_
              refine w_lstore (al' := [_, _, _, _, _, _, _]) dX10_find_112 rfl rfl rfl ?_
              refine w_iinc (al' := [_, _, _, _, _, _, _]) dX10_find_114 rfl rfl ic_1 rfl ?_
              refine w_goto (tgt := 43) dX10_find_117 (by decide) ?_
              simp only [nI_1]
              exact ih 1 I3 L3 (by omega) hX3 hV3
            · exact absurd (show lg_cmp (-1) 0 < 0 by decide) c90
          · exact absurd (show lg_cmp (-1) 0 < 0 by decide) c66
        · refine w_lload dX10_find_62 rfl ?_
          refine w_lconst (v := 0) dX10_find_64 rfl ?_
          refine w_lcmp dX10_find_65 ?_
          refine w_if_lt (tgt := 79) dX10_find_66 (by decide) (fun c66 => ?_) (fun c66 => ?_)
          · exact absurd ((lg_cmp_lt _ _).mp c66) (by rw [show (fSt (fD V r) nI 0 (-1) (i + 1)).2 = fD V r (bestF (fD V r) i).1 from (best_in (fD V r) i).2]; exact libD_nn hV _ _)
          · refine w_aload_n dX10_find_69 rfl ?_
            refine w_getL dX10_find_70 flX10_186 rfl ?_
            refine w_topL l1 ?_
            refine w_lload dX10_find_73 rfl ?_
            refine w_lcmp dX10_find_75 ?_
            refine w_if_ge (tgt := 84) dX10_find_76 (by decide) (fun c76 => ?_) (fun c76 => ?_)
            · have c76 := Int64.not_lt.mpr ((lg_cmp_ge _ _).mp c76)
              refine w_iload_n dX10_find_84 rfl ?_
              refine w_istore_n (al' := [_, _, _, _, _, _, _]) dX10_find_85 rfl rfl rfl ?_
              refine w_lload dX10_find_86 rfl ?_
              refine w_lconst (v := 0) dX10_find_88 rfl ?_
              refine w_lcmp dX10_find_89 ?_
              refine w_if_lt (tgt := 103) dX10_find_90 (by decide) (fun c90 => ?_) (fun c90 => ?_)
              · exact absurd ((lg_cmp_lt _ _).mp c90) (by rw [show (fSt (fD V r) nI 0 (-1) (i + 1)).2 = fD V r (bestF (fD V r) i).1 from (best_in (fD V r) i).2]; exact libD_nn hV _ _)
              · refine w_aload_n dX10_find_93 rfl ?_
                refine w_getL dX10_find_94 flX10_186 rfl ?_
                refine w_topL l1 ?_
                refine w_lload dX10_find_97 rfl ?_
                refine w_lcmp dX10_find_99 ?_
                refine w_if_ge (tgt := 110) dX10_find_100 (by decide) (fun c100 => ?_) (fun c100 => ?_)
                · refine w_lload dX10_find_110 rfl ?_
                  refine w_lstore (al' := [_, _, _, _, _, _, _]) dX10_find_112 rfl rfl rfl ?_
                  refine w_iinc (al' := [_, _, _, _, _, _, _]) dX10_find_114 rfl rfl ic_1 rfl ?_
                  refine w_goto (tgt := 43) dX10_find_117 (by decide) ?_
                  simp only [nI_1]
                  have hgo := ih (i + 2) I3 L3 (by omega) hX3 hV3
                  rw [fSt_f c76] at hgo
                  exact hgo
                · exact absurd (Int64.not_le.mp (fun q => c100 ((lg_cmp_ge _ _).mpr q))) c76
            · have c76 := Int64.not_le.mp (fun q => c76 ((lg_cmp_ge _ _).mpr q))
              refine w_iload dX10_find_79 rfl ?_
              refine w_goto (tgt := 85) dX10_find_81 (by decide) ?_
              refine w_istore_n (al' := [_, _, _, _, _, _, _]) dX10_find_85 rfl rfl rfl ?_
              refine w_lload dX10_find_86 rfl ?_
              refine w_lconst (v := 0) dX10_find_88 rfl ?_
              refine w_lcmp dX10_find_89 ?_
              refine w_if_lt (tgt := 103) dX10_find_90 (by decide) (fun c90 => ?_) (fun c90 => ?_)
              · exact absurd ((lg_cmp_lt _ _).mp c90) (by rw [show (fSt (fD V r) nI 0 (-1) (i + 1)).2 = fD V r (bestF (fD V r) i).1 from (best_in (fD V r) i).2]; exact libD_nn hV _ _)
              · refine w_aload_n dX10_find_93 rfl ?_
                refine w_getL dX10_find_94 flX10_186 rfl ?_
                refine w_topL l1 ?_
                refine w_lload dX10_find_97 rfl ?_
                refine w_lcmp dX10_find_99 ?_
                refine w_if_ge (tgt := 110) dX10_find_100 (by decide) (fun c100 => ?_) (fun c100 => ?_)
                · exact absurd c76 (Int64.not_lt.mpr ((lg_cmp_ge _ _).mp c100))
                · refine w_aload_n dX10_find_103 rfl ?_
                  refine w_getL dX10_find_104 flX10_186 rfl ?_
                  refine w_topL l1 ?_
                  refine w_goto (tgt := 112) dX10_find_107 (by decide) ?_
                  refine w_lstore (al' := [_, _, _, _, _, _, _]) dX10_find_112 rfl rfl rfl ?_
                  refine w_iinc (al' := [_, _, _, _, _, _, _]) dX10_find_114 rfl rfl ic_1 rfl ?_
                  refine w_goto (tgt := 43) dX10_find_117 (by decide) ?_
                  simp only [nI_1]
                  have hgo := ih (i + 2) I3 L3 (by omega) hX3 hV3
                  rw [fSt_t c76] at hgo
                  exact hgo
  exact lp 41 0 I L rfl (fun _ _ => rfl) ⟨V (48 + 4 * r + 1), by rw [up_id]; exact hI⟩

set_option maxRecDepth 20000 in
theorem sX10_find (hs : SK R N) {V : VV} (hI : I 118 = V) (hV : VO V)  (hq : ∀ (I' : HI) (L' : HL), (∀ q, FM q → I' q = I q) → I' 118 = V → Q (vI (oFind V)) I' L' R N n) : CA sc 5 0 0 mX10_find [vR 10 117] I L R N n Q := by
  refine ca_in (al := [_, _, _, _, _, _, _]) rfl ?_
  refine w_aload_n dX10_find_0 rfl ?_
  refine w_getR dX10_find_1 flX10_9 rfl (hs.r (a := 117) (j := 0) (b := 118) 116 rfl) ?_
  refine w_iconst dX10_find_4 ic_3 ?_
  rcases hV.2.2.2.2.2.1 with hv3 | ⟨r, hr, hv3⟩
  · have hv0 := V3_n hv3
    refine w_iald (q := 3) dX10_find_5 rfl (hs.n (a := 118) (z := 1452) 72 rfl) (by decide) ?_
    refine w_top (y := -1) ((congrFun hI 3).trans hv3) ?_
    refine w_if_ge (tgt := 12) dX10_find_6 (by decide) (fun c6 => ?_) (fun c6 => ?_)
    · exact absurd c6 (by decide)
    · refine w_ldc dX10_find_9 kcX10_204 ?_
      refine w_ireturn dX10_find_11 rfl rfl ?_
      have e : oFind V = -1000000002 := cif_t hv0
      rw [e] at hq
      exact hq I L (fun _ _ => rfl) hI
  · have h8 := hV.2.1.2
    obtain ⟨hv0, hvc⟩ := V3_s hv3 (by omega)
    refine w_iald (q := 3) dX10_find_5 rfl (hs.n (a := 118) (z := 1452) 72 rfl) (by decide) ?_
    refine w_top (y := nI r) ((congrFun hI 3).trans hv3) ?_
    refine w_if_ge (tgt := 12) dX10_find_6 (by decide) (fun c6 => ?_) (fun c6 => ?_)
    · refine w_bipush dX10_find_12 bp_48 ?_
      refine w_iconst dX10_find_14 ic_4 ?_
      refine w_aload_n dX10_find_15 rfl ?_
      refine w_getR dX10_find_16 flX10_9 rfl (hs.r (a := 117) (j := 0) (b := 118) 116 rfl) ?_
      refine w_iconst dX10_find_19 ic_3 ?_
      refine w_iald (q := 3) dX10_find_20 rfl (hs.n (a := 118) (z := 1452) 72 rfl) (by decide) ?_
      refine w_top (y := nI r) ((congrFun hI 3).trans hv3) ?_
      refine w_imul dX10_find_21 ?_
      refine w_iadd dX10_find_22 ?_
      refine w_iconst dX10_find_23 ic_1 ?_
      refine w_iadd dX10_find_24 ?_
      refine w_top (y := nI (48 + 4 * r + 1)) (by show nI 48 + nI 4 * nI r + nI 1 = _; rw [nI_mul, nI_add, nI_add]) ?_
      refine w_istore_n (al' := [_, _, _, _, _, _, _]) dX10_find_25 rfl rfl rfl ?_
      refine w_aload_n dX10_find_26 rfl ?_
      refine w_getR dX10_find_27 flX10_9 rfl (hs.r (a := 117) (j := 0) (b := 118) 116 rfl) ?_
      refine w_iload_n dX10_find_30 rfl ?_
      refine w_iald dX10_find_31 rfl (hs.n (a := 118) (z := 1452) 72 rfl) (by omega) ?_
      refine w_top (y := V (48 + 4 * r + 1)) (congrFun hI _) ?_
      refine w_istore_n (al' := [_, _, _, _, _, _, _]) dX10_find_32 rfl rfl rfl ?_
      refine w_iconst dX10_find_33 ic_0 ?_
      refine w_istore_n (al' := [_, _, _, _, _, _, _]) dX10_find_34 rfl rfl rfl ?_
      refine w_ldc2 dX10_find_35 kcX10_205 ?_
      refine w_lstore (al' := [_, _, _, _, _, _, _]) dX10_find_38 rfl rfl rfl ?_
      refine w_iconst dX10_find_40 ic_0 ?_
      refine w_istore (al' := [_, _, _, _, _, _, _]) dX10_find_41 rfl rfl rfl ?_
      have e : oFind V = nI (bestF (fD V r) 40).1 := by unfold oFind; rw [cif_f hv0, hvc]
      rw [e] at hq
      exact lX10_find hs hV hr hv3 hI hq
    · exact absurd (nI_pos' (by omega)) c6

end
