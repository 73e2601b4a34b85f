section
variable {sc : SC} {I : HI} {L : HL} {R : HR} {N : HN} {n : Nat} {Q : HQ}
noncomputable def oRule (V : VV) (k a b c : Int32) : VV × Int32 := cif ((0 ≤ k ∧ k ≤ 5) ∧ (leastR 0 ≤ a ∧ a ≤ mostR 0) ∧ (leastR 1 ≤ b ∧ b ≤ mostR 1) ∧ (leastR 2 ≤ c ∧ c ≤ mostR 2)) (cif (nRu V = 8) (V, -1000000003) (addR V k a b c, V 2)) (V, -1000000001)
def worthV (V : VV) (r : Nat) : Int32 := worthF (V (48 + 4 * r)) (V (48 + 4 * r + 1)) (V (48 + 4 * r + 2)) (V (48 + 4 * r + 3))
noncomputable def oTold (V : VV) (a b : Int32) : Int32 := cif (isR V a ∧ (0 ≤ b ∧ b ≤ 4)) (if b = 4 then worthV V a.toNatClampNeg else V (48 + 4 * a.toNatClampNeg + b.toNatClampNeg)) (-1000000001)
noncomputable def oAs (V : VV) (a k : Int32) : Int32 := cif (isR V a ∧ (0 ≤ k ∧ k ≤ 5)) (cif (under (V (48 + 4 * a.toNatClampNeg)) k) (V (48 + 4 * a.toNatClampNeg + 1)) (-1000000012)) (-1000000001)
noncomputable def oTurns (V : VV) (a k : Int32) : VV × Int32 := cif (isR V a ∧ (0 ≤ k ∧ k ≤ 5)) (va_up V (48 + 4 * a.toNatClampNeg + 0) k, V (48 + 4 * a.toNatClampNeg + 0)) (V, -1000000001)
noncomputable def oSet (V : VV) (a b c : Int32) : VV × Int32 := cif (isR V a ∧ (0 ≤ b ∧ b ≤ 2) ∧ (leastR b.toNatClampNeg ≤ c ∧ c ≤ mostR b.toNatClampNeg)) (va_up V (48 + 4 * a.toNatClampNeg + (b.toNatClampNeg + 1)) c, V (48 + 4 * a.toNatClampNeg + (b.toNatClampNeg + 1))) (V, -1000000001)
noncomputable def oOwes (V : VV) (a d : Int32) : Int32 := cif (isR V a ∧ (0 ≤ d ∧ d ≤ 30)) (owAt V a.toNatClampNeg d.toNatClampNeg) (-1000000001)
def offN (x : Int32) : Int32 := if x = -1000000005 then -1 else x
noncomputable def oForce (V : VV) (x : Int32) : VV × Int32 := cif (x = -1000000005 ∨ isR V x) (va_up V 3 (offN x), told (V 3)) (V, -1000000001)
noncomputable def oCard (V : VV) (x : Int32) : VV × Int32 := cif (x = -1000000005 ∨ (0 ≤ x ∧ x ≤ 30)) (va_up V 4 (offN x), told (V 4)) (V, -1000000001)
noncomputable def oWhy (V : VV) (k : Int32) : Int32 := cif (0 ≤ k ∧ k ≤ 2) (cntI V k.toNatClampNeg) (-1000000001)
noncomputable def oTextTold (V : VV) (a b : Int32) : Int32 := cif ((0 ≤ a ∧ a ≤ V 5 - 1) ∧ (0 ≤ b ∧ b ≤ 1)) (if b = 0 then nI (tKey V a.toNatClampNeg) else V (80 + 2 * a.toNatClampNeg + 1)) (-1000000001)
theorem nRu_8 {V : VV} (hV : VO V) : V 2 = 8 ↔ nRu V = 8 := by
  have h6 := hV.2.1.2
  rw [hV.2.1.1]
  exact nI_eq (b := 8) (by omega) (by decide)
theorem inN_c {c : Int32} (h : leastR 2 ≤ c ∧ c ≤ mostR 2) : inN c 1 30 := by
  have h1 : (1 : Int32) ≤ c := h.1
  have h2 : c ≤ nI 30 := h.2
  obtain ⟨k, h3, rfl⟩ := in_of (m := 30) (by decide) ⟨Int32.le_trans (by decide) h1, h2⟩
  exact ⟨k, (nI_leI (a := 1) (by omega) (by omega)).mp h1, h3, rfl⟩
theorem VO_oRule {V : VV} (hV : VO V) (k a b c : Int32) : VO (oRule V k a b c).1 := by
  unfold oRule
  by_cases h : (0 ≤ k ∧ k ≤ 5) ∧ (leastR 0 ≤ a ∧ a ≤ mostR 0) ∧ (leastR 1 ≤ b ∧ b ≤ mostR 1) ∧ (leastR 2 ≤ c ∧ c ≤ mostR 2)
  · rw [cif_t h]
    by_cases h2 : nRu V = 8
    · rw [cif_t h2]; exact hV
    · rw [cif_f h2]; exact hV.oR (by have := hV.2.1.2; omega) (inN_of (m := 5) (by decide) h.1) (inN_c h.2.2.2)
  · rw [cif_f h]; exact hV
theorem VO_oTurns {V : VV} (hV : VO V) (a k : Int32) : VO (oTurns V a k).1 := by
  unfold oTurns
  by_cases h : isR V a ∧ (0 ≤ k ∧ k ≤ 5)
  · rw [cif_t h]
    obtain ⟨r, hr, rfl⟩ := isR_of hV h.1
    have h8 := hV.2.1.2
    rw [nI_clamp (by omega)]
    exact hV.rcell hr (by decide) (fun _ => inN_of (m := 5) (by decide) h.2) (fun e => absurd e (by decide))
  · rw [cif_f h]; exact hV
theorem VO_oSet {V : VV} (hV : VO V) (a b c : Int32) : VO (oSet V a b c).1 := by
  unfold oSet
  by_cases h : isR V a ∧ (0 ≤ b ∧ b ≤ 2) ∧ (leastR b.toNatClampNeg ≤ c ∧ c ≤ mostR b.toNatClampNeg)
  · rw [cif_t h]
    obtain ⟨h1, h2, h3⟩ := h
    obtain ⟨r, hr, rfl⟩ := isR_of hV h1
    obtain ⟨q, hq, rfl⟩ := in_of (m := 2) (by decide) h2
    have h8 := hV.2.1.2
    rw [nI_clamp (by omega)] at h3 ⊢
    rw [nI_clamp (by omega)]
    exact hV.rcell hr (by omega) (fun e => absurd e (by omega)) (fun e => by have e2 : q = 2 := (by omega); subst e2; exact inN_c h3)
  · rw [cif_f h]; exact hV
theorem VO_oForce {V : VV} (hV : VO V) (x : Int32) : VO (oForce V x).1 := by
  unfold oForce
  by_cases h : x = -1000000005 ∨ isR V x
  · rw [cif_t h]
    refine hV.force ?_
    by_cases e : x = -1000000005
    · exact Or.inl (if_pos e)
    · obtain ⟨r, hr, e2⟩ := isR_of hV (h.resolve_left e)
      exact Or.inr ⟨r, hr, (if_neg e).trans e2⟩
  · rw [cif_f h]; exact hV
theorem VO_oCard {V : VV} (hV : VO V) (x : Int32) : VO (oCard V x).1 := by
  unfold oCard
  by_cases h : x = -1000000005 ∨ (0 ≤ x ∧ x ≤ 30)
  · rw [cif_t h]
    refine hV.cardC ?_
    by_cases e : x = -1000000005
    · exact Or.inl (if_pos e)
    · obtain ⟨c, hc, e2⟩ := in_of (m := 30) (by decide) (h.resolve_left e)
      exact Or.inr ⟨c, by omega, (if_neg e).trans e2⟩
  · rw [cif_f h]; exact hV
theorem told_off {x : Int32} (h : x = -1000000005 ∨ 0 ≤ x) : told (offN x) = x := by
  unfold offN
  by_cases e : x = -1000000005
  · rw [if_pos e, e]; rfl
  · rw [if_neg e, told, if_neg (Int32.not_lt.mpr (h.resolve_left e))]

set_option maxRecDepth 20000 in
theorem sX8_addRuleF {w : Nat} {k a b c : Int32} (h : I w 3 = nI 8) (hq : Q (vI (-1000000003)) I L R N n) : CA sc 0 0 0 mX8_addRule [vR 8 w, vI k, vI a, vI b, vI c] I L R N n Q := by
  refine ca_in (al := [_, _, _, _, _, _]) rfl ?_
  refine w_aload_n dX8_addRule_0 rfl ?_
  refine w_getI dX8_addRule_1 flX8_26 rfl ?_
  refine w_top (y := nI 8) (h) ?_
  refine w_bipush dX8_addRule_4 bp_8 ?_
  refine w_icmp_lt (tgt := 12) dX8_addRule_6 (by decide) (fun c6 => ?_) (fun c6 => ?_)
  · exact absurd c6 (by decide)
  · refine w_ldc dX8_addRule_9 kcX8_77 ?_
    refine w_ireturn dX8_addRule_11 rfl rfl ?_
    exact hq

set_option maxRecDepth 20000 in
theorem sX8_addRule (hs : SK R N) {w : Nat} (hw : w = 1 ∨ w = 30) {V : VV} (hV : VO V) (hC : WC I R N n w V) (h8 : nRu V < 8) {k a b c : Int32}
    (hq : ∀ I' : HI, (∀ q, q ≠ w → q ≠ w + 13 + 2 * nRu V → q ≠ w + 14 + 2 * nRu V → I' q = I q) → WC I' R N n w (addR V k a b c) → Q (vI (nI (nRu V))) I' L R N n) : CA sc 0 0 0 mX8_addRule [vR 8 w, vI k, vI a, vI b, vI c] I L R N n Q := by
  have hrl := hs.rules hw h8
  refine ca_in (al := [_, _, _, _, _, _]) rfl ?_
  refine w_aload_n dX8_addRule_0 rfl ?_
  refine w_getI dX8_addRule_1 flX8_26 rfl ?_
  refine w_top (y := nI (nRu V)) (hC.1.2.1.trans hV.2.1.1) ?_
  refine w_bipush dX8_addRule_4 bp_8 ?_
  refine w_icmp_lt (tgt := 12) dX8_addRule_6 (by decide) (fun c6 => ?_) (fun c6 => ?_)
  · refine w_aload_n dX8_addRule_12 rfl ?_
    refine w_getR dX8_addRule_13 flX8_22 rfl (hs.wr (j := 2) (o := 8) hw 10 38 rfl rfl) ?_
    refine w_aload_n dX8_addRule_16 rfl ?_
    refine w_getI dX8_addRule_17 flX8_26 rfl ?_
    refine w_top (y := nI (nRu V)) (hC.1.2.1.trans hV.2.1.1) ?_
    refine w_aald dX8_addRule_20 (by decide) (by decide) rfl (hs.wn (o := 8) (z := 8) hw 7 26 rfl rfl) (by omega) hrl.1 ?_
    refine w_astore (al' := [_, _, _, _, _, _]) dX8_addRule_21 rfl rfl rfl ?_
    refine w_aload dX8_addRule_23 rfl ?_
    refine w_iload_n dX8_addRule_25 rfl ?_
    refine w_putI dX8_addRule_26 flX8_90 rfl rfl rfl rfl ?_
    refine w_aload dX8_addRule_29 rfl ?_
    refine w_getR dX8_addRule_31 flX8_93 rfl hrl.2.1 ?_
    refine w_iconst dX8_addRule_34 ic_0 ?_
    refine w_iload_n dX8_addRule_35 rfl ?_
    refine w_iast (q := 0) dX8_addRule_36 rfl hrl.2.2 (by decide) ?_
    refine w_aload dX8_addRule_37 rfl ?_
    refine w_getR dX8_addRule_39 flX8_93 rfl hrl.2.1 ?_
    refine w_iconst dX8_addRule_42 ic_1 ?_
    refine w_iload_n dX8_addRule_43 rfl ?_
    refine w_iast (q := 1) dX8_addRule_44 rfl hrl.2.2 (by decide) ?_
    refine w_aload dX8_addRule_45 rfl ?_
    refine w_getR dX8_addRule_47 flX8_93 rfl hrl.2.1 ?_
    refine w_iconst dX8_addRule_50 ic_2 ?_
    refine w_iload dX8_addRule_51 rfl ?_
    refine w_iast (q := 2) dX8_addRule_53 rfl hrl.2.2 (by decide) ?_
    refine w_heap (fun I2 e2 => ?_)
    have hA2 : ∀ q, q ≠ w + 13 + 2 * nRu V → q ≠ w + 14 + 2 * nRu V → I2 q = I q := fun q h1 h2 => by rw [e2]; simp only [va_up, if_neg h1, if_neg h2]
    have hk2 : I2 (w + 13 + 2 * nRu V) 0 = k := by rw [e2]; simp [va_up]; try omega
    have hp2 : I2 (w + 14 + 2 * nRu V) 0 = a ∧ I2 (w + 14 + 2 * nRu V) 1 = b ∧ I2 (w + 14 + 2 * nRu V) 2 = c := by rw [e2]; simp [va_up]
    clear e2
    refine w_aload_n dX8_addRule_54 rfl ?_
    refine w_dup dX8_addRule_55 rfl ?_
    refine w_getI dX8_addRule_56 flX8_26 rfl ?_
    refine w_top (y := I w 3) (by rw [hA2 w (by omega) (by omega)]) ?_
    refine w_iconst dX8_addRule_59 ic_1 ?_
    refine w_iadd dX8_addRule_60 ?_
    refine w_putI dX8_addRule_61 flX8_26 rfl rfl rfl rfl ?_
    refine w_st (fun I3 hA3 hB3 hC3 => ?_)
    refine w_aload_n dX8_addRule_64 rfl ?_
    refine w_getI dX8_addRule_65 flX8_26 rfl ?_
    refine w_top (y := I w 3 + 1) (hC3) ?_
    refine w_iconst dX8_addRule_68 ic_1 ?_
    refine w_isub dX8_addRule_69 ?_
    refine w_ireturn dX8_addRule_70 rfl rfl ?_
    refine q_e (x := nI (nRu V)) ?_ (hq I3 (fun q h1 h2 h3 => (hA3 q h1).trans (hA2 q h2 h3)) (hC.oR hV hw h8 k a b c (fun q h1 h2 h3 => (hA3 q h1).trans (hA2 q h2 h3)) hC3 (fun j hj => (hB3 j hj).trans (by rw [hA2 w (by omega) (by omega)])) (by rw [hA3 _ (by omega)]; exact hk2) (by rw [hA3 _ (by omega)]; exact hp2)))
    rw [hC.1.2.1, ← hV.2.1.1]
    exact (Int32.add_sub_cancel _ _).symm
  · exact absurd (nI_lt (b := 8) h8 (by decide)) c6

set_option maxRecDepth 20000 in
theorem sX9_rule (hs : SK R N) {V : VV} (hV : VO V) (hC : WC I R N n 1 V) {k a b c : Int32} (hq : ∀ I' : HI, (∀ q, FC q → I' q = I q) → WC I' R N n 1 (oRule V k a b c).1 → Q (vI (oRule V k a b c).2) I' L R N n) : CA sc 2 0 0 mX9_rule [vR 9 0, vI k, vI a, vI b, vI c] I L R N n Q := by
  refine ca_in (al := [_, _, _, _, _]) rfl ?_
  refine w_iload_n dX9_rule_0 rfl ?_
  refine c_S (as := [_]) (d' := 1) dX9_rule_1 (Or.inl mlX9_106) moX9_isKind msX9_isKind rfl rfl rfl rfl rfl (by decide) (sX9_isKind ?_)
  refine w_ifB_eq (tgt := 32) dX9_rule_4 (by decide) (fun c4 => ?_) (fun c4 => ?_)
  · refine w_ldc dX9_rule_32 kcX9_77 ?_
    refine w_ireturn dX9_rule_34 rfl rfl ?_
    have e : oRule V k a b c = (V, -1000000001) := cif_f (fun z => by first | exact c4 z.1 | exact c12 z.2.1 | exact c20 z.2.2.1 | exact c29 z.2.2.2)
    rw [e] at hq
    exact hq I (fun _ _ => rfl) hC
  · refine w_iconst dX9_rule_7 ic_0 ?_
    refine w_iload_n dX9_rule_8 rfl ?_
    refine c_S (as := [_, _]) (d' := 1) dX9_rule_9 (Or.inl mlX9_109) moX9_fitsRule msX9_fitsRule rfl rfl rfl rfl rfl (by decide) (sX9_fitsRule (q := 0) (by decide) ?_)
    refine w_ifB_eq (tgt := 32) dX9_rule_12 (by decide) (fun c12 => ?_) (fun c12 => ?_)
    · refine w_ldc dX9_rule_32 kcX9_77 ?_
      refine w_ireturn dX9_rule_34 rfl rfl ?_
      have e : oRule V k a b c = (V, -1000000001) := cif_f (fun z => by first | exact c4 z.1 | exact c12 z.2.1 | exact c20 z.2.2.1 | exact c29 z.2.2.2)
      rw [e] at hq
      exact hq I (fun _ _ => rfl) hC
    · refine w_iconst dX9_rule_15 ic_1 ?_
      refine w_iload_n dX9_rule_16 rfl ?_
      refine c_S (as := [_, _]) (d' := 1) dX9_rule_17 (Or.inl mlX9_109) moX9_fitsRule msX9_fitsRule rfl rfl rfl rfl rfl (by decide) (sX9_fitsRule (q := 1) (by decide) ?_)
      refine w_ifB_eq (tgt := 32) dX9_rule_20 (by decide) (fun c20 => ?_) (fun c20 => ?_)
      · refine w_ldc dX9_rule_32 kcX9_77 ?_
        refine w_ireturn dX9_rule_34 rfl rfl ?_
        have e : oRule V k a b c = (V, -1000000001) := cif_f (fun z => by first | exact c4 z.1 | exact c12 z.2.1 | exact c20 z.2.2.1 | exact c29 z.2.2.2)
        rw [e] at hq
        exact hq I (fun _ _ => rfl) hC
      · refine w_iconst dX9_rule_23 ic_2 ?_
        refine w_iload dX9_rule_24 rfl ?_
        refine c_S (as := [_, _]) (d' := 1) dX9_rule_26 (Or.inl mlX9_109) moX9_fitsRule msX9_fitsRule rfl rfl rfl rfl rfl (by decide) (sX9_fitsRule (q := 2) (by decide) ?_)
        refine w_ifB_ne (tgt := 35) dX9_rule_29 (by decide) (fun c29 => ?_) (fun c29 => ?_)
        · refine w_aload_n dX9_rule_35 rfl ?_
          refine w_getR dX9_rule_36 flX9_10 rfl (hs.r (a := 0) (j := 0) (b := 1) 0 rfl) ?_
          refine w_iload_n dX9_rule_39 rfl ?_
          refine w_iload_n dX9_rule_40 rfl ?_
          refine w_iload_n dX9_rule_41 rfl ?_
          refine w_iload dX9_rule_42 rfl ?_
          rcases (show nRu V = 8 ∨ nRu V < 8 by have := hV.2.1.2; omega) with h8 | h8
          · have e : oRule V k a b c = (V, -1000000003) := (cif_t ⟨c4, c12, c20, c29⟩).trans (cif_t h8)
            rw [e] at hq
            refine c_V (t := 8) (as := [_, _, _, _]) (d' := 0) dX9_rule_44 mlX9_112 moX8_addRule mvX8_addRule ⟨rfl, rfl⟩ rfl rfl rfl rfl rfl (by decide) (sX8_addRuleF (by rw [hC.1.2.1, hV.2.1.1, h8]) ?_)
            refine w_ireturn dX9_rule_47 rfl rfl ?_
            exact hq I (fun _ _ => rfl) hC
          · have e : oRule V k a b c = (addR V k a b c, V 2) := (cif_t ⟨c4, c12, c20, c29⟩).trans (cif_f (by omega))
            rw [e, hV.2.1.1] at hq
            refine c_V (t := 8) (as := [_, _, _, _]) (d' := 0) dX9_rule_44 mlX9_112 moX8_addRule mvX8_addRule ⟨rfl, rfl⟩ rfl rfl rfl rfl rfl (by decide) (sX8_addRule hs (Or.inl rfl) hV hC h8 (fun I2 hI2 hC2 => ?_))
            refine w_ireturn dX9_rule_47 rfl rfl ?_
            exact hq I2 (fun q h => hI2 q (by unfold FC at h; omega) (by unfold FC at h; omega) (by unfold FC at h; omega)) hC2
        · refine w_ldc dX9_rule_32 kcX9_77 ?_
          refine w_ireturn dX9_rule_34 rfl rfl ?_
          have e : oRule V k a b c = (V, -1000000001) := cif_f (fun z => by first | exact c4 z.1 | exact c12 z.2.1 | exact c20 z.2.2.1 | exact c29 z.2.2.2)
          rw [e] at hq
          exact hq I (fun _ _ => rfl) hC

set_option maxRecDepth 20000 in
theorem sX10_rule (hs : SK R N) {V : VV} (hI : I 118 = V) (hV : VO V) {k a b c : Int32} (hq : ∀ I' : HI, (∀ q, FM q → I' q = I q) → I' 118 = (oRule V k a b c).1 → Q (vI (oRule V k a b c).2) I' L R N n) : CA sc 2 0 0 mX10_rule [vR 10 117, vI k, vI a, vI b, vI c] I L R N n Q := by
  refine ca_in (al := [_, _, _, _, _, _]) rfl ?_
  refine w_iload_n dX10_rule_0 rfl ?_
  refine w_iconst dX10_rule_1 ic_0 ?_
  refine w_iconst dX10_rule_2 ic_5 ?_
  refine c_S (as := [_, _, _]) (d' := 0) dX10_rule_3 (Or.inl mlX10_97) moX10_in msX10_in rfl rfl rfl rfl rfl (by decide) (sX10_in ?_)
  refine w_ifB_eq (tgt := 34) dX10_rule_6 (by decide) (fun c6 => ?_) (fun c6 => ?_)
  · refine w_ldc dX10_rule_34 kcX10_101 ?_
    refine w_ireturn dX10_rule_36 rfl rfl ?_
    have e : oRule V k a b c = (V, -1000000001) := cif_f (fun z => by first | exact c6 z.1 | exact c14 z.2.1 | exact c22 z.2.2.1 | exact c31 z.2.2.2)
    rw [e] at hq
    exact hq I (fun _ _ => rfl) hI
  · refine w_iconst dX10_rule_9 ic_0 ?_
    refine w_iload_n dX10_rule_10 rfl ?_
    refine c_S (as := [_, _]) (d' := 1) dX10_rule_11 (Or.inl mlX10_127) moX10_isPart msX10_isPart rfl rfl rfl rfl rfl (by decide) (sX10_isPart ?_)
    refine w_ifB_eq (tgt := 34) dX10_rule_14 (by decide) (fun c14 => ?_) (fun c14 => ?_)
    · refine w_ldc dX10_rule_34 kcX10_101 ?_
      refine w_ireturn dX10_rule_36 rfl rfl ?_
      have e : oRule V k a b c = (V, -1000000001) := cif_f (fun z => by first | exact c6 z.1 | exact c14 z.2.1 | exact c22 z.2.2.1 | exact c31 z.2.2.2)
      rw [e] at hq
      exact hq I (fun _ _ => rfl) hI
    · refine w_iconst dX10_rule_17 ic_1 ?_
      refine w_iload_n dX10_rule_18 rfl ?_
      refine c_S (as := [_, _]) (d' := 1) dX10_rule_19 (Or.inl mlX10_127) moX10_isPart msX10_isPart rfl rfl rfl rfl rfl (by decide) (sX10_isPart ?_)
      refine w_ifB_eq (tgt := 34) dX10_rule_22 (by decide) (fun c22 => ?_) (fun c22 => ?_)
      · refine w_ldc dX10_rule_34 kcX10_101 ?_
        refine w_ireturn dX10_rule_36 rfl rfl ?_
        have e : oRule V k a b c = (V, -1000000001) := cif_f (fun z => by first | exact c6 z.1 | exact c14 z.2.1 | exact c22 z.2.2.1 | exact c31 z.2.2.2)
        rw [e] at hq
        exact hq I (fun _ _ => rfl) hI
      · refine w_iconst dX10_rule_25 ic_2 ?_
        refine w_iload dX10_rule_26 rfl ?_
        refine c_S (as := [_, _]) (d' := 1) dX10_rule_28 (Or.inl mlX10_127) moX10_isPart msX10_isPart rfl rfl rfl rfl rfl (by decide) (sX10_isPart ?_)
        refine w_ifB_ne (tgt := 37) dX10_rule_31 (by decide) (fun c31 => ?_) (fun c31 => ?_)
        · refine w_aload_n dX10_rule_37 rfl ?_
          refine w_getR dX10_rule_38 flX10_9 rfl (hs.r (a := 117) (j := 0) (b := 118) 116 rfl) ?_
          refine w_iconst dX10_rule_41 ic_2 ?_
          refine w_iald (q := 2) dX10_rule_42 rfl (hs.n (a := 118) (z := 1452) 72 rfl) (by decide) ?_
          refine w_top (y := V 2) (congrFun hI 2) ?_
          refine w_bipush dX10_rule_43 bp_8 ?_
          refine w_icmp_ne (tgt := 51) dX10_rule_45 (by decide) (fun c45 => ?_) (fun c45 => ?_)
          · have h8n : nRu V ≠ 8 := fun q => c45 ((nRu_8 hV).mpr q)
            have h8 : nRu V < 8 := by have := hV.2.1.2; omega
            have e : oRule V k a b c = (addR V k a b c, V 2) := (cif_t ⟨c6, c14, c22, c31⟩).trans (cif_f h8n)
            rw [e] at hq
            refine w_bipush dX10_rule_51 bp_48 ?_
            refine w_iconst dX10_rule_53 ic_4 ?_
            refine w_aload_n dX10_rule_54 rfl ?_
            refine w_getR dX10_rule_55 flX10_9 rfl (hs.r (a := 117) (j := 0) (b := 118) 116 rfl) ?_
            refine w_iconst dX10_rule_58 ic_2 ?_
            refine w_iald (q := 2) dX10_rule_59 rfl (hs.n (a := 118) (z := 1452) 72 rfl) (by decide) ?_
            refine w_top (y := nI (nRu V)) ((congrFun hI 2).trans hV.2.1.1) ?_
            refine w_imul dX10_rule_60 ?_
            refine w_iadd dX10_rule_61 ?_
            refine w_top (y := nI (48 + 4 * nRu V)) (by show nI 48 + nI 4 * nI (nRu V) = _; rw [nI_mul, nI_add]) ?_
            refine w_istore (al' := [_, _, _, _, _, _]) dX10_rule_62 rfl rfl rfl ?_
            refine w_aload_n dX10_rule_64 rfl ?_
            refine w_getR dX10_rule_65 flX10_9 rfl (hs.r (a := 117) (j := 0) (b := 118) 116 rfl) ?_
            refine w_iload dX10_rule_68 rfl ?_
            refine w_iload_n dX10_rule_70 rfl ?_
            refine w_iast dX10_rule_71 rfl (hs.n (a := 118) (z := 1452) 72 rfl) (by omega) ?_
            refine w_aload_n dX10_rule_72 rfl ?_
            refine w_getR dX10_rule_73 flX10_9 rfl (hs.r (a := 117) (j := 0) (b := 118) 116 rfl) ?_
            refine w_iload dX10_rule_76 rfl ?_
            refine w_iconst dX10_rule_78 ic_1 ?_
            refine w_iadd dX10_rule_79 ?_
            refine w_top (y := nI (48 + 4 * nRu V + 1)) (nI_add _ 1) ?_
            refine w_iload_n dX10_rule_80 rfl ?_
            refine w_iast dX10_rule_81 rfl (hs.n (a := 118) (z := 1452) 72 rfl) (by omega) ?_
            refine w_aload_n dX10_rule_82 rfl ?_
            refine w_getR dX10_rule_83 flX10_9 rfl (hs.r (a := 117) (j := 0) (b := 118) 116 rfl) ?_
            refine w_iload dX10_rule_86 rfl ?_
            refine w_iconst dX10_rule_88 ic_2 ?_
            refine w_iadd dX10_rule_89 ?_
            refine w_top (y := nI (48 + 4 * nRu V + 2)) (nI_add _ 2) ?_
            refine w_iload_n dX10_rule_90 rfl ?_
            refine w_iast dX10_rule_91 rfl (hs.n (a := 118) (z := 1452) 72 rfl) (by omega) ?_
            refine w_aload_n dX10_rule_92 rfl ?_
            refine w_getR dX10_rule_93 flX10_9 rfl (hs.r (a := 117) (j := 0) (b := 118) 116 rfl) ?_
            refine w_iload dX10_rule_96 rfl ?_
            refine w_iconst dX10_rule_98 ic_3 ?_
            refine w_iadd dX10_rule_99 ?_
            refine w_top (y := nI (48 + 4 * nRu V + 3)) (nI_add _ 3) ?_
            refine w_iload dX10_rule_100 rfl ?_
            refine w_iast dX10_rule_102 rfl (hs.n (a := 118) (z := 1452) 72 rfl) (by omega) ?_
            refine w_I (I' := va_up I 118 (va_up (va_up (va_up (va_up (I 118) (48 + 4 * nRu V) k) (48 + 4 * nRu V + 1) a) (48 + 4 * nRu V + 2) b) (48 + 4 * nRu V + 3) c)) (by simp only [up_up, va_up_self]) ?_
            refine w_aload_n dX10_rule_103 rfl ?_
            refine w_getR dX10_rule_104 flX10_9 rfl (hs.r (a := 117) (j := 0) (b := 118) 116 rfl) ?_
            refine w_iconst dX10_rule_107 ic_2 ?_
            refine w_dup2 dX10_rule_108 rfl rfl ?_
            refine w_iald (q := 2) dX10_rule_109 rfl (hs.n (a := 118) (z := 1452) 72 rfl) (by decide) ?_
            refine w_top (y := V 2) (by rw [va_up_self, va_up_ne _ _ (by omega), va_up_ne _ _ (by omega), va_up_ne _ _ (by omega), va_up_ne _ _ (by omega), hI]) ?_
            refine w_iconst dX10_rule_110 ic_1 ?_
            refine w_iadd dX10_rule_111 ?_
            refine w_iast (q := 2) dX10_rule_112 rfl (hs.n (a := 118) (z := 1452) 72 rfl) (by decide) ?_
            refine w_I (I' := va_up I 118 (addR V k a b c)) (by rw [← hI]; simp only [up_up, va_up_self]; rfl) ?_
            refine w_aload_n dX10_rule_113 rfl ?_
            refine w_getR dX10_rule_114 flX10_9 rfl (hs.r (a := 117) (j := 0) (b := 118) 116 rfl) ?_
            refine w_iconst dX10_rule_117 ic_2 ?_
            refine w_iald (q := 2) dX10_rule_118 rfl (hs.n (a := 118) (z := 1452) 72 rfl) (by decide) ?_
            refine w_top (y := V 2 + 1) (by rw [va_up_self]; exact addR_2 V k a b c) ?_
            refine w_iconst dX10_rule_119 ic_1 ?_
            refine w_isub dX10_rule_120 ?_
            refine w_ireturn dX10_rule_121 rfl rfl ?_
            refine q_e (x := V 2) ?_ (hq _ (fun q h => va_up_ne _ _ h.1) (va_up_self _ _ _))
            exact (Int32.add_sub_cancel _ _).symm
          · have e : oRule V k a b c = (V, -1000000003) := (cif_t ⟨c6, c14, c22, c31⟩).trans (cif_t ((nRu_8 hV).mp c45))
            rw [e] at hq
            refine w_ldc dX10_rule_48 kcX10_102 ?_
            refine w_ireturn dX10_rule_50 rfl rfl ?_
            exact hq I (fun _ _ => rfl) hI
        · refine w_ldc dX10_rule_34 kcX10_101 ?_
          refine w_ireturn dX10_rule_36 rfl rfl ?_
          have e : oRule V k a b c = (V, -1000000001) := cif_f (fun z => by first | exact c6 z.1 | exact c14 z.2.1 | exact c22 z.2.2.1 | exact c31 z.2.2.2)
          rw [e] at hq
          exact hq I (fun _ _ => rfl) hI

set_option maxRecDepth 20000 in
theorem sX9_told (hs : SK R N) {V : VV} (hV : VO V) (hC : WC I R N n 1 V) {a b : Int32} (hq : Q (vI (oTold V a b)) I L R N n) : CA sc 2 0 0 mX9_told [vR 9 0, vI a, vI b] I L R N n Q := by
  refine ca_in (al := [_, _, _, _]) rfl ?_
  refine w_aload_n dX9_told_0 rfl ?_
  refine w_getR dX9_told_1 flX9_10 rfl (hs.r (a := 0) (j := 0) (b := 1) 0 rfl) ?_
  refine w_iload_n dX9_told_4 rfl ?_
  by_cases ha : isR V a
  · obtain ⟨r, hr, rfl⟩ := isR_of hV ha
    have h8 := hV.2.1.2
    have hrl := hs.rules (Or.inl rfl) (show r < 8 by omega)
    have hru := hC.2.2.1 r hr
    have hcl : (nI r).toNatClampNeg = r := nI_clamp (by omega)
    refine c_V (t := 8) (as := [_]) (d' := 1) dX9_told_5 mlX9_116 moX8_ruleAt mvX8_ruleAt ⟨rfl, rfl⟩ rfl rfl rfl rfl rfl (by decide) (sX8_ruleAtS hs (Or.inl rfl) (hC.1.2.1.trans hV.2.1.1) h8 hr ?_)
    refine w_astore_n (al' := [_, _, _, _]) dX9_told_8 rfl rfl rfl ?_
    refine w_aload_n dX9_told_9 rfl ?_
    refine w_ifnullR dX9_told_10 ?_
    refine w_iload_n dX9_told_13 rfl ?_
    refine w_iconst dX9_told_14 ic_0 ?_
    refine w_iconst dX9_told_15 ic_4 ?_
    refine c_S (as := [_, _, _]) (d' := 0) dX9_told_16 (Or.inl mlX9_86) moX9_within msX9_within rfl rfl rfl rfl rfl (by decide) (sX9_within ?_)
    refine w_ifB_ne (tgt := 25) dX9_told_19 (by decide) (fun c19 => ?_) (fun c19 => ?_)
    · obtain ⟨q, hq5, rfl⟩ := in_of (m := 4) (by decide) c19
      have e : oTold V (nI r) (nI q) = (if nI q = 4 then worthV V r else V (48 + 4 * r + q)) := by unfold oTold; rw [cif_t ⟨isR_to hV hr, in_to (m := 4) (by decide) hq5⟩, hcl, nI_clamp (by omega)]
      rw [e] at hq
      refine w_iload_n dX9_told_25 rfl ?_
      refine w_if_ne (tgt := 34) dX9_told_26 (by decide) (fun c26 => ?_) (fun c26 => ?_)
      · refine w_iload_n dX9_told_34 rfl ?_
        refine w_iconst dX9_told_35 ic_4 ?_
        refine w_icmp_ne (tgt := 46) dX9_told_36 (by decide) (fun c36 => ?_) (fun c36 => ?_)
        · rw [if_neg c36] at hq
          obtain ⟨q1, rfl⟩ : ∃ q1, q = q1 + 1 := ⟨q - 1, by have : q ≠ 0 := fun e => c26 (by rw [e]; rfl); omega⟩
          have hq3 : q1 < 3 := by have h9 : q1 + 1 ≠ 4 := (fun e => c36 (by rw [e]; rfl)); omega
          refine w_aload_n dX9_told_46 rfl ?_
          refine w_getR dX9_told_47 flX9_127 rfl hrl.2.1 ?_
          refine w_iload_n dX9_told_50 rfl ?_
          refine w_iconst dX9_told_51 ic_1 ?_
          refine w_isub dX9_told_52 ?_
          refine w_top (y := nI q1) (nI_pred q1) ?_
          refine w_iald dX9_told_53 rfl hrl.2.2 (by omega) ?_
          refine w_top (y := V (48 + 4 * r + (q1 + 1))) ((hru.2 q1 hq3).trans (congrArg V (by omega))) ?_
          refine w_ireturn dX9_told_54 rfl rfl ?_
          exact hq
        · rw [if_pos c36] at hq
          refine w_aload_n dX9_told_39 rfl ?_
          refine c_V (t := 3) (as := []) (d' := 0) dX9_told_40 mlX9_123 moX3_worth mvX3_worth ⟨rfl, rfl⟩ rfl rfl rfl rfl rfl (by decide) (sX3_worth hrl.2.1 hrl.2.2 ?_)
          refine w_top (y := worthV V r) (by show worthF (I (1 + 13 + 2 * r) 0) (I (1 + 14 + 2 * r) 0) (I (1 + 14 + 2 * r) 1) (I (1 + 14 + 2 * r) 2) = worthV V r; rw [hru.1, hru.2 0 (by decide), hru.2 1 (by decide), hru.2 2 (by decide)]; rfl) ?_
          refine w_goto (tgt := 54) dX9_told_43 (by decide) ?_
          refine w_ireturn dX9_told_54 rfl rfl ?_
          exact hq
      · obtain rfl : q = 0 := (nI_eq (b := 0) (by omega) (by omega)).mp c26
        refine w_aload_n dX9_told_29 rfl ?_
        refine w_getI dX9_told_30 flX9_120 rfl ?_
        refine w_top (y := V (48 + 4 * r)) (hru.1) ?_
        refine w_ireturn dX9_told_33 rfl rfl ?_
        exact hq
    · refine w_ldc dX9_told_22 kcX9_77 ?_
      refine w_ireturn dX9_told_24 rfl rfl ?_
      refine q_e (cif_f (fun z => by first | exact c19 z.2)) hq
  · refine c_V (t := 8) (as := [_]) (d' := 1) dX9_told_5 mlX9_116 moX8_ruleAt mvX8_ruleAt ⟨rfl, rfl⟩ rfl rfl rfl rfl rfl (by decide) (sX8_ruleAtN hs (Or.inl rfl) (by rw [hC.1.2.1]; exact ha) ?_)
    refine w_astore_nN (al' := [_, _, _, _]) dX9_told_8 rfl rfl rfl ?_
    refine w_aload_nN dX9_told_9 rfl ?_
    refine w_ifnullN (tgt := 22) dX9_told_10 (by decide) ?_
    refine w_ldc dX9_told_22 kcX9_77 ?_
    refine w_ireturn dX9_told_24 rfl rfl ?_
    refine q_e (cif_f (fun z => by first | exact ha z.1)) hq

set_option maxRecDepth 20000 in
theorem sX10_worthOf (hs : SK R N) {V : VV} (hI : I 118 = V) {r : Nat} (h8 : r < 8) (hq : Q (vI (worthV V r)) I L R N n) : CA sc 1 0 0 mX10_worthOf [vR 10 117, vI (nI r)] I L R N n Q := by
  refine ca_in (al := [_, _, _, _]) rfl ?_
  refine w_aload_n dX10_worthOf_0 rfl ?_
  refine w_iload_n dX10_worthOf_1 rfl ?_
  refine w_iconst dX10_worthOf_2 ic_1 ?_
  refine c_V (t := 10) (as := [_, _]) (d' := 0) dX10_worthOf_3 mlX10_131 moX10_of mvX10_of ⟨rfl, rfl⟩ rfl rfl rfl rfl rfl (by decide) (vX10_of (V := V) (b := 1) hs hI (by omega) ?_)
  refine w_istore_n (al' := [_, _, _, _]) dX10_worthOf_6 rfl rfl rfl ?_
  refine w_aload_n dX10_worthOf_7 rfl ?_
  refine w_iload_n dX10_worthOf_8 rfl ?_
  refine w_iconst dX10_worthOf_9 ic_2 ?_
  refine c_V (t := 10) (as := [_, _]) (d' := 0) dX10_worthOf_10 mlX10_131 moX10_of mvX10_of ⟨rfl, rfl⟩ rfl rfl rfl rfl rfl (by decide) (vX10_of (V := V) (b := 2) hs hI (by omega) ?_)
  refine w_istore_n (al' := [_, _, _, _]) dX10_worthOf_13 rfl rfl rfl ?_
  refine w_aload_n dX10_worthOf_14 rfl ?_
  refine w_iload_n dX10_worthOf_15 rfl ?_
  refine w_iconst dX10_worthOf_16 ic_0 ?_
  refine c_V (t := 10) (as := [_, _]) (d' := 0) dX10_worthOf_17 mlX10_131 moX10_of mvX10_of ⟨rfl, rfl⟩ rfl rfl rfl rfl rfl (by decide) (vX10_of (V := V) (b := 0) hs hI (by omega) ?_)
  refine w_top (y := V (48 + 4 * r)) (rfl) ?_
  by_cases w20_1 : V (48 + 4 * r) = 1
  · refine w_tblIn (tgt := 56) dX10_worthOf_20 (by rw [w20_1]; decide) (by rw [w20_1]; decide) (by rw [w20_1]; rfl) (by decide) ?_
    refine w_iload_n dX10_worthOf_56 rfl ?_
    refine w_iload_n dX10_worthOf_57 rfl ?_
    refine w_iadd dX10_worthOf_58 ?_
    refine w_ireturn dX10_worthOf_59 rfl rfl ?_
    refine q_e ?_ hq
    simp_all [worthV, worthF]
  by_cases w20_2 : V (48 + 4 * r) = 2
  · refine w_tblIn (tgt := 60) dX10_worthOf_20 (by rw [w20_2]; decide) (by rw [w20_2]; decide) (by rw [w20_2]; rfl) (by decide) ?_
    refine w_iload_n dX10_worthOf_60 rfl ?_
    refine w_ireturn dX10_worthOf_61 rfl rfl ?_
    refine q_e ?_ hq
    simp_all [worthV, worthF]
  by_cases w20_3 : V (48 + 4 * r) = 3
  · refine w_tblIn (tgt := 62) dX10_worthOf_20 (by rw [w20_3]; decide) (by rw [w20_3]; decide) (by rw [w20_3]; rfl) (by decide) ?_
    refine w_iload_n dX10_worthOf_62 rfl ?_
    refine w_iload_n dX10_worthOf_63 rfl ?_
    refine w_iadd dX10_worthOf_64 ?_
    refine w_aload_n dX10_worthOf_65 rfl ?_
    refine w_iload_n dX10_worthOf_66 rfl ?_
    refine w_iconst dX10_worthOf_67 ic_3 ?_
    refine c_V (t := 10) (as := [_, _]) (d' := 0) dX10_worthOf_68 mlX10_131 moX10_of mvX10_of ⟨rfl, rfl⟩ rfl rfl rfl rfl rfl (by decide) (vX10_of (V := V) (b := 3) hs hI (by omega) ?_)
    refine w_isub dX10_worthOf_71 ?_
    refine w_ireturn dX10_worthOf_72 rfl rfl ?_
    refine q_e ?_ hq
    simp_all [worthV, worthF]
  by_cases w20_4 : V (48 + 4 * r) = 4
  · refine w_tblIn (tgt := 73) dX10_worthOf_20 (by rw [w20_4]; decide) (by rw [w20_4]; decide) (by rw [w20_4]; rfl) (by decide) ?_
    refine w_iload_n dX10_worthOf_73 rfl ?_
    refine w_aload_n dX10_worthOf_74 rfl ?_
    refine w_iload_n dX10_worthOf_75 rfl ?_
    refine w_iconst dX10_worthOf_76 ic_3 ?_
    refine c_V (t := 10) (as := [_, _]) (d' := 0) dX10_worthOf_77 mlX10_131 moX10_of mvX10_of ⟨rfl, rfl⟩ rfl rfl rfl rfl rfl (by decide) (vX10_of (V := V) (b := 3) hs hI (by omega) ?_)
    refine w_iadd dX10_worthOf_80 ?_
    refine w_ireturn dX10_worthOf_81 rfl rfl ?_
    refine q_e ?_ hq
    simp_all [worthV, worthF]
  by_cases w20_5 : V (48 + 4 * r) = 5
  · refine w_tblIn (tgt := 82) dX10_worthOf_20 (by rw [w20_5]; decide) (by rw [w20_5]; decide) (by rw [w20_5]; rfl) (by decide) ?_
    refine w_iconst dX10_worthOf_82 ic_1 ?_
    refine w_ireturn dX10_worthOf_83 rfl rfl ?_
    refine q_e ?_ hq
    simp_all [worthV, worthF]
  refine w_tblOut (tgt := 84) dX10_worthOf_20 (by have := i_ne (k := 1) (a := 1) rfl w20_1; have := i_ne (k := 2) (a := 2) rfl w20_2; have := i_ne (k := 3) (a := 3) rfl w20_3; have := i_ne (k := 4) (a := 4) rfl w20_4; have := i_ne (k := 5) (a := 5) rfl w20_5; omega) (by decide) ?_
  refine w_iload_n dX10_worthOf_84 rfl ?_
  refine w_ireturn dX10_worthOf_85 rfl rfl ?_
  refine q_e ?_ hq
  simp_all [worthV, worthF]

set_option maxRecDepth 20000 in
theorem sX10_told (hs : SK R N) {V : VV} (hI : I 118 = V) (hV : VO V) {a b : Int32} (hq : Q (vI (oTold V a b)) I L R N n) : CA sc 2 0 0 mX10_told [vR 10 117, vI a, vI b] I L R N n Q := by
  refine ca_in (al := [_, _, _]) rfl ?_
  refine w_aload_n dX10_told_0 rfl ?_
  refine w_iload_n dX10_told_1 rfl ?_
  refine c_V (t := 10) (as := [_]) (d' := 1) dX10_told_2 mlX10_134 moX10_isRule mvX10_isRule ⟨rfl, rfl⟩ rfl rfl rfl rfl rfl (by decide) (sX10_isRule hs ?_)
  refine w_ifB_eq (tgt := 17) dX10_told_5 (by decide) (fun c5 => ?_) (fun c5 => ?_)
  · have ha : ¬ isR V a := by unfold isR; rw [← hI]; exact c5
    refine w_ldc dX10_told_17 kcX10_101 ?_
    refine w_ireturn dX10_told_19 rfl rfl ?_
    refine q_e (cif_f (fun z => by first | exact ha z.1)) hq
  · have ha : isR V a := by unfold isR; rw [← hI]; exact c5
    obtain ⟨r, hr, rfl⟩ := isR_of hV ha
    have h8 := hV.2.1.2
    have hcl : (nI r).toNatClampNeg = r := nI_clamp (by omega)
    refine w_iload_n dX10_told_8 rfl ?_
    refine w_iconst dX10_told_9 ic_0 ?_
    refine w_iconst dX10_told_10 ic_4 ?_
    refine c_S (as := [_, _, _]) (d' := 0) dX10_told_11 (Or.inl mlX10_97) moX10_in msX10_in rfl rfl rfl rfl rfl (by decide) (sX10_in ?_)
    refine w_ifB_ne (tgt := 20) dX10_told_14 (by decide) (fun c14 => ?_) (fun c14 => ?_)
    · obtain ⟨q, hq5, rfl⟩ := in_of (m := 4) (by decide) c14
      have e : oTold V (nI r) (nI q) = (if nI q = 4 then worthV V r else V (48 + 4 * r + q)) := by unfold oTold; rw [cif_t ⟨isR_to hV hr, in_to (m := 4) (by decide) hq5⟩, hcl, nI_clamp (by omega)]
      rw [e] at hq
      refine w_iload_n dX10_told_20 rfl ?_
      refine w_iconst dX10_told_21 ic_4 ?_
      refine w_icmp_ge (tgt := 34) dX10_told_22 (by decide) (fun c22 => ?_) (fun c22 => ?_)
      · have hq4 := (nI_leI (a := 4) (by omega) (by omega)).mp c22
        obtain rfl : q = 4 := by omega
        rw [if_pos (show nI 4 = 4 from rfl)] at hq
        refine w_aload_n dX10_told_34 rfl ?_
        refine w_iload_n dX10_told_35 rfl ?_
        refine c_V (t := 10) (as := [_]) (d' := 1) dX10_told_36 mlX10_137 moX10_worthOf mvX10_worthOf ⟨rfl, rfl⟩ rfl rfl rfl rfl rfl (by decide) (sX10_worthOf hs hI (by omega) ?_)
        refine w_ireturn dX10_told_39 rfl rfl ?_
        exact hq
      · have hq4 := (nI_ltI (b := 4) (by omega) (by omega)).mp (Int32.not_le.mp c22)
        rw [if_neg (fun z => by have := (nI_eq (b := 4) (by omega) (by omega)).mp z; omega)] at hq
        refine w_aload_n dX10_told_25 rfl ?_
        refine w_iload_n dX10_told_26 rfl ?_
        refine w_iload_n dX10_told_27 rfl ?_
        refine c_V (t := 10) (as := [_, _]) (d' := 0) dX10_told_28 mlX10_131 moX10_of mvX10_of ⟨rfl, rfl⟩ rfl rfl rfl rfl rfl (by decide) (vX10_of (V := V) (b := q) hs hI (by omega) ?_)
        refine w_goto (tgt := 39) dX10_told_31 (by decide) ?_
        refine w_ireturn dX10_told_39 rfl rfl ?_
        exact hq
    · refine w_ldc dX10_told_17 kcX10_101 ?_
      refine w_ireturn dX10_told_19 rfl rfl ?_
      refine q_e (cif_f (fun z => by first | exact c14 z.2)) hq

set_option maxRecDepth 20000 in
theorem sX9_as (hs : SK R N) {V : VV} (hV : VO V) (hC : WC I R N n 1 V) {a k : Int32} (hq : Q (vI (oAs V a k)) I L R N n) : CA sc 3 0 0 mX9_as [vR 9 0, vI a, vI k] I L R N n Q := by
  refine ca_in (al := [_, _, _, _]) rfl ?_
  refine w_aload_n dX9_as_0 rfl ?_
  refine w_getR dX9_as_1 flX9_10 rfl (hs.r (a := 0) (j := 0) (b := 1) 0 rfl) ?_
  refine w_iload_n dX9_as_4 rfl ?_
  by_cases ha : isR V a
  · obtain ⟨r, hr, rfl⟩ := isR_of hV ha
    have h8 := hV.2.1.2
    have hrl := hs.rules (Or.inl rfl) (show r < 8 by omega)
    have hru := hC.2.2.1 r hr
    have hcl : (nI r).toNatClampNeg = r := nI_clamp (by omega)
    refine c_V (t := 8) (as := [_]) (d' := 1) dX9_as_5 mlX9_116 moX8_ruleAt mvX8_ruleAt ⟨rfl, rfl⟩ rfl rfl rfl rfl rfl (by decide) (sX8_ruleAtS hs (Or.inl rfl) (hC.1.2.1.trans hV.2.1.1) h8 hr ?_)
    refine w_astore_n (al' := [_, _, _, _]) dX9_as_8 rfl rfl rfl ?_
    refine w_aload_n dX9_as_9 rfl ?_
    refine w_ifnullR dX9_as_10 ?_
    refine w_iload_n dX9_as_13 rfl ?_
    refine c_S (as := [_]) (d' := 1) dX9_as_14 (Or.inl mlX9_106) moX9_isKind msX9_isKind rfl rfl rfl rfl rfl (by decide) (sX9_isKind ?_)
    refine w_ifB_ne (tgt := 23) dX9_as_17 (by decide) (fun c17 => ?_) (fun c17 => ?_)
    · have e : oAs V (nI r) k = cif (under (V (48 + 4 * r)) k) (V (48 + 4 * r + 1)) (-1000000012) := by unfold oAs; rw [cif_t ⟨isR_to hV hr, c17⟩, hcl]
      rw [e] at hq
      obtain ⟨kd, -, hk5, hkd⟩ := (hV.2.2.2.2.1 r hr).1
      refine w_aload_n dX9_as_23 rfl ?_
      refine w_getI dX9_as_24 flX9_120 rfl ?_
      refine w_top (y := nI kd) (hru.1.trans hkd) ?_
      refine w_iload_n dX9_as_27 rfl ?_
      refine c_S (as := [_, _]) (d' := 2) dX9_as_28 (Or.inl mlX9_130) moX9_isUnder msX9_isUnder rfl rfl rfl rfl rfl (by decide) (sX9_isUnder (by omega) ?_)
      refine w_ifB_eq (tgt := 43) dX9_as_31 (by decide) (fun c31 => ?_) (fun c31 => ?_)
      · refine w_ldc dX9_as_43 kcX9_133 ?_
        refine w_top (y := cif (under (V (48 + 4 * r)) k) (V (48 + 4 * r + 1)) (-1000000012)) (by rw [hkd, cif_f c31]) ?_
        refine w_ireturn dX9_as_45 rfl rfl ?_
        exact hq
      · refine w_aload_n dX9_as_34 rfl ?_
        refine w_getR dX9_as_35 flX9_127 rfl hrl.2.1 ?_
        refine w_iconst dX9_as_38 ic_0 ?_
        refine w_iald (q := 0) dX9_as_39 rfl hrl.2.2 (by decide) ?_
        refine w_top (y := cif (under (V (48 + 4 * r)) k) (V (48 + 4 * r + 1)) (-1000000012)) (by rw [hkd, cif_t c31]; exact hru.2 0 (by decide)) ?_
        refine w_goto (tgt := 45) dX9_as_40 (by decide) ?_
        refine w_ireturn dX9_as_45 rfl rfl ?_
        exact hq
    · refine w_ldc dX9_as_20 kcX9_77 ?_
      refine w_ireturn dX9_as_22 rfl rfl ?_
      refine q_e (cif_f (fun z => by first | exact c17 z.2)) hq
  · refine c_V (t := 8) (as := [_]) (d' := 1) dX9_as_5 mlX9_116 moX8_ruleAt mvX8_ruleAt ⟨rfl, rfl⟩ rfl rfl rfl rfl rfl (by decide) (sX8_ruleAtN hs (Or.inl rfl) (by rw [hC.1.2.1]; exact ha) ?_)
    refine w_astore_nN (al' := [_, _, _, _]) dX9_as_8 rfl rfl rfl ?_
    refine w_aload_nN dX9_as_9 rfl ?_
    refine w_ifnullN (tgt := 20) dX9_as_10 (by decide) ?_
    refine w_ldc dX9_as_20 kcX9_77 ?_
    refine w_ireturn dX9_as_22 rfl rfl ?_
    refine q_e (cif_f (fun z => by first | exact ha z.1)) hq

set_option maxRecDepth 20000 in
theorem sX10_as (hs : SK R N) {V : VV} (hI : I 118 = V) (hV : VO V) {a k : Int32} (hq : Q (vI (oAs V a k)) I L R N n) : CA sc 2 0 0 mX10_as [vR 10 117, vI a, vI k] I L R N n Q := by
  refine ca_in (al := [_, _, _]) rfl ?_
  refine w_aload_n dX10_as_0 rfl ?_
  refine w_iload_n dX10_as_1 rfl ?_
  refine c_V (t := 10) (as := [_]) (d' := 1) dX10_as_2 mlX10_134 moX10_isRule mvX10_isRule ⟨rfl, rfl⟩ rfl rfl rfl rfl rfl (by decide) (sX10_isRule hs ?_)
  refine w_ifB_eq (tgt := 17) dX10_as_5 (by decide) (fun c5 => ?_) (fun c5 => ?_)
  · have ha : ¬ isR V a := by unfold isR; rw [← hI]; exact c5
    refine w_ldc dX10_as_17 kcX10_101 ?_
    refine w_ireturn dX10_as_19 rfl rfl ?_
    refine q_e (cif_f (fun z => by first | exact ha z.1)) hq
  · have ha : isR V a := by unfold isR; rw [← hI]; exact c5
    obtain ⟨r, hr, rfl⟩ := isR_of hV ha
    have h8 := hV.2.1.2
    have hcl : (nI r).toNatClampNeg = r := nI_clamp (by omega)
    refine w_iload_n dX10_as_8 rfl ?_
    refine w_iconst dX10_as_9 ic_0 ?_
    refine w_iconst dX10_as_10 ic_5 ?_
    refine c_S (as := [_, _, _]) (d' := 0) dX10_as_11 (Or.inl mlX10_97) moX10_in msX10_in rfl rfl rfl rfl rfl (by decide) (sX10_in ?_)
    refine w_ifB_ne (tgt := 20) dX10_as_14 (by decide) (fun c14 => ?_) (fun c14 => ?_)
    · have e : oAs V (nI r) k = cif (under (V (48 + 4 * r)) k) (V (48 + 4 * r + 1)) (-1000000012) := by unfold oAs; rw [cif_t ⟨isR_to hV hr, c14⟩, hcl]
      rw [e] at hq
      refine w_aload_n dX10_as_20 rfl ?_
      refine w_iload_n dX10_as_21 rfl ?_
      refine w_iconst dX10_as_22 ic_0 ?_
      refine c_V (t := 10) (as := [_, _]) (d' := 0) dX10_as_23 mlX10_131 moX10_of mvX10_of ⟨rfl, rfl⟩ rfl rfl rfl rfl rfl (by decide) (vX10_of (V := V) (b := 0) hs hI (by omega) ?_)
      refine w_top (y := V (48 + 4 * r)) (rfl) ?_
      refine w_iload_n dX10_as_26 rfl ?_
      refine c_S (as := [_, _]) (d' := 0) dX10_as_27 (Or.inl mlX10_140) moX10_isUnder msX10_isUnder rfl rfl rfl rfl rfl (by decide) (sX10_isUnder ?_)
      refine w_ifB_eq (tgt := 42) dX10_as_30 (by decide) (fun c30 => ?_) (fun c30 => ?_)
      · refine w_ldc dX10_as_42 kcX10_143 ?_
        refine w_top (y := cif (under (V (48 + 4 * r)) k) (V (48 + 4 * r + 1)) (-1000000012)) ((cif_f c30).symm) ?_
        refine w_ireturn dX10_as_44 rfl rfl ?_
        exact hq
      · refine w_aload_n dX10_as_33 rfl ?_
        refine w_iload_n dX10_as_34 rfl ?_
        refine w_iconst dX10_as_35 ic_1 ?_
        refine c_V (t := 10) (as := [_, _]) (d' := 0) dX10_as_36 mlX10_131 moX10_of mvX10_of ⟨rfl, rfl⟩ rfl rfl rfl rfl rfl (by decide) (vX10_of (V := V) (b := 1) hs hI (by omega) ?_)
        refine w_top (y := cif (under (V (48 + 4 * r)) k) (V (48 + 4 * r + 1)) (-1000000012)) ((cif_t c30).symm) ?_
        refine w_goto (tgt := 44) dX10_as_39 (by decide) ?_
        refine w_ireturn dX10_as_44 rfl rfl ?_
        exact hq
    · refine w_ldc dX10_as_17 kcX10_101 ?_
      refine w_ireturn dX10_as_19 rfl rfl ?_
      refine q_e (cif_f (fun z => by first | exact c14 z.2)) hq

set_option maxRecDepth 20000 in
theorem sX9_turns (hs : SK R N) {V : VV} (hV : VO V) (hC : WC I R N n 1 V) {a k : Int32} (hq : ∀ I' : HI, (∀ q, FC q → I' q = I q) → WC I' R N n 1 (oTurns V a k).1 → Q (vI (oTurns V a k).2) I' L R N n) : CA sc 2 0 0 mX9_turns [vR 9 0, vI a, vI k] I L R N n Q := by
  refine ca_in (al := [_, _, _, _, _]) rfl ?_
  refine w_aload_n dX9_turns_0 rfl ?_
  refine w_getR dX9_turns_1 flX9_10 rfl (hs.r (a := 0) (j := 0) (b := 1) 0 rfl) ?_
  refine w_iload_n dX9_turns_4 rfl ?_
  by_cases ha : isR V a
  · obtain ⟨r, hr, rfl⟩ := isR_of hV ha
    have h8 := hV.2.1.2
    have hrl := hs.rules (Or.inl rfl) (show r < 8 by omega)
    have hru := hC.2.2.1 r hr
    have hcl : (nI r).toNatClampNeg = r := nI_clamp (by omega)
    refine c_V (t := 8) (as := [_]) (d' := 1) dX9_turns_5 mlX9_116 moX8_ruleAt mvX8_ruleAt ⟨rfl, rfl⟩ rfl rfl rfl rfl rfl (by decide) (sX8_ruleAtS hs (Or.inl rfl) (hC.1.2.1.trans hV.2.1.1) h8 hr ?_)
    refine w_astore_n (al' := [_, _, _, _, _]) dX9_turns_8 rfl rfl rfl ?_
    refine w_aload_n dX9_turns_9 rfl ?_
    refine w_ifnullR dX9_turns_10 ?_
    refine w_iload_n dX9_turns_13 rfl ?_
    refine c_S (as := [_]) (d' := 1) dX9_turns_14 (Or.inl mlX9_106) moX9_isKind msX9_isKind rfl rfl rfl rfl rfl (by decide) (sX9_isKind ?_)
    refine w_ifB_ne (tgt := 23) dX9_turns_17 (by decide) (fun c17 => ?_) (fun c17 => ?_)
    · have e : oTurns V (nI r) k = (va_up V (48 + 4 * r + 0) k, V (48 + 4 * r + 0)) := by unfold oTurns; rw [cif_t ⟨isR_to hV hr, c17⟩, hcl]
      rw [e] at hq
      refine w_aload_n dX9_turns_23 rfl ?_
      refine w_getI dX9_turns_24 flX9_120 rfl ?_
      refine w_top (y := V (48 + 4 * r)) (hru.1) ?_
      refine w_istore (al' := [_, _, _, _, _]) dX9_turns_27 rfl rfl rfl ?_
      refine w_aload_n dX9_turns_29 rfl ?_
      refine w_iload_n dX9_turns_30 rfl ?_
      refine w_putI dX9_turns_31 flX9_120 rfl rfl rfl rfl ?_
      refine w_iload dX9_turns_34 rfl ?_
      refine w_ireturn dX9_turns_36 rfl rfl ?_
      exact hq _ (fun z h => va_up_ne _ _ (by unfold FC at h; omega)) (hC.rcell hV (Or.inl rfl) k hr (by decide) (fun z h1 h2 => va_up_ne _ _ h1) (by rw [va_up_self, va_up_self]; rfl) (fun j hj => by rw [va_up_ne _ _ (by omega), if_neg (by omega)]))
    · refine w_ldc dX9_turns_20 kcX9_77 ?_
      refine w_ireturn dX9_turns_22 rfl rfl ?_
      have e : oTurns V (nI r) k = (V, -1000000001) := cif_f (fun z => by first | exact c17 z.2)
      rw [e] at hq
      exact hq I (fun _ _ => rfl) hC
  · refine c_V (t := 8) (as := [_]) (d' := 1) dX9_turns_5 mlX9_116 moX8_ruleAt mvX8_ruleAt ⟨rfl, rfl⟩ rfl rfl rfl rfl rfl (by decide) (sX8_ruleAtN hs (Or.inl rfl) (by rw [hC.1.2.1]; exact ha) ?_)
    refine w_astore_nN (al' := [_, _, _, _, _]) dX9_turns_8 rfl rfl rfl ?_
    refine w_aload_nN dX9_turns_9 rfl ?_
    refine w_ifnullN (tgt := 20) dX9_turns_10 (by decide) ?_
    refine w_ldc dX9_turns_20 kcX9_77 ?_
    refine w_ireturn dX9_turns_22 rfl rfl ?_
    have e : oTurns V a k = (V, -1000000001) := cif_f (fun z => by first | exact ha z.1)
    rw [e] at hq
    exact hq I (fun _ _ => rfl) hC

set_option maxRecDepth 20000 in
theorem sX10_turns (hs : SK R N) {V : VV} (hI : I 118 = V) (hV : VO V) {a k : Int32} (hq : ∀ I' : HI, (∀ q, FM q → I' q = I q) → I' 118 = (oTurns V a k).1 → Q (vI (oTurns V a k).2) I' L R N n) : CA sc 2 0 0 mX10_turns [vR 10 117, vI a, vI k] I L R N n Q := by
  refine ca_in (al := [_, _, _]) rfl ?_
  refine w_aload_n dX10_turns_0 rfl ?_
  refine w_iload_n dX10_turns_1 rfl ?_
  refine c_V (t := 10) (as := [_]) (d' := 1) dX10_turns_2 mlX10_134 moX10_isRule mvX10_isRule ⟨rfl, rfl⟩ rfl rfl rfl rfl rfl (by decide) (sX10_isRule hs ?_)
  refine w_ifB_eq (tgt := 27) dX10_turns_5 (by decide) (fun c5 => ?_) (fun c5 => ?_)
  · have ha : ¬ isR V a := by unfold isR; rw [← hI]; exact c5
    refine w_ldc dX10_turns_27 kcX10_101 ?_
    refine w_ireturn dX10_turns_29 rfl rfl ?_
    have e : oTurns V a k = (V, -1000000001) := cif_f (fun z => by first | exact ha z.1)
    rw [e] at hq
    exact hq I (fun _ _ => rfl) hI
  · have ha : isR V a := by unfold isR; rw [← hI]; exact c5
    obtain ⟨r, hr, rfl⟩ := isR_of hV ha
    have h8 := hV.2.1.2
    have hcl : (nI r).toNatClampNeg = r := nI_clamp (by omega)
    refine w_iload_n dX10_turns_8 rfl ?_
    refine w_iconst dX10_turns_9 ic_0 ?_
    refine w_iconst dX10_turns_10 ic_5 ?_
    refine c_S (as := [_, _, _]) (d' := 0) dX10_turns_11 (Or.inl mlX10_97) moX10_in msX10_in rfl rfl rfl rfl rfl (by decide) (sX10_in ?_)
    refine w_ifB_eq (tgt := 27) dX10_turns_14 (by decide) (fun c14 => ?_) (fun c14 => ?_)
    · refine w_ldc dX10_turns_27 kcX10_101 ?_
      refine w_ireturn dX10_turns_29 rfl rfl ?_
      have e : oTurns V (nI r) k = (V, -1000000001) := cif_f (fun z => by first | exact c14 z.2)
      rw [e] at hq
      exact hq I (fun _ _ => rfl) hI
    · have e : oTurns V (nI r) k = (va_up V (48 + 4 * r + 0) k, V (48 + 4 * r + 0)) := by unfold oTurns; rw [cif_t ⟨isR_to hV hr, c14⟩, hcl]
      rw [e] at hq
      refine w_aload_n dX10_turns_17 rfl ?_
      refine w_iload_n dX10_turns_18 rfl ?_
      refine w_iconst dX10_turns_19 ic_0 ?_
      refine w_iload_n dX10_turns_20 rfl ?_
      refine c_V (t := 10) (as := [_, _, _]) (d' := 1) dX10_turns_21 mlX10_144 moX10_becomes mvX10_becomes ⟨rfl, rfl⟩ rfl rfl rfl rfl rfl (by decide) (sX10_becomes (b := 0) hs (by omega) ?_)
      refine w_goto (tgt := 29) dX10_turns_24 (by decide) ?_
      refine w_ireturn dX10_turns_29 rfl rfl ?_
      rw [hI]
      exact hq _ (fun q h => va_up_ne _ _ h.1) (by rw [va_up_self])

set_option maxRecDepth 20000 in
theorem sX9_set (hs : SK R N) {V : VV} (hV : VO V) (hC : WC I R N n 1 V) {a b c : Int32} (hq : ∀ I' : HI, (∀ q, FC q → I' q = I q) → WC I' R N n 1 (oSet V a b c).1 → Q (vI (oSet V a b c).2) I' L R N n) : CA sc 2 0 0 mX9_set [vR 9 0, vI a, vI b, vI c] I L R N n Q := by
  refine ca_in (al := [_, _, _, _, _, _]) rfl ?_
  refine w_aload_n dX9_set_0 rfl ?_
  refine w_getR dX9_set_1 flX9_10 rfl (hs.r (a := 0) (j := 0) (b := 1) 0 rfl) ?_
  refine w_iload_n dX9_set_4 rfl ?_
  by_cases ha : isR V a
  · obtain ⟨r, hr, rfl⟩ := isR_of hV ha
    have h8 := hV.2.1.2
    have hrl := hs.rules (Or.inl rfl) (show r < 8 by omega)
    have hru := hC.2.2.1 r hr
    have hcl : (nI r).toNatClampNeg = r := nI_clamp (by omega)
    refine c_V (t := 8) (as := [_]) (d' := 1) dX9_set_5 mlX9_116 moX8_ruleAt mvX8_ruleAt ⟨rfl, rfl⟩ rfl rfl rfl rfl rfl (by decide) (sX8_ruleAtS hs (Or.inl rfl) (hC.1.2.1.trans hV.2.1.1) h8 hr ?_)
    refine w_astore (al' := [_, _, _, _, _, _]) dX9_set_8 rfl rfl rfl ?_
    refine w_aload dX9_set_10 rfl ?_
    refine w_ifnullR dX9_set_12 ?_
    refine w_iload_n dX9_set_15 rfl ?_
    refine w_iload_n dX9_set_16 rfl ?_
    by_cases hb : 0 ≤ b ∧ b ≤ 2
    · obtain ⟨q, hq3, rfl⟩ := in_of (m := 2) (by decide) hb
      refine c_S (as := [_, _]) (d' := 1) dX9_set_17 (Or.inl mlX9_109) moX9_fitsRule msX9_fitsRule rfl rfl rfl rfl rfl (by decide) (sX9_fitsRule (q := q) (by omega) ?_)
      refine w_ifB_ne (tgt := 26) dX9_set_20 (by decide) (fun c20 => ?_) (fun c20 => ?_)
      · have e : oSet V (nI r) (nI q) c = (va_up V (48 + 4 * r + (q + 1)) c, V (48 + 4 * r + (q + 1))) := by
          have hcq : (nI q).toNatClampNeg = q := nI_clamp (by omega)
          unfold oSet
          rw [hcl, hcq]
          exact cif_t ⟨isR_to hV hr, in_to (m := 2) (by decide) hq3, c20⟩
        rw [e] at hq
        refine w_aload dX9_set_26 rfl ?_
        refine w_getR dX9_set_28 flX9_127 rfl hrl.2.1 ?_
        refine w_iload_n dX9_set_31 rfl ?_
        refine w_iald dX9_set_32 rfl hrl.2.2 (by omega) ?_
        refine w_top (y := V (48 + 4 * r + (q + 1))) ((hru.2 q (by omega)).trans (congrArg V (by omega))) ?_
        refine w_istore (al' := [_, _, _, _, _, _]) dX9_set_33 rfl rfl rfl ?_
        refine w_aload dX9_set_35 rfl ?_
        refine w_getR dX9_set_37 flX9_127 rfl hrl.2.1 ?_
        refine w_iload_n dX9_set_40 rfl ?_
        refine w_iload_n dX9_set_41 rfl ?_
        refine w_iast dX9_set_42 rfl hrl.2.2 (by omega) ?_
        refine w_iload dX9_set_43 rfl ?_
        refine w_ireturn dX9_set_45 rfl rfl ?_
        refine hq _ (fun z h => va_up_ne _ _ (by unfold FC at h; omega)) (hC.rcell hV (Or.inl rfl) c hr (by omega) (fun z h1 h2 => va_up_ne _ _ h2) (by rw [va_up_ne _ _ (by omega), if_neg (by omega)]) (fun j hj => ?_))
        rw [va_up_self]
        by_cases ej : j = q
        · rw [ej, va_up_self, if_pos rfl]
        · rw [va_up_ne _ _ ej, if_neg (by omega)]
      · refine w_ldc dX9_set_23 kcX9_77 ?_
        refine w_ireturn dX9_set_25 rfl rfl ?_
        have e : oSet V (nI r) (nI q) c = (V, -1000000001) := cif_f (fun z => c20 (by have := z.2.2; rw [nI_clamp (by omega)] at this; exact this))
        rw [e] at hq
        exact hq I (fun _ _ => rfl) hC
    · refine c_S (as := [_, _]) (d' := 1) dX9_set_17 (Or.inl mlX9_109) moX9_fitsRule msX9_fitsRule rfl rfl rfl rfl rfl (by decide) (sX9_fitsRuleN hb ?_)
      refine w_ifB_ne (tgt := 26) dX9_set_20 (by decide) (fun c20 => ?_) (fun c20 => ?_)
      · exact absurd c20 id
      · refine w_ldc dX9_set_23 kcX9_77 ?_
        refine w_ireturn dX9_set_25 rfl rfl ?_
        have e : oSet V (nI r) b c = (V, -1000000001) := cif_f (fun z => by first | exact hb z.2.1)
        rw [e] at hq
        exact hq I (fun _ _ => rfl) hC
  · refine c_V (t := 8) (as := [_]) (d' := 1) dX9_set_5 mlX9_116 moX8_ruleAt mvX8_ruleAt ⟨rfl, rfl⟩ rfl rfl rfl rfl rfl (by decide) (sX8_ruleAtN hs (Or.inl rfl) (by rw [hC.1.2.1]; exact ha) ?_)
    refine w_astoreN (al' := [_, _, _, _, _, _]) dX9_set_8 rfl rfl rfl ?_
    refine w_aloadN dX9_set_10 rfl ?_
    refine w_ifnullN (tgt := 23) dX9_set_12 (by decide) ?_
    refine w_ldc dX9_set_23 kcX9_77 ?_
    refine w_ireturn dX9_set_25 rfl rfl ?_
    have e : oSet V a b c = (V, -1000000001) := cif_f (fun z => by first | exact ha z.1)
    rw [e] at hq
    exact hq I (fun _ _ => rfl) hC

set_option maxRecDepth 20000 in
theorem sX10_set (hs : SK R N) {V : VV} (hI : I 118 = V) (hV : VO V) {a b c : Int32} (hq : ∀ I' : HI, (∀ q, FM q → I' q = I q) → I' 118 = (oSet V a b c).1 → Q (vI (oSet V a b c).2) I' L R N n) : CA sc 2 0 0 mX10_set [vR 10 117, vI a, vI b, vI c] I L R N n Q := by
  refine ca_in (al := [_, _, _, _]) rfl ?_
  refine w_aload_n dX10_set_0 rfl ?_
  refine w_iload_n dX10_set_1 rfl ?_
  refine c_V (t := 10) (as := [_]) (d' := 1) dX10_set_2 mlX10_134 moX10_isRule mvX10_isRule ⟨rfl, rfl⟩ rfl rfl rfl rfl rfl (by decide) (sX10_isRule hs ?_)
  refine w_ifB_eq (tgt := 37) dX10_set_5 (by decide) (fun c5 => ?_) (fun c5 => ?_)
  · have ha : ¬ isR V a := by unfold isR; rw [← hI]; exact c5
    refine w_ldc dX10_set_37 kcX10_101 ?_
    refine w_ireturn dX10_set_39 rfl rfl ?_
    have e : oSet V a b c = (V, -1000000001) := cif_f (fun z => by first | exact ha z.1)
    rw [e] at hq
    exact hq I (fun _ _ => rfl) hI
  · have ha : isR V a := by unfold isR; rw [← hI]; exact c5
    obtain ⟨r, hr, rfl⟩ := isR_of hV ha
    have h8 := hV.2.1.2
    have hcl : (nI r).toNatClampNeg = r := nI_clamp (by omega)
    refine w_iload_n dX10_set_8 rfl ?_
    refine w_iconst dX10_set_9 ic_0 ?_
    refine w_iconst dX10_set_10 ic_2 ?_
    refine c_S (as := [_, _, _]) (d' := 0) dX10_set_11 (Or.inl mlX10_97) moX10_in msX10_in rfl rfl rfl rfl rfl (by decide) (sX10_in ?_)
    refine w_ifB_eq (tgt := 37) dX10_set_14 (by decide) (fun c14 => ?_) (fun c14 => ?_)
    · refine w_ldc dX10_set_37 kcX10_101 ?_
      refine w_ireturn dX10_set_39 rfl rfl ?_
      have e : oSet V (nI r) b c = (V, -1000000001) := cif_f (fun z => by first | exact c14 z.2.1)
      rw [e] at hq
      exact hq I (fun _ _ => rfl) hI
    · obtain ⟨q, hq3, rfl⟩ := in_of (m := 2) (by decide) c14
      refine w_iload_n dX10_set_17 rfl ?_
      refine w_iload_n dX10_set_18 rfl ?_
      refine c_S (as := [_, _]) (d' := 1) dX10_set_19 (Or.inl mlX10_127) moX10_isPart msX10_isPart rfl rfl rfl rfl rfl (by decide) (sX10_isPart ?_)
      refine w_top (y := bI (leastR q ≤ c ∧ c ≤ mostR q)) (by rw [leastR_e (by omega), mostR_e (by omega)]) ?_
      refine w_ifB_eq (tgt := 37) dX10_set_22 (by decide) (fun c22 => ?_) (fun c22 => ?_)
      · refine w_ldc dX10_set_37 kcX10_101 ?_
        refine w_ireturn dX10_set_39 rfl rfl ?_
        have e : oSet V (nI r) (nI q) c = (V, -1000000001) := cif_f (fun z => c22 (by have := z.2.2; rw [nI_clamp (by omega)] at this; exact this))
        rw [e] at hq
        exact hq I (fun _ _ => rfl) hI
      · have e : oSet V (nI r) (nI q) c = (va_up V (48 + 4 * r + (q + 1)) c, V (48 + 4 * r + (q + 1))) := by
          have hcq : (nI q).toNatClampNeg = q := nI_clamp (by omega)
          unfold oSet
          rw [hcl, hcq]
          exact cif_t ⟨isR_to hV hr, in_to (m := 2) (by decide) hq3, c22⟩
        rw [e] at hq
        refine w_aload_n dX10_set_25 rfl ?_
        refine w_iload_n dX10_set_26 rfl ?_
        refine w_iconst dX10_set_27 ic_1 ?_
        refine w_iload_n dX10_set_28 rfl ?_
        refine w_iadd dX10_set_29 ?_
        refine w_top (y := nI (q + 1)) (by show nI 1 + nI q = _; rw [nI_add, Nat.add_comm]) ?_
        refine w_iload_n dX10_set_30 rfl ?_
        refine c_V (t := 10) (as := [_, _, _]) (d' := 1) dX10_set_31 mlX10_144 moX10_becomes mvX10_becomes ⟨rfl, rfl⟩ rfl rfl rfl rfl rfl (by decide) (sX10_becomes (b := q + 1) hs (by omega) ?_)
        refine w_goto (tgt := 39) dX10_set_34 (by decide) ?_
        refine w_ireturn dX10_set_39 rfl rfl ?_
        rw [hI]
        exact hq _ (fun q h => va_up_ne _ _ h.1) (by rw [va_up_self])

set_option maxRecDepth 20000 in
theorem sX9_owes (hs : SK R N) {V : VV} (hV : VO V) (hC : WC I R N n 1 V) {a d : Int32} (hq : ∀ I' : HI, (∀ q, FC q → I' q = I q) → WC I' R N n 1 V → Q (vI (oOwes V a d)) I' L R N n) : CA sc 3 0 0 mX9_owes [vR 9 0, vI a, vI d] I L R N n Q := by
  refine ca_in (al := [_, _, _, _]) rfl ?_
  refine w_aload_n dX9_owes_0 rfl ?_
  refine w_getR dX9_owes_1 flX9_10 rfl (hs.r (a := 0) (j := 0) (b := 1) 0 rfl) ?_
  refine w_iload_n dX9_owes_4 rfl ?_
  by_cases ha : isR V a
  · obtain ⟨r, hr, rfl⟩ := isR_of hV ha
    have h8 := hV.2.1.2
    have hrl := hs.rules (Or.inl rfl) (show r < 8 by omega)
    have hru := hC.2.2.1 r hr
    have hcl : (nI r).toNatClampNeg = r := nI_clamp (by omega)
    refine c_V (t := 8) (as := [_]) (d' := 1) dX9_owes_5 mlX9_116 moX8_ruleAt mvX8_ruleAt ⟨rfl, rfl⟩ rfl rfl rfl rfl rfl (by decide) (sX8_ruleAtS hs (Or.inl rfl) (hC.1.2.1.trans hV.2.1.1) h8 hr ?_)
    refine w_astore_n (al' := [_, _, _, _]) dX9_owes_8 rfl rfl rfl ?_
    refine w_aload_n dX9_owes_9 rfl ?_
    refine w_ifnullR dX9_owes_10 ?_
    refine w_iload_n dX9_owes_13 rfl ?_
    refine c_S (as := [_]) (d' := 1) dX9_owes_14 (Or.inl mlX9_134) moX9_isDay msX9_isDay rfl rfl rfl rfl rfl (by decide) (sX9_isDay ?_)
    refine w_ifB_ne (tgt := 23) dX9_owes_17 (by decide) (fun c17 => ?_) (fun c17 => ?_)
    · obtain ⟨q, hq31, rfl⟩ := in_of (m := 30) (by decide) c17
      have e : oOwes V (nI r) (nI q) = owAt V r q := by unfold oOwes; rw [cif_t ⟨isR_to hV hr, in_to (m := 30) (by decide) hq31⟩, hcl, nI_clamp (by omega)]
      rw [e] at hq
      refine w_aload_n dX9_owes_23 rfl ?_
      refine w_getR dX9_owes_24 flX9_10 rfl (hs.r (a := 0) (j := 0) (b := 1) 0 rfl) ?_
      refine w_aload_n dX9_owes_27 rfl ?_
      refine w_iload_n dX9_owes_28 rfl ?_
      refine c_V (t := 8) (as := [_, _]) (d' := 2) dX9_owes_29 mlX9_137 moX8_owedBy mvX8_owedBy ⟨rfl, rfl⟩ rfl rfl rfl rfl rfl (by decide) (sX8_owedBy hs (Or.inl rfl) hV hC hrl.2.1 hrl.2.2 (rule_c hV hC hr) (by omega) (by omega) (fun I2 hI2 => ?_))
      refine w_ireturn dX9_owes_32 rfl rfl ?_
      rw [← ow_own hC hr] at hq
      exact hq I2 (fun z h => hI2 z (by unfold FC at h; omega)) (hC.keep hV (fun z hz => hI2 z (by unfold WA at hz; omega)))
    · refine w_ldc dX9_owes_20 kcX9_77 ?_
      refine w_ireturn dX9_owes_22 rfl rfl ?_
      have e : oOwes V (nI r) d = -1000000001 := cif_f (fun z => c17 z.2)
      rw [e] at hq
      exact hq I (fun _ _ => rfl) hC
  · refine c_V (t := 8) (as := [_]) (d' := 1) dX9_owes_5 mlX9_116 moX8_ruleAt mvX8_ruleAt ⟨rfl, rfl⟩ rfl rfl rfl rfl rfl (by decide) (sX8_ruleAtN hs (Or.inl rfl) (by rw [hC.1.2.1]; exact ha) ?_)
    refine w_astore_nN (al' := [_, _, _, _]) dX9_owes_8 rfl rfl rfl ?_
    refine w_aload_nN dX9_owes_9 rfl ?_
    refine w_ifnullN (tgt := 20) dX9_owes_10 (by decide) ?_
    refine w_ldc dX9_owes_20 kcX9_77 ?_
    refine w_ireturn dX9_owes_22 rfl rfl ?_
    have e : oOwes V a d = -1000000001 := cif_f (fun z => ha z.1)
    rw [e] at hq
    exact hq I (fun _ _ => rfl) hC

set_option maxRecDepth 20000 in
theorem sX10_owes (hs : SK R N) {V : VV} (hI : I 118 = V) (hV : VO V) {a d : Int32} (hq : ∀ I' : HI, (∀ q, FM q → I' q = I q) → I' 118 = V → Q (vI (oOwes V a d)) I' L R N n) : CA sc 3 0 0 mX10_owes [vR 10 117, vI a, vI d] I L R N n Q := by
  refine ca_in (al := [_, _, _]) rfl ?_
  refine w_aload_n dX10_owes_0 rfl ?_
  refine w_iload_n dX10_owes_1 rfl ?_
  refine c_V (t := 10) (as := [_]) (d' := 1) dX10_owes_2 mlX10_134 moX10_isRule mvX10_isRule ⟨rfl, rfl⟩ rfl rfl rfl rfl rfl (by decide) (sX10_isRule hs ?_)
  refine w_ifB_eq (tgt := 24) dX10_owes_5 (by decide) (fun c5 => ?_) (fun c5 => ?_)
  · have ha : ¬ isR V a := by unfold isR; rw [← hI]; exact c5
    refine w_ldc dX10_owes_24 kcX10_101 ?_
    refine w_ireturn dX10_owes_26 rfl rfl ?_
    have e : oOwes V a d = -1000000001 := cif_f (fun z => ha z.1)
    rw [e] at hq
    exact hq I (fun _ _ => rfl) hI
  · have ha : isR V a := by unfold isR; rw [← hI]; exact c5
    obtain ⟨r, hr, rfl⟩ := isR_of hV ha
    have h8 := hV.2.1.2
    have hcl : (nI r).toNatClampNeg = r := nI_clamp (by omega)
    refine w_iload_n dX10_owes_8 rfl ?_
    refine c_S (as := [_]) (d' := 1) dX10_owes_9 (Or.inl mlX10_156) moX10_isDay msX10_isDay rfl rfl rfl rfl rfl (by decide) (sX10_isDay ?_)
    refine w_ifB_eq (tgt := 24) dX10_owes_12 (by decide) (fun c12 => ?_) (fun c12 => ?_)
    · refine w_ldc dX10_owes_24 kcX10_101 ?_
      refine w_ireturn dX10_owes_26 rfl rfl ?_
      have e : oOwes V (nI r) d = -1000000001 := cif_f (fun z => c12 z.2)
      rw [e] at hq
      exact hq I (fun _ _ => rfl) hI
    · obtain ⟨q, hq31, rfl⟩ := in_of (m := 30) (by decide) c12
      have e : oOwes V (nI r) (nI q) = owAt V r q := by unfold oOwes; rw [cif_t ⟨isR_to hV hr, in_to (m := 30) (by decide) hq31⟩, hcl, nI_clamp (by omega)]
      rw [e] at hq
      refine w_aload_n dX10_owes_15 rfl ?_
      refine w_iload_n dX10_owes_16 rfl ?_
      refine w_iload_n dX10_owes_17 rfl ?_
      refine c_V (t := 10) (as := [_, _]) (d' := 2) dX10_owes_18 mlX10_159 moX10_owedBy mvX10_owedBy ⟨rfl, rfl⟩ rfl rfl rfl rfl rfl (by decide) (sX10_owedBy hs hI hV hr (fun I2 hI2 => ?_))
      refine w_goto (tgt := 26) dX10_owes_21 (by decide) ?_
      refine w_ireturn dX10_owes_26 rfl rfl ?_
      exact hq I2 (fun z h => hI2 z (by unfold FM at h; omega) (by unfold FM at h; omega)) ((hI2 118 (by decide) (by decide)).trans hI)

set_option maxRecDepth 20000 in
theorem sX9_force (hs : SK R N) {V : VV} (hV : VO V) (hC : WC I R N n 1 V) {x : Int32} (hq : ∀ I' : HI, (∀ q, FC q → I' q = I q) → WC I' R N n 1 (oForce V x).1 → Q (vI (oForce V x).2) I' L R N n) : CA sc 2 0 0 mX9_force [vR 9 0, vI x] I L R N n Q := by
  refine ca_in (al := [_, _, _]) rfl ?_
  refine w_iload_n dX9_force_0 rfl ?_
  refine w_ldc dX9_force_1 kcX9_141 ?_
  refine w_icmp_eq (tgt := 20) dX9_force_3 (by decide) (fun c3 => ?_) (fun c3 => ?_)
  · have hx : x = -1000000005 ∨ isR V x := Or.inl c3
    have e : oForce V x = (va_up V 3 (offN x), told (V 3)) := cif_t hx
    rw [e] at hq
    have hx0 : x = -1000000005 ∨ 0 ≤ x := hx.imp id (fun z => z.1)
    refine w_aload_n dX9_force_20 rfl ?_
    refine w_getR dX9_force_21 flX9_10 rfl (hs.r (a := 0) (j := 0) (b := 1) 0 rfl) ?_
    refine w_getI dX9_force_24 flX9_142 rfl ?_
    refine w_top (y := told (V 3)) (hC.1.2.2.1) ?_
    refine w_istore_n (al' := [_, _, _]) dX9_force_27 rfl rfl rfl ?_
    refine w_aload_n dX9_force_28 rfl ?_
    refine w_getR dX9_force_29 flX9_10 rfl (hs.r (a := 0) (j := 0) (b := 1) 0 rfl) ?_
    refine w_iload_n dX9_force_32 rfl ?_
    refine w_putI dX9_force_33 flX9_142 rfl rfl rfl rfl ?_
    refine w_iload_n dX9_force_36 rfl ?_
    refine w_ireturn dX9_force_37 rfl rfl ?_
    have hk := hC.fc hV (Or.inl rfl) (q := 3) (Or.inl rfl) (offN x)
    rw [told_off hx0] at hk
    exact hq _ (fun z h => va_up_ne _ _ (by unfold FC at h; omega)) hk
  · refine w_aload_n dX9_force_6 rfl ?_
    refine w_getR dX9_force_7 flX9_10 rfl (hs.r (a := 0) (j := 0) (b := 1) 0 rfl) ?_
    refine w_iload_n dX9_force_10 rfl ?_
    by_cases ha : isR V x
    · have hx : x = -1000000005 ∨ isR V x := Or.inr ha
      obtain ⟨r, hr, hxr⟩ := isR_of hV ha
      have h8 := hV.2.1.2
      rw [hxr]
      refine c_V (t := 8) (as := [_]) (d' := 1) dX9_force_11 mlX9_116 moX8_ruleAt mvX8_ruleAt ⟨rfl, rfl⟩ rfl rfl rfl rfl rfl (by decide) (sX8_ruleAtS hs (Or.inl rfl) (hC.1.2.1.trans hV.2.1.1) h8 hr ?_)
      refine w_ifnonnullR (tgt := 20) dX9_force_14 (by decide) ?_
      rw [← hxr]
      have e : oForce V x = (va_up V 3 (offN x), told (V 3)) := cif_t hx
      rw [e] at hq
      have hx0 : x = -1000000005 ∨ 0 ≤ x := hx.imp id (fun z => z.1)
      refine w_aload_n dX9_force_20 rfl ?_
      refine w_getR dX9_force_21 flX9_10 rfl (hs.r (a := 0) (j := 0) (b := 1) 0 rfl) ?_
      refine w_getI dX9_force_24 flX9_142 rfl ?_
      refine w_top (y := told (V 3)) (hC.1.2.2.1) ?_
      refine w_istore_n (al' := [_, _, _]) dX9_force_27 rfl rfl rfl ?_
      refine w_aload_n dX9_force_28 rfl ?_
      refine w_getR dX9_force_29 flX9_10 rfl (hs.r (a := 0) (j := 0) (b := 1) 0 rfl) ?_
      refine w_iload_n dX9_force_32 rfl ?_
      refine w_putI dX9_force_33 flX9_142 rfl rfl rfl rfl ?_
      refine w_iload_n dX9_force_36 rfl ?_
      refine w_ireturn dX9_force_37 rfl rfl ?_
      have hk := hC.fc hV (Or.inl rfl) (q := 3) (Or.inl rfl) (offN x)
      rw [told_off hx0] at hk
      exact hq _ (fun z h => va_up_ne _ _ (by unfold FC at h; omega)) hk
    · refine c_V (t := 8) (as := [_]) (d' := 1) dX9_force_11 mlX9_116 moX8_ruleAt mvX8_ruleAt ⟨rfl, rfl⟩ rfl rfl rfl rfl rfl (by decide) (sX8_ruleAtN hs (Or.inl rfl) (by rw [hC.1.2.1]; exact ha) ?_)
      refine w_ifnonnullN dX9_force_14 ?_
      refine w_ldc dX9_force_17 kcX9_77 ?_
      refine w_ireturn dX9_force_19 rfl rfl ?_
      have e : oForce V x = (V, -1000000001) := cif_f (fun z => z.elim c3 ha)
      rw [e] at hq
      exact hq I (fun _ _ => rfl) hC

set_option maxRecDepth 20000 in
theorem sX9_card (hs : SK R N) {V : VV} (hV : VO V) (hC : WC I R N n 1 V) {x : Int32} (hq : ∀ I' : HI, (∀ q, FC q → I' q = I q) → WC I' R N n 1 (oCard V x).1 → Q (vI (oCard V x).2) I' L R N n) : CA sc 2 0 0 mX9_card [vR 9 0, vI x] I L R N n Q := by
  refine ca_in (al := [_, _, _]) rfl ?_
  refine w_iload_n dX9_card_0 rfl ?_
  refine w_ldc dX9_card_1 kcX9_141 ?_
  refine w_icmp_eq (tgt := 16) dX9_card_3 (by decide) (fun c3 => ?_) (fun c3 => ?_)
  · have hx : x = -1000000005 ∨ (0 ≤ x ∧ x ≤ 30) := Or.inl c3
    have e : oCard V x = (va_up V 4 (offN x), told (V 4)) := cif_t hx
    rw [e] at hq
    have hx0 : x = -1000000005 ∨ 0 ≤ x := hx.imp id (fun z => z.1)
    refine w_aload_n dX9_card_16 rfl ?_
    refine w_getR dX9_card_17 flX9_10 rfl (hs.r (a := 0) (j := 0) (b := 1) 0 rfl) ?_
    refine w_getI dX9_card_20 flX9_145 rfl ?_
    refine w_top (y := told (V 4)) (hC.1.2.2.2.1) ?_
    refine w_istore_n (al' := [_, _, _]) dX9_card_23 rfl rfl rfl ?_
    refine w_aload_n dX9_card_24 rfl ?_
    refine w_getR dX9_card_25 flX9_10 rfl (hs.r (a := 0) (j := 0) (b := 1) 0 rfl) ?_
    refine w_iload_n dX9_card_28 rfl ?_
    refine w_putI dX9_card_29 flX9_145 rfl rfl rfl rfl ?_
    refine w_iload_n dX9_card_32 rfl ?_
    refine w_ireturn dX9_card_33 rfl rfl ?_
    have hk := hC.fc hV (Or.inl rfl) (q := 4) (Or.inr rfl) (offN x)
    rw [told_off hx0] at hk
    exact hq _ (fun z h => va_up_ne _ _ (by unfold FC at h; omega)) hk
  · refine w_iload_n dX9_card_6 rfl ?_
    refine c_S (as := [_]) (d' := 1) dX9_card_7 (Or.inl mlX9_134) moX9_isDay msX9_isDay rfl rfl rfl rfl rfl (by decide) (sX9_isDay ?_)
    refine w_ifB_ne (tgt := 16) dX9_card_10 (by decide) (fun c10 => ?_) (fun c10 => ?_)
    · have hx : x = -1000000005 ∨ (0 ≤ x ∧ x ≤ 30) := Or.inr c10
      have e : oCard V x = (va_up V 4 (offN x), told (V 4)) := cif_t hx
      rw [e] at hq
      have hx0 : x = -1000000005 ∨ 0 ≤ x := hx.imp id (fun z => z.1)
      refine w_aload_n dX9_card_16 rfl ?_
      refine w_getR dX9_card_17 flX9_10 rfl (hs.r (a := 0) (j := 0) (b := 1) 0 rfl) ?_
      refine w_getI dX9_card_20 flX9_145 rfl ?_
      refine w_top (y := told (V 4)) (hC.1.2.2.2.1) ?_
      refine w_istore_n (al' := [_, _, _]) dX9_card_23 rfl rfl rfl ?_
      refine w_aload_n dX9_card_24 rfl ?_
      refine w_getR dX9_card_25 flX9_10 rfl (hs.r (a := 0) (j := 0) (b := 1) 0 rfl) ?_
      refine w_iload_n dX9_card_28 rfl ?_
      refine w_putI dX9_card_29 flX9_145 rfl rfl rfl rfl ?_
      refine w_iload_n dX9_card_32 rfl ?_
      refine w_ireturn dX9_card_33 rfl rfl ?_
      have hk := hC.fc hV (Or.inl rfl) (q := 4) (Or.inr rfl) (offN x)
      rw [told_off hx0] at hk
      exact hq _ (fun z h => va_up_ne _ _ (by unfold FC at h; omega)) hk
    · refine w_ldc dX9_card_13 kcX9_77 ?_
      refine w_ireturn dX9_card_15 rfl rfl ?_
      have e : oCard V x = (V, -1000000001) := cif_f (fun z => z.elim c3 c10)
      rw [e] at hq
      exact hq I (fun _ _ => rfl) hC

set_option maxRecDepth 20000 in
theorem sX10_force (hs : SK R N) {V : VV} (hI : I 118 = V) (hV : VO V) {x : Int32} (hq : ∀ I' : HI, (∀ q, FM q → I' q = I q) → I' 118 = (oForce V x).1 → Q (vI (oForce V x).2) I' L R N n) : CA sc 2 0 0 mX10_force [vR 10 117, vI x] I L R N n Q := by
  refine ca_in (al := [_, _, _]) rfl ?_
  refine w_iload_n dX10_force_0 rfl ?_
  refine w_ldc dX10_force_1 kcX10_96 ?_
  refine w_icmp_eq (tgt := 17) dX10_force_3 (by decide) (fun c3 => ?_) (fun c3 => ?_)
  · have hx : x = -1000000005 ∨ isR V x := Or.inl c3
    have e : oForce V x = (va_up V 3 (offN x), told (V 3)) := cif_t hx
    rw [e] at hq
    refine w_aload_n dX10_force_17 rfl ?_
    refine w_getR dX10_force_18 flX10_9 rfl (hs.r (a := 117) (j := 0) (b := 118) 116 rfl) ?_
    refine w_iconst dX10_force_21 ic_3 ?_
    refine w_iald (q := 3) dX10_force_22 rfl (hs.n (a := 118) (z := 1452) 72 rfl) (by decide) ?_
    refine w_top (y := V 3) (congrFun hI 3) ?_
    refine w_istore_n (al' := [_, _, _]) dX10_force_23 rfl rfl rfl ?_
    refine w_aload_n dX10_force_24 rfl ?_
    refine w_getR dX10_force_25 flX10_9 rfl (hs.r (a := 117) (j := 0) (b := 118) 116 rfl) ?_
    refine w_iconst dX10_force_28 ic_3 ?_
    refine w_iload_n dX10_force_29 rfl ?_
    refine w_ldc dX10_force_30 kcX10_96 ?_
    refine w_icmp_ne (tgt := 39) dX10_force_32 (by decide) (fun c32 => ?_) (fun c32 => ?_)
    · refine w_iload_n dX10_force_39 rfl ?_
      refine w_top (y := offN x) ((if_neg c32).symm) ?_
      refine w_iast (q := 3) dX10_force_40 rfl (hs.n (a := 118) (z := 1452) 72 rfl) (by decide) ?_
      refine w_iload_n dX10_force_41 rfl ?_
      refine c_S (as := [_]) (d' := 0) dX10_force_42 (Or.inl mlX10_162) moX10_told0 msX10_told0 rfl rfl rfl rfl rfl (by decide) (sX10_told0 ?_)
      refine w_ireturn dX10_force_45 rfl rfl ?_
      exact hq _ (fun q h => va_up_ne _ _ h.1) (by rw [va_up_self, hI])
    · refine w_iconst dX10_force_35 ic_m1 ?_
      refine w_top (y := offN x) ((if_pos c32).symm) ?_
      refine w_goto (tgt := 40) dX10_force_36 (by decide) ?_
      refine w_iast (q := 3) dX10_force_40 rfl (hs.n (a := 118) (z := 1452) 72 rfl) (by decide) ?_
      refine w_iload_n dX10_force_41 rfl ?_
      refine c_S (as := [_]) (d' := 0) dX10_force_42 (Or.inl mlX10_162) moX10_told0 msX10_told0 rfl rfl rfl rfl rfl (by decide) (sX10_told0 ?_)
      refine w_ireturn dX10_force_45 rfl rfl ?_
      exact hq _ (fun q h => va_up_ne _ _ h.1) (by rw [va_up_self, hI])
  · refine w_aload_n dX10_force_6 rfl ?_
    refine w_iload_n dX10_force_7 rfl ?_
    refine c_V (t := 10) (as := [_]) (d' := 1) dX10_force_8 mlX10_134 moX10_isRule mvX10_isRule ⟨rfl, rfl⟩ rfl rfl rfl rfl rfl (by decide) (sX10_isRule hs ?_)
    refine w_ifB_ne (tgt := 17) dX10_force_11 (by decide) (fun c11 => ?_) (fun c11 => ?_)
    · have hx : x = -1000000005 ∨ isR V x := Or.inr (by unfold isR; rw [← hI]; exact c11)
      have e : oForce V x = (va_up V 3 (offN x), told (V 3)) := cif_t hx
      rw [e] at hq
      refine w_aload_n dX10_force_17 rfl ?_
      refine w_getR dX10_force_18 flX10_9 rfl (hs.r (a := 117) (j := 0) (b := 118) 116 rfl) ?_
      refine w_iconst dX10_force_21 ic_3 ?_
      refine w_iald (q := 3) dX10_force_22 rfl (hs.n (a := 118) (z := 1452) 72 rfl) (by decide) ?_
      refine w_top (y := V 3) (congrFun hI 3) ?_
      refine w_istore_n (al' := [_, _, _]) dX10_force_23 rfl rfl rfl ?_
      refine w_aload_n dX10_force_24 rfl ?_
      refine w_getR dX10_force_25 flX10_9 rfl (hs.r (a := 117) (j := 0) (b := 118) 116 rfl) ?_
      refine w_iconst dX10_force_28 ic_3 ?_
      refine w_iload_n dX10_force_29 rfl ?_
      refine w_ldc dX10_force_30 kcX10_96 ?_
      refine w_icmp_ne (tgt := 39) dX10_force_32 (by decide) (fun c32 => ?_) (fun c32 => ?_)
      · refine w_iload_n dX10_force_39 rfl ?_
        refine w_top (y := offN x) ((if_neg c32).symm) ?_
        refine w_iast (q := 3) dX10_force_40 rfl (hs.n (a := 118) (z := 1452) 72 rfl) (by decide) ?_
        refine w_iload_n dX10_force_41 rfl ?_
        refine c_S (as := [_]) (d' := 0) dX10_force_42 (Or.inl mlX10_162) moX10_told0 msX10_told0 rfl rfl rfl rfl rfl (by decide) (sX10_told0 ?_)
        refine w_ireturn dX10_force_45 rfl rfl ?_
        exact hq _ (fun q h => va_up_ne _ _ h.1) (by rw [va_up_self, hI])
      · refine w_iconst dX10_force_35 ic_m1 ?_
        refine w_top (y := offN x) ((if_pos c32).symm) ?_
        refine w_goto (tgt := 40) dX10_force_36 (by decide) ?_
        refine w_iast (q := 3) dX10_force_40 rfl (hs.n (a := 118) (z := 1452) 72 rfl) (by decide) ?_
        refine w_iload_n dX10_force_41 rfl ?_
        refine c_S (as := [_]) (d' := 0) dX10_force_42 (Or.inl mlX10_162) moX10_told0 msX10_told0 rfl rfl rfl rfl rfl (by decide) (sX10_told0 ?_)
        refine w_ireturn dX10_force_45 rfl rfl ?_
        exact hq _ (fun q h => va_up_ne _ _ h.1) (by rw [va_up_self, hI])
    · refine w_ldc dX10_force_14 kcX10_101 ?_
      refine w_ireturn dX10_force_16 rfl rfl ?_
      have e : oForce V x = (V, -1000000001) := cif_f (fun z => z.elim c3 (fun y => c11 (by unfold isR at y; rw [← hI] at y; exact y)))
      rw [e] at hq
      exact hq I (fun _ _ => rfl) hI

set_option maxRecDepth 20000 in
theorem sX10_card (hs : SK R N) {V : VV} (hI : I 118 = V) (hV : VO V) {x : Int32} (hq : ∀ I' : HI, (∀ q, FM q → I' q = I q) → I' 118 = (oCard V x).1 → Q (vI (oCard V x).2) I' L R N n) : CA sc 2 0 0 mX10_card [vR 10 117, vI x] I L R N n Q := by
  refine ca_in (al := [_, _, _]) rfl ?_
  refine w_iload_n dX10_card_0 rfl ?_
  refine w_ldc dX10_card_1 kcX10_96 ?_
  refine w_icmp_eq (tgt := 16) dX10_card_3 (by decide) (fun c3 => ?_) (fun c3 => ?_)
  · have hx : x = -1000000005 ∨ (0 ≤ x ∧ x ≤ 30) := Or.inl c3
    have e : oCard V x = (va_up V 4 (offN x), told (V 4)) := cif_t hx
    rw [e] at hq
    refine w_aload_n dX10_card_16 rfl ?_
    refine w_getR dX10_card_17 flX10_9 rfl (hs.r (a := 117) (j := 0) (b := 118) 116 rfl) ?_
    refine w_iconst dX10_card_20 ic_4 ?_
    refine w_iald (q := 4) dX10_card_21 rfl (hs.n (a := 118) (z := 1452) 72 rfl) (by decide) ?_
    refine w_top (y := V 4) (congrFun hI 4) ?_
    refine w_istore_n (al' := [_, _, _]) dX10_card_22 rfl rfl rfl ?_
    refine w_aload_n dX10_card_23 rfl ?_
    refine w_getR dX10_card_24 flX10_9 rfl (hs.r (a := 117) (j := 0) (b := 118) 116 rfl) ?_
    refine w_iconst dX10_card_27 ic_4 ?_
    refine w_iload_n dX10_card_28 rfl ?_
    refine w_ldc dX10_card_29 kcX10_96 ?_
    refine w_icmp_ne (tgt := 38) dX10_card_31 (by decide) (fun c31 => ?_) (fun c31 => ?_)
    · refine w_iload_n dX10_card_38 rfl ?_
      refine w_top (y := offN x) ((if_neg c31).symm) ?_
      refine w_iast (q := 4) dX10_card_39 rfl (hs.n (a := 118) (z := 1452) 72 rfl) (by decide) ?_
      refine w_iload_n dX10_card_40 rfl ?_
      refine c_S (as := [_]) (d' := 0) dX10_card_41 (Or.inl mlX10_162) moX10_told0 msX10_told0 rfl rfl rfl rfl rfl (by decide) (sX10_told0 ?_)
      refine w_ireturn dX10_card_44 rfl rfl ?_
      exact hq _ (fun q h => va_up_ne _ _ h.1) (by rw [va_up_self, hI])
    · refine w_iconst dX10_card_34 ic_m1 ?_
      refine w_top (y := offN x) ((if_pos c31).symm) ?_
      refine w_goto (tgt := 39) dX10_card_35 (by decide) ?_
      refine w_iast (q := 4) dX10_card_39 rfl (hs.n (a := 118) (z := 1452) 72 rfl) (by decide) ?_
      refine w_iload_n dX10_card_40 rfl ?_
      refine c_S (as := [_]) (d' := 0) dX10_card_41 (Or.inl mlX10_162) moX10_told0 msX10_told0 rfl rfl rfl rfl rfl (by decide) (sX10_told0 ?_)
      refine w_ireturn dX10_card_44 rfl rfl ?_
      exact hq _ (fun q h => va_up_ne _ _ h.1) (by rw [va_up_self, hI])
  · refine w_iload_n dX10_card_6 rfl ?_
    refine c_S (as := [_]) (d' := 1) dX10_card_7 (Or.inl mlX10_156) moX10_isDay msX10_isDay rfl rfl rfl rfl rfl (by decide) (sX10_isDay ?_)
    refine w_ifB_ne (tgt := 16) dX10_card_10 (by decide) (fun c10 => ?_) (fun c10 => ?_)
    · have hx : x = -1000000005 ∨ (0 ≤ x ∧ x ≤ 30) := Or.inr c10
      have e : oCard V x = (va_up V 4 (offN x), told (V 4)) := cif_t hx
      rw [e] at hq
      refine w_aload_n dX10_card_16 rfl ?_
      refine w_getR dX10_card_17 flX10_9 rfl (hs.r (a := 117) (j := 0) (b := 118) 116 rfl) ?_
      refine w_iconst dX10_card_20 ic_4 ?_
      refine w_iald (q := 4) dX10_card_21 rfl (hs.n (a := 118) (z := 1452) 72 rfl) (by decide) ?_
      refine w_top (y := V 4) (congrFun hI 4) ?_
      refine w_istore_n (al' := [_, _, _]) dX10_card_22 rfl rfl rfl ?_
      refine w_aload_n dX10_card_23 rfl ?_
      refine w_getR dX10_card_24 flX10_9 rfl (hs.r (a := 117) (j := 0) (b := 118) 116 rfl) ?_
      refine w_iconst dX10_card_27 ic_4 ?_
      refine w_iload_n dX10_card_28 rfl ?_
      refine w_ldc dX10_card_29 kcX10_96 ?_
      refine w_icmp_ne (tgt := 38) dX10_card_31 (by decide) (fun c31 => ?_) (fun c31 => ?_)
      · refine w_iload_n dX10_card_38 rfl ?_
        refine w_top (y := offN x) ((if_neg c31).symm) ?_
        refine w_iast (q := 4) dX10_card_39 rfl (hs.n (a := 118) (z := 1452) 72 rfl) (by decide) ?_
        refine w_iload_n dX10_card_40 rfl ?_
        refine c_S (as := [_]) (d' := 0) dX10_card_41 (Or.inl mlX10_162) moX10_told0 msX10_told0 rfl rfl rfl rfl rfl (by decide) (sX10_told0 ?_)
        refine w_ireturn dX10_card_44 rfl rfl ?_
        exact hq _ (fun q h => va_up_ne _ _ h.1) (by rw [va_up_self, hI])
      · refine w_iconst dX10_card_34 ic_m1 ?_
        refine w_top (y := offN x) ((if_pos c31).symm) ?_
        refine w_goto (tgt := 39) dX10_card_35 (by decide) ?_
        refine w_iast (q := 4) dX10_card_39 rfl (hs.n (a := 118) (z := 1452) 72 rfl) (by decide) ?_
        refine w_iload_n dX10_card_40 rfl ?_
        refine c_S (as := [_]) (d' := 0) dX10_card_41 (Or.inl mlX10_162) moX10_told0 msX10_told0 rfl rfl rfl rfl rfl (by decide) (sX10_told0 ?_)
        refine w_ireturn dX10_card_44 rfl rfl ?_
        exact hq _ (fun q h => va_up_ne _ _ h.1) (by rw [va_up_self, hI])
    · refine w_ldc dX10_card_13 kcX10_101 ?_
      refine w_ireturn dX10_card_15 rfl rfl ?_
      have e : oCard V x = (V, -1000000001) := cif_f (fun z => z.elim c3 c10)
      rw [e] at hq
      exact hq I (fun _ _ => rfl) hI

set_option maxRecDepth 20000 in
theorem sX9_seed (hs : SK R N) {V : VV} (hV : VO V) (hC : WC I R N n 1 V) {x : Int32} (hq : ∀ I' : HI, (∀ q, FC q → I' q = I q) → WC I' R N n 1 (va_up V 0 x) → Q (vI (V 0)) I' L R N n) : CA sc 0 0 0 mX9_seed [vR 9 0, vI x] I L R N n Q := by
  refine ca_in (al := [_, _, _]) rfl ?_
  refine w_aload_n dX9_seed_0 rfl ?_
  refine w_getR dX9_seed_1 flX9_10 rfl (hs.r (a := 0) (j := 0) (b := 1) 0 rfl) ?_
  refine w_getR dX9_seed_4 flX9_158 rfl (hs.r (a := 1) (j := 9) (b := 12) 13 rfl) ?_
  refine w_getI dX9_seed_7 flX9_172 rfl ?_
  refine w_top (y := V 0) (hC.1.2.2.2.2.2) ?_
  refine w_istore_n (al' := [_, _, _]) dX9_seed_10 rfl rfl rfl ?_
  refine w_aload_n dX9_seed_11 rfl ?_
  refine w_getR dX9_seed_12 flX9_10 rfl (hs.r (a := 0) (j := 0) (b := 1) 0 rfl) ?_
  refine w_getR dX9_seed_15 flX9_158 rfl (hs.r (a := 1) (j := 9) (b := 12) 13 rfl) ?_
  refine w_iload_n dX9_seed_18 rfl ?_
  refine w_putI dX9_seed_19 flX9_172 rfl rfl rfl rfl ?_
  refine w_iload_n dX9_seed_22 rfl ?_
  refine w_ireturn dX9_seed_23 rfl rfl ?_
  exact hq _ (fun z h => va_up_ne _ _ (by unfold FC at h; omega)) (hC.dice hV (Or.inl rfl) x)

set_option maxRecDepth 20000 in
theorem sX10_seed (hs : SK R N) {V : VV} (hI : I 118 = V) (hV : VO V) {x : Int32} (hq : ∀ I' : HI, (∀ q, FM q → I' q = I q) → I' 118 = va_up V 0 x → Q (vI (V 0)) I' L R N n) : CA sc 0 0 0 mX10_seed [vR 10 117, vI x] I L R N n Q := by
  refine ca_in (al := [_, _, _]) rfl ?_
  refine w_aload_n dX10_seed_0 rfl ?_
  refine w_getR dX10_seed_1 flX10_9 rfl (hs.r (a := 117) (j := 0) (b := 118) 116 rfl) ?_
  refine w_iconst dX10_seed_4 ic_0 ?_
  refine w_iald (q := 0) dX10_seed_5 rfl (hs.n (a := 118) (z := 1452) 72 rfl) (by decide) ?_
  refine w_top (y := V 0) (congrFun hI 0) ?_
  refine w_istore_n (al' := [_, _, _]) dX10_seed_6 rfl rfl rfl ?_
  refine w_aload_n dX10_seed_7 rfl ?_
  refine w_getR dX10_seed_8 flX10_9 rfl (hs.r (a := 117) (j := 0) (b := 118) 116 rfl) ?_
  refine w_iconst dX10_seed_11 ic_0 ?_
  refine w_iload_n dX10_seed_12 rfl ?_
  refine w_iast (q := 0) dX10_seed_13 rfl (hs.n (a := 118) (z := 1452) 72 rfl) (by decide) ?_
  refine w_iload_n dX10_seed_14 rfl ?_
  refine w_ireturn dX10_seed_15 rfl rfl ?_
  exact hq _ (fun q h => va_up_ne _ _ h.1) (by rw [va_up_self, hI])

set_option maxRecDepth 20000 in
theorem sX9_why (hs : SK R N) {V : VV} (hV : VO V) (hC : WC I R N n 1 V) {k : Int32} (hq : Q (vI (oWhy V k)) I L R N n) : CA sc 1 0 0 mX9_why [vR 9 0, vI k] I L R N n Q := by
  refine ca_in (al := [_, _]) rfl ?_
  refine w_iload_n dX9_why_0 rfl ?_
  refine w_iconst dX9_why_1 ic_0 ?_
  refine w_iconst dX9_why_2 ic_2 ?_
  refine c_S (as := [_, _, _]) (d' := 0) dX9_why_3 (Or.inl mlX9_86) moX9_within msX9_within rfl rfl rfl rfl rfl (by decide) (sX9_within ?_)
  refine w_ifB_eq (tgt := 21) dX9_why_6 (by decide) (fun c6 => ?_) (fun c6 => ?_)
  · refine w_ldc dX9_why_21 kcX9_77 ?_
    refine w_ireturn dX9_why_23 rfl rfl ?_
    refine q_e (cif_f (fun z => by first | exact c6 z)) hq
  · obtain ⟨q, hq3, rfl⟩ := in_of (m := 2) (by decide) c6
    have e : oWhy V (nI q) = cntI V q := by unfold oWhy; rw [cif_t c6, nI_clamp (by omega)]
    rw [e] at hq
    refine w_aload_n dX9_why_9 rfl ?_
    refine w_getR dX9_why_10 flX9_10 rfl (hs.r (a := 0) (j := 0) (b := 1) 0 rfl) ?_
    refine w_getR dX9_why_13 flX9_259 rfl (hs.r (a := 1) (j := 8) (b := 11) 12 rfl) ?_
    refine w_iload_n dX9_why_16 rfl ?_
    refine w_iald dX9_why_17 rfl (hs.n (a := 11) (z := 3) 9 rfl) (by omega) ?_
    refine w_top (y := cntI V q) (hC.2.2.2.1 q (by omega)) ?_
    refine w_goto (tgt := 23) dX9_why_18 (by decide) ?_
    refine w_ireturn dX9_why_23 rfl rfl ?_
    exact hq

theorem cntM_I {V : VV} (hV : VO V) (key : Nat) : (if cntM V key < 0 then (-1000000005 : Int32) else cntM V key) = cntI V key := by
  unfold cntM cntI cntV
  cases h : lastT V key (nTx V) with
  | none => rfl
  | some t =>
    have := (lastT_lt h).1
    have := hV.2.2.1.2
    exact if_neg (nI_pos (by omega))
set_option maxRecDepth 20000 in
theorem sX10_why (hs : SK R N) {V : VV} (hI : I 118 = V) (hV : VO V) {k : Int32} (hq : Q (vI (oWhy V k)) I L R N n) : CA sc 1 0 0 mX10_why [vR 10 117, vI k] I L R N n Q := by
  refine ca_in (al := [_, _, _]) rfl ?_
  refine w_iload_n dX10_why_0 rfl ?_
  refine w_iconst dX10_why_1 ic_0 ?_
  refine w_iconst dX10_why_2 ic_2 ?_
  refine c_S (as := [_, _, _]) (d' := 0) dX10_why_3 (Or.inl mlX10_97) moX10_in msX10_in rfl rfl rfl rfl rfl (by decide) (sX10_in ?_)
  refine w_ifB_ne (tgt := 12) dX10_why_6 (by decide) (fun c6 => ?_) (fun c6 => ?_)
  · obtain ⟨q, hq3, rfl⟩ := in_of (m := 2) (by decide) c6
    have e : oWhy V (nI q) = cntI V q := by unfold oWhy; rw [cif_t c6, nI_clamp (by omega)]
    rw [e] at hq
    rw [← cntM_I hV q] at hq
    refine w_aload_n dX10_why_12 rfl ?_
    refine w_iload_n dX10_why_13 rfl ?_
    refine c_V (t := 10) (as := [_]) (d' := 0) dX10_why_14 mlX10_147 moX10_counts mvX10_counts ⟨rfl, rfl⟩ rfl rfl rfl rfl rfl (by decide) (sX10_counts hs hI hV.2.2.1 ?_)
    refine w_istore_n (al' := [_, _, _]) dX10_why_17 rfl rfl rfl ?_
    refine w_iload_n dX10_why_18 rfl ?_
    refine w_if_ge (tgt := 27) dX10_why_19 (by decide) (fun c19 => ?_) (fun c19 => ?_)
    · rw [if_neg (Int32.not_lt.mpr c19)] at hq
      refine w_iload_n dX10_why_27 rfl ?_
      refine w_ireturn dX10_why_28 rfl rfl ?_
      exact hq
    · rw [if_pos (Int32.not_le.mp c19)] at hq
      refine w_ldc dX10_why_22 kcX10_96 ?_
      refine w_goto (tgt := 28) dX10_why_24 (by decide) ?_
      refine w_ireturn dX10_why_28 rfl rfl ?_
      exact hq
  · refine w_ldc dX10_why_9 kcX10_101 ?_
    refine w_ireturn dX10_why_11 rfl rfl ?_
    refine q_e (cif_f (fun z => by first | exact c6 z)) hq

end
