/-- the class's parser, reading: tape, code, leaves, key; and once it has refused -/
def PCl (I : HI) (T : VV) (z key : Nat) (t : TKN) (c : List Int32) (a : Nat) : Prop := TC I T z t ∧ I 77 2 = nI c.length ∧ I 77 3 = nI a ∧ I 77 4 = nI key ∧ I 77 5 = -1000000005 ∧ SR (I 80) (c.map cSym)
def PDd (I : HI) (z f : Nat) : Prop := I 78 1 = nI z ∧ I 78 2 = -1 ∧ I 77 5 = nI f ∧ ∃ q, q ≤ 96 ∧ I 77 2 = nI q
def FRP (I I' : HI) : Prop := ∀ q, q ≠ 77 → q ≠ 78 → q ≠ 80 → I' q = I q
theorem FRP.trans {I I' I'' : HI} (h : FRP I I') (h' : FRP I' I'') : FRP I I'' := fun q a b c => (h' q a b c).trans (h q a b c)
theorem FRP.of78 {I I' : HI} (h : ∀ q, q ≠ 78 → I' q = I q) : FRP I I' := fun q _ b _ => h q b
theorem FRP.of7780 {I I' : HI} (h : ∀ q, q ≠ 77 → q ≠ 80 → I' q = I q) : FRP I I' := fun q a _ c => h q a c
theorem FRP.of7778 {I I' : HI} (h : ∀ q, q ≠ 77 → q ≠ 78 → I' q = I q) : FRP I I' := fun q a b _ => h q a b
theorem PCl.adv {I I' : HI} {T : VV} {z key : Nat} {t t' : TKN} {c : List Int32} {a : Nat} (h : PCl I T z key t c a) (hA : ∀ q, q ≠ 78 → I' q = I q) (hT : TC I' T z t') : PCl I' T z key t' c a := by
  obtain ⟨-, h2, h3, h4, h5, h6⟩ := h
  exact ⟨hT, by rw [hA 77 (by decide)]; exact h2, by rw [hA 77 (by decide)]; exact h3, by rw [hA 77 (by decide)]; exact h4, by rw [hA 77 (by decide)]; exact h5, by rw [hA 80 (by decide)]; exact h6⟩
theorem TC.keep {I I' : HI} {T : VV} {z : Nat} {t : TKN} (h : TC I T z t) (h78 : I' 78 = I 78) (h79 : I' 79 = I 79) : TC I' T z t := by
  unfold TC
  rw [h78, h79]
  exact h
theorem SR_add {S : Nat → Int32} {c : List Int32} {x y : Int32} (h : SR S (c.map cSym)) (e : cSym x = y) : SR (va_up S c.length y) ((x :: c).map cSym) := by
  have := SR_push y h
  rw [List.length_map] at this
  rw [List.map_cons, e]
  exact this
theorem PCl.add {I I' : HI} {T : VV} {z key : Nat} {t : TKN} {c : List Int32} {a : Nat} {x y : Int32} (h : PCl I T z key t c a) (e : cSym x = y) (hA : ∀ q, q ≠ 77 → q ≠ 80 → I' q = I q) (hB : ∀ j, j ≠ 2 → I' 77 j = I 77 j) (hC : I' 77 2 = nI (c.length + 1) ∧ I' 80 = va_up (I 80) c.length y) : PCl I' T z key t (x :: c) a := by
  obtain ⟨h1, h2, h3, h4, h5, h6⟩ := h
  exact ⟨h1.keep (hA 78 (by decide) (by decide)) (hA 79 (by decide) (by decide)), hC.1, by rw [hB 3 (by decide)]; exact h3, by rw [hB 4 (by decide)]; exact h4, by rw [hB 5 (by decide)]; exact h5, by rw [hC.2]; exact SR_add h6 e⟩
theorem PDd.add {I I' : HI} {z f : Nat} (h : PDd I z f) (hA : ∀ q, q ≠ 77 → q ≠ 80 → I' q = I q) (hB : ∀ j, j ≠ 2 → I' 77 j = I 77 j) (hq : ∃ q, q ≤ 96 ∧ I' 77 2 = nI q) : PDd I' z f :=
  ⟨by rw [hA 78 (by decide) (by decide)]; exact h.1, by rw [hA 78 (by decide) (by decide)]; exact h.2.1, by rw [hB 5 (by decide)]; exact h.2.2.1, hq⟩
section
variable {sc : SC} {I : HI} {L : HL} {R : HR} {N : HN} {n : Nat} {Q : HQ}
set_option maxRecDepth 20000 in
theorem sX1_levelOf {v : Int32} (hq : Q (vI (if lvB v ≤ 4 then nI (lvB v) else -1000000005)) I L R N n) : CA sc 0 0 0 mX1_levelOf [vI v] I L R N n Q := by
  refine ca_in (al := [_]) rfl ?_
  refine w_iload_n dX1_levelOf_0 rfl ?_
  by_cases w1_38 : v = 38
  · refine w_lookup (tgt := 86) dX1_levelOf_1 rfl (by rw [w1_38]; try rfl) (by decide) ?_
    refine w_iconst dX1_levelOf_86 ic_1 ?_
    refine w_ireturn dX1_levelOf_87 rfl rfl ?_
    refine q_e ?_ hq
    first | (subst w1_38; decide) | (subst w1_42; decide) | (subst w1_43; decide) | (subst w1_45; decide) | (subst w1_47; decide) | (subst w1_60; decide) | (subst w1_61; decide) | (subst w1_62; decide) | (subst w1_124; decide) | (have h9 : ¬ lvB v ≤ 4 := fun q => (by rcases lv_9 q with e | e | e | e | e | e | e | e | e <;> exact absurd e (by assumption)); rw [if_neg h9])
  by_cases w1_42 : v = 42
  · refine w_lookup (tgt := 92) dX1_levelOf_1 rfl (by rw [w1_42]; try rfl) (by decide) ?_
    refine w_iconst dX1_levelOf_92 ic_4 ?_
    refine w_ireturn dX1_levelOf_93 rfl rfl ?_
    refine q_e ?_ hq
    first | (subst w1_38; decide) | (subst w1_42; decide) | (subst w1_43; decide) | (subst w1_45; decide) | (subst w1_47; decide) | (subst w1_60; decide) | (subst w1_61; decide) | (subst w1_62; decide) | (subst w1_124; decide) | (have h9 : ¬ lvB v ≤ 4 := fun q => (by rcases lv_9 q with e | e | e | e | e | e | e | e | e <;> exact absurd e (by assumption)); rw [if_neg h9])
  by_cases w1_43 : v = 43
  · refine w_lookup (tgt := 90) dX1_levelOf_1 rfl (by rw [w1_43]; try rfl) (by decide) ?_
    refine w_iconst dX1_levelOf_90 ic_3 ?_
    refine w_ireturn dX1_levelOf_91 rfl rfl ?_
    refine q_e ?_ hq
    first | (subst w1_38; decide) | (subst w1_42; decide) | (subst w1_43; decide) | (subst w1_45; decide) | (subst w1_47; decide) | (subst w1_60; decide) | (subst w1_61; decide) | (subst w1_62; decide) | (subst w1_124; decide) | (have h9 : ¬ lvB v ≤ 4 := fun q => (by rcases lv_9 q with e | e | e | e | e | e | e | e | e <;> exact absurd e (by assumption)); rw [if_neg h9])
  by_cases w1_45 : v = 45
  · refine w_lookup (tgt := 90) dX1_levelOf_1 rfl (by rw [w1_45]; try rfl) (by decide) ?_
    refine w_iconst dX1_levelOf_90 ic_3 ?_
    refine w_ireturn dX1_levelOf_91 rfl rfl ?_
    refine q_e ?_ hq
    first | (subst w1_38; decide) | (subst w1_42; decide) | (subst w1_43; decide) | (subst w1_45; decide) | (subst w1_47; decide) | (subst w1_60; decide) | (subst w1_61; decide) | (subst w1_62; decide) | (subst w1_124; decide) | (have h9 : ¬ lvB v ≤ 4 := fun q => (by rcases lv_9 q with e | e | e | e | e | e | e | e | e <;> exact absurd e (by assumption)); rw [if_neg h9])
  by_cases w1_47 : v = 47
  · refine w_lookup (tgt := 92) dX1_levelOf_1 rfl (by rw [w1_47]; try rfl) (by decide) ?_
    refine w_iconst dX1_levelOf_92 ic_4 ?_
    refine w_ireturn dX1_levelOf_93 rfl rfl ?_
    refine q_e ?_ hq
    first | (subst w1_38; decide) | (subst w1_42; decide) | (subst w1_43; decide) | (subst w1_45; decide) | (subst w1_47; decide) | (subst w1_60; decide) | (subst w1_61; decide) | (subst w1_62; decide) | (subst w1_124; decide) | (have h9 : ¬ lvB v ≤ 4 := fun q => (by rcases lv_9 q with e | e | e | e | e | e | e | e | e <;> exact absurd e (by assumption)); rw [if_neg h9])
  by_cases w1_60 : v = 60
  · refine w_lookup (tgt := 88) dX1_levelOf_1 rfl (by rw [w1_60]; try rfl) (by decide) ?_
    refine w_iconst dX1_levelOf_88 ic_2 ?_
    refine w_ireturn dX1_levelOf_89 rfl rfl ?_
    refine q_e ?_ hq
    first | (subst w1_38; decide) | (subst w1_42; decide) | (subst w1_43; decide) | (subst w1_45; decide) | (subst w1_47; decide) | (subst w1_60; decide) | (subst w1_61; decide) | (subst w1_62; decide) | (subst w1_124; decide) | (have h9 : ¬ lvB v ≤ 4 := fun q => (by rcases lv_9 q with e | e | e | e | e | e | e | e | e <;> exact absurd e (by assumption)); rw [if_neg h9])
  by_cases w1_61 : v = 61
  · refine w_lookup (tgt := 88) dX1_levelOf_1 rfl (by rw [w1_61]; try rfl) (by decide) ?_
    refine w_iconst dX1_levelOf_88 ic_2 ?_
    refine w_ireturn dX1_levelOf_89 rfl rfl ?_
    refine q_e ?_ hq
    first | (subst w1_38; decide) | (subst w1_42; decide) | (subst w1_43; decide) | (subst w1_45; decide) | (subst w1_47; decide) | (subst w1_60; decide) | (subst w1_61; decide) | (subst w1_62; decide) | (subst w1_124; decide) | (have h9 : ¬ lvB v ≤ 4 := fun q => (by rcases lv_9 q with e | e | e | e | e | e | e | e | e <;> exact absurd e (by assumption)); rw [if_neg h9])
  by_cases w1_62 : v = 62
  · refine w_lookup (tgt := 88) dX1_levelOf_1 rfl (by rw [w1_62]; try rfl) (by decide) ?_
    refine w_iconst dX1_levelOf_88 ic_2 ?_
    refine w_ireturn dX1_levelOf_89 rfl rfl ?_
    refine q_e ?_ hq
    first | (subst w1_38; decide) | (subst w1_42; decide) | (subst w1_43; decide) | (subst w1_45; decide) | (subst w1_47; decide) | (subst w1_60; decide) | (subst w1_61; decide) | (subst w1_62; decide) | (subst w1_124; decide) | (have h9 : ¬ lvB v ≤ 4 := fun q => (by rcases lv_9 q with e | e | e | e | e | e | e | e | e <;> exact absurd e (by assumption)); rw [if_neg h9])
  by_cases w1_124 : v = 124
  · refine w_lookup (tgt := 84) dX1_levelOf_1 rfl (by rw [w1_124]; try rfl) (by decide) ?_
    refine w_iconst dX1_levelOf_84 ic_0 ?_
    refine w_ireturn dX1_levelOf_85 rfl rfl ?_
    refine q_e ?_ hq
    first | (subst w1_38; decide) | (subst w1_42; decide) | (subst w1_43; decide) | (subst w1_45; decide) | (subst w1_47; decide) | (subst w1_60; decide) | (subst w1_61; decide) | (subst w1_62; decide) | (subst w1_124; decide) | (have h9 : ¬ lvB v ≤ 4 := fun q => (by rcases lv_9 q with e | e | e | e | e | e | e | e | e <;> exact absurd e (by assumption)); rw [if_neg h9])
  refine w_lookup (tgt := 94) dX1_levelOf_1 rfl ((lv_osw (k := 38) (a := 38) w1_38 rfl).trans ((lv_osw (k := 42) (a := 42) w1_42 rfl).trans ((lv_osw (k := 43) (a := 43) w1_43 rfl).trans ((lv_osw (k := 45) (a := 45) w1_45 rfl).trans ((lv_osw (k := 47) (a := 47) w1_47 rfl).trans ((lv_osw (k := 60) (a := 60) w1_60 rfl).trans ((lv_osw (k := 61) (a := 61) w1_61 rfl).trans ((lv_osw (k := 62) (a := 62) w1_62 rfl).trans ((lv_osw (k := 124) (a := 124) w1_124 rfl).trans rfl))))))))) rfl ?_
  refine w_ldc dX1_levelOf_94 kcX1_32 ?_
  refine w_ireturn dX1_levelOf_96 rfl rfl ?_
  refine q_e ?_ hq
  first | (subst w1_38; decide) | (subst w1_42; decide) | (subst w1_43; decide) | (subst w1_45; decide) | (subst w1_47; decide) | (subst w1_60; decide) | (subst w1_61; decide) | (subst w1_62; decide) | (subst w1_124; decide) | (have h9 : ¬ lvB v ≤ 4 := fun q => (by rcases lv_9 q with e | e | e | e | e | e | e | e | e <;> exact absurd e (by assumption)); rw [if_neg h9])

set_option maxRecDepth 20000 in
theorem sX1_add (hs : SK R N) {v : Int32} {q : Nat} (h2 : I 77 2 = nI q) (hq96 : q ≤ 96) (hq : ∀ I' : HI, (∀ x, x ≠ 77 → x ≠ 80 → I' x = I x) → (∀ j, j ≠ 2 → I' 77 j = I 77 j) → (q < 96 → I' 77 2 = nI (q + 1) ∧ I' 80 = va_up (I 80) q v) → (∃ q', q' ≤ 96 ∧ I' 77 2 = nI q') → Q vU I' L R N n) : CA sc 0 0 0 mX1_add [vR 1 77, vI v] I L R N n Q := by
  refine ca_in (al := [_, _]) rfl ?_
  refine w_aload_n dX1_add_0 rfl ?_
  refine w_getI dX1_add_1 flX1_22 rfl ?_
  refine w_top (y := nI q) (h2) ?_
  refine w_aload_n dX1_add_4 rfl ?_
  refine w_getR dX1_add_5 flX1_18 rfl (hs.r (a := 77) (j := 1) (b := 80) 81 rfl) ?_
  refine w_alen dX1_add_8 (by decide) (by decide) (hs.n (a := 80) (z := 96) 54 rfl) ?_
  refine w_icmp_ge (tgt := 32) dX1_add_9 (by decide) (fun c9 => ?_) (fun c9 => ?_)
  · have hle := (nI_leI (a := 96) (by decide) (by omega)).mp c9
    refine w_return dX1_add_32 rfl ?_
    exact hq I (fun _ _ _ => rfl) (fun _ _ => rfl) (fun x => absurd x (by omega)) ⟨q, hq96, h2⟩
  · have hlt : q < 96 := Nat.lt_of_not_le (fun x => c9 (nI_le (a := 96) x (by omega)))
    refine w_aload_n dX1_add_12 rfl ?_
    refine w_getR dX1_add_13 flX1_18 rfl (hs.r (a := 77) (j := 1) (b := 80) 81 rfl) ?_
    refine w_aload_n dX1_add_16 rfl ?_
    refine w_getI dX1_add_17 flX1_22 rfl ?_
    refine w_top (y := nI q) (h2) ?_
    refine w_iload_n dX1_add_20 rfl ?_
    refine w_iast dX1_add_21 rfl (hs.n (a := 80) (z := 96) 54 rfl) hlt ?_
    refine w_heap (fun I2 e2 => ?_)
    refine w_aload_n dX1_add_22 rfl ?_
    refine w_dup dX1_add_23 rfl ?_
    refine w_getI dX1_add_24 flX1_22 rfl ?_
    refine w_top (y := nI q) (by rw [e2, va_up_ne _ _ (by decide)]; exact h2) ?_
    refine w_iconst dX1_add_27 ic_1 ?_
    refine w_iadd dX1_add_28 ?_
    refine w_top (y := nI (q + 1)) (nI_1 q) ?_
    refine w_putI dX1_add_29 flX1_22 rfl rfl rfl rfl ?_
    refine w_st (fun I3 hA3 hB3 hC3 => ?_)
    refine w_return dX1_add_32 rfl ?_
    exact hq I3 (fun x a b => by rw [hA3 x a, e2, va_up_ne _ _ b]) (fun j hj => by rw [hB3 j hj, e2, va_up_ne _ _ (by decide)]) (fun _ => ⟨hC3, by rw [hA3 80 (by decide), e2, va_up_self]⟩) ⟨q + 1, by omega, hC3⟩

set_option maxRecDepth 20000 in
theorem sX1_addLeaf (hs : SK R N) {T : VV} {z key : Nat} {t : TKN} {c : List Int32} {a : Nat} {x : Int32} (hP : PCl I T z key t c a) (hc : c.length < 96) (hx : cSym x = x) (hq : ∀ I' : HI, (∀ q, q ≠ 77 → q ≠ 80 → I' q = I q) → PCl I' T z key t (x :: c) (a + 1) → Q vU I' L R N n) : CA sc 1 0 0 mX1_addLeaf [vR 1 77, vI x] I L R N n Q := by
  refine ca_in (al := [_, _]) rfl ?_
  refine w_aload_n dX1_addLeaf_0 rfl ?_
  refine w_iload_n dX1_addLeaf_1 rfl ?_
  refine c_Vv (t := 1) (as := [_]) (d' := 0) dX1_addLeaf_2 mlX1_97 moX1_add mvX1_add ⟨rfl, rfl⟩ rfl rfl rfl rfl rfl (by decide) (sX1_add hs hP.2.1 (by omega) (fun I2 hA2 hB2 hC2 hD2 => ?_))
  have hP2 := hP.add hx hA2 hB2 (hC2 hc)
  refine w_aload_n dX1_addLeaf_5 rfl ?_
  refine w_dup dX1_addLeaf_6 rfl ?_
  refine w_getI dX1_addLeaf_7 flX1_26 rfl ?_
  refine w_top (y := nI a) (hP2.2.2.1) ?_
  refine w_iconst dX1_addLeaf_10 ic_1 ?_
  refine w_iadd dX1_addLeaf_11 ?_
  refine w_top (y := nI (a + 1)) (nI_1 a) ?_
  refine w_putI dX1_addLeaf_12 flX1_26 rfl rfl rfl rfl ?_
  refine w_st (fun I3 hA3 hB3 hC3 => ?_)
  refine w_return dX1_addLeaf_15 rfl ?_
  obtain ⟨g1, g2, g3, g4, g5, g6⟩ := hP2
  exact hq I3 (fun q a b => (hA3 q a).trans (hA2 q a b)) ⟨g1.keep (hA3 78 (by decide)) (hA3 79 (by decide)), (hB3 2 (by decide)).trans g2, hC3, (hB3 4 (by decide)).trans g4, (hB3 5 (by decide)).trans g5, by rw [hA3 80 (by decide)]; exact g6⟩

set_option maxRecDepth 20000 in
theorem sX1_refuse (hs : SK R N) {z f : Nat} (h1 : I 78 1 = nI z) (hf96 : f ≤ 96) (hf : (I 77 5 = -1000000005 ∧ I 78 3 = nI f) ∨ I 77 5 = nI f) (hsz : ∃ q, q ≤ 96 ∧ I 77 2 = nI q) (hq : ∀ I' : HI, (∀ q, q ≠ 77 → q ≠ 78 → I' q = I q) → PDd I' z f → Q vU I' L R N n) : CA sc 1 0 0 mX1_refuse [vR 1 77] I L R N n Q := by
  refine ca_in (al := [_]) rfl ?_
  rcases hf with ⟨hf1, hf2⟩ | hf1
  · refine w_aload_n dX1_refuse_0 rfl ?_
    refine w_getI dX1_refuse_1 flX1_33 rfl ?_
    refine w_top (y := -1000000005) (hf1) ?_
    refine w_ldc dX1_refuse_4 kcX1_32 ?_
    refine w_icmp_ne (tgt := 20) dX1_refuse_6 (by decide) (fun c6 => ?_) (fun c6 => ?_)
    · exact absurd rfl c6
    · refine w_aload_n dX1_refuse_9 rfl ?_
      refine w_aload_n dX1_refuse_10 rfl ?_
      refine w_getR dX1_refuse_11 flX1_12 rfl (hs.r (a := 77) (j := 0) (b := 78) 80 rfl) ?_
      refine w_getI dX1_refuse_14 flX1_67 rfl ?_
      refine w_top (y := nI f) (hf2) ?_
      refine w_putI dX1_refuse_17 flX1_33 rfl rfl rfl rfl ?_
      refine w_st (fun I2 hA2 hB2 hC2 => ?_)
      refine w_aload_n dX1_refuse_20 rfl ?_
      refine w_getR dX1_refuse_21 flX1_12 rfl (hs.r (a := 77) (j := 0) (b := 78) 80 rfl) ?_
      refine c_Vv (t := 6) (as := []) (d' := 0) dX1_refuse_24 mlX1_70 moX6_runOut mvX6_runOut ⟨rfl, rfl⟩ rfl rfl rfl rfl rfl (by decide) (sX6_runOut (fun I3 hA3 hB3 h43 h23 => ?_))
      refine w_return dX1_refuse_27 rfl ?_
      obtain ⟨q9, hq9, e9⟩ := hsz
      exact hq I3 (fun q a b => (hA3 q b).trans (hA2 q a)) ⟨(hB3 1 (by decide) (by decide)).trans (by rw [hA2 78 (by decide)]; exact h1), h23, by rw [hA3 77 (by decide)]; exact hC2, q9, hq9, by rw [hA3 77 (by decide)]; exact (hB2 2 (by decide)).trans e9⟩
  · refine w_aload_n dX1_refuse_0 rfl ?_
    refine w_getI dX1_refuse_1 flX1_33 rfl ?_
    refine w_top (y := nI f) (hf1) ?_
    refine w_ldc dX1_refuse_4 kcX1_32 ?_
    refine w_icmp_ne (tgt := 20) dX1_refuse_6 (by decide) (fun c6 => ?_) (fun c6 => ?_)
    · refine w_aload_n dX1_refuse_20 rfl ?_
      refine w_getR dX1_refuse_21 flX1_12 rfl (hs.r (a := 77) (j := 0) (b := 78) 80 rfl) ?_
      refine c_Vv (t := 6) (as := []) (d' := 0) dX1_refuse_24 mlX1_70 moX6_runOut mvX6_runOut ⟨rfl, rfl⟩ rfl rfl rfl rfl rfl (by decide) (sX6_runOut (fun I3 hA3 hB3 h43 h23 => ?_))
      refine w_return dX1_refuse_27 rfl ?_
      obtain ⟨q9, hq9, e9⟩ := hsz
      exact hq I3 (fun q a b => hA3 q b) ⟨(hB3 1 (by decide) (by decide)).trans h1, h23, by rw [hA3 77 (by decide)]; exact hf1, q9, hq9, by rw [hA3 77 (by decide)]; exact e9⟩
    · exact absurd c6 (nI_none (by omega))

set_option maxRecDepth 20000 in
theorem sX1_names (hs : SK R N) {key : Nat} (hk : key ≤ 2) (h4 : I 77 4 = nI key) (hq : Q (vS (5 + (3 + key))) I L R N n) : CA sc 0 0 0 mX1_names [vR 1 77] I L R N n Q := by
  refine ca_in (al := [_]) rfl ?_
  rcases (show key = 0 ∨ key = 1 ∨ key = 2 by omega) with rfl | rfl | rfl
  · refine w_aload_n dX1_names_0 rfl ?_
    refine w_getI dX1_names_1 flX1_29 rfl ?_
    refine w_top (y := nI 0) (h4) ?_
    refine w_if_ne (tgt := 12) dX1_names_4 (by decide) (fun c4 => ?_) (fun c4 => ?_)
    · exact absurd rfl c4
    · refine w_ldcS (i := 3) dX1_names_7 rfl (by decide) ?_
      refine w_goto (tgt := 27) dX1_names_9 (by decide) ?_
      refine w_areturn dX1_names_27 rfl rfl rfl ?_
      exact hq
  · refine w_aload_n dX1_names_0 rfl ?_
    refine w_getI dX1_names_1 flX1_29 rfl ?_
    refine w_top (y := nI 1) (h4) ?_
    refine w_if_ne (tgt := 12) dX1_names_4 (by decide) (fun c4 => ?_) (fun c4 => ?_)
    · refine w_aload_n dX1_names_12 rfl ?_
      refine w_getI dX1_names_13 flX1_29 rfl ?_
      refine w_top (y := nI 1) (h4) ?_
      refine w_iconst dX1_names_16 ic_1 ?_
      refine w_icmp_ne (tgt := 25) dX1_names_17 (by decide) (fun c17 => ?_) (fun c17 => ?_)
      · exact absurd rfl c17
      · refine w_ldcS (i := 4) dX1_names_20 rfl (by decide) ?_
        refine w_goto (tgt := 27) dX1_names_22 (by decide) ?_
        refine w_areturn dX1_names_27 rfl rfl rfl ?_
        exact hq
    · exact absurd c4 (by decide)
  · refine w_aload_n dX1_names_0 rfl ?_
    refine w_getI dX1_names_1 flX1_29 rfl ?_
    refine w_top (y := nI 2) (h4) ?_
    refine w_if_ne (tgt := 12) dX1_names_4 (by decide) (fun c4 => ?_) (fun c4 => ?_)
    · refine w_aload_n dX1_names_12 rfl ?_
      refine w_getI dX1_names_13 flX1_29 rfl ?_
      refine w_top (y := nI 2) (h4) ?_
      refine w_iconst dX1_names_16 ic_1 ?_
      refine w_icmp_ne (tgt := 25) dX1_names_17 (by decide) (fun c17 => ?_) (fun c17 => ?_)
      · refine w_ldcS (i := 5) dX1_names_25 rfl (by decide) ?_
        refine w_areturn dX1_names_27 rfl rfl rfl ?_
        exact hq
      · exact absurd c17 (by decide)
    · exact absurd c4 (by decide)

set_option maxRecDepth 20000 in
theorem sX1_keyInHand (hs : SK R N) {T : VV} {z : Nat} {t : TKN} (hz : z ≤ 96) (hb : BY T z) (ht : TO T z t) (hC : TC I T z t) (hq : Q (vI (kyI T t)) I L R N n) : CA sc 6 0 0 mX1_keyInHand [vR 1 77] I L R N n Q := by
  refine ca_in (al := [_]) rfl ?_
  refine w_aload_n dX1_keyInHand_0 rfl ?_
  refine w_getR dX1_keyInHand_1 flX1_12 rfl (hs.r (a := 77) (j := 0) (b := 78) 80 rfl) ?_
  refine w_ldcS (i := 0) dX1_keyInHand_4 rfl (by decide) ?_
  refine c_V (t := 6) (as := [_]) (d' := 5) dX1_keyInHand_6 mlX1_75 moX6_isWord mvX6_isWord ⟨rfl, rfl⟩ rfl rfl rfl rfl rfl (by decide) (sX6_isWord (j := 0) hs hz hb (by decide) ht hC ?_)
  refine w_ifB_eq (tgt := 14) dX1_keyInHand_9 (by decide) (fun c9 => ?_) (fun c9 => ?_)
  · refine w_aload_n dX1_keyInHand_14 rfl ?_
    refine w_getR dX1_keyInHand_15 flX1_12 rfl (hs.r (a := 77) (j := 0) (b := 78) 80 rfl) ?_
    refine w_ldcS (i := 1) dX1_keyInHand_18 rfl (by decide) ?_
    refine c_V (t := 6) (as := [_]) (d' := 5) dX1_keyInHand_20 mlX1_75 moX6_isWord mvX6_isWord ⟨rfl, rfl⟩ rfl rfl rfl rfl rfl (by decide) (sX6_isWord (j := 1) hs hz hb (by decide) ht hC ?_)
    refine w_ifB_eq (tgt := 28) dX1_keyInHand_23 (by decide) (fun c23 => ?_) (fun c23 => ?_)
    · refine w_aload_n dX1_keyInHand_28 rfl ?_
      refine w_getR dX1_keyInHand_29 flX1_12 rfl (hs.r (a := 77) (j := 0) (b := 78) 80 rfl) ?_
      refine w_ldcS (i := 2) dX1_keyInHand_32 rfl (by decide) ?_
      refine c_V (t := 6) (as := [_]) (d' := 5) dX1_keyInHand_34 mlX1_75 moX6_isWord mvX6_isWord ⟨rfl, rfl⟩ rfl rfl rfl rfl rfl (by decide) (sX6_isWord (j := 2) hs hz hb (by decide) ht hC ?_)
      refine w_ifB_eq (tgt := 44) dX1_keyInHand_37 (by decide) (fun c37 => ?_) (fun c37 => ?_)
      · refine w_ldc dX1_keyInHand_44 kcX1_32 ?_
        refine w_ireturn dX1_keyInHand_46 rfl rfl ?_
        exact q_e ((cif_f c9).trans ((cif_f c23).trans (cif_f c37))) hq
      · refine w_iconst dX1_keyInHand_40 ic_2 ?_
        refine w_goto (tgt := 46) dX1_keyInHand_41 (by decide) ?_
        refine w_ireturn dX1_keyInHand_46 rfl rfl ?_
        exact q_e ((cif_f c9).trans ((cif_f c23).trans (cif_t c37))) hq
    · refine w_iconst dX1_keyInHand_26 ic_1 ?_
      refine w_ireturn dX1_keyInHand_27 rfl rfl ?_
      exact q_e ((cif_f c9).trans (cif_t c23)) hq
  · refine w_iconst dX1_keyInHand_12 ic_0 ?_
    refine w_ireturn dX1_keyInHand_13 rfl rfl ?_
    exact q_e (cif_t c9) hq

def SPc (sc : SC) (L : HL) (R : HR) (N : HN) (n : Nat) (T : VV) (z key D : Nat) : Prop := ∀ (b : Nat) (t : TKN) (W c : List Int32) (a : Nat) (td : VV) (I : HI) (Q : HQ), b ≤ 8 → nots W ≤ 8 → 7 * (8 - b) + (8 - nots W) ≤ D → TO T z t → PCl I T z key t c a → c.length + 3 ≤ t.1 →
  (∀ I' t' c' a', FRP I I' → PCl I' T z key t' c' a' → TO T z t' → LQ T z key t W c a b td t' c' a' → GR key t c t' c' → Q vU I' L R N n) → (∀ I' f, FRP I I' → PDd I' z f → f ≤ 96 → RU T z key t W c a b td (nots W) true (f, none) → Q vU I' L R N n) → CA sc (D + 8) 0 0 mX1_readPiece [vR 1 77, vI (nI b), vI (nI (nots W))] I L R N n Q
def SLv (sc : SC) (L : HL) (R : HR) (N : HN) (n : Nat) (T : VV) (z key D : Nat) : Prop := ∀ (l b : Nat) (t : TKN) (W c : List Int32) (a : Nat) (td : VV) (I : HI) (Q : HQ), l ≤ 5 → b ≤ 8 → nots W ≤ 8 → 7 * (8 - b) + (8 - nots W) + (6 - l) ≤ D → okW l W → (td b = 0 ∨ td b = 1) → (l ≤ 2 → td b = 0) → TO T z t → PCl I T z key t c a → c.length + 3 ≤ t.1 →
  (∀ I' t' c' a', FRP I I' → PCl I' T z key t' c' a' → TO T z t' → LW T z key l t W c a b td t' c' a' → GR key t c t' c' → Q vU I' L R N n) → (∀ I' f, FRP I I' → PDd I' z f → f ≤ 96 → RU T z key t W c a b td (nots W) true (f, none) → Q vU I' L R N n) → CA sc (D + 8) 0 0 mX1_readLevel [vR 1 77, vI (nI l), vI (nI b), vI (nI (nots W))] I L R N n Q
set_option maxRecDepth 20000 in
theorem sX1_piece (hs : SK R N) {T : VV} {z key D : Nat} (hz : z ≤ 96) (hb : BY T z) (hk : key ≤ 2) (ihP : ∀ j, j + 1 = D → SPc sc L R N n T z key j) (ihL : ∀ j, j + 1 = D → SLv sc L R N n T z key j) : SPc sc L R N n T z key D := by
  intro b t W c a td I Q hb8 hm8 hD ht hP hc hq1 hq2
  have hT := hP.1
  have hto := ht.1
  have hto2 := ht.2.1
  obtain ⟨k1, k2, k3⟩ := hnd_k hb ht
  have hnx := nxT_ok ht
  refine ca_in (al := [_, _, _, _]) rfl ?_
  refine w_aload_n dX1_readPiece_0 rfl ?_
  refine w_getR dX1_readPiece_1 flX1_12 rfl (hs.r (a := 77) (j := 0) (b := 78) 80 rfl) ?_
  refine w_aload_n dX1_readPiece_4 rfl ?_
  refine c_V (t := 1) (as := []) (d' := 0) dX1_readPiece_5 mlX1_101 moX1_names mvX1_names ⟨rfl, rfl⟩ rfl rfl rfl rfl rfl (by omega) (sX1_names hs hk hP.2.2.2.1 ?_)
  refine c_V (t := 6) (as := [_]) (d' := 7) dX1_readPiece_8 mlX1_105 moX6_placeIn mvX6_placeIn ⟨rfl, rfl⟩ rfl rfl rfl rfl rfl (by omega) (sX6_placeIn hs hz hb hk ht hT ?_)
  refine w_istore_n (al' := [_, _, _, _]) dX1_readPiece_11 rfl rfl rfl ?_
  refine w_aload_n dX1_readPiece_12 rfl ?_
  refine w_getR dX1_readPiece_13 flX1_12 rfl (hs.r (a := 77) (j := 0) (b := 78) 80 rfl) ?_
  refine w_getI dX1_readPiece_16 flX1_53 rfl ?_
  refine w_top (y := hnd T t) (hT.2.1) ?_
  refine w_sipush dX1_readPiece_19 sp_257 ?_
  refine w_icmp_ne (tgt := 46) dX1_readPiece_22 (by decide) (fun c22 => ?_) (fun c22 => ?_)
  · refine w_iload_n dX1_readPiece_46 rfl ?_
    refine w_if_lt (tgt := 69) dX1_readPiece_47 (by decide) (fun c47 => ?_) (fun c47 => ?_)
    · have hpt : ¬ isPt T key t := fun q => q.elim (fun q => c22 (k3.mpr q)) (fun q => absurd q.2.2 (Int32.not_le.mpr (by rw [← (show nmT T key t = nmB key (T t.1) from if_pos ⟨q.1, q.2.1⟩)]; exact c47)))
      refine w_aload_n dX1_readPiece_69 rfl ?_
      refine w_getR dX1_readPiece_70 flX1_12 rfl (hs.r (a := 77) (j := 0) (b := 78) 80 rfl) ?_
      refine w_getI dX1_readPiece_73 flX1_53 rfl ?_
      refine w_top (y := hnd T t) (hT.2.1) ?_
      refine w_bipush dX1_readPiece_76 bp_33 ?_
      refine w_icmp_ne (tgt := 112) dX1_readPiece_78 (by decide) (fun c78 => ?_) (fun c78 => ?_)
      · have h33 : ¬ (hnd T t = 33 ∧ nots W < 8) := fun q => c78 q.1
        refine w_aload_n dX1_readPiece_112 rfl ?_
        refine w_getR dX1_readPiece_113 flX1_12 rfl (hs.r (a := 77) (j := 0) (b := 78) 80 rfl) ?_
        refine w_getI dX1_readPiece_116 flX1_53 rfl ?_
        refine w_top (y := hnd T t) (hT.2.1) ?_
        refine w_bipush dX1_readPiece_119 bp_40 ?_
        refine w_icmp_ne (tgt := 175) dX1_readPiece_121 (by decide) (fun c121 => ?_) (fun c121 => ?_)
        · have h40 : ¬ (hnd T t = 40 ∧ b < 8) := fun q => c121 q.1
          refine w_aload_n dX1_readPiece_175 rfl ?_
          refine c_Vv (t := 1) (as := []) (d' := 1) dX1_readPiece_176 mlX1_43 moX1_refuse mvX1_refuse ⟨rfl, rfl⟩ rfl rfl rfl rfl rfl (by omega) (sX1_refuse (f := t.1) hs hT.1 (by omega) (Or.inl ⟨hP.2.2.2.2.1, hT.2.2.1⟩) ⟨c.length, by omega, hP.2.1⟩ (fun I2 hA2 hD2 => ?_))
          refine w_return dX1_readPiece_179 rfl ?_
          exact hq2 I2 (t.1) (FRP.of7778 hA2) (hD2) (by omega) (ru_none h33 h40 hpt)
        · refine w_iload_n dX1_readPiece_124 rfl ?_
          refine w_bipush dX1_readPiece_125 bp_8 ?_
          refine w_icmp_ge (tgt := 175) dX1_readPiece_127 (by decide) (fun c127 => ?_) (fun c127 => ?_)
          · have h40 : ¬ (hnd T t = 40 ∧ b < 8) := fun q => absurd ((nI_leI (a := 8) (by decide) (by omega)).mp c127) (by omega)
            refine w_aload_n dX1_readPiece_175 rfl ?_
            refine c_Vv (t := 1) (as := []) (d' := 1) dX1_readPiece_176 mlX1_43 moX1_refuse mvX1_refuse ⟨rfl, rfl⟩ rfl rfl rfl rfl rfl (by omega) (sX1_refuse (f := t.1) hs hT.1 (by omega) (Or.inl ⟨hP.2.2.2.2.1, hT.2.2.1⟩) ⟨c.length, by omega, hP.2.1⟩ (fun I2 hA2 hD2 => ?_))
            refine w_return dX1_readPiece_179 rfl ?_
            exact hq2 I2 (t.1) (FRP.of7778 hA2) (hD2) (by omega) (ru_none h33 h40 hpt)
          · have hlt : b < 8 := Nat.lt_of_not_le (fun q => c127 (nI_le (a := 8) q (by omega)))
            have hk3 : t.2.2 = 3 := hnd_b ht (by decide) c121
            have hgt := nxT_gt ht (by omega)
            obtain ⟨j, rfl⟩ : ∃ j, D = j + 1 := ⟨D - 1, by omega⟩
            refine w_aload_n dX1_readPiece_130 rfl ?_
            refine w_getR dX1_readPiece_131 flX1_12 rfl (hs.r (a := 77) (j := 0) (b := 78) 80 rfl) ?_
            refine c_Vv (t := 6) (as := []) (d' := 2) dX1_readPiece_134 mlX1_46 moX6_advance mvX6_advance ⟨rfl, rfl⟩ rfl rfl rfl rfl rfl (by omega) (sX6_next hs hz hb ht hP.1 (fun I2 hA2 hT2 => ?_))
            refine w_aload_n dX1_readPiece_137 rfl ?_
            refine w_iconst dX1_readPiece_138 ic_0 ?_
            refine w_top (y := nI 0) (rfl) ?_
            refine w_iload_n dX1_readPiece_139 rfl ?_
            refine w_iconst dX1_readPiece_140 ic_1 ?_
            refine w_iadd dX1_readPiece_141 ?_
            refine w_top (y := nI (b + 1)) (nI_1 b) ?_
            refine w_iload_n dX1_readPiece_142 rfl ?_
            refine w_top (y := nI (nots (-11 :: W))) (rfl) ?_
            refine c_Vv (t := 1) (as := [_, _, _]) (d' := j + 8) dX1_readPiece_143 mlX1_49 moX1_readLevel mvX1_readLevel ⟨rfl, rfl⟩ rfl rfl rfl rfl rfl (by omega) (ihL j rfl 0 (b + 1) (nxT T z t) (-11 :: W) c a (va_up td (b + 1) 0) I2 _ (by decide) hlt hm8 (by show 7 * (8 - (b + 1)) + (8 - nots W) + 6 ≤ j; omega) (Or.inl rfl) (Or.inl (va_up_self _ _ _)) (fun _ => va_up_self _ _ _) hnx.1 (hP.adv hA2 hT2) (by omega) (fun I3 t3 c3 a3 hF3 hP3 ht3 hl3 hg3 => ?_) (fun I3 f hF3 hD3 hf3 hr3 => ?_))
            · refine w_aload_n dX1_readPiece_146 rfl ?_
              refine w_getR dX1_readPiece_147 flX1_12 rfl (hs.r (a := 77) (j := 0) (b := 78) 80 rfl) ?_
              refine w_getI dX1_readPiece_150 flX1_53 rfl ?_
              refine w_top (y := hnd T t3) (hP3.1.2.1) ?_
              refine w_bipush dX1_readPiece_153 bp_41 ?_
              refine w_icmp_ne (tgt := 168) dX1_readPiece_155 (by decide) (fun c155 => ?_) (fun c155 => ?_)
              · have hlen : c3.length ≤ 96 ∧ t3.1 ≤ 96 := by have := hg3.2.2.1; have := hg3.2.2.2; have := ht3.1; have := ht3.2.1; omega
                refine w_aload_n dX1_readPiece_168 rfl ?_
                refine c_Vv (t := 1) (as := []) (d' := 1) dX1_readPiece_169 mlX1_43 moX1_refuse mvX1_refuse ⟨rfl, rfl⟩ rfl rfl rfl rfl rfl (by omega) (sX1_refuse (f := t3.1) hs hP3.1.1 (by omega) (Or.inl ⟨hP3.2.2.2.2.1, hP3.1.2.2.1⟩) ⟨c3.length, by omega, hP3.2.1⟩ (fun I4 hA4 hD4 => ?_))
                refine w_goto (tgt := 179) dX1_readPiece_172 (by decide) ?_
                refine w_return dX1_readPiece_179 rfl ?_
                exact hq2 I4 (t3.1) (((FRP.of78 hA2).trans hF3).trans (FRP.of7778 hA4)) (hD4) (by omega) (lp_stuck hb ht3 c121 hlt hl3 c155)
              · refine w_aload_n dX1_readPiece_158 rfl ?_
                refine w_getR dX1_readPiece_159 flX1_12 rfl (hs.r (a := 77) (j := 0) (b := 78) 80 rfl) ?_
                refine c_Vv (t := 6) (as := []) (d' := 2) dX1_readPiece_162 mlX1_46 moX6_advance mvX6_advance ⟨rfl, rfl⟩ rfl rfl rfl rfl rfl (by omega) (sX6_next hs hz hb ht3 hP3.1 (fun I4 hA4 hT4 => ?_))
                refine w_goto (tgt := 179) dX1_readPiece_165 (by decide) ?_
                refine w_return dX1_readPiece_179 rfl ?_
                exact hq1 I4 (nxT T z t3) (c3) (a3) (((FRP.of78 hA2).trans hF3).trans (FRP.of78 hA4)) (hP3.adv hA4 hT4) ((nxT_ok ht3).1) (lp_close ht3 c121 hlt hl3 c155) (gr_close ht c121 ht3 hg3)
            · refine w_aload_n dX1_readPiece_146 rfl ?_
              refine w_getR dX1_readPiece_147 flX1_12 rfl (hs.r (a := 77) (j := 0) (b := 78) 80 rfl) ?_
              refine w_getI dX1_readPiece_150 flX1_53 rfl ?_
              refine w_top (y := -1) (hD3.2.1) ?_
              refine w_bipush dX1_readPiece_153 bp_41 ?_
              refine w_icmp_ne (tgt := 168) dX1_readPiece_155 (by decide) (fun c155 => ?_) (fun c155 => ?_)
              · refine w_aload_n dX1_readPiece_168 rfl ?_
                refine c_Vv (t := 1) (as := []) (d' := 1) dX1_readPiece_169 mlX1_43 moX1_refuse mvX1_refuse ⟨rfl, rfl⟩ rfl rfl rfl rfl rfl (by omega) (sX1_refuse (f := f) hs hD3.1 hf3 (Or.inr hD3.2.2.1) hD3.2.2.2 (fun I4 hA4 hD4 => ?_))
                refine w_goto (tgt := 179) dX1_readPiece_172 (by decide) ?_
                refine w_return dX1_readPiece_179 rfl ?_
                exact hq2 I4 (f) (((FRP.of78 hA2).trans hF3).trans (FRP.of7778 hA4)) (hD4) (hf3) (ru_open c121 hlt hr3)
              · exact absurd c155 (by decide)
      · refine w_iload_n dX1_readPiece_81 rfl ?_
        refine w_bipush dX1_readPiece_82 bp_8 ?_
        refine w_icmp_ge (tgt := 112) dX1_readPiece_84 (by decide) (fun c84 => ?_) (fun c84 => ?_)
        · have h33 : ¬ (hnd T t = 33 ∧ nots W < 8) := fun q => absurd ((nI_leI (a := 8) (by decide) (by omega)).mp c84) (by omega)
          refine w_aload_n dX1_readPiece_112 rfl ?_
          refine w_getR dX1_readPiece_113 flX1_12 rfl (hs.r (a := 77) (j := 0) (b := 78) 80 rfl) ?_
          refine w_getI dX1_readPiece_116 flX1_53 rfl ?_
          refine w_top (y := hnd T t) (hT.2.1) ?_
          refine w_bipush dX1_readPiece_119 bp_40 ?_
          refine w_icmp_ne (tgt := 175) dX1_readPiece_121 (by decide) (fun c121 => ?_) (fun c121 => ?_)
          · have h40 : ¬ (hnd T t = 40 ∧ b < 8) := fun q => c121 q.1
            refine w_aload_n dX1_readPiece_175 rfl ?_
            refine c_Vv (t := 1) (as := []) (d' := 1) dX1_readPiece_176 mlX1_43 moX1_refuse mvX1_refuse ⟨rfl, rfl⟩ rfl rfl rfl rfl rfl (by omega) (sX1_refuse (f := t.1) hs hT.1 (by omega) (Or.inl ⟨hP.2.2.2.2.1, hT.2.2.1⟩) ⟨c.length, by omega, hP.2.1⟩ (fun I2 hA2 hD2 => ?_))
            refine w_return dX1_readPiece_179 rfl ?_
            exact hq2 I2 (t.1) (FRP.of7778 hA2) (hD2) (by omega) (ru_none h33 h40 hpt)
          · refine w_iload_n dX1_readPiece_124 rfl ?_
            refine w_bipush dX1_readPiece_125 bp_8 ?_
            refine w_icmp_ge (tgt := 175) dX1_readPiece_127 (by decide) (fun c127 => ?_) (fun c127 => ?_)
            · have h40 : ¬ (hnd T t = 40 ∧ b < 8) := fun q => absurd ((nI_leI (a := 8) (by decide) (by omega)).mp c127) (by omega)
              refine w_aload_n dX1_readPiece_175 rfl ?_
              refine c_Vv (t := 1) (as := []) (d' := 1) dX1_readPiece_176 mlX1_43 moX1_refuse mvX1_refuse ⟨rfl, rfl⟩ rfl rfl rfl rfl rfl (by omega) (sX1_refuse (f := t.1) hs hT.1 (by omega) (Or.inl ⟨hP.2.2.2.2.1, hT.2.2.1⟩) ⟨c.length, by omega, hP.2.1⟩ (fun I2 hA2 hD2 => ?_))
              refine w_return dX1_readPiece_179 rfl ?_
              exact hq2 I2 (t.1) (FRP.of7778 hA2) (hD2) (by omega) (ru_none h33 h40 hpt)
            · have hlt : b < 8 := Nat.lt_of_not_le (fun q => c127 (nI_le (a := 8) q (by omega)))
              have hk3 : t.2.2 = 3 := hnd_b ht (by decide) c121
              have hgt := nxT_gt ht (by omega)
              obtain ⟨j, rfl⟩ : ∃ j, D = j + 1 := ⟨D - 1, by omega⟩
              refine w_aload_n dX1_readPiece_130 rfl ?_
              refine w_getR dX1_readPiece_131 flX1_12 rfl (hs.r (a := 77) (j := 0) (b := 78) 80 rfl) ?_
              refine c_Vv (t := 6) (as := []) (d' := 2) dX1_readPiece_134 mlX1_46 moX6_advance mvX6_advance ⟨rfl, rfl⟩ rfl rfl rfl rfl rfl (by omega) (sX6_next hs hz hb ht hP.1 (fun I2 hA2 hT2 => ?_))
              refine w_aload_n dX1_readPiece_137 rfl ?_
              refine w_iconst dX1_readPiece_138 ic_0 ?_
              refine w_top (y := nI 0) (rfl) ?_
              refine w_iload_n dX1_readPiece_139 rfl ?_
              refine w_iconst dX1_readPiece_140 ic_1 ?_
              refine w_iadd dX1_readPiece_141 ?_
              refine w_top (y := nI (b + 1)) (nI_1 b) ?_
              refine w_iload_n dX1_readPiece_142 rfl ?_
              refine w_top (y := nI (nots (-11 :: W))) (rfl) ?_
              refine c_Vv (t := 1) (as := [_, _, _]) (d' := j + 8) dX1_readPiece_143 mlX1_49 moX1_readLevel mvX1_readLevel ⟨rfl, rfl⟩ rfl rfl rfl rfl rfl (by omega) (ihL j rfl 0 (b + 1) (nxT T z t) (-11 :: W) c a (va_up td (b + 1) 0) I2 _ (by decide) hlt hm8 (by show 7 * (8 - (b + 1)) + (8 - nots W) + 6 ≤ j; omega) (Or.inl rfl) (Or.inl (va_up_self _ _ _)) (fun _ => va_up_self _ _ _) hnx.1 (hP.adv hA2 hT2) (by omega) (fun I3 t3 c3 a3 hF3 hP3 ht3 hl3 hg3 => ?_) (fun I3 f hF3 hD3 hf3 hr3 => ?_))
              · refine w_aload_n dX1_readPiece_146 rfl ?_
                refine w_getR dX1_readPiece_147 flX1_12 rfl (hs.r (a := 77) (j := 0) (b := 78) 80 rfl) ?_
                refine w_getI dX1_readPiece_150 flX1_53 rfl ?_
                refine w_top (y := hnd T t3) (hP3.1.2.1) ?_
                refine w_bipush dX1_readPiece_153 bp_41 ?_
                refine w_icmp_ne (tgt := 168) dX1_readPiece_155 (by decide) (fun c155 => ?_) (fun c155 => ?_)
                · have hlen : c3.length ≤ 96 ∧ t3.1 ≤ 96 := by have := hg3.2.2.1; have := hg3.2.2.2; have := ht3.1; have := ht3.2.1; omega
                  refine w_aload_n dX1_readPiece_168 rfl ?_
                  refine c_Vv (t := 1) (as := []) (d' := 1) dX1_readPiece_169 mlX1_43 moX1_refuse mvX1_refuse ⟨rfl, rfl⟩ rfl rfl rfl rfl rfl (by omega) (sX1_refuse (f := t3.1) hs hP3.1.1 (by omega) (Or.inl ⟨hP3.2.2.2.2.1, hP3.1.2.2.1⟩) ⟨c3.length, by omega, hP3.2.1⟩ (fun I4 hA4 hD4 => ?_))
                  refine w_goto (tgt := 179) dX1_readPiece_172 (by decide) ?_
                  refine w_return dX1_readPiece_179 rfl ?_
                  exact hq2 I4 (t3.1) (((FRP.of78 hA2).trans hF3).trans (FRP.of7778 hA4)) (hD4) (by omega) (lp_stuck hb ht3 c121 hlt hl3 c155)
                · refine w_aload_n dX1_readPiece_158 rfl ?_
                  refine w_getR dX1_readPiece_159 flX1_12 rfl (hs.r (a := 77) (j := 0) (b := 78) 80 rfl) ?_
                  refine c_Vv (t := 6) (as := []) (d' := 2) dX1_readPiece_162 mlX1_46 moX6_advance mvX6_advance ⟨rfl, rfl⟩ rfl rfl rfl rfl rfl (by omega) (sX6_next hs hz hb ht3 hP3.1 (fun I4 hA4 hT4 => ?_))
                  refine w_goto (tgt := 179) dX1_readPiece_165 (by decide) ?_
                  refine w_return dX1_readPiece_179 rfl ?_
                  exact hq1 I4 (nxT T z t3) (c3) (a3) (((FRP.of78 hA2).trans hF3).trans (FRP.of78 hA4)) (hP3.adv hA4 hT4) ((nxT_ok ht3).1) (lp_close ht3 c121 hlt hl3 c155) (gr_close ht c121 ht3 hg3)
              · refine w_aload_n dX1_readPiece_146 rfl ?_
                refine w_getR dX1_readPiece_147 flX1_12 rfl (hs.r (a := 77) (j := 0) (b := 78) 80 rfl) ?_
                refine w_getI dX1_readPiece_150 flX1_53 rfl ?_
                refine w_top (y := -1) (hD3.2.1) ?_
                refine w_bipush dX1_readPiece_153 bp_41 ?_
                refine w_icmp_ne (tgt := 168) dX1_readPiece_155 (by decide) (fun c155 => ?_) (fun c155 => ?_)
                · refine w_aload_n dX1_readPiece_168 rfl ?_
                  refine c_Vv (t := 1) (as := []) (d' := 1) dX1_readPiece_169 mlX1_43 moX1_refuse mvX1_refuse ⟨rfl, rfl⟩ rfl rfl rfl rfl rfl (by omega) (sX1_refuse (f := f) hs hD3.1 hf3 (Or.inr hD3.2.2.1) hD3.2.2.2 (fun I4 hA4 hD4 => ?_))
                  refine w_goto (tgt := 179) dX1_readPiece_172 (by decide) ?_
                  refine w_return dX1_readPiece_179 rfl ?_
                  exact hq2 I4 (f) (((FRP.of78 hA2).trans hF3).trans (FRP.of7778 hA4)) (hD4) (hf3) (ru_open c121 hlt hr3)
                · exact absurd c155 (by decide)
        · have hlt : nots W < 8 := Nat.lt_of_not_le (fun q => c84 (nI_le (a := 8) q (by omega)))
          have hk3 : t.2.2 = 3 := hnd_b ht (by decide) c78
          have hgt := nxT_gt ht (by omega)
          obtain ⟨j, rfl⟩ : ∃ j, D = j + 1 := ⟨D - 1, by omega⟩
          refine w_aload_n dX1_readPiece_87 rfl ?_
          refine w_getR dX1_readPiece_88 flX1_12 rfl (hs.r (a := 77) (j := 0) (b := 78) 80 rfl) ?_
          refine c_Vv (t := 6) (as := []) (d' := 2) dX1_readPiece_91 mlX1_46 moX6_advance mvX6_advance ⟨rfl, rfl⟩ rfl rfl rfl rfl rfl (by omega) (sX6_next hs hz hb ht hP.1 (fun I2 hA2 hT2 => ?_))
          refine w_aload_n dX1_readPiece_94 rfl ?_
          refine w_iload_n dX1_readPiece_95 rfl ?_
          refine w_iload_n dX1_readPiece_96 rfl ?_
          refine w_iconst dX1_readPiece_97 ic_1 ?_
          refine w_iadd dX1_readPiece_98 ?_
          refine w_top (y := nI (nots (-10 :: W))) (nI_1 (nots W)) ?_
          refine c_Vv (t := 1) (as := [_, _]) (d' := j + 8) dX1_readPiece_99 mlX1_89 moX1_readPiece mvX1_readPiece ⟨rfl, rfl⟩ rfl rfl rfl rfl rfl (by omega) (ihP j rfl b (nxT T z t) (-10 :: W) c a td I2 _ hb8 hlt (by show 7 * (8 - b) + (8 - (nots W + 1)) ≤ j; omega) hnx.1 (hP.adv hA2 hT2) (by omega) (fun I3 t3 c3 a3 hF3 hP3 ht3 hl3 hg3 => ?_) (fun I3 f hF3 hD3 hf3 hr3 => ?_))
          · refine w_aload_n dX1_readPiece_102 rfl ?_
            refine w_sipush dX1_readPiece_103 sp_20033 ?_
            have hlen : c3.length < 96 := by have := hg3.2.2.1; have := hg3.2.2.2; have := ht3.1; have := ht3.2.1; omega
            refine c_Vv (t := 1) (as := [_]) (d' := 0) dX1_readPiece_106 mlX1_97 moX1_add mvX1_add ⟨rfl, rfl⟩ rfl rfl rfl rfl rfl (by omega) (sX1_add hs hP3.2.1 (by omega) (fun I4 hA4 hB4 hC4 hD4 => ?_))
            refine w_goto (tgt := 179) dX1_readPiece_109 (by decide) ?_
            refine w_return dX1_readPiece_179 rfl ?_
            exact hq1 I4 (t3) (-10 :: c3) (a3) (((FRP.of78 hA2).trans hF3).trans (FRP.of7780 hA4)) (hP3.add (by decide) hA4 hB4 (hC4 hlen)) (ht3) (lp_not hl3 c78 hlt) (gr_not ht c78 hg3)
          · refine w_aload_n dX1_readPiece_102 rfl ?_
            refine w_sipush dX1_readPiece_103 sp_20033 ?_
            obtain ⟨q9, hq9, e9⟩ := hD3.2.2.2
            refine c_Vv (t := 1) (as := [_]) (d' := 0) dX1_readPiece_106 mlX1_97 moX1_add mvX1_add ⟨rfl, rfl⟩ rfl rfl rfl rfl rfl (by omega) (sX1_add hs e9 hq9 (fun I4 hA4 hB4 hC4 hD4 => ?_))
            refine w_goto (tgt := 179) dX1_readPiece_109 (by decide) ?_
            refine w_return dX1_readPiece_179 rfl ?_
            exact hq2 I4 (f) (((FRP.of78 hA2).trans hF3).trans (FRP.of7780 hA4)) (hD3.add hA4 hB4 hD4) (hf3) (ru_not c78 hlt hr3)
    · have hn2 : ¬ t.2.2 = 2 := fun q => c22 (k3.mpr q)
      have hpt0 : t.2.2 = 1 ∧ t.2.1 - t.1 = 1 := by
        by_cases q : t.2.2 = 1 ∧ t.2.1 - t.1 = 1
        · exact q
        · exact absurd (show nmT T key t < 0 by unfold nmT; rw [if_neg q]; decide) c47
      have hnm : nmT T key t = nmB key (T t.1) := if_pos hpt0
      have hpt : isPt T key t := Or.inr ⟨hpt0.1, hpt0.2, by rw [← hnm]; exact Int32.not_lt.mp c47⟩
      refine w_aload_n dX1_readPiece_50 rfl ?_
      refine w_sipush dX1_readPiece_51 sp_10000 ?_
      refine w_iload_n dX1_readPiece_54 rfl ?_
      refine w_iadd dX1_readPiece_55 ?_
      refine w_top (y := ptV T key t) (by unfold ptV; rw [if_neg hn2, hnm]) ?_
      refine c_Vv (t := 1) (as := [_]) (d' := 1) dX1_readPiece_56 mlX1_112 moX1_addLeaf mvX1_addLeaf ⟨rfl, rfl⟩ rfl rfl rfl rfl rfl (by omega) (sX1_addLeaf hs (x := ptV T key t) hP (by omega) (pt_sym ht hk hpt).2.2 (fun I2 hA2 hP2 => ?_))
      refine w_aload_n dX1_readPiece_59 rfl ?_
      refine w_getR dX1_readPiece_60 flX1_12 rfl (hs.r (a := 77) (j := 0) (b := 78) 80 rfl) ?_
      refine c_Vv (t := 6) (as := []) (d' := 2) dX1_readPiece_63 mlX1_46 moX6_advance mvX6_advance ⟨rfl, rfl⟩ rfl rfl rfl rfl rfl (by omega) (sX6_next hs hz hb ht hP2.1 (fun I3 hA3 hT3 => ?_))
      refine w_goto (tgt := 179) dX1_readPiece_66 (by decide) ?_
      refine w_return dX1_readPiece_179 rfl ?_
      exact hq1 I3 (nxT T z t) (ptV T key t :: c) (a + 1) ((FRP.of7780 hA2).trans (FRP.of78 hA3)) (hP2.adv hA3 hT3) (hnx.1) (lp_leaf hpt) (gr_leaf ht hk hpt)
  · have hpt : isPt T key t := Or.inl (k3.mp c22)
    refine w_aload_n dX1_readPiece_25 rfl ?_
    refine w_aload_n dX1_readPiece_26 rfl ?_
    refine w_getR dX1_readPiece_27 flX1_12 rfl (hs.r (a := 77) (j := 0) (b := 78) 80 rfl) ?_
    refine c_V (t := 6) (as := []) (d' := 0) dX1_readPiece_30 mlX1_109 moX6_number mvX6_number ⟨rfl, rfl⟩ rfl rfl rfl rfl rfl (by omega) (sX6_number hs hz ht hT ?_)
    refine w_top (y := ptV T key t) ((if_pos (k3.mp c22)).symm) ?_
    refine c_Vv (t := 1) (as := [_]) (d' := 1) dX1_readPiece_33 mlX1_112 moX1_addLeaf mvX1_addLeaf ⟨rfl, rfl⟩ rfl rfl rfl rfl rfl (by omega) (sX1_addLeaf hs (x := ptV T key t) hP (by omega) (pt_sym ht hk hpt).2.2 (fun I2 hA2 hP2 => ?_))
    refine w_aload_n dX1_readPiece_36 rfl ?_
    refine w_getR dX1_readPiece_37 flX1_12 rfl (hs.r (a := 77) (j := 0) (b := 78) 80 rfl) ?_
    refine c_Vv (t := 6) (as := []) (d' := 2) dX1_readPiece_40 mlX1_46 moX6_advance mvX6_advance ⟨rfl, rfl⟩ rfl rfl rfl rfl rfl (by omega) (sX6_next hs hz hb ht hP2.1 (fun I3 hA3 hT3 => ?_))
    refine w_goto (tgt := 179) dX1_readPiece_43 (by decide) ?_
    refine w_return dX1_readPiece_179 rfl ?_
    exact hq1 I3 (nxT T z t) (ptV T key t :: c) (a + 1) ((FRP.of7780 hA2).trans (FRP.of78 hA3)) (hP2.adv hA3 hT3) (hnx.1) (lp_leaf hpt) (gr_leaf ht hk hpt)

set_option maxRecDepth 20000 in
theorem lX1_dead (hs : SK R N) {z f l b m i D : Nat} {mo : Int32} (hl : l ≤ 5) (hD : PDd I z f) (hq : Q vU I L R N n) : WP sc (D + 8) 0 0 mX1_readLevel 37 [vR 1 77, vI (nI l), vI (nI b), vI (nI m), vI mo, vI (nI i), vU] [] I L R N n Q := by
  refine w_iload dX1_readLevel_37 rfl ?_
  refine w_iload dX1_readLevel_39 rfl ?_
  refine w_icmp_ge (tgt := 99) dX1_readLevel_41 (by decide) (fun c41 => ?_) (fun c41 => ?_)
  · refine w_return dX1_readLevel_99 rfl ?_
    exact hq
  · refine w_aload_n dX1_readLevel_44 rfl ?_
    refine w_getR dX1_readLevel_45 flX1_12 rfl (hs.r (a := 77) (j := 0) (b := 78) 80 rfl) ?_
    refine w_getI dX1_readLevel_48 flX1_53 rfl ?_
    refine w_top (y := -1) (hD.2.1) ?_
    refine c_S (as := [_]) (d' := 0) dX1_readLevel_51 (Or.inl mlX1_93) moX1_levelOf msX1_levelOf rfl rfl rfl rfl rfl (by omega) (sX1_levelOf ?_)
    refine w_top (y := -1000000005) (if_neg (by decide)) ?_
    refine w_iload_n dX1_readLevel_54 rfl ?_
    refine w_icmp_ne (tgt := 99) dX1_readLevel_55 (by decide) (fun c55 => ?_) (fun c55 => ?_)
    · refine w_return dX1_readLevel_99 rfl ?_
      exact hq
    · exact absurd c55.symm (nI_none (by omega))

set_option maxRecDepth 20000 in
theorem lX1_lvl (hs : SK R N) {T : VV} {z key D : Nat} (hz : z ≤ 96) (hb : BY T z) (ihL : ∀ j, j + 1 = D → SLv sc L R N n T z key j) {l b : Nat} {t : TKN} {W c : List Int32} {a : Nat} {td : VV} {mo : Int32} (hl4 : l ≤ 4) (hb8 : b ≤ 8) (hm8 : nots W ≤ 8) (hD : 7 * (8 - b) + (8 - nots W) + (6 - l) ≤ D) (hw : okW l W) (hc : c.length + 3 ≤ t.1) (hmo : (l = 2 ∧ mo = 1) ∨ (l ≠ 2 ∧ mo = 96)) (hq1 : ∀ I' t' c' a', FRP I I' → PCl I' T z key t' c' a' → TO T z t' → LW T z key l t W c a b td t' c' a' → GR key t c t' c' → Q vU I' L R N n) (hq2 : ∀ I' f, FRP I I' → PDd I' z f → f ≤ 96 → RU T z key t W c a b td (nots W) true (f, none) → Q vU I' L R N n) : ∀ (k i : Nat) (t' : TKN) (c' : List Int32) (a' : Nat) (I1 : HI), i + k = 97 → i + 3 ≤ t'.1 → FRP I I1 → PCl I1 T z key t' c' a' → TO T z t' → LI T z key l t W c a b td i t' c' a' → GR key t c t' c' → WP sc (D + 8) 0 0 mX1_readLevel 37 [vR 1 77, vI (nI l), vI (nI b), vI (nI (nots W)), vI mo, vI (nI i), vU] [] I1 L R N n Q := by
  have lp : ∀ (k i : Nat) (t' : TKN) (c' : List Int32) (a' : Nat) (I1 : HI), i + k = 97 → i + 3 ≤ t'.1 → FRP I I1 → PCl I1 T z key t' c' a' → TO T z t' → LI T z key l t W c a b td i t' c' a' → GR key t c t' c' → WP sc (D + 8) 0 0 mX1_readLevel 37 [vR 1 77, vI (nI l), vI (nI b), vI (nI (nots W)), vI mo, vI (nI i), vU] [] I1 L R N n Q := by
    intro k
    induction k with
    | zero =>
      intro i t' c' a' I1 hik hit hF hP1 ht1 hLI hG
      exfalso
      have := ht1.1
      have := ht1.2.1
      omega
    | succ k ih =>
      intro i t' c' a' I1 hik hit hF hP1 ht1 hLI hG
      refine w_iload dX1_readLevel_37 rfl ?_
      refine w_iload dX1_readLevel_39 rfl ?_
      refine w_icmp_ge (tgt := 99) dX1_readLevel_41 (by decide) (fun c41 => ?_) (fun c41 => ?_)
      · have hx : lvB (hnd T t') ≠ l ∨ (l = 2 ∧ 0 < i) := by
          rcases hmo with ⟨e, rfl⟩ | ⟨e, rfl⟩
          · exact Or.inr ⟨e, (nI_leI (a := 1) (by decide) (by omega)).mp c41⟩
          · exfalso; have := (nI_leI (a := 96) (by decide) (by omega)).mp c41; have := ht1.1; have := ht1.2.1; omega
        refine w_return dX1_readLevel_99 rfl ?_
        exact hq1 I1 t' c' a' hF hP1 ht1 (li_x hLI hx) hG
      · have hi0 : l = 2 → i = 0 := fun e => by
          rcases hmo with ⟨-, rfl⟩ | ⟨e2, -⟩
          · rcases Nat.lt_or_ge i 1 with q | q
            · omega
            · exact absurd (nI_le (a := 1) q (by omega)) c41
          · exact absurd e e2
        refine w_aload_n dX1_readLevel_44 rfl ?_
        refine w_getR dX1_readLevel_45 flX1_12 rfl (hs.r (a := 77) (j := 0) (b := 78) 80 rfl) ?_
        refine w_getI dX1_readLevel_48 flX1_53 rfl ?_
        refine w_top (y := hnd T t') (hP1.1.2.1) ?_
        refine c_S (as := [_]) (d' := 0) dX1_readLevel_51 (Or.inl mlX1_93) moX1_levelOf msX1_levelOf rfl rfl rfl rfl rfl (by omega) (sX1_levelOf ?_)
        refine w_iload_n dX1_readLevel_54 rfl ?_
        refine w_icmp_ne (tgt := 99) dX1_readLevel_55 (by decide) (fun c55 => ?_) (fun c55 => ?_)
        · have hx : lvB (hnd T t') ≠ l ∨ (l = 2 ∧ 0 < i) := Or.inl (fun e => c55 (by rw [e, if_pos hl4]))
          refine w_return dX1_readLevel_99 rfl ?_
          exact hq1 I1 t' c' a' hF hP1 ht1 (li_x hLI hx) hG
        · have hlv : lvB (hnd T t') = l := by
            rcases lv_99 (hnd T t') with q | q
            · rw [if_pos q] at c55; exact (nI_eq (by omega) (by omega)).mp c55
            · rw [if_neg (by omega)] at c55; exact absurd c55.symm (nI_none (by omega))
          obtain ⟨hk3, hw2, hno, td1, htd1, htd2, hru, hnext⟩ := li_go ht1 hl4 hw hLI hlv hi0
          have hgt := nxT_gt ht1 (by omega)
          have hnx := nxT_ok ht1
          obtain ⟨j, rfl⟩ : ∃ j, D = j + 1 := ⟨D - 1, by omega⟩
          have hsg := sg_in (b := hnd T t') (by omega)
          have hg9 := hG.2.2.1
          have hn9 := ht1.1
          have hn8 := ht1.2.1
          refine w_aload_n dX1_readLevel_58 rfl ?_
          refine w_getR dX1_readLevel_59 flX1_12 rfl (hs.r (a := 77) (j := 0) (b := 78) 80 rfl) ?_
          refine w_getI dX1_readLevel_62 flX1_53 rfl ?_
          refine w_top (y := hnd T t') (hP1.1.2.1) ?_
          refine w_istore (al' := [_, _, _, _, _, _, _]) dX1_readLevel_65 rfl rfl rfl ?_
          refine w_aload_n dX1_readLevel_67 rfl ?_
          refine w_getR dX1_readLevel_68 flX1_12 rfl (hs.r (a := 77) (j := 0) (b := 78) 80 rfl) ?_
          refine c_Vv (t := 6) (as := []) (d' := 2) dX1_readLevel_71 mlX1_46 moX6_advance mvX6_advance ⟨rfl, rfl⟩ rfl rfl rfl rfl rfl (by omega) (sX6_next hs hz hb ht1 hP1.1 (fun I2 hA2 hT2 => ?_))
          refine w_aload_n dX1_readLevel_74 rfl ?_
          refine w_iload_n dX1_readLevel_75 rfl ?_
          refine w_iconst dX1_readLevel_76 ic_1 ?_
          refine w_iadd dX1_readLevel_77 ?_
          refine w_top (y := nI (l + 1)) (nI_1 l) ?_
          refine w_iload_n dX1_readLevel_78 rfl ?_
          refine w_iload_n dX1_readLevel_79 rfl ?_
          refine w_top (y := nI (nots (sgB (hnd T t') :: W))) (by rw [hno]) ?_
          refine c_Vv (t := 1) (as := [_, _, _]) (d' := j + 8) dX1_readLevel_80 mlX1_49 moX1_readLevel mvX1_readLevel ⟨rfl, rfl⟩ rfl rfl rfl rfl rfl (by omega) (ihL j rfl (l + 1) b (nxT T z t') (sgB (hnd T t') :: W) c' a' td1 I2 _ (by omega) hb8 (by rw [hno]; exact hm8) (by rw [hno]; omega) hw2 htd1 htd2 hnx.1 (hP1.adv hA2 hT2) (by omega) (fun I3 t3 c3 a3 hF3 hP3 ht3 hl3 hg3 => ?_) (fun I3 f hF3 hD3 hf3 hr3 => ?_))
          · refine w_aload_n dX1_readLevel_83 rfl ?_
            refine w_sipush dX1_readLevel_84 sp_20000 ?_
            refine w_iload dX1_readLevel_87 rfl ?_
            refine w_iadd dX1_readLevel_89 ?_
            refine w_top (y := cSym (sgB (hnd T t'))) (hsg.2.2.1.symm) ?_
            have hlen : c3.length < 96 := by have := hg3.2.2.1; have := hg3.2.2.2; have := ht3.1; have := ht3.2.1; omega
            refine c_Vv (t := 1) (as := [_]) (d' := 0) dX1_readLevel_90 mlX1_97 moX1_add mvX1_add ⟨rfl, rfl⟩ rfl rfl rfl rfl rfl (by omega) (sX1_add hs hP3.2.1 (by omega) (fun I4 hA4 hB4 hC4 hD4 => ?_))
            refine w_iinc (al' := [_, _, _, _, _, _, _]) dX1_readLevel_93 rfl rfl ic_1 rfl ?_
            refine w_goto (tgt := 37) dX1_readLevel_96 (by decide) ?_
            refine w_kill (i := 6) (al' := [_, _, _, _, _, _, _]) rfl ?_
            rw [nI_1]
            exact ih (i + 1) t3 (sgB (hnd T t') :: c3) a3 I4 (by omega) (by have := hg3.2.2.1; have := hg3.2.2.2; omega) (((hF.trans (FRP.of78 hA2)).trans hF3).trans (FRP.of7780 hA4)) (hP3.add rfl hA4 hB4 (hC4 hlen)) ht3 (hnext t3 c3 a3 hl3) (gr_sg ht1 (by omega) hG hg3)
          · refine w_aload_n dX1_readLevel_83 rfl ?_
            refine w_sipush dX1_readLevel_84 sp_20000 ?_
            refine w_iload dX1_readLevel_87 rfl ?_
            refine w_iadd dX1_readLevel_89 ?_
            obtain ⟨q9, hq9, e9⟩ := hD3.2.2.2
            refine c_Vv (t := 1) (as := [_]) (d' := 0) dX1_readLevel_90 mlX1_97 moX1_add mvX1_add ⟨rfl, rfl⟩ rfl rfl rfl rfl rfl (by omega) (sX1_add hs e9 hq9 (fun I4 hA4 hB4 hC4 hD4 => ?_))
            refine w_iinc (al' := [_, _, _, _, _, _, _]) dX1_readLevel_93 rfl rfl ic_1 rfl ?_
            refine w_goto (tgt := 37) dX1_readLevel_96 (by decide) ?_
            refine w_kill (i := 6) (al' := [_, _, _, _, _, _, _]) rfl ?_
            rw [nI_1]
            exact lX1_dead (D := j + 1) hs (by omega) (hD3.add hA4 hB4 hD4) (hq2 I4 f (((hF.trans (FRP.of78 hA2)).trans hF3).trans (FRP.of7780 hA4)) (hD3.add hA4 hB4 hD4) hf3 (hru _ hr3))
  exact lp

set_option maxRecDepth 20000 in
theorem sX1_level (hs : SK R N) {T : VV} {z key D : Nat} (hz : z ≤ 96) (hb : BY T z) (ihP : ∀ j, j + 1 = D → SPc sc L R N n T z key j) (ihL : ∀ j, j + 1 = D → SLv sc L R N n T z key j) : SLv sc L R N n T z key D := by
  intro l b t W c a td I Q hl5 hb8 hm8 hD hw htd htd2 ht hP hc hq1 hq2
  obtain ⟨j, rfl⟩ : ∃ j, D = j + 1 := ⟨D - 1, by omega⟩
  refine ca_in (al := [_, _, _, _, _, _, _]) rfl ?_
  refine w_iload_n dX1_readLevel_0 rfl ?_
  refine w_iconst dX1_readLevel_1 ic_4 ?_
  refine w_icmp_le (tgt := 12) dX1_readLevel_2 (by decide) (fun c2 => ?_) (fun c2 => ?_)
  · have hl4 : l ≤ 4 := (nI_leI (b := 4) (by omega) (by decide)).mp c2
    refine w_aload_n dX1_readLevel_12 rfl ?_
    refine w_iload_n dX1_readLevel_13 rfl ?_
    refine w_iconst dX1_readLevel_14 ic_1 ?_
    refine w_iadd dX1_readLevel_15 ?_
    refine w_top (y := nI (l + 1)) (nI_1 l) ?_
    refine w_iload_n dX1_readLevel_16 rfl ?_
    refine w_iload_n dX1_readLevel_17 rfl ?_
    refine c_Vv (t := 1) (as := [_, _, _]) (d' := j + 8) dX1_readLevel_18 mlX1_49 moX1_readLevel mvX1_readLevel ⟨rfl, rfl⟩ rfl rfl rfl rfl rfl (by omega) (ihL j rfl (l + 1) b t W c a td I _ (by omega) hb8 hm8 (by omega) (okW_up hw) htd (fun q => htd2 (by omega)) ht hP hc (fun I3 t3 c3 a3 hF3 hP3 ht3 hl3 hg3 => ?_) (fun I3 f hF3 hD3 hf3 hr3 => ?_))
    · refine w_iload_n dX1_readLevel_21 rfl ?_
      refine w_iconst dX1_readLevel_22 ic_2 ?_
      refine w_icmp_ne (tgt := 30) dX1_readLevel_23 (by decide) (fun c23 => ?_) (fun c23 => ?_)
      · have hl2 : l ≠ 2 := fun e => c23 (by rw [e]; rfl)
        refine w_bipush dX1_readLevel_30 bp_96 ?_
        refine w_istore (al' := [_, _, _, _, _, _, _]) dX1_readLevel_32 rfl rfl rfl ?_
        refine w_iconst dX1_readLevel_34 ic_0 ?_
        refine w_top (y := nI 0) (rfl) ?_
        refine w_istore (al' := [_, _, _, _, _, _, _]) dX1_readLevel_35 rfl rfl rfl ?_
        exact lX1_lvl (D := j + 1) hs hz hb ihL hl4 hb8 hm8 hD hw hc (mo := 96) (Or.inr ⟨hl2, rfl⟩) hq1 hq2 97 0 t3 c3 a3 I3 rfl (by have := hg3.2.2.1; have := hg3.2.2.2; omega) hF3 hP3 ht3 (li_0 htd2 hl3) hg3
      · have hl2 : l = 2 := (nI_eq (b := 2) (by omega) (by decide)).mp c23
        refine w_iconst dX1_readLevel_26 ic_1 ?_
        refine w_goto (tgt := 32) dX1_readLevel_27 (by decide) ?_
        refine w_istore (al' := [_, _, _, _, _, _, _]) dX1_readLevel_32 rfl rfl rfl ?_
        refine w_iconst dX1_readLevel_34 ic_0 ?_
        refine w_top (y := nI 0) (rfl) ?_
        refine w_istore (al' := [_, _, _, _, _, _, _]) dX1_readLevel_35 rfl rfl rfl ?_
        exact lX1_lvl (D := j + 1) hs hz hb ihL hl4 hb8 hm8 hD hw hc (mo := 1) (Or.inl ⟨hl2, rfl⟩) hq1 hq2 97 0 t3 c3 a3 I3 rfl (by have := hg3.2.2.1; have := hg3.2.2.2; omega) hF3 hP3 ht3 (li_0 htd2 hl3) hg3
    · refine w_iload_n dX1_readLevel_21 rfl ?_
      refine w_iconst dX1_readLevel_22 ic_2 ?_
      refine w_icmp_ne (tgt := 30) dX1_readLevel_23 (by decide) (fun c23 => ?_) (fun c23 => ?_)
      · have hl2 : l ≠ 2 := fun e => c23 (by rw [e]; rfl)
        refine w_bipush dX1_readLevel_30 bp_96 ?_
        refine w_istore (al' := [_, _, _, _, _, _, _]) dX1_readLevel_32 rfl rfl rfl ?_
        refine w_iconst dX1_readLevel_34 ic_0 ?_
        refine w_top (y := nI 0) (rfl) ?_
        refine w_istore (al' := [_, _, _, _, _, _, _]) dX1_readLevel_35 rfl rfl rfl ?_
        exact lX1_dead (D := j + 1) hs (by omega) hD3 (hq2 I3 f hF3 hD3 hf3 hr3)
      · have hl2 : l = 2 := (nI_eq (b := 2) (by omega) (by decide)).mp c23
        refine w_iconst dX1_readLevel_26 ic_1 ?_
        refine w_goto (tgt := 32) dX1_readLevel_27 (by decide) ?_
        refine w_istore (al' := [_, _, _, _, _, _, _]) dX1_readLevel_32 rfl rfl rfl ?_
        refine w_iconst dX1_readLevel_34 ic_0 ?_
        refine w_top (y := nI 0) (rfl) ?_
        refine w_istore (al' := [_, _, _, _, _, _, _]) dX1_readLevel_35 rfl rfl rfl ?_
        exact lX1_dead (D := j + 1) hs (by omega) hD3 (hq2 I3 f hF3 hD3 hf3 hr3)
  · obtain rfl : l = 5 := by rcases Nat.lt_or_ge 4 l with q | q; omega; exact absurd (nI_le (b := 4) q (by decide)) c2
    refine w_aload_n dX1_readLevel_5 rfl ?_
    refine w_iload_n dX1_readLevel_6 rfl ?_
    refine w_iload_n dX1_readLevel_7 rfl ?_
    refine c_Vv (t := 1) (as := [_, _]) (d' := j + 8) dX1_readLevel_8 mlX1_89 moX1_readPiece mvX1_readPiece ⟨rfl, rfl⟩ rfl rfl rfl rfl rfl (by omega) (ihP j rfl b t W c a td I _ hb8 hm8 (by omega) ht hP hc (fun I3 t3 c3 a3 hF3 hP3 ht3 hl3 hg3 => ?_) (fun I3 f hF3 hD3 hf3 hr3 => ?_))
    · refine w_return dX1_readLevel_11 rfl ?_
      exact hq1 I3 t3 c3 a3 hF3 hP3 ht3 (lv_lp hw htd hl3) hg3
    · refine w_return dX1_readLevel_11 rfl ?_
      exact hq2 I3 f hF3 hD3 hf3 hr3

theorem sX1_read (hs : SK R N) {T : VV} {z key : Nat} (hz : z ≤ 96) (hb : BY T z) (hk : key ≤ 2) : ∀ D : Nat, SPc sc L R N n T z key D ∧ SLv sc L R N n T z key D
  | 0 => ⟨sX1_piece hs hz hb hk (fun j h => absurd h (by omega)) (fun j h => absurd h (by omega)), fun l b t W c a td I Q hl5 hb8 hm8 hD => absurd hD (by omega)⟩
  | D + 1 => by
    have ih := sX1_read hs hz hb hk D
    have e : ∀ j, j + 1 = D + 1 → j = D := fun j h => by omega
    exact ⟨sX1_piece hs hz hb hk (fun j h => e j h ▸ ih.1) (fun j h => e j h ▸ ih.2), sX1_level hs hz hb (fun j h => e j h ▸ ih.1) (fun j h => e j h ▸ ih.2)⟩
end
