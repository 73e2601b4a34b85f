section
variable {sc : SC} {I : HI} {L : HL} {R : HR} {N : HN} {n : Nat} {Q : HQ}
def mostN (q : Nat) : Int32 := [99, 100, 99, 9, 9999, 99, 9999].getD q 0
def leastR (q : Nat) : Int32 := [0, 0, 1].getD q 0
def mostR (q : Nat) : Int32 := [99, 999, 30].getD q 0
theorem mostN_e {q : Nat} (h : q < 7) : (if nI q = 1 then (100 : Int32) else if nI q = 3 then 9 else if nI q = 4 ∨ nI q = 6 then 9999 else 99) = mostN q := by
  rcases (show q = 0 ∨ q = 1 ∨ q = 2 ∨ q = 3 ∨ q = 4 ∨ q = 5 ∨ q = 6 by omega) with rfl | rfl | rfl | rfl | rfl | rfl | rfl <;> decide
theorem leastR_e {q : Nat} (h : q < 3) : (if nI q = 2 then (1 : Int32) else 0) = leastR q := by
  rcases (show q = 0 ∨ q = 1 ∨ q = 2 by omega) with rfl | rfl | rfl <;> decide
theorem mostR_e {q : Nat} (h : q < 3) : (if nI q = 0 then (99 : Int32) else if nI q = 1 then 999 else 30) = mostR q := by
  rcases (show q = 0 ∨ q = 1 ∨ q = 2 by omega) with rfl | rfl | rfl <;> decide
theorem in_of {v : Int32} {m : Nat} (hm : m < 2147483648) (h : 0 ≤ v ∧ v ≤ nI m) : ∃ k, k ≤ m ∧ v = nI k := nI_rng hm h.1 h.2
theorem in_to {k m : Nat} (hm : m < 2147483648) (h : k ≤ m) : 0 ≤ nI k ∧ nI k ≤ nI m := ⟨nI_pos' (by omega), nI_le h hm⟩
theorem pr_of {v : Int32} {m : Nat} (hm : m < 2147483648) (h : 0 ≤ v ∧ v ≤ nI m - 1) : ∃ k, k < m ∧ v = nI k := by
  cases m with
  | zero => exact absurd (Int32.le_trans h.1 h.2) (by decide)
  | succ m =>
    rw [nI_pred] at h
    obtain ⟨k, h1, h2⟩ := in_of (by omega) h
    exact ⟨k, by omega, h2⟩
theorem pr_to {k m : Nat} (hm : m < 2147483648) (h : k < m) : 0 ≤ nI k ∧ nI k ≤ nI m - 1 := by
  cases m with
  | zero => omega
  | succ m => rw [nI_pred]; exact in_to (by omega) (by omega)
def isS (V : VV) (v : Int32) : Prop := 0 ≤ v ∧ v ≤ V 1 - 1
def isR (V : VV) (v : Int32) : Prop := 0 ≤ v ∧ v ≤ V 2 - 1
theorem isS_of {V : VV} (hV : VO V) {v : Int32} (h : isS V v) : ∃ s, s < nS V ∧ v = nI s := by
  unfold isS at h
  rw [hV.1.1] at h
  exact pr_of (by have := hV.1.2; omega) h
theorem isR_of {V : VV} (hV : VO V) {v : Int32} (h : isR V v) : ∃ r, r < nRu V ∧ v = nI r := by
  unfold isR at h
  rw [hV.2.1.1] at h
  exact pr_of (by have := hV.2.1.2; omega) h
theorem isS_to {V : VV} (hV : VO V) {s : Nat} (h : s < nS V) : isS V (nI s) := by
  unfold isS
  rw [hV.1.1]
  exact pr_to (by have := hV.1.2; omega) h
theorem isR_to {V : VV} (hV : VO V) {r : Nat} (h : r < nRu V) : isR V (nI r) := by
  unfold isR
  rw [hV.2.1.1]
  exact pr_to (by have := hV.2.1.2; omega) h
theorem inN_of {v : Int32} {m : Nat} (hm : m < 2147483648) (h : 0 ≤ v ∧ v ≤ nI m) : inN v 0 m := by
  obtain ⟨k, h1, h2⟩ := in_of hm h
  exact ⟨k, Nat.zero_le _, h1, h2⟩
def FC (q : Nat) : Prop := q = 0 ∨ (30 ≤ q ∧ (q < 59 ∨ 77 ≤ q))
def FM (q : Nat) : Prop := q ≠ 118 ∧ q ≠ 120 ∧ (q < 121 ∨ 129 ≤ q) ∧ (q < 132 ∨ 137 ≤ q) ∧ q ≠ 144

set_option maxRecDepth 20000 in
theorem sX9_fitsSort {q : Nat} (hq7 : q < 7) {v : Int32} (hq : Q (vI (bI (0 ≤ v ∧ v ≤ mostN q))) I L R N n) : CA sc 1 0 0 mX9_fitsSort [vI (nI q), vI v] I L R N n Q := by
  refine ca_in (al := [_, _]) rfl ?_
  refine w_iload_n dX9_fitsSort_0 rfl ?_
  refine w_iconst dX9_fitsSort_1 ic_0 ?_
  refine w_bipush dX9_fitsSort_2 bp_6 ?_
  refine c_S (as := [_, _, _]) (d' := 0) dX9_fitsSort_4 (Or.inl mlX9_86) moX9_within msX9_within rfl rfl rfl rfl rfl (by decide) (sX9_within ?_)
  refine w_ifB_eq (tgt := 27) dX9_fitsSort_7 (by decide) (fun c7 => ?_) (fun c7 => ?_)
  · exact absurd (in_to (m := 6) (by omega) (by omega)) c7
  · refine w_iload_n dX9_fitsSort_10 rfl ?_
    refine w_iconst dX9_fitsSort_11 ic_0 ?_
    refine w_gets0 dX9_fitsSort_12 wlX9_339 ?_
    refine w_iload_n dX9_fitsSort_15 rfl ?_
    refine w_sald dX9_fitsSort_16 (by decide) rfl (show svN sc 0 = 7 from rfl) hq7 ?_
    refine c_S (as := [_, _, _]) (d' := 0) dX9_fitsSort_17 (Or.inl mlX9_86) moX9_within msX9_within rfl rfl rfl rfl rfl (by decide) (sX9_within ?_)
    refine w_ifB_eq (tgt := 27) dX9_fitsSort_20 (by decide) (fun c20 => ?_) (fun c20 => ?_)
    · refine w_iconst dX9_fitsSort_27 ic_0 ?_
      refine w_ireturn dX9_fitsSort_28 rfl rfl ?_
      first | exact q_1 c20 hq | exact q_0 c20 hq
    · refine w_iconst dX9_fitsSort_23 ic_1 ?_
      refine w_goto (tgt := 28) dX9_fitsSort_24 (by decide) ?_
      refine w_ireturn dX9_fitsSort_28 rfl rfl ?_
      first | exact q_1 c20 hq | exact q_0 c20 hq

set_option maxRecDepth 20000 in
theorem sX9_fitsSortN {x v : Int32} (hx : ¬ (0 ≤ x ∧ x ≤ 6)) (hq : Q (vI (bI False)) I L R N n) : CA sc 1 0 0 mX9_fitsSort [vI x, vI v] I L R N n Q := by
  refine ca_in (al := [_, _]) rfl ?_
  refine w_iload_n dX9_fitsSort_0 rfl ?_
  refine w_iconst dX9_fitsSort_1 ic_0 ?_
  refine w_bipush dX9_fitsSort_2 bp_6 ?_
  refine c_S (as := [_, _, _]) (d' := 0) dX9_fitsSort_4 (Or.inl mlX9_86) moX9_within msX9_within rfl rfl rfl rfl rfl (by decide) (sX9_within ?_)
  refine w_ifB_eq (tgt := 27) dX9_fitsSort_7 (by decide) (fun c7 => ?_) (fun c7 => ?_)
  · refine w_iconst dX9_fitsSort_27 ic_0 ?_
    refine w_ireturn dX9_fitsSort_28 rfl rfl ?_
    exact q_0 id hq
  · exact absurd c7 hx

set_option maxRecDepth 20000 in
theorem sX9_fitsRule {q : Nat} (hq3 : q < 3) {v : Int32} (hq : Q (vI (bI (leastR q ≤ v ∧ v ≤ mostR q))) I L R N n) : CA sc 1 0 0 mX9_fitsRule [vI (nI q), vI v] I L R N n Q := by
  refine ca_in (al := [_, _]) rfl ?_
  refine w_iload_n dX9_fitsRule_0 rfl ?_
  refine w_iconst dX9_fitsRule_1 ic_0 ?_
  refine w_iconst dX9_fitsRule_2 ic_2 ?_
  refine c_S (as := [_, _, _]) (d' := 0) dX9_fitsRule_3 (Or.inl mlX9_86) moX9_within msX9_within rfl rfl rfl rfl rfl (by decide) (sX9_within ?_)
  refine w_ifB_eq (tgt := 30) dX9_fitsRule_6 (by decide) (fun c6 => ?_) (fun c6 => ?_)
  · exact absurd (in_to (m := 2) (by omega) (by omega)) c6
  · refine w_iload_n dX9_fitsRule_9 rfl ?_
    refine w_gets1 dX9_fitsRule_10 wlX9_342 ?_
    refine w_iload_n dX9_fitsRule_13 rfl ?_
    refine w_sald dX9_fitsRule_14 (by decide) rfl (show svN sc 1 = 3 from rfl) hq3 ?_
    refine w_gets2 dX9_fitsRule_15 wlX9_345 ?_
    refine w_iload_n dX9_fitsRule_18 rfl ?_
    refine w_sald dX9_fitsRule_19 (by decide) rfl (show svN sc 2 = 3 from rfl) hq3 ?_
    refine c_S (as := [_, _, _]) (d' := 0) dX9_fitsRule_20 (Or.inl mlX9_86) moX9_within msX9_within rfl rfl rfl rfl rfl (by decide) (sX9_within ?_)
    refine w_ifB_eq (tgt := 30) dX9_fitsRule_23 (by decide) (fun c23 => ?_) (fun c23 => ?_)
    · refine w_iconst dX9_fitsRule_30 ic_0 ?_
      refine w_ireturn dX9_fitsRule_31 rfl rfl ?_
      first | exact q_1 c23 hq | exact q_0 c23 hq
    · refine w_iconst dX9_fitsRule_26 ic_1 ?_
      refine w_goto (tgt := 31) dX9_fitsRule_27 (by decide) ?_
      refine w_ireturn dX9_fitsRule_31 rfl rfl ?_
      first | exact q_1 c23 hq | exact q_0 c23 hq

set_option maxRecDepth 20000 in
theorem sX9_fitsRuleN {x v : Int32} (hx : ¬ (0 ≤ x ∧ x ≤ 2)) (hq : Q (vI (bI False)) I L R N n) : CA sc 1 0 0 mX9_fitsRule [vI x, vI v] I L R N n Q := by
  refine ca_in (al := [_, _]) rfl ?_
  refine w_iload_n dX9_fitsRule_0 rfl ?_
  refine w_iconst dX9_fitsRule_1 ic_0 ?_
  refine w_iconst dX9_fitsRule_2 ic_2 ?_
  refine c_S (as := [_, _, _]) (d' := 0) dX9_fitsRule_3 (Or.inl mlX9_86) moX9_within msX9_within rfl rfl rfl rfl rfl (by decide) (sX9_within ?_)
  refine w_ifB_eq (tgt := 30) dX9_fitsRule_6 (by decide) (fun c6 => ?_) (fun c6 => ?_)
  · refine w_iconst dX9_fitsRule_30 ic_0 ?_
    refine w_ireturn dX9_fitsRule_31 rfl rfl ?_
    exact q_0 id hq
  · exact absurd c6 hx

set_option maxRecDepth 20000 in
theorem iU {j k : Nat} {kd one : Int32} (hj : j < 6) (hk : k < 6) (h1 : one = nI k → Q (vI 1) I L R N n) (h2 : one ≠ nI k → WP sc 2 0 0 mX9_isUnder 4 [vI kd, vI one, vI (svI sc 3 k), vI (nI (j + 1))] [] I L R N n Q) : WP sc 2 0 0 mX9_isUnder 4 [vI kd, vI one, vI (nI k), vI (nI j)] [] I L R N n Q := by
  refine w_iload_n dX9_isUnder_4 rfl ?_
  refine w_bipush dX9_isUnder_5 bp_6 ?_
  refine w_icmp_ge (tgt := 36) dX9_isUnder_7 (by decide) (fun c7 => ?_) (fun c7 => ?_)
  · exact absurd ((nI_leI (a := 6) (by omega) (by omega)).mp c7) (by omega)
  · refine w_iload_n dX9_isUnder_10 rfl ?_
    refine c_S (as := [_]) (d' := 1) dX9_isUnder_11 (Or.inl mlX9_106) moX9_isKind msX9_isKind rfl rfl rfl rfl rfl (by decide) (sX9_isKind ?_)
    refine w_ifB_eq (tgt := 36) dX9_isUnder_14 (by decide) (fun c14 => ?_) (fun c14 => ?_)
    · exact absurd (in_to (m := 5) (by omega) (by omega)) c14
    · refine w_iload_n dX9_isUnder_17 rfl ?_
      refine w_iload_n dX9_isUnder_18 rfl ?_
      refine w_icmp_ne (tgt := 24) dX9_isUnder_19 (by decide) (fun c19 => ?_) (fun c19 => ?_)
      · refine w_gets3 dX9_isUnder_24 wlX9_336 ?_
        refine w_iload_n dX9_isUnder_27 rfl ?_
        refine w_sald dX9_isUnder_28 (by decide) rfl (show svN sc 3 = 6 from rfl) hk ?_
        refine w_istore_n (al' := [_, _, _, _]) dX9_isUnder_29 rfl rfl rfl ?_
        refine w_iinc (al' := [_, _, _, _]) dX9_isUnder_30 rfl rfl ic_1 rfl ?_
        refine w_goto (tgt := 4) dX9_isUnder_33 (by decide) ?_
        simp only [nI_1]
        exact h2 (fun e => c19 e.symm)
      · refine w_iconst dX9_isUnder_22 ic_1 ?_
        refine w_ireturn dX9_isUnder_23 rfl rfl ?_
        exact h1 c19.symm

set_option maxRecDepth 20000 in
theorem iE {kd one i : Int32} (hq : Q (vI 0) I L R N n) : WP sc 2 0 0 mX9_isUnder 4 [vI kd, vI one, vI (-1), vI i] [] I L R N n Q := by
  refine w_iload_n dX9_isUnder_4 rfl ?_
  refine w_bipush dX9_isUnder_5 bp_6 ?_
  refine w_icmp_ge (tgt := 36) dX9_isUnder_7 (by decide) (fun c7 => ?_) (fun c7 => ?_)
  · refine w_iconst dX9_isUnder_36 ic_0 ?_
    refine w_ireturn dX9_isUnder_37 rfl rfl ?_
    exact hq
  · refine w_iload_n dX9_isUnder_10 rfl ?_
    refine c_S (as := [_]) (d' := 1) dX9_isUnder_11 (Or.inl mlX9_106) moX9_isKind msX9_isKind rfl rfl rfl rfl rfl (by decide) (sX9_isKind ?_)
    refine w_ifB_eq (tgt := 36) dX9_isUnder_14 (by decide) (fun c14 => ?_) (fun c14 => ?_)
    · refine w_iconst dX9_isUnder_36 ic_0 ?_
      refine w_ireturn dX9_isUnder_37 rfl rfl ?_
      exact hq
    · exact absurd c14.1 (by decide)

theorem uP0_0 {one : Int32} (e : one = nI 0) : under (nI 0) one := by subst e; unfold under; decide
theorem uN0 {one : Int32} (e0 : one ≠ nI 0) : ¬ under (nI 0) one := by
  unfold under
  rintro (h | h | ⟨h, h2⟩ | ⟨h, h2⟩)
  · exact e0 h
  · exact e0 h.symm
  · exact absurd h2 (by decide)
  · exact absurd h2 (by decide)
theorem uP1_0 {one : Int32} (e : one = nI 1) : under (nI 1) one := by subst e; unfold under; decide
theorem uP1_1 {one : Int32} (e : one = nI 0) : under (nI 1) one := by subst e; unfold under; decide
theorem uN1 {one : Int32} (e0 : one ≠ nI 1) (e1 : one ≠ nI 0) : ¬ under (nI 1) one := by
  unfold under
  rintro (h | h | ⟨h, h2⟩ | ⟨h, h2⟩)
  · exact e1 h
  · exact e0 h.symm
  · exact absurd h2 (by decide)
  · exact absurd h2 (by decide)
theorem uP2_0 {one : Int32} (e : one = nI 2) : under (nI 2) one := by subst e; unfold under; decide
theorem uP2_1 {one : Int32} (e : one = nI 0) : under (nI 2) one := by subst e; unfold under; decide
theorem uN2 {one : Int32} (e0 : one ≠ nI 2) (e1 : one ≠ nI 0) : ¬ under (nI 2) one := by
  unfold under
  rintro (h | h | ⟨h, h2⟩ | ⟨h, h2⟩)
  · exact e1 h
  · exact e0 h.symm
  · exact absurd h2 (by decide)
  · exact absurd h2 (by decide)
theorem uP3_0 {one : Int32} (e : one = nI 3) : under (nI 3) one := by subst e; unfold under; decide
theorem uP3_1 {one : Int32} (e : one = nI 1) : under (nI 3) one := by subst e; unfold under; decide
theorem uP3_2 {one : Int32} (e : one = nI 0) : under (nI 3) one := by subst e; unfold under; decide
theorem uN3 {one : Int32} (e0 : one ≠ nI 3) (e1 : one ≠ nI 1) (e2 : one ≠ nI 0) : ¬ under (nI 3) one := by
  unfold under
  rintro (h | h | ⟨h, h2⟩ | ⟨h, h2⟩)
  · exact e2 h
  · exact e0 h.symm
  · exact e1 h
  · exact absurd h2 (by decide)
theorem uP4_0 {one : Int32} (e : one = nI 4) : under (nI 4) one := by subst e; unfold under; decide
theorem uP4_1 {one : Int32} (e : one = nI 2) : under (nI 4) one := by subst e; unfold under; decide
theorem uP4_2 {one : Int32} (e : one = nI 0) : under (nI 4) one := by subst e; unfold under; decide
theorem uN4 {one : Int32} (e0 : one ≠ nI 4) (e1 : one ≠ nI 2) (e2 : one ≠ nI 0) : ¬ under (nI 4) one := by
  unfold under
  rintro (h | h | ⟨h, h2⟩ | ⟨h, h2⟩)
  · exact e2 h
  · exact e0 h.symm
  · exact absurd h2 (by decide)
  · exact e1 h
theorem uP5_0 {one : Int32} (e : one = nI 5) : under (nI 5) one := by subst e; unfold under; decide
theorem uP5_1 {one : Int32} (e : one = nI 0) : under (nI 5) one := by subst e; unfold under; decide
theorem uN5 {one : Int32} (e0 : one ≠ nI 5) (e1 : one ≠ nI 0) : ¬ under (nI 5) one := by
  unfold under
  rintro (h | h | ⟨h, h2⟩ | ⟨h, h2⟩)
  · exact e1 h
  · exact e0 h.symm
  · exact absurd h2 (by decide)
  · exact absurd h2 (by decide)
set_option maxRecDepth 20000 in
theorem sX9_isUnder {k : Nat} (hk : k < 6) {one : Int32} (hq : Q (vI (bI (under (nI k) one))) I L R N n) : CA sc 2 0 0 mX9_isUnder [vI (nI k), vI one] I L R N n Q := by
  refine ca_in (al := [_, _, _, _]) rfl ?_
  refine w_iload_n dX9_isUnder_0 rfl ?_
  refine w_istore_n (al' := [_, _, _, _]) dX9_isUnder_1 rfl rfl rfl ?_
  refine w_iconst dX9_isUnder_2 ic_0 ?_
  refine w_istore_n (al' := [_, _, _, _]) dX9_isUnder_3 rfl rfl rfl ?_
  rcases (show k = 0 ∨ k = 1 ∨ k = 2 ∨ k = 3 ∨ k = 4 ∨ k = 5 by omega) with rfl | rfl | rfl | rfl | rfl | rfl
  · by_cases hu : under (nI 0) one
    · exact iU (j := 0) (k := 0) (by decide) (by decide) (fun e0 => q_1 hu hq) (fun e0 => absurd hu (uN0 e0))
    · exact iU (j := 0) (k := 0) (by decide) (by decide) (fun e0 => absurd (uP0_0 e0) hu) (fun e0 => iE (q_0 hu hq))
  · by_cases hu : under (nI 1) one
    · exact iU (j := 0) (k := 1) (by decide) (by decide) (fun e0 => q_1 hu hq) (fun e0 => iU (j := 1) (k := 0) (by decide) (by decide) (fun e1 => q_1 hu hq) (fun e1 => absurd hu (uN1 e0 e1)))
    · exact iU (j := 0) (k := 1) (by decide) (by decide) (fun e0 => absurd (uP1_0 e0) hu) (fun e0 => iU (j := 1) (k := 0) (by decide) (by decide) (fun e1 => absurd (uP1_1 e1) hu) (fun e1 => iE (q_0 hu hq)))
  · by_cases hu : under (nI 2) one
    · exact iU (j := 0) (k := 2) (by decide) (by decide) (fun e0 => q_1 hu hq) (fun e0 => iU (j := 1) (k := 0) (by decide) (by decide) (fun e1 => q_1 hu hq) (fun e1 => absurd hu (uN2 e0 e1)))
    · exact iU (j := 0) (k := 2) (by decide) (by decide) (fun e0 => absurd (uP2_0 e0) hu) (fun e0 => iU (j := 1) (k := 0) (by decide) (by decide) (fun e1 => absurd (uP2_1 e1) hu) (fun e1 => iE (q_0 hu hq)))
  · by_cases hu : under (nI 3) one
    · exact iU (j := 0) (k := 3) (by decide) (by decide) (fun e0 => q_1 hu hq) (fun e0 => iU (j := 1) (k := 1) (by decide) (by decide) (fun e1 => q_1 hu hq) (fun e1 => iU (j := 2) (k := 0) (by decide) (by decide) (fun e2 => q_1 hu hq) (fun e2 => absurd hu (uN3 e0 e1 e2))))
    · exact iU (j := 0) (k := 3) (by decide) (by decide) (fun e0 => absurd (uP3_0 e0) hu) (fun e0 => iU (j := 1) (k := 1) (by decide) (by decide) (fun e1 => absurd (uP3_1 e1) hu) (fun e1 => iU (j := 2) (k := 0) (by decide) (by decide) (fun e2 => absurd (uP3_2 e2) hu) (fun e2 => iE (q_0 hu hq))))
  · by_cases hu : under (nI 4) one
    · exact iU (j := 0) (k := 4) (by decide) (by decide) (fun e0 => q_1 hu hq) (fun e0 => iU (j := 1) (k := 2) (by decide) (by decide) (fun e1 => q_1 hu hq) (fun e1 => iU (j := 2) (k := 0) (by decide) (by decide) (fun e2 => q_1 hu hq) (fun e2 => absurd hu (uN4 e0 e1 e2))))
    · exact iU (j := 0) (k := 4) (by decide) (by decide) (fun e0 => absurd (uP4_0 e0) hu) (fun e0 => iU (j := 1) (k := 2) (by decide) (by decide) (fun e1 => absurd (uP4_1 e1) hu) (fun e1 => iU (j := 2) (k := 0) (by decide) (by decide) (fun e2 => absurd (uP4_2 e2) hu) (fun e2 => iE (q_0 hu hq))))
  · by_cases hu : under (nI 5) one
    · exact iU (j := 0) (k := 5) (by decide) (by decide) (fun e0 => q_1 hu hq) (fun e0 => iU (j := 1) (k := 0) (by decide) (by decide) (fun e1 => q_1 hu hq) (fun e1 => absurd hu (uN5 e0 e1)))
    · exact iU (j := 0) (k := 5) (by decide) (by decide) (fun e0 => absurd (uP5_0 e0) hu) (fun e0 => iU (j := 1) (k := 0) (by decide) (by decide) (fun e1 => absurd (uP5_1 e1) hu) (fun e1 => iE (q_0 hu hq)))

end
