/-! A reader's days: what is owed, how he forgets, walk, limit, reads, never, and how he is ashamed. -/
abbrev PL : Type := VV × VV × Int32 × Int32 × Int32 × Int32 × (Int32 → Int32)
noncomputable def cif {α : Type} (p : Prop) (a b : α) : α := @ite α p (Classical.propDecidable p) a b
theorem cif_t {α : Type} {p : Prop} {a b : α} (h : p) : cif p a b = a := if_pos h
theorem cif_f {α : Type} {p : Prop} {a b : α} (h : ¬ p) : cif p a b = b := if_neg h
noncomputable def cstK (p : PL) : Nat → Int32
  | 0 => p.2.2.2.2.2.1
  | k + 1 => (p.2.1 (30 - k) * (cstK p k - p.2.2.2.2.1) + (100 - p.2.1 (30 - k)) * cif (p.1 (30 - k) ≤ p.2.2.2.1 ∧ p.2.2.1 + p.1 (30 - k) + p.2.2.2.2.2.2 (p.1 (30 - k)) ≤ cstK p k - p.2.2.2.2.1) (p.2.2.1 + p.1 (30 - k) + p.2.2.2.2.2.2 (p.1 (30 - k))) (cstK p k - p.2.2.2.2.1)) / 100
noncomputable def cst (p : PL) (d : Nat) : Int32 := cstK p (31 - d)
def pBri (p : PL) (d : Nat) : Int32 := p.2.2.1 + p.1 d + p.2.2.2.2.2.2 (p.1 d)
noncomputable def pKeep (p : PL) (d : Nat) : Int32 := cst p (d + 1) - p.2.2.2.2.1
def pBs (p : PL) (d : Nat) : Prop := p.1 d ≤ p.2.2.2.1 ∧ pBri p d ≤ pKeep p d
theorem cst_31 (p : PL) : cst p 31 = p.2.2.2.2.2.1 := rfl
theorem cst_lt (p : PL) {d : Nat} (h : d < 31) : cst p d = (p.2.1 d * pKeep p d + (100 - p.2.1 d) * cif (pBs p d) (pBri p d) (pKeep p d)) / 100 := by
  have e1 : 31 - d = (30 - d) + 1 := by omega
  have e2 : 30 - (30 - d) = d := by omega
  have e3 : 31 - (d + 1) = 30 - d := by omega
  unfold pBs pKeep cst pBri
  rw [e1, cstK, e2, e3]
noncomputable def pOB (p : PL) : Nat → Int32 × Int32
  | 0 => (1000000, 0)
  | d + 1 => ((pOB p d).1 - cif (pBs p d) ((pOB p d).1 * (100 - p.2.1 d) / 100) 0, 0)
/-- OUT ahead of a day -/
noncomputable def pOut (p : PL) (d : Nat) : Int32 := (pOB p d).1
noncomputable def pBr (p : PL) (d : Nat) : Int32 := cif (pBs p d) (pOut p d * (100 - p.2.1 d) / 100) 0
theorem pOut_0 (p : PL) : pOut p 0 = 1000000 := rfl
theorem pOut_s (p : PL) (d : Nat) : pOut p (d + 1) = pOut p d - pBr p d := rfl
/-- what is owed on a day by a rule's numbers; by the rule in force -/
def owRule (V : VV) (k a b c : Int32) : VV := fun d => owedR V k a b c (nI d)
def owAt (V : VV) (r : Nat) : VV := owRule V (V (48 + 4 * r)) (V (48 + 4 * r + 1)) (V (48 + 4 * r + 2)) (V (48 + 4 * r + 3))
def owV (V : VV) : VV := if V 3 < 0 then fun _ => 0 else owAt V (V 3).toNatClampNeg
/-- the days of a sort, by what is owed and the card -/
def plV (V : VV) (oF : VV) (cd : Int32) (s : Nat) : PL := (oF, fun d => forgV V (V (6 + 7 * s + 1)) cd (nI d), V (6 + 7 * s + 2), V (6 + 7 * s + 4), V (6 + 7 * s + 5), V (6 + 7 * s + 6), shamV V (V (6 + 7 * s + 3)))
section
variable {sc : SC} {d mc ms : Nat} {md : MD} {pc : Nat} {al st : List AV} {I : HI} {L : HL} {R : HR} {N : HN} {n : Nat} {Q : HQ}
/-- a name for the number on top -/
theorem w_name {x : Int32} (k : ∀ y : Int32, y = x → WP sc d mc ms md pc al (vI y :: st) I L R N n Q) : WP sc d mc ms md pc al (vI x :: st) I L R N n Q := k x rfl
/-- behind a store: a heap of which this is known -/
theorem w_st {k q : Nat} {x : Int32} (K : ∀ I' : HI, (∀ a, a ≠ k → I' a = I a) → (∀ j, j ≠ q → I' k j = I k j) → I' k q = x → WP sc d mc ms md pc al st I' L R N n Q) : WP sc d mc ms md pc al st (va_up I k (va_up (I k) q x)) L R N n Q :=
  K _ (fun _ h => va_up_ne _ _ h) (fun _ h => by rw [va_up_self, va_up_ne _ _ h]) (by rw [va_up_self, va_up_self])
/-- a name for the heap's numbers -/
theorem w_heap (k : ∀ I' : HI, I' = I → WP sc d mc ms md pc al st I' L R N n Q) : WP sc d mc ms md pc al st I L R N n Q := k I rfl
end
