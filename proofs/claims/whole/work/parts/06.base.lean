/-! THE LIGHT MACHINE. A value is a number, a long, a reference (kind, place), a constant reference, nothing, or unset; a heap is what numbers, longs and references lie at (place, index), how long each array is, and how many places there are. WP says: from here the real machine comes to the method's end, and Q holds there. -/
abbrev AV : Type := Int32 ⊕ (Int64 ⊕ ((Nat × Nat) ⊕ (Nat ⊕ Bool)))
abbrev vI (x : Int32) : AV := Sum.inl x
abbrev vL (x : Int64) : AV := Sum.inr (Sum.inl x)
abbrev vR (t k : Nat) : AV := Sum.inr (Sum.inr (Sum.inl (t, k)))
abbrev vS (j : Nat) : AV := Sum.inr (Sum.inr (Sum.inr (Sum.inl j)))
abbrev vN : AV := Sum.inr (Sum.inr (Sum.inr (Sum.inr false)))
abbrev vU : AV := Sum.inr (Sum.inr (Sum.inr (Sum.inr true)))
abbrev HI : Type := Nat → Nat → Int32
abbrev HL : Type := Nat → Nat → Int64
abbrev HR : Type := Nat → Nat → Option Nat
abbrev HN : Type := Nat → Nat
abbrev HQ : Type := AV → HI → HL → HR → HN → Nat → Prop
abbrev SC : Type := Nat × (Nat → Int32)
abbrev EN : Type := va_G × (Nat → ClassId) × (Nat → Nat) × Nat
def cv (ρ σ : Nat → Nat) : AV → Value
  | .inl x => .int x
  | .inr (.inl x) => .long x
  | .inr (.inr (.inl q)) => .ref (ρ q.2)
  | .inr (.inr (.inr (.inl j))) => .ref (σ j)
  | .inr (.inr (.inr (.inr _))) => .null
def acat : AV → Nat
  | .inr (.inl _) => 2
  | _ => 1
theorem cv_cat (ρ σ : Nat → Nat) (v : AV) : (cv ρ σ v).category = acat v := by
  rcases v with x | x | q | j | b <;> rfl
theorem cv_sum (ρ σ : Nat → Nat) (l : List AV) : ((l.map (cv ρ σ)).map fun v => v.category).sum = (l.map acat).sum := by
  rw [List.map_map]
  congr 1
  exact List.map_congr_left fun v _ => cv_cat ρ σ v
/-- a reference out of a row or a field -/
def rv (t : Nat) : Option Nat → AV
  | some k => vR t k
  | none => vN
theorem cv_rv (ρ σ : Nat → Nat) (t : Nat) (r : Option Nat) : cv ρ σ (rv t r) = va_rf (r.map ρ) := by cases r <;> rfl
/-- what an array of references holds -/
def et : Nat → Nat
  | 14 => 3 | 15 => 4 | 16 => 5 | 17 => 7 | _ => 12
def fval (ρ : Nat → Nat) (I : HI) (L : HL) (R : HR) (k j : Nat) : Nat → Value
  | 0 => .int (I k j)
  | 1 => .long (L k j)
  | _ => va_rf ((R k j).map ρ)
def ce (cy : Nat → ClassId) (ρ : Nat → Nat) (T : HN) (I : HI) (L : HL) (R : HR) (N : HN) (k : Nat) : va_E :=
  if T k < 11 then .inr (T k, (List.range (nf (T k))).map (fun j => fval ρ I L R k j (fk (T k) j)))
  else if T k < 14 then .inl (cy (T k), N k, .inl (I k))
  else .inl (cy (T k), N k, .inr (.inr (.inr (.inr (fun i => (R k i).map ρ)))))
def wsl (cy : Nat → ClassId) (ρ : Nat → Nat) (T : HN) (I : HI) (L : HL) (R : HR) (N : HN) (n : Nat) : va_W := (List.range n).map (fun k => (ρ k, ce cy ρ T I L R N k))
def tysOf (cy : Nat → ClassId) : List (ClassId × FieldType) := [(cy 11, .char), (cy 12, .int), (cy 13, .boolean), (cy 14, .object "FineSlot$Rule"), (cy 15, .object "FineSlot$Sheet"), (cy 16, .object "FineSlot$Slot"), (cy 17, .object "FineSlot$Text"), (cy 18, .array .int)]
def WT (T : HN) (R : HR) (n : Nat) : Prop := ∀ k, k < n → ∀ (j a : Nat), R k j = some a → (T k < 11 → 2 ≤ fk (T k) j → a < n ∧ T a + 2 = fk (T k) j) ∧ (14 ≤ T k → a < n ∧ T a = et (T k))
def okv (T : HN) (n : Nat) : AV → Prop
  | .inr (.inr (.inl q)) => q.2 < n ∧ T q.2 = q.1
  | .inr (.inr (.inr (.inl j))) => j < 18
  | _ => True
def EA (e : EN) : Nat → Prop := fun q => e.2.2.2 ≤ q
/-- the constant arrays 0 .. 3, and the script, 4 -/
def svN (sc : SC) : Nat → Nat
  | 0 => 7 | 1 => 3 | 2 => 3 | 3 => 6 | _ => sc.1
def svI (sc : SC) : Nat → Nat → Int32
  | 0 => fun j => [99, 100, 99, 9, 9999, 99, 9999].getD j 0
  | 1 => fun j => [0, 0, 1].getD j 0
  | 2 => fun j => [99, 999, 30].getD j 0
  | 3 => fun j => [-1, 0, 0, 1, 2, 0].getD j 0
  | _ => sc.2
/-- the words that hold of every method's start -/
def va_AI (U : State) : Prop := (Cond.arrayOver (.array .int)).before #[] U = true
/-- the texts 5 .. 10, their bytes 11 .. 16 -/
def stT : List String := ["owe", "shame", "forget", "dab", "os", "df"]
def stX : List Nat := [73, 79, 81, 83, 85, 87]
def stN : List Nat := [3, 5, 6, 3, 2, 2]
def stB : List (List Int32) := [[111, 119, 101], [115, 104, 97, 109, 101], [102, 111, 114, 103, 101, 116], [100, 97, 98], [111, 115], [100, 102]]
def SF (sc : SC) (e : EN) (U : State) (H : Heap) : Prop :=
  (∀ j, j < 5 → va_T .int (e.2.2.1 j) (svN sc j) (fun i => .int (svI sc j i)) (EA e) U H) ∧
  va_Z "FineSlot" "MOST_OF_SORT" "[I" (.ref (e.2.2.1 0)) (EA e) U H ∧ va_Z "FineSlot" "LEAST_OF_RULE" "[I" (.ref (e.2.2.1 1)) (EA e) U H ∧
  va_Z "FineSlot" "MOST_OF_RULE" "[I" (.ref (e.2.2.1 2)) (EA e) U H ∧ va_Z "FineSlot" "KIND_ABOVE" "[I" (.ref (e.2.2.1 3)) (EA e) U H ∧
  va_Z "java/lang/String" "COMPACT_STRINGS" "Z" (.int 1) (EA e) U H ∧ (va_Z "jdk/internal/util/Preconditions" "SIOOBE_FORMATTER" "Ljava/util/function/BiFunction;" .null (EA e) U H ∨ va_Z "jdk/internal/util/Preconditions" "SIOOBE_FORMATTER" "Ljava/util/function/BiFunction;" (.ref (e.2.2.1 17)) (EA e) U H) ∧
  vk_S 6 stN stB (fun i => e.2.2.1 (5 + i)) (fun i => e.2.2.1 (11 + i)) (EA e) U H ∧
  (∀ i, i < 6 → vk_R RX1 (stX.getD i 0) (stT.getD i "") (e.2.2.1 (5 + i)) U) ∧
  (∀ q ∈ nestL, va_Nw (.methodLinkNest q.1 q.2.1 q.2.2.1 q.2.2.2) U) ∧ (∀ C ∈ [RX3, RX4, RX5, RX7], va_AO C U) ∧ va_AI U
def nlong (al : List AV) : Nat → Bool
  | 0 => true
  | k + 1 => match al[k]? with
    | some (.inr (.inl _)) => false
    | _ => true
def Lr (ρ σ : Nat → Nat) (al : List AV) (ls : Array Slot) : Prop := ls.size = al.length ∧ lv_wf ls ∧ ∀ (i : Nat) (v : AV), al[i]? = some v → v ≠ vU → ls[i]? = some (.val (cv ρ σ v))
def EX (n0 : Nat) (ρ0 : Nat → Nat) (T0 : HN) (n : Nat) (ρ : Nat → Nat) (T : HN) : Prop := n0 ≤ n ∧ ∀ k, k < n0 → ρ k = ρ0 k ∧ T k = T0 k
/-- the heap's world -/
def HW (e : EN) (ρ : Nat → Nat) (T : HN) (I : HI) (L : HL) (R : HR) (N : HN) (n : Nat) (U : State) (H : Heap) : Prop :=
  va_K e.1 vwCl (tysOf e.2.1) U ∧ va_P e.1 vwCl (wsl e.2.1 ρ T I L R N n) H ∧ va_D (EA e) (wsl e.2.1 ρ T I L R N n) ∧ WT T R n
def rvO (ρ σ : Nat → Nat) : AV → Option Value
  | .inr (.inr (.inr (.inr true))) => none
  | v => some (cv ρ σ v)
def QM (md : MD) (e : EN) (n0 : Nat) (ρ0 : Nat → Nat) (T0 : HN) (Q : HQ) : Array Value → State → Outcome → State → Prop := fun _ st oc t =>
  ∃ (r : AV) (I : HI) (L : HL) (R : HR) (N : HN) (n : Nat) (ρ : Nat → Nat) (T : HN), oc = .returned (rvO ρ e.2.2.1 r) ∧ (r = vU ↔ md.2.2.2 = none) ∧ okv T n r ∧ Q r I L R N n ∧ HW e ρ T I L R N n t t.heap ∧ EX n0 ρ0 T0 n ρ T ∧ va_F (EA e) st t
def CX (sc : SC) (d mc ms : Nat) (md : MD) (al st : List AV) (I : HI) (L : HL) (R : HR) (N : HN) (n : Nat) (e : EN) (ρ : Nat → Nat) (T : HN) (n0 : Nat) (ρ0 : Nat → Nat) (T0 : HN) (p : Program) (Rm : Room) (s : State) (m : MethodId) (args : Array Value) (meth : Method) (c : Code) (H : Heap) (locs : List Loc) (cells slots : Nat) (ls : Array Slot) : Prop :=
  (p.tables.exec = Jvm.exec ∧ c.code = md.2.1 ∧ meth.sig.returnType = md.2.2.2 ∧ c.maxLocals = md.2.2.1 ∧ s.vm.findClass md.1.cls = some m.cls ∧ (∀ w ∈ gw, w.before args s = true) ∧ meth.locks = false ∧ meth.name = md.1.name) ∧
  (d ≤ Rm.frames ∧ 64 * d ≤ Rm.locals ∧ cells + mc ≤ Rm.cells ∧ slots + ms ≤ Rm.slots) ∧
  (Lr ρ e.2.2.1 al ls ∧ al.length = md.2.2.1) ∧ (∀ v ∈ al, okv T n v) ∧ (∀ v ∈ st, okv T n v) ∧
  HW e ρ T I L R N n s H ∧ va_S (EA e) s.heap H locs ∧ SF sc e s s.heap ∧ e.2.2.2 ≤ s.heap.size ∧ EX n0 ρ0 T0 n ρ T
def WP (sc : SC) (d mc ms : Nat) (md : MD) (pc : Nat) (al st : List AV) (I : HI) (L : HL) (R : HR) (N : HN) (n : Nat) (Q : HQ) : Prop :=
  ∀ (e : EN) (ρ : Nat → Nat) (T : HN) (n0 : Nat) (ρ0 : Nat → Nat) (T0 : HN) (p : Program) (l : Launch) (en : Env) (Rm : Room) (s : State) (m : MethodId) (args : Array Value) (below : List Frame) (meth : Method) (c : Code) (H : Heap) (locs : List Loc) (cells slots : Nat) (ls : Array Slot),
    CX sc d mc ms md al st I L R N n e ρ T n0 ρ0 T0 p Rm s m args meth c H locs cells slots ls →
    W p l en Rm s m args below meth c H locs cells slots (MQ below (QM md e n0 ρ0 T0 Q) args s Rm.cells Rm.slots (EA e)) (F0 m pc ls (st.map (cv ρ e.2.2.1)))
section
variable {sc : SC} {d mc ms : Nat} {md : MD} {pc : Nat} {al st : List AV} {I : HI} {L : HL} {R : HR} {N : HN} {n : Nat} {Q : HQ} {e : EN} {ρ : Nat → Nat} {T : HN} {n0 : Nat} {ρ0 : Nat → Nat} {T0 : HN} {p : Program} {l : Launch} {en : Env} {Rm : Room} {s : State} {m : MethodId} {args : Array Value} {below : List Frame} {meth : Method} {c : Code} {H : Heap} {locs : List Loc} {cells slots : Nat} {ls : Array Slot}
theorem CX.stack {st' : List AV} (h : CX sc d mc ms md al st I L R N n e ρ T n0 ρ0 T0 p Rm s m args meth c H locs cells slots ls) (hv : ∀ v ∈ st', okv T n v) : CX sc d mc ms md al st' I L R N n e ρ T n0 ρ0 T0 p Rm s m args meth c H locs cells slots ls := by
  obtain ⟨h1, h2, h3, h4, h5, h6⟩ := h
  exact ⟨h1, h2, h3, h4, hv, h6⟩
theorem CX.locals {al' : List AV} {ls' : Array Slot} {st' : List AV} (h : CX sc d mc ms md al st I L R N n e ρ T n0 ρ0 T0 p Rm s m args meth c H locs cells slots ls) (hl : Lr ρ e.2.2.1 al' ls') (hn : al'.length = al.length) (ha : ∀ v ∈ al', okv T n v) (hv : ∀ v ∈ st', okv T n v) : CX sc d mc ms md al' st' I L R N n e ρ T n0 ρ0 T0 p Rm s m args meth c H locs cells slots ls' := by
  obtain ⟨h1, h2, h3, h4, h5, h6⟩ := h
  exact ⟨h1, h2, ⟨hl, hn.trans h3.2⟩, ha, hv, h6⟩
/-- one step that leaves heap and locals -/
theorem w_go {st' : List AV} {pc' : Nat} (hv : ∀ (T : HN) (n : Nat), (∀ v ∈ al, okv T n v) → (∀ v ∈ st, okv T n v) → ∀ v ∈ st', okv T n v)
    (hs : ∀ (e : EN) (ρ : Nat → Nat) (p : Program) (l : Launch) (en : Env) (Rm : Room) (s : State) (m : MethodId) (args : Array Value) (below : List Frame) (meth : Method) (c : Code) (H : Heap) (locs : List Loc) (cells slots : Nat) (ls : Array Slot) (Z : State → Prop),
      p.tables.exec = Jvm.exec → c.code = md.2.1 → s.vm.findClass md.1.cls = some m.cls → (∀ w ∈ gw, w.before args s = true) → Lr ρ e.2.2.1 al ls → SF sc e s s.heap → va_S (EA e) s.heap H locs →
      W p l en Rm s m args below meth c H locs cells slots Z (F0 m pc' ls (st'.map (cv ρ e.2.2.1))) → W p l en Rm s m args below meth c H locs cells slots Z (F0 m pc ls (st.map (cv ρ e.2.2.1))))
    (k : WP sc d mc ms md pc' al st' I L R N n Q) : WP sc d mc ms md pc al st I L R N n Q := by
  intro e ρ T n0 ρ0 T0 p l en Rm s m args below meth c H locs cells slots ls h
  have h' := h
  obtain ⟨⟨g1, g2, -, -, g5, g6, -⟩, -, ⟨h3, -⟩, h4, h5, -, h7, h8, -⟩ := h
  exact hs e ρ p l en Rm s m args below meth c H locs cells slots ls _ g1 g2 g5 g6 h3 h8 h7 (k e ρ T n0 ρ0 T0 p l en Rm s m args below meth c H locs cells slots ls (h'.stack (hv T n h4 h5)))
end
