/-! First days, draws, the library's sums. -/
noncomputable def frst (P : Nat → Prop) : Nat → Nat → Int32
  | 0, _ => -1000000005
  | k + 1, j => cif (P j) (nI j) (frst P k (j + 1))
def fstP (p : PL) (q : Nat) (d : Nat) : Prop := if q = 0 then pBs p d else if q = 1 then p.2.2.2.1 < p.1 d else pOut p (d + 1) ≤ 500000
/-- a drawn reader: the day (-1: none), and z behind it -/
noncomputable def drwF (p : PL) : Nat → Nat → Int32 → Int32 × Int32
  | 0, _, z => (-1, z)
  | k + 1, j, z => cif (p.2.1 j ≤ remI (drawV (drawZ z)) 100 ∧ pBs p j) (nI j, drawZ z) (drwF p k (j + 1) (drawZ z))
noncomputable def sumO (p : PL) : Nat → Int64
  | 0 => 0
  | d + 1 => sumO p d + (pOut p (d + 1)).toInt64
noncomputable def sumC (p : PL) : Nat → Int64
  | 0 => 0
  | d + 1 => sumC p d + (pBr p d).toInt64 * (p.1 d).toInt64
noncomputable def cardO (p : PL) (cd : Int32) : Int64 := if cd < 0 then 0 else (pOut p cd.toNatClampNeg).toInt64
/-- the library's four sums over the first sorts -/
noncomputable def libD (V oF : VV) (cd : Int32) : Nat → Int64
  | 0 => 0
  | s + 1 => libD V oF cd s + (V (6 + 7 * s)).toInt64 * sumO (plV V oF cd s) 31
noncomputable def libC (V oF : VV) (cd : Int32) : Nat → Int64
  | 0 => 0
  | s + 1 => libC V oF cd s + (V (6 + 7 * s)).toInt64 * sumC (plV V oF cd s) 31
noncomputable def libL (V oF : VV) (cd : Int32) : Nat → Int64
  | 0 => 0
  | s + 1 => libL V oF cd s + (V (6 + 7 * s)).toInt64 * (pOut (plV V oF cd s) 31).toInt64
noncomputable def libK (V oF : VV) (cd : Int32) : Nat → Int64
  | 0 => 0
  | s + 1 => libK V oF cd s + (V (6 + 7 * s)).toInt64 * cardO (plV V oF cd s) cd
-- what a number that isn't of sorts, rules' c or kind, or texts changes
def same80 (V V' : VV) : Prop := V' 5 = V 5 ∧ ∀ i, 80 ≤ i → V' i = V i
theorem lastT_80 {V V' : VV} (h : same80 V V') (key : Nat) : ∀ n, lastT V' key n = lastT V key n
  | 0 => rfl
  | n + 1 => by rw [lastT, lastT, h.2 (80 + 2 * n) (by omega), lastT_80 h key n]
theorem cntV_80 {V V' : VV} (h : same80 V V') (key : Nat) : cntV V' key = cntV V key := by
  unfold cntV nTx
  rw [h.1, lastT_80 h]
theorem tCode_80 {V V' : VV} (h : same80 V V') (t : Nat) : tCode V' t = tCode V t := funext fun j => h.2 _ (by omega)
theorem tLen_80 {V V' : VV} (h : same80 V V') (t : Nat) : tLen V' t = tLen V t := by unfold tLen; rw [h.2 _ (by omega)]
theorem tKey_80 {V V' : VV} (h : same80 V V') (t : Nat) : tKey V' t = tKey V t := by unfold tKey; rw [h.2 _ (by omega)]
theorem plainV_80 {V V' : VV} (h : same80 V V') (a b d : Int32) : plainV V' a b d = plainV V a b d := by
  unfold plainV
  rw [cntV_80 h]
  cases cntV V 0 with
  | none => rfl
  | some t => show clampI (evV (tCode V' t) (tLen V' t) d a b) 0 999 = clampI (evV (tCode V t) (tLen V t) d a b) 0 999; rw [tCode_80 h, tLen_80 h]
theorem owRule_80 {V V' : VV} (h : same80 V V') (k a b c : Int32) : owRule V' k a b c = owRule V k a b c := by
  funext d
  unfold owRule owedR
  rw [plainV_80 h]
theorem forgV_80 {V V' : VV} (h : same80 V V') (f cd d : Int32) : forgV V' f cd d = forgV V f cd d := by
  unfold forgV
  rw [cntV_80 h]
  cases cntV V 2 with
  | none => rfl
  | some t => show clampI (evV (tCode V' t) (tLen V' t) d f 0) 0 100 = clampI (evV (tCode V t) (tLen V t) d f 0) 0 100; rw [tCode_80 h, tLen_80 h]
theorem shamV_80 {V V' : VV} (h : same80 V V') (s o : Int32) : shamV V' s o = shamV V s o := by
  unfold shamV
  rw [cntV_80 h]
  cases cntV V 1 with
  | none => rfl
  | some t => show clampI (evV (tCode V' t) (tLen V' t) o s 0) 0 9999 = clampI (evV (tCode V t) (tLen V t) o s 0) 0 9999; rw [tCode_80 h, tLen_80 h]
theorem plV_80 {V V' : VV} (h : same80 V V') {s : Nat} (hs : ∀ i, 6 ≤ i → i < 48 → V' i = V i) (h6 : s < 6) (oF : VV) (cd : Int32) : plV V' oF cd s = plV V oF cd s := by
  unfold plV
  rw [hs (6 + 7 * s + 1) (by omega) (by omega), hs (6 + 7 * s + 2) (by omega) (by omega), hs (6 + 7 * s + 3) (by omega) (by omega), hs (6 + 7 * s + 4) (by omega) (by omega), hs (6 + 7 * s + 5) (by omega) (by omega), hs (6 + 7 * s + 6) (by omega) (by omega)]
  have e1 : (fun d => forgV V' (V (6 + 7 * s + 1)) cd (nI d)) = fun d => forgV V (V (6 + 7 * s + 1)) cd (nI d) := funext fun d => forgV_80 h _ _ _
  have e2 : shamV V' (V (6 + 7 * s + 3)) = shamV V (V (6 + 7 * s + 3)) := funext fun z => shamV_80 h _ _
  rw [e1, e2]
theorem lib_80 {V V' : VV} (h : same80 V V') (hs : ∀ i, 6 ≤ i → i < 48 → V' i = V i) (oF : VV) (cd : Int32) : ∀ s, s ≤ 6 → libD V' oF cd s = libD V oF cd s ∧ libC V' oF cd s = libC V oF cd s ∧ libL V' oF cd s = libL V oF cd s ∧ libK V' oF cd s = libK V oF cd s
  | 0, _ => ⟨rfl, rfl, rfl, rfl⟩
  | s + 1, h6 => by
    obtain ⟨h1, h2, h3, h4⟩ := lib_80 h hs oF cd s (by omega)
    unfold libD libC libL libK
    rw [h1, h2, h3, h4, plV_80 h hs (by omega), hs (6 + 7 * s) (by omega) (by omega)]
    exact ⟨rfl, rfl, rfl, rfl⟩
theorem okText_80 {V V' : VV} (h : same80 V V') {t : Nat} (ht : okText V t) : okText V' t := by
  unfold okText
  rw [tKey_80 h, tLen_80 h, tCode_80 h, h.2 _ (by omega)]
  exact ht
