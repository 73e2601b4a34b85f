/-! What the numbers are. -/
def clampI (v lo hi : Int32) : Int32 := if v < lo then lo else if hi < v then hi else v
def worthF (k a b c : Int32) : Int32 := if k = 1 then a + b else if k = 2 then b else if k = 3 then a + b - c else if k = 4 then b + c else if k = 5 then 1 else a
def owedF (k b c plain day : Int32) : Int32 := if k = 1 then day * plain else if k = 2 then plain + b else if k = 3 then (if b < day * plain then b else day * plain) else if k = 4 then (if day - day / c * c = 0 then 0 else plain + b) else if k = 5 then 0 else plain
def under (kind one : Int32) : Prop := one = 0 ∨ kind = one ∨ (one = 1 ∧ kind = 3) ∨ (one = 2 ∧ kind = 4)
def drawZ (z : Int32) : Int32 := z * 1103515245 + 12345
def drawV (z : Int32) : Int32 := ushr z 8
def remI (x y : Int32) : Int32 := x - x / y * y
theorem q_1 {p : Prop} {I : HI} {L : HL} {R : HR} {N : HN} {n : Nat} {Q : HQ} (h : p) (hq : Q (vI (bI p)) I L R N n) : Q (vI 1) I L R N n := bI_1 h ▸ hq
theorem q_0 {p : Prop} {I : HI} {L : HL} {R : HR} {N : HN} {n : Nat} {Q : HQ} (h : ¬ p) (hq : Q (vI (bI p)) I L R N n) : Q (vI 0) I L R N n := bI_0 h ▸ hq
theorem q_e {x y : Int32} {I : HI} {L : HL} {R : HR} {N : HN} {n : Nat} {Q : HQ} (h : x = y) (hq : Q (vI x) I L R N n) : Q (vI y) I L R N n := h ▸ hq
/-- a switch's number is none of those that it names -/
theorem sw_lt {x : Int32} {a : Int} (h : x.toInt < a) {b : Int} : x.toInt < a ∨ b < x.toInt := Or.inl h
theorem i_ne {x k : Int32} {a : Int} (hk : k.toInt = a) (h : ¬ x = k) : ¬ x.toInt = a := fun q => h (Int32.toInt_inj.mp (by rw [hk]; exact q))
