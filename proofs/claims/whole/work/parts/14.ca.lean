/-! Calls in a shorter dress; constants. -/
/-- from a method's entry, with these arguments -/
def CA (sc : SC) (d mc ms : Nat) (md : MD) (as : List AV) (I : HI) (L : HL) (R : HR) (N : HN) (n : Nat) (Q : HQ) : Prop := WP sc d mc ms md 0 (ent as md.2.2.1) [] I L R N n Q
section
variable {sc : SC} {d d' mc ms mc' ms' : Nat} {md md' : MD} {pc : Nat} {al rest as st : List AV} {I : HI} {L : HL} {R : HR} {N : HN} {n : Nat} {Q : HQ} {idx na t k : Nat} {ty : FieldType}
theorem ca_in (h : ent as md.2.2.1 = al) (k : WP sc d mc ms md 0 al [] I L R N n Q) : CA sc d mc ms md as I L R N n Q := by
  subst h; exact k
theorem c_V (hd : decode md.2.1 pc = .ok (.invokevirtual idx, 3)) (hl : Cond.methodLink md.1.cls idx md'.1 ∈ gw) (ho : MO md' na) (hv : MV md') (hc : Nat.ble (t + 1) 11 = true ∧ (cT t).1 = md'.1.cls) (hr : md'.2.2.2 = some ty) (hst : st = as.reverse ++ vR t k :: rest) (hna : as.length = na) (hlen : Nat.ble (spr (vR t k :: as)).length md'.2.2.1 = true) (hroom : Nat.ble (rest.map acat).sum 8 = true) (hdp : d' + 1 ≤ d)
    (K : CA sc d' 0 0 md' (vR t k :: as) I L R N n (fun r I L R N n => WP sc d mc ms md (pc + 3) al (r :: rest) I L R N n Q)) : WP sc d mc ms md pc al st I L R N n Q :=
  w_callV (mc' := 0) (ms' := 0) hd hl ho hv (Nat.le_of_ble_eq_true hc.1) hc.2 hr hst hna (Nat.le_of_ble_eq_true hlen) (Nat.le_of_ble_eq_true hroom) hdp K
theorem c_Vv (hd : decode md.2.1 pc = .ok (.invokevirtual idx, 3)) (hl : Cond.methodLink md.1.cls idx md'.1 ∈ gw) (ho : MO md' na) (hv : MV md') (hc : Nat.ble (t + 1) 11 = true ∧ (cT t).1 = md'.1.cls) (hr : md'.2.2.2 = none) (hst : st = as.reverse ++ vR t k :: rest) (hna : as.length = na) (hlen : Nat.ble (spr (vR t k :: as)).length md'.2.2.1 = true) (hroom : Nat.ble (rest.map acat).sum 8 = true) (hdp : d' + 1 ≤ d)
    (K : CA sc d' 0 0 md' (vR t k :: as) I L R N n (fun _ I L R N n => WP sc d mc ms md (pc + 3) al rest I L R N n Q)) : WP sc d mc ms md pc al st I L R N n Q :=
  w_callVv (mc' := 0) (ms' := 0) hd hl ho hv (Nat.le_of_ble_eq_true hc.1) hc.2 hr hst hna (Nat.le_of_ble_eq_true hlen) (Nat.le_of_ble_eq_true hroom) hdp K
theorem c_Vm (hd : decode md.2.1 pc = .ok (.invokevirtual idx, 3)) (hl : Cond.methodLink md.1.cls idx md'.1 ∈ gw) (ho : MO md' na) (hv : MV md') (hc : Nat.ble (t + 1) 11 = true ∧ (cT t).1 = md'.1.cls) (hr : md'.2.2.2 = some ty) (hst : st = as.reverse ++ vR t k :: rest) (hna : as.length = na) (hlen : Nat.ble (spr (vR t k :: as)).length md'.2.2.1 = true) (hroom : Nat.ble (rest.map acat).sum 8 = true) (hdp : d' + 1 ≤ d)
    (K : CA sc d' mc' ms' md' (vR t k :: as) I L R N n (fun r I L R N n => WP sc d mc ms md (pc + 3) al (r :: rest) I L R N n Q)) : WP sc d (mc + mc') (ms + ms') md pc al st I L R N n Q :=
  w_callV hd hl ho hv (Nat.le_of_ble_eq_true hc.1) hc.2 hr hst hna (Nat.le_of_ble_eq_true hlen) (Nat.le_of_ble_eq_true hroom) hdp K
theorem c_T {j : Nat} (hd : decode md.2.1 pc = .ok (.invokevirtual idx, 3)) (hl : Cond.methodLink md.1.cls idx md'.1 ∈ gw) (ho : MO md' na) (hv : MV md') (hj : j < 6) (hc : md'.1.cls = "java/lang/String") (hr : md'.2.2.2 = some ty) (hst : st = as.reverse ++ vS (5 + j) :: rest) (hna : as.length = na) (hlen : Nat.ble (spr (vS (5 + j) :: as)).length md'.2.2.1 = true) (hroom : Nat.ble (rest.map acat).sum 8 = true) (hdp : d' + 1 ≤ d)
    (K : CA sc d' 0 0 md' (vS (5 + j) :: as) I L R N n (fun r I L R N n => WP sc d mc ms md (pc + 3) al (r :: rest) I L R N n Q)) : WP sc d mc ms md pc al st I L R N n Q :=
  w_callT (mc' := 0) (ms' := 0) hd hl ho hv hj hc hr hst hna (Nat.le_of_ble_eq_true hlen) (Nat.le_of_ble_eq_true hroom) hdp K
theorem c_S (hd : decode md.2.1 pc = .ok (.invokestatic idx, 3)) (hl : ML md.1.cls idx md'.1) (ho : MO md' na) (hv : Cond.static md'.1 ∈ gw) (hr : md'.2.2.2 = some ty) (hst : st = as.reverse ++ rest) (hna : as.length = na) (hlen : Nat.ble (spr as).length md'.2.2.1 = true) (hroom : Nat.ble (rest.map acat).sum 8 = true) (hdp : d' + 1 ≤ d)
    (K : CA sc d' 0 0 md' as I L R N n (fun r I L R N n => WP sc d mc ms md (pc + 3) al (r :: rest) I L R N n Q)) : WP sc d mc ms md pc al st I L R N n Q :=
  w_callS (mc' := 0) (ms' := 0) hd hl ho hv hr hst hna (Nat.le_of_ble_eq_true hlen) (Nat.le_of_ble_eq_true hroom) hdp K
theorem c_Sv (hd : decode md.2.1 pc = .ok (.invokestatic idx, 3)) (hl : ML md.1.cls idx md'.1) (ho : MO md' na) (hv : Cond.static md'.1 ∈ gw) (hr : md'.2.2.2 = none) (hst : st = as.reverse ++ rest) (hna : as.length = na) (hlen : Nat.ble (spr as).length md'.2.2.1 = true) (hroom : Nat.ble (rest.map acat).sum 8 = true) (hdp : d' + 1 ≤ d)
    (K : CA sc d' 0 0 md' as I L R N n (fun _ I L R N n => WP sc d mc ms md (pc + 3) al rest I L R N n Q)) : WP sc d mc ms md pc al st I L R N n Q :=
  w_callSv (mc' := 0) (ms' := 0) hd hl ho hv hr hst hna (Nat.le_of_ble_eq_true hlen) (Nat.le_of_ble_eq_true hroom) hdp K
theorem c_Sm (hd : decode md.2.1 pc = .ok (.invokestatic idx, 3)) (hl : ML md.1.cls idx md'.1) (ho : MO md' na) (hv : Cond.static md'.1 ∈ gw) (hr : md'.2.2.2 = some ty) (hst : st = as.reverse ++ rest) (hna : as.length = na) (hlen : Nat.ble (spr as).length md'.2.2.1 = true) (hroom : Nat.ble (rest.map acat).sum 8 = true) (hdp : d' + 1 ≤ d)
    (K : CA sc d' mc' ms' md' as I L R N n (fun r I L R N n => WP sc d mc ms md (pc + 3) al (r :: rest) I L R N n Q)) : WP sc d (mc + mc') (ms + ms') md pc al st I L R N n Q :=
  w_callS hd hl ho hv hr hst hna (Nat.le_of_ble_eq_true hlen) (Nat.le_of_ble_eq_true hroom) hdp K
theorem c_I (hd : decode md.2.1 pc = .ok (.invokespecial idx, 3)) (hl : ML md.1.cls idx md'.1) (ho : MO md' na) (hv : Cond.instanceMethod md'.1 ∈ gw) (hnm : md'.1.name = "<init>") (hr : md'.2.2.2 = none) (hst : st = as.reverse ++ vR t k :: rest) (hna : as.length = na) (hlen : Nat.ble (spr (vR t k :: as)).length md'.2.2.1 = true) (hroom : Nat.ble (rest.map acat).sum 8 = true) (hdp : d' + 1 ≤ d)
    (K : CA sc d' mc' ms' md' (vR t k :: as) I L R N n (fun _ I L R N n => WP sc d mc ms md (pc + 3) al rest I L R N n Q)) : WP sc d (mc + mc') (ms + ms') md pc al st I L R N n Q :=
  w_callI hd hl ho hv hnm hr hst hna (Nat.le_of_ble_eq_true hlen) (Nat.le_of_ble_eq_true hroom) hdp K
end
theorem ic_m8 : Int32.ofInt (-8) = (-8) := by decide +kernel
theorem ic_m1 : Int32.ofInt (-1) = (-1) := by decide +kernel
theorem ic_0 : Int32.ofInt (0) = 0 := by decide +kernel
theorem ic_1 : Int32.ofInt (1) = 1 := by decide +kernel
theorem ic_2 : Int32.ofInt (2) = 2 := by decide +kernel
theorem ic_3 : Int32.ofInt (3) = 3 := by decide +kernel
theorem ic_4 : Int32.ofInt (4) = 4 := by decide +kernel
theorem ic_5 : Int32.ofInt (5) = 5 := by decide +kernel
theorem ic_6 : Int32.ofInt (6) = 6 := by decide +kernel
theorem bp_m100 : (Int8.ofInt (-100)).toInt32 = (-100) := by decide +kernel
theorem bp_m11 : (Int8.ofInt (-11)).toInt32 = (-11) := by decide +kernel
theorem bp_m10 : (Int8.ofInt (-10)).toInt32 = (-10) := by decide +kernel
theorem bp_m9 : (Int8.ofInt (-9)).toInt32 = (-9) := by decide +kernel
theorem bp_m8 : (Int8.ofInt (-8)).toInt32 = (-8) := by decide +kernel
theorem bp_m7 : (Int8.ofInt (-7)).toInt32 = (-7) := by decide +kernel
theorem bp_m6 : (Int8.ofInt (-6)).toInt32 = (-6) := by decide +kernel
theorem bp_m5 : (Int8.ofInt (-5)).toInt32 = (-5) := by decide +kernel
theorem bp_m4 : (Int8.ofInt (-4)).toInt32 = (-4) := by decide +kernel
theorem bp_m3 : (Int8.ofInt (-3)).toInt32 = (-3) := by decide +kernel
theorem bp_m2 : (Int8.ofInt (-2)).toInt32 = (-2) := by decide +kernel
theorem bp_6 : (Int8.ofInt (6)).toInt32 = 6 := by decide +kernel
theorem bp_7 : (Int8.ofInt (7)).toInt32 = 7 := by decide +kernel
theorem bp_8 : (Int8.ofInt (8)).toInt32 = 8 := by decide +kernel
theorem bp_9 : (Int8.ofInt (9)).toInt32 = 9 := by decide +kernel
theorem bp_10 : (Int8.ofInt (10)).toInt32 = 10 := by decide +kernel
theorem bp_11 : (Int8.ofInt (11)).toInt32 = 11 := by decide +kernel
theorem bp_12 : (Int8.ofInt (12)).toInt32 = 12 := by decide +kernel
theorem bp_13 : (Int8.ofInt (13)).toInt32 = 13 := by decide +kernel
theorem bp_14 : (Int8.ofInt (14)).toInt32 = 14 := by decide +kernel
theorem bp_16 : (Int8.ofInt (16)).toInt32 = 16 := by decide +kernel
theorem bp_17 : (Int8.ofInt (17)).toInt32 = 17 := by decide +kernel
theorem bp_20 : (Int8.ofInt (20)).toInt32 = 20 := by decide +kernel
theorem bp_24 : (Int8.ofInt (24)).toInt32 = 24 := by decide +kernel
theorem bp_30 : (Int8.ofInt (30)).toInt32 = 30 := by decide +kernel
theorem bp_31 : (Int8.ofInt (31)).toInt32 = 31 := by decide +kernel
theorem bp_32 : (Int8.ofInt (32)).toInt32 = 32 := by decide +kernel
theorem bp_33 : (Int8.ofInt (33)).toInt32 = 33 := by decide +kernel
theorem bp_40 : (Int8.ofInt (40)).toInt32 = 40 := by decide +kernel
theorem bp_41 : (Int8.ofInt (41)).toInt32 = 41 := by decide +kernel
theorem bp_48 : (Int8.ofInt (48)).toInt32 = 48 := by decide +kernel
theorem bp_57 : (Int8.ofInt (57)).toInt32 = 57 := by decide +kernel
theorem bp_59 : (Int8.ofInt (59)).toInt32 = 59 := by decide +kernel
theorem bp_60 : (Int8.ofInt (60)).toInt32 = 60 := by decide +kernel
theorem bp_63 : (Int8.ofInt (63)).toInt32 = 63 := by decide +kernel
theorem bp_80 : (Int8.ofInt (80)).toInt32 = 80 := by decide +kernel
theorem bp_84 : (Int8.ofInt (84)).toInt32 = 84 := by decide +kernel
theorem bp_96 : (Int8.ofInt (96)).toInt32 = 96 := by decide +kernel
theorem bp_97 : (Int8.ofInt (97)).toInt32 = 97 := by decide +kernel
theorem bp_98 : (Int8.ofInt (98)).toInt32 = 98 := by decide +kernel
theorem bp_99 : (Int8.ofInt (99)).toInt32 = 99 := by decide +kernel
theorem bp_100 : (Int8.ofInt (100)).toInt32 = 100 := by decide +kernel
theorem bp_101 : (Int8.ofInt (101)).toInt32 = 101 := by decide +kernel
theorem bp_102 : (Int8.ofInt (102)).toInt32 = 102 := by decide +kernel
theorem bp_103 : (Int8.ofInt (103)).toInt32 = 103 := by decide +kernel
theorem bp_104 : (Int8.ofInt (104)).toInt32 = 104 := by decide +kernel
theorem bp_108 : (Int8.ofInt (108)).toInt32 = 108 := by decide +kernel
theorem bp_109 : (Int8.ofInt (109)).toInt32 = 109 := by decide +kernel
theorem bp_111 : (Int8.ofInt (111)).toInt32 = 111 := by decide +kernel
theorem bp_114 : (Int8.ofInt (114)).toInt32 = 114 := by decide +kernel
theorem bp_115 : (Int8.ofInt (115)).toInt32 = 115 := by decide +kernel
theorem bp_116 : (Int8.ofInt (116)).toInt32 = 116 := by decide +kernel
theorem bp_119 : (Int8.ofInt (119)).toInt32 = 119 := by decide +kernel
theorem bp_120 : (Int8.ofInt (120)).toInt32 = 120 := by decide +kernel
theorem bp_122 : (Int8.ofInt (122)).toInt32 = 122 := by decide +kernel
theorem sp_255 : (Int16.ofInt (255)).toInt32 = 255 := by decide +kernel
theorem sp_256 : (Int16.ofInt (256)).toInt32 = 256 := by decide +kernel
theorem sp_257 : (Int16.ofInt (257)).toInt32 = 257 := by decide +kernel
theorem sp_258 : (Int16.ofInt (258)).toInt32 = 258 := by decide +kernel
theorem sp_500 : (Int16.ofInt (500)).toInt32 = 500 := by decide +kernel
theorem sp_999 : (Int16.ofInt (999)).toInt32 = 999 := by decide +kernel
theorem sp_1000 : (Int16.ofInt (1000)).toInt32 = 1000 := by decide +kernel
theorem sp_1023 : (Int16.ofInt (1023)).toInt32 = 1023 := by decide +kernel
theorem sp_1452 : (Int16.ofInt (1452)).toInt32 = 1452 := by decide +kernel
theorem sp_9999 : (Int16.ofInt (9999)).toInt32 = 9999 := by decide +kernel
theorem sp_10000 : (Int16.ofInt (10000)).toInt32 = 10000 := by decide +kernel
theorem sp_10001 : (Int16.ofInt (10001)).toInt32 = 10001 := by decide +kernel
theorem sp_12345 : (Int16.ofInt (12345)).toInt32 = 12345 := by decide +kernel
theorem sp_20000 : (Int16.ofInt (20000)).toInt32 = 20000 := by decide +kernel
theorem sp_20033 : (Int16.ofInt (20033)).toInt32 = 20033 := by decide +kernel
