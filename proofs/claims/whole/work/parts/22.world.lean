section
variable {sc : SC} {I : HI} {L : HL} {R : HR} {N : HN} {n : Nat} {Q : HQ}
theorem vX10_of (hs : SK R N) {V : VV} (hI : I 118 = V) {a b : Nat} (hb : 48 + 4 * a + b < 1452) (hq : Q (vI (V (48 + 4 * a + b))) I L R N n) : CA sc 0 0 0 mX10_of [vR 10 117, vI (nI a), vI (nI b)] I L R N n Q := by
  subst hI; exact sX10_of hs hb hq
theorem vX10_sortOf (hs : SK R N) {V : VV} (hI : I 118 = V) {a b : Nat} (hb : 6 + 7 * a + b < 1452) (hq : Q (vI (V (6 + 7 * a + b))) I L R N n) : CA sc 0 0 0 mX10_sortOf [vR 10 117, vI (nI a), vI (nI b)] I L R N n Q := by
  subst hI; exact sX10_sortOf hs hb hq
theorem vX10_worksOut (hs : SK R N) {V : VV} (hI : I 118 = V) {t : Nat} {f0 f1 f2 : Int32} (ht : t < 14) (hV : okText V t) (h0 : I 136 0 = f0) (h1 : I 136 1 = f1) (h2 : I 136 2 = f2)
    (hq : ∀ I' : HI, (∀ a, a ≠ 135 → I' a = I a) → Q (vI (evV (tCode V t) (tLen V t) f0 f1 f2)) I' L R N n) : CA sc 1 0 0 mX10_worksOut [vR 10 117, vI (nI t)] I L R N n Q := by
  subst hI
  exact sX10_worksOut hs ht hV.2.2.1 hV.2.1 hV.1 hV.2.2.2 h0 h1 h2 hq
def cntM (V : VV) (key : Nat) : Int32 := match cntV V key with
  | none => -1
  | some t => nI t
theorem owedF_3 (b c p d : Int32) : owedF 3 b c p d = if b < d * p then b else d * p := by unfold owedF; simp
theorem sub_m1 (x : Int32) : x + (-1) = x - 1 := (Int32.sub_eq_add_neg x 1).symm
set_option maxRecDepth 20000 in
theorem sX10_counts (hs : SK R N) {V : VV} (hI : I 118 = V) {key : Nat} (hnt : V 5 = nI (nTx V) ∧ nTx V ≤ 14) (hq : Q (vI (cntM V key)) I L R N n) : CA sc 0 0 0 mX10_counts [vR 10 117, vI (nI key)] I L R N n Q := by
  have lp : ∀ (k : Nat), k ≤ 14 → (Q (vI (match lastT V key k with | none => -1 | some t => nI t)) I L R N n) → WP sc 0 0 0 mX10_counts 9 [vR 10 117, vI (nI key), vI (nI k - 1)] [] I L R N n Q := by
    intro k
    induction k with
    | zero =>
      intro hk hq
      refine w_iload_n dX10_counts_9 rfl ?_
      refine w_if_lt (tgt := 40) dX10_counts_10 (by decide) (fun c10 => ?_) (fun c10 => ?_)
      · refine w_iconst dX10_counts_40 ic_m1 ?_
        refine w_ireturn dX10_counts_41 rfl rfl ?_
        exact hq
      · exact absurd (by decide) c10
    | succ k ih =>
      intro hk hq
      rw [nI_pred]
      refine w_iload_n dX10_counts_9 rfl ?_
      refine w_if_lt (tgt := 40) dX10_counts_10 (by decide) (fun c10 => ?_) (fun c10 => ?_)
      · exact absurd c10 (nI_pos (by omega))
      · refine w_aload_n dX10_counts_13 rfl ?_
        refine w_getR dX10_counts_14 flX10_9 rfl (hs.r (a := 117) (j := 0) (b := 118) 116 rfl) ?_
        refine w_bipush dX10_counts_17 bp_80 ?_
        refine w_iconst dX10_counts_19 ic_2 ?_
        refine w_iload_n dX10_counts_20 rfl ?_
        refine w_imul dX10_counts_21 ?_
        refine w_iadd dX10_counts_22 ?_
        refine w_top (y := nI (80 + 2 * k)) (by show nI 80 + nI 2 * nI k = _; rw [nI_mul, nI_add]) ?_
        refine w_iald dX10_counts_23 rfl (hs.n (a := 118) (z := 1452) 72 rfl) (by omega) ?_
        refine w_top (y := V (80 + 2 * k)) (congrFun hI _) ?_
        refine w_sipush dX10_counts_24 sp_1000 ?_
        refine w_idiv dX10_counts_27 (by decide) ?_
        refine w_iload_n dX10_counts_28 rfl ?_
        refine w_icmp_ne (tgt := 34) dX10_counts_29 (by decide) (fun c29 => ?_) (fun c29 => ?_)
        · rw [lastT, if_neg c29] at hq
          refine w_iinc (al' := [_, _, _]) dX10_counts_34 rfl rfl ic_m1 rfl ?_
          refine w_goto (tgt := 9) dX10_counts_37 (by decide) ?_
          rw [sub_m1]
          exact ih (by omega) hq
        · rw [lastT, if_pos c29] at hq
          refine w_iload_n dX10_counts_32 rfl ?_
          refine w_ireturn dX10_counts_33 rfl rfl ?_
          exact hq
  refine ca_in (al := [_, _, _]) rfl ?_
  refine w_aload_n dX10_counts_0 rfl ?_
  refine w_getR dX10_counts_1 flX10_9 rfl (hs.r (a := 117) (j := 0) (b := 118) 116 rfl) ?_
  refine w_iconst dX10_counts_4 ic_5 ?_
  refine w_iald (q := 5) dX10_counts_5 rfl (hs.n (a := 118) (z := 1452) 72 rfl) (by decide) ?_
  refine w_top (y := nI (nTx V)) ((congrFun hI _).trans hnt.1) ?_
  refine w_iconst dX10_counts_6 ic_1 ?_
  refine w_isub dX10_counts_7 ?_
  refine w_istore_n (al' := [_, _, _]) dX10_counts_8 rfl rfl rfl ?_
  exact lp _ hnt.2 hq

set_option maxRecDepth 20000 in
theorem sX8_textAtN (hs : SK R N) {w : Nat} (hw : w = 1 ∨ w = 30) {v : Int32} (h : ¬ (0 ≤ v ∧ v ≤ I w 7 - 1)) (hq : Q vN I L R N n) : CA sc 1 0 0 mX8_textAt [vR 8 w, vI v] I L R N n Q := by
  refine ca_in (al := [_, _]) rfl ?_
  refine w_iload_n dX8_textAt_0 rfl ?_
  refine w_iconst dX8_textAt_1 ic_0 ?_
  refine w_aload_n dX8_textAt_2 rfl ?_
  refine w_getI dX8_textAt_3 flX8_42 rfl ?_
  refine w_iconst dX8_textAt_6 ic_1 ?_
  refine w_isub dX8_textAt_7 ?_
  refine c_S (as := [_, _, _]) (d' := 0) dX8_textAt_8 nlX8_73 moX9_within msX9_within rfl rfl rfl rfl rfl (by decide) (sX9_within ?_)
  refine w_ifB_eq (tgt := 23) dX8_textAt_11 (by decide) (fun c11 => ?_) (fun c11 => ?_)
  · refine w_null dX8_textAt_23 ?_
    refine w_areturn dX8_textAt_24 rfl rfl rfl ?_
    exact hq
  · exact absurd c11 h

set_option maxRecDepth 20000 in
theorem sX8_textAtS (hs : SK R N) {w : Nat} (hw : w = 1 ∨ w = 30) {t nt a : Nat} (hn : I w 7 = nI nt) (hnt : nt ≤ 14) (ht : t < nt) (ha : R (w + 9) t = some a) (hq : Q (vR 7 a) I L R N n) : CA sc 1 0 0 mX8_textAt [vR 8 w, vI (nI t)] I L R N n Q := by
  refine ca_in (al := [_, _]) rfl ?_
  refine w_iload_n dX8_textAt_0 rfl ?_
  refine w_iconst dX8_textAt_1 ic_0 ?_
  refine w_aload_n dX8_textAt_2 rfl ?_
  refine w_getI dX8_textAt_3 flX8_42 rfl ?_
  refine w_iconst dX8_textAt_6 ic_1 ?_
  refine w_isub dX8_textAt_7 ?_
  refine c_S (as := [_, _, _]) (d' := 0) dX8_textAt_8 nlX8_73 moX9_within msX9_within rfl rfl rfl rfl rfl (by decide) (sX9_within ?_)
  refine w_ifB_eq (tgt := 23) dX8_textAt_11 (by decide) (fun c11 => ?_) (fun c11 => ?_)
  · refine absurd ⟨nI_pos' (by omega), ?_⟩ c11
    rw [hn, show nI nt - 1 = nI (nt - 1) from nI_sub (b := 1) (by omega)]
    exact nI_le (by omega) (by omega)
  · refine w_aload_n dX8_textAt_14 rfl ?_
    refine w_getR dX8_textAt_15 flX8_38 rfl (hs.wr (j := 6) (o := 9) hw 11 39 rfl rfl) ?_
    refine w_iload_n dX8_textAt_18 rfl ?_
    refine w_aald dX8_textAt_19 (by decide) (by decide) rfl (hs.wn (o := 9) (z := 14) hw 8 27 rfl rfl) (by omega) ha ?_
    refine w_goto (tgt := 24) dX8_textAt_20 (by decide) ?_
    refine w_areturn dX8_textAt_24 rfl rfl rfl ?_
    exact hq

set_option maxRecDepth 20000 in
theorem sX8_owedByN {w : Nat} {d : Int32} (hq : Q (vI 0) I L R N n) : CA sc 2 0 0 mX8_owedBy [vR 8 w, vN, vI d] I L R N n Q := by
  refine ca_in (al := [_, _, _, _]) rfl ?_
  refine w_aload_nN dX8_owedBy_0 rfl ?_
  refine w_ifnonnullN dX8_owedBy_1 ?_
  refine w_iconst dX8_owedBy_4 ic_0 ?_
  refine w_ireturn dX8_owedBy_5 rfl rfl ?_
  exact hq

set_option maxRecDepth 20000 in
theorem sX8_owedBy (hs : SK R N) {w : Nat} (hw : w = 1 ∨ w = 30) {V : VV} (hV : VO V) (hC : WC I R N n w V) {d : Int32} {r p : Nat} (hr : R r 1 = some p) (hp : N p = 3) (hc : 0 < I p 2) (hpw : p ≠ w + 12) (hrw : r ≠ w + 12)
    (hq : ∀ I' : HI, (∀ q, q ≠ w + 12 → I' q = I q) → Q (vI (owedR V (I r 0) (I p 0) (I p 1) (I p 2) d)) I' L R N n) : CA sc 2 0 0 mX8_owedBy [vR 8 w, vR 3 r, vI d] I L R N n Q := by
  cases hcv : cntV V 0 with
  | none =>
    have hci : I (w + 10) 0 = -1000000005 := by rw [hC.2.2.2.1 0 (by decide), cntI, hcv]
    refine ca_in (al := [_, _, _, _]) rfl ?_
    refine w_aload_n dX8_owedBy_0 rfl ?_
    refine w_ifnonnullR (tgt := 6) dX8_owedBy_1 (by decide) ?_
    refine w_aload_n dX8_owedBy_6 rfl ?_
    refine w_aload_n dX8_owedBy_7 rfl ?_
    refine w_getR dX8_owedBy_8 flX8_45 rfl (hs.wr (j := 8) (o := 10) hw 12 40 rfl rfl) ?_
    refine w_iconst dX8_owedBy_11 ic_0 ?_
    refine w_iald (q := 0) dX8_owedBy_12 rfl (hs.wn (o := 10) (z := 3) hw 9 28 rfl rfl) (by decide) ?_
    refine w_top (y := -1000000005) (hci) ?_
    refine c_V (t := 8) (as := [_]) (d' := 1) dX8_owedBy_13 mlX8_103 moX8_textAt mvX8_textAt ⟨rfl, rfl⟩ rfl rfl rfl rfl rfl (by decide) (sX8_textAtN hs hw (fun q => absurd q.1 (by decide)) ?_)
    refine w_astore_nN (al' := [_, _, _, _]) dX8_owedBy_16 rfl rfl rfl ?_
    refine w_aload_nN dX8_owedBy_17 rfl ?_
    refine w_ifnonnullN dX8_owedBy_18 ?_
    refine w_aload_n dX8_owedBy_21 rfl ?_
    refine w_aload_n dX8_owedBy_22 rfl ?_
    refine w_getR dX8_owedBy_23 flX8_93 rfl hr ?_
    refine w_iconst dX8_owedBy_26 ic_0 ?_
    refine w_iald (q := 0) dX8_owedBy_27 rfl hp (by decide) ?_
    refine w_iload_n dX8_owedBy_28 rfl ?_
    refine c_V (t := 3) (as := [_, _]) (d' := 1) dX8_owedBy_29 mlX8_107 moX3_owedFrom mvX3_owedFrom ⟨rfl, rfl⟩ rfl rfl rfl rfl rfl (by decide) (sX3_owedFrom hr hp hc ?_)
    refine w_ireturn dX8_owedBy_32 rfl rfl ?_
    exact q_e (by rw [owedR, plainV, hcv]) (hq I (fun _ _ => rfl))
  | some t =>
    obtain ⟨ht, hkey, hok⟩ := cnt_ok hV (by decide) hcv
    obtain ⟨a, ha1, ha2, ha3, ha4, ha5, ha6, ha7, ha8⟩ := hC.2.2.2.2 t ht
    have hci : I (w + 10) 0 = nI t := by rw [hC.2.2.2.1 0 (by decide), cntI, hcv]
    have h14 := hV.2.2.1.2
    refine ca_in (al := [_, _, _, _]) rfl ?_
    refine w_aload_n dX8_owedBy_0 rfl ?_
    refine w_ifnonnullR (tgt := 6) dX8_owedBy_1 (by decide) ?_
    refine w_aload_n dX8_owedBy_6 rfl ?_
    refine w_aload_n dX8_owedBy_7 rfl ?_
    refine w_getR dX8_owedBy_8 flX8_45 rfl (hs.wr (j := 8) (o := 10) hw 12 40 rfl rfl) ?_
    refine w_iconst dX8_owedBy_11 ic_0 ?_
    refine w_iald (q := 0) dX8_owedBy_12 rfl (hs.wn (o := 10) (z := 3) hw 9 28 rfl rfl) (by decide) ?_
    refine w_top (y := nI t) (hci) ?_
    refine c_V (t := 8) (as := [_]) (d' := 1) dX8_owedBy_13 mlX8_103 moX8_textAt mvX8_textAt ⟨rfl, rfl⟩ rfl rfl rfl rfl rfl (by decide) (sX8_textAtS hs hw (hC.1.2.2.2.2.1.trans hV.2.2.1.1) h14 ht ha1 ?_)
    refine w_astore_n (al' := [_, _, _, _]) dX8_owedBy_16 rfl rfl rfl ?_
    refine w_aload_n dX8_owedBy_17 rfl ?_
    refine w_ifnonnullR (tgt := 33) dX8_owedBy_18 (by decide) ?_
    refine w_aload_n dX8_owedBy_33 rfl ?_
    refine w_aload_n dX8_owedBy_34 rfl ?_
    refine w_aload_n dX8_owedBy_35 rfl ?_
    refine w_getR dX8_owedBy_36 flX8_56 rfl (hs.wr (j := 10) (o := 12) hw 14 42 rfl rfl) ?_
    refine w_iload_n dX8_owedBy_39 rfl ?_
    refine w_aload_n dX8_owedBy_40 rfl ?_
    refine w_getR dX8_owedBy_41 flX8_93 rfl hr ?_
    refine w_iconst dX8_owedBy_44 ic_0 ?_
    refine w_iald (q := 0) dX8_owedBy_45 rfl hp (by decide) ?_
    refine w_aload_n dX8_owedBy_46 rfl ?_
    refine w_getR dX8_owedBy_47 flX8_93 rfl hr ?_
    refine w_iconst dX8_owedBy_50 ic_1 ?_
    refine w_iald (q := 1) dX8_owedBy_51 rfl hp (by decide) ?_
    refine c_V (t := 7) (as := [_, _, _, _]) (d' := 1) dX8_owedBy_52 mlX8_111 moX7_workOut mvX7_workOut ⟨rfl, rfl⟩ rfl rfl rfl rfl rfl (by decide) (sX7_workOut ha4 ha5 (hs.wn (o := 12) (z := 96) hw 10 29 rfl rfl) (by rcases hw with rfl | rfl <;> omega) ha8 hok.2.1 hok.2.2.2 (fun I1 hI1 => ?_))
    refine w_iconst dX8_owedBy_55 ic_0 ?_
    refine w_sipush dX8_owedBy_56 sp_999 ?_
    refine c_S (as := [_, _, _]) (d' := 1) dX8_owedBy_59 nlX8_115 moX9_held msX9_held rfl rfl rfl rfl rfl (by decide) (sX9_held (by decide) ?_)
    refine w_iload_n dX8_owedBy_62 rfl ?_
    refine c_V (t := 3) (as := [_, _]) (d' := 1) dX8_owedBy_63 mlX8_107 moX3_owedFrom mvX3_owedFrom ⟨rfl, rfl⟩ rfl rfl rfl rfl rfl (by decide) (sX3_owedFrom hr hp (by rw [hI1 p hpw]; exact hc) ?_)
    refine w_ireturn dX8_owedBy_66 rfl rfl ?_
    refine q_e ?_ (hq I1 hI1)
    rw [owedR, plainV, hcv, hI1 r hrw, hI1 p hpw]

set_option maxRecDepth 20000 in
theorem sX8_shameOf (hs : SK R N) {w : Nat} (hw : w = 1 ∨ w = 30) {V : VV} (hV : VO V) (hC : WC I R N n w V) {s d : Int32}
    (hq : ∀ I' : HI, (∀ q, q ≠ w + 12 → I' q = I q) → Q (vI (shamV V s d)) I' L R N n) : CA sc 2 0 0 mX8_shameOf [vR 8 w, vI s, vI d] I L R N n Q := by
  cases hcv : cntV V 1 with
  | none =>
    have hci : I (w + 10) 1 = -1000000005 := by rw [hC.2.2.2.1 1 (by decide), cntI, hcv]
    refine ca_in (al := [_, _, _, _]) rfl ?_
    refine w_aload_n dX8_shameOf_0 rfl ?_
    refine w_aload_n dX8_shameOf_1 rfl ?_
    refine w_getR dX8_shameOf_2 flX8_45 rfl (hs.wr (j := 8) (o := 10) hw 12 40 rfl rfl) ?_
    refine w_iconst dX8_shameOf_5 ic_1 ?_
    refine w_iald (q := 1) dX8_shameOf_6 rfl (hs.wn (o := 10) (z := 3) hw 9 28 rfl rfl) (by decide) ?_
    refine w_top (y := -1000000005) (hci) ?_
    refine c_V (t := 8) (as := [_]) (d' := 1) dX8_shameOf_7 mlX8_103 moX8_textAt mvX8_textAt ⟨rfl, rfl⟩ rfl rfl rfl rfl rfl (by decide) (sX8_textAtN hs hw (fun q => absurd q.1 (by decide)) ?_)
    refine w_astore_nN (al' := [_, _, _, _]) dX8_shameOf_10 rfl rfl rfl ?_
    refine w_aload_nN dX8_shameOf_11 rfl ?_
    refine w_ifnonnullN dX8_shameOf_12 ?_
    refine w_iload_n dX8_shameOf_15 rfl ?_
    refine w_iload_n dX8_shameOf_16 rfl ?_
    refine w_imul dX8_shameOf_17 ?_
    refine w_bipush dX8_shameOf_18 bp_10 ?_
    refine w_idiv dX8_shameOf_20 (by decide) ?_
    refine w_goto (tgt := 42) dX8_shameOf_21 (by decide) ?_
    refine w_ireturn dX8_shameOf_42 rfl rfl ?_
    exact q_e (by rw [shamV, hcv]) (hq I (fun _ _ => rfl))
  | some t =>
    obtain ⟨ht, hkey, hok⟩ := cnt_ok hV (by decide) hcv
    obtain ⟨a, ha1, ha2, ha3, ha4, ha5, ha6, ha7, ha8⟩ := hC.2.2.2.2 t ht
    have hci : I (w + 10) 1 = nI t := by rw [hC.2.2.2.1 1 (by decide), cntI, hcv]
    have h14 := hV.2.2.1.2
    refine ca_in (al := [_, _, _, _]) rfl ?_
    refine w_aload_n dX8_shameOf_0 rfl ?_
    refine w_aload_n dX8_shameOf_1 rfl ?_
    refine w_getR dX8_shameOf_2 flX8_45 rfl (hs.wr (j := 8) (o := 10) hw 12 40 rfl rfl) ?_
    refine w_iconst dX8_shameOf_5 ic_1 ?_
    refine w_iald (q := 1) dX8_shameOf_6 rfl (hs.wn (o := 10) (z := 3) hw 9 28 rfl rfl) (by decide) ?_
    refine w_top (y := nI t) (hci) ?_
    refine c_V (t := 8) (as := [_]) (d' := 1) dX8_shameOf_7 mlX8_103 moX8_textAt mvX8_textAt ⟨rfl, rfl⟩ rfl rfl rfl rfl rfl (by decide) (sX8_textAtS hs hw (hC.1.2.2.2.2.1.trans hV.2.2.1.1) h14 ht ha1 ?_)
    refine w_astore_n (al' := [_, _, _, _]) dX8_shameOf_10 rfl rfl rfl ?_
    refine w_aload_n dX8_shameOf_11 rfl ?_
    refine w_ifnonnullR (tgt := 24) dX8_shameOf_12 (by decide) ?_
    refine w_aload_n dX8_shameOf_24 rfl ?_
    refine w_aload_n dX8_shameOf_25 rfl ?_
    refine w_getR dX8_shameOf_26 flX8_56 rfl (hs.wr (j := 10) (o := 12) hw 14 42 rfl rfl) ?_
    refine w_iload_n dX8_shameOf_29 rfl ?_
    refine w_iload_n dX8_shameOf_30 rfl ?_
    refine w_iconst dX8_shameOf_31 ic_0 ?_
    refine c_V (t := 7) (as := [_, _, _, _]) (d' := 1) dX8_shameOf_32 mlX8_111 moX7_workOut mvX7_workOut ⟨rfl, rfl⟩ rfl rfl rfl rfl rfl (by decide) (sX7_workOut ha4 ha5 (hs.wn (o := 12) (z := 96) hw 10 29 rfl rfl) (by rcases hw with rfl | rfl <;> omega) ha8 hok.2.1 hok.2.2.2 (fun I1 hI1 => ?_))
    refine w_iconst dX8_shameOf_35 ic_0 ?_
    refine w_sipush dX8_shameOf_36 sp_9999 ?_
    refine c_S (as := [_, _, _]) (d' := 1) dX8_shameOf_39 nlX8_115 moX9_held msX9_held rfl rfl rfl rfl rfl (by decide) (sX9_held (by decide) ?_)
    refine w_ireturn dX8_shameOf_42 rfl rfl ?_
    exact q_e (by rw [shamV, hcv]) (hq I1 hI1)

set_option maxRecDepth 20000 in
theorem sX8_forgetsOn (hs : SK R N) {w : Nat} (hw : w = 1 ∨ w = 30) {V : VV} (hV : VO V) (hC : WC I R N n w V) {f d cd : Int32}
    (hq : ∀ I' : HI, (∀ q, q ≠ w + 12 → I' q = I q) → Q (vI (forgV V f cd d)) I' L R N n) : CA sc 2 0 0 mX8_forgetsOn [vR 8 w, vI d, vI f, vI cd] I L R N n Q := by
  cases hcv : cntV V 2 with
  | none =>
    have hci : I (w + 10) 2 = -1000000005 := by rw [hC.2.2.2.1 2 (by decide), cntI, hcv]
    refine ca_in (al := [_, _, _, _, _]) rfl ?_
    refine w_aload_n dX8_forgetsOn_0 rfl ?_
    refine w_aload_n dX8_forgetsOn_1 rfl ?_
    refine w_getR dX8_forgetsOn_2 flX8_45 rfl (hs.wr (j := 8) (o := 10) hw 12 40 rfl rfl) ?_
    refine w_iconst dX8_forgetsOn_5 ic_2 ?_
    refine w_iald (q := 2) dX8_forgetsOn_6 rfl (hs.wn (o := 10) (z := 3) hw 9 28 rfl rfl) (by decide) ?_
    refine w_top (y := -1000000005) (hci) ?_
    refine c_V (t := 8) (as := [_]) (d' := 1) dX8_forgetsOn_7 mlX8_103 moX8_textAt mvX8_textAt ⟨rfl, rfl⟩ rfl rfl rfl rfl rfl (by decide) (sX8_textAtN hs hw (fun q => absurd q.1 (by decide)) ?_)
    refine w_astoreN (al' := [_, _, _, _, _]) dX8_forgetsOn_10 rfl rfl rfl ?_
    refine w_aloadN dX8_forgetsOn_12 rfl ?_
    refine w_ifnullN (tgt := 36) dX8_forgetsOn_14 (by decide) ?_
    refine w_iload_n dX8_forgetsOn_36 rfl ?_
    refine w_ldc dX8_forgetsOn_37 kcX8_29 ?_
    refine w_icmp_eq (tgt := 53) dX8_forgetsOn_39 (by decide) (fun c39 => ?_) (fun c39 => ?_)
    · refine w_iload_n dX8_forgetsOn_53 rfl ?_
      refine w_ireturn dX8_forgetsOn_54 rfl rfl ?_
      refine q_e ?_ (hq I (fun _ _ => rfl))
      rw [forgV, hcv]
      first | exact if_pos (Or.inl c39) | exact if_pos (Or.inr c44) | exact if_neg (fun q => q.elim c39 c44)
    · refine w_iload_n dX8_forgetsOn_42 rfl ?_
      refine w_iload_n dX8_forgetsOn_43 rfl ?_
      refine w_icmp_lt (tgt := 53) dX8_forgetsOn_44 (by decide) (fun c44 => ?_) (fun c44 => ?_)
      · refine w_iload_n dX8_forgetsOn_53 rfl ?_
        refine w_ireturn dX8_forgetsOn_54 rfl rfl ?_
        refine q_e ?_ (hq I (fun _ _ => rfl))
        rw [forgV, hcv]
        first | exact if_pos (Or.inl c39) | exact if_pos (Or.inr c44) | exact if_neg (fun q => q.elim c39 c44)
      · refine w_iload_n dX8_forgetsOn_47 rfl ?_
        refine w_iconst dX8_forgetsOn_48 ic_2 ?_
        refine w_idiv dX8_forgetsOn_49 (by decide) ?_
        refine w_goto (tgt := 54) dX8_forgetsOn_50 (by decide) ?_
        refine w_ireturn dX8_forgetsOn_54 rfl rfl ?_
        refine q_e ?_ (hq I (fun _ _ => rfl))
        rw [forgV, hcv]
        first | exact if_pos (Or.inl c39) | exact if_pos (Or.inr c44) | exact if_neg (fun q => q.elim c39 c44)
  | some t =>
    obtain ⟨ht, hkey, hok⟩ := cnt_ok hV (by decide) hcv
    obtain ⟨a, ha1, ha2, ha3, ha4, ha5, ha6, ha7, ha8⟩ := hC.2.2.2.2 t ht
    have hci : I (w + 10) 2 = nI t := by rw [hC.2.2.2.1 2 (by decide), cntI, hcv]
    have h14 := hV.2.2.1.2
    refine ca_in (al := [_, _, _, _, _]) rfl ?_
    refine w_aload_n dX8_forgetsOn_0 rfl ?_
    refine w_aload_n dX8_forgetsOn_1 rfl ?_
    refine w_getR dX8_forgetsOn_2 flX8_45 rfl (hs.wr (j := 8) (o := 10) hw 12 40 rfl rfl) ?_
    refine w_iconst dX8_forgetsOn_5 ic_2 ?_
    refine w_iald (q := 2) dX8_forgetsOn_6 rfl (hs.wn (o := 10) (z := 3) hw 9 28 rfl rfl) (by decide) ?_
    refine w_top (y := nI t) (hci) ?_
    refine c_V (t := 8) (as := [_]) (d' := 1) dX8_forgetsOn_7 mlX8_103 moX8_textAt mvX8_textAt ⟨rfl, rfl⟩ rfl rfl rfl rfl rfl (by decide) (sX8_textAtS hs hw (hC.1.2.2.2.2.1.trans hV.2.2.1.1) h14 ht ha1 ?_)
    refine w_astore (al' := [_, _, _, _, _]) dX8_forgetsOn_10 rfl rfl rfl ?_
    refine w_aload dX8_forgetsOn_12 rfl ?_
    refine w_ifnullR dX8_forgetsOn_14 ?_
    refine w_aload dX8_forgetsOn_17 rfl ?_
    refine w_aload_n dX8_forgetsOn_19 rfl ?_
    refine w_getR dX8_forgetsOn_20 flX8_56 rfl (hs.wr (j := 10) (o := 12) hw 14 42 rfl rfl) ?_
    refine w_iload_n dX8_forgetsOn_23 rfl ?_
    refine w_iload_n dX8_forgetsOn_24 rfl ?_
    refine w_iconst dX8_forgetsOn_25 ic_0 ?_
    refine c_V (t := 7) (as := [_, _, _, _]) (d' := 1) dX8_forgetsOn_26 mlX8_111 moX7_workOut mvX7_workOut ⟨rfl, rfl⟩ rfl rfl rfl rfl rfl (by decide) (sX7_workOut ha4 ha5 (hs.wn (o := 12) (z := 96) hw 10 29 rfl rfl) (by rcases hw with rfl | rfl <;> omega) ha8 hok.2.1 hok.2.2.2 (fun I1 hI1 => ?_))
    refine w_iconst dX8_forgetsOn_29 ic_0 ?_
    refine w_bipush dX8_forgetsOn_30 bp_100 ?_
    refine c_S (as := [_, _, _]) (d' := 1) dX8_forgetsOn_32 nlX8_115 moX9_held msX9_held rfl rfl rfl rfl rfl (by decide) (sX9_held (by decide) ?_)
    refine w_ireturn dX8_forgetsOn_35 rfl rfl ?_
    exact q_e (by rw [forgV, hcv]) (hq I1 hI1)

set_option maxRecDepth 20000 in
theorem sX10_owedBy (hs : SK R N) {V : VV} (hI : I 118 = V) (hV : VO V) {r : Nat} (hr : r < nRu V) {d : Int32}
    (hq : ∀ I' : HI, (∀ a, a ≠ 135 → a ≠ 136 → I' a = I a) → Q (vI (owedR V (V (48 + 4 * r)) (V (48 + 4 * r + 1)) (V (48 + 4 * r + 2)) (V (48 + 4 * r + 3)) d)) I' L R N n) : CA sc 2 0 0 mX10_owedBy [vR 10 117, vI (nI r), vI d] I L R N n Q := by
  cases hcv : cntV V 0 with
  | none =>
    have hcm : cntM V 0 = -1 := by rw [cntM, hcv]
    refine ca_in (al := [_, _, _, _, _, _]) rfl ?_
    refine w_aload_n dX10_owedBy_0 rfl ?_
    refine w_iconst dX10_owedBy_1 ic_0 ?_
    have hr8 := hV.2.1.2
    refine c_V (t := 10) (as := [_]) (d' := 0) dX10_owedBy_2 mlX10_147 moX10_counts mvX10_counts ⟨rfl, rfl⟩ rfl rfl rfl rfl rfl (by decide) (sX10_counts hs hI hV.2.2.1 ?_)
    refine w_top (y := -1) (hcm) ?_
    refine w_istore_n (al' := [_, _, _, _, _, _]) dX10_owedBy_5 rfl rfl rfl ?_
    refine w_aload_n dX10_owedBy_6 rfl ?_
    refine w_getR dX10_owedBy_7 flX10_66 rfl (hs.r (a := 117) (j := 33) (b := 136) 134 rfl) ?_
    refine w_iconst dX10_owedBy_10 ic_0 ?_
    refine w_iload_n dX10_owedBy_11 rfl ?_
    refine w_iast (q := 0) dX10_owedBy_12 rfl (hs.n (a := 136) (z := 4) 90 rfl) (by decide) ?_
    refine w_aload_n dX10_owedBy_13 rfl ?_
    refine w_getR dX10_owedBy_14 flX10_66 rfl (hs.r (a := 117) (j := 33) (b := 136) 134 rfl) ?_
    refine w_iconst dX10_owedBy_17 ic_1 ?_
    refine w_aload_n dX10_owedBy_18 rfl ?_
    refine w_iload_n dX10_owedBy_19 rfl ?_
    refine w_iconst dX10_owedBy_20 ic_1 ?_
    refine c_V (t := 10) (as := [_, _]) (d' := 0) dX10_owedBy_21 mlX10_131 moX10_of mvX10_of ⟨rfl, rfl⟩ rfl rfl rfl rfl rfl (by decide) (vX10_of (V := V) (b := 1) hs (by simp [va_up, hI]) (by omega) ?_)
    refine w_iast (q := 1) dX10_owedBy_24 rfl (hs.n (a := 136) (z := 4) 90 rfl) (by decide) ?_
    refine w_aload_n dX10_owedBy_25 rfl ?_
    refine w_getR dX10_owedBy_26 flX10_66 rfl (hs.r (a := 117) (j := 33) (b := 136) 134 rfl) ?_
    refine w_iconst dX10_owedBy_29 ic_2 ?_
    refine w_aload_n dX10_owedBy_30 rfl ?_
    refine w_iload_n dX10_owedBy_31 rfl ?_
    refine w_iconst dX10_owedBy_32 ic_2 ?_
    refine c_V (t := 10) (as := [_, _]) (d' := 0) dX10_owedBy_33 mlX10_131 moX10_of mvX10_of ⟨rfl, rfl⟩ rfl rfl rfl rfl rfl (by decide) (vX10_of (V := V) (b := 2) hs (by simp [va_up, hI]) (by omega) ?_)
    refine w_iast (q := 2) dX10_owedBy_36 rfl (hs.n (a := 136) (z := 4) 90 rfl) (by decide) ?_
    refine w_iload_n dX10_owedBy_37 rfl ?_
    refine w_if_ge (tgt := 50) dX10_owedBy_38 (by decide) (fun c38 => ?_) (fun c38 => ?_)
    · exact absurd c38 (by decide)
    · refine w_aload_n dX10_owedBy_41 rfl ?_
      refine w_iload_n dX10_owedBy_42 rfl ?_
      refine w_iconst dX10_owedBy_43 ic_1 ?_
      refine c_V (t := 10) (as := [_, _]) (d' := 0) dX10_owedBy_44 mlX10_131 moX10_of mvX10_of ⟨rfl, rfl⟩ rfl rfl rfl rfl rfl (by decide) (vX10_of (V := V) (b := 1) hs (by simp [va_up, hI]) (by omega) ?_)
      refine w_goto (tgt := 62) dX10_owedBy_47 (by decide) ?_
      refine w_istore (al' := [_, _, _, _, _, _]) dX10_owedBy_62 rfl rfl rfl ?_
      refine w_iload_n dX10_owedBy_64 rfl ?_
      refine w_iload dX10_owedBy_65 rfl ?_
      refine w_imul dX10_owedBy_67 ?_
      refine w_istore (al' := [_, _, _, _, _, _]) dX10_owedBy_68 rfl rfl rfl ?_
      refine w_aload_n dX10_owedBy_70 rfl ?_
      refine w_iload_n dX10_owedBy_71 rfl ?_
      refine w_iconst dX10_owedBy_72 ic_0 ?_
      refine c_V (t := 10) (as := [_, _]) (d' := 0) dX10_owedBy_73 mlX10_131 moX10_of mvX10_of ⟨rfl, rfl⟩ rfl rfl rfl rfl rfl (by decide) (vX10_of (V := V) (b := 0) hs (by simp [va_up, hI]) (by omega) ?_)
      by_cases w76_1 : V (48 + 4 * r + 0) = 1
      · refine w_tblIn (tgt := 112) dX10_owedBy_76 (by rw [w76_1]; decide) (by rw [w76_1]; decide) (by rw [w76_1]; rfl) (by decide) ?_
        refine w_iload dX10_owedBy_112 rfl ?_
        refine w_ireturn dX10_owedBy_114 rfl rfl ?_
        refine q_e ?_ (hq _ (fun a h1 h2 => by simp [va_up, h2]))
        rw [owedR, plainV, hcv]
        simp_all [owedF]
      by_cases w76_2 : V (48 + 4 * r + 0) = 2
      · refine w_tblIn (tgt := 115) dX10_owedBy_76 (by rw [w76_2]; decide) (by rw [w76_2]; decide) (by rw [w76_2]; rfl) (by decide) ?_
        refine w_iload dX10_owedBy_115 rfl ?_
        refine w_aload_n dX10_owedBy_117 rfl ?_
        refine w_iload_n dX10_owedBy_118 rfl ?_
        refine w_iconst dX10_owedBy_119 ic_2 ?_
        refine c_V (t := 10) (as := [_, _]) (d' := 0) dX10_owedBy_120 mlX10_131 moX10_of mvX10_of ⟨rfl, rfl⟩ rfl rfl rfl rfl rfl (by decide) (vX10_of (V := V) (b := 2) hs (by simp [va_up, hI]) (by omega) ?_)
        refine w_iadd dX10_owedBy_123 ?_
        refine w_ireturn dX10_owedBy_124 rfl rfl ?_
        refine q_e ?_ (hq _ (fun a h1 h2 => by simp [va_up, h2]))
        rw [owedR, plainV, hcv]
        simp_all [owedF]
      by_cases w76_3 : V (48 + 4 * r + 0) = 3
      · refine w_tblIn (tgt := 125) dX10_owedBy_76 (by rw [w76_3]; decide) (by rw [w76_3]; decide) (by rw [w76_3]; rfl) (by decide) ?_
        refine w_iload dX10_owedBy_125 rfl ?_
        refine w_aload_n dX10_owedBy_127 rfl ?_
        refine w_iload_n dX10_owedBy_128 rfl ?_
        refine w_iconst dX10_owedBy_129 ic_2 ?_
        refine c_V (t := 10) (as := [_, _]) (d' := 0) dX10_owedBy_130 mlX10_131 moX10_of mvX10_of ⟨rfl, rfl⟩ rfl rfl rfl rfl rfl (by decide) (vX10_of (V := V) (b := 2) hs (by simp [va_up, hI]) (by omega) ?_)
        refine w_icmp_le (tgt := 145) dX10_owedBy_133 (by decide) (fun c133 => ?_) (fun c133 => ?_)
        · refine w_iload dX10_owedBy_145 rfl ?_
          refine w_ireturn dX10_owedBy_147 rfl rfl ?_
          refine q_e ?_ (hq _ (fun a h1 h2 => by simp [va_up, h2]))
          rw [owedR, plainV, hcv]
          rw [show V (48 + 4 * r) = 3 from w76_3, owedF_3]
          first | exact if_pos (Int32.not_le.mp c133) | exact if_neg (Int32.not_lt.mpr c133)
        · refine w_aload_n dX10_owedBy_136 rfl ?_
          refine w_iload_n dX10_owedBy_137 rfl ?_
          refine w_iconst dX10_owedBy_138 ic_2 ?_
          refine c_V (t := 10) (as := [_, _]) (d' := 0) dX10_owedBy_139 mlX10_131 moX10_of mvX10_of ⟨rfl, rfl⟩ rfl rfl rfl rfl rfl (by decide) (vX10_of (V := V) (b := 2) hs (by simp [va_up, hI]) (by omega) ?_)
          refine w_goto (tgt := 147) dX10_owedBy_142 (by decide) ?_
          refine w_ireturn dX10_owedBy_147 rfl rfl ?_
          refine q_e ?_ (hq _ (fun a h1 h2 => by simp [va_up, h2]))
          rw [owedR, plainV, hcv]
          rw [show V (48 + 4 * r) = 3 from w76_3, owedF_3]
          first | exact if_pos (Int32.not_le.mp c133) | exact if_neg (Int32.not_lt.mpr c133)
      by_cases w76_4 : V (48 + 4 * r + 0) = 4
      · refine w_tblIn (tgt := 148) dX10_owedBy_76 (by rw [w76_4]; decide) (by rw [w76_4]; decide) (by rw [w76_4]; rfl) (by decide) ?_
        refine w_iload_n dX10_owedBy_148 rfl ?_
        refine w_aload_n dX10_owedBy_149 rfl ?_
        refine w_iload_n dX10_owedBy_150 rfl ?_
        refine w_iconst dX10_owedBy_151 ic_3 ?_
        refine c_V (t := 10) (as := [_, _]) (d' := 0) dX10_owedBy_152 mlX10_131 moX10_of mvX10_of ⟨rfl, rfl⟩ rfl rfl rfl rfl rfl (by decide) (vX10_of (V := V) (b := 3) hs (by simp [va_up, hI]) (by omega) ?_)
        refine w_irem dX10_owedBy_155 (fun q => by obtain ⟨kc, hc1, hc2, hc3⟩ := (hV.2.2.2.2.1 r hr).2; rw [hc3] at q; exact nI_ne0 (by omega) (by omega) q) ?_
        refine w_if_ne (tgt := 163) dX10_owedBy_156 (by decide) (fun c156 => ?_) (fun c156 => ?_)
        · refine w_iload dX10_owedBy_163 rfl ?_
          refine w_aload_n dX10_owedBy_165 rfl ?_
          refine w_iload_n dX10_owedBy_166 rfl ?_
          refine w_iconst dX10_owedBy_167 ic_2 ?_
          refine c_V (t := 10) (as := [_, _]) (d' := 0) dX10_owedBy_168 mlX10_131 moX10_of mvX10_of ⟨rfl, rfl⟩ rfl rfl rfl rfl rfl (by decide) (vX10_of (V := V) (b := 2) hs (by simp [va_up, hI]) (by omega) ?_)
          refine w_iadd dX10_owedBy_171 ?_
          refine w_ireturn dX10_owedBy_172 rfl rfl ?_
          refine q_e ?_ (hq _ (fun a h1 h2 => by simp [va_up, h2]))
          rw [owedR, plainV, hcv]
          simp_all [owedF]
        · refine w_iconst dX10_owedBy_159 ic_0 ?_
          refine w_goto (tgt := 172) dX10_owedBy_160 (by decide) ?_
          refine w_ireturn dX10_owedBy_172 rfl rfl ?_
          refine q_e ?_ (hq _ (fun a h1 h2 => by simp [va_up, h2]))
          rw [owedR, plainV, hcv]
          simp_all [owedF]
      by_cases w76_5 : V (48 + 4 * r + 0) = 5
      · refine w_tblIn (tgt := 173) dX10_owedBy_76 (by rw [w76_5]; decide) (by rw [w76_5]; decide) (by rw [w76_5]; rfl) (by decide) ?_
        refine w_iconst dX10_owedBy_173 ic_0 ?_
        refine w_ireturn dX10_owedBy_174 rfl rfl ?_
        refine q_e ?_ (hq _ (fun a h1 h2 => by simp [va_up, h2]))
        rw [owedR, plainV, hcv]
        simp_all [owedF]
      refine w_tblOut (tgt := 175) dX10_owedBy_76 (by have := i_ne (k := 1) (a := 1) rfl w76_1; have := i_ne (k := 2) (a := 2) rfl w76_2; have := i_ne (k := 3) (a := 3) rfl w76_3; have := i_ne (k := 4) (a := 4) rfl w76_4; have := i_ne (k := 5) (a := 5) rfl w76_5; omega) (by decide) ?_
      refine w_iload dX10_owedBy_175 rfl ?_
      refine w_ireturn dX10_owedBy_177 rfl rfl ?_
      refine q_e ?_ (hq _ (fun a h1 h2 => by simp [va_up, h2]))
      rw [owedR, plainV, hcv]
      simp_all [owedF]
  | some t =>
    obtain ⟨ht, hkey, hok⟩ := cnt_ok hV (by decide) hcv
    have hcm : cntM V 0 = nI t := by rw [cntM, hcv]
    have h14 := hV.2.2.1.2
    refine ca_in (al := [_, _, _, _, _, _]) rfl ?_
    refine w_aload_n dX10_owedBy_0 rfl ?_
    refine w_iconst dX10_owedBy_1 ic_0 ?_
    have hr8 := hV.2.1.2
    refine c_V (t := 10) (as := [_]) (d' := 0) dX10_owedBy_2 mlX10_147 moX10_counts mvX10_counts ⟨rfl, rfl⟩ rfl rfl rfl rfl rfl (by decide) (sX10_counts hs hI hV.2.2.1 ?_)
    refine w_top (y := nI t) (hcm) ?_
    refine w_istore_n (al' := [_, _, _, _, _, _]) dX10_owedBy_5 rfl rfl rfl ?_
    refine w_aload_n dX10_owedBy_6 rfl ?_
    refine w_getR dX10_owedBy_7 flX10_66 rfl (hs.r (a := 117) (j := 33) (b := 136) 134 rfl) ?_
    refine w_iconst dX10_owedBy_10 ic_0 ?_
    refine w_iload_n dX10_owedBy_11 rfl ?_
    refine w_iast (q := 0) dX10_owedBy_12 rfl (hs.n (a := 136) (z := 4) 90 rfl) (by decide) ?_
    refine w_aload_n dX10_owedBy_13 rfl ?_
    refine w_getR dX10_owedBy_14 flX10_66 rfl (hs.r (a := 117) (j := 33) (b := 136) 134 rfl) ?_
    refine w_iconst dX10_owedBy_17 ic_1 ?_
    refine w_aload_n dX10_owedBy_18 rfl ?_
    refine w_iload_n dX10_owedBy_19 rfl ?_
    refine w_iconst dX10_owedBy_20 ic_1 ?_
    refine c_V (t := 10) (as := [_, _]) (d' := 0) dX10_owedBy_21 mlX10_131 moX10_of mvX10_of ⟨rfl, rfl⟩ rfl rfl rfl rfl rfl (by decide) (vX10_of (V := V) (b := 1) hs (by simp [va_up, hI]) (by omega) ?_)
    refine w_iast (q := 1) dX10_owedBy_24 rfl (hs.n (a := 136) (z := 4) 90 rfl) (by decide) ?_
    refine w_aload_n dX10_owedBy_25 rfl ?_
    refine w_getR dX10_owedBy_26 flX10_66 rfl (hs.r (a := 117) (j := 33) (b := 136) 134 rfl) ?_
    refine w_iconst dX10_owedBy_29 ic_2 ?_
    refine w_aload_n dX10_owedBy_30 rfl ?_
    refine w_iload_n dX10_owedBy_31 rfl ?_
    refine w_iconst dX10_owedBy_32 ic_2 ?_
    refine c_V (t := 10) (as := [_, _]) (d' := 0) dX10_owedBy_33 mlX10_131 moX10_of mvX10_of ⟨rfl, rfl⟩ rfl rfl rfl rfl rfl (by decide) (vX10_of (V := V) (b := 2) hs (by simp [va_up, hI]) (by omega) ?_)
    refine w_iast (q := 2) dX10_owedBy_36 rfl (hs.n (a := 136) (z := 4) 90 rfl) (by decide) ?_
    refine w_iload_n dX10_owedBy_37 rfl ?_
    refine w_if_ge (tgt := 50) dX10_owedBy_38 (by decide) (fun c38 => ?_) (fun c38 => ?_)
    · refine w_aload_n dX10_owedBy_50 rfl ?_
      refine w_iload_n dX10_owedBy_51 rfl ?_
      refine c_V (t := 10) (as := [_]) (d' := 1) dX10_owedBy_52 mlX10_150 moX10_worksOut mvX10_worksOut ⟨rfl, rfl⟩ rfl rfl rfl rfl rfl (by decide) (vX10_worksOut (V := V) (f0 := d) (f1 := V (48 + 4 * r + 1)) (f2 := V (48 + 4 * r + 2)) hs (by simp [va_up, hI]) (by omega) hok (by simp [va_up]) (by simp [va_up]) (by simp [va_up]) (fun I1 hI1 => ?_))
      refine w_iconst dX10_owedBy_55 ic_0 ?_
      refine w_sipush dX10_owedBy_56 sp_999 ?_
      refine c_S (as := [_, _, _]) (d' := 0) dX10_owedBy_59 (Or.inl mlX10_153) moX10_within msX10_within rfl rfl rfl rfl rfl (by decide) (sX10_within ?_)
      refine w_istore (al' := [_, _, _, _, _, _]) dX10_owedBy_62 rfl rfl rfl ?_
      refine w_iload_n dX10_owedBy_64 rfl ?_
      refine w_iload dX10_owedBy_65 rfl ?_
      refine w_imul dX10_owedBy_67 ?_
      refine w_istore (al' := [_, _, _, _, _, _]) dX10_owedBy_68 rfl rfl rfl ?_
      refine w_aload_n dX10_owedBy_70 rfl ?_
      refine w_iload_n dX10_owedBy_71 rfl ?_
      refine w_iconst dX10_owedBy_72 ic_0 ?_
      refine c_V (t := 10) (as := [_, _]) (d' := 0) dX10_owedBy_73 mlX10_131 moX10_of mvX10_of ⟨rfl, rfl⟩ rfl rfl rfl rfl rfl (by decide) (vX10_of (V := V) (b := 0) hs ((hI1 118 (by decide)).trans (by simp [va_up, hI])) (by omega) ?_)
      by_cases w76_1 : V (48 + 4 * r + 0) = 1
      · refine w_tblIn (tgt := 112) dX10_owedBy_76 (by rw [w76_1]; decide) (by rw [w76_1]; decide) (by rw [w76_1]; rfl) (by decide) ?_
        refine w_iload dX10_owedBy_112 rfl ?_
        refine w_ireturn dX10_owedBy_114 rfl rfl ?_
        refine q_e ?_ (hq I1 (fun a h1 h2 => (hI1 a h1).trans (by simp [va_up, h2])))
        rw [owedR, plainV, hcv]
        simp_all [owedF]
      by_cases w76_2 : V (48 + 4 * r + 0) = 2
      · refine w_tblIn (tgt := 115) dX10_owedBy_76 (by rw [w76_2]; decide) (by rw [w76_2]; decide) (by rw [w76_2]; rfl) (by decide) ?_
        refine w_iload dX10_owedBy_115 rfl ?_
        refine w_aload_n dX10_owedBy_117 rfl ?_
        refine w_iload_n dX10_owedBy_118 rfl ?_
        refine w_iconst dX10_owedBy_119 ic_2 ?_
        refine c_V (t := 10) (as := [_, _]) (d' := 0) dX10_owedBy_120 mlX10_131 moX10_of mvX10_of ⟨rfl, rfl⟩ rfl rfl rfl rfl rfl (by decide) (vX10_of (V := V) (b := 2) hs ((hI1 118 (by decide)).trans (by simp [va_up, hI])) (by omega) ?_)
        refine w_iadd dX10_owedBy_123 ?_
        refine w_ireturn dX10_owedBy_124 rfl rfl ?_
        refine q_e ?_ (hq I1 (fun a h1 h2 => (hI1 a h1).trans (by simp [va_up, h2])))
        rw [owedR, plainV, hcv]
        simp_all [owedF]
      by_cases w76_3 : V (48 + 4 * r + 0) = 3
      · refine w_tblIn (tgt := 125) dX10_owedBy_76 (by rw [w76_3]; decide) (by rw [w76_3]; decide) (by rw [w76_3]; rfl) (by decide) ?_
        refine w_iload dX10_owedBy_125 rfl ?_
        refine w_aload_n dX10_owedBy_127 rfl ?_
        refine w_iload_n dX10_owedBy_128 rfl ?_
        refine w_iconst dX10_owedBy_129 ic_2 ?_
        refine c_V (t := 10) (as := [_, _]) (d' := 0) dX10_owedBy_130 mlX10_131 moX10_of mvX10_of ⟨rfl, rfl⟩ rfl rfl rfl rfl rfl (by decide) (vX10_of (V := V) (b := 2) hs ((hI1 118 (by decide)).trans (by simp [va_up, hI])) (by omega) ?_)
        refine w_icmp_le (tgt := 145) dX10_owedBy_133 (by decide) (fun c133 => ?_) (fun c133 => ?_)
        · refine w_iload dX10_owedBy_145 rfl ?_
          refine w_ireturn dX10_owedBy_147 rfl rfl ?_
          refine q_e ?_ (hq I1 (fun a h1 h2 => (hI1 a h1).trans (by simp [va_up, h2])))
          rw [owedR, plainV, hcv]
          rw [show V (48 + 4 * r) = 3 from w76_3, owedF_3]
          first | exact if_pos (Int32.not_le.mp c133) | exact if_neg (Int32.not_lt.mpr c133)
        · refine w_aload_n dX10_owedBy_136 rfl ?_
          refine w_iload_n dX10_owedBy_137 rfl ?_
          refine w_iconst dX10_owedBy_138 ic_2 ?_
          refine c_V (t := 10) (as := [_, _]) (d' := 0) dX10_owedBy_139 mlX10_131 moX10_of mvX10_of ⟨rfl, rfl⟩ rfl rfl rfl rfl rfl (by decide) (vX10_of (V := V) (b := 2) hs ((hI1 118 (by decide)).trans (by simp [va_up, hI])) (by omega) ?_)
          refine w_goto (tgt := 147) dX10_owedBy_142 (by decide) ?_
          refine w_ireturn dX10_owedBy_147 rfl rfl ?_
          refine q_e ?_ (hq I1 (fun a h1 h2 => (hI1 a h1).trans (by simp [va_up, h2])))
          rw [owedR, plainV, hcv]
          rw [show V (48 + 4 * r) = 3 from w76_3, owedF_3]
          first | exact if_pos (Int32.not_le.mp c133) | exact if_neg (Int32.not_lt.mpr c133)
      by_cases w76_4 : V (48 + 4 * r + 0) = 4
      · refine w_tblIn (tgt := 148) dX10_owedBy_76 (by rw [w76_4]; decide) (by rw [w76_4]; decide) (by rw [w76_4]; rfl) (by decide) ?_
        refine w_iload_n dX10_owedBy_148 rfl ?_
        refine w_aload_n dX10_owedBy_149 rfl ?_
        refine w_iload_n dX10_owedBy_150 rfl ?_
        refine w_iconst dX10_owedBy_151 ic_3 ?_
        refine c_V (t := 10) (as := [_, _]) (d' := 0) dX10_owedBy_152 mlX10_131 moX10_of mvX10_of ⟨rfl, rfl⟩ rfl rfl rfl rfl rfl (by decide) (vX10_of (V := V) (b := 3) hs ((hI1 118 (by decide)).trans (by simp [va_up, hI])) (by omega) ?_)
        refine w_irem dX10_owedBy_155 (fun q => by obtain ⟨kc, hc1, hc2, hc3⟩ := (hV.2.2.2.2.1 r hr).2; rw [hc3] at q; exact nI_ne0 (by omega) (by omega) q) ?_
        refine w_if_ne (tgt := 163) dX10_owedBy_156 (by decide) (fun c156 => ?_) (fun c156 => ?_)
        · refine w_iload dX10_owedBy_163 rfl ?_
          refine w_aload_n dX10_owedBy_165 rfl ?_
          refine w_iload_n dX10_owedBy_166 rfl ?_
          refine w_iconst dX10_owedBy_167 ic_2 ?_
          refine c_V (t := 10) (as := [_, _]) (d' := 0) dX10_owedBy_168 mlX10_131 moX10_of mvX10_of ⟨rfl, rfl⟩ rfl rfl rfl rfl rfl (by decide) (vX10_of (V := V) (b := 2) hs ((hI1 118 (by decide)).trans (by simp [va_up, hI])) (by omega) ?_)
          refine w_iadd dX10_owedBy_171 ?_
          refine w_ireturn dX10_owedBy_172 rfl rfl ?_
          refine q_e ?_ (hq I1 (fun a h1 h2 => (hI1 a h1).trans (by simp [va_up, h2])))
          rw [owedR, plainV, hcv]
          simp_all [owedF]
        · refine w_iconst dX10_owedBy_159 ic_0 ?_
          refine w_goto (tgt := 172) dX10_owedBy_160 (by decide) ?_
          refine w_ireturn dX10_owedBy_172 rfl rfl ?_
          refine q_e ?_ (hq I1 (fun a h1 h2 => (hI1 a h1).trans (by simp [va_up, h2])))
          rw [owedR, plainV, hcv]
          simp_all [owedF]
      by_cases w76_5 : V (48 + 4 * r + 0) = 5
      · refine w_tblIn (tgt := 173) dX10_owedBy_76 (by rw [w76_5]; decide) (by rw [w76_5]; decide) (by rw [w76_5]; rfl) (by decide) ?_
        refine w_iconst dX10_owedBy_173 ic_0 ?_
        refine w_ireturn dX10_owedBy_174 rfl rfl ?_
        refine q_e ?_ (hq I1 (fun a h1 h2 => (hI1 a h1).trans (by simp [va_up, h2])))
        rw [owedR, plainV, hcv]
        simp_all [owedF]
      refine w_tblOut (tgt := 175) dX10_owedBy_76 (by have := i_ne (k := 1) (a := 1) rfl w76_1; have := i_ne (k := 2) (a := 2) rfl w76_2; have := i_ne (k := 3) (a := 3) rfl w76_3; have := i_ne (k := 4) (a := 4) rfl w76_4; have := i_ne (k := 5) (a := 5) rfl w76_5; omega) (by decide) ?_
      refine w_iload dX10_owedBy_175 rfl ?_
      refine w_ireturn dX10_owedBy_177 rfl rfl ?_
      refine q_e ?_ (hq I1 (fun a h1 h2 => (hI1 a h1).trans (by simp [va_up, h2])))
      rw [owedR, plainV, hcv]
      simp_all [owedF]
    · exact absurd (nI_pos' (by omega)) c38

set_option maxRecDepth 20000 in
theorem sX10_forgetsOn (hs : SK R N) {V : VV} (hI : I 118 = V) (hV : VO V) {s : Nat} (hss : s < nS V) {d : Int32}
    (hq : ∀ I' : HI, (∀ a, a ≠ 135 → a ≠ 136 → I' a = I a) → Q (vI (forgV V (V (6 + 7 * s + 1)) (told (V 4)) d)) I' L R N n) : CA sc 2 0 0 mX10_forgetsOn [vR 10 117, vI (nI s), vI d] I L R N n Q := by
  cases hcv : cntV V 2 with
  | none =>
    have hcm : cntM V 2 = -1 := by rw [cntM, hcv]
    refine ca_in (al := [_, _, _, _]) rfl ?_
    refine w_aload_n dX10_forgetsOn_0 rfl ?_
    refine w_iconst dX10_forgetsOn_1 ic_2 ?_
    have hs6 := hV.1.2
    refine c_V (t := 10) (as := [_]) (d' := 0) dX10_forgetsOn_2 mlX10_147 moX10_counts mvX10_counts ⟨rfl, rfl⟩ rfl rfl rfl rfl rfl (by decide) (sX10_counts hs hI hV.2.2.1 ?_)
    refine w_top (y := -1) (hcm) ?_
    refine w_istore_n (al' := [_, _, _, _]) dX10_forgetsOn_5 rfl rfl rfl ?_
    refine w_aload_n dX10_forgetsOn_6 rfl ?_
    refine w_getR dX10_forgetsOn_7 flX10_66 rfl (hs.r (a := 117) (j := 33) (b := 136) 134 rfl) ?_
    refine w_iconst dX10_forgetsOn_10 ic_0 ?_
    refine w_iload_n dX10_forgetsOn_11 rfl ?_
    refine w_iast (q := 0) dX10_forgetsOn_12 rfl (hs.n (a := 136) (z := 4) 90 rfl) (by decide) ?_
    refine w_aload_n dX10_forgetsOn_13 rfl ?_
    refine w_getR dX10_forgetsOn_14 flX10_66 rfl (hs.r (a := 117) (j := 33) (b := 136) 134 rfl) ?_
    refine w_iconst dX10_forgetsOn_17 ic_1 ?_
    refine w_aload_n dX10_forgetsOn_18 rfl ?_
    refine w_iload_n dX10_forgetsOn_19 rfl ?_
    refine w_iconst dX10_forgetsOn_20 ic_1 ?_
    refine c_V (t := 10) (as := [_, _]) (d' := 0) dX10_forgetsOn_21 mlX10_111 moX10_sortOf mvX10_sortOf ⟨rfl, rfl⟩ rfl rfl rfl rfl rfl (by decide) (vX10_sortOf (V := V) (b := 1) hs (by simp [va_up, hI]) (by omega) ?_)
    refine w_iast (q := 1) dX10_forgetsOn_24 rfl (hs.n (a := 136) (z := 4) 90 rfl) (by decide) ?_
    refine w_iload_n dX10_forgetsOn_25 rfl ?_
    refine w_if_lt (tgt := 41) dX10_forgetsOn_26 (by decide) (fun c26 => ?_) (fun c26 => ?_)
    · refine w_aload_n dX10_forgetsOn_41 rfl ?_
      refine w_getR dX10_forgetsOn_42 flX10_9 rfl (hs.r (a := 117) (j := 0) (b := 118) 116 rfl) ?_
      refine w_iconst dX10_forgetsOn_45 ic_4 ?_
      refine w_iald (q := 4) dX10_forgetsOn_46 rfl (hs.n (a := 118) (z := 1452) 72 rfl) (by decide) ?_
      refine w_top (y := V 4) (by simp [va_up, hI]) ?_
      refine w_if_lt (tgt := 71) dX10_forgetsOn_47 (by decide) (fun c47 => ?_) (fun c47 => ?_)
      · refine w_aload_n dX10_forgetsOn_71 rfl ?_
        refine w_iload_n dX10_forgetsOn_72 rfl ?_
        refine w_iconst dX10_forgetsOn_73 ic_1 ?_
        refine c_V (t := 10) (as := [_, _]) (d' := 0) dX10_forgetsOn_74 mlX10_111 moX10_sortOf mvX10_sortOf ⟨rfl, rfl⟩ rfl rfl rfl rfl rfl (by decide) (vX10_sortOf (V := V) (b := 1) hs (by simp [va_up, hI]) (by omega) ?_)
        refine w_ireturn dX10_forgetsOn_77 rfl rfl ?_
        refine q_e ?_ (hq _ (fun a h1 h2 => by simp [va_up, h2]))
        rw [forgV, hcv]
        first | exact if_pos (Or.inl (if_pos c47)) | (rw [told, if_neg c47]; first | exact if_pos (Or.inr c57) | exact if_neg (fun q => q.elim (fun q => by rw [q] at c47; exact c47 (by decide)) c57))
      · refine w_iload_n dX10_forgetsOn_50 rfl ?_
        refine w_aload_n dX10_forgetsOn_51 rfl ?_
        refine w_getR dX10_forgetsOn_52 flX10_9 rfl (hs.r (a := 117) (j := 0) (b := 118) 116 rfl) ?_
        refine w_iconst dX10_forgetsOn_55 ic_4 ?_
        refine w_iald (q := 4) dX10_forgetsOn_56 rfl (hs.n (a := 118) (z := 1452) 72 rfl) (by decide) ?_
        refine w_top (y := V 4) (by simp [va_up, hI]) ?_
        refine w_icmp_lt (tgt := 71) dX10_forgetsOn_57 (by decide) (fun c57 => ?_) (fun c57 => ?_)
        · refine w_aload_n dX10_forgetsOn_71 rfl ?_
          refine w_iload_n dX10_forgetsOn_72 rfl ?_
          refine w_iconst dX10_forgetsOn_73 ic_1 ?_
          refine c_V (t := 10) (as := [_, _]) (d' := 0) dX10_forgetsOn_74 mlX10_111 moX10_sortOf mvX10_sortOf ⟨rfl, rfl⟩ rfl rfl rfl rfl rfl (by decide) (vX10_sortOf (V := V) (b := 1) hs (by simp [va_up, hI]) (by omega) ?_)
          refine w_ireturn dX10_forgetsOn_77 rfl rfl ?_
          refine q_e ?_ (hq _ (fun a h1 h2 => by simp [va_up, h2]))
          rw [forgV, hcv]
          first | exact if_pos (Or.inl (if_pos c47)) | (rw [told, if_neg c47]; first | exact if_pos (Or.inr c57) | exact if_neg (fun q => q.elim (fun q => by rw [q] at c47; exact c47 (by decide)) c57))
        · refine w_aload_n dX10_forgetsOn_60 rfl ?_
          refine w_iload_n dX10_forgetsOn_61 rfl ?_
          refine w_iconst dX10_forgetsOn_62 ic_1 ?_
          refine c_V (t := 10) (as := [_, _]) (d' := 0) dX10_forgetsOn_63 mlX10_111 moX10_sortOf mvX10_sortOf ⟨rfl, rfl⟩ rfl rfl rfl rfl rfl (by decide) (vX10_sortOf (V := V) (b := 1) hs (by simp [va_up, hI]) (by omega) ?_)
          refine w_iconst dX10_forgetsOn_66 ic_2 ?_
          refine w_idiv dX10_forgetsOn_67 (by decide) ?_
          refine w_goto (tgt := 77) dX10_forgetsOn_68 (by decide) ?_
          refine w_ireturn dX10_forgetsOn_77 rfl rfl ?_
          refine q_e ?_ (hq _ (fun a h1 h2 => by simp [va_up, h2]))
          rw [forgV, hcv]
          first | exact if_pos (Or.inl (if_pos c47)) | (rw [told, if_neg c47]; first | exact if_pos (Or.inr c57) | exact if_neg (fun q => q.elim (fun q => by rw [q] at c47; exact c47 (by decide)) c57))
    · exact absurd (by decide) c26
  | some t =>
    obtain ⟨ht, hkey, hok⟩ := cnt_ok hV (by decide) hcv
    have hcm : cntM V 2 = nI t := by rw [cntM, hcv]
    have h14 := hV.2.2.1.2
    refine ca_in (al := [_, _, _, _]) rfl ?_
    refine w_aload_n dX10_forgetsOn_0 rfl ?_
    refine w_iconst dX10_forgetsOn_1 ic_2 ?_
    have hs6 := hV.1.2
    refine c_V (t := 10) (as := [_]) (d' := 0) dX10_forgetsOn_2 mlX10_147 moX10_counts mvX10_counts ⟨rfl, rfl⟩ rfl rfl rfl rfl rfl (by decide) (sX10_counts hs hI hV.2.2.1 ?_)
    refine w_top (y := nI t) (hcm) ?_
    refine w_istore_n (al' := [_, _, _, _]) dX10_forgetsOn_5 rfl rfl rfl ?_
    refine w_aload_n dX10_forgetsOn_6 rfl ?_
    refine w_getR dX10_forgetsOn_7 flX10_66 rfl (hs.r (a := 117) (j := 33) (b := 136) 134 rfl) ?_
    refine w_iconst dX10_forgetsOn_10 ic_0 ?_
    refine w_iload_n dX10_forgetsOn_11 rfl ?_
    refine w_iast (q := 0) dX10_forgetsOn_12 rfl (hs.n (a := 136) (z := 4) 90 rfl) (by decide) ?_
    refine w_aload_n dX10_forgetsOn_13 rfl ?_
    refine w_getR dX10_forgetsOn_14 flX10_66 rfl (hs.r (a := 117) (j := 33) (b := 136) 134 rfl) ?_
    refine w_iconst dX10_forgetsOn_17 ic_1 ?_
    refine w_aload_n dX10_forgetsOn_18 rfl ?_
    refine w_iload_n dX10_forgetsOn_19 rfl ?_
    refine w_iconst dX10_forgetsOn_20 ic_1 ?_
    refine c_V (t := 10) (as := [_, _]) (d' := 0) dX10_forgetsOn_21 mlX10_111 moX10_sortOf mvX10_sortOf ⟨rfl, rfl⟩ rfl rfl rfl rfl rfl (by decide) (vX10_sortOf (V := V) (b := 1) hs (by simp [va_up, hI]) (by omega) ?_)
    refine w_iast (q := 1) dX10_forgetsOn_24 rfl (hs.n (a := 136) (z := 4) 90 rfl) (by decide) ?_
    refine w_iload_n dX10_forgetsOn_25 rfl ?_
    refine w_if_lt (tgt := 41) dX10_forgetsOn_26 (by decide) (fun c26 => ?_) (fun c26 => ?_)
    · exact absurd c26 (nI_pos (by omega))
    · refine w_aload_n dX10_forgetsOn_29 rfl ?_
      refine w_iload_n dX10_forgetsOn_30 rfl ?_
      refine c_V (t := 10) (as := [_]) (d' := 1) dX10_forgetsOn_31 mlX10_150 moX10_worksOut mvX10_worksOut ⟨rfl, rfl⟩ rfl rfl rfl rfl rfl (by decide) (vX10_worksOut (V := V) (f0 := d) (f1 := V (6 + 7 * s + 1)) (f2 := I 136 2) hs (by simp [va_up, hI]) (by omega) hok (by simp [va_up]) (by simp [va_up]) (by simp [va_up]) (fun I1 hI1 => ?_))
      refine w_iconst dX10_forgetsOn_34 ic_0 ?_
      refine w_bipush dX10_forgetsOn_35 bp_100 ?_
      refine c_S (as := [_, _, _]) (d' := 0) dX10_forgetsOn_37 (Or.inl mlX10_153) moX10_within msX10_within rfl rfl rfl rfl rfl (by decide) (sX10_within ?_)
      refine w_ireturn dX10_forgetsOn_40 rfl rfl ?_
      refine q_e ?_ (hq I1 (fun a h1 h2 => (hI1 a h1).trans (by simp [va_up, h2])))
      rw [forgV, hcv]
      exact congrArg (fun z => clampI z _ _) (evV_f2 (by rw [hkey]; decide) hok.2.2.2)

set_option maxRecDepth 20000 in
theorem sX10_shameOf (hs : SK R N) {V : VV} (hI : I 118 = V) (hV : VO V) {s : Nat} (hss : s < nS V) {d : Int32}
    (hq : ∀ I' : HI, (∀ a, a ≠ 135 → a ≠ 136 → I' a = I a) → Q (vI (shamV V (V (6 + 7 * s + 3)) d)) I' L R N n) : CA sc 2 0 0 mX10_shameOf [vR 10 117, vI (nI s), vI d] I L R N n Q := by
  cases hcv : cntV V 1 with
  | none =>
    have hcm : cntM V 1 = -1 := by rw [cntM, hcv]
    refine ca_in (al := [_, _, _, _]) rfl ?_
    refine w_aload_n dX10_shameOf_0 rfl ?_
    refine w_iconst dX10_shameOf_1 ic_1 ?_
    have hs6 := hV.1.2
    refine c_V (t := 10) (as := [_]) (d' := 0) dX10_shameOf_2 mlX10_147 moX10_counts mvX10_counts ⟨rfl, rfl⟩ rfl rfl rfl rfl rfl (by decide) (sX10_counts hs hI hV.2.2.1 ?_)
    refine w_top (y := -1) (hcm) ?_
    refine w_istore_n (al' := [_, _, _, _]) dX10_shameOf_5 rfl rfl rfl ?_
    refine w_aload_n dX10_shameOf_6 rfl ?_
    refine w_getR dX10_shameOf_7 flX10_66 rfl (hs.r (a := 117) (j := 33) (b := 136) 134 rfl) ?_
    refine w_iconst dX10_shameOf_10 ic_0 ?_
    refine w_iload_n dX10_shameOf_11 rfl ?_
    refine w_iast (q := 0) dX10_shameOf_12 rfl (hs.n (a := 136) (z := 4) 90 rfl) (by decide) ?_
    refine w_aload_n dX10_shameOf_13 rfl ?_
    refine w_getR dX10_shameOf_14 flX10_66 rfl (hs.r (a := 117) (j := 33) (b := 136) 134 rfl) ?_
    refine w_iconst dX10_shameOf_17 ic_1 ?_
    refine w_aload_n dX10_shameOf_18 rfl ?_
    refine w_iload_n dX10_shameOf_19 rfl ?_
    refine w_iconst dX10_shameOf_20 ic_3 ?_
    refine c_V (t := 10) (as := [_, _]) (d' := 0) dX10_shameOf_21 mlX10_111 moX10_sortOf mvX10_sortOf ⟨rfl, rfl⟩ rfl rfl rfl rfl rfl (by decide) (vX10_sortOf (V := V) (b := 3) hs (by simp [va_up, hI]) (by omega) ?_)
    refine w_iast (q := 1) dX10_shameOf_24 rfl (hs.n (a := 136) (z := 4) 90 rfl) (by decide) ?_
    refine w_iload_n dX10_shameOf_25 rfl ?_
    refine w_if_ge (tgt := 43) dX10_shameOf_26 (by decide) (fun c26 => ?_) (fun c26 => ?_)
    · exact absurd c26 (by decide)
    · refine w_aload_n dX10_shameOf_29 rfl ?_
      refine w_iload_n dX10_shameOf_30 rfl ?_
      refine w_iconst dX10_shameOf_31 ic_3 ?_
      refine c_V (t := 10) (as := [_, _]) (d' := 0) dX10_shameOf_32 mlX10_111 moX10_sortOf mvX10_sortOf ⟨rfl, rfl⟩ rfl rfl rfl rfl rfl (by decide) (vX10_sortOf (V := V) (b := 3) hs (by simp [va_up, hI]) (by omega) ?_)
      refine w_iload_n dX10_shameOf_35 rfl ?_
      refine w_imul dX10_shameOf_36 ?_
      refine w_bipush dX10_shameOf_37 bp_10 ?_
      refine w_idiv dX10_shameOf_39 (by decide) ?_
      refine w_goto (tgt := 55) dX10_shameOf_40 (by decide) ?_
      refine w_ireturn dX10_shameOf_55 rfl rfl ?_
      refine q_e ?_ (hq _ (fun a h1 h2 => by simp [va_up, h2]))
      rw [shamV, hcv]
  | some t =>
    obtain ⟨ht, hkey, hok⟩ := cnt_ok hV (by decide) hcv
    have hcm : cntM V 1 = nI t := by rw [cntM, hcv]
    have h14 := hV.2.2.1.2
    refine ca_in (al := [_, _, _, _]) rfl ?_
    refine w_aload_n dX10_shameOf_0 rfl ?_
    refine w_iconst dX10_shameOf_1 ic_1 ?_
    have hs6 := hV.1.2
    refine c_V (t := 10) (as := [_]) (d' := 0) dX10_shameOf_2 mlX10_147 moX10_counts mvX10_counts ⟨rfl, rfl⟩ rfl rfl rfl rfl rfl (by decide) (sX10_counts hs hI hV.2.2.1 ?_)
    refine w_top (y := nI t) (hcm) ?_
    refine w_istore_n (al' := [_, _, _, _]) dX10_shameOf_5 rfl rfl rfl ?_
    refine w_aload_n dX10_shameOf_6 rfl ?_
    refine w_getR dX10_shameOf_7 flX10_66 rfl (hs.r (a := 117) (j := 33) (b := 136) 134 rfl) ?_
    refine w_iconst dX10_shameOf_10 ic_0 ?_
    refine w_iload_n dX10_shameOf_11 rfl ?_
    refine w_iast (q := 0) dX10_shameOf_12 rfl (hs.n (a := 136) (z := 4) 90 rfl) (by decide) ?_
    refine w_aload_n dX10_shameOf_13 rfl ?_
    refine w_getR dX10_shameOf_14 flX10_66 rfl (hs.r (a := 117) (j := 33) (b := 136) 134 rfl) ?_
    refine w_iconst dX10_shameOf_17 ic_1 ?_
    refine w_aload_n dX10_shameOf_18 rfl ?_
    refine w_iload_n dX10_shameOf_19 rfl ?_
    refine w_iconst dX10_shameOf_20 ic_3 ?_
    refine c_V (t := 10) (as := [_, _]) (d' := 0) dX10_shameOf_21 mlX10_111 moX10_sortOf mvX10_sortOf ⟨rfl, rfl⟩ rfl rfl rfl rfl rfl (by decide) (vX10_sortOf (V := V) (b := 3) hs (by simp [va_up, hI]) (by omega) ?_)
    refine w_iast (q := 1) dX10_shameOf_24 rfl (hs.n (a := 136) (z := 4) 90 rfl) (by decide) ?_
    refine w_iload_n dX10_shameOf_25 rfl ?_
    refine w_if_ge (tgt := 43) dX10_shameOf_26 (by decide) (fun c26 => ?_) (fun c26 => ?_)
    · refine w_aload_n dX10_shameOf_43 rfl ?_
      refine w_iload_n dX10_shameOf_44 rfl ?_
      refine c_V (t := 10) (as := [_]) (d' := 1) dX10_shameOf_45 mlX10_150 moX10_worksOut mvX10_worksOut ⟨rfl, rfl⟩ rfl rfl rfl rfl rfl (by decide) (vX10_worksOut (V := V) (f0 := d) (f1 := V (6 + 7 * s + 3)) (f2 := I 136 2) hs (by simp [va_up, hI]) (by omega) hok (by simp [va_up]) (by simp [va_up]) (by simp [va_up]) (fun I1 hI1 => ?_))
      refine w_iconst dX10_shameOf_48 ic_0 ?_
      refine w_sipush dX10_shameOf_49 sp_9999 ?_
      refine c_S (as := [_, _, _]) (d' := 0) dX10_shameOf_52 (Or.inl mlX10_153) moX10_within msX10_within rfl rfl rfl rfl rfl (by decide) (sX10_within ?_)
      refine w_ireturn dX10_shameOf_55 rfl rfl ?_
      refine q_e ?_ (hq I1 (fun a h1 h2 => (hI1 a h1).trans (by simp [va_up, h2])))
      rw [shamV, hcv]
      exact congrArg (fun z => clampI z _ _) (evV_f2 (by rw [hkey]; decide) hok.2.2.2)
    · exact absurd (nI_pos' (by omega)) c26

end
