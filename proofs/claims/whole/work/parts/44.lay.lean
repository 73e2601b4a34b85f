section
variable {sc : SC} {I : HI} {L : HL} {R : HR} {N : HN} {n : Nat} {Q : HQ}
def layC (C hc : VV) (s k : Nat) : VV := fun i => if 24 * s ≤ i ∧ i < 24 * s + 24 then C (24 * k + (i - 24 * s)) else hc i
def layA (V : VV) (X : X3) (t k : Int32) : Int32 := if t = 1 then V (48 + 4 * k.toNatClampNeg) else if t = 2 then X.2.1 k.toNatClampNeg else k
def layB (V : VV) (t k : Int32) : Int32 := if t = 1 then worthV V k.toNatClampNeg else 0
def layH (X : X3) (hc : VV) (s : Nat) (t k : Int32) : VV := if t = 2 then layC X.2.2 hc s k.toNatClampNeg else hc
noncomputable def oLay (V : VV) (X : X3) (Y : Y4) (a t k : Int32) : Y4 × Int32 := cif ((0 ≤ a ∧ a ≤ 4) ∧ (0 ≤ t ∧ t ≤ 3) ∧ (t = 1 → isR V k) ∧ (t = 2 → 0 ≤ k ∧ k ≤ 3)) (cif (t = 2 ∧ X.1 k.toNatClampNeg = -1) (Y, -1000000011) ((va_up Y.1 a.toNatClampNeg t, va_up Y.2.1 a.toNatClampNeg (layA V X t k), va_up Y.2.2.1 a.toNatClampNeg (layB V t k), layH X Y.2.2.2 a.toNatClampNeg t k), Y.1 a.toNatClampNeg)) (Y, -1000000001)
theorem SLC.lay {I' : HI} {Y : Y4} (h : SLC I Y) {s : Nat} (hs : s < 5) {t A B : Int32} {hc' : VV} (hI : ∀ q, (q < 92 + 5 * s ∨ 97 + 5 * s ≤ q) → I' q = I q) (e0 : I' (92 + 5 * s) 0 = t) (e1 : t = 1 → I' (93 + 5 * s) 0 = A ∧ worthF (I' (93 + 5 * s) 0) (I' (94 + 5 * s) 0) (I' (94 + 5 * s) 1) (I' (94 + 5 * s) 2) = B) (e2 : t = 2 → I' (95 + 5 * s) 1 = A ∧ ∀ j, j < 24 → I' (96 + 5 * s) j = hc' (24 * s + j)) (e3 : t = 3 → I' (92 + 5 * s) 3 = A) (hx : ∀ i, (i < 24 * s ∨ 24 * s + 24 ≤ i) → hc' i = Y.2.2.2 i) : SLC I' (va_up Y.1 s t, va_up Y.2.1 s A, va_up Y.2.2.1 s B, hc') := by
  intro r hr
  show I' (92 + 5 * r) 0 = va_up Y.1 s t r ∧ (va_up Y.1 s t r = 1 → I' (93 + 5 * r) 0 = va_up Y.2.1 s A r ∧ _ = va_up Y.2.2.1 s B r) ∧ (va_up Y.1 s t r = 2 → I' (95 + 5 * r) 1 = va_up Y.2.1 s A r ∧ ∀ j, j < 24 → I' (96 + 5 * r) j = hc' (24 * r + j)) ∧ (va_up Y.1 s t r = 3 → I' (92 + 5 * r) 3 = va_up Y.2.1 s A r)
  by_cases e : r = s
  · subst e
    rw [va_up_self, va_up_self, va_up_self]
    exact ⟨e0, e1, e2, e3⟩
  · rw [va_up_ne _ _ e, va_up_ne _ _ e, va_up_ne _ _ e, hI (92 + 5 * r) (by omega), hI (93 + 5 * r) (by omega), hI (94 + 5 * r) (by omega), hI (95 + 5 * r) (by omega), hI (96 + 5 * r) (by omega)]
    obtain ⟨a0, a1, a2, a3⟩ := h r hr
    exact ⟨a0, a1, fun q => ⟨(a2 q).1, fun j hj => ((a2 q).2 j hj).trans (hx _ (by omega)).symm⟩, a3⟩
theorem SLO_oLay {V : VV} (hV : VO V) {X : X3} (hX : SO X.1 X.2.1) {Y : Y4} (hY : SLO Y) (a t k : Int32) : SLO (oLay V X Y a t k).1 := by
  unfold oLay
  by_cases h : (0 ≤ a ∧ a ≤ 4) ∧ (0 ≤ t ∧ t ≤ 3) ∧ (t = 1 → isR V k) ∧ (t = 2 → 0 ≤ k ∧ k ≤ 3)
  · rw [cif_t h]
    by_cases h2 : t = 2 ∧ X.1 k.toNatClampNeg = -1
    · rw [cif_t h2]; exact hY
    · rw [cif_f h2]
      intro s hs
      show (va_up Y.1 a.toNatClampNeg t s = 0 ∨ va_up Y.1 a.toNatClampNeg t s = 1 ∨ va_up Y.1 a.toNatClampNeg t s = 2 ∨ va_up Y.1 a.toNatClampNeg t s = 3) ∧ (va_up Y.1 a.toNatClampNeg t s = 1 → inN (va_up Y.2.1 a.toNatClampNeg (layA V X t k) s) 0 5) ∧ (va_up Y.1 a.toNatClampNeg t s = 2 → inN (va_up Y.2.1 a.toNatClampNeg (layA V X t k) s) 0 24)
      by_cases e : s = a.toNatClampNeg
      · rw [e, va_up_self, va_up_self]
        refine ⟨?_, fun q => ?_, fun q => ?_⟩
        · obtain ⟨j, hj, rfl⟩ := in_of (m := 3) (by decide) h.2.1
          rcases (show j = 0 ∨ j = 1 ∨ j = 2 ∨ j = 3 by omega) with rfl | rfl | rfl | rfl
          · exact Or.inl rfl
          · exact Or.inr (Or.inl rfl)
          · exact Or.inr (Or.inr (Or.inl rfl))
          · exact Or.inr (Or.inr (Or.inr rfl))
        · obtain ⟨r, hr, rfl⟩ := isR_of hV (h.2.2.1 q)
          have h8 := hV.2.1.2
          unfold layA
          rw [if_pos q, nI_clamp (by omega)]
          exact (hV.2.2.2.2.1 r hr).1
        · obtain ⟨j, hj, rfl⟩ := in_of (m := 3) (by decide) (h.2.2.2 q)
          unfold layA
          rw [if_neg (by rw [q]; decide), if_pos q, nI_clamp (by omega)]
          exact (hX j (by omega)).2
      · rw [va_up_ne _ _ e, va_up_ne _ _ e]; exact hY s hs
  · rw [cif_f h]; exact hY

set_option maxRecDepth 20000 in
theorem sX9_lay (hs : SK R N) {V : VV} (hV : VO V) (hC : WC I R N n 1 V) {X : X3} (hOX : SO X.1 X.2.1) (hX : SHC I X.1 X.2.1 X.2.2) {Y : Y4} (hO : SLO Y) (hS : SLC I Y) {a t k : Int32} (hq : ∀ I' : HI, (∀ q, (q < 92 ∨ 117 ≤ q) → I' q = I q) → SLC I' (oLay V X Y a t k).1 → Q (vI (oLay V X Y a t k).2) I' L R N n) : CA sc 2 0 0 mX9_lay [vR 9 0, vI a, vI t, vI k] I L R N n Q := by
  refine ca_in (al := [_, _, _, _, _, _, _]) rfl ?_
  refine w_aload_n dX9_lay_0 rfl ?_
  refine w_iload_n dX9_lay_1 rfl ?_
  by_cases ha : 0 ≤ a ∧ a ≤ 4
  · obtain ⟨s, hs5, rfl⟩ := in_of (m := 4) (by decide) ha
    have hsl := hs.slots (show s < 5 by omega)
    have hcl : (nI s).toNatClampNeg = s := nI_clamp (by omega)
    obtain ⟨t0, t1, t2, t3⟩ := hS s (by omega)
    obtain ⟨o0, o1, o2⟩ := hO s (by omega)
    refine c_V (t := 9) (as := [_]) (d' := 1) dX9_lay_2 mlX9_301 moX9_slotAt mvX9_slotAt ⟨rfl, rfl⟩ rfl rfl rfl rfl rfl (by decide) (sX9_slotAtS hs (show s < 5 by omega) ?_)
    refine w_astore (al' := [_, _, _, _, _, _, _]) dX9_lay_5 rfl rfl rfl ?_
    refine w_aload dX9_lay_7 rfl ?_
    refine w_ifnullR dX9_lay_9 ?_
    refine w_iload_n dX9_lay_12 rfl ?_
    refine w_iconst dX9_lay_13 ic_0 ?_
    refine w_iconst dX9_lay_14 ic_3 ?_
    refine c_S (as := [_, _, _]) (d' := 0) dX9_lay_15 (Or.inl mlX9_86) moX9_within msX9_within rfl rfl rfl rfl rfl (by decide) (sX9_within ?_)
    refine w_ifB_ne (tgt := 24) dX9_lay_18 (by decide) (fun c18 => ?_) (fun c18 => ?_)
    · obtain ⟨tt, ht3, rfl⟩ := in_of (m := 3) (by decide) c18
      refine w_aload dX9_lay_24 rfl ?_
      refine w_getI dX9_lay_26 flX9_305 rfl ?_
      refine w_top (y := Y.1 s) (t0) ?_
      refine w_istore (al' := [_, _, _, _, _, _, _]) dX9_lay_29 rfl rfl rfl ?_
      rcases (show tt = 0 ∨ tt = 1 ∨ tt = 2 ∨ tt = 3 by omega) with rfl | rfl | rfl | rfl
      · refine w_iload_n dX9_lay_31 rfl ?_
        refine w_iconst dX9_lay_32 ic_1 ?_
        refine w_icmp_ne (tgt := 64) dX9_lay_33 (by decide) (fun c33 => ?_) (fun c33 => ?_)
        · refine w_iload_n dX9_lay_64 rfl ?_
          refine w_iconst dX9_lay_65 ic_2 ?_
          refine w_icmp_ne (tgt := 107) dX9_lay_66 (by decide) (fun c66 => ?_) (fun c66 => ?_)
          · have e : oLay V X Y (nI s) (nI 0) k = ((va_up Y.1 s (nI 0), va_up Y.2.1 s (k), va_up Y.2.2.1 s (0), Y.2.2.2), Y.1 s) := by
              unfold oLay layA layB layH
              rw [cif_t ⟨ha, c18, fun q => absurd q (by decide), fun q => absurd q (by decide)⟩, cif_f (fun q => absurd q.1 (by decide)), hcl, if_neg (show ¬ nI 0 = 1 by decide), if_neg (show ¬ nI 0 = 2 by decide), if_neg (show ¬ nI 0 = 1 by decide), if_neg (show ¬ nI 0 = 2 by decide)]
            rw [e] at hq
            refine w_aload dX9_lay_107 rfl ?_
            refine w_iload_n dX9_lay_109 rfl ?_
            refine w_putI dX9_lay_110 flX9_318 rfl rfl rfl rfl ?_
            refine w_st (fun I8 hA8 hB8 hC8 => ?_)
            refine w_aload dX9_lay_113 rfl ?_
            refine w_iload_n dX9_lay_115 rfl ?_
            refine w_putI dX9_lay_116 flX9_305 rfl rfl rfl rfl ?_
            refine w_st (fun I9 hA9 hB9 hC9 => ?_)
            refine w_iload dX9_lay_119 rfl ?_
            refine w_ireturn dX9_lay_121 rfl rfl ?_
            refine hq I9 (fun q h => ?_) (hS.lay (by omega) (fun q h => ?_) hC9 (fun q => absurd q (by decide)) (fun q => absurd q (by decide)) (fun q => absurd q (by decide)) (fun i hi => rfl))
            · rw [hA9 q (by omega), hA8 q (by omega)]
            · rw [hA9 q (by omega), hA8 q (by omega)]
          · exact absurd c66 (by decide)
        · exact absurd c33 (by decide)
      · refine w_iload_n dX9_lay_31 rfl ?_
        refine w_iconst dX9_lay_32 ic_1 ?_
        refine w_icmp_ne (tgt := 64) dX9_lay_33 (by decide) (fun c33 => ?_) (fun c33 => ?_)
        · exact absurd rfl c33
        · refine w_aload_n dX9_lay_36 rfl ?_
          refine w_getR dX9_lay_37 flX9_10 rfl (hs.r (a := 0) (j := 0) (b := 1) 0 rfl) ?_
          refine w_iload_n dX9_lay_40 rfl ?_
          by_cases hb : isR V k
          · obtain ⟨r, hr, rfl⟩ := isR_of hV hb
            have h8 := hV.2.1.2
            have hcr : (nI r).toNatClampNeg = r := nI_clamp (by omega)
            have hrl := hs.rules (Or.inl rfl) (show r < 8 by omega)
            have hru := hC.2.2.1 r hr
            refine c_V (t := 8) (as := [_]) (d' := 1) dX9_lay_41 mlX9_116 moX8_ruleAt mvX8_ruleAt ⟨rfl, rfl⟩ rfl rfl rfl rfl rfl (by decide) (sX8_ruleAtS hs (Or.inl rfl) (hC.1.2.1.trans hV.2.1.1) h8 hr ?_)
            refine w_astore (al' := [_, _, _, _, _, _, _]) dX9_lay_44 rfl rfl rfl ?_
            refine w_aload dX9_lay_46 rfl ?_
            refine w_ifnonnullR (tgt := 54) dX9_lay_48 (by decide) ?_
            refine w_aload dX9_lay_54 rfl ?_
            refine w_getR dX9_lay_56 flX9_308 rfl hsl.2.1.1 ?_
            refine w_aload dX9_lay_59 rfl ?_
            refine c_Vv (t := 3) (as := [_]) (d' := 1) dX9_lay_61 mlX9_198 moX3_become mvX3_become ⟨rfl, rfl⟩ rfl rfl rfl rfl rfl (by decide) (sX3_become hsl.2.1.2.1 hsl.2.1.2.2 hrl.2.1 hrl.2.2 (by omega) (by omega) (fun I2 hI2 hk2 hp2 => ?_))
            refine w_iload_n dX9_lay_64 rfl ?_
            refine w_iconst dX9_lay_65 ic_2 ?_
            refine w_icmp_ne (tgt := 107) dX9_lay_66 (by decide) (fun c66 => ?_) (fun c66 => ?_)
            · have e : oLay V X Y (nI s) (nI 1) (nI r) = ((va_up Y.1 s (nI 1), va_up Y.2.1 s (V (48 + 4 * r)), va_up Y.2.2.1 s (worthV V r), Y.2.2.2), Y.1 s) := by
                unfold oLay layA layB layH
                rw [cif_t ⟨ha, c18, fun _ => hb, fun q => absurd q (by decide)⟩, cif_f (fun q => absurd q.1 (by decide)), hcl, if_pos (show nI 1 = 1 from rfl), if_pos (show nI 1 = 1 from rfl), if_neg (show ¬ nI 1 = 2 by decide), hcr]
              rw [e] at hq
              refine w_aload dX9_lay_107 rfl ?_
              refine w_iload_n dX9_lay_109 rfl ?_
              refine w_putI dX9_lay_110 flX9_318 rfl rfl rfl rfl ?_
              refine w_st (fun I8 hA8 hB8 hC8 => ?_)
              refine w_aload dX9_lay_113 rfl ?_
              refine w_iload_n dX9_lay_115 rfl ?_
              refine w_putI dX9_lay_116 flX9_305 rfl rfl rfl rfl ?_
              refine w_st (fun I9 hA9 hB9 hC9 => ?_)
              refine w_iload dX9_lay_119 rfl ?_
              refine w_ireturn dX9_lay_121 rfl rfl ?_
              refine hq I9 (fun q h => ?_) (hS.lay (by omega) (fun q h => ?_) hC9 (fun _ => by rw [hA9 (93 + 5 * s) (by omega), hA9 (94 + 5 * s) (by omega), hA8 (93 + 5 * s) (by omega), hA8 (94 + 5 * s) (by omega), hk2, hp2 0 (by decide), hp2 1 (by decide), hp2 2 (by decide), hru.1, hru.2 0 (by decide), hru.2 1 (by decide), hru.2 2 (by decide)]; exact ⟨rfl, rfl⟩) (fun q => absurd q (by decide)) (fun q => absurd q (by decide)) (fun i hi => rfl))
              · rw [hA9 q (by omega), hA8 q (by omega), hI2 q (by omega) (by omega)]
              · rw [hA9 q (by omega), hA8 q (by omega), hI2 q (by omega) (by omega)]
            · exact absurd c66 (by decide)
          · refine c_V (t := 8) (as := [_]) (d' := 1) dX9_lay_41 mlX9_116 moX8_ruleAt mvX8_ruleAt ⟨rfl, rfl⟩ rfl rfl rfl rfl rfl (by decide) (sX8_ruleAtN hs (Or.inl rfl) (by rw [hC.1.2.1]; exact hb) ?_)
            refine w_astoreN (al' := [_, _, _, _, _, _, _]) dX9_lay_44 rfl rfl rfl ?_
            refine w_aloadN dX9_lay_46 rfl ?_
            refine w_ifnonnullN dX9_lay_48 ?_
            refine w_ldc dX9_lay_51 kcX9_77 ?_
            refine w_ireturn dX9_lay_53 rfl rfl ?_
            have e : oLay V X Y (nI s) (nI 1) k = (Y, -1000000001) := cif_f (fun z => hb (z.2.2.1 rfl))
            rw [e] at hq
            exact hq I (fun _ _ => rfl) hS
      · refine w_iload_n dX9_lay_31 rfl ?_
        refine w_iconst dX9_lay_32 ic_1 ?_
        refine w_icmp_ne (tgt := 64) dX9_lay_33 (by decide) (fun c33 => ?_) (fun c33 => ?_)
        · refine w_iload_n dX9_lay_64 rfl ?_
          refine w_iconst dX9_lay_65 ic_2 ?_
          refine w_icmp_ne (tgt := 107) dX9_lay_66 (by decide) (fun c66 => ?_) (fun c66 => ?_)
          · exact absurd rfl c66
          · refine w_aload_n dX9_lay_69 rfl ?_
            refine w_iload_n dX9_lay_70 rfl ?_
            by_cases hk : 0 ≤ k ∧ k ≤ 3
            · obtain ⟨j, hj3, rfl⟩ := in_of (m := 3) (by decide) hk
              have hsh := hs.sheets (show j < 4 by omega)
              have hck : (nI j).toNatClampNeg = j := nI_clamp (by omega)
              obtain ⟨x0, x1, x2⟩ := hX j (by omega)
              refine c_V (t := 9) (as := [_]) (d' := 1) dX9_lay_71 mlX9_262 moX9_sheetAt mvX9_sheetAt ⟨rfl, rfl⟩ rfl rfl rfl rfl rfl (by decide) (sX9_sheetAtS hs (show j < 4 by omega) ?_)
              refine w_astore (al' := [_, _, _, _, _, _, _]) dX9_lay_74 rfl rfl rfl ?_
              refine w_aload dX9_lay_76 rfl ?_
              refine w_ifnonnullR (tgt := 84) dX9_lay_78 (by decide) ?_
              refine w_aload dX9_lay_84 rfl ?_
              refine w_getI dX9_lay_86 flX9_272 rfl ?_
              refine w_top (y := X.1 j) (x0) ?_
              refine w_iconst dX9_lay_89 ic_m1 ?_
              refine w_icmp_ne (tgt := 97) dX9_lay_90 (by decide) (fun c90 => ?_) (fun c90 => ?_)
              · refine w_aload dX9_lay_97 rfl ?_
                refine w_getR dX9_lay_99 flX9_311 rfl hsl.2.2.1 ?_
                refine w_aload dX9_lay_102 rfl ?_
                refine c_Vv (t := 4) (as := [_]) (d' := 1) dX9_lay_104 mlX9_315 moX4_become mvX4_become ⟨rfl, rfl⟩ rfl rfl rfl rfl rfl (by decide) (sX4_become hsl.2.2.2.1 hsl.2.2.2.2 hsh.2.1 hsh.2.2 (by omega) (by omega) (by omega) (fun I2 hI2 hk2 hz2 hp2 => ?_))
                have e : oLay V X Y (nI s) (nI 2) (nI j) = ((va_up Y.1 s (nI 2), va_up Y.2.1 s (X.2.1 j), va_up Y.2.2.1 s (0), layC X.2.2 Y.2.2.2 s j), Y.1 s) := by
                  unfold oLay layA layB layH
                  rw [cif_t ⟨ha, c18, fun q => absurd q (by decide), fun _ => hk⟩, cif_f (fun q => c90 (by have := q.2; rw [hck] at this; exact this)), hcl, if_neg (show ¬ nI 2 = 1 by decide), if_pos (show nI 2 = 2 from rfl), if_neg (show ¬ nI 2 = 1 by decide), if_pos (show nI 2 = 2 from rfl), hck]
                rw [e] at hq
                refine w_aload dX9_lay_107 rfl ?_
                refine w_iload_n dX9_lay_109 rfl ?_
                refine w_putI dX9_lay_110 flX9_318 rfl rfl rfl rfl ?_
                refine w_st (fun I8 hA8 hB8 hC8 => ?_)
                refine w_aload dX9_lay_113 rfl ?_
                refine w_iload_n dX9_lay_115 rfl ?_
                refine w_putI dX9_lay_116 flX9_305 rfl rfl rfl rfl ?_
                refine w_st (fun I9 hA9 hB9 hC9 => ?_)
                refine w_iload dX9_lay_119 rfl ?_
                refine w_ireturn dX9_lay_121 rfl rfl ?_
                refine hq I9 (fun q h => ?_) (hS.lay (by omega) (fun q h => ?_) hC9 (fun q => absurd q (by decide)) (fun _ => ⟨by rw [hA9 (95 + 5 * s) (by omega), hA8 (95 + 5 * s) (by omega), hz2, x1], fun i hi => by rw [hA9 (96 + 5 * s) (by omega), hA8 (96 + 5 * s) (by omega), hp2 i hi, x2 i hi]; unfold layC; rw [if_pos (by omega), show 24 * s + i - 24 * s = i by omega]⟩) (fun q => absurd q (by decide)) (fun i hi => if_neg (by omega)))
                · rw [hA9 q (by omega), hA8 q (by omega), hI2 q (by omega) (by omega)]
                · rw [hA9 q (by omega), hA8 q (by omega), hI2 q (by omega) (by omega)]
              · refine w_ldcw dX9_lay_93 kcX9_275 ?_
                refine w_ireturn dX9_lay_96 rfl rfl ?_
                have e : oLay V X Y (nI s) (nI 2) (nI j) = (Y, -1000000011) := by unfold oLay; rw [cif_t ⟨ha, c18, fun q => absurd q (by decide), fun _ => hk⟩, cif_t ⟨rfl, by rw [hck]; exact c90⟩]
                rw [e] at hq
                exact hq I (fun _ _ => rfl) hS
            · refine c_V (t := 9) (as := [_]) (d' := 1) dX9_lay_71 mlX9_262 moX9_sheetAt mvX9_sheetAt ⟨rfl, rfl⟩ rfl rfl rfl rfl rfl (by decide) (sX9_sheetAtN hs hk ?_)
              refine w_astoreN (al' := [_, _, _, _, _, _, _]) dX9_lay_74 rfl rfl rfl ?_
              refine w_aloadN dX9_lay_76 rfl ?_
              refine w_ifnonnullN dX9_lay_78 ?_
              refine w_ldc dX9_lay_81 kcX9_77 ?_
              refine w_ireturn dX9_lay_83 rfl rfl ?_
              have e : oLay V X Y (nI s) (nI 2) k = (Y, -1000000001) := cif_f (fun z => hk (z.2.2.2 rfl))
              rw [e] at hq
              exact hq I (fun _ _ => rfl) hS
        · exact absurd c33 (by decide)
      · refine w_iload_n dX9_lay_31 rfl ?_
        refine w_iconst dX9_lay_32 ic_1 ?_
        refine w_icmp_ne (tgt := 64) dX9_lay_33 (by decide) (fun c33 => ?_) (fun c33 => ?_)
        · refine w_iload_n dX9_lay_64 rfl ?_
          refine w_iconst dX9_lay_65 ic_2 ?_
          refine w_icmp_ne (tgt := 107) dX9_lay_66 (by decide) (fun c66 => ?_) (fun c66 => ?_)
          · have e : oLay V X Y (nI s) (nI 3) k = ((va_up Y.1 s (nI 3), va_up Y.2.1 s (k), va_up Y.2.2.1 s (0), Y.2.2.2), Y.1 s) := by
              unfold oLay layA layB layH
              rw [cif_t ⟨ha, c18, fun q => absurd q (by decide), fun q => absurd q (by decide)⟩, cif_f (fun q => absurd q.1 (by decide)), hcl, if_neg (show ¬ nI 3 = 1 by decide), if_neg (show ¬ nI 3 = 2 by decide), if_neg (show ¬ nI 3 = 1 by decide), if_neg (show ¬ nI 3 = 2 by decide)]
            rw [e] at hq
            refine w_aload dX9_lay_107 rfl ?_
            refine w_iload_n dX9_lay_109 rfl ?_
            refine w_putI dX9_lay_110 flX9_318 rfl rfl rfl rfl ?_
            refine w_st (fun I8 hA8 hB8 hC8 => ?_)
            refine w_aload dX9_lay_113 rfl ?_
            refine w_iload_n dX9_lay_115 rfl ?_
            refine w_putI dX9_lay_116 flX9_305 rfl rfl rfl rfl ?_
            refine w_st (fun I9 hA9 hB9 hC9 => ?_)
            refine w_iload dX9_lay_119 rfl ?_
            refine w_ireturn dX9_lay_121 rfl rfl ?_
            refine hq I9 (fun q h => ?_) (hS.lay (by omega) (fun q h => ?_) hC9 (fun q => absurd q (by decide)) (fun q => absurd q (by decide)) (fun _ => (hB9 3 (by decide)).trans hC8) (fun i hi => rfl))
            · rw [hA9 q (by omega), hA8 q (by omega)]
            · rw [hA9 q (by omega), hA8 q (by omega)]
          · exact absurd c66 (by decide)
        · exact absurd c33 (by decide)
    · refine w_ldc dX9_lay_21 kcX9_77 ?_
      refine w_ireturn dX9_lay_23 rfl rfl ?_
      have e : oLay V X Y (nI s) t k = (Y, -1000000001) := cif_f (fun z => c18 z.2.1)
      rw [e] at hq
      exact hq I (fun _ _ => rfl) hS
  · refine c_V (t := 9) (as := [_]) (d' := 1) dX9_lay_2 mlX9_301 moX9_slotAt mvX9_slotAt ⟨rfl, rfl⟩ rfl rfl rfl rfl rfl (by decide) (sX9_slotAtN hs ha ?_)
    refine w_astoreN (al' := [_, _, _, _, _, _, _]) dX9_lay_5 rfl rfl rfl ?_
    refine w_aloadN dX9_lay_7 rfl ?_
    refine w_ifnullN (tgt := 21) dX9_lay_9 (by decide) ?_
    refine w_ldc dX9_lay_21 kcX9_77 ?_
    refine w_ireturn dX9_lay_23 rfl rfl ?_
    have e : oLay V X Y a t k = (Y, -1000000001) := cif_f (fun z => ha z.1)
    rw [e] at hq
    exact hq I (fun _ _ => rfl) hS

set_option maxRecDepth 20000 in
theorem lX10_lay (hs : SK R N) {X : X3} {Y : Y4} {s j : Nat} (hs5 : s < 5) (hj4 : j < 4) {was : Int32} {I0 : HI} (hX0 : I0 139 = X.2.2) (hC0 : I0 143 = Y.2.2.2) (hk : ∀ I' : HI, (∀ q, q ≠ 143 → I' q = I0 q) → I' 143 = layC X.2.2 Y.2.2.2 s j → Q (vI was) I' L R N n) : WP sc 2 0 0 mX10_lay 135 [vR 10 117, vI (nI s), vI (nI 2), vI (nI j), vI was, vI (nI 0)] [] I0 L R N n Q := by
  have lp : ∀ (k m : Nat) (I1 : HI), m + k = 24 → (∀ q, q ≠ 143 → I1 q = I0 q) → I1 143 = (fun i => if 24 * s ≤ i ∧ i < 24 * s + m then X.2.2 (24 * j + (i - 24 * s)) else Y.2.2.2 i) → WP sc 2 0 0 mX10_lay 135 [vR 10 117, vI (nI s), vI (nI 2), vI (nI j), vI was, vI (nI m)] [] I1 L R N n Q := by
    intro k
    induction k with
    | zero =>
      intro m I1 hm hI1 hC1
      refine w_iload dX10_lay_135 rfl ?_
      refine w_bipush dX10_lay_137 bp_24 ?_
      refine w_icmp_ge (tgt := 177) dX10_lay_139 (by decide) (fun c139 => ?_) (fun c139 => ?_)
      · obtain rfl : m = 24 := by omega
        refine w_iload dX10_lay_177 rfl ?_
        refine w_ireturn dX10_lay_179 rfl rfl ?_
        exact hk I1 hI1 hC1
      · exact absurd (nI_le (a := 24) (by omega) (by omega)) c139
    | succ k ih =>
      intro m I1 hm hI1 hC1
      refine w_iload dX10_lay_135 rfl ?_
      refine w_bipush dX10_lay_137 bp_24 ?_
      refine w_icmp_ge (tgt := 177) dX10_lay_139 (by decide) (fun c139 => ?_) (fun c139 => ?_)
      · exact absurd ((nI_leI (a := 24) (by omega) (by omega)).mp c139) (by omega)
      · refine w_iload_n dX10_lay_142 rfl ?_
        refine w_iconst dX10_lay_143 ic_2 ?_
        refine w_icmp_ne (tgt := 177) dX10_lay_144 (by decide) (fun c144 => ?_) (fun c144 => ?_)
        · exact absurd rfl c144
        · refine w_aload_n dX10_lay_147 rfl ?_
          refine w_getR dX10_lay_148 flX10_87 rfl (hs.r (a := 117) (j := 40) (b := 143) 141 rfl) ?_
          refine w_bipush dX10_lay_151 bp_24 ?_
          refine w_iload_n dX10_lay_153 rfl ?_
          refine w_imul dX10_lay_154 ?_
          refine w_iload dX10_lay_155 rfl ?_
          refine w_iadd dX10_lay_157 ?_
          refine w_top (y := nI (24 * s + m)) (by show nI 24 * nI s + nI m = _; rw [nI_mul, nI_add]) ?_
          refine w_aload_n dX10_lay_158 rfl ?_
          refine w_getR dX10_lay_159 flX10_75 rfl (hs.r (a := 117) (j := 36) (b := 139) 137 rfl) ?_
          refine w_bipush dX10_lay_162 bp_24 ?_
          refine w_iload_n dX10_lay_164 rfl ?_
          refine w_imul dX10_lay_165 ?_
          refine w_iload dX10_lay_166 rfl ?_
          refine w_iadd dX10_lay_168 ?_
          refine w_top (y := nI (24 * j + m)) (by show nI 24 * nI j + nI m = _; rw [nI_mul, nI_add]) ?_
          refine w_iald dX10_lay_169 rfl (hs.n (a := 139) (z := 96) 93 rfl) (by omega) ?_
          refine w_top (y := X.2.2 (24 * j + m)) (by rw [hI1 139 (by decide), hX0]) ?_
          refine w_iast dX10_lay_170 rfl (hs.n (a := 143) (z := 120) 97 rfl) (by omega) ?_
          refine w_iinc (al' := [_, _, _, _, _, _]) dX10_lay_171 rfl rfl ic_1 rfl ?_
          refine w_goto (tgt := 135) dX10_lay_174 (by decide) ?_
          simp only [nI_1]
          refine ih (m + 1) _ (by omega) (fun q h => (va_up_ne _ _ h).trans (hI1 q h)) ?_
          rw [va_up_self, hC1]
          funext i
          by_cases e : i = 24 * s + m
          · subst e; rw [va_up_self, if_pos (by omega), show 24 * s + m - 24 * s = m by omega]
          · rw [va_up_ne _ _ e]
            by_cases e2 : 24 * s ≤ i ∧ i < 24 * s + m
            · rw [if_pos e2, if_pos (by omega)]
            · rw [if_neg e2, if_neg (by omega)]
  exact lp 24 0 I0 rfl (fun _ _ => rfl) (by rw [hC0]; funext i; rw [if_neg (by omega)])

set_option maxRecDepth 20000 in
theorem sX10_lay (hs : SK R N) {V : VV} (hI : I 118 = V) (hV : VO V) {X : X3} (hOX : SO X.1 X.2.1) (hX1 : I 137 = X.1) (hX2 : I 138 = X.2.1) (hX3 : I 139 = X.2.2) {Y : Y4} (hO : SLO Y) (h0 : I 140 = Y.1) (h1 : I 141 = Y.2.1) (h2 : I 142 = Y.2.2.1) (h3 : I 143 = Y.2.2.2) {a t k : Int32} (hq : ∀ I' : HI, (∀ q, q ≠ 140 → q ≠ 141 → q ≠ 142 → q ≠ 143 → I' q = I q) → I' 140 = (oLay V X Y a t k).1.1 → I' 141 = (oLay V X Y a t k).1.2.1 → I' 142 = (oLay V X Y a t k).1.2.2.1 → I' 143 = (oLay V X Y a t k).1.2.2.2 → Q (vI (oLay V X Y a t k).2) I' L R N n) : CA sc 2 0 0 mX10_lay [vR 10 117, vI a, vI t, vI k] I L R N n Q := by
  refine ca_in (al := [_, _, _, _, _, _]) rfl ?_
  refine w_iload_n dX10_lay_0 rfl ?_
  refine c_S (as := [_]) (d' := 1) dX10_lay_1 (Or.inl mlX10_283) moX10_isSlot msX10_isSlot rfl rfl rfl rfl rfl (by decide) (sX10_isSlot ?_)
  refine w_ifB_eq (tgt := 41) dX10_lay_4 (by decide) (fun c4 => ?_) (fun c4 => ?_)
  · refine w_ldc dX10_lay_41 kcX10_101 ?_
    refine w_ireturn dX10_lay_43 rfl rfl ?_
    have e : oLay V X Y a t k = (Y, -1000000001) := cif_f (fun z => c4 z.1)
    rw [e] at hq
    exact hq I (fun _ _ _ _ _ => rfl) h0 h1 h2 h3
  · have ha := c4
    obtain ⟨s, hs5, rfl⟩ := in_of (m := 4) (by decide) c4
    have hcl : (nI s).toNatClampNeg = s := nI_clamp (by omega)
    refine w_iload_n dX10_lay_7 rfl ?_
    refine w_iconst dX10_lay_8 ic_0 ?_
    refine w_iconst dX10_lay_9 ic_3 ?_
    refine c_S (as := [_, _, _]) (d' := 0) dX10_lay_10 (Or.inl mlX10_97) moX10_in msX10_in rfl rfl rfl rfl rfl (by decide) (sX10_in ?_)
    refine w_ifB_eq (tgt := 41) dX10_lay_13 (by decide) (fun c13 => ?_) (fun c13 => ?_)
    · refine w_ldc dX10_lay_41 kcX10_101 ?_
      refine w_ireturn dX10_lay_43 rfl rfl ?_
      have e : oLay V X Y (nI s) t k = (Y, -1000000001) := cif_f (fun z => c13 z.2.1)
      rw [e] at hq
      exact hq I (fun _ _ _ _ _ => rfl) h0 h1 h2 h3
    · obtain ⟨tt, ht3, rfl⟩ := in_of (m := 3) (by decide) c13
      rcases (show tt = 0 ∨ tt = 1 ∨ tt = 2 ∨ tt = 3 by omega) with rfl | rfl | rfl | rfl
      · refine w_iload_n dX10_lay_16 rfl ?_
        refine w_iconst dX10_lay_17 ic_1 ?_
        refine w_icmp_ne (tgt := 29) dX10_lay_18 (by decide) (fun c18 => ?_) (fun c18 => ?_)
        · refine w_iload_n dX10_lay_29 rfl ?_
          refine w_iconst dX10_lay_30 ic_2 ?_
          refine w_icmp_ne (tgt := 44) dX10_lay_31 (by decide) (fun c31 => ?_) (fun c31 => ?_)
          · refine w_iload_n dX10_lay_44 rfl ?_
            refine w_iconst dX10_lay_45 ic_2 ?_
            refine w_icmp_ne (tgt := 62) dX10_lay_46 (by decide) (fun c46 => ?_) (fun c46 => ?_)
            · have e : oLay V X Y (nI s) (nI 0) k = ((va_up Y.1 s (nI 0), va_up Y.2.1 s (k), va_up Y.2.2.1 s (0), Y.2.2.2), Y.1 s) := by
                unfold oLay layA layB layH
                rw [cif_t ⟨ha, c13, fun q => absurd q (by decide), fun q => absurd q (by decide)⟩, cif_f (fun q => absurd q.1 (by decide)), hcl, if_neg (show ¬ nI 0 = 1 by decide), if_neg (show ¬ nI 0 = 2 by decide), if_neg (show ¬ nI 0 = 1 by decide), if_neg (show ¬ nI 0 = 2 by decide)]
              rw [e] at hq
              refine w_aload_n dX10_lay_62 rfl ?_
              refine w_getR dX10_lay_63 flX10_78 rfl (hs.r (a := 117) (j := 37) (b := 140) 138 rfl) ?_
              refine w_iload_n dX10_lay_66 rfl ?_
              refine w_iald dX10_lay_67 rfl (hs.n (a := 140) (z := 5) 94 rfl) (by omega) ?_
              refine w_top (y := Y.1 s) (congrFun h0 s) ?_
              refine w_istore (al' := [_, _, _, _, _, _]) dX10_lay_68 rfl rfl rfl ?_
              refine w_aload_n dX10_lay_70 rfl ?_
              refine w_getR dX10_lay_71 flX10_78 rfl (hs.r (a := 117) (j := 37) (b := 140) 138 rfl) ?_
              refine w_iload_n dX10_lay_74 rfl ?_
              refine w_iload_n dX10_lay_75 rfl ?_
              refine w_iast dX10_lay_76 rfl (hs.n (a := 140) (z := 5) 94 rfl) (by omega) ?_
              refine w_aload_n dX10_lay_77 rfl ?_
              refine w_getR dX10_lay_78 flX10_81 rfl (hs.r (a := 117) (j := 38) (b := 141) 139 rfl) ?_
              refine w_iload_n dX10_lay_81 rfl ?_
              refine w_iload_n dX10_lay_82 rfl ?_
              refine w_iconst dX10_lay_83 ic_1 ?_
              refine w_icmp_ne (tgt := 96) dX10_lay_84 (by decide) (fun c84 => ?_) (fun c84 => ?_)
              · refine w_iload_n dX10_lay_96 rfl ?_
                refine w_iconst dX10_lay_97 ic_2 ?_
                refine w_icmp_ne (tgt := 110) dX10_lay_98 (by decide) (fun c98 => ?_) (fun c98 => ?_)
                · refine w_iload_n dX10_lay_110 rfl ?_
                  refine w_iast dX10_lay_111 rfl (hs.n (a := 141) (z := 5) 95 rfl) (by omega) ?_
                  refine w_aload_n dX10_lay_112 rfl ?_
                  refine w_getR dX10_lay_113 flX10_84 rfl (hs.r (a := 117) (j := 39) (b := 142) 140 rfl) ?_
                  refine w_iload_n dX10_lay_116 rfl ?_
                  refine w_iload_n dX10_lay_117 rfl ?_
                  refine w_iconst dX10_lay_118 ic_1 ?_
                  refine w_icmp_ne (tgt := 130) dX10_lay_119 (by decide) (fun c119 => ?_) (fun c119 => ?_)
                  · refine w_iconst dX10_lay_130 ic_0 ?_
                    refine w_iast dX10_lay_131 rfl (hs.n (a := 142) (z := 5) 96 rfl) (by omega) ?_
                    refine w_iconst dX10_lay_132 ic_0 ?_
                    refine w_istore (al' := [_, _, _, _, _, _]) dX10_lay_133 rfl rfl rfl ?_
                    refine w_iload dX10_lay_135 rfl ?_
                    refine w_bipush dX10_lay_137 bp_24 ?_
                    refine w_icmp_ge (tgt := 177) dX10_lay_139 (by decide) (fun c139 => ?_) (fun c139 => ?_)
                    · refine w_iload dX10_lay_177 rfl ?_
                      refine w_ireturn dX10_lay_179 rfl rfl ?_
                      refine hq _ (fun q a1 a2 a3 a4 => by rw [va_up_ne _ _ a3, va_up_ne _ _ a2, va_up_ne _ _ a1]) ?_ ?_ ?_ ?_
                      · rw [va_up_ne _ _ (by decide), va_up_ne _ _ (by decide), va_up_self, h0]
                      · rw [va_up_ne _ _ (by decide), va_up_self, va_up_ne _ _ (by decide), h1]
                      · rw [va_up_self, va_up_ne _ _ (by decide), va_up_ne _ _ (by decide), h2]
                      · rw [va_up_ne _ _ (by decide), va_up_ne _ _ (by decide), va_up_ne _ _ (by decide), h3]
                    · refine w_iload_n dX10_lay_142 rfl ?_
                      refine w_iconst dX10_lay_143 ic_2 ?_
                      refine w_icmp_ne (tgt := 177) dX10_lay_144 (by decide) (fun c144 => ?_) (fun c144 => ?_)
                      · refine w_iload dX10_lay_177 rfl ?_
                        refine w_ireturn dX10_lay_179 rfl rfl ?_
                        refine hq _ (fun q a1 a2 a3 a4 => by rw [va_up_ne _ _ a3, va_up_ne _ _ a2, va_up_ne _ _ a1]) ?_ ?_ ?_ ?_
                        · rw [va_up_ne _ _ (by decide), va_up_ne _ _ (by decide), va_up_self, h0]
                        · rw [va_up_ne _ _ (by decide), va_up_self, va_up_ne _ _ (by decide), h1]
                        · rw [va_up_self, va_up_ne _ _ (by decide), va_up_ne _ _ (by decide), h2]
                        · rw [va_up_ne _ _ (by decide), va_up_ne _ _ (by decide), va_up_ne _ _ (by decide), h3]
                      · exact absurd c144 (by decide)
                  · exact absurd c119 (by decide)
                · exact absurd c98 (by decide)
              · exact absurd c84 (by decide)
            · exact absurd c46 (by decide)
          · exact absurd c31 (by decide)
        · exact absurd c18 (by decide)
      · refine w_iload_n dX10_lay_16 rfl ?_
        refine w_iconst dX10_lay_17 ic_1 ?_
        refine w_icmp_ne (tgt := 29) dX10_lay_18 (by decide) (fun c18 => ?_) (fun c18 => ?_)
        · exact absurd rfl c18
        · refine w_aload_n dX10_lay_21 rfl ?_
          refine w_iload_n dX10_lay_22 rfl ?_
          refine c_V (t := 10) (as := [_]) (d' := 1) dX10_lay_23 mlX10_134 moX10_isRule mvX10_isRule ⟨rfl, rfl⟩ rfl rfl rfl rfl rfl (by decide) (sX10_isRule hs ?_)
          refine w_ifB_eq (tgt := 41) dX10_lay_26 (by decide) (fun c26 => ?_) (fun c26 => ?_)
          · have hb : ¬ isR V k := by unfold isR; rw [← hI]; exact c26
            refine w_ldc dX10_lay_41 kcX10_101 ?_
            refine w_ireturn dX10_lay_43 rfl rfl ?_
            have e : oLay V X Y (nI s) (nI 1) k = (Y, -1000000001) := cif_f (fun z => hb (z.2.2.1 rfl))
            rw [e] at hq
            exact hq I (fun _ _ _ _ _ => rfl) h0 h1 h2 h3
          · have hb : isR V k := by unfold isR; rw [← hI]; exact c26
            obtain ⟨r, hr, rfl⟩ := isR_of hV hb
            have h8 := hV.2.1.2
            have hcr : (nI r).toNatClampNeg = r := nI_clamp (by omega)
            have e : oLay V X Y (nI s) (nI 1) (nI r) = ((va_up Y.1 s (nI 1), va_up Y.2.1 s (V (48 + 4 * r)), va_up Y.2.2.1 s (worthV V r), Y.2.2.2), Y.1 s) := by
              unfold oLay layA layB layH
              rw [cif_t ⟨ha, c13, fun _ => hb, fun q => absurd q (by decide)⟩, cif_f (fun q => absurd q.1 (by decide)), hcl, if_pos (show nI 1 = 1 from rfl), if_pos (show nI 1 = 1 from rfl), if_neg (show ¬ nI 1 = 2 by decide), hcr]
            rw [e] at hq
            refine w_iload_n dX10_lay_29 rfl ?_
            refine w_iconst dX10_lay_30 ic_2 ?_
            refine w_icmp_ne (tgt := 44) dX10_lay_31 (by decide) (fun c31 => ?_) (fun c31 => ?_)
            · refine w_iload_n dX10_lay_44 rfl ?_
              refine w_iconst dX10_lay_45 ic_2 ?_
              refine w_icmp_ne (tgt := 62) dX10_lay_46 (by decide) (fun c46 => ?_) (fun c46 => ?_)
              · refine w_aload_n dX10_lay_62 rfl ?_
                refine w_getR dX10_lay_63 flX10_78 rfl (hs.r (a := 117) (j := 37) (b := 140) 138 rfl) ?_
                refine w_iload_n dX10_lay_66 rfl ?_
                refine w_iald dX10_lay_67 rfl (hs.n (a := 140) (z := 5) 94 rfl) (by omega) ?_
                refine w_top (y := Y.1 s) (congrFun h0 s) ?_
                refine w_istore (al' := [_, _, _, _, _, _]) dX10_lay_68 rfl rfl rfl ?_
                refine w_aload_n dX10_lay_70 rfl ?_
                refine w_getR dX10_lay_71 flX10_78 rfl (hs.r (a := 117) (j := 37) (b := 140) 138 rfl) ?_
                refine w_iload_n dX10_lay_74 rfl ?_
                refine w_iload_n dX10_lay_75 rfl ?_
                refine w_iast dX10_lay_76 rfl (hs.n (a := 140) (z := 5) 94 rfl) (by omega) ?_
                refine w_aload_n dX10_lay_77 rfl ?_
                refine w_getR dX10_lay_78 flX10_81 rfl (hs.r (a := 117) (j := 38) (b := 141) 139 rfl) ?_
                refine w_iload_n dX10_lay_81 rfl ?_
                refine w_iload_n dX10_lay_82 rfl ?_
                refine w_iconst dX10_lay_83 ic_1 ?_
                refine w_icmp_ne (tgt := 96) dX10_lay_84 (by decide) (fun c84 => ?_) (fun c84 => ?_)
                · exact absurd rfl c84
                · refine w_aload_n dX10_lay_87 rfl ?_
                  refine w_iload_n dX10_lay_88 rfl ?_
                  refine w_iconst dX10_lay_89 ic_0 ?_
                  refine c_V (t := 10) (as := [_, _]) (d' := 0) dX10_lay_90 mlX10_131 moX10_of mvX10_of ⟨rfl, rfl⟩ rfl rfl rfl rfl rfl (by decide) (vX10_of (V := V) (b := 0) hs (by rw [va_up_ne _ _ (by decide)]; exact hI) (by omega) ?_)
                  refine w_top (y := V (48 + 4 * r)) (rfl) ?_
                  refine w_goto (tgt := 111) dX10_lay_93 (by decide) ?_
                  refine w_iast dX10_lay_111 rfl (hs.n (a := 141) (z := 5) 95 rfl) (by omega) ?_
                  refine w_aload_n dX10_lay_112 rfl ?_
                  refine w_getR dX10_lay_113 flX10_84 rfl (hs.r (a := 117) (j := 39) (b := 142) 140 rfl) ?_
                  refine w_iload_n dX10_lay_116 rfl ?_
                  refine w_iload_n dX10_lay_117 rfl ?_
                  refine w_iconst dX10_lay_118 ic_1 ?_
                  refine w_icmp_ne (tgt := 130) dX10_lay_119 (by decide) (fun c119 => ?_) (fun c119 => ?_)
                  · exact absurd rfl c119
                  · refine w_aload_n dX10_lay_122 rfl ?_
                    refine w_iload_n dX10_lay_123 rfl ?_
                    refine c_V (t := 10) (as := [_]) (d' := 1) dX10_lay_124 mlX10_137 moX10_worthOf mvX10_worthOf ⟨rfl, rfl⟩ rfl rfl rfl rfl rfl (by decide) (sX10_worthOf hs (V := V) (by rw [va_up_ne _ _ (by decide), va_up_ne _ _ (by decide)]; exact hI) (by omega) ?_)
                    refine w_goto (tgt := 131) dX10_lay_127 (by decide) ?_
                    refine w_iast dX10_lay_131 rfl (hs.n (a := 142) (z := 5) 96 rfl) (by omega) ?_
                    refine w_iconst dX10_lay_132 ic_0 ?_
                    refine w_istore (al' := [_, _, _, _, _, _]) dX10_lay_133 rfl rfl rfl ?_
                    refine w_iload dX10_lay_135 rfl ?_
                    refine w_bipush dX10_lay_137 bp_24 ?_
                    refine w_icmp_ge (tgt := 177) dX10_lay_139 (by decide) (fun c139 => ?_) (fun c139 => ?_)
                    · refine w_iload dX10_lay_177 rfl ?_
                      refine w_ireturn dX10_lay_179 rfl rfl ?_
                      refine hq _ (fun q a1 a2 a3 a4 => by rw [va_up_ne _ _ a3, va_up_ne _ _ a2, va_up_ne _ _ a1]) ?_ ?_ ?_ ?_
                      · rw [va_up_ne _ _ (by decide), va_up_ne _ _ (by decide), va_up_self, h0]
                      · rw [va_up_ne _ _ (by decide), va_up_self, va_up_ne _ _ (by decide), h1]
                      · rw [va_up_self, va_up_ne _ _ (by decide), va_up_ne _ _ (by decide), h2]
                      · rw [va_up_ne _ _ (by decide), va_up_ne _ _ (by decide), va_up_ne _ _ (by decide), h3]
                    · refine w_iload_n dX10_lay_142 rfl ?_
                      refine w_iconst dX10_lay_143 ic_2 ?_
                      refine w_icmp_ne (tgt := 177) dX10_lay_144 (by decide) (fun c144 => ?_) (fun c144 => ?_)
                      · refine w_iload dX10_lay_177 rfl ?_
                        refine w_ireturn dX10_lay_179 rfl rfl ?_
                        refine hq _ (fun q a1 a2 a3 a4 => by rw [va_up_ne _ _ a3, va_up_ne _ _ a2, va_up_ne _ _ a1]) ?_ ?_ ?_ ?_
                        · rw [va_up_ne _ _ (by decide), va_up_ne _ _ (by decide), va_up_self, h0]
                        · rw [va_up_ne _ _ (by decide), va_up_self, va_up_ne _ _ (by decide), h1]
                        · rw [va_up_self, va_up_ne _ _ (by decide), va_up_ne _ _ (by decide), h2]
                        · rw [va_up_ne _ _ (by decide), va_up_ne _ _ (by decide), va_up_ne _ _ (by decide), h3]
                      · exact absurd c144 (by decide)
              · exact absurd c46 (by decide)
            · exact absurd c31 (by decide)
      · refine w_iload_n dX10_lay_16 rfl ?_
        refine w_iconst dX10_lay_17 ic_1 ?_
        refine w_icmp_ne (tgt := 29) dX10_lay_18 (by decide) (fun c18 => ?_) (fun c18 => ?_)
        · refine w_iload_n dX10_lay_29 rfl ?_
          refine w_iconst dX10_lay_30 ic_2 ?_
          refine w_icmp_ne (tgt := 44) dX10_lay_31 (by decide) (fun c31 => ?_) (fun c31 => ?_)
          · exact absurd rfl c31
          · refine w_iload_n dX10_lay_34 rfl ?_
            refine c_S (as := [_]) (d' := 1) dX10_lay_35 (Or.inl mlX10_275) moX10_isSheet msX10_isSheet rfl rfl rfl rfl rfl (by decide) (sX10_isSheet ?_)
            refine w_ifB_ne (tgt := 44) dX10_lay_38 (by decide) (fun c38 => ?_) (fun c38 => ?_)
            · have hk := c38
              obtain ⟨j, hj3, rfl⟩ := in_of (m := 3) (by decide) c38
              have hck : (nI j).toNatClampNeg = j := nI_clamp (by omega)
              have hm1 := m1_lt (hOX j (by omega)).1
              refine w_iload_n dX10_lay_44 rfl ?_
              refine w_iconst dX10_lay_45 ic_2 ?_
              refine w_icmp_ne (tgt := 62) dX10_lay_46 (by decide) (fun c46 => ?_) (fun c46 => ?_)
              · exact absurd rfl c46
              · refine w_aload_n dX10_lay_49 rfl ?_
                refine w_getR dX10_lay_50 flX10_69 rfl (hs.r (a := 117) (j := 34) (b := 137) 135 rfl) ?_
                refine w_iload_n dX10_lay_53 rfl ?_
                refine w_iald dX10_lay_54 rfl (hs.n (a := 137) (z := 4) 91 rfl) (by omega) ?_
                refine w_top (y := X.1 j) (congrFun hX1 j) ?_
                refine w_if_ge (tgt := 62) dX10_lay_55 (by decide) (fun c55 => ?_) (fun c55 => ?_)
                · have c90 : ¬ X.1 j = -1 := fun q => Int32.not_lt.mpr c55 (hm1.mp q)
                  have e : oLay V X Y (nI s) (nI 2) (nI j) = ((va_up Y.1 s (nI 2), va_up Y.2.1 s (X.2.1 j), va_up Y.2.2.1 s (0), layC X.2.2 Y.2.2.2 s j), Y.1 s) := by
                    unfold oLay layA layB layH
                    rw [cif_t ⟨ha, c13, fun q => absurd q (by decide), fun _ => hk⟩, cif_f (fun q => c90 (by have := q.2; rw [hck] at this; exact this)), hcl, if_neg (show ¬ nI 2 = 1 by decide), if_pos (show nI 2 = 2 from rfl), if_neg (show ¬ nI 2 = 1 by decide), if_pos (show nI 2 = 2 from rfl), hck]
                  rw [e] at hq
                  refine w_aload_n dX10_lay_62 rfl ?_
                  refine w_getR dX10_lay_63 flX10_78 rfl (hs.r (a := 117) (j := 37) (b := 140) 138 rfl) ?_
                  refine w_iload_n dX10_lay_66 rfl ?_
                  refine w_iald dX10_lay_67 rfl (hs.n (a := 140) (z := 5) 94 rfl) (by omega) ?_
                  refine w_top (y := Y.1 s) (congrFun h0 s) ?_
                  refine w_istore (al' := [_, _, _, _, _, _]) dX10_lay_68 rfl rfl rfl ?_
                  refine w_aload_n dX10_lay_70 rfl ?_
                  refine w_getR dX10_lay_71 flX10_78 rfl (hs.r (a := 117) (j := 37) (b := 140) 138 rfl) ?_
                  refine w_iload_n dX10_lay_74 rfl ?_
                  refine w_iload_n dX10_lay_75 rfl ?_
                  refine w_iast dX10_lay_76 rfl (hs.n (a := 140) (z := 5) 94 rfl) (by omega) ?_
                  refine w_aload_n dX10_lay_77 rfl ?_
                  refine w_getR dX10_lay_78 flX10_81 rfl (hs.r (a := 117) (j := 38) (b := 141) 139 rfl) ?_
                  refine w_iload_n dX10_lay_81 rfl ?_
                  refine w_iload_n dX10_lay_82 rfl ?_
                  refine w_iconst dX10_lay_83 ic_1 ?_
                  refine w_icmp_ne (tgt := 96) dX10_lay_84 (by decide) (fun c84 => ?_) (fun c84 => ?_)
                  · refine w_iload_n dX10_lay_96 rfl ?_
                    refine w_iconst dX10_lay_97 ic_2 ?_
                    refine w_icmp_ne (tgt := 110) dX10_lay_98 (by decide) (fun c98 => ?_) (fun c98 => ?_)
                    · exact absurd rfl c98
                    · refine w_aload_n dX10_lay_101 rfl ?_
                      refine w_getR dX10_lay_102 flX10_72 rfl (hs.r (a := 117) (j := 35) (b := 138) 136 rfl) ?_
                      refine w_iload_n dX10_lay_105 rfl ?_
                      refine w_iald dX10_lay_106 rfl (hs.n (a := 138) (z := 4) 92 rfl) (by omega) ?_
                      refine w_top (y := X.2.1 j) (by rw [va_up_ne _ _ (by decide)]; exact congrFun hX2 j) ?_
                      refine w_goto (tgt := 111) dX10_lay_107 (by decide) ?_
                      refine w_iast dX10_lay_111 rfl (hs.n (a := 141) (z := 5) 95 rfl) (by omega) ?_
                      refine w_aload_n dX10_lay_112 rfl ?_
                      refine w_getR dX10_lay_113 flX10_84 rfl (hs.r (a := 117) (j := 39) (b := 142) 140 rfl) ?_
                      refine w_iload_n dX10_lay_116 rfl ?_
                      refine w_iload_n dX10_lay_117 rfl ?_
                      refine w_iconst dX10_lay_118 ic_1 ?_
                      refine w_icmp_ne (tgt := 130) dX10_lay_119 (by decide) (fun c119 => ?_) (fun c119 => ?_)
                      · refine w_iconst dX10_lay_130 ic_0 ?_
                        refine w_iast dX10_lay_131 rfl (hs.n (a := 142) (z := 5) 96 rfl) (by omega) ?_
                        refine w_iconst dX10_lay_132 ic_0 ?_
                        refine w_istore (al' := [_, _, _, _, _, _]) dX10_lay_133 rfl rfl rfl ?_
                        refine lX10_lay hs (X := X) (Y := Y) (by omega) (by omega) (by rw [va_up_ne _ _ (by decide), va_up_ne _ _ (by decide), va_up_ne _ _ (by decide)]; exact hX3) (by rw [va_up_ne _ _ (by decide), va_up_ne _ _ (by decide), va_up_ne _ _ (by decide)]; exact h3) (fun I9 hI9 hC9 => ?_)
                        refine hq I9 (fun q a1 a2 a3 a4 => by rw [hI9 q a4, va_up_ne _ _ a3, va_up_ne _ _ a2, va_up_ne _ _ a1]) ?_ ?_ ?_ hC9
                        · rw [hI9 140 (by decide), va_up_ne _ _ (by decide), va_up_ne _ _ (by decide), va_up_self, h0]
                        · rw [hI9 141 (by decide), va_up_ne _ _ (by decide), va_up_self, va_up_ne _ _ (by decide), h1]
                        · rw [hI9 142 (by decide), va_up_self, va_up_ne _ _ (by decide), va_up_ne _ _ (by decide), h2]
                      · exact absurd c119 (by decide)
                  · exact absurd c84 (by decide)
                · have c90 : X.1 j = -1 := hm1.mpr (Int32.not_le.mp c55)
                  refine w_ldcw dX10_lay_58 kcX10_279 ?_
                  refine w_ireturn dX10_lay_61 rfl rfl ?_
                  have e : oLay V X Y (nI s) (nI 2) (nI j) = (Y, -1000000011) := by unfold oLay; rw [cif_t ⟨ha, c13, fun q => absurd q (by decide), fun _ => hk⟩, cif_t ⟨rfl, by rw [hck]; exact c90⟩]
                  rw [e] at hq
                  exact hq I (fun _ _ _ _ _ => rfl) h0 h1 h2 h3
            · refine w_ldc dX10_lay_41 kcX10_101 ?_
              refine w_ireturn dX10_lay_43 rfl rfl ?_
              have e : oLay V X Y (nI s) (nI 2) k = (Y, -1000000001) := cif_f (fun z => c38 (z.2.2.2 rfl))
              rw [e] at hq
              exact hq I (fun _ _ _ _ _ => rfl) h0 h1 h2 h3
        · exact absurd c18 (by decide)
      · refine w_iload_n dX10_lay_16 rfl ?_
        refine w_iconst dX10_lay_17 ic_1 ?_
        refine w_icmp_ne (tgt := 29) dX10_lay_18 (by decide) (fun c18 => ?_) (fun c18 => ?_)
        · refine w_iload_n dX10_lay_29 rfl ?_
          refine w_iconst dX10_lay_30 ic_2 ?_
          refine w_icmp_ne (tgt := 44) dX10_lay_31 (by decide) (fun c31 => ?_) (fun c31 => ?_)
          · refine w_iload_n dX10_lay_44 rfl ?_
            refine w_iconst dX10_lay_45 ic_2 ?_
            refine w_icmp_ne (tgt := 62) dX10_lay_46 (by decide) (fun c46 => ?_) (fun c46 => ?_)
            · have e : oLay V X Y (nI s) (nI 3) k = ((va_up Y.1 s (nI 3), va_up Y.2.1 s (k), va_up Y.2.2.1 s (0), Y.2.2.2), Y.1 s) := by
                unfold oLay layA layB layH
                rw [cif_t ⟨ha, c13, fun q => absurd q (by decide), fun q => absurd q (by decide)⟩, cif_f (fun q => absurd q.1 (by decide)), hcl, if_neg (show ¬ nI 3 = 1 by decide), if_neg (show ¬ nI 3 = 2 by decide), if_neg (show ¬ nI 3 = 1 by decide), if_neg (show ¬ nI 3 = 2 by decide)]
              rw [e] at hq
              refine w_aload_n dX10_lay_62 rfl ?_
              refine w_getR dX10_lay_63 flX10_78 rfl (hs.r (a := 117) (j := 37) (b := 140) 138 rfl) ?_
              refine w_iload_n dX10_lay_66 rfl ?_
              refine w_iald dX10_lay_67 rfl (hs.n (a := 140) (z := 5) 94 rfl) (by omega) ?_
              refine w_top (y := Y.1 s) (congrFun h0 s) ?_
              refine w_istore (al' := [_, _, _, _, _, _]) dX10_lay_68 rfl rfl rfl ?_
              refine w_aload_n dX10_lay_70 rfl ?_
              refine w_getR dX10_lay_71 flX10_78 rfl (hs.r (a := 117) (j := 37) (b := 140) 138 rfl) ?_
              refine w_iload_n dX10_lay_74 rfl ?_
              refine w_iload_n dX10_lay_75 rfl ?_
              refine w_iast dX10_lay_76 rfl (hs.n (a := 140) (z := 5) 94 rfl) (by omega) ?_
              refine w_aload_n dX10_lay_77 rfl ?_
              refine w_getR dX10_lay_78 flX10_81 rfl (hs.r (a := 117) (j := 38) (b := 141) 139 rfl) ?_
              refine w_iload_n dX10_lay_81 rfl ?_
              refine w_iload_n dX10_lay_82 rfl ?_
              refine w_iconst dX10_lay_83 ic_1 ?_
              refine w_icmp_ne (tgt := 96) dX10_lay_84 (by decide) (fun c84 => ?_) (fun c84 => ?_)
              · refine w_iload_n dX10_lay_96 rfl ?_
                refine w_iconst dX10_lay_97 ic_2 ?_
                refine w_icmp_ne (tgt := 110) dX10_lay_98 (by decide) (fun c98 => ?_) (fun c98 => ?_)
                · refine w_iload_n dX10_lay_110 rfl ?_
                  refine w_iast dX10_lay_111 rfl (hs.n (a := 141) (z := 5) 95 rfl) (by omega) ?_
                  refine w_aload_n dX10_lay_112 rfl ?_
                  refine w_getR dX10_lay_113 flX10_84 rfl (hs.r (a := 117) (j := 39) (b := 142) 140 rfl) ?_
                  refine w_iload_n dX10_lay_116 rfl ?_
                  refine w_iload_n dX10_lay_117 rfl ?_
                  refine w_iconst dX10_lay_118 ic_1 ?_
                  refine w_icmp_ne (tgt := 130) dX10_lay_119 (by decide) (fun c119 => ?_) (fun c119 => ?_)
                  · refine w_iconst dX10_lay_130 ic_0 ?_
                    refine w_iast dX10_lay_131 rfl (hs.n (a := 142) (z := 5) 96 rfl) (by omega) ?_
                    refine w_iconst dX10_lay_132 ic_0 ?_
                    refine w_istore (al' := [_, _, _, _, _, _]) dX10_lay_133 rfl rfl rfl ?_
                    refine w_iload dX10_lay_135 rfl ?_
                    refine w_bipush dX10_lay_137 bp_24 ?_
                    refine w_icmp_ge (tgt := 177) dX10_lay_139 (by decide) (fun c139 => ?_) (fun c139 => ?_)
                    · refine w_iload dX10_lay_177 rfl ?_
                      refine w_ireturn dX10_lay_179 rfl rfl ?_
                      refine hq _ (fun q a1 a2 a3 a4 => by rw [va_up_ne _ _ a3, va_up_ne _ _ a2, va_up_ne _ _ a1]) ?_ ?_ ?_ ?_
                      · rw [va_up_ne _ _ (by decide), va_up_ne _ _ (by decide), va_up_self, h0]
                      · rw [va_up_ne _ _ (by decide), va_up_self, va_up_ne _ _ (by decide), h1]
                      · rw [va_up_self, va_up_ne _ _ (by decide), va_up_ne _ _ (by decide), h2]
                      · rw [va_up_ne _ _ (by decide), va_up_ne _ _ (by decide), va_up_ne _ _ (by decide), h3]
                    · refine w_iload_n dX10_lay_142 rfl ?_
                      refine w_iconst dX10_lay_143 ic_2 ?_
                      refine w_icmp_ne (tgt := 177) dX10_lay_144 (by decide) (fun c144 => ?_) (fun c144 => ?_)
                      · refine w_iload dX10_lay_177 rfl ?_
                        refine w_ireturn dX10_lay_179 rfl rfl ?_
                        refine hq _ (fun q a1 a2 a3 a4 => by rw [va_up_ne _ _ a3, va_up_ne _ _ a2, va_up_ne _ _ a1]) ?_ ?_ ?_ ?_
                        · rw [va_up_ne _ _ (by decide), va_up_ne _ _ (by decide), va_up_self, h0]
                        · rw [va_up_ne _ _ (by decide), va_up_self, va_up_ne _ _ (by decide), h1]
                        · rw [va_up_self, va_up_ne _ _ (by decide), va_up_ne _ _ (by decide), h2]
                        · rw [va_up_ne _ _ (by decide), va_up_ne _ _ (by decide), va_up_ne _ _ (by decide), h3]
                      · exact absurd c144 (by decide)
                  · exact absurd c119 (by decide)
                · exact absurd c98 (by decide)
              · exact absurd c84 (by decide)
            · exact absurd c46 (by decide)
          · exact absurd c31 (by decide)
        · exact absurd c18 (by decide)

end
