section
variable {sc : SC} {I : HI} {L : HL} {R : HR} {N : HN} {n : Nat} {Q : HQ}
set_option maxRecDepth 20000 in
theorem rrE {m nn r i1 : Nat} (hr : r < 1000) (hi : i1 < 400) (hn : nn ≤ 30) (hne : r ≠ 2 * i1) (hq : Q (vI (nI r)) I L R N n) : WP sc 4 0 0 mX10_rightReaders 9 [vR 10 117, vI (nI nn), vI (nI m), vI (nI r), vI (nI i1), vU] [] I L R N n Q := by
  refine w_iload dX10_rightReaders_9 rfl ?_
  refine w_iload_n dX10_rightReaders_11 rfl ?_
  refine w_icmp_ge (tgt := 120) dX10_rightReaders_12 (by decide) (fun c12 => ?_) (fun c12 => ?_)
  · refine w_iload_n dX10_rightReaders_120 rfl ?_
    refine w_ireturn dX10_rightReaders_121 rfl rfl ?_
    exact hq
  · refine w_iload_n dX10_rightReaders_15 rfl ?_
    refine w_iconst dX10_rightReaders_16 ic_2 ?_
    refine w_iload dX10_rightReaders_17 rfl ?_
    refine w_imul dX10_rightReaders_19 ?_
    refine w_top (y := nI (2 * i1)) (nI_mul 2 i1) ?_
    refine w_icmp_ne (tgt := 120) dX10_rightReaders_20 (by decide) (fun c20 => ?_) (fun c20 => ?_)
    · refine w_iload_n dX10_rightReaders_120 rfl ?_
      refine w_ireturn dX10_rightReaders_121 rfl rfl ?_
      exact hq
    · exact absurd ((nI_eq (by omega) (by omega)).mp c20) (by omega)

set_option maxRecDepth 20000 in
theorem sX10_rightReaders (hs : SK R N) {V : VV} (hI : I 118 = V) (hV : VO V) (hs0 : 0 < nS V) {T : VV} {m nn : Nat} (hn30 : nn ≤ 30) (hm60 : m ≤ 60) (hT : ∀ j, j < m → I 145 j = T j) (hq : ∀ I' : HI, (∀ q, q ≠ 118 → q ≠ 135 → q ≠ 136 → (q < 121 ∨ 129 ≤ q) → I' q = I q) → (∃ z', I' 118 = va_up V 0 z') → Q (vI (nI (ckF V T m nn 0 (V 0)))) I' L R N n) : CA sc 4 0 0 mX10_rightReaders [vR 10 117, vI (nI nn), vI (nI m)] I L R N n Q := by
  have h6 := hV.1.2
  have lp : ∀ (k i : Nat) (I1 : HI) (z : Int32), i + k = nn → (∀ q, q ≠ 118 → q ≠ 135 → q ≠ 136 → (q < 121 ∨ 129 ≤ q) → I1 q = I q) → I1 118 = va_up V 0 z → (∀ j, j < 31 → I1 121 j = owV V j) → (∀ I' : HI, (∀ q, q ≠ 118 → q ≠ 135 → q ≠ 136 → (q < 121 ∨ 129 ≤ q) → I' q = I q) → (∃ z', I' 118 = va_up V 0 z') → Q (vI (nI (ckF V T m k i z))) I' L R N n) → WP sc 4 0 0 mX10_rightReaders 9 [vR 10 117, vI (nI nn), vI (nI m), vI (nI (2 * i)), vI (nI i), vU] [] I1 L R N n Q := by
    intro k
    induction k with
    | zero =>
      intro i I1 z hj hI1 hz ho hq
      refine w_iload dX10_rightReaders_9 rfl ?_
      refine w_iload_n dX10_rightReaders_11 rfl ?_
      refine w_icmp_ge (tgt := 120) dX10_rightReaders_12 (by decide) (fun c12 => ?_) (fun c12 => ?_)
      · have hgo := hq I1 hI1 ⟨z, hz⟩
        obtain rfl : i = nn := by omega
        refine w_iload_n dX10_rightReaders_120 rfl ?_
        refine w_ireturn dX10_rightReaders_121 rfl rfl ?_
        exact hgo
      · exact absurd (nI_le (a := nn) (by omega) (by omega)) c12
    | succ k ih =>
      intro i I1 z hj hI1 hz ho hq
      refine w_iload dX10_rightReaders_9 rfl ?_
      refine w_iload_n dX10_rightReaders_11 rfl ?_
      refine w_icmp_ge (tgt := 120) dX10_rightReaders_12 (by decide) (fun c12 => ?_) (fun c12 => ?_)
      · exact absurd ((nI_leI (by omega) (by omega)).mp c12) (by omega)
      · refine w_iload_n dX10_rightReaders_15 rfl ?_
        refine w_iconst dX10_rightReaders_16 ic_2 ?_
        refine w_iload dX10_rightReaders_17 rfl ?_
        refine w_imul dX10_rightReaders_19 ?_
        refine w_top (y := nI (2 * i)) (nI_mul 2 i) ?_
        refine w_icmp_ne (tgt := 120) dX10_rightReaders_20 (by decide) (fun c20 => ?_) (fun c20 => ?_)
        · exact absurd rfl c20
        · refine w_aload_n dX10_rightReaders_23 rfl ?_
          refine w_iload dX10_rightReaders_24 rfl ?_
          refine w_aload_n dX10_rightReaders_26 rfl ?_
          refine w_getR dX10_rightReaders_27 flX10_9 rfl (hs.r (a := 117) (j := 0) (b := 118) 116 rfl) ?_
          refine w_iconst dX10_rightReaders_30 ic_1 ?_
          refine w_iald (q := 1) dX10_rightReaders_31 rfl (hs.n (a := 118) (z := 1452) 72 rfl) (by decide) ?_
          refine w_top (y := nI (nS V)) (by rw [hz, va_up_ne _ _ (by decide)]; exact hV.1.1) ?_
          refine w_irem dX10_rightReaders_32 (nI_ne0 (by omega) (by omega)) ?_
          refine w_top (y := nI (i % nS V)) (rem_n (by omega) (by omega)) ?_
          have hss : i % nS V < nS V := Nat.mod_lt _ (by omega)
          refine c_Vv (t := 10) (as := [_]) (d' := 3) dX10_rightReaders_33 mlX10_175 moX10_findDays mvX10_findDays ⟨rfl, rfl⟩ rfl rfl rfl rfl rfl (by decide) (sX10_findDays hs hz (hV.dice z) hss ho (fun I2 hI2 hM2 h128 => ?_))
          rw [plV_80 (same80_up (i := 0) (v := z) (V := V) (by decide) (by decide)) (fun i h1 h2 => va_up_ne _ _ (by omega)) (by omega), va_up_ne V z (show (4 : Nat) ≠ 0 by decide)] at hM2
          have hz2 : I2 118 = va_up V 0 z := (hI2 118 (by decide) (by decide) (by decide)).trans hz
          refine w_aload_n dX10_rightReaders_36 rfl ?_
          refine c_V (t := 10) (as := []) (d' := 1) dX10_rightReaders_37 mlX10_183 moX10_drawsDay mvX10_drawsDay ⟨rfl, rfl⟩ rfl rfl rfl rfl rfl (by decide) (sX10_drawsDay hs (p := planV V (i % nS V)) (fun j hj => (hM2 j hj).2.2.2.2.1) (fun j hj => (hM2 j hj).1) (fun I3 hI3 hz3 => ?_))
          rw [hz2, va_up_self] at hz3 ⊢
          rw [up_up] at hz3
          have hdr := drw_rng (planV V (i % nS V)) 31 0 z
          have hX3 : (∀ q, q ≠ 118 → q ≠ 135 → q ≠ 136 → (q < 121 ∨ 129 ≤ q) → I3 q = I q) := fun q a1 a2 a3 a4 => (hI3 q a1).trans ((hI2 q a2 a3 (by omega)).trans (hI1 q a1 a2 a3 a4))
          have ho3 : (∀ j, j < 31 → I3 121 j = owV V j) := fun j hj => by rw [hI3 121 (by decide), hI2 121 (by decide) (by decide) (by decide)]; exact ho j hj
          refine w_istore (al' := [_, _, _, _, _, _]) dX10_rightReaders_40 rfl rfl rfl ?_
          refine w_iload_n dX10_rightReaders_42 rfl ?_
          refine w_iload_n dX10_rightReaders_43 rfl ?_
          refine w_iload_n dX10_rightReaders_44 rfl ?_
          refine w_icmp_ge (tgt := 63) dX10_rightReaders_45 (by decide) (fun c45 => ?_) (fun c45 => ?_)
          · have hn9 : ¬ (2 * i < m ∧ T (2 * i) = (drwF (planV V (i % nS V)) 31 0 z).1) := fun q => absurd ((nI_leI (by omega) (by omega)).mp c45) (by omega)
            refine w_iconst dX10_rightReaders_63 ic_0 ?_
            refine w_iadd dX10_rightReaders_64 ?_
            refine w_top (y := nI (2 * i)) (Int32.add_zero _) ?_
            refine w_istore_n (al' := [_, _, _, _, _, _]) dX10_rightReaders_65 rfl rfl rfl ?_
            refine w_iload_n dX10_rightReaders_66 rfl ?_
            refine w_iload_n dX10_rightReaders_67 rfl ?_
            refine w_iconst dX10_rightReaders_68 ic_2 ?_
            refine w_iload dX10_rightReaders_69 rfl ?_
            refine w_imul dX10_rightReaders_71 ?_
            refine w_top (y := nI (2 * i)) (nI_mul 2 i) ?_
            refine w_iconst dX10_rightReaders_72 ic_1 ?_
            refine w_iadd dX10_rightReaders_73 ?_
            refine w_top (y := nI (2 * i + 1)) (nI_1 _) ?_
            refine w_icmp_ne (tgt := 111) dX10_rightReaders_74 (by decide) (fun c74 => ?_) (fun c74 => ?_)
            · refine w_iconst dX10_rightReaders_111 ic_0 ?_
              refine w_iadd dX10_rightReaders_112 ?_
              refine w_top (y := nI (2 * i)) (Int32.add_zero _) ?_
              refine w_istore_n (al' := [_, _, _, _, _, _]) dX10_rightReaders_113 rfl rfl rfl ?_
              refine w_iinc (al' := [_, _, _, _, _, _]) dX10_rightReaders_114 rfl rfl ic_1 rfl ?_
              refine w_goto (tgt := 9) dX10_rightReaders_117 (by decide) ?_
              refine w_kill (i := 5) (al' := [_, _, _, _, _, _]) rfl ?_
              simp only [nI_1]
              refine rrE (r := 2 * i) (by omega) (by omega) hn30 (by omega) ?_
              have hgo := hq I3 hX3 ⟨_, hz3⟩
              rw [ckF, cif_f hn9] at hgo
              exact hgo
            · exact absurd ((nI_eq (by omega) (by omega)).mp c74) (by omega)
          · have hlt : 2 * i < m := Nat.lt_of_not_le (fun q => c45 (nI_le q (by omega)))
            refine w_aload_n dX10_rightReaders_48 rfl ?_
            refine w_getR dX10_rightReaders_49 flX10_93 rfl (hs.r (a := 117) (j := 42) (b := 145) 143 rfl) ?_
            refine w_iload_n dX10_rightReaders_52 rfl ?_
            refine w_iald dX10_rightReaders_53 rfl (hs.n (a := 145) (z := 60) 99 rfl) (by omega) ?_
            refine w_top (y := T (2 * i)) (by rw [hX3 145 (by decide) (by decide) (by decide) (by decide)]; exact hT _ (by omega)) ?_
            refine w_iload dX10_rightReaders_54 rfl ?_
            refine w_icmp_ne (tgt := 63) dX10_rightReaders_56 (by decide) (fun c56 => ?_) (fun c56 => ?_)
            · have hn9 : ¬ (2 * i < m ∧ T (2 * i) = (drwF (planV V (i % nS V)) 31 0 z).1) := fun q => c56 q.2
              refine w_iconst dX10_rightReaders_63 ic_0 ?_
              refine w_iadd dX10_rightReaders_64 ?_
              refine w_top (y := nI (2 * i)) (Int32.add_zero _) ?_
              refine w_istore_n (al' := [_, _, _, _, _, _]) dX10_rightReaders_65 rfl rfl rfl ?_
              refine w_iload_n dX10_rightReaders_66 rfl ?_
              refine w_iload_n dX10_rightReaders_67 rfl ?_
              refine w_iconst dX10_rightReaders_68 ic_2 ?_
              refine w_iload dX10_rightReaders_69 rfl ?_
              refine w_imul dX10_rightReaders_71 ?_
              refine w_top (y := nI (2 * i)) (nI_mul 2 i) ?_
              refine w_iconst dX10_rightReaders_72 ic_1 ?_
              refine w_iadd dX10_rightReaders_73 ?_
              refine w_top (y := nI (2 * i + 1)) (nI_1 _) ?_
              refine w_icmp_ne (tgt := 111) dX10_rightReaders_74 (by decide) (fun c74 => ?_) (fun c74 => ?_)
              · refine w_iconst dX10_rightReaders_111 ic_0 ?_
                refine w_iadd dX10_rightReaders_112 ?_
                refine w_top (y := nI (2 * i)) (Int32.add_zero _) ?_
                refine w_istore_n (al' := [_, _, _, _, _, _]) dX10_rightReaders_113 rfl rfl rfl ?_
                refine w_iinc (al' := [_, _, _, _, _, _]) dX10_rightReaders_114 rfl rfl ic_1 rfl ?_
                refine w_goto (tgt := 9) dX10_rightReaders_117 (by decide) ?_
                refine w_kill (i := 5) (al' := [_, _, _, _, _, _]) rfl ?_
                simp only [nI_1]
                refine rrE (r := 2 * i) (by omega) (by omega) hn30 (by omega) ?_
                have hgo := hq I3 hX3 ⟨_, hz3⟩
                rw [ckF, cif_f hn9] at hgo
                exact hgo
              · exact absurd ((nI_eq (by omega) (by omega)).mp c74) (by omega)
            · have hy9 : 2 * i < m ∧ T (2 * i) = (drwF (planV V (i % nS V)) 31 0 z).1 := ⟨hlt, c56⟩
              refine w_iconst dX10_rightReaders_59 ic_1 ?_
              refine w_goto (tgt := 64) dX10_rightReaders_60 (by decide) ?_
              refine w_iadd dX10_rightReaders_64 ?_
              refine w_top (y := nI (2 * i + 1)) (nI_1 _) ?_
              refine w_istore_n (al' := [_, _, _, _, _, _]) dX10_rightReaders_65 rfl rfl rfl ?_
              refine w_iload_n dX10_rightReaders_66 rfl ?_
              refine w_iload_n dX10_rightReaders_67 rfl ?_
              refine w_iconst dX10_rightReaders_68 ic_2 ?_
              refine w_iload dX10_rightReaders_69 rfl ?_
              refine w_imul dX10_rightReaders_71 ?_
              refine w_top (y := nI (2 * i)) (nI_mul 2 i) ?_
              refine w_iconst dX10_rightReaders_72 ic_1 ?_
              refine w_iadd dX10_rightReaders_73 ?_
              refine w_top (y := nI (2 * i + 1)) (nI_1 _) ?_
              refine w_icmp_ne (tgt := 111) dX10_rightReaders_74 (by decide) (fun c74 => ?_) (fun c74 => ?_)
              · exact absurd rfl c74
              · refine w_iload_n dX10_rightReaders_77 rfl ?_
                refine w_iload_n dX10_rightReaders_78 rfl ?_
                refine w_icmp_ge (tgt := 111) dX10_rightReaders_79 (by decide) (fun c79 => ?_) (fun c79 => ?_)
                · have hn8 : ¬ (2 * i + 1 < m ∧ T (2 * i + 1) = dayO V (drwF (planV V (i % nS V)) 31 0 z).1) := fun q => absurd ((nI_leI (by omega) (by omega)).mp c79) (by omega)
                  refine w_iconst dX10_rightReaders_111 ic_0 ?_
                  refine w_iadd dX10_rightReaders_112 ?_
                  refine w_top (y := nI (2 * i + 1)) (Int32.add_zero _) ?_
                  refine w_istore_n (al' := [_, _, _, _, _, _]) dX10_rightReaders_113 rfl rfl rfl ?_
                  refine w_iinc (al' := [_, _, _, _, _, _]) dX10_rightReaders_114 rfl rfl ic_1 rfl ?_
                  refine w_goto (tgt := 9) dX10_rightReaders_117 (by decide) ?_
                  refine w_kill (i := 5) (al' := [_, _, _, _, _, _]) rfl ?_
                  simp only [nI_1]
                  refine rrE (r := 2 * i + 1) (by omega) (by omega) hn30 (by omega) ?_
                  have hgo := hq I3 hX3 ⟨_, hz3⟩
                  rw [ckF, cif_t hy9, cif_f hn8] at hgo
                  exact hgo
                · have hlt2 : 2 * i + 1 < m := Nat.lt_of_not_le (fun q => c79 (nI_le q (by omega)))
                  refine w_aload_n dX10_rightReaders_82 rfl ?_
                  refine w_getR dX10_rightReaders_83 flX10_93 rfl (hs.r (a := 117) (j := 42) (b := 145) 143 rfl) ?_
                  refine w_iload_n dX10_rightReaders_86 rfl ?_
                  refine w_iald dX10_rightReaders_87 rfl (hs.n (a := 145) (z := 60) 99 rfl) (by omega) ?_
                  refine w_top (y := T (2 * i + 1)) (by rw [hX3 145 (by decide) (by decide) (by decide) (by decide)]; exact hT _ (by omega)) ?_
                  refine w_iload dX10_rightReaders_88 rfl ?_
                  refine w_if_ge (tgt := 97) dX10_rightReaders_90 (by decide) (fun c90 => ?_) (fun c90 => ?_)
                  · obtain ⟨dj, hdj, edj⟩ : ∃ dj, dj < 31 ∧ (drwF (planV V (i % nS V)) 31 0 z).1 = nI dj := by rcases hdr with e9 | ⟨i9, h9, e9⟩; exact absurd (e9 ▸ c90) (by decide); exact ⟨i9, by omega, e9⟩
                    refine w_aload_n dX10_rightReaders_97 rfl ?_
                    refine w_getR dX10_rightReaders_98 flX10_19 rfl (hs.r (a := 117) (j := 4) (b := 121) 119 rfl) ?_
                    refine w_iload dX10_rightReaders_101 rfl ?_
                    refine w_top (y := nI dj) (edj) ?_
                    refine w_iald dX10_rightReaders_103 rfl (hs.n (a := 121) (z := 31) 75 rfl) (by omega) ?_
                    refine w_top (y := dayO V (drwF (planV V (i % nS V)) 31 0 z).1) (by rw [edj, dayO, if_neg (nI_pos (by omega)), nI_clamp (by omega)]; exact ho3 dj hdj) ?_
                    refine w_icmp_ne (tgt := 111) dX10_rightReaders_104 (by decide) (fun c104 => ?_) (fun c104 => ?_)
                    · have hn8 : ¬ (2 * i + 1 < m ∧ T (2 * i + 1) = dayO V (drwF (planV V (i % nS V)) 31 0 z).1) := fun q => c104 q.2
                      refine w_iconst dX10_rightReaders_111 ic_0 ?_
                      refine w_iadd dX10_rightReaders_112 ?_
                      refine w_top (y := nI (2 * i + 1)) (Int32.add_zero _) ?_
                      refine w_istore_n (al' := [_, _, _, _, _, _]) dX10_rightReaders_113 rfl rfl rfl ?_
                      refine w_iinc (al' := [_, _, _, _, _, _]) dX10_rightReaders_114 rfl rfl ic_1 rfl ?_
                      refine w_goto (tgt := 9) dX10_rightReaders_117 (by decide) ?_
                      refine w_kill (i := 5) (al' := [_, _, _, _, _, _]) rfl ?_
                      simp only [nI_1]
                      refine rrE (r := 2 * i + 1) (by omega) (by omega) hn30 (by omega) ?_
                      have hgo := hq I3 hX3 ⟨_, hz3⟩
                      rw [ckF, cif_t hy9, cif_f hn8] at hgo
                      exact hgo
                    · have hy8 : 2 * i + 1 < m ∧ T (2 * i + 1) = dayO V (drwF (planV V (i % nS V)) 31 0 z).1 := ⟨hlt2, c104⟩
                      refine w_iconst dX10_rightReaders_107 ic_1 ?_
                      refine w_goto (tgt := 112) dX10_rightReaders_108 (by decide) ?_
                      refine w_iadd dX10_rightReaders_112 ?_
                      refine w_top (y := nI (2 * (i + 1))) (nI_1 _) ?_
                      refine w_istore_n (al' := [_, _, _, _, _, _]) dX10_rightReaders_113 rfl rfl rfl ?_
                      refine w_iinc (al' := [_, _, _, _, _, _]) dX10_rightReaders_114 rfl rfl ic_1 rfl ?_
                      refine w_goto (tgt := 9) dX10_rightReaders_117 (by decide) ?_
                      refine w_kill (i := 5) (al' := [_, _, _, _, _, _]) rfl ?_
                      simp only [nI_1]
                      refine ih (i + 1) I3 (drwF (planV V (i % nS V)) 31 0 z).2 (by omega) hX3 hz3 ho3 (fun I' h1 h2 => ?_)
                      have hgo := hq I' h1 h2
                      rw [ckF, cif_t hy9, cif_t hy8] at hgo
                      exact hgo
                  · refine w_iconst dX10_rightReaders_93 ic_0 ?_
                    refine w_top (y := dayO V (drwF (planV V (i % nS V)) 31 0 z).1) ((if_pos (Int32.not_le.mp c90)).symm) ?_
                    refine w_goto (tgt := 104) dX10_rightReaders_94 (by decide) ?_
                    refine w_icmp_ne (tgt := 111) dX10_rightReaders_104 (by decide) (fun c104 => ?_) (fun c104 => ?_)
                    · have hn8 : ¬ (2 * i + 1 < m ∧ T (2 * i + 1) = dayO V (drwF (planV V (i % nS V)) 31 0 z).1) := fun q => c104 q.2
                      refine w_iconst dX10_rightReaders_111 ic_0 ?_
                      refine w_iadd dX10_rightReaders_112 ?_
                      refine w_top (y := nI (2 * i + 1)) (Int32.add_zero _) ?_
                      refine w_istore_n (al' := [_, _, _, _, _, _]) dX10_rightReaders_113 rfl rfl rfl ?_
                      refine w_iinc (al' := [_, _, _, _, _, _]) dX10_rightReaders_114 rfl rfl ic_1 rfl ?_
                      refine w_goto (tgt := 9) dX10_rightReaders_117 (by decide) ?_
                      refine w_kill (i := 5) (al' := [_, _, _, _, _, _]) rfl ?_
                      simp only [nI_1]
                      refine rrE (r := 2 * i + 1) (by omega) (by omega) hn30 (by omega) ?_
                      have hgo := hq I3 hX3 ⟨_, hz3⟩
                      rw [ckF, cif_t hy9, cif_f hn8] at hgo
                      exact hgo
                    · have hy8 : 2 * i + 1 < m ∧ T (2 * i + 1) = dayO V (drwF (planV V (i % nS V)) 31 0 z).1 := ⟨hlt2, c104⟩
                      refine w_iconst dX10_rightReaders_107 ic_1 ?_
                      refine w_goto (tgt := 112) dX10_rightReaders_108 (by decide) ?_
                      refine w_iadd dX10_rightReaders_112 ?_
                      refine w_top (y := nI (2 * (i + 1))) (nI_1 _) ?_
                      refine w_istore_n (al' := [_, _, _, _, _, _]) dX10_rightReaders_113 rfl rfl rfl ?_
                      refine w_iinc (al' := [_, _, _, _, _, _]) dX10_rightReaders_114 rfl rfl ic_1 rfl ?_
                      refine w_goto (tgt := 9) dX10_rightReaders_117 (by decide) ?_
                      refine w_kill (i := 5) (al' := [_, _, _, _, _, _]) rfl ?_
                      simp only [nI_1]
                      refine ih (i + 1) I3 (drwF (planV V (i % nS V)) 31 0 z).2 (by omega) hX3 hz3 ho3 (fun I' h1 h2 => ?_)
                      have hgo := hq I' h1 h2
                      rw [ckF, cif_t hy9, cif_t hy8] at hgo
                      exact hgo
  refine ca_in (al := [_, _, _, _, _, _]) rfl ?_
  refine w_aload_n dX10_rightReaders_0 rfl ?_
  refine c_Vv (t := 10) (as := []) (d' := 3) dX10_rightReaders_1 mlX10_172 moX10_findOwed mvX10_findOwed ⟨rfl, rfl⟩ rfl rfl rfl rfl rfl (by decide) (sX10_findOwed hs hI hV (fun I2 hI2 ho2 => ?_))
  refine w_iconst dX10_rightReaders_4 ic_0 ?_
  refine w_istore_n (al' := [_, _, _, _, _, _]) dX10_rightReaders_5 rfl rfl rfl ?_
  refine w_iconst dX10_rightReaders_6 ic_0 ?_
  refine w_istore (al' := [_, _, _, _, _, _]) dX10_rightReaders_7 rfl rfl rfl ?_
  exact lp nn 0 I2 (V 0) (Nat.zero_add _) (fun q a1 a2 a3 a4 => hI2 q a2 a3 (by omega)) (by rw [up_id]; exact (hI2 118 (by decide) (by decide) (by decide)).trans hI) ho2 hq

end
