section
variable {l : Launch} {D : va_G} {kB kI kT : ClassId} {ks sk sv : Nat}
theorem minN {a : Nat} (h : a < 1000) : (if (3 : Int32) < nI a then 3 else nI a) = nI (min a 3) := by
  have h3 : (3 : Int32) < nI a ↔ 3 < a := nI_ltI (a := 3) (b := a) (by omega) (by omega)
  by_cases q : 3 < a
  · rw [if_pos (h3.mpr q), show min a 3 = 3 by omega]; rfl
  · rw [if_neg (fun q2 => q (h3.mp q2)), show min a 3 = a by omega]
set_option maxRecDepth 100000 in
set_option maxHeartbeats 4000000 in
theorem k_X1_breakAt {pa : Nat → Nat} {d : Nat → Nat → Int32} {u : Nat → Int32} {x : Nat → Nat} {n : Int32} {c : Nat → Nat → Int32} (i : Nat) (t : Nat) {nn : Nat} (hn : n = nI nn) (hn5 : nn ≤ 5) (hok : okP nn (d 8)) (hi : i < 12) (hti : (d 8) i = nI t) (htn : t < nn) (hT : (d 52) t = nI (nOf (d 8) (nI t) i)) (hC : ∀ k, k < nn → ∃ k4, k4 < 5 ∧ (c 4) k = nI k4) (hL : ∀ k, k < 5 → (nI i < (d 54) k ↔ cBeh (c 4) (d 8) i (nI k) (11 - i) = true)) : MR l yX1_breakAt cX1_breakAt 5 (some .int) 2 45 D kB kI kT ks sk sv [.ref (pa 0), .int (nI i), .int (nI t)] (wPl kI kT pa d u x n c) (some (.int (brk (c 2) (c 3) (c 4) (c 5) (c 6) (d 8) i))) := by
  refine MR.go (by decide +kernel) (Nat.le_of_ble_eq_true rfl) ?_
  intro p e s m below meth c0 args Q ls hQ hx hb hr hml hown hts hlocks hE hP hS hl
  have hl : lv_has ls 5 [(0, .ref (pa 0)), (1, .int (nI i)), (2, .int (nI t))] := hl
  have hown : s.vm.findClass RX1 = some m.cls := hown
  obtain ⟨k4, hk4, hk4e⟩ := hC t htn
  refine lv_aload_n (pc := 0) hx hb dX1_breakAt_0 rfl (lv_at hl 0 rfl) ?_
  refine fget (pc := 1) (v := .ref (x 7)) hx hb hts hown hE hP fl_X1_30 0 rfl rfl dX1_breakAt_1 ?_
  refine lv_iload_n (pc := 4) hx hb dX1_breakAt_4 rfl (lv_at hl 2 rfl) ?_
  refine rV (pc := 5) (rest := []) ⟨hx, hb, hml, hown, hts⟩ (k_X6_at (k := t) (x := x) (n := n) (c := c) (hk5 := (by omega))) cw_X1_109 ⟨(Nat.le_of_ble_eq_true rfl), (Nat.le_of_ble_eq_true rfl)⟩ hE hS (sub_P (wc := wTs kT x n c) hP [7, 8, 9, 10, 11, 12, 13] rfl) rfl rfl rfl rfl hl.1 rfl (Nat.le_of_ble_eq_true rfl) dX1_breakAt_5 ⟨Nat.le_refl _, Nat.le_refl _⟩ ?_
  refine W.eq (g2 := F0 m 8 ls [.ref (x (9 + t))]) rfl ?_
  refine lv_astore_n (pc := 8) (lv' := [(3, .ref (x (9 + t))), (0, .ref (pa 0)), (1, .int (nI i)), (2, .int (nI t))]) hx hb dX1_breakAt_8 rfl hl (by decide) rfl (fun ls hl => ?_)
  refine lv_iload_n (pc := 9) hx hb dX1_breakAt_9 rfl (lv_at hl 2 rfl) ?_
  refine lv_aload_n (pc := 10) hx hb dX1_breakAt_10 rfl (lv_at hl 0 rfl) ?_
  refine fget (pc := 11) (v := .int ((c 5) t)) hx hb hts hown hE hP fl_X1_118 (9 + t) (wPl_t (by omega)) rfl dX1_breakAt_11 ?_
  refine lv_icmp_lt (pc := 14) (tgt := 25) hx hb dX1_breakAt_14 (by decide) (fun c_1 => ?_) (fun c_1 => ?_)
  · skip
    refine lv_iconst (pc := 25) (v := 1) hx hb dX1_breakAt_25 (by decide) ?_
    rw [hQ]; exact W.iret (pc := 26) hx hb hr (fun t9 ht _ => ⟨retI (by unfold brk; rw [hti, ix_nI (by omega), if_neg (nI_nm1 (by omega)), if_pos (fun q => Int32.not_lt.mpr q.1 c_1)]), ht⟩) (fun _ h => nomatch h) dX1_breakAt_26 hlocks
  · skip
    refine lv_iload_n (pc := 17) hx hb dX1_breakAt_17 rfl (lv_at hl 2 rfl) ?_
    refine lv_aload_n (pc := 18) hx hb dX1_breakAt_18 rfl (lv_at hl 0 rfl) ?_
    refine fget (pc := 19) (v := .int ((c 6) t)) hx hb hts hown hE hP fl_X1_121 (9 + t) (wPl_t (by omega)) rfl dX1_breakAt_19 ?_
    refine lv_icmp_le (pc := 22) (tgt := 27) hx hb dX1_breakAt_22 (by decide) (fun c_2 => ?_) (fun c_2 => ?_)
    · skip
      refine lv_aload_n (pc := 27) hx hb dX1_breakAt_27 rfl (lv_at hl 1 rfl) ?_
      refine lv_iload_n (pc := 28) hx hb dX1_breakAt_28 rfl (lv_at hl 2 rfl) ?_
      refine lv_iconst (pc := 29) (v := 1) hx hb dX1_breakAt_29 (by decide) ?_
      refine lv_isub (pc := 30) hx hb dX1_breakAt_30 ?_
      refine rV (pc := 31) (rest := []) ⟨hx, hb, hml, hown, hts⟩ (k_X1_titleOn (x9 := (nI i) - 1) (pa := pa) (d := d) (u := u) (x := x) (n := n) (c := c) (nn := nn) (hn := (by first | assumption | omega)) (hn5 := (by first | assumption | omega)) (hok := (by first | assumption | omega))) cw_X1_78 ⟨(Nat.le_of_ble_eq_true rfl), (Nat.le_of_ble_eq_true rfl)⟩ hE hS hP rfl rfl rfl rfl hl.1 rfl (Nat.le_of_ble_eq_true rfl) dX1_breakAt_31 ⟨Nat.le_refl _, Nat.le_refl _⟩ ?_
      refine W.eq (g2 := F0 m 34 ls [.int (rOn (d 8) ((nI i) - 1))]) rfl ?_
      refine lv_istore (pc := 34) (lv' := [(4, .int (rOn (d 8) ((nI i) - 1))), (3, .ref (x (9 + t))), (0, .ref (pa 0)), (1, .int (nI i)), (2, .int (nI t))]) hx hb dX1_breakAt_34 hl (by decide) rfl (fun ls hl => ?_)
      have jn_3 : ¬ (¬ rOn (d 8) (nI i - 1) = -1 ∧ ¬ (c 3) (ix (rOn (d 8) (nI i - 1))) = (c 3) t) → W p l e (rmO 2 45) s m args below meth c0 s.heap [] 0 0 Q (F0 m 63 ls []) := by
        intro cj_4
        have jn_5 : ¬ (hasC (c 4) (d 8) (nI i - 1) ((c 4) t) ∧ hasC (c 4) (d 8) (nI i - 2) ((c 4) t)) → W p l e (rmO 2 45) s m args below meth c0 s.heap [] 0 0 Q (F0 m 93 ls []) := by
          intro cj_6
          have jn_7 : ¬ (isG ((c 2) t) ∧ 0 < nOf (d 8) (nI t) i) → W p l e (rmO 2 45) s m args below meth c0 s.heap [] 0 0 Q (F0 m 112 ls []) := by
            intro cj_8
            have jn_9 : ¬ ((c 2) t = 2 ∧ cBeh (c 4) (d 8) i ((c 4) t) (11 - i) = true) → W p l e (rmO 2 45) s m args below meth c0 s.heap [] 0 0 Q (F0 m 135 ls []) := by
              intro cj_10
              refine lv_aload_n (pc := 135) hx hb dX1_breakAt_135 rfl (lv_at hl 1 rfl) ?_
              refine fget (pc := 136) (v := .int ((c 2) t)) hx hb hts hown hE hP fl_X1_133 (9 + t) (wPl_t (by omega)) rfl dX1_breakAt_136 ?_
              refine lv_iconst (pc := 139) (v := 3) hx hb dX1_breakAt_139 (by decide) ?_
              refine lv_icmp_ne (pc := 140) (tgt := 163) hx hb dX1_breakAt_140 (by decide) (fun c_11 => ?_) (fun c_11 => ?_)
              · skip
                refine lv_iconst (pc := 163) (v := 0) hx hb dX1_breakAt_163 (by decide) ?_
                rw [hQ]; exact W.iret (pc := 164) hx hb hr (fun t9 ht _ => ⟨retI (by unfold brk; rw [hti, ix_nI (by omega), if_neg (nI_nm1 (by omega)), if_neg (fun q => q ⟨Int32.not_lt.mp c_1, c_2⟩), if_neg cj_4, if_neg cj_6, if_neg cj_8, if_neg cj_10, if_neg (fun q => c_11 q.1)]), ht⟩) (fun _ h => nomatch h) dX1_breakAt_164 hlocks
              · skip
                refine lv_iload (pc := 143) hx hb dX1_breakAt_143 (lv_at hl 0 rfl) ?_
                refine lv_iload_n (pc := 145) hx hb dX1_breakAt_145 rfl (lv_at hl 4 rfl) ?_
                refine lv_icmp_eq (pc := 146) (tgt := 163) hx hb dX1_breakAt_146 (by decide) (fun c_12 => ?_) (fun c_12 => ?_)
                · skip
                  refine lv_iconst (pc := 163) (v := 0) hx hb dX1_breakAt_163 (by decide) ?_
                  rw [hQ]; exact W.iret (pc := 164) hx hb hr (fun t9 ht _ => ⟨retI (by unfold brk; rw [hti, ix_nI (by omega), if_neg (nI_nm1 (by omega)), if_neg (fun q => q ⟨Int32.not_lt.mp c_1, c_2⟩), if_neg cj_4, if_neg cj_6, if_neg cj_8, if_neg cj_10, if_neg (fun q => q.2.1 c_12)]), ht⟩) (fun _ h => nomatch h) dX1_breakAt_164 hlocks
                · skip
                  refine lv_aload_n (pc := 149) hx hb dX1_breakAt_149 rfl (lv_at hl 2 rfl) ?_
                  refine lv_iload_n (pc := 150) hx hb dX1_breakAt_150 rfl (lv_at hl 3 rfl) ?_
                  refine lv_iconst (pc := 151) (v := 1) hx hb dX1_breakAt_151 (by decide) ?_
                  refine iaddV (pc := 152) (v := nI (i + 1)) hx hb dX1_breakAt_152 (nI_add (i) (1)) ?_
                  refine rV (pc := 153) (rest := []) ⟨hx, hb, hml, hown, hts⟩ (k_X1_titleOn (x9 := nI (i + 1)) (pa := pa) (d := d) (u := u) (x := x) (n := n) (c := c) (nn := nn) (hn := (by first | assumption | omega)) (hn5 := (by first | assumption | omega)) (hok := (by first | assumption | omega))) cw_X1_78 ⟨(Nat.le_of_ble_eq_true rfl), (Nat.le_of_ble_eq_true rfl)⟩ hE hS hP rfl rfl rfl rfl hl.1 rfl (Nat.le_of_ble_eq_true rfl) dX1_breakAt_153 ⟨Nat.le_refl _, Nat.le_refl _⟩ ?_
                  refine W.eq (g2 := F0 m 156 ls [.int (rOn (d 8) (nI (i + 1)))]) rfl ?_
                  refine lv_iload_n (pc := 156) hx hb dX1_breakAt_156 rfl (lv_at hl 4 rfl) ?_
                  refine lv_icmp_eq (pc := 157) (tgt := 163) hx hb dX1_breakAt_157 (by decide) (fun c_13 => ?_) (fun c_13 => ?_)
                  · skip
                    refine lv_iconst (pc := 163) (v := 0) hx hb dX1_breakAt_163 (by decide) ?_
                    rw [hQ]; exact W.iret (pc := 164) hx hb hr (fun t9 ht _ => ⟨retI (by unfold brk; rw [hti, ix_nI (by omega), if_neg (nI_nm1 (by omega)), if_neg (fun q => q ⟨Int32.not_lt.mp c_1, c_2⟩), if_neg cj_4, if_neg cj_6, if_neg cj_8, if_neg cj_10, if_neg (fun q => q.2.2 c_13)]), ht⟩) (fun _ h => nomatch h) dX1_breakAt_164 hlocks
                  · skip
                    refine lv_bipush (pc := 160) (v := 6) hx hb dX1_breakAt_160 (by decide) ?_
                    rw [hQ]; exact W.iret (pc := 162) hx hb hr (fun t9 ht _ => ⟨retI (by unfold brk; rw [hti, ix_nI (by omega), if_neg (nI_nm1 (by omega)), if_neg (fun q => q ⟨Int32.not_lt.mp c_1, c_2⟩), if_neg cj_4, if_neg cj_6, if_neg cj_8, if_neg cj_10, if_pos ⟨c_11, c_12, c_13⟩]), ht⟩) (fun _ h => nomatch h) dX1_breakAt_162 hlocks
            refine lv_aload_n (pc := 112) hx hb dX1_breakAt_112 rfl (lv_at hl 1 rfl) ?_
            refine fget (pc := 113) (v := .int ((c 2) t)) hx hb hts hown hE hP fl_X1_133 (9 + t) (wPl_t (by omega)) rfl dX1_breakAt_113 ?_
            refine lv_iconst (pc := 116) (v := 2) hx hb dX1_breakAt_116 (by decide) ?_
            refine lv_icmp_ne (pc := 117) (tgt := 135) hx hb dX1_breakAt_117 (by decide) (fun c_14 => ?_) (fun c_14 => ?_)
            · skip
              exact jn_9 (fun q => c_14 q.1)
            · skip
              refine lv_aload_n (pc := 120) hx hb dX1_breakAt_120 rfl (lv_at hl 2 rfl) ?_
              refine fget (pc := 121) (v := .ref (pa 6)) hx hb hts hown hE hP fl_X1_27 0 rfl rfl dX1_breakAt_121 ?_
              refine lv_aload_n (pc := 124) hx hb dX1_breakAt_124 rfl (lv_at hl 1 rfl) ?_
              refine fget (pc := 125) (v := .int ((c 4) t)) hx hb hts hown hE hP fl_X1_113 (9 + t) (wPl_t (by omega)) rfl dX1_breakAt_125 ?_
              refine aldX (pc := 128) (f := d 54) hx hb hE hP 6 rfl (by rw [hk4e]; exact vp_in_nI hk4 (by omega)) dX1_breakAt_128 ?_
              refine lv_iload_n (pc := 129) hx hb dX1_breakAt_129 rfl (lv_at hl 3 rfl) ?_
              refine lv_icmp_le (pc := 130) (tgt := 135) hx hb dX1_breakAt_130 (by decide) (fun c_15 => ?_) (fun c_15 => ?_)
              · skip
                exact jn_9 (fun q => Int32.not_lt.mpr c_15 (by rw [hk4e, nI_clamp (by omega)]; exact (hL k4 hk4).mpr (by have q2 := q.2; rw [hk4e] at q2; exact q2)))
              · skip
                refine lv_iconst (pc := 133) (v := 5) hx hb dX1_breakAt_133 (by decide) ?_
                rw [hQ]; exact W.iret (pc := 134) hx hb hr (fun t9 ht _ => ⟨retI (by unfold brk; rw [hti, ix_nI (by omega), if_neg (nI_nm1 (by omega)), if_neg (fun q => q ⟨Int32.not_lt.mp c_1, c_2⟩), if_neg cj_4, if_neg cj_6, if_neg cj_8, if_pos ⟨c_14, (by have q := (hL k4 hk4).mp (by have q9 := Int32.not_le.mp c_15; rw [hk4e, nI_clamp (by omega)] at q9; exact q9); rw [hk4e]; exact q)⟩]), ht⟩) (fun _ h => nomatch h) dX1_breakAt_134 hlocks
          refine lv_aload_n (pc := 93) hx hb dX1_breakAt_93 rfl (lv_at hl 1 rfl) ?_
          refine lv_iconst (pc := 94) (v := 1) hx hb dX1_breakAt_94 (by decide) ?_
          refine rV (pc := 95) (rest := []) ⟨hx, hb, hml, hown, hts⟩ (k_X5_isOf (asked := 1) (ta := x (9 + t)) (f0 := (c 2) t) (f1 := (c 3) t) (f2 := (c 4) t) (f3 := (c 5) t) (f4 := (c 6) t) (f5 := (c 7) t)) cw_X1_130 ⟨(Nat.le_of_ble_eq_true rfl), (Nat.le_of_ble_eq_true rfl)⟩ hE hS (sub_P (wc := wTi (x (9 + t)) ((c 2) t) ((c 3) t) ((c 4) t) ((c 5) t) ((c 6) t) ((c 7) t)) hP [9 + t] (congrArg (fun q => [q]) (wPl_t (by omega)))) rfl rfl rfl rfl hl.1 rfl (Nat.le_of_ble_eq_true rfl) dX1_breakAt_95 ⟨Nat.le_refl _, Nat.le_refl _⟩ ?_
          refine W.eq (g2 := F0 m 98 ls [.int (bi (isOfP ((c 2) t) 1))]) rfl ?_
          refine bif_eq (pc := 98) (tgt := 112) hx hb dX1_breakAt_98 (by decide) (fun c_16 => ?_) (fun c_16 => ?_)
          · skip
            exact jn_7 (fun q => c_16 (isOf1.mpr q.1))
          · skip
            refine lv_aload_n (pc := 101) hx hb dX1_breakAt_101 rfl (lv_at hl 2 rfl) ?_
            refine fget (pc := 102) (v := .ref (pa 4)) hx hb hts hown hE hP fl_X1_21 0 rfl rfl dX1_breakAt_102 ?_
            refine lv_iload_n (pc := 105) hx hb dX1_breakAt_105 rfl (lv_at hl 4 rfl) ?_
            refine aldN (pc := 106) (f := d 52) hx hb hE hP 4 rfl (t) (by omega) (by omega) dX1_breakAt_106 ?_
            refine vEq (v := nI (nOf (d 8) (nI t) i)) hT ?_
            have hnb : nOf (d 8) (nI t) i ≤ i := cntP_le _ _
            refine lv_if_le (pc := 107) (tgt := 112) hx hb dX1_breakAt_107 (by decide) (fun c_17 => ?_) (fun c_17 => ?_)
            · skip
              have c_17n : (nOf (d 8) (nI t) i) ≤ 0 := (nI_leI (a := nOf (d 8) (nI t) i) (b := 0) (by omega) (by omega)).mp c_17
              exact jn_7 (fun q => (Nat.not_lt.mpr c_17n) q.2)
            · skip
              have c_17n : ¬ (nOf (d 8) (nI t) i) ≤ 0 := fun hh => c_17 ((nI_leI (a := nOf (d 8) (nI t) i) (b := 0) (by omega) (by omega)).mpr hh)
              refine lv_iconst (pc := 110) (v := 4) hx hb dX1_breakAt_110 (by decide) ?_
              rw [hQ]; exact W.iret (pc := 111) hx hb hr (fun t9 ht _ => ⟨retI (by unfold brk; rw [hti, ix_nI (by omega), if_neg (nI_nm1 (by omega)), if_neg (fun q => q ⟨Int32.not_lt.mp c_1, c_2⟩), if_neg cj_4, if_neg cj_6, if_pos ⟨isOf1.mp c_16, Nat.lt_of_not_le c_17n⟩]), ht⟩) (fun _ h => nomatch h) dX1_breakAt_111 hlocks
        refine lv_aload_n (pc := 63) hx hb dX1_breakAt_63 rfl (lv_at hl 2 rfl) ?_
        refine lv_iload_n (pc := 64) hx hb dX1_breakAt_64 rfl (lv_at hl 3 rfl) ?_
        refine lv_iconst (pc := 65) (v := 1) hx hb dX1_breakAt_65 (by decide) ?_
        refine lv_isub (pc := 66) hx hb dX1_breakAt_66 ?_
        refine lv_aload_n (pc := 67) hx hb dX1_breakAt_67 rfl (lv_at hl 1 rfl) ?_
        refine fget (pc := 68) (v := .int ((c 4) t)) hx hb hts hown hE hP fl_X1_113 (9 + t) (wPl_t (by omega)) rfl dX1_breakAt_68 ?_
        refine rV (pc := 71) (rest := []) ⟨hx, hb, hml, hown, hts⟩ (k_X1_isCastOn (x9 := (nI i) - 1) (cast := (c 4) t) (pa := pa) (d := d) (u := u) (x := x) (n := n) (c := c) (nn := nn) (hn := (by first | assumption | omega)) (hn5 := (by first | assumption | omega)) (hok := (by first | assumption | omega))) cw_X1_127 ⟨(Nat.le_of_ble_eq_true rfl), (Nat.le_of_ble_eq_true rfl)⟩ hE hS hP rfl rfl rfl rfl hl.1 rfl (Nat.le_of_ble_eq_true rfl) dX1_breakAt_71 ⟨Nat.le_refl _, Nat.le_refl _⟩ ?_
        refine W.eq (g2 := F0 m 74 ls [.int (bi (hasC (c 4) (d 8) ((nI i) - 1) ((c 4) t)))]) rfl ?_
        refine bif_eq (pc := 74) (tgt := 93) hx hb dX1_breakAt_74 (by decide) (fun c_18 => ?_) (fun c_18 => ?_)
        · skip
          exact jn_5 (fun q => c_18 q.1)
        · skip
          refine lv_aload_n (pc := 77) hx hb dX1_breakAt_77 rfl (lv_at hl 2 rfl) ?_
          refine lv_iload_n (pc := 78) hx hb dX1_breakAt_78 rfl (lv_at hl 3 rfl) ?_
          refine lv_iconst (pc := 79) (v := 2) hx hb dX1_breakAt_79 (by decide) ?_
          refine lv_isub (pc := 80) hx hb dX1_breakAt_80 ?_
          refine lv_aload_n (pc := 81) hx hb dX1_breakAt_81 rfl (lv_at hl 1 rfl) ?_
          refine fget (pc := 82) (v := .int ((c 4) t)) hx hb hts hown hE hP fl_X1_113 (9 + t) (wPl_t (by omega)) rfl dX1_breakAt_82 ?_
          refine rV (pc := 85) (rest := []) ⟨hx, hb, hml, hown, hts⟩ (k_X1_isCastOn (x9 := (nI i) - 2) (cast := (c 4) t) (pa := pa) (d := d) (u := u) (x := x) (n := n) (c := c) (nn := nn) (hn := (by first | assumption | omega)) (hn5 := (by first | assumption | omega)) (hok := (by first | assumption | omega))) cw_X1_127 ⟨(Nat.le_of_ble_eq_true rfl), (Nat.le_of_ble_eq_true rfl)⟩ hE hS hP rfl rfl rfl rfl hl.1 rfl (Nat.le_of_ble_eq_true rfl) dX1_breakAt_85 ⟨Nat.le_refl _, Nat.le_refl _⟩ ?_
          refine W.eq (g2 := F0 m 88 ls [.int (bi (hasC (c 4) (d 8) ((nI i) - 2) ((c 4) t)))]) rfl ?_
          refine bif_eq (pc := 88) (tgt := 93) hx hb dX1_breakAt_88 (by decide) (fun c_19 => ?_) (fun c_19 => ?_)
          · skip
            exact jn_5 (fun q => c_19 q.2)
          · skip
            refine lv_iconst (pc := 91) (v := 3) hx hb dX1_breakAt_91 (by decide) ?_
            rw [hQ]; exact W.iret (pc := 92) hx hb hr (fun t9 ht _ => ⟨retI (by unfold brk; rw [hti, ix_nI (by omega), if_neg (nI_nm1 (by omega)), if_neg (fun q => q ⟨Int32.not_lt.mp c_1, c_2⟩), if_neg cj_4, if_pos ⟨c_18, c_19⟩]), ht⟩) (fun _ h => nomatch h) dX1_breakAt_92 hlocks
      refine lv_iload (pc := 36) hx hb dX1_breakAt_36 (lv_at hl 0 rfl) ?_
      refine lv_iconst (pc := 38) (v := (-1)) hx hb dX1_breakAt_38 (by decide) ?_
      refine lv_icmp_eq (pc := 39) (tgt := 63) hx hb dX1_breakAt_39 (by decide) (fun c_20 => ?_) (fun c_20 => ?_)
      · skip
        exact jn_3 (fun q => q.1 c_20)
      · skip
        obtain ⟨t2, ht2, hxa⟩ := rOn_nat hok c_20
        refine lv_aload_n (pc := 42) hx hb dX1_breakAt_42 rfl (lv_at hl 2 rfl) ?_
        refine fget (pc := 43) (v := .ref (x 7)) hx hb hts hown hE hP fl_X1_30 0 rfl rfl dX1_breakAt_43 ?_
        refine lv_iload (pc := 46) hx hb dX1_breakAt_46 (lv_at hl 0 rfl) ?_
        refine vEq (v := nI t2) hxa ?_
        refine rV (pc := 48) (rest := []) ⟨hx, hb, hml, hown, hts⟩ (k_X6_at (k := t2) (x := x) (n := n) (c := c) (hk5 := (by omega))) cw_X1_109 ⟨(Nat.le_of_ble_eq_true rfl), (Nat.le_of_ble_eq_true rfl)⟩ hE hS (sub_P (wc := wTs kT x n c) hP [7, 8, 9, 10, 11, 12, 13] rfl) rfl rfl rfl rfl hl.1 rfl (Nat.le_of_ble_eq_true rfl) dX1_breakAt_48 ⟨Nat.le_refl _, Nat.le_refl _⟩ ?_
        refine W.eq (g2 := F0 m 51 ls [.ref (x (9 + t2))]) rfl ?_
        refine fget (pc := 51) (v := .int ((c 3) t2)) hx hb hts hown hE hP fl_X1_124 (9 + t2) (wPl_t (by omega)) rfl dX1_breakAt_51 ?_
        refine lv_aload_n (pc := 54) hx hb dX1_breakAt_54 rfl (lv_at hl 1 rfl) ?_
        refine fget (pc := 55) (v := .int ((c 3) t)) hx hb hts hown hE hP fl_X1_124 (9 + t) (wPl_t (by omega)) rfl dX1_breakAt_55 ?_
        refine lv_icmp_eq (pc := 58) (tgt := 63) hx hb dX1_breakAt_58 (by decide) (fun c_21 => ?_) (fun c_21 => ?_)
        · skip
          exact jn_3 (fun q => q.2 (by rw [hxa, ix_nI (by omega)]; exact c_21))
        · skip
          refine lv_iconst (pc := 61) (v := 2) hx hb dX1_breakAt_61 (by decide) ?_
          rw [hQ]; exact W.iret (pc := 62) hx hb hr (fun t9 ht _ => ⟨retI (by unfold brk; rw [hti, ix_nI (by omega), if_neg (nI_nm1 (by omega)), if_neg (fun q => q ⟨Int32.not_lt.mp c_1, c_2⟩), if_pos ⟨c_20, fun q => c_21 (by rw [hxa, ix_nI (by omega)] at q; exact q)⟩]), ht⟩) (fun _ h => nomatch h) dX1_breakAt_62 hlocks
    · skip
      refine lv_iconst (pc := 25) (v := 1) hx hb dX1_breakAt_25 (by decide) ?_
      rw [hQ]; exact W.iret (pc := 26) hx hb hr (fun t9 ht _ => ⟨retI (by unfold brk; rw [hti, ix_nI (by omega), if_neg (nI_nm1 (by omega)), if_pos (fun q => c_2 q.2)]), ht⟩) (fun _ h => nomatch h) dX1_breakAt_26 hlocks
set_option maxRecDepth 100000 in
set_option maxHeartbeats 4000000 in
theorem k_X1_seatsAt {pa : Nat → Nat} {d : Nat → Nat → Int32} {u : Nat → Int32} {x : Nat → Nat} {n : Int32} {c : Nat → Nat → Int32} (i : Nat) (t : Nat) {nn : Nat} (hn : n = nI nn) (hn5 : nn ≤ 5) (hok : okP nn (d 8)) (hi : i < 12) (hti : (d 8) i = nI t) (htn : t < nn) (hT : (d 52) t = nI (nOf (d 8) (nI t) i)) : MR l yX1_seatsAt cX1_seatsAt 6 (some .int) 2 45 D kB kI kT ks sk sv [.ref (pa 0), .int (nI i), .int (nI t)] (wPl kI kT pa d u x n c) (some (.int (sts (c 2) (c 7) (d 8) i))) := by
  refine MR.go (by decide +kernel) (Nat.le_of_ble_eq_true rfl) ?_
  intro p e s m below meth c0 args Q ls hQ hx hb hr hml hown hts hlocks hE hP hS hl
  have hl : lv_has ls 6 [(0, .ref (pa 0)), (1, .int (nI i)), (2, .int (nI t))] := hl
  have hown : s.vm.findClass RX1 = some m.cls := hown
  refine lv_aload_n (pc := 0) hx hb dX1_seatsAt_0 rfl (lv_at hl 0 rfl) ?_
  refine fget (pc := 1) (v := .ref (x 7)) hx hb hts hown hE hP fl_X1_30 0 rfl rfl dX1_seatsAt_1 ?_
  refine lv_iload_n (pc := 4) hx hb dX1_seatsAt_4 rfl (lv_at hl 2 rfl) ?_
  refine rV (pc := 5) (rest := []) ⟨hx, hb, hml, hown, hts⟩ (k_X6_at (k := t) (x := x) (n := n) (c := c) (hk5 := (by omega))) cw_X1_109 ⟨(Nat.le_of_ble_eq_true rfl), (Nat.le_of_ble_eq_true rfl)⟩ hE hS (sub_P (wc := wTs kT x n c) hP [7, 8, 9, 10, 11, 12, 13] rfl) rfl rfl rfl rfl hl.1 rfl (Nat.le_of_ble_eq_true rfl) dX1_seatsAt_5 ⟨Nat.le_refl _, Nat.le_refl _⟩ ?_
  refine W.eq (g2 := F0 m 8 ls [.ref (x (9 + t))]) rfl ?_
  refine lv_astore_n (pc := 8) (lv' := [(3, .ref (x (9 + t))), (0, .ref (pa 0)), (1, .int (nI i)), (2, .int (nI t))]) hx hb dX1_seatsAt_8 rfl hl (by decide) rfl (fun ls hl => ?_)
  refine lv_bipush (pc := 9) (v := 100) hx hb dX1_seatsAt_9 (by decide) ?_
  refine lv_aload_n (pc := 11) hx hb dX1_seatsAt_11 rfl (lv_at hl 0 rfl) ?_
  refine fget (pc := 12) (v := .int ((c 7) t)) hx hb hts hown hE hP fl_X1_136 (9 + t) (wPl_t (by omega)) rfl dX1_seatsAt_12 ?_
  refine lv_imul (pc := 15) hx hb dX1_seatsAt_15 ?_
  refine lv_istore (pc := 16) (lv' := [(4, .int (100 * ((c 7) t))), (3, .ref (x (9 + t))), (0, .ref (pa 0)), (1, .int (nI i)), (2, .int (nI t))]) hx hb dX1_seatsAt_16 hl (by decide) rfl (fun ls hl => ?_)
  refine lv_aload_n (pc := 18) hx hb dX1_seatsAt_18 rfl (lv_at hl 2 rfl) ?_
  refine fget (pc := 19) (v := .ref (pa 4)) hx hb hts hown hE hP fl_X1_21 0 rfl rfl dX1_seatsAt_19 ?_
  refine lv_iload_n (pc := 22) hx hb dX1_seatsAt_22 rfl (lv_at hl 4 rfl) ?_
  refine aldN (pc := 23) (f := d 52) hx hb hE hP 4 rfl (t) (by omega) (by omega) dX1_seatsAt_23 ?_
  refine vEq (v := nI (nOf (d 8) (nI t) i)) hT ?_
  refine lv_iconst (pc := 24) (v := 3) hx hb dX1_seatsAt_24 (by decide) ?_
  refine va_mmin (pc := 25) (x := nI (nOf (d 8) (nI t) i)) (y := 3) hx hb (hml.trans hl.1.symm) hown (hts _ cw_X1_138.1.1) (hts _ cw_X1_138.1.2.1) (hts _ cw_X1_138.1.2.2.1) (hts _ cw_X1_138.1.2.2.2) (Nat.le_of_ble_eq_true rfl) (Nat.le_of_ble_eq_true rfl) (Nat.le_refl _) (Nat.le_refl _) dX1_seatsAt_25 ?_
  refine vEq (v := nI (min (nOf (d 8) (nI t) i) 3)) (minN (by have : nOf (d 8) (nI t) i ≤ i := cntP_le _ _; omega)) ?_
  refine lv_istore (pc := 28) (lv' := [(5, .int (nI (min (nOf (d 8) (nI t) i) 3))), (4, .int (100 * ((c 7) t))), (3, .ref (x (9 + t))), (0, .ref (pa 0)), (1, .int (nI i)), (2, .int (nI t))]) hx hb dX1_seatsAt_28 hl (by decide) rfl (fun ls hl => ?_)
  have lp_1 : ∀ (fuel : Nat) (j : Nat), j < fuel → (j ≤ min (nOf (d 8) (nI t) i) 3) → ∀ (ls : Array Slot), lv_has ls 6 [(0, .ref (pa 0)), (1, .int (nI i)), (2, .int (nI t)), (3, .ref (x (9 + t))), (4, .int (fade (100 * (c 7) t) (min (nOf (d 8) (nI t) i) 3 - j))), (5, .int (nI j))] → W p l e (rmO 2 45) s m args below meth c0 s.heap [] 0 0 Q (F0 m 30 ls []) := by
    intro fuel
    induction fuel with
    | zero => intro j hfuel; exact absurd hfuel (Nat.not_lt_zero _)
    | succ fuel ih_lp_1 =>
      intro j hfuel hj ls hl
      refine lv_iload (pc := 30) hx hb dX1_seatsAt_30 (lv_at hl 5 rfl) ?_
      refine lv_if_le (pc := 32) (tgt := 51) hx hb dX1_seatsAt_32 (by decide) (fun c_2 => ?_) (fun c_2 => ?_)
      · skip
        have c_2n : j ≤ 0 := (nI_leI (a := j) (b := 0) (by omega) (by omega)).mp c_2
        have hj0 : min (nOf (d 8) (nI t) i) 3 - j = min (nOf (d 8) (nI t) i) 3 := by omega
        refine lv_aload_n (pc := 51) hx hb dX1_seatsAt_51 rfl (lv_at hl 3 rfl) ?_
        refine lv_iconst (pc := 52) (v := 1) hx hb dX1_seatsAt_52 (by decide) ?_
        refine rV (pc := 53) (rest := []) ⟨hx, hb, hml, hown, hts⟩ (k_X5_isOf (asked := 1) (ta := x (9 + t)) (f0 := (c 2) t) (f1 := (c 3) t) (f2 := (c 4) t) (f3 := (c 5) t) (f4 := (c 6) t) (f5 := (c 7) t)) cw_X1_130 ⟨(Nat.le_of_ble_eq_true rfl), (Nat.le_of_ble_eq_true rfl)⟩ hE hS (sub_P (wc := wTi (x (9 + t)) ((c 2) t) ((c 3) t) ((c 4) t) ((c 5) t) ((c 6) t) ((c 7) t)) hP [9 + t] (congrArg (fun q => [q]) (wPl_t (by omega)))) rfl rfl rfl rfl hl.1 rfl (Nat.le_of_ble_eq_true rfl) dX1_seatsAt_53 ⟨Nat.le_refl _, Nat.le_refl _⟩ ?_
        refine W.eq (g2 := F0 m 56 ls [.int (bi (isOfP ((c 2) t) 1))]) rfl ?_
        refine bif_eq (pc := 56) (tgt := 67) hx hb dX1_seatsAt_56 (by decide) (fun c_3 => ?_) (fun c_3 => ?_)
        · skip
          refine lv_aload_n (pc := 67) hx hb dX1_seatsAt_67 rfl (lv_at hl 0 rfl) ?_
          refine lv_iload_n (pc := 68) hx hb dX1_seatsAt_68 rfl (lv_at hl 1 rfl) ?_
          refine lv_iconst (pc := 69) (v := 1) hx hb dX1_seatsAt_69 (by decide) ?_
          refine lv_isub (pc := 70) hx hb dX1_seatsAt_70 ?_
          refine lv_iload_n (pc := 71) hx hb dX1_seatsAt_71 rfl (lv_at hl 2 rfl) ?_
          refine rV (pc := 72) (rest := []) ⟨hx, hb, hml, hown, hts⟩ (k_X1_isDrawnBy (x9 := (nI i) - 1) (t := t) (pa := pa) (d := d) (u := u) (x := x) (n := n) (c := c) (nn := nn) (hn := (by first | assumption | omega)) (hn5 := (by first | assumption | omega)) (hok := (by first | assumption | omega)) (ht5 := (by first | assumption | omega))) cw_X1_143 ⟨(Nat.le_of_ble_eq_true rfl), (Nat.le_of_ble_eq_true rfl)⟩ hE hS hP rfl rfl rfl rfl hl.1 rfl (Nat.le_of_ble_eq_true rfl) dX1_seatsAt_72 ⟨Nat.le_refl _, Nat.le_refl _⟩ ?_
          refine W.eq (g2 := F0 m 75 ls [.int (bi (draws (c 2) (d 8) ((nI i) - 1) (nI t)))]) rfl ?_
          refine bif_ne (pc := 75) (tgt := 89) hx hb dX1_seatsAt_75 (by decide) (fun c_4 => ?_) (fun c_4 => ?_)
          · skip
            refine lv_iinc (pc := 89) (v := (fade (100 * (c 7) t) (min (nOf (d 8) (nI t) i) 3 - j)) + 50) (lv' := [(4, .int ((fade (100 * (c 7) t) (min (nOf (d 8) (nI t) i) 3 - j)) + 50)), (0, .ref (pa 0)), (1, .int (nI i)), (2, .int (nI t)), (3, .ref (x (9 + t))), (5, .int (nI j))]) hx hb dX1_seatsAt_89 hl (k := 4) rfl rfl (by decide) rfl (fun ls hl => ?_)
            refine lv_iload (pc := 92) hx hb dX1_seatsAt_92 (lv_at hl 0 rfl) ?_
            rw [hQ]; exact W.iret (pc := 94) hx hb hr (fun t9 ht _ => ⟨retI (by unfold sts; rw [hti, ix_nI (by omega), if_neg (nI_nm1 (by omega)), if_pos (Or.inl c_4), if_neg (fun q => c_3 (isOf1.mpr q)), hj0]), ht⟩) (fun _ h => nomatch h) dX1_seatsAt_94 hlocks
          · skip
            refine lv_aload_n (pc := 78) hx hb dX1_seatsAt_78 rfl (lv_at hl 0 rfl) ?_
            refine lv_iload_n (pc := 79) hx hb dX1_seatsAt_79 rfl (lv_at hl 1 rfl) ?_
            refine lv_iconst (pc := 80) (v := 1) hx hb dX1_seatsAt_80 (by decide) ?_
            refine iaddV (pc := 81) (v := nI (i + 1)) hx hb dX1_seatsAt_81 (nI_add (i) (1)) ?_
            refine lv_iload_n (pc := 82) hx hb dX1_seatsAt_82 rfl (lv_at hl 2 rfl) ?_
            refine rV (pc := 83) (rest := []) ⟨hx, hb, hml, hown, hts⟩ (k_X1_isDrawnBy (x9 := nI (i + 1)) (t := t) (pa := pa) (d := d) (u := u) (x := x) (n := n) (c := c) (nn := nn) (hn := (by first | assumption | omega)) (hn5 := (by first | assumption | omega)) (hok := (by first | assumption | omega)) (ht5 := (by first | assumption | omega))) cw_X1_143 ⟨(Nat.le_of_ble_eq_true rfl), (Nat.le_of_ble_eq_true rfl)⟩ hE hS hP rfl rfl rfl rfl hl.1 rfl (Nat.le_of_ble_eq_true rfl) dX1_seatsAt_83 ⟨Nat.le_refl _, Nat.le_refl _⟩ ?_
            refine W.eq (g2 := F0 m 86 ls [.int (bi (draws (c 2) (d 8) (nI (i + 1)) (nI t)))]) rfl ?_
            refine bif_eq (pc := 86) (tgt := 92) hx hb dX1_seatsAt_86 (by decide) (fun c_5 => ?_) (fun c_5 => ?_)
            · skip
              refine lv_iload (pc := 92) hx hb dX1_seatsAt_92 (lv_at hl 4 rfl) ?_
              rw [hQ]; exact W.iret (pc := 94) hx hb hr (fun t9 ht _ => ⟨retI (by unfold sts; rw [hti, ix_nI (by omega), if_neg (nI_nm1 (by omega)), if_neg (fun q => q.elim c_4 c_5), if_neg (fun q => c_3 (isOf1.mpr q)), hj0]), ht⟩) (fun _ h => nomatch h) dX1_seatsAt_94 hlocks
            · skip
              refine lv_iinc (pc := 89) (v := (fade (100 * (c 7) t) (min (nOf (d 8) (nI t) i) 3 - j)) + 50) (lv' := [(4, .int ((fade (100 * (c 7) t) (min (nOf (d 8) (nI t) i) 3 - j)) + 50)), (0, .ref (pa 0)), (1, .int (nI i)), (2, .int (nI t)), (3, .ref (x (9 + t))), (5, .int (nI j))]) hx hb dX1_seatsAt_89 hl (k := 4) rfl rfl (by decide) rfl (fun ls hl => ?_)
              refine lv_iload (pc := 92) hx hb dX1_seatsAt_92 (lv_at hl 0 rfl) ?_
              rw [hQ]; exact W.iret (pc := 94) hx hb hr (fun t9 ht _ => ⟨retI (by unfold sts; rw [hti, ix_nI (by omega), if_neg (nI_nm1 (by omega)), if_pos (Or.inr c_5), if_neg (fun q => c_3 (isOf1.mpr q)), hj0]), ht⟩) (fun _ h => nomatch h) dX1_seatsAt_94 hlocks
        · skip
          refine lv_iconst (pc := 59) (v := 3) hx hb dX1_seatsAt_59 (by decide) ?_
          refine lv_iload (pc := 60) hx hb dX1_seatsAt_60 (lv_at hl 4 rfl) ?_
          refine lv_imul (pc := 62) hx hb dX1_seatsAt_62 ?_
          refine lv_iconst (pc := 63) (v := 2) hx hb dX1_seatsAt_63 (by decide) ?_
          refine lv_idiv (pc := 64) hx hb dX1_seatsAt_64 (by decide) ?_
          refine lv_istore (pc := 65) (lv' := [(4, .int ((3 * (fade (100 * (c 7) t) (min (nOf (d 8) (nI t) i) 3 - j))) / 2)), (0, .ref (pa 0)), (1, .int (nI i)), (2, .int (nI t)), (3, .ref (x (9 + t))), (5, .int (nI j))]) hx hb dX1_seatsAt_65 hl (by decide) rfl (fun ls hl => ?_)
          refine lv_aload_n (pc := 67) hx hb dX1_seatsAt_67 rfl (lv_at hl 1 rfl) ?_
          refine lv_iload_n (pc := 68) hx hb dX1_seatsAt_68 rfl (lv_at hl 2 rfl) ?_
          refine lv_iconst (pc := 69) (v := 1) hx hb dX1_seatsAt_69 (by decide) ?_
          refine lv_isub (pc := 70) hx hb dX1_seatsAt_70 ?_
          refine lv_iload_n (pc := 71) hx hb dX1_seatsAt_71 rfl (lv_at hl 3 rfl) ?_
          refine rV (pc := 72) (rest := []) ⟨hx, hb, hml, hown, hts⟩ (k_X1_isDrawnBy (x9 := (nI i) - 1) (t := t) (pa := pa) (d := d) (u := u) (x := x) (n := n) (c := c) (nn := nn) (hn := (by first | assumption | omega)) (hn5 := (by first | assumption | omega)) (hok := (by first | assumption | omega)) (ht5 := (by first | assumption | omega))) cw_X1_143 ⟨(Nat.le_of_ble_eq_true rfl), (Nat.le_of_ble_eq_true rfl)⟩ hE hS hP rfl rfl rfl rfl hl.1 rfl (Nat.le_of_ble_eq_true rfl) dX1_seatsAt_72 ⟨Nat.le_refl _, Nat.le_refl _⟩ ?_
          refine W.eq (g2 := F0 m 75 ls [.int (bi (draws (c 2) (d 8) ((nI i) - 1) (nI t)))]) rfl ?_
          refine bif_ne (pc := 75) (tgt := 89) hx hb dX1_seatsAt_75 (by decide) (fun c_6 => ?_) (fun c_6 => ?_)
          · skip
            refine lv_iinc (pc := 89) (v := ((3 * (fade (100 * (c 7) t) (min (nOf (d 8) (nI t) i) 3 - j))) / 2) + 50) (lv' := [(4, .int (((3 * (fade (100 * (c 7) t) (min (nOf (d 8) (nI t) i) 3 - j))) / 2) + 50)), (0, .ref (pa 0)), (1, .int (nI i)), (2, .int (nI t)), (3, .ref (x (9 + t))), (5, .int (nI j))]) hx hb dX1_seatsAt_89 hl (k := 0) rfl rfl (by decide) rfl (fun ls hl => ?_)
            refine lv_iload (pc := 92) hx hb dX1_seatsAt_92 (lv_at hl 0 rfl) ?_
            rw [hQ]; exact W.iret (pc := 94) hx hb hr (fun t9 ht _ => ⟨retI (by unfold sts; rw [hti, ix_nI (by omega), if_neg (nI_nm1 (by omega)), if_pos (Or.inl c_6), if_pos (isOf1.mp c_3), hj0]), ht⟩) (fun _ h => nomatch h) dX1_seatsAt_94 hlocks
          · skip
            refine lv_aload_n (pc := 78) hx hb dX1_seatsAt_78 rfl (lv_at hl 1 rfl) ?_
            refine lv_iload_n (pc := 79) hx hb dX1_seatsAt_79 rfl (lv_at hl 2 rfl) ?_
            refine lv_iconst (pc := 80) (v := 1) hx hb dX1_seatsAt_80 (by decide) ?_
            refine iaddV (pc := 81) (v := nI (i + 1)) hx hb dX1_seatsAt_81 (nI_add (i) (1)) ?_
            refine lv_iload_n (pc := 82) hx hb dX1_seatsAt_82 rfl (lv_at hl 3 rfl) ?_
            refine rV (pc := 83) (rest := []) ⟨hx, hb, hml, hown, hts⟩ (k_X1_isDrawnBy (x9 := nI (i + 1)) (t := t) (pa := pa) (d := d) (u := u) (x := x) (n := n) (c := c) (nn := nn) (hn := (by first | assumption | omega)) (hn5 := (by first | assumption | omega)) (hok := (by first | assumption | omega)) (ht5 := (by first | assumption | omega))) cw_X1_143 ⟨(Nat.le_of_ble_eq_true rfl), (Nat.le_of_ble_eq_true rfl)⟩ hE hS hP rfl rfl rfl rfl hl.1 rfl (Nat.le_of_ble_eq_true rfl) dX1_seatsAt_83 ⟨Nat.le_refl _, Nat.le_refl _⟩ ?_
            refine W.eq (g2 := F0 m 86 ls [.int (bi (draws (c 2) (d 8) (nI (i + 1)) (nI t)))]) rfl ?_
            refine bif_eq (pc := 86) (tgt := 92) hx hb dX1_seatsAt_86 (by decide) (fun c_7 => ?_) (fun c_7 => ?_)
            · skip
              refine lv_iload (pc := 92) hx hb dX1_seatsAt_92 (lv_at hl 0 rfl) ?_
              rw [hQ]; exact W.iret (pc := 94) hx hb hr (fun t9 ht _ => ⟨retI (by unfold sts; rw [hti, ix_nI (by omega), if_neg (nI_nm1 (by omega)), if_neg (fun q => q.elim c_6 c_7), if_pos (isOf1.mp c_3), hj0]), ht⟩) (fun _ h => nomatch h) dX1_seatsAt_94 hlocks
            · skip
              refine lv_iinc (pc := 89) (v := ((3 * (fade (100 * (c 7) t) (min (nOf (d 8) (nI t) i) 3 - j))) / 2) + 50) (lv' := [(4, .int (((3 * (fade (100 * (c 7) t) (min (nOf (d 8) (nI t) i) 3 - j))) / 2) + 50)), (0, .ref (pa 0)), (1, .int (nI i)), (2, .int (nI t)), (3, .ref (x (9 + t))), (5, .int (nI j))]) hx hb dX1_seatsAt_89 hl (k := 0) rfl rfl (by decide) rfl (fun ls hl => ?_)
              refine lv_iload (pc := 92) hx hb dX1_seatsAt_92 (lv_at hl 0 rfl) ?_
              rw [hQ]; exact W.iret (pc := 94) hx hb hr (fun t9 ht _ => ⟨retI (by unfold sts; rw [hti, ix_nI (by omega), if_neg (nI_nm1 (by omega)), if_pos (Or.inr c_7), if_pos (isOf1.mp c_3), hj0]), ht⟩) (fun _ h => nomatch h) dX1_seatsAt_94 hlocks
      · skip
        have c_2n : ¬ j ≤ 0 := fun hh => c_2 ((nI_leI (a := j) (b := 0) (by omega) (by omega)).mpr hh)
        refine lv_bipush (pc := 35) (v := 70) hx hb dX1_seatsAt_35 (by decide) ?_
        refine lv_iload (pc := 37) hx hb dX1_seatsAt_37 (lv_at hl 4 rfl) ?_
        refine lv_imul (pc := 39) hx hb dX1_seatsAt_39 ?_
        refine lv_bipush (pc := 40) (v := 100) hx hb dX1_seatsAt_40 (by decide) ?_
        refine lv_idiv (pc := 42) hx hb dX1_seatsAt_42 (by decide) ?_
        refine lv_istore (pc := 43) (lv' := [(4, .int ((70 * (fade (100 * (c 7) t) (min (nOf (d 8) (nI t) i) 3 - j))) / 100)), (0, .ref (pa 0)), (1, .int (nI i)), (2, .int (nI t)), (3, .ref (x (9 + t))), (5, .int (nI j))]) hx hb dX1_seatsAt_43 hl (by decide) rfl (fun ls hl => ?_)
        refine lv_iinc (pc := 45) (v := nI (j - 1)) (lv' := [(5, .int (nI (j - 1))), (4, .int ((70 * (fade (100 * (c 7) t) (min (nOf (d 8) (nI t) i) 3 - j))) / 100)), (0, .ref (pa 0)), (1, .int (nI i)), (2, .int (nI t)), (3, .ref (x (9 + t)))]) hx hb dX1_seatsAt_45 hl (k := 5) rfl (by rw [dec1]; exact pm_eq (by omega)) (by decide) rfl (fun ls hl => ?_)
        refine lv_goto (pc := 48) (tgt := 30) hx hb dX1_seatsAt_48 (by decide) ?_
        exact ih_lp_1 (j - 1) (by omega) (by omega) ls (by rw [show (fade (100 * (c 7) t) (min (nOf (d 8) (nI t) i) 3 - (j - 1)) : Int32) = (70 * (fade (100 * (c 7) t) (min (nOf (d 8) (nI t) i) 3 - j))) / 100 from (by rw [show min (nOf (d 8) (nI t) i) 3 - (j - 1) = (min (nOf (d 8) (nI t) i) 3 - j) + 1 by omega, fade, Int32.mul_comm])]; exact lv_sub hl [2, 3, 4, 5, 1, 0] rfl)
  exact lp_1 _ (min (nOf (d 8) (nI t) i) 3) (Nat.lt_succ_self _) (Nat.le_refl _) ls (by rw [show (fade (100 * (c 7) t) (min (nOf (d 8) (nI t) i) 3 - (min (nOf (d 8) (nI t) i) 3)) : Int32) = 100 * ((c 7) t) from (by rw [Nat.sub_self]; rfl)]; exact lv_sub hl [3, 4, 5, 2, 1, 0] rfl)
end
