section
variable {l : Launch} {D : va_G} {kB kI kT : ClassId} {ks sk sv : Nat}
set_option maxRecDepth 100000 in
set_option maxHeartbeats 4000000 in
theorem k_X7_best_s {b : Nat → Nat} {g : Nat → Int32} {cd : Nat → Int32} {so : Nat → Int32} {sq : Nat → Int32} {q : Nat → Int32} {x : Nat → Nat} {c : Nat → Nat → Int32} {v : Nat → Int32} {y : Nat → Nat} {c2 : Nat → Nat → Int32} {v2 : Nat → Int32} {pa : Nat → Nat} {d : Nat → Nat → Int32} {u : Nat → Int32} (fx : Int32) (tx : Int32) (what : Int32) {nn : Nat} {sn : Nat} {pn : Nat} {h9 : Nat} {bt : Nat} {N9 : Nat} {z : Nat → Int32} {gg : Nat → Int64} {r : Nat → Nat → Int32} (hI : Inv nn sn pn h9 bt N9 g cd c v c2 v2 z r) (hN1 : N9 + 1 < 100000) : MX l yX7_best cX7_best 4 (some .int) 5 117 D kB kI kT ks sk sv [.ref (b 30), .int fx, .int tx, .int what] (wC kI kT b g cd so sq q x c v y c2 v2 pa d u) (fun w w1 => SimP kI kT b x y pa (N9 + 1) (R_best z gg r nn fx tx what) w w1) := by
  refine MX.go (by decide +kernel) (Nat.le_of_ble_eq_true rfl) ?_
  intro p e s m below meth c0 args Q ls A hQ hx hb hr hml hown hts hlocks hE hP hD hS hl
  have hl : lv_has ls 4 [(0, .ref (b 30)), (1, .int fx), (2, .int tx), (3, .int what)] := hl
  have hown : s.vm.findClass RX7 = some m.cls := hown
  obtain ⟨hTi, hWg, hSeI, hPgI, hCt, hKp⟩ := hI
  have ⟨hv1, hz1, hn5, e2, e3, e4, e5, e6, e7, e8, hok, hC, hF⟩ := hTi
  have ⟨w50, w51, w52, w53, w57, w58, w59⟩ := hWg
  have ⟨hv10, hz10, hsn, hSe⟩ := hSeI
  have ⟨hg14, hz14, hpn, hPg⟩ := hPgI
  have ⟨hg0, hz0, hhN, hN, hg9, hz9, hbt⟩ := hCt
  have hcd : ∀ k, k < pn → inR (cd k) 32 126 := fun k hk => (hPg k hk).2
  refine lv_aload_n (pc := 0) hx hb dX7_best_0 rfl (lv_at hl 0 rfl) ?_
  refine rV (pc := 1) (rest := []) ⟨hx, hb, hml, hown, hts⟩ (k_X7_hasHouse (b := b) (g := g) (cd := cd) (so := so) (sq := sq) (q := q) (x := x) (c := c) (v := v) (y := y) (c2 := c2) (v2 := v2) (pa := pa) (d := d) (u := u) (nn := nn) (hv1 := hv1) (hn5 := hn5)) cw_X7_93 ⟨(Nat.le_of_ble_eq_true rfl), (Nat.le_of_ble_eq_true rfl)⟩ hE hS hP rfl rfl rfl rfl hl.1 rfl (Nat.le_of_ble_eq_true rfl) dX7_best_1 ⟨Nat.le_refl _, Nat.le_refl _⟩ ?_
  refine W.eq (g2 := F0 m 4 ls [.int (bi (0 < nn))]) rfl ?_
  refine bif_eq (pc := 4) (tgt := 15) hx hb dX7_best_4 (by decide) (fun c_1 => ?_) (fun c_1 => ?_)
  · skip
    refine lv_bipush (pc := 15) (v := (-101)) hx hb dX7_best_15 (by decide) ?_
    have hR : R_best z gg r nn fx tx what = ((-101), z, gg, r) := by rw [R_best, if_neg (fun q9 => q9.2.2 (by omega))]
    rw [hQ]; exact W.iret (pc := 17) hx hb hr (fun t9 ht _ => ⟨⟨_, (wC kI kT b g cd so sq q x c v y c2 v2 pa d u), rfl, by rw [ht]; exact hP, ⟨nn, sn, pn, h9, bt, g, cd, so, sq, q, c, v, c2, v2, d, u, by rw [hR], rfl, by rw [hR]; exact ⟨hTi, hWg, hSeI, hPgI, ct_w hCt hN1, hKp⟩⟩, rfl⟩, hS.F ht⟩) hS.2.2 dX7_best_17 hlocks
  · skip
    refine lv_iload_n (pc := 7) hx hb dX7_best_7 rfl (lv_at hl 1 rfl) ?_
    refine lv_iload_n (pc := 8) hx hb dX7_best_8 rfl (lv_at hl 2 rfl) ?_
    refine rS (pc := 9) (rest := []) ⟨hx, hb, hml, hown, hts⟩ (k_X7_isSpan (f := fx) (t := tx)) cw_X7_146 ⟨(Nat.le_of_ble_eq_true rfl), (Nat.le_of_ble_eq_true rfl)⟩ hE hS wc0 rfl hl.1 rfl (Nat.le_of_ble_eq_true rfl) dX7_best_9 ⟨Nat.le_refl _, Nat.le_refl _⟩ ?_
    refine W.eq (g2 := F0 m 12 ls [.int (bi (inR fx 0 11 ∧ inR tx 0 11 ∧ ¬ tx < fx))]) rfl ?_
    refine bif_ne (pc := 12) (tgt := 18) hx hb dX7_best_12 (by decide) (fun c_2 => ?_) (fun c_2 => ?_)
    · skip
      refine lv_iload_n (pc := 18) hx hb dX7_best_18 rfl (lv_at hl 3 rfl) ?_
      refine lv_if_lt (pc := 19) (tgt := 27) hx hb dX7_best_19 (by decide) (fun c_3 => ?_) (fun c_3 => ?_)
      · skip
        refine lv_bipush (pc := 27) (v := (-102)) hx hb dX7_best_27 (by decide) ?_
        have hR : R_best z gg r nn fx tx what = ((-102), z, gg, r) := by rw [R_best, if_pos ⟨c_2.1, ⟨Int32.not_lt.mp c_2.2.2, c_2.2.1.2⟩, by omega⟩, if_neg (fun q => absurd c_3 (Int32.not_lt.mpr q.1))]
        rw [hQ]; exact W.iret (pc := 29) hx hb hr (fun t9 ht _ => ⟨⟨_, (wC kI kT b g cd so sq q x c v y c2 v2 pa d u), rfl, by rw [ht]; exact hP, ⟨nn, sn, pn, h9, bt, g, cd, so, sq, q, c, v, c2, v2, d, u, by rw [hR], rfl, by rw [hR]; exact ⟨hTi, hWg, hSeI, hPgI, ct_w hCt hN1, hKp⟩⟩, rfl⟩, hS.F ht⟩) hS.2.2 dX7_best_29 hlocks
      · skip
        refine lv_iload_n (pc := 22) hx hb dX7_best_22 rfl (lv_at hl 3 rfl) ?_
        refine lv_iconst (pc := 23) (v := 3) hx hb dX7_best_23 (by decide) ?_
        refine lv_icmp_lt (pc := 24) (tgt := 30) hx hb dX7_best_24 (by decide) (fun c_4 => ?_) (fun c_4 => ?_)
        · skip
          obtain ⟨i, hi, hxi⟩ := inR_nat c_2.1
          obtain ⟨j, hij, hj, hxj⟩ := inR_nat2 (x := tx) hi (by rw [← hxi]; exact ⟨Int32.not_lt.mp c_2.2.2, c_2.2.1.2⟩)
          refine lv_aload_n (pc := 30) hx hb dX7_best_30 rfl (lv_at hl 0 rfl) ?_
          refine fget (pc := 31) (v := .int (g 9)) hx hb hts hown hE hP fl_X7_159 0 rfl rfl dX7_best_31 ?_
          refine vEq (v := nI bt) hg9 ?_
          refine lv_bipush (pc := 34) (v := 8) hx hb dX7_best_34 (by decide) ?_
          refine lv_icmp_ge (pc := 36) (tgt := 55) hx hb dX7_best_36 (by decide) (fun c_5 => ?_) (fun c_5 => ?_)
          · skip
            have c_5n : 8 ≤ bt := (nI_leI (a := 8) (b := bt) (by omega) (by omega)).mp c_5
            refine lv_bipush (pc := 55) (v := (-103)) hx hb dX7_best_55 (by decide) ?_
            have hR : R_best z gg r nn fx tx what = ((-103), z, gg, r) := by rw [R_best, if_pos ⟨c_2.1, ⟨Int32.not_lt.mp c_2.2.2, c_2.2.1.2⟩, by omega⟩, if_pos ⟨Int32.not_lt.mp c_3, lt_leN 2 (by omega) c_4⟩, hxi, hxj, ix_nI (j := i) (by omega), ix_nI (j := j) (by omega), if_pos (Or.inr (by rw [hz9, show bt = 8 by omega]; rfl))]
            rw [hQ]; exact W.iret (pc := 57) hx hb hr (fun t9 ht _ => ⟨⟨_, (wC kI kT b g cd so sq q x c v y c2 v2 pa d u), rfl, by rw [ht]; exact hP, ⟨nn, sn, pn, h9, bt, g, cd, so, sq, q, c, v, c2, v2, d, u, by rw [hR], rfl, by rw [hR]; exact ⟨hTi, hWg, hSeI, hPgI, ct_w hCt hN1, hKp⟩⟩, rfl⟩, hS.F ht⟩) hS.2.2 dX7_best_57 hlocks
          · skip
            have c_5n : ¬ 8 ≤ bt := fun hh => c_5 ((nI_leI (a := 8) (b := bt) (by omega) (by omega)).mpr hh)
            refine lv_aload_n (pc := 39) hx hb dX7_best_39 rfl (lv_at hl 0 rfl) ?_
            refine fget (pc := 40) (v := .ref (x 14)) hx hb hts hown hE hP fl_X7_19 0 rfl rfl dX7_best_40 ?_
            refine fget (pc := 43) (v := .ref (x 0)) hx hb hts hown hE hP fl_X7_70 6 rfl rfl dX7_best_43 ?_
            refine lv_iload_n (pc := 46) hx hb dX7_best_46 rfl (lv_at hl 1 rfl) ?_
            refine vEq (v := nI i) hxi ?_
            refine lv_iload_n (pc := 47) hx hb dX7_best_47 rfl (lv_at hl 2 rfl) ?_
            refine vEq (v := nI j) hxj ?_
            refine rV (pc := 48) (rest := []) ⟨hx, hb, hml, hown, hts⟩ (k_X1_darkWithin (f := i) (t := j) (pa := x) (d := c) (u := v) (x := x) (n := v 1) (c := c) (nn := nn) (hn := hv1) (hn5 := hn5) (hok := hok) (hft := hij) (ht := hj)) cw_X7_162 ⟨(Nat.le_of_ble_eq_true rfl), (Nat.le_of_ble_eq_true rfl)⟩ hE hS (sub_P (wc := wPl kI kT x c v x (v 1) c) hP [7, 8, 9, 10, 11, 12, 13, 14, 15, 16, 17, 18, 19, 20] rfl) rfl rfl rfl rfl hl.1 rfl (Nat.le_of_ble_eq_true rfl) dX7_best_48 ⟨Nat.le_refl _, Nat.le_refl _⟩ ?_
            refine W.eq (g2 := F0 m 51 ls [.int (nI (dkN (c 8) i (j + 1 - i)))]) rfl ?_
            have hdk12 : dkN (c 8) i (j + 1 - i) ≤ j + 1 - i := cntP_le _ _
            refine lv_iconst (pc := 51) (v := 4) hx hb dX7_best_51 (by decide) ?_
            refine lv_icmp_le (pc := 52) (tgt := 58) hx hb dX7_best_52 (by decide) (fun c_6 => ?_) (fun c_6 => ?_)
            · skip
              have c_6n : (dkN (c 8) i (j + 1 - i)) ≤ 4 := (nI_leI (a := dkN (c 8) i (j + 1 - i)) (b := 4) (by omega) (by omega)).mp c_6
              refine lv_aload_n (pc := 58) hx hb dX7_best_58 rfl (lv_at hl 0 rfl) ?_
              refine lv_dup (pc := 59) hx hb dX7_best_59 rfl ?_
              refine fget (pc := 60) (v := .int (g 9)) hx hb hts hown hE hP fl_X7_159 0 rfl rfl dX7_best_60 ?_
              refine vEq (v := nI bt) hg9 ?_
              refine lv_iconst (pc := 63) (v := 1) hx hb dX7_best_63 (by decide) ?_
              refine iaddV (pc := 64) (v := nI (bt + 1)) hx hb dX7_best_64 (nI_add (bt) (1)) ?_
              refine fput (pc := 65) (v := .int (nI (bt + 1))) hx hb hts hown hE hP hD hS fp_X7_159 0 rfl rfl rfl (Nat.le_of_ble_eq_true rfl) dX7_best_65 (fun H locs hP hD hS => ?_)
              have hP : va_P D vwCl (wC kI kT b (va_up g 9 (nI (bt + 1))) cd so sq q x c v y c2 v2 pa d u) H := hP
              have hD : va_D A (wC kI kT b (va_up g 9 (nI (bt + 1))) cd so sq q x c v y c2 v2 pa d u) := hD
              refine lv_aload_n (pc := 68) hx hb dX7_best_68 rfl (lv_at hl 0 rfl) ?_
              refine fget (pc := 69) (v := .ref (b 33)) hx hb hts hown hE hP fl_X7_44 0 rfl rfl dX7_best_69 ?_
              refine lv_aload_n (pc := 72) hx hb dX7_best_72 rfl (lv_at hl 0 rfl) ?_
              refine fget (pc := 73) (v := .ref (x 14)) hx hb hts hown hE hP fl_X7_19 0 rfl rfl dX7_best_73 ?_
              refine fget (pc := 76) (v := .ref (x 0)) hx hb hts hown hE hP fl_X7_70 6 rfl rfl dX7_best_76 ?_
              refine lv_iload_n (pc := 79) hx hb dX7_best_79 rfl (lv_at hl 1 rfl) ?_
              refine vEq (v := nI i) hxi ?_
              refine lv_iload_n (pc := 80) hx hb dX7_best_80 rfl (lv_at hl 2 rfl) ?_
              refine vEq (v := nI j) hxj ?_
              refine wX (pc := 81) (rest := []) ⟨hx, hb, hml, hown, hts⟩ (k_X2_seek (f := i) (t := j) (b := b) (so := so) (sn := sq) (q := q) (pa := pa) (d := d) (u := u) (x := x) (n := v 1) (c := c) (p2 := x) (d2 := c) (u2 := v) (nn := nn) (hn := hv1) (hn5 := hn5) (hok := hok) (hC := hC) (hft := hij) (ht := hj) (hd4 := c_6n)) cw_X7_165 ⟨(Nat.le_of_ble_eq_true rfl), (Nat.le_of_ble_eq_true rfl)⟩ hE hP hD hS [3, 4, 5, 42, 43, 44, 45, 46, 47, 48, 14, 15, 16, 17, 18, 19, 20, 7, 8, 9, 10, 11, 12, 13] (by decide) rfl rfl rfl rfl rfl hl.1 rfl (Nat.le_of_ble_eq_true rfl) dX7_best_81 ⟨Nat.le_refl _, Nat.le_refl _⟩ (fun w9x w1x H locs hpx hP hD hS => ?_)
              obtain ⟨hw9, ds9, us9, bw, ql, qe, hw1, hbw, hbz⟩ := hpx
              subst hw9
              rw [hw1, sp_CSk] at hP hD
              obtain ⟨so9, sq9, q9, hsq, hP, hD⟩ : ∃ (so9 sq9 : Nat → Int32) (q9 : Int32), sq9 = ovN sq (fbR (dkA (c 8) i so (j + 1 - i)) nn (dkN (c 8) i (j + 1 - i)) (ovN (d 8) (c 8) 12) bw) 12 ∧ va_P D vwCl (wC kI kT b (va_up g 9 (nI (bt + 1))) cd so9 sq9 (va_up (va_up (va_up q 20 q9) 23 ql) 24 qe) x c v y c2 v2 pa ds9 us9) H ∧ va_D A (wC kI kT b (va_up g 9 (nI (bt + 1))) cd so9 sq9 (va_up (va_up (va_up q 20 q9) 23 ql) 24 qe) x c v y c2 v2 pa ds9 us9) := ⟨dkA (c 8) i so (j + 1 - i), _, nI (dkN (c 8) i (j + 1 - i)), rfl, hP, hD⟩
              have hO : bstOf z r nn i j = (nI bw, ql, qe) := (bst_cg e2 e3 e4 e5 e6 e7 e8 (fun j9 hj9 => ovN_in hj9)).symm.trans (hbz z)
              have hbw2 : bw < 100000 := by have h9 := ways_le (n := nn) (dk := dkN (c 8) i (j + 1 - i)) hn5 c_6n; omega
              refine W.eq (g2 := F0 m 84 ls []) rfl ?_
              refine lv_iload_n (pc := 84) hx hb dX7_best_84 rfl (lv_at hl 3 rfl) ?_
              refine lv_if_ne (pc := 85) (tgt := 96) hx hb dX7_best_85 (by decide) (fun c_7 => ?_) (fun c_7 => ?_)
              · skip
                refine lv_iload_n (pc := 96) hx hb dX7_best_96 rfl (lv_at hl 3 rfl) ?_
                refine lv_iconst (pc := 97) (v := 1) hx hb dX7_best_97 (by decide) ?_
                refine lv_icmp_ne (pc := 98) (tgt := 109) hx hb dX7_best_98 (by decide) (fun c_8 => ?_) (fun c_8 => ?_)
                · skip
                  have hw2 : what = 2 := is_2 c_3 c_4 c_7 c_8
                  have hpl2 : ovN (c 8) sq9 12 = bstPl z r nn i j what := by rw [hsq]; exact bp_yes hij hj hw2 e8 hO hbw2
                  have hok9 : okP nn (ovN (c 8) sq9 12) := by rw [hpl2]; exact okP_fbR _ _ (e8 ▸ hok)
                  refine lv_aload_n (pc := 109) hx hb dX7_best_109 rfl (lv_at hl 0 rfl) ?_
                  refine fget (pc := 110) (v := .ref (x 14)) hx hb hts hown hE hP fl_X7_19 0 rfl rfl dX7_best_110 ?_
                  refine fget (pc := 113) (v := .ref (x 0)) hx hb hts hown hE hP fl_X7_70 6 rfl rfl dX7_best_113 ?_
                  refine lv_aload_n (pc := 116) hx hb dX7_best_116 rfl (lv_at hl 0 rfl) ?_
                  refine fget (pc := 117) (v := .ref (b 33)) hx hb hts hown hE hP fl_X7_44 0 rfl rfl dX7_best_117 ?_
                  refine fget (pc := 120) (v := .ref (b 35)) hx hb hts hown hE hP fl_X7_175 3 rfl rfl dX7_best_120 ?_
                  refine wV (pc := 123) (rest := []) ⟨hx, hb, hml, hown, hts⟩ (k_X1_take (pa := x) (d := c) (u := v) (x := x) (n := v 1) (c := c) (oa := b 35) (of := sq9) (nn := nn) (hn := hv1) (hn5 := hn5) (hok := hok9) (hC := hC)) cw_X7_176 ⟨(Nat.le_of_ble_eq_true rfl), (Nat.le_of_ble_eq_true rfl)⟩ hE hP hD hS [7, 8, 9, 10, 11, 12, 13, 14, 15, 16, 17, 18, 19, 20, 5] (by decide) rfl rfl rfl rfl rfl rfl hl.1 rfl (Nat.le_of_ble_eq_true rfl) dX7_best_123 ⟨Nat.le_refl _, Nat.le_refl _⟩ (fun H locs hP hD hS => ?_)
                  rw [sp_CPo] at hP hD
                  have hP : va_P D vwCl (wC kI kT b (va_up g 9 (nI (bt + 1))) cd so9 sq9 (va_up (va_up (va_up q 20 q9) 23 ql) 24 qe) x (va_up (va_up (va_up (va_up (va_up (va_up c 8 (ovN (c 8) sq9 12)) 50 (ovN (c 50) (brk (c 2) (c 3) (c 4) (c 5) (c 6) (ovN (c 8) sq9 12)) 12)) 51 (ovN (c 51) (sts (c 2) (c 7) (ovN (c 8) sq9 12)) 12)) 52 (ovN (c 52) (fun t => nI (nOf (ovN (c 8) sq9 12) (nI t) 12)) 5)) 53 (ovN (c 53) (fun t => sumI (fun j => if (ovN (c 8) sq9 12) j = nI t ∧ brk (c 2) (c 3) (c 4) (c 5) (c 6) (ovN (c 8) sq9 12) j = 0 then sts (c 2) (c 7) (ovN (c 8) sq9 12) j else 0) 12) 5)) 54 (lstC (c 4) (ovN (c 8) sq9 12) (ovN (c 54) (fun _ => -1) 5) 12)) (va_up (va_up (va_up v 57 (nI (cntP (fun j => 0 < brk (c 2) (c 3) (c 4) (c 5) (c 6) (ovN (c 8) sq9 12) j) 12))) 58 (nI (cntP (fun j => (ovN (c 8) sq9 12) j = -1 ∨ 0 < brk (c 2) (c 3) (c 4) (c 5) (c 6) (ovN (c 8) sq9 12) j) 12))) 59 (sumI (fun j => if brk (c 2) (c 3) (c 4) (c 5) (c 6) (ovN (c 8) sq9 12) j = 0 then sts (c 2) (c 7) (ovN (c 8) sq9 12) j else 0) 12)) y c2 v2 pa ds9 us9) H := hP
                  have hD : va_D A (wC kI kT b (va_up g 9 (nI (bt + 1))) cd so9 sq9 (va_up (va_up (va_up q 20 q9) 23 ql) 24 qe) x (va_up (va_up (va_up (va_up (va_up (va_up c 8 (ovN (c 8) sq9 12)) 50 (ovN (c 50) (brk (c 2) (c 3) (c 4) (c 5) (c 6) (ovN (c 8) sq9 12)) 12)) 51 (ovN (c 51) (sts (c 2) (c 7) (ovN (c 8) sq9 12)) 12)) 52 (ovN (c 52) (fun t => nI (nOf (ovN (c 8) sq9 12) (nI t) 12)) 5)) 53 (ovN (c 53) (fun t => sumI (fun j => if (ovN (c 8) sq9 12) j = nI t ∧ brk (c 2) (c 3) (c 4) (c 5) (c 6) (ovN (c 8) sq9 12) j = 0 then sts (c 2) (c 7) (ovN (c 8) sq9 12) j else 0) 12) 5)) 54 (lstC (c 4) (ovN (c 8) sq9 12) (ovN (c 54) (fun _ => -1) 5) 12)) (va_up (va_up (va_up v 57 (nI (cntP (fun j => 0 < brk (c 2) (c 3) (c 4) (c 5) (c 6) (ovN (c 8) sq9 12) j) 12))) 58 (nI (cntP (fun j => (ovN (c 8) sq9 12) j = -1 ∨ 0 < brk (c 2) (c 3) (c 4) (c 5) (c 6) (ovN (c 8) sq9 12) j) 12))) 59 (sumI (fun j => if brk (c 2) (c 3) (c 4) (c 5) (c 6) (ovN (c 8) sq9 12) j = 0 then sts (c 2) (c 7) (ovN (c 8) sq9 12) j else 0) 12)) y c2 v2 pa ds9 us9) := hD
                  refine W.eq (g2 := F0 m 126 ls []) rfl ?_
                  refine lv_aload_n (pc := 126) hx hb dX7_best_126 rfl (lv_at hl 0 rfl) ?_
                  refine fget (pc := 127) (v := .ref (x 14)) hx hb hts hown hE hP fl_X7_19 0 rfl rfl dX7_best_127 ?_
                  refine fget (pc := 130) (v := .ref (x 0)) hx hb hts hown hE hP fl_X7_70 6 rfl rfl dX7_best_130 ?_
                  refine rV (pc := 133) (rest := []) ⟨hx, hb, hml, hown, hts⟩ (k_X1_lit (pa := x) (d := (va_up (va_up (va_up (va_up (va_up (va_up c 8 (ovN (c 8) sq9 12)) 50 (ovN (c 50) (brk (c 2) (c 3) (c 4) (c 5) (c 6) (ovN (c 8) sq9 12)) 12)) 51 (ovN (c 51) (sts (c 2) (c 7) (ovN (c 8) sq9 12)) 12)) 52 (ovN (c 52) (fun t => nI (nOf (ovN (c 8) sq9 12) (nI t) 12)) 5)) 53 (ovN (c 53) (fun t => sumI (fun j => if (ovN (c 8) sq9 12) j = nI t ∧ brk (c 2) (c 3) (c 4) (c 5) (c 6) (ovN (c 8) sq9 12) j = 0 then sts (c 2) (c 7) (ovN (c 8) sq9 12) j else 0) 12) 5)) 54 (lstC (c 4) (ovN (c 8) sq9 12) (ovN (c 54) (fun _ => -1) 5) 12))) (u := (va_up (va_up (va_up v 57 (nI (cntP (fun j => 0 < brk (c 2) (c 3) (c 4) (c 5) (c 6) (ovN (c 8) sq9 12) j) 12))) 58 (nI (cntP (fun j => (ovN (c 8) sq9 12) j = -1 ∨ 0 < brk (c 2) (c 3) (c 4) (c 5) (c 6) (ovN (c 8) sq9 12) j) 12))) 59 (sumI (fun j => if brk (c 2) (c 3) (c 4) (c 5) (c 6) (ovN (c 8) sq9 12) j = 0 then sts (c 2) (c 7) (ovN (c 8) sq9 12) j else 0) 12))) (x := x) (n := v 1) (c := (va_up (va_up (va_up (va_up (va_up (va_up c 8 (ovN (c 8) sq9 12)) 50 (ovN (c 50) (brk (c 2) (c 3) (c 4) (c 5) (c 6) (ovN (c 8) sq9 12)) 12)) 51 (ovN (c 51) (sts (c 2) (c 7) (ovN (c 8) sq9 12)) 12)) 52 (ovN (c 52) (fun t => nI (nOf (ovN (c 8) sq9 12) (nI t) 12)) 5)) 53 (ovN (c 53) (fun t => sumI (fun j => if (ovN (c 8) sq9 12) j = nI t ∧ brk (c 2) (c 3) (c 4) (c 5) (c 6) (ovN (c 8) sq9 12) j = 0 then sts (c 2) (c 7) (ovN (c 8) sq9 12) j else 0) 12) 5)) 54 (lstC (c 4) (ovN (c 8) sq9 12) (ovN (c 54) (fun _ => -1) 5) 12))) (nn := nn) (hn := hv1) (hn5 := hn5) (hok := hok9)) cw_X7_101 ⟨(Nat.le_of_ble_eq_true rfl), (Nat.le_of_ble_eq_true rfl)⟩ hE hS (sub_P (wc := wPl kI kT x (va_up (va_up (va_up (va_up (va_up (va_up c 8 (ovN (c 8) sq9 12)) 50 (ovN (c 50) (brk (c 2) (c 3) (c 4) (c 5) (c 6) (ovN (c 8) sq9 12)) 12)) 51 (ovN (c 51) (sts (c 2) (c 7) (ovN (c 8) sq9 12)) 12)) 52 (ovN (c 52) (fun t => nI (nOf (ovN (c 8) sq9 12) (nI t) 12)) 5)) 53 (ovN (c 53) (fun t => sumI (fun j => if (ovN (c 8) sq9 12) j = nI t ∧ brk (c 2) (c 3) (c 4) (c 5) (c 6) (ovN (c 8) sq9 12) j = 0 then sts (c 2) (c 7) (ovN (c 8) sq9 12) j else 0) 12) 5)) 54 (lstC (c 4) (ovN (c 8) sq9 12) (ovN (c 54) (fun _ => -1) 5) 12)) (va_up (va_up (va_up v 57 (nI (cntP (fun j => 0 < brk (c 2) (c 3) (c 4) (c 5) (c 6) (ovN (c 8) sq9 12) j) 12))) 58 (nI (cntP (fun j => (ovN (c 8) sq9 12) j = -1 ∨ 0 < brk (c 2) (c 3) (c 4) (c 5) (c 6) (ovN (c 8) sq9 12) j) 12))) 59 (sumI (fun j => if brk (c 2) (c 3) (c 4) (c 5) (c 6) (ovN (c 8) sq9 12) j = 0 then sts (c 2) (c 7) (ovN (c 8) sq9 12) j else 0) 12)) x (v 1) (va_up (va_up (va_up (va_up (va_up (va_up c 8 (ovN (c 8) sq9 12)) 50 (ovN (c 50) (brk (c 2) (c 3) (c 4) (c 5) (c 6) (ovN (c 8) sq9 12)) 12)) 51 (ovN (c 51) (sts (c 2) (c 7) (ovN (c 8) sq9 12)) 12)) 52 (ovN (c 52) (fun t => nI (nOf (ovN (c 8) sq9 12) (nI t) 12)) 5)) 53 (ovN (c 53) (fun t => sumI (fun j => if (ovN (c 8) sq9 12) j = nI t ∧ brk (c 2) (c 3) (c 4) (c 5) (c 6) (ovN (c 8) sq9 12) j = 0 then sts (c 2) (c 7) (ovN (c 8) sq9 12) j else 0) 12) 5)) 54 (lstC (c 4) (ovN (c 8) sq9 12) (ovN (c 54) (fun _ => -1) 5) 12))) hP [7, 8, 9, 10, 11, 12, 13, 14, 15, 16, 17, 18, 19, 20] rfl) rfl rfl rfl rfl hl.1 rfl (Nat.le_of_ble_eq_true rfl) dX7_best_133 ⟨Nat.le_refl _, Nat.le_refl _⟩ ?_
                  refine W.eq (g2 := F0 m 136 ls [.int (12 - nI (dkN ((ovN (c 8) sq9 12)) 0 12))]) rfl ?_
                  have hC3 : ¬ (4 < dkOf r i j ∨ z 9 = 8) := by
                                                                                rintro (q9 | q9)
                                                                                · have e9 : dkOf r i j = dkN (c 8) i (j + 1 - i) := by rw [e8]; rfl
                                                                                  omega
                                                                                · rw [hz9] at q9
                                                                                  have e9 := (nI_eq (a := bt) (b := 8) (by omega) (by omega)).mp q9
                                                                                  omega
                  have hR : R_best z gg r nn fx tx what = (12 - nI (dkN ((ovN (c 8) sq9 12)) 0 12), va_up (va_up (va_up (va_up (va_up z 9 (z 9 + 1)) 20 (nI (dkOf r i j))) 22 (bstOf z r nn i j).1) 23 (bstOf z r nn i j).2.1) 24 (bstOf z r nn i j).2.2, gg, va_up (va_up r 8 (bstPl z r nn i j what)) 21 (layR r i j 21)) := by rw [R_best, if_pos ⟨c_2.1, ⟨Int32.not_lt.mp c_2.2.2, c_2.2.1.2⟩, by omega⟩, if_pos ⟨Int32.not_lt.mp c_3, lt_leN 2 (by omega) c_4⟩, hxi, hxj, ix_nI (j := i) (by omega), ix_nI (j := j) (by omega), if_neg hC3, R_bestNow, if_neg c_7, if_neg c_8]; exact congrArg (fun a9 => (a9, va_up (va_up (va_up (va_up (va_up z 9 (z 9 + 1)) 20 (nI (dkOf r i j))) 22 (bstOf z r nn i j).1) 23 (bstOf z r nn i j).2.1) 24 (bstOf z r nn i j).2.2, gg, va_up (va_up r 8 (bstPl z r nn i j what)) 21 (layR r i j 21))) (by rw [← hpl2]; exact lit_eq.symm)
                  rw [hQ]; exact W.iret (pc := 136) hx hb hr (fun t9 ht _ => ⟨⟨_, (wC kI kT b (va_up g 9 (nI (bt + 1))) cd so9 sq9 (va_up (va_up (va_up q 20 q9) 23 ql) 24 qe) x (va_up (va_up (va_up (va_up (va_up (va_up c 8 (ovN (c 8) sq9 12)) 50 (ovN (c 50) (brk (c 2) (c 3) (c 4) (c 5) (c 6) (ovN (c 8) sq9 12)) 12)) 51 (ovN (c 51) (sts (c 2) (c 7) (ovN (c 8) sq9 12)) 12)) 52 (ovN (c 52) (fun t => nI (nOf (ovN (c 8) sq9 12) (nI t) 12)) 5)) 53 (ovN (c 53) (fun t => sumI (fun j => if (ovN (c 8) sq9 12) j = nI t ∧ brk (c 2) (c 3) (c 4) (c 5) (c 6) (ovN (c 8) sq9 12) j = 0 then sts (c 2) (c 7) (ovN (c 8) sq9 12) j else 0) 12) 5)) 54 (lstC (c 4) (ovN (c 8) sq9 12) (ovN (c 54) (fun _ => -1) 5) 12)) (va_up (va_up (va_up v 57 (nI (cntP (fun j => 0 < brk (c 2) (c 3) (c 4) (c 5) (c 6) (ovN (c 8) sq9 12) j) 12))) 58 (nI (cntP (fun j => (ovN (c 8) sq9 12) j = -1 ∨ 0 < brk (c 2) (c 3) (c 4) (c 5) (c 6) (ovN (c 8) sq9 12) j) 12))) 59 (sumI (fun j => if brk (c 2) (c 3) (c 4) (c 5) (c 6) (ovN (c 8) sq9 12) j = 0 then sts (c 2) (c 7) (ovN (c 8) sq9 12) j else 0) 12)) y c2 v2 pa ds9 us9), rfl, by rw [ht]; exact hP, ⟨nn, sn, pn, h9, bt + 1, (va_up g 9 (nI (bt + 1))), cd, so9, sq9, (va_up (va_up (va_up q 20 q9) 23 ql) 24 qe), (va_up (va_up (va_up (va_up (va_up (va_up c 8 (ovN (c 8) sq9 12)) 50 (ovN (c 50) (brk (c 2) (c 3) (c 4) (c 5) (c 6) (ovN (c 8) sq9 12)) 12)) 51 (ovN (c 51) (sts (c 2) (c 7) (ovN (c 8) sq9 12)) 12)) 52 (ovN (c 52) (fun t => nI (nOf (ovN (c 8) sq9 12) (nI t) 12)) 5)) 53 (ovN (c 53) (fun t => sumI (fun j => if (ovN (c 8) sq9 12) j = nI t ∧ brk (c 2) (c 3) (c 4) (c 5) (c 6) (ovN (c 8) sq9 12) j = 0 then sts (c 2) (c 7) (ovN (c 8) sq9 12) j else 0) 12) 5)) 54 (lstC (c 4) (ovN (c 8) sq9 12) (ovN (c 54) (fun _ => -1) 5) 12)), (va_up (va_up (va_up v 57 (nI (cntP (fun j => 0 < brk (c 2) (c 3) (c 4) (c 5) (c 6) (ovN (c 8) sq9 12) j) 12))) 58 (nI (cntP (fun j => (ovN (c 8) sq9 12) j = -1 ∨ 0 < brk (c 2) (c 3) (c 4) (c 5) (c 6) (ovN (c 8) sq9 12) j) 12))) 59 (sumI (fun j => if brk (c 2) (c 3) (c 4) (c 5) (c 6) (ovN (c 8) sq9 12) j = 0 then sts (c 2) (c 7) (ovN (c 8) sq9 12) j else 0) 12)), c2, v2, ds9, us9, by rw [hR], rfl, by rw [hR]; exact ⟨⟨hv1, hz1, hn5, e2, e3, e4, e5, e6, e7, hpl2, hok9, hC, hF⟩, wg_new, hSeI, hPgI, ⟨hg0, hz0, by omega, hN1, rfl, by show z 9 + 1 = nI (bt + 1); rw [hz9, nI_1], by omega⟩, hKp⟩⟩, rfl⟩, hS.F ht⟩) hS.2.2 dX7_best_136 hlocks
                · skip
                  refine lv_aload_n (pc := 101) hx hb dX7_best_101 rfl (lv_at hl 0 rfl) ?_
                  refine fget (pc := 102) (v := .ref (b 33)) hx hb hts hown hE hP fl_X7_44 0 rfl rfl dX7_best_102 ?_
                  refine fget (pc := 105) (v := .int qe) hx hb hts hown hE hP fl_X7_172 3 rfl rfl dX7_best_105 ?_
                  have hC3 : ¬ (4 < dkOf r i j ∨ z 9 = 8) := by
                                                                                rintro (q9 | q9)
                                                                                · have e9 : dkOf r i j = dkN (c 8) i (j + 1 - i) := by rw [e8]; rfl
                                                                                  omega
                                                                                · rw [hz9] at q9
                                                                                  have e9 := (nI_eq (a := bt) (b := 8) (by omega) (by omega)).mp q9
                                                                                  omega
                  have hpl0 : bstPl z r nn i j what = r 8 := bp_no hij hj (by rw [c_8]; decide)
                  have hR : R_best z gg r nn fx tx what = (qe, va_up (va_up (va_up (va_up (va_up z 9 (z 9 + 1)) 20 (nI (dkOf r i j))) 22 (bstOf z r nn i j).1) 23 (bstOf z r nn i j).2.1) 24 (bstOf z r nn i j).2.2, gg, va_up (va_up r 8 (bstPl z r nn i j what)) 21 (layR r i j 21)) := by rw [R_best, if_pos ⟨c_2.1, ⟨Int32.not_lt.mp c_2.2.2, c_2.2.1.2⟩, by omega⟩, if_pos ⟨Int32.not_lt.mp c_3, lt_leN 2 (by omega) c_4⟩, hxi, hxj, ix_nI (j := i) (by omega), ix_nI (j := j) (by omega), if_neg hC3, R_bestNow, if_neg c_7, if_pos c_8]; exact congrArg (fun a9 => (a9, va_up (va_up (va_up (va_up (va_up z 9 (z 9 + 1)) 20 (nI (dkOf r i j))) 22 (bstOf z r nn i j).1) 23 (bstOf z r nn i j).2.1) 24 (bstOf z r nn i j).2.2, gg, va_up (va_up r 8 (bstPl z r nn i j what)) 21 (layR r i j 21))) (congrArg (fun a9 => a9.2.2) hO)
                  rw [hQ]; exact W.iret (pc := 108) hx hb hr (fun t9 ht _ => ⟨⟨_, (wC kI kT b (va_up g 9 (nI (bt + 1))) cd so9 sq9 (va_up (va_up (va_up q 20 q9) 23 ql) 24 qe) x c v y c2 v2 pa ds9 us9), rfl, by rw [ht]; exact hP, ⟨nn, sn, pn, h9, bt + 1, (va_up g 9 (nI (bt + 1))), cd, so9, sq9, (va_up (va_up (va_up q 20 q9) 23 ql) 24 qe), c, v, c2, v2, ds9, us9, by rw [hR], rfl, by rw [hR]; exact ⟨⟨hv1, hz1, hn5, e2, e3, e4, e5, e6, e7, e8.trans hpl0.symm, hok, hC, hF⟩, hWg, hSeI, hPgI, ⟨hg0, hz0, by omega, hN1, rfl, by show z 9 + 1 = nI (bt + 1); rw [hz9, nI_1], by omega⟩, hKp⟩⟩, rfl⟩, hS.F ht⟩) hS.2.2 dX7_best_108 hlocks
              · skip
                refine lv_aload_n (pc := 88) hx hb dX7_best_88 rfl (lv_at hl 0 rfl) ?_
                refine fget (pc := 89) (v := .ref (b 33)) hx hb hts hown hE hP fl_X7_44 0 rfl rfl dX7_best_89 ?_
                refine fget (pc := 92) (v := .int ql) hx hb hts hown hE hP fl_X7_169 3 rfl rfl dX7_best_92 ?_
                have hC3 : ¬ (4 < dkOf r i j ∨ z 9 = 8) := by
                                                                                rintro (q9 | q9)
                                                                                · have e9 : dkOf r i j = dkN (c 8) i (j + 1 - i) := by rw [e8]; rfl
                                                                                  omega
                                                                                · rw [hz9] at q9
                                                                                  have e9 := (nI_eq (a := bt) (b := 8) (by omega) (by omega)).mp q9
                                                                                  omega
                have hpl0 : bstPl z r nn i j what = r 8 := bp_no hij hj (by rw [c_7]; decide)
                have hR : R_best z gg r nn fx tx what = (ql, va_up (va_up (va_up (va_up (va_up z 9 (z 9 + 1)) 20 (nI (dkOf r i j))) 22 (bstOf z r nn i j).1) 23 (bstOf z r nn i j).2.1) 24 (bstOf z r nn i j).2.2, gg, va_up (va_up r 8 (bstPl z r nn i j what)) 21 (layR r i j 21)) := by rw [R_best, if_pos ⟨c_2.1, ⟨Int32.not_lt.mp c_2.2.2, c_2.2.1.2⟩, by omega⟩, if_pos ⟨Int32.not_lt.mp c_3, lt_leN 2 (by omega) c_4⟩, hxi, hxj, ix_nI (j := i) (by omega), ix_nI (j := j) (by omega), if_neg hC3, R_bestNow, if_pos c_7]; exact congrArg (fun a9 => (a9, va_up (va_up (va_up (va_up (va_up z 9 (z 9 + 1)) 20 (nI (dkOf r i j))) 22 (bstOf z r nn i j).1) 23 (bstOf z r nn i j).2.1) 24 (bstOf z r nn i j).2.2, gg, va_up (va_up r 8 (bstPl z r nn i j what)) 21 (layR r i j 21))) (congrArg (fun a9 => a9.2.1) hO)
                rw [hQ]; exact W.iret (pc := 95) hx hb hr (fun t9 ht _ => ⟨⟨_, (wC kI kT b (va_up g 9 (nI (bt + 1))) cd so9 sq9 (va_up (va_up (va_up q 20 q9) 23 ql) 24 qe) x c v y c2 v2 pa ds9 us9), rfl, by rw [ht]; exact hP, ⟨nn, sn, pn, h9, bt + 1, (va_up g 9 (nI (bt + 1))), cd, so9, sq9, (va_up (va_up (va_up q 20 q9) 23 ql) 24 qe), c, v, c2, v2, ds9, us9, by rw [hR], rfl, by rw [hR]; exact ⟨⟨hv1, hz1, hn5, e2, e3, e4, e5, e6, e7, e8.trans hpl0.symm, hok, hC, hF⟩, hWg, hSeI, hPgI, ⟨hg0, hz0, by omega, hN1, rfl, by show z 9 + 1 = nI (bt + 1); rw [hz9, nI_1], by omega⟩, hKp⟩⟩, rfl⟩, hS.F ht⟩) hS.2.2 dX7_best_95 hlocks
            · skip
              have c_6n : ¬ (dkN (c 8) i (j + 1 - i)) ≤ 4 := fun hh => c_6 ((nI_leI (a := dkN (c 8) i (j + 1 - i)) (b := 4) (by omega) (by omega)).mpr hh)
              refine lv_bipush (pc := 55) (v := (-103)) hx hb dX7_best_55 (by decide) ?_
              have hR : R_best z gg r nn fx tx what = ((-103), z, gg, r) := by rw [R_best, if_pos ⟨c_2.1, ⟨Int32.not_lt.mp c_2.2.2, c_2.2.1.2⟩, by omega⟩, if_pos ⟨Int32.not_lt.mp c_3, lt_leN 2 (by omega) c_4⟩, hxi, hxj, ix_nI (j := i) (by omega), ix_nI (j := j) (by omega), if_pos (Or.inl (by show 4 < dkN (r 8) i (j + 1 - i); rw [← e8]; omega))]
              rw [hQ]; exact W.iret (pc := 57) hx hb hr (fun t9 ht _ => ⟨⟨_, (wC kI kT b g cd so sq q x c v y c2 v2 pa d u), rfl, by rw [ht]; exact hP, ⟨nn, sn, pn, h9, bt, g, cd, so, sq, q, c, v, c2, v2, d, u, by rw [hR], rfl, by rw [hR]; exact ⟨hTi, hWg, hSeI, hPgI, ct_w hCt hN1, hKp⟩⟩, rfl⟩, hS.F ht⟩) hS.2.2 dX7_best_57 hlocks
        · skip
          refine lv_bipush (pc := 27) (v := (-102)) hx hb dX7_best_27 (by decide) ?_
          have hR : R_best z gg r nn fx tx what = ((-102), z, gg, r) := by rw [R_best, if_pos ⟨c_2.1, ⟨Int32.not_lt.mp c_2.2.2, c_2.2.1.2⟩, by omega⟩, if_neg (fun q => c_4 (Int32.lt_of_le_of_lt q.2 (by decide)))]
          rw [hQ]; exact W.iret (pc := 29) hx hb hr (fun t9 ht _ => ⟨⟨_, (wC kI kT b g cd so sq q x c v y c2 v2 pa d u), rfl, by rw [ht]; exact hP, ⟨nn, sn, pn, h9, bt, g, cd, so, sq, q, c, v, c2, v2, d, u, by rw [hR], rfl, by rw [hR]; exact ⟨hTi, hWg, hSeI, hPgI, ct_w hCt hN1, hKp⟩⟩, rfl⟩, hS.F ht⟩) hS.2.2 dX7_best_29 hlocks
    · skip
      refine lv_bipush (pc := 15) (v := (-101)) hx hb dX7_best_15 (by decide) ?_
      have hR : R_best z gg r nn fx tx what = ((-101), z, gg, r) := by rw [R_best, if_neg (fun q9 => c_2 ⟨q9.1, ⟨Int32.le_trans q9.1.1 q9.2.1.1, q9.2.1.2⟩, Int32.not_lt.mpr q9.2.1.1⟩)]
      rw [hQ]; exact W.iret (pc := 17) hx hb hr (fun t9 ht _ => ⟨⟨_, (wC kI kT b g cd so sq q x c v y c2 v2 pa d u), rfl, by rw [ht]; exact hP, ⟨nn, sn, pn, h9, bt, g, cd, so, sq, q, c, v, c2, v2, d, u, by rw [hR], rfl, by rw [hR]; exact ⟨hTi, hWg, hSeI, hPgI, ct_w hCt hN1, hKp⟩⟩, rfl⟩, hS.F ht⟩) hS.2.2 dX7_best_17 hlocks
end
