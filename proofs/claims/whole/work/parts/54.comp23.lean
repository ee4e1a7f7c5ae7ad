section
variable {l : Launch} {D : va_G} {kB kI kT : ClassId} {ks sk sv : Nat}
set_option maxRecDepth 100000 in
set_option maxHeartbeats 4000000 in
theorem k_X7_add_s {b : Nat → Nat} {g : Nat → Int32} {cd : Nat → Int32} {so : Nat → Int32} {sq : Nat → Int32} {q : Nat → Int32} {x : Nat → Nat} {c : Nat → Nat → Int32} {v : Nat → Int32} {y : Nat → Nat} {c2 : Nat → Nat → Int32} {v2 : Nat → Int32} {pa : Nat → Nat} {d : Nat → Nat → Int32} {u : Nat → Int32} (kind : Int32) (set : Int32) (cast : Int32) {nn : Nat} {sn : Nat} {pn : Nat} {h9 : Nat} {bt : Nat} {N9 : Nat} {z : Nat → Int32} {gg : Nat → Int64} {r : Nat → Nat → Int32} (hI : Inv nn sn pn h9 bt N9 g cd c v c2 v2 z r) (hN1 : N9 + 1 < 100000) : MX l yX7_add cX7_add 4 (some .int) 4 92 D kB kI kT ks sk sv [.ref (b 30), .int kind, .int set, .int cast] (wC kI kT b g cd so sq q x c v y c2 v2 pa d u) (fun w w1 => SimP kI kT b x y pa (N9 + 1) (R_add z gg r nn kind set cast) w w1) := by
  refine MX.go (by decide +kernel) (Nat.le_of_ble_eq_true rfl) ?_
  intro p e s m below meth c0 args Q ls A hQ hx hb hr hml hown hts hlocks hE hP hD hS hl
  have hl : lv_has ls 4 [(0, .ref (b 30)), (1, .int kind), (2, .int set), (3, .int cast)] := hl
  have hown : s.vm.findClass RX7 = some m.cls := hown
  obtain ⟨hTi, hWg, hSeI, hPgI, hCt, hKp⟩ := hI
  have ⟨hv1, hz1, hn5, e2, e3, e4, e5, e6, e7, e8, hok, hC, hF⟩ := hTi
  have ⟨w50, w51, w52, w53, w57, w58, w59⟩ := hWg
  have ⟨hv10, hz10, hsn, hSe⟩ := hSeI
  have ⟨hg14, hz14, hpn, hPg⟩ := hPgI
  have ⟨hg0, hz0, hhN, hN, hg9, hz9, hbt⟩ := hCt
  have hcd : ∀ k, k < pn → inR (cd k) 32 126 := fun k hk => (hPg k hk).2
  refine lv_iload_n (pc := 0) hx hb dX7_add_0 rfl (lv_at hl 1 rfl) ?_
  refine rS (pc := 1) (rest := []) ⟨hx, hb, hml, hown, hts⟩ (k_X7_isKind (k9 := kind)) cw_X7_111 ⟨(Nat.le_of_ble_eq_true rfl), (Nat.le_of_ble_eq_true rfl)⟩ hE hS wc0 rfl hl.1 rfl (Nat.le_of_ble_eq_true rfl) dX7_add_1 ⟨Nat.le_refl _, Nat.le_refl _⟩ ?_
  refine W.eq (g2 := F0 m 4 ls [.int (bi (inR kind 0 4))]) rfl ?_
  refine bif_eq (pc := 4) (tgt := 25) hx hb dX7_add_4 (by decide) (fun c_1 => ?_) (fun c_1 => ?_)
  · skip
    refine lv_bipush (pc := 25) (v := (-102)) hx hb dX7_add_25 (by decide) ?_
    have hR : R_add z gg r nn kind set cast = ((-102), z, gg, r) := by rw [R_add, if_neg (fun q9 => c_1 q9.1)]
    rw [hQ]; exact W.iret (pc := 27) hx hb hr (fun t9 ht _ => ⟨⟨_, (wC kI kT b g cd so sq q x c v y c2 v2 pa d u), rfl, by rw [ht]; exact hP, ⟨nn, sn, pn, h9, bt, g, cd, so, sq, q, c, v, c2, v2, d, u, by rw [hR], rfl, by rw [hR]; exact ⟨hTi, hWg, hSeI, hPgI, ct_w hCt hN1, hKp⟩⟩, rfl⟩, hS.F ht⟩) hS.2.2 dX7_add_27 hlocks
  · skip
    refine lv_iload_n (pc := 7) hx hb dX7_add_7 rfl (lv_at hl 2 rfl) ?_
    refine lv_if_lt (pc := 8) (tgt := 25) hx hb dX7_add_8 (by decide) (fun c_2 => ?_) (fun c_2 => ?_)
    · skip
      refine lv_bipush (pc := 25) (v := (-102)) hx hb dX7_add_25 (by decide) ?_
      have hR : R_add z gg r nn kind set cast = ((-102), z, gg, r) := by rw [R_add, if_neg (fun q9 => absurd c_2 (Int32.not_lt.mpr q9.2.1.1))]
      rw [hQ]; exact W.iret (pc := 27) hx hb hr (fun t9 ht _ => ⟨⟨_, (wC kI kT b g cd so sq q x c v y c2 v2 pa d u), rfl, by rw [ht]; exact hP, ⟨nn, sn, pn, h9, bt, g, cd, so, sq, q, c, v, c2, v2, d, u, by rw [hR], rfl, by rw [hR]; exact ⟨hTi, hWg, hSeI, hPgI, ct_w hCt hN1, hKp⟩⟩, rfl⟩, hS.F ht⟩) hS.2.2 dX7_add_27 hlocks
    · skip
      refine lv_iload_n (pc := 11) hx hb dX7_add_11 rfl (lv_at hl 2 rfl) ?_
      refine lv_iconst (pc := 12) (v := 5) hx hb dX7_add_12 (by decide) ?_
      refine lv_icmp_ge (pc := 13) (tgt := 25) hx hb dX7_add_13 (by decide) (fun c_3 => ?_) (fun c_3 => ?_)
      · skip
        refine lv_bipush (pc := 25) (v := (-102)) hx hb dX7_add_25 (by decide) ?_
        have hR : R_add z gg r nn kind set cast = ((-102), z, gg, r) := by rw [R_add, if_neg (fun q9 => absurd (Int32.le_trans c_3 q9.2.1.2) (by decide))]
        rw [hQ]; exact W.iret (pc := 27) hx hb hr (fun t9 ht _ => ⟨⟨_, (wC kI kT b g cd so sq q x c v y c2 v2 pa d u), rfl, by rw [ht]; exact hP, ⟨nn, sn, pn, h9, bt, g, cd, so, sq, q, c, v, c2, v2, d, u, by rw [hR], rfl, by rw [hR]; exact ⟨hTi, hWg, hSeI, hPgI, ct_w hCt hN1, hKp⟩⟩, rfl⟩, hS.F ht⟩) hS.2.2 dX7_add_27 hlocks
      · skip
        refine lv_iload_n (pc := 16) hx hb dX7_add_16 rfl (lv_at hl 3 rfl) ?_
        refine lv_if_lt (pc := 17) (tgt := 25) hx hb dX7_add_17 (by decide) (fun c_4 => ?_) (fun c_4 => ?_)
        · skip
          refine lv_bipush (pc := 25) (v := (-102)) hx hb dX7_add_25 (by decide) ?_
          have hR : R_add z gg r nn kind set cast = ((-102), z, gg, r) := by rw [R_add, if_neg (fun q9 => absurd c_4 (Int32.not_lt.mpr q9.2.2.1))]
          rw [hQ]; exact W.iret (pc := 27) hx hb hr (fun t9 ht _ => ⟨⟨_, (wC kI kT b g cd so sq q x c v y c2 v2 pa d u), rfl, by rw [ht]; exact hP, ⟨nn, sn, pn, h9, bt, g, cd, so, sq, q, c, v, c2, v2, d, u, by rw [hR], rfl, by rw [hR]; exact ⟨hTi, hWg, hSeI, hPgI, ct_w hCt hN1, hKp⟩⟩, rfl⟩, hS.F ht⟩) hS.2.2 dX7_add_27 hlocks
        · skip
          refine lv_iload_n (pc := 20) hx hb dX7_add_20 rfl (lv_at hl 3 rfl) ?_
          refine lv_iconst (pc := 21) (v := 5) hx hb dX7_add_21 (by decide) ?_
          refine lv_icmp_lt (pc := 22) (tgt := 28) hx hb dX7_add_22 (by decide) (fun c_5 => ?_) (fun c_5 => ?_)
          · skip
            refine lv_aload_n (pc := 28) hx hb dX7_add_28 rfl (lv_at hl 0 rfl) ?_
            refine rV (pc := 29) (rest := []) ⟨hx, hb, hml, hown, hts⟩ (k_X7_hasHouse (b := b) (g := g) (cd := cd) (so := so) (sq := sq) (q := q) (x := x) (c := c) (v := v) (y := y) (c2 := c2) (v2 := v2) (pa := pa) (d := d) (u := u) (nn := nn) (hv1 := hv1) (hn5 := hn5)) cw_X7_93 ⟨(Nat.le_of_ble_eq_true rfl), (Nat.le_of_ble_eq_true rfl)⟩ hE hS hP rfl rfl rfl rfl hl.1 rfl (Nat.le_of_ble_eq_true rfl) dX7_add_29 ⟨Nat.le_refl _, Nat.le_refl _⟩ ?_
            refine W.eq (g2 := F0 m 32 ls [.int (bi (0 < nn))]) rfl ?_
            refine bif_ne (pc := 32) (tgt := 38) hx hb dX7_add_32 (by decide) (fun c_6 => ?_) (fun c_6 => ?_)
            · skip
              refine lv_aload_n (pc := 38) hx hb dX7_add_38 rfl (lv_at hl 0 rfl) ?_
              refine fget (pc := 39) (v := .ref (x 14)) hx hb hts hown hE hP fl_X7_19 0 rfl rfl dX7_add_39 ?_
              refine fget (pc := 42) (v := .ref (x 7)) hx hb hts hown hE hP fl_X7_28 6 rfl rfl dX7_add_42 ?_
              refine fget (pc := 45) (v := .int (v 1)) hx hb hts hown hE hP fl_X7_92 14 rfl rfl dX7_add_45 ?_
              refine vEq (v := nI nn) hv1 ?_
              refine lv_iconst (pc := 48) (v := 5) hx hb dX7_add_48 (by decide) ?_
              refine lv_icmp_lt (pc := 49) (tgt := 55) hx hb dX7_add_49 (by decide) (fun c_7 => ?_) (fun c_7 => ?_)
              · skip
                have c_7n : nn < 5 := (nI_ltI (a := nn) (b := 5) (by omega) (by omega)).mp c_7
                obtain ⟨k4, hk4, hk4e⟩ := nI_of2 (M := 4) (n := 4) rfl c_4 (lt_leN 4 (by omega) c_5)
                have hC9 : ∀ k, k < nn + 1 → ∃ k4, k4 < 5 ∧ upd (c 4) nn cast k = nI k4 := upd_cast hC ⟨k4, by omega, hk4e⟩
                refine lv_aload_n (pc := 55) hx hb dX7_add_55 rfl (lv_at hl 0 rfl) ?_
                refine fget (pc := 56) (v := .ref (x 14)) hx hb hts hown hE hP fl_X7_19 0 rfl rfl dX7_add_56 ?_
                refine fget (pc := 59) (v := .ref (x 7)) hx hb hts hown hE hP fl_X7_28 6 rfl rfl dX7_add_59 ?_
                refine lv_iload_n (pc := 62) hx hb dX7_add_62 rfl (lv_at hl 1 rfl) ?_
                refine lv_iload_n (pc := 63) hx hb dX7_add_63 rfl (lv_at hl 2 rfl) ?_
                refine lv_iload_n (pc := 64) hx hb dX7_add_64 rfl (lv_at hl 3 rfl) ?_
                refine wV (pc := 65) (rest := []) ⟨hx, hb, hml, hown, hts⟩ (k_X6_append (kind := kind) (set := set) (cast := cast) (x := x) (n := v 1) (c := c) (nn := nn) (hn := hv1) (hn5 := (by omega))) cw_X7_142 ⟨(Nat.le_of_ble_eq_true rfl), (Nat.le_of_ble_eq_true rfl)⟩ hE hP hD hS [14, 15, 16, 17, 18, 19, 20] (by decide) rfl rfl rfl rfl rfl rfl hl.1 rfl (Nat.le_of_ble_eq_true rfl) dX7_add_65 ⟨Nat.le_refl _, Nat.le_refl _⟩ (fun H locs hP hD hS => ?_)
                rw [sp_CTs] at hP hD
                have hP : va_P D vwCl (wC kI kT b g cd so sq q x (va_up (va_up (va_up (va_up (va_up (va_up c 2 (upd (c 2) nn kind)) 3 (upd (c 3) nn set)) 4 (upd (c 4) nn cast)) 5 (upd (c 5) nn 0)) 6 (upd (c 6) nn 11)) 7 (upd (c 7) nn 5)) (va_up v 1 (nI (nn + 1))) y c2 v2 pa d u) H := hP
                have hD : va_D A (wC kI kT b g cd so sq q x (va_up (va_up (va_up (va_up (va_up (va_up c 2 (upd (c 2) nn kind)) 3 (upd (c 3) nn set)) 4 (upd (c 4) nn cast)) 5 (upd (c 5) nn 0)) 6 (upd (c 6) nn 11)) 7 (upd (c 7) nn 5)) (va_up v 1 (nI (nn + 1))) y c2 v2 pa d u) := hD
                refine W.eq (g2 := F0 m 68 ls []) rfl ?_
                refine lv_aload_n (pc := 68) hx hb dX7_add_68 rfl (lv_at hl 0 rfl) ?_
                refine fget (pc := 69) (v := .ref (x 14)) hx hb hts hown hE hP fl_X7_19 0 rfl rfl dX7_add_69 ?_
                refine fget (pc := 72) (v := .ref (x 0)) hx hb hts hown hE hP fl_X7_70 6 rfl rfl dX7_add_72 ?_
                refine wV (pc := 75) (rest := []) ⟨hx, hb, hml, hown, hts⟩ (k_X1_weigh (pa := x) (d := (va_up (va_up (va_up (va_up (va_up (va_up c 2 (upd (c 2) nn kind)) 3 (upd (c 3) nn set)) 4 (upd (c 4) nn cast)) 5 (upd (c 5) nn 0)) 6 (upd (c 6) nn 11)) 7 (upd (c 7) nn 5))) (u := (va_up v 1 (nI (nn + 1)))) (x := x) (n := (va_up v 1 (nI (nn + 1))) 1) (c := (va_up (va_up (va_up (va_up (va_up (va_up c 2 (upd (c 2) nn kind)) 3 (upd (c 3) nn set)) 4 (upd (c 4) nn cast)) 5 (upd (c 5) nn 0)) 6 (upd (c 6) nn 11)) 7 (upd (c 7) nn 5))) (nn := nn + 1) (hn := rfl) (hn5 := (by omega)) (hok := (okP_mono hok (by omega))) (hC := hC9)) cw_X7_133 ⟨(Nat.le_of_ble_eq_true rfl), (Nat.le_of_ble_eq_true rfl)⟩ hE hP hD hS [7, 8, 9, 10, 11, 12, 13, 14, 15, 16, 17, 18, 19, 20] (by decide) rfl rfl rfl rfl rfl rfl hl.1 rfl (Nat.le_of_ble_eq_true rfl) dX7_add_75 ⟨Nat.le_refl _, Nat.le_refl _⟩ (fun H locs hP hD hS => ?_)
                rw [sp_CPl] at hP hD
                have hP : va_P D vwCl (wC kI kT b g cd so sq q x (va_up (va_up (va_up (va_up (va_up (va_up (va_up (va_up (va_up (va_up (va_up c 2 (upd (c 2) nn kind)) 3 (upd (c 3) nn set)) 4 (upd (c 4) nn cast)) 5 (upd (c 5) nn 0)) 6 (upd (c 6) nn 11)) 7 (upd (c 7) nn 5)) 50 (ovN (c 50) (brk ((upd (c 2) nn kind)) ((upd (c 3) nn set)) ((upd (c 4) nn cast)) ((upd (c 5) nn 0)) ((upd (c 6) nn 11)) (c 8)) 12)) 51 (ovN (c 51) (sts ((upd (c 2) nn kind)) ((upd (c 7) nn 5)) (c 8)) 12)) 52 (ovN (c 52) (fun t => nI (nOf (c 8) (nI t) 12)) 5)) 53 (ovN (c 53) (fun t => sumI (fun j => if (c 8) j = nI t ∧ brk ((upd (c 2) nn kind)) ((upd (c 3) nn set)) ((upd (c 4) nn cast)) ((upd (c 5) nn 0)) ((upd (c 6) nn 11)) (c 8) j = 0 then sts ((upd (c 2) nn kind)) ((upd (c 7) nn 5)) (c 8) j else 0) 12) 5)) 54 (lstC ((upd (c 4) nn cast)) (c 8) (ovN (c 54) (fun _ => -1) 5) 12)) (va_up (va_up (va_up (va_up v 1 (nI (nn + 1))) 57 (nI (cntP (fun j => 0 < brk ((upd (c 2) nn kind)) ((upd (c 3) nn set)) ((upd (c 4) nn cast)) ((upd (c 5) nn 0)) ((upd (c 6) nn 11)) (c 8) j) 12))) 58 (nI (cntP (fun j => (c 8) j = -1 ∨ 0 < brk ((upd (c 2) nn kind)) ((upd (c 3) nn set)) ((upd (c 4) nn cast)) ((upd (c 5) nn 0)) ((upd (c 6) nn 11)) (c 8) j) 12))) 59 (sumI (fun j => if brk ((upd (c 2) nn kind)) ((upd (c 3) nn set)) ((upd (c 4) nn cast)) ((upd (c 5) nn 0)) ((upd (c 6) nn 11)) (c 8) j = 0 then sts ((upd (c 2) nn kind)) ((upd (c 7) nn 5)) (c 8) j else 0) 12)) y c2 v2 pa d u) H := hP
                have hD : va_D A (wC kI kT b g cd so sq q x (va_up (va_up (va_up (va_up (va_up (va_up (va_up (va_up (va_up (va_up (va_up c 2 (upd (c 2) nn kind)) 3 (upd (c 3) nn set)) 4 (upd (c 4) nn cast)) 5 (upd (c 5) nn 0)) 6 (upd (c 6) nn 11)) 7 (upd (c 7) nn 5)) 50 (ovN (c 50) (brk ((upd (c 2) nn kind)) ((upd (c 3) nn set)) ((upd (c 4) nn cast)) ((upd (c 5) nn 0)) ((upd (c 6) nn 11)) (c 8)) 12)) 51 (ovN (c 51) (sts ((upd (c 2) nn kind)) ((upd (c 7) nn 5)) (c 8)) 12)) 52 (ovN (c 52) (fun t => nI (nOf (c 8) (nI t) 12)) 5)) 53 (ovN (c 53) (fun t => sumI (fun j => if (c 8) j = nI t ∧ brk ((upd (c 2) nn kind)) ((upd (c 3) nn set)) ((upd (c 4) nn cast)) ((upd (c 5) nn 0)) ((upd (c 6) nn 11)) (c 8) j = 0 then sts ((upd (c 2) nn kind)) ((upd (c 7) nn 5)) (c 8) j else 0) 12) 5)) 54 (lstC ((upd (c 4) nn cast)) (c 8) (ovN (c 54) (fun _ => -1) 5) 12)) (va_up (va_up (va_up (va_up v 1 (nI (nn + 1))) 57 (nI (cntP (fun j => 0 < brk ((upd (c 2) nn kind)) ((upd (c 3) nn set)) ((upd (c 4) nn cast)) ((upd (c 5) nn 0)) ((upd (c 6) nn 11)) (c 8) j) 12))) 58 (nI (cntP (fun j => (c 8) j = -1 ∨ 0 < brk ((upd (c 2) nn kind)) ((upd (c 3) nn set)) ((upd (c 4) nn cast)) ((upd (c 5) nn 0)) ((upd (c 6) nn 11)) (c 8) j) 12))) 59 (sumI (fun j => if brk ((upd (c 2) nn kind)) ((upd (c 3) nn set)) ((upd (c 4) nn cast)) ((upd (c 5) nn 0)) ((upd (c 6) nn 11)) (c 8) j = 0 then sts ((upd (c 2) nn kind)) ((upd (c 7) nn 5)) (c 8) j else 0) 12)) y c2 v2 pa d u) := hD
                refine W.eq (g2 := F0 m 78 ls []) rfl ?_
                refine lv_aload_n (pc := 78) hx hb dX7_add_78 rfl (lv_at hl 0 rfl) ?_
                refine fget (pc := 79) (v := .ref (x 14)) hx hb hts hown hE hP fl_X7_19 0 rfl rfl dX7_add_79 ?_
                refine fget (pc := 82) (v := .ref (x 7)) hx hb hts hown hE hP fl_X7_28 6 rfl rfl dX7_add_82 ?_
                refine fget (pc := 85) (v := .int (nI (nn + 1))) hx hb hts hown hE hP fl_X7_92 14 rfl rfl dX7_add_85 ?_
                refine lv_iconst (pc := 88) (v := 1) hx hb dX7_add_88 (by decide) ?_
                refine isubV (pc := 89) (v := nI nn) hx hb dX7_add_89 (pk_sub (a := nn + 1) (b := 1) (by omega)) ?_
                have hR : R_add z gg r nn kind set cast = (nI nn, va_up z 1 (nI (nn + 1)), gg, va_up (va_up (va_up (va_up (va_up (va_up r 2 (upd (r 2) nn kind)) 3 (upd (r 3) nn set)) 4 (upd (r 4) nn cast)) 5 (upd (r 5) nn 0)) 6 (upd (r 6) nn 11)) 7 (upd (r 7) nn 5)) := by rw [R_add, if_pos ⟨c_1, ⟨Int32.not_lt.mp c_2, lt_leN 4 (by omega) (Int32.not_le.mp c_3)⟩, ⟨Int32.not_lt.mp c_4, lt_leN 4 (by omega) c_5⟩⟩, if_neg (by omega), if_neg (by omega)]
                rw [hQ]; exact W.iret (pc := 90) hx hb hr (fun t9 ht _ => ⟨⟨_, (wC kI kT b g cd so sq q x (va_up (va_up (va_up (va_up (va_up (va_up (va_up (va_up (va_up (va_up (va_up c 2 (upd (c 2) nn kind)) 3 (upd (c 3) nn set)) 4 (upd (c 4) nn cast)) 5 (upd (c 5) nn 0)) 6 (upd (c 6) nn 11)) 7 (upd (c 7) nn 5)) 50 (ovN (c 50) (brk ((upd (c 2) nn kind)) ((upd (c 3) nn set)) ((upd (c 4) nn cast)) ((upd (c 5) nn 0)) ((upd (c 6) nn 11)) (c 8)) 12)) 51 (ovN (c 51) (sts ((upd (c 2) nn kind)) ((upd (c 7) nn 5)) (c 8)) 12)) 52 (ovN (c 52) (fun t => nI (nOf (c 8) (nI t) 12)) 5)) 53 (ovN (c 53) (fun t => sumI (fun j => if (c 8) j = nI t ∧ brk ((upd (c 2) nn kind)) ((upd (c 3) nn set)) ((upd (c 4) nn cast)) ((upd (c 5) nn 0)) ((upd (c 6) nn 11)) (c 8) j = 0 then sts ((upd (c 2) nn kind)) ((upd (c 7) nn 5)) (c 8) j else 0) 12) 5)) 54 (lstC ((upd (c 4) nn cast)) (c 8) (ovN (c 54) (fun _ => -1) 5) 12)) (va_up (va_up (va_up (va_up v 1 (nI (nn + 1))) 57 (nI (cntP (fun j => 0 < brk ((upd (c 2) nn kind)) ((upd (c 3) nn set)) ((upd (c 4) nn cast)) ((upd (c 5) nn 0)) ((upd (c 6) nn 11)) (c 8) j) 12))) 58 (nI (cntP (fun j => (c 8) j = -1 ∨ 0 < brk ((upd (c 2) nn kind)) ((upd (c 3) nn set)) ((upd (c 4) nn cast)) ((upd (c 5) nn 0)) ((upd (c 6) nn 11)) (c 8) j) 12))) 59 (sumI (fun j => if brk ((upd (c 2) nn kind)) ((upd (c 3) nn set)) ((upd (c 4) nn cast)) ((upd (c 5) nn 0)) ((upd (c 6) nn 11)) (c 8) j = 0 then sts ((upd (c 2) nn kind)) ((upd (c 7) nn 5)) (c 8) j else 0) 12)) y c2 v2 pa d u), rfl, by rw [ht]; exact hP, ⟨nn + 1, sn, pn, h9, bt, g, cd, so, sq, q, (va_up (va_up (va_up (va_up (va_up (va_up (va_up (va_up (va_up (va_up (va_up c 2 (upd (c 2) nn kind)) 3 (upd (c 3) nn set)) 4 (upd (c 4) nn cast)) 5 (upd (c 5) nn 0)) 6 (upd (c 6) nn 11)) 7 (upd (c 7) nn 5)) 50 (ovN (c 50) (brk ((upd (c 2) nn kind)) ((upd (c 3) nn set)) ((upd (c 4) nn cast)) ((upd (c 5) nn 0)) ((upd (c 6) nn 11)) (c 8)) 12)) 51 (ovN (c 51) (sts ((upd (c 2) nn kind)) ((upd (c 7) nn 5)) (c 8)) 12)) 52 (ovN (c 52) (fun t => nI (nOf (c 8) (nI t) 12)) 5)) 53 (ovN (c 53) (fun t => sumI (fun j => if (c 8) j = nI t ∧ brk ((upd (c 2) nn kind)) ((upd (c 3) nn set)) ((upd (c 4) nn cast)) ((upd (c 5) nn 0)) ((upd (c 6) nn 11)) (c 8) j = 0 then sts ((upd (c 2) nn kind)) ((upd (c 7) nn 5)) (c 8) j else 0) 12) 5)) 54 (lstC ((upd (c 4) nn cast)) (c 8) (ovN (c 54) (fun _ => -1) 5) 12)), (va_up (va_up (va_up (va_up v 1 (nI (nn + 1))) 57 (nI (cntP (fun j => 0 < brk ((upd (c 2) nn kind)) ((upd (c 3) nn set)) ((upd (c 4) nn cast)) ((upd (c 5) nn 0)) ((upd (c 6) nn 11)) (c 8) j) 12))) 58 (nI (cntP (fun j => (c 8) j = -1 ∨ 0 < brk ((upd (c 2) nn kind)) ((upd (c 3) nn set)) ((upd (c 4) nn cast)) ((upd (c 5) nn 0)) ((upd (c 6) nn 11)) (c 8) j) 12))) 59 (sumI (fun j => if brk ((upd (c 2) nn kind)) ((upd (c 3) nn set)) ((upd (c 4) nn cast)) ((upd (c 5) nn 0)) ((upd (c 6) nn 11)) (c 8) j = 0 then sts ((upd (c 2) nn kind)) ((upd (c 7) nn 5)) (c 8) j else 0) 12)), c2, v2, d, u, by rw [hR], rfl, by rw [hR]; exact ⟨⟨rfl, rfl, by omega, congrArg (fun a9 => upd a9 nn kind) e2, congrArg (fun a9 => upd a9 nn set) e3, congrArg (fun a9 => upd a9 nn cast) e4, congrArg (fun a9 => upd a9 nn 0) e5, congrArg (fun a9 => upd a9 nn 11) e6, congrArg (fun a9 => upd a9 nn 5) e7, e8, okP_mono hok (by omega), hC9, upd_cast hF ⟨5, by omega, rfl⟩⟩, wg_new, hSeI, hPgI, ct_w hCt hN1, hKp⟩⟩, rfl⟩, hS.F ht⟩) hS.2.2 dX7_add_90 hlocks
              · skip
                have c_7n : ¬ nn < 5 := fun hh => c_7 ((nI_ltI (a := nn) (b := 5) (by omega) (by omega)).mpr hh)
                refine lv_bipush (pc := 52) (v := (-104)) hx hb dX7_add_52 (by decide) ?_
                have hR : R_add z gg r nn kind set cast = ((-104), z, gg, r) := by rw [R_add, if_pos ⟨c_1, ⟨Int32.not_lt.mp c_2, lt_leN 4 (by omega) (Int32.not_le.mp c_3)⟩, ⟨Int32.not_lt.mp c_4, lt_leN 4 (by omega) c_5⟩⟩, if_neg (by omega), if_pos (by omega)]
                rw [hQ]; exact W.iret (pc := 54) hx hb hr (fun t9 ht _ => ⟨⟨_, (wC kI kT b g cd so sq q x c v y c2 v2 pa d u), rfl, by rw [ht]; exact hP, ⟨nn, sn, pn, h9, bt, g, cd, so, sq, q, c, v, c2, v2, d, u, by rw [hR], rfl, by rw [hR]; exact ⟨hTi, hWg, hSeI, hPgI, ct_w hCt hN1, hKp⟩⟩, rfl⟩, hS.F ht⟩) hS.2.2 dX7_add_54 hlocks
            · skip
              refine lv_bipush (pc := 35) (v := (-103)) hx hb dX7_add_35 (by decide) ?_
              have hR : R_add z gg r nn kind set cast = ((-103), z, gg, r) := by rw [R_add, if_pos ⟨c_1, ⟨Int32.not_lt.mp c_2, lt_leN 4 (by omega) (Int32.not_le.mp c_3)⟩, ⟨Int32.not_lt.mp c_4, lt_leN 4 (by omega) c_5⟩⟩, if_pos (by omega)]
              rw [hQ]; exact W.iret (pc := 37) hx hb hr (fun t9 ht _ => ⟨⟨_, (wC kI kT b g cd so sq q x c v y c2 v2 pa d u), rfl, by rw [ht]; exact hP, ⟨nn, sn, pn, h9, bt, g, cd, so, sq, q, c, v, c2, v2, d, u, by rw [hR], rfl, by rw [hR]; exact ⟨hTi, hWg, hSeI, hPgI, ct_w hCt hN1, hKp⟩⟩, rfl⟩, hS.F ht⟩) hS.2.2 dX7_add_37 hlocks
          · skip
            refine lv_bipush (pc := 25) (v := (-102)) hx hb dX7_add_25 (by decide) ?_
            have hR : R_add z gg r nn kind set cast = ((-102), z, gg, r) := by rw [R_add, if_neg (fun q9 => c_5 (Int32.lt_of_le_of_lt q9.2.2.2 (by decide)))]
            rw [hQ]; exact W.iret (pc := 27) hx hb hr (fun t9 ht _ => ⟨⟨_, (wC kI kT b g cd so sq q x c v y c2 v2 pa d u), rfl, by rw [ht]; exact hP, ⟨nn, sn, pn, h9, bt, g, cd, so, sq, q, c, v, c2, v2, d, u, by rw [hR], rfl, by rw [hR]; exact ⟨hTi, hWg, hSeI, hPgI, ct_w hCt hN1, hKp⟩⟩, rfl⟩, hS.F ht⟩) hS.2.2 dX7_add_27 hlocks
end
