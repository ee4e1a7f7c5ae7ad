section
variable {l : Launch} {D : va_G} {kB kI kT : ClassId} {ks sk sv : Nat}
set_option maxRecDepth 100000 in
set_option maxHeartbeats 4000000 in
theorem k_X7_letter_s {b : Nat → Nat} {g : Nat → Int32} {cd : Nat → Int32} {so : Nat → Int32} {sq : Nat → Int32} {q : Nat → Int32} {x : Nat → Nat} {c : Nat → Nat → Int32} {v : Nat → Int32} {y : Nat → Nat} {c2 : Nat → Nat → Int32} {v2 : Nat → Int32} {pa : Nat → Nat} {d : Nat → Nat → Int32} {u : Nat → Int32} (code : Int32) {nn : Nat} {sn : Nat} {pn : Nat} {h9 : Nat} {bt : Nat} {N9 : Nat} {z : Nat → Int32} {gg : Nat → Int64} {r : Nat → Nat → Int32} (hI : Inv nn sn pn h9 bt N9 g cd c v c2 v2 z r) (hN1 : N9 + 1 < 100000) : MX l yX7_letter cX7_letter 2 (some .int) 1 21 D kB kI kT ks sk sv [.ref (b 30), .int code] (wC kI kT b g cd so sq q x c v y c2 v2 pa d u) (fun w w1 => SimP kI kT b x y pa (N9 + 1) (R_letter z gg r pn code) w w1) := by
  refine MX.go (by decide +kernel) (Nat.le_of_ble_eq_true rfl) ?_
  intro p e s m below meth c0 args Q ls A hQ hx hb hr hml hown hts hlocks hE hP hD hS hl
  have hl : lv_has ls 2 [(0, .ref (b 30)), (1, .int code)] := hl
  have hown : s.vm.findClass RX7 = some m.cls := hown
  obtain ⟨hTi, hWg, hSeI, hPgI, hCt, hKp⟩ := hI
  have ⟨hv1, hz1, hn5, e2, e3, e4, e5, e6, e7, e8, hok, hC, hF⟩ := hTi
  have ⟨w50, w51, w52, w53, w57, w58, w59⟩ := hWg
  have ⟨hv10, hz10, hsn, hSe⟩ := hSeI
  have ⟨hg14, hz14, hpn, hPg⟩ := hPgI
  have ⟨hg0, hz0, hhN, hN, hg9, hz9, hbt⟩ := hCt
  have hcd : ∀ k, k < pn → inR (cd k) 32 126 := fun k hk => (hPg k hk).2
  refine lv_iload_n (pc := 0) hx hb dX7_letter_0 rfl (lv_at hl 1 rfl) ?_
  refine lv_bipush (pc := 1) (v := 32) hx hb dX7_letter_1 (by decide) ?_
  refine lv_icmp_lt (pc := 3) (tgt := 12) hx hb dX7_letter_3 (by decide) (fun c_1 => ?_) (fun c_1 => ?_)
  · skip
    refine lv_bipush (pc := 12) (v := (-102)) hx hb dX7_letter_12 (by decide) ?_
    have hR : R_letter z gg r pn code = ((-102), z, gg, r) := by rw [R_letter, if_neg (fun q9 => absurd c_1 (Int32.not_lt.mpr q9.1))]
    rw [hQ]; exact W.iret (pc := 14) hx hb hr (fun t9 ht _ => ⟨⟨_, (wC kI kT b g cd so sq q x c v y c2 v2 pa d u), rfl, by rw [ht]; exact hP, ⟨nn, sn, pn, h9, bt, g, cd, so, sq, q, c, v, c2, v2, d, u, by rw [hR], rfl, by rw [hR]; exact ⟨hTi, hWg, hSeI, hPgI, ct_w hCt hN1, hKp⟩⟩, rfl⟩, hS.F ht⟩) hS.2.2 dX7_letter_14 hlocks
  · skip
    refine lv_iload_n (pc := 6) hx hb dX7_letter_6 rfl (lv_at hl 1 rfl) ?_
    refine lv_bipush (pc := 7) (v := 126) hx hb dX7_letter_7 (by decide) ?_
    refine lv_icmp_le (pc := 9) (tgt := 15) hx hb dX7_letter_9 (by decide) (fun c_2 => ?_) (fun c_2 => ?_)
    · skip
      refine lv_aload_n (pc := 15) hx hb dX7_letter_15 rfl (lv_at hl 0 rfl) ?_
      refine fget (pc := 16) (v := .ref (b 31)) hx hb hts hown hE hP fl_X7_10 0 rfl rfl dX7_letter_16 ?_
      refine fget (pc := 19) (v := .int (g 14)) hx hb hts hown hE hP fl_X7_48 1 rfl rfl dX7_letter_19 ?_
      refine vEq (v := nI pn) hg14 ?_
      refine lv_bipush (pc := 22) (v := 40) hx hb dX7_letter_22 (by decide) ?_
      refine lv_icmp_lt (pc := 24) (tgt := 30) hx hb dX7_letter_24 (by decide) (fun c_3 => ?_) (fun c_3 => ?_)
      · skip
        have c_3n : pn < 40 := (nI_ltI (a := pn) (b := 40) (by omega) (by omega)).mp c_3
        refine lv_aload_n (pc := 30) hx hb dX7_letter_30 rfl (lv_at hl 0 rfl) ?_
        refine fget (pc := 31) (v := .ref (b 31)) hx hb hts hown hE hP fl_X7_10 0 rfl rfl dX7_letter_31 ?_
        refine lv_iload_n (pc := 34) hx hb dX7_letter_34 rfl (lv_at hl 1 rfl) ?_
        refine wV (pc := 35) (rest := []) ⟨hx, hb, hml, hown, hts⟩ (k_X0_put (code := code) (b := b) (cd := cd) (ln := g 14) (pn := pn) (hln := hg14) (hpn := (by omega))) cw_X7_52 ⟨(Nat.le_of_ble_eq_true rfl), (Nat.le_of_ble_eq_true rfl)⟩ hE hP hD hS [1, 2] (by decide) rfl rfl rfl rfl rfl rfl hl.1 rfl (Nat.le_of_ble_eq_true rfl) dX7_letter_35 ⟨Nat.le_refl _, Nat.le_refl _⟩ (fun H locs hP hD hS => ?_)
        rw [sp_CPg] at hP hD
        have hP : va_P D vwCl (wC kI kT b (va_up g 14 (nI (pn + 1))) (upd cd pn code) so sq q x c v y c2 v2 pa d u) H := hP
        have hD : va_D A (wC kI kT b (va_up g 14 (nI (pn + 1))) (upd cd pn code) so sq q x c v y c2 v2 pa d u) := hD
        refine W.eq (g2 := F0 m 38 ls []) rfl ?_
        refine lv_aload_n (pc := 38) hx hb dX7_letter_38 rfl (lv_at hl 0 rfl) ?_
        refine fget (pc := 39) (v := .ref (b 31)) hx hb hts hown hE hP fl_X7_10 0 rfl rfl dX7_letter_39 ?_
        refine fget (pc := 42) (v := .int (nI (pn + 1))) hx hb hts hown hE hP fl_X7_48 1 rfl rfl dX7_letter_42 ?_
        have hR : R_letter z gg r pn code = (nI (pn + 1), va_up z 14 (nI (pn + 1)), gg, va_up r 15 (upd (r 15) pn code.toInt8.toInt32)) := by rw [R_letter, if_pos ⟨Int32.not_lt.mp c_1, c_2⟩, if_neg (by omega)]
        rw [hQ]; exact W.iret (pc := 45) hx hb hr (fun t9 ht _ => ⟨⟨_, (wC kI kT b (va_up g 14 (nI (pn + 1))) (upd cd pn code) so sq q x c v y c2 v2 pa d u), rfl, by rw [ht]; exact hP, ⟨nn, sn, pn + 1, h9, bt, (va_up g 14 (nI (pn + 1))), upd cd pn code, so, sq, q, c, v, c2, v2, d, u, by rw [hR], rfl, by rw [hR]; exact ⟨hTi, hWg, hSeI, ⟨rfl, rfl, by omega, pg_put hPg ⟨Int32.not_lt.mp c_1, c_2⟩⟩, ct_w hCt hN1, hKp⟩⟩, rfl⟩, hS.F ht⟩) hS.2.2 dX7_letter_45 hlocks
      · skip
        have c_3n : ¬ pn < 40 := fun hh => c_3 ((nI_ltI (a := pn) (b := 40) (by omega) (by omega)).mpr hh)
        refine lv_bipush (pc := 27) (v := (-104)) hx hb dX7_letter_27 (by decide) ?_
        have hR : R_letter z gg r pn code = ((-104), z, gg, r) := by rw [R_letter, if_pos ⟨Int32.not_lt.mp c_1, c_2⟩, if_pos (by omega)]
        rw [hQ]; exact W.iret (pc := 29) hx hb hr (fun t9 ht _ => ⟨⟨_, (wC kI kT b g cd so sq q x c v y c2 v2 pa d u), rfl, by rw [ht]; exact hP, ⟨nn, sn, pn, h9, bt, g, cd, so, sq, q, c, v, c2, v2, d, u, by rw [hR], rfl, by rw [hR]; exact ⟨hTi, hWg, hSeI, hPgI, ct_w hCt hN1, hKp⟩⟩, rfl⟩, hS.F ht⟩) hS.2.2 dX7_letter_29 hlocks
    · skip
      refine lv_bipush (pc := 12) (v := (-102)) hx hb dX7_letter_12 (by decide) ?_
      have hR : R_letter z gg r pn code = ((-102), z, gg, r) := by rw [R_letter, if_neg (fun q9 => c_2 q9.2)]
      rw [hQ]; exact W.iret (pc := 14) hx hb hr (fun t9 ht _ => ⟨⟨_, (wC kI kT b g cd so sq q x c v y c2 v2 pa d u), rfl, by rw [ht]; exact hP, ⟨nn, sn, pn, h9, bt, g, cd, so, sq, q, c, v, c2, v2, d, u, by rw [hR], rfl, by rw [hR]; exact ⟨hTi, hWg, hSeI, hPgI, ct_w hCt hN1, hKp⟩⟩, rfl⟩, hS.F ht⟩) hS.2.2 dX7_letter_14 hlocks
set_option maxRecDepth 100000 in
set_option maxHeartbeats 4000000 in
theorem k_X7_blank_s {b : Nat → Nat} {g : Nat → Int32} {cd : Nat → Int32} {so : Nat → Int32} {sq : Nat → Int32} {q : Nat → Int32} {x : Nat → Nat} {c : Nat → Nat → Int32} {v : Nat → Int32} {y : Nat → Nat} {c2 : Nat → Nat → Int32} {v2 : Nat → Int32} {pa : Nat → Nat} {d : Nat → Nat → Int32} {u : Nat → Int32} {nn : Nat} {sn : Nat} {pn : Nat} {h9 : Nat} {bt : Nat} {N9 : Nat} {z : Nat → Int32} {gg : Nat → Int64} {r : Nat → Nat → Int32} (hI : Inv nn sn pn h9 bt N9 g cd c v c2 v2 z r) (hN1 : N9 + 1 < 100000) : MX l yX7_blank cX7_blank 2 (some .int) 0 0 D kB kI kT ks sk sv [.ref (b 30)] (wC kI kT b g cd so sq q x c v y c2 v2 pa d u) (fun w w1 => SimP kI kT b x y pa (N9 + 1) ((z 14, va_up z 14 0, gg, r)) w w1) := by
  refine MX.go (by decide +kernel) (Nat.le_of_ble_eq_true rfl) ?_
  intro p e s m below meth c0 args Q ls A hQ hx hb hr hml hown hts hlocks hE hP hD hS hl
  have hl : lv_has ls 2 [(0, .ref (b 30))] := hl
  have hown : s.vm.findClass RX7 = some m.cls := hown
  obtain ⟨hTi, hWg, hSeI, hPgI, hCt, hKp⟩ := hI
  have ⟨hv1, hz1, hn5, e2, e3, e4, e5, e6, e7, e8, hok, hC, hF⟩ := hTi
  have ⟨w50, w51, w52, w53, w57, w58, w59⟩ := hWg
  have ⟨hv10, hz10, hsn, hSe⟩ := hSeI
  have ⟨hg14, hz14, hpn, hPg⟩ := hPgI
  have ⟨hg0, hz0, hhN, hN, hg9, hz9, hbt⟩ := hCt
  have hcd : ∀ k, k < pn → inR (cd k) 32 126 := fun k hk => (hPg k hk).2
  refine lv_aload_n (pc := 0) hx hb dX7_blank_0 rfl (lv_at hl 0 rfl) ?_
  refine fget (pc := 1) (v := .ref (b 31)) hx hb hts hown hE hP fl_X7_10 0 rfl rfl dX7_blank_1 ?_
  refine fget (pc := 4) (v := .int (g 14)) hx hb hts hown hE hP fl_X7_48 1 rfl rfl dX7_blank_4 ?_
  refine vEq (v := nI pn) hg14 ?_
  refine lv_istore_n (pc := 7) (lv' := [(1, .int (nI pn)), (0, .ref (b 30))]) hx hb dX7_blank_7 rfl hl (by decide) rfl (fun ls hl => ?_)
  refine lv_aload_n (pc := 8) hx hb dX7_blank_8 rfl (lv_at hl 1 rfl) ?_
  refine fget (pc := 9) (v := .ref (b 31)) hx hb hts hown hE hP fl_X7_10 0 rfl rfl dX7_blank_9 ?_
  refine lv_iconst (pc := 12) (v := 0) hx hb dX7_blank_12 (by decide) ?_
  refine fput (pc := 13) (v := .int 0) hx hb hts hown hE hP hD hS fp_X7_48 1 rfl rfl rfl (Nat.le_of_ble_eq_true rfl) dX7_blank_13 (fun H locs hP hD hS => ?_)
  have hP : va_P D vwCl (wC kI kT b (va_up g 14 0) cd so sq q x c v y c2 v2 pa d u) H := hP
  have hD : va_D A (wC kI kT b (va_up g 14 0) cd so sq q x c v y c2 v2 pa d u) := hD
  refine lv_iload_n (pc := 16) hx hb dX7_blank_16 rfl (lv_at hl 0 rfl) ?_
  have hR : (z 14, va_up z 14 0, gg, r) = (nI pn, va_up z 14 0, gg, r) := by rw [hz14]
  rw [hQ]; exact W.iret (pc := 17) hx hb hr (fun t9 ht _ => ⟨⟨_, (wC kI kT b (va_up g 14 0) cd so sq q x c v y c2 v2 pa d u), rfl, by rw [ht]; exact hP, ⟨nn, sn, 0, h9, bt, (va_up g 14 0), cd, so, sq, q, c, v, c2, v2, d, u, by rw [hR], rfl, by rw [hR]; exact ⟨hTi, hWg, hSeI, ⟨rfl, rfl, by omega, fun k hk => absurd hk (Nat.not_lt_zero k)⟩, ct_w hCt hN1, hKp⟩⟩, rfl⟩, hS.F ht⟩) hS.2.2 dX7_blank_17 hlocks
set_option maxRecDepth 100000 in
set_option maxHeartbeats 4000000 in
theorem k_X7_forget_s {b : Nat → Nat} {g : Nat → Int32} {cd : Nat → Int32} {so : Nat → Int32} {sq : Nat → Int32} {q : Nat → Int32} {x : Nat → Nat} {c : Nat → Nat → Int32} {v : Nat → Int32} {y : Nat → Nat} {c2 : Nat → Nat → Int32} {v2 : Nat → Int32} {pa : Nat → Nat} {d : Nat → Nat → Int32} {u : Nat → Int32} {nn : Nat} {sn : Nat} {pn : Nat} {h9 : Nat} {bt : Nat} {N9 : Nat} {z : Nat → Int32} {gg : Nat → Int64} {r : Nat → Nat → Int32} (hI : Inv nn sn pn h9 bt N9 g cd c v c2 v2 z r) (hN1 : N9 + 1 < 100000) : MX l yX7_forget cX7_forget 2 (some .int) 0 0 D kB kI kT ks sk sv [.ref (b 30)] (wC kI kT b g cd so sq q x c v y c2 v2 pa d u) (fun w w1 => SimP kI kT b x y pa (N9 + 1) ((z 10, va_up z 10 0, gg, r)) w w1) := by
  refine MX.go (by decide +kernel) (Nat.le_of_ble_eq_true rfl) ?_
  intro p e s m below meth c0 args Q ls A hQ hx hb hr hml hown hts hlocks hE hP hD hS hl
  have hl : lv_has ls 2 [(0, .ref (b 30))] := hl
  have hown : s.vm.findClass RX7 = some m.cls := hown
  obtain ⟨hTi, hWg, hSeI, hPgI, hCt, hKp⟩ := hI
  have ⟨hv1, hz1, hn5, e2, e3, e4, e5, e6, e7, e8, hok, hC, hF⟩ := hTi
  have ⟨w50, w51, w52, w53, w57, w58, w59⟩ := hWg
  have ⟨hv10, hz10, hsn, hSe⟩ := hSeI
  have ⟨hg14, hz14, hpn, hPg⟩ := hPgI
  have ⟨hg0, hz0, hhN, hN, hg9, hz9, hbt⟩ := hCt
  have hcd : ∀ k, k < pn → inR (cd k) 32 126 := fun k hk => (hPg k hk).2
  refine lv_aload_n (pc := 0) hx hb dX7_forget_0 rfl (lv_at hl 0 rfl) ?_
  refine fget (pc := 1) (v := .ref (x 14)) hx hb hts hown hE hP fl_X7_19 0 rfl rfl dX7_forget_1 ?_
  refine fget (pc := 4) (v := .ref (x 15)) hx hb hts hown hE hP fl_X7_76 6 rfl rfl dX7_forget_4 ?_
  refine fget (pc := 7) (v := .int (v 10)) hx hb hts hown hE hP fl_X7_80 21 rfl rfl dX7_forget_7 ?_
  refine vEq (v := nI sn) hv10 ?_
  refine lv_istore_n (pc := 10) (lv' := [(1, .int (nI sn)), (0, .ref (b 30))]) hx hb dX7_forget_10 rfl hl (by decide) rfl (fun ls hl => ?_)
  refine lv_aload_n (pc := 11) hx hb dX7_forget_11 rfl (lv_at hl 1 rfl) ?_
  refine fget (pc := 12) (v := .ref (x 14)) hx hb hts hown hE hP fl_X7_19 0 rfl rfl dX7_forget_12 ?_
  refine fget (pc := 15) (v := .ref (x 15)) hx hb hts hown hE hP fl_X7_76 6 rfl rfl dX7_forget_15 ?_
  refine lv_iconst (pc := 18) (v := 0) hx hb dX7_forget_18 (by decide) ?_
  refine fput (pc := 19) (v := .int 0) hx hb hts hown hE hP hD hS fp_X7_80 21 rfl rfl rfl (Nat.le_of_ble_eq_true rfl) dX7_forget_19 (fun H locs hP hD hS => ?_)
  have hP : va_P D vwCl (wC kI kT b g cd so sq q x c (va_up v 10 0) y c2 v2 pa d u) H := hP
  have hD : va_D A (wC kI kT b g cd so sq q x c (va_up v 10 0) y c2 v2 pa d u) := hD
  refine lv_iload_n (pc := 22) hx hb dX7_forget_22 rfl (lv_at hl 0 rfl) ?_
  have hR : (z 10, va_up z 10 0, gg, r) = (nI sn, va_up z 10 0, gg, r) := by rw [hz10]
  rw [hQ]; exact W.iret (pc := 23) hx hb hr (fun t9 ht _ => ⟨⟨_, (wC kI kT b g cd so sq q x c (va_up v 10 0) y c2 v2 pa d u), rfl, by rw [ht]; exact hP, ⟨nn, 0, pn, h9, bt, g, cd, so, sq, q, c, (va_up v 10 0), c2, v2, d, u, by rw [hR], rfl, by rw [hR]; exact ⟨hTi, hWg, ⟨rfl, rfl, by omega, fun k hk => absurd hk (Nat.not_lt_zero k)⟩, hPgI, ct_w hCt hN1, hKp⟩⟩, rfl⟩, hS.F ht⟩) hS.2.2 dX7_forget_23 hlocks
end
