section
variable {l : Launch} {D : va_G} {kB kI kT : ClassId} {ks sk sv : Nat}
set_option maxRecDepth 100000 in
set_option maxHeartbeats 4000000 in
theorem k_X7_see_s {b : Nat → Nat} {g : Nat → Int32} {cd : Nat → Int32} {so : Nat → Int32} {sq : Nat → Int32} {q : Nat → Int32} {x : Nat → Nat} {c : Nat → Nat → Int32} {v : Nat → Int32} {y : Nat → Nat} {c2 : Nat → Nat → Int32} {v2 : Nat → Int32} {pa : Nat → Nat} {d : Nat → Nat → Int32} {u : Nat → Int32} (t : Int32) (what : Int32) (could : Int32) {nn : Nat} {sn : Nat} {pn : Nat} {h9 : Nat} {bt : Nat} {N9 : Nat} {z : Nat → Int32} {gg : Nat → Int64} {r : Nat → Nat → Int32} (hI : Inv nn sn pn h9 bt N9 g cd c v c2 v2 z r) (hN1 : N9 + 1 < 100000) : MX l yX7_see cX7_see 4 (some .int) 1 22 D kB kI kT ks sk sv [.ref (b 30), .int t, .int what, .int could] (wC kI kT b g cd so sq q x c v y c2 v2 pa d u) (fun w w1 => SimP kI kT b x y pa (N9 + 1) (R_see z gg r sn t what could) w w1) := by
  refine MX.go (by decide +kernel) (Nat.le_of_ble_eq_true rfl) ?_
  intro p e s m below meth c0 args Q ls A hQ hx hb hr hml hown hts hlocks hE hP hD hS hl
  have hl : lv_has ls 4 [(0, .ref (b 30)), (1, .int t), (2, .int what), (3, .int could)] := hl
  have hown : s.vm.findClass RX7 = some m.cls := hown
  obtain ⟨hTi, hWg, hSeI, hPgI, hCt, hKp⟩ := hI
  have ⟨hv1, hz1, hn5, e2, e3, e4, e5, e6, e7, e8, hok, hC, hF⟩ := hTi
  have ⟨w50, w51, w52, w53, w57, w58, w59⟩ := hWg
  have ⟨hv10, hz10, hsn, hSe⟩ := hSeI
  have ⟨hg14, hz14, hpn, hPg⟩ := hPgI
  have ⟨hg0, hz0, hhN, hN, hg9, hz9, hbt⟩ := hCt
  have hcd : ∀ k, k < pn → inR (cd k) 32 126 := fun k hk => (hPg k hk).2
  have hvz : v 1 = z 1 := hv1.trans hz1.symm
  have hT : (¬ t < 0 ∧ ¬ v 1 ≤ t) ↔ inR t 0 (z 1 - 1) := by rw [← hvz]; exact has_iff hv1 hn5
  refine lv_aload_n (pc := 0) hx hb dX7_see_0 rfl (lv_at hl 0 rfl) ?_
  refine fget (pc := 1) (v := .ref (x 14)) hx hb hts hown hE hP fl_X7_19 0 rfl rfl dX7_see_1 ?_
  refine fget (pc := 4) (v := .ref (x 7)) hx hb hts hown hE hP fl_X7_28 6 rfl rfl dX7_see_4 ?_
  refine lv_iload_n (pc := 7) hx hb dX7_see_7 rfl (lv_at hl 1 rfl) ?_
  refine rV (pc := 8) (rest := []) ⟨hx, hb, hml, hown, hts⟩ (k_X6_has (t := t) (x := x) (n := v 1) (c := c)) cw_X7_104 ⟨(Nat.le_of_ble_eq_true rfl), (Nat.le_of_ble_eq_true rfl)⟩ hE hS (sub_P (wc := wTs kT x (v 1) c) hP [14, 15, 16, 17, 18, 19, 20] rfl) rfl rfl rfl rfl hl.1 rfl (Nat.le_of_ble_eq_true rfl) dX7_see_8 ⟨Nat.le_refl _, Nat.le_refl _⟩ ?_
  refine W.eq (g2 := F0 m 11 ls [.int (bi (¬ t < 0 ∧ ¬ (v 1) ≤ t))]) rfl ?_
  refine bif_ne (pc := 11) (tgt := 17) hx hb dX7_see_11 (by decide) (fun c_1 => ?_) (fun c_1 => ?_)
  · skip
    refine lv_iload_n (pc := 17) hx hb dX7_see_17 rfl (lv_at hl 2 rfl) ?_
    refine lv_if_lt (pc := 18) (tgt := 26) hx hb dX7_see_18 (by decide) (fun c_2 => ?_) (fun c_2 => ?_)
    · skip
      refine lv_bipush (pc := 26) (v := (-102)) hx hb dX7_see_26 (by decide) ?_
      have hR : R_see z gg r sn t what could = ((-102), z, gg, r) := by rw [R_see, if_pos (hT.mp c_1), if_neg (fun q => absurd c_2 (Int32.not_lt.mpr q.1))]
      rw [hQ]; exact W.iret (pc := 28) hx hb hr (fun t9 ht _ => ⟨⟨_, (wC kI kT b g cd so sq q x c v y c2 v2 pa d u), rfl, by rw [ht]; exact hP, ⟨nn, sn, pn, h9, bt, g, cd, so, sq, q, c, v, c2, v2, d, u, by rw [hR], rfl, by rw [hR]; exact ⟨hTi, hWg, hSeI, hPgI, ct_w hCt hN1, hKp⟩⟩, rfl⟩, hS.F ht⟩) hS.2.2 dX7_see_28 hlocks
    · skip
      refine lv_iload_n (pc := 21) hx hb dX7_see_21 rfl (lv_at hl 2 rfl) ?_
      refine lv_iconst (pc := 22) (v := 4) hx hb dX7_see_22 (by decide) ?_
      refine lv_icmp_lt (pc := 23) (tgt := 29) hx hb dX7_see_23 (by decide) (fun c_3 => ?_) (fun c_3 => ?_)
      · skip
        refine lv_aload_n (pc := 29) hx hb dX7_see_29 rfl (lv_at hl 0 rfl) ?_
        refine fget (pc := 30) (v := .ref (x 14)) hx hb hts hown hE hP fl_X7_19 0 rfl rfl dX7_see_30 ?_
        refine fget (pc := 33) (v := .ref (x 15)) hx hb hts hown hE hP fl_X7_76 6 rfl rfl dX7_see_33 ?_
        refine fget (pc := 36) (v := .int (v 10)) hx hb hts hown hE hP fl_X7_80 21 rfl rfl dX7_see_36 ?_
        refine vEq (v := nI sn) hv10 ?_
        refine lv_bipush (pc := 39) (v := 6) hx hb dX7_see_39 (by decide) ?_
        refine lv_icmp_lt (pc := 41) (tgt := 47) hx hb dX7_see_41 (by decide) (fun c_4 => ?_) (fun c_4 => ?_)
        · skip
          have c_4n : sn < 6 := (nI_ltI (a := sn) (b := 6) (by omega) (by omega)).mp c_4
          obtain ⟨w9, hw9, hwe⟩ : ∃ w9, w9 < 4 ∧ what = nI w9 := by obtain ⟨j9, h1, h2⟩ := nI_of2 (M := 3) (n := 3) rfl c_2 (lt_leN 3 (by omega) c_3); exact ⟨j9, by omega, h2⟩
          refine lv_aload_n (pc := 47) hx hb dX7_see_47 rfl (lv_at hl 0 rfl) ?_
          refine fget (pc := 48) (v := .ref (x 14)) hx hb hts hown hE hP fl_X7_19 0 rfl rfl dX7_see_48 ?_
          refine fget (pc := 51) (v := .ref (x 15)) hx hb hts hown hE hP fl_X7_76 6 rfl rfl dX7_see_51 ?_
          refine lv_iload_n (pc := 54) hx hb dX7_see_54 rfl (lv_at hl 1 rfl) ?_
          refine lv_iload_n (pc := 55) hx hb dX7_see_55 rfl (lv_at hl 2 rfl) ?_
          refine vEq (v := nI w9) hwe ?_
          refine lv_iload_n (pc := 56) hx hb dX7_see_56 rfl (lv_at hl 3 rfl) ?_
          refine rS (pc := 57) (rest := [.int t, .ref (x 15)]) ⟨hx, hb, hml, hown, hts⟩ (k_X7_kindsLeft (w := w9) (could := could) (hw := hw9)) cw_X7_184 ⟨(Nat.le_of_ble_eq_true rfl), (Nat.le_of_ble_eq_true rfl)⟩ hE hS wc0 rfl hl.1 rfl (Nat.le_of_ble_eq_true rfl) dX7_see_57 ⟨Nat.le_refl _, Nat.le_refl _⟩ ?_
          refine W.eq (g2 := F0 m 60 ls [.int (klS w9 could), .int t, .ref (x 15)]) rfl ?_
          refine wV (pc := 60) (rest := []) ⟨hx, hb, hml, hown, hts⟩ (k_X4_note (t := t) (lf := klS w9 could) (x := x) (c := c) (sz := v 10) (sn := sn) (hsz := hv10) (hsn := (by omega))) cw_X7_188 ⟨(Nat.le_of_ble_eq_true rfl), (Nat.le_of_ble_eq_true rfl)⟩ hE hP hD hS [21, 22, 23] (by decide) rfl rfl rfl rfl rfl rfl hl.1 rfl (Nat.le_of_ble_eq_true rfl) dX7_see_60 ⟨Nat.le_refl _, Nat.le_refl _⟩ (fun H locs hP hD hS => ?_)
          rw [sp_CSe] at hP hD
          have hP : va_P D vwCl (wC kI kT b g cd so sq q x (va_up (va_up c 11 (upd (c 11) sn t)) 12 (upd (c 12) sn (klS w9 could))) (va_up v 10 (nI (sn + 1))) y c2 v2 pa d u) H := hP
          have hD : va_D A (wC kI kT b g cd so sq q x (va_up (va_up c 11 (upd (c 11) sn t)) 12 (upd (c 12) sn (klS w9 could))) (va_up v 10 (nI (sn + 1))) y c2 v2 pa d u) := hD
          refine W.eq (g2 := F0 m 63 ls []) rfl ?_
          refine lv_aload_n (pc := 63) hx hb dX7_see_63 rfl (lv_at hl 0 rfl) ?_
          refine fget (pc := 64) (v := .ref (x 14)) hx hb hts hown hE hP fl_X7_19 0 rfl rfl dX7_see_64 ?_
          refine fget (pc := 67) (v := .ref (x 15)) hx hb hts hown hE hP fl_X7_76 6 rfl rfl dX7_see_67 ?_
          refine fget (pc := 70) (v := .int (nI (sn + 1))) hx hb hts hown hE hP fl_X7_80 21 rfl rfl dX7_see_70 ?_
          have hR : R_see z gg r sn t what could = (nI (sn + 1), va_up z 10 (nI (sn + 1)), gg, va_up (va_up (va_up r 11 (upd (r 11) sn t)) 12 (upd (r 12) sn what)) 13 (upd (r 13) sn (if could = 0 then 0 else 1))) := by rw [R_see, if_pos (hT.mp c_1), if_pos ⟨Int32.not_lt.mp c_2, lt_leN 3 (by omega) c_3⟩, if_neg (by omega)]
          rw [hQ]; exact W.iret (pc := 73) hx hb hr (fun t9 ht _ => ⟨⟨_, (wC kI kT b g cd so sq q x (va_up (va_up c 11 (upd (c 11) sn t)) 12 (upd (c 12) sn (klS w9 could))) (va_up v 10 (nI (sn + 1))) y c2 v2 pa d u), rfl, by rw [ht]; exact hP, ⟨nn, sn + 1, pn, h9, bt, g, cd, so, sq, q, (va_up (va_up c 11 (upd (c 11) sn t)) 12 (upd (c 12) sn (klS w9 could))), (va_up v 10 (nI (sn + 1))), c2, v2, d, u, by rw [hR], rfl, by rw [hR]; exact ⟨hTi, hWg, ⟨rfl, rfl, by omega, se_put hSe hw9 hwe⟩, hPgI, ct_w hCt hN1, hKp⟩⟩, rfl⟩, hS.F ht⟩) hS.2.2 dX7_see_73 hlocks
        · skip
          have c_4n : ¬ sn < 6 := fun hh => c_4 ((nI_ltI (a := sn) (b := 6) (by omega) (by omega)).mpr hh)
          refine lv_bipush (pc := 44) (v := (-104)) hx hb dX7_see_44 (by decide) ?_
          have hR : R_see z gg r sn t what could = ((-104), z, gg, r) := by rw [R_see, if_pos (hT.mp c_1), if_pos ⟨Int32.not_lt.mp c_2, lt_leN 3 (by omega) c_3⟩, if_pos (by omega)]
          rw [hQ]; exact W.iret (pc := 46) hx hb hr (fun t9 ht _ => ⟨⟨_, (wC kI kT b g cd so sq q x c v y c2 v2 pa d u), rfl, by rw [ht]; exact hP, ⟨nn, sn, pn, h9, bt, g, cd, so, sq, q, c, v, c2, v2, d, u, by rw [hR], rfl, by rw [hR]; exact ⟨hTi, hWg, hSeI, hPgI, ct_w hCt hN1, hKp⟩⟩, rfl⟩, hS.F ht⟩) hS.2.2 dX7_see_46 hlocks
      · skip
        refine lv_bipush (pc := 26) (v := (-102)) hx hb dX7_see_26 (by decide) ?_
        have hR : R_see z gg r sn t what could = ((-102), z, gg, r) := by rw [R_see, if_pos (hT.mp c_1), if_neg (fun q => c_3 (Int32.lt_of_le_of_lt q.2 (by decide)))]
        rw [hQ]; exact W.iret (pc := 28) hx hb hr (fun t9 ht _ => ⟨⟨_, (wC kI kT b g cd so sq q x c v y c2 v2 pa d u), rfl, by rw [ht]; exact hP, ⟨nn, sn, pn, h9, bt, g, cd, so, sq, q, c, v, c2, v2, d, u, by rw [hR], rfl, by rw [hR]; exact ⟨hTi, hWg, hSeI, hPgI, ct_w hCt hN1, hKp⟩⟩, rfl⟩, hS.F ht⟩) hS.2.2 dX7_see_28 hlocks
  · skip
    refine lv_bipush (pc := 14) (v := (-101)) hx hb dX7_see_14 (by decide) ?_
    have hR : R_see z gg r sn t what could = ((-101), z, gg, r) := by rw [R_see, if_neg (fun q9 => c_1 (hT.mpr q9))]
    rw [hQ]; exact W.iret (pc := 16) hx hb hr (fun t9 ht _ => ⟨⟨_, (wC kI kT b g cd so sq q x c v y c2 v2 pa d u), rfl, by rw [ht]; exact hP, ⟨nn, sn, pn, h9, bt, g, cd, so, sq, q, c, v, c2, v2, d, u, by rw [hR], rfl, by rw [hR]; exact ⟨hTi, hWg, hSeI, hPgI, ct_w hCt hN1, hKp⟩⟩, rfl⟩, hS.F ht⟩) hS.2.2 dX7_see_16 hlocks
end
