section
variable {l : Launch} {D : va_G} {kB kI kT : ClassId} {ks sk sv : Nat}
set_option maxRecDepth 100000 in
set_option maxHeartbeats 4000000 in
theorem k_X7_hasHouse {b : Nat → Nat} {g : Nat → Int32} {cd : Nat → Int32} {so : Nat → Int32} {sq : Nat → Int32} {q : Nat → Int32} {x : Nat → Nat} {c : Nat → Nat → Int32} {v : Nat → Int32} {y : Nat → Nat} {c2 : Nat → Nat → Int32} {v2 : Nat → Int32} {pa : Nat → Nat} {d : Nat → Nat → Int32} {u : Nat → Int32} {nn : Nat} (hv1 : v 1 = nI nn) (hn5 : nn ≤ 5) : MR l yX7_hasHouse cX7_hasHouse 1 (some .boolean) 0 0 D kB kI kT ks sk sv [.ref (b 30)] (wC kI kT b g cd so sq q x c v y c2 v2 pa d u) (some (.int (bi (0 < nn)))) := by
  refine MR.go (by decide +kernel) (Nat.le_of_ble_eq_true rfl) ?_
  intro p e s m below meth c0 args Q ls hQ hx hb hr hml hown hts hlocks hE hP hS hl
  have hl : lv_has ls 1 [(0, .ref (b 30))] := hl
  have hown : s.vm.findClass RX7 = some m.cls := hown
  refine lv_aload_n (pc := 0) hx hb dX7_hasHouse_0 rfl (lv_at hl 0 rfl) ?_
  refine fget (pc := 1) (v := .ref (x 14)) hx hb hts hown hE hP fl_X7_19 0 rfl rfl dX7_hasHouse_1 ?_
  refine fget (pc := 4) (v := .ref (x 7)) hx hb hts hown hE hP fl_X7_28 6 rfl rfl dX7_hasHouse_4 ?_
  refine fget (pc := 7) (v := .int (v 1)) hx hb hts hown hE hP fl_X7_92 14 rfl rfl dX7_hasHouse_7 ?_
  refine vEq (v := nI nn) hv1 ?_
  refine lv_if_le (pc := 10) (tgt := 17) hx hb dX7_hasHouse_10 (by decide) (fun c_1 => ?_) (fun c_1 => ?_)
  · skip
    have c_1n : nn ≤ 0 := (nI_leI (a := nn) (b := 0) (by omega) (by omega)).mp c_1
    refine lv_iconst (pc := 17) (v := 0) hx hb dX7_hasHouse_17 (by decide) ?_
    rw [hQ]; exact W.zret (pc := 18) hx hb hr rfl (fun t9 ht _ => ⟨retI (bi_f (by omega)), ht⟩) (fun _ h => nomatch h) dX7_hasHouse_18 hlocks
  · skip
    have c_1n : ¬ nn ≤ 0 := fun hh => c_1 ((nI_leI (a := nn) (b := 0) (by omega) (by omega)).mpr hh)
    refine lv_iconst (pc := 13) (v := 1) hx hb dX7_hasHouse_13 (by decide) ?_
    refine lv_goto (pc := 14) (tgt := 18) hx hb dX7_hasHouse_14 (by decide) ?_
    rw [hQ]; exact W.zret (pc := 18) hx hb hr rfl (fun t9 ht _ => ⟨retI (bi_t (by omega)), ht⟩) (fun _ h => nomatch h) dX7_hasHouse_18 hlocks
set_option maxRecDepth 100000 in
set_option maxHeartbeats 4000000 in
theorem k_X7_ofTitle {b : Nat → Nat} {g : Nat → Int32} {cd : Nat → Int32} {so : Nat → Int32} {sq : Nat → Int32} {q : Nat → Int32} {x : Nat → Nat} {c : Nat → Nat → Int32} {v : Nat → Int32} {y : Nat → Nat} {c2 : Nat → Nat → Int32} {v2 : Nat → Int32} {pa : Nat → Nat} {d : Nat → Nat → Int32} {u : Nat → Int32} (k : Nat) (what : Int32) {nn : Nat} {sn : Nat} {pn : Nat} {h9 : Nat} {bt : Nat} {N9 : Nat} {z : Nat → Int32} {gg : Nat → Int64} {r : Nat → Nat → Int32} (hI : Inv nn sn pn h9 bt N9 g cd c v c2 v2 z r) (hk : k < nn) : MR l yX7_ofTitle cX7_ofTitle 4 (some .int) 2 66 D kB kI kT ks sk sv [.ref (b 30), .int (nI k), .int what] (wC kI kT b g cd so sq q x c v y c2 v2 pa d u) (some (.int (titleS r sn k what))) := by
  refine MR.go (by decide +kernel) (Nat.le_of_ble_eq_true rfl) ?_
  intro p e s m below meth c0 args Q ls hQ hx hb hr hml hown hts hlocks hE hP hS hl
  have hl : lv_has ls 4 [(0, .ref (b 30)), (1, .int (nI k)), (2, .int what)] := hl
  have hown : s.vm.findClass RX7 = some m.cls := hown
  obtain ⟨hTi, hWg, hSeI, hPgI, hCt, hKp⟩ := hI
  have ⟨hv1, hz1, hn5, e2, e3, e4, e5, e6, e7, e8, hok, hC, hF⟩ := hTi
  have ⟨w50, w51, w52, w53, w57, w58, w59⟩ := hWg
  have ⟨hv10, hz10, hsn, hSe⟩ := hSeI
  have ⟨hg14, hz14, hpn, hPg⟩ := hPgI
  have ⟨hg0, hz0, hhN, hN, hg9, hz9, hbt⟩ := hCt
  have hcd : ∀ k, k < pn → inR (cd k) 32 126 := fun k hk => (hPg k hk).2
  refine lv_aload_n (pc := 0) hx hb dX7_ofTitle_0 rfl (lv_at hl 0 rfl) ?_
  refine fget (pc := 1) (v := .ref (x 14)) hx hb hts hown hE hP fl_X7_19 0 rfl rfl dX7_ofTitle_1 ?_
  refine fget (pc := 4) (v := .ref (x 7)) hx hb hts hown hE hP fl_X7_28 6 rfl rfl dX7_ofTitle_4 ?_
  refine lv_iload_n (pc := 7) hx hb dX7_ofTitle_7 rfl (lv_at hl 1 rfl) ?_
  refine rV (pc := 8) (rest := []) ⟨hx, hb, hml, hown, hts⟩ (k_X6_at (k := k) (x := x) (n := v 1) (c := c) (hk5 := (by omega))) cw_X7_114 ⟨(Nat.le_of_ble_eq_true rfl), (Nat.le_of_ble_eq_true rfl)⟩ hE hS (sub_P (wc := wTs kT x (v 1) c) hP [14, 15, 16, 17, 18, 19, 20] rfl) rfl rfl rfl rfl hl.1 rfl (Nat.le_of_ble_eq_true rfl) dX7_ofTitle_8 ⟨Nat.le_refl _, Nat.le_refl _⟩ ?_
  refine W.eq (g2 := F0 m 11 ls [.ref (x (9 + k))]) rfl ?_
  refine lv_astore_n (pc := 11) (lv' := [(3, .ref (x (9 + k))), (0, .ref (b 30)), (1, .int (nI k)), (2, .int what)]) hx hb dX7_ofTitle_11 rfl hl (by decide) rfl (fun ls hl => ?_)
  refine lv_iload_n (pc := 12) hx hb dX7_ofTitle_12 rfl (lv_at hl 3 rfl) ?_
  by_cases c_1 : what = 0
  · skip
    refine lv_tableIn (pc := 13) (off := 47) (tgt := 60) hx hb dX7_ofTitle_13 (by rw [c_1]; decide) (by rw [c_1]; decide) (by rw [c_1]; try rfl) (by decide) ?_
    refine lv_aload_n (pc := 60) hx hb dX7_ofTitle_60 rfl (lv_at hl 0 rfl) ?_
    refine fget (pc := 61) (v := .int ((c 2) k)) hx hb hts hown hE hP fl_X7_156 (16 + k) (wC_t (by omega)) rfl dX7_ofTitle_61 ?_
    rw [hQ]; exact W.iret (pc := 64) hx hb hr (fun t9 ht _ => ⟨retI (by rw [titleS, if_pos c_1, e2]), ht⟩) (fun _ h => nomatch h) dX7_ofTitle_64 hlocks
  by_cases c_2 : what = 1
  · skip
    refine lv_tableIn (pc := 13) (off := 52) (tgt := 65) hx hb dX7_ofTitle_13 (by rw [c_2]; decide) (by rw [c_2]; decide) (by rw [c_2]; try rfl) (by decide) ?_
    refine lv_aload_n (pc := 65) hx hb dX7_ofTitle_65 rfl (lv_at hl 0 rfl) ?_
    refine fget (pc := 66) (v := .int ((c 3) k)) hx hb hts hown hE hP fl_X7_217 (16 + k) (wC_t (by omega)) rfl dX7_ofTitle_66 ?_
    rw [hQ]; exact W.iret (pc := 69) hx hb hr (fun t9 ht _ => ⟨retI (by rw [titleS, if_neg c_1, if_pos c_2, e3]), ht⟩) (fun _ h => nomatch h) dX7_ofTitle_69 hlocks
  by_cases c_3 : what = 2
  · skip
    refine lv_tableIn (pc := 13) (off := 57) (tgt := 70) hx hb dX7_ofTitle_13 (by rw [c_3]; decide) (by rw [c_3]; decide) (by rw [c_3]; try rfl) (by decide) ?_
    refine lv_aload_n (pc := 70) hx hb dX7_ofTitle_70 rfl (lv_at hl 0 rfl) ?_
    refine fget (pc := 71) (v := .int ((c 4) k)) hx hb hts hown hE hP fl_X7_220 (16 + k) (wC_t (by omega)) rfl dX7_ofTitle_71 ?_
    rw [hQ]; exact W.iret (pc := 74) hx hb hr (fun t9 ht _ => ⟨retI (by rw [titleS, if_neg c_1, if_neg c_2, if_pos c_3, e4]), ht⟩) (fun _ h => nomatch h) dX7_ofTitle_74 hlocks
  by_cases c_4 : what = 3
  · skip
    refine lv_tableIn (pc := 13) (off := 62) (tgt := 75) hx hb dX7_ofTitle_13 (by rw [c_4]; decide) (by rw [c_4]; decide) (by rw [c_4]; try rfl) (by decide) ?_
    refine lv_aload_n (pc := 75) hx hb dX7_ofTitle_75 rfl (lv_at hl 0 rfl) ?_
    refine fget (pc := 76) (v := .int ((c 5) k)) hx hb hts hown hE hP fl_X7_150 (16 + k) (wC_t (by omega)) rfl dX7_ofTitle_76 ?_
    rw [hQ]; exact W.iret (pc := 79) hx hb hr (fun t9 ht _ => ⟨retI (by rw [titleS, if_neg c_1, if_neg c_2, if_neg c_3, if_pos c_4, e5]), ht⟩) (fun _ h => nomatch h) dX7_ofTitle_79 hlocks
  by_cases c_5 : what = 4
  · skip
    refine lv_tableIn (pc := 13) (off := 67) (tgt := 80) hx hb dX7_ofTitle_13 (by rw [c_5]; decide) (by rw [c_5]; decide) (by rw [c_5]; try rfl) (by decide) ?_
    refine lv_aload_n (pc := 80) hx hb dX7_ofTitle_80 rfl (lv_at hl 0 rfl) ?_
    refine fget (pc := 81) (v := .int ((c 6) k)) hx hb hts hown hE hP fl_X7_153 (16 + k) (wC_t (by omega)) rfl dX7_ofTitle_81 ?_
    rw [hQ]; exact W.iret (pc := 84) hx hb hr (fun t9 ht _ => ⟨retI (by rw [titleS, if_neg c_1, if_neg c_2, if_neg c_3, if_neg c_4, if_pos c_5, e6]), ht⟩) (fun _ h => nomatch h) dX7_ofTitle_84 hlocks
  by_cases c_6 : what = 5
  · skip
    refine lv_tableIn (pc := 13) (off := 72) (tgt := 85) hx hb dX7_ofTitle_13 (by rw [c_6]; decide) (by rw [c_6]; decide) (by rw [c_6]; try rfl) (by decide) ?_
    refine lv_aload_n (pc := 85) hx hb dX7_ofTitle_85 rfl (lv_at hl 0 rfl) ?_
    refine fget (pc := 86) (v := .int ((c 7) k)) hx hb hts hown hE hP fl_X7_223 (16 + k) (wC_t (by omega)) rfl dX7_ofTitle_86 ?_
    rw [hQ]; exact W.iret (pc := 89) hx hb hr (fun t9 ht _ => ⟨retI (by rw [titleS, if_neg c_1, if_neg c_2, if_neg c_3, if_neg c_4, if_neg c_5, if_pos c_6, e7]), ht⟩) (fun _ h => nomatch h) dX7_ofTitle_89 hlocks
  by_cases c_7 : what = 6
  · skip
    refine lv_tableIn (pc := 13) (off := 77) (tgt := 90) hx hb dX7_ofTitle_13 (by rw [c_7]; decide) (by rw [c_7]; decide) (by rw [c_7]; try rfl) (by decide) ?_
    refine lv_aload_n (pc := 90) hx hb dX7_ofTitle_90 rfl (lv_at hl 1 rfl) ?_
    refine fget (pc := 91) (v := .ref (x 14)) hx hb hts hown hE hP fl_X7_19 0 rfl rfl dX7_ofTitle_91 ?_
    refine fget (pc := 94) (v := .ref (x 0)) hx hb hts hown hE hP fl_X7_70 6 rfl rfl dX7_ofTitle_94 ?_
    refine lv_iload_n (pc := 97) hx hb dX7_ofTitle_97 rfl (lv_at hl 2 rfl) ?_
    refine rV (pc := 98) (rest := []) ⟨hx, hb, hml, hown, hts⟩ (k_X1_timesOf (k := k) (pa := x) (d := c) (u := v) (x := x) (n := v 1) (c := c) (hk5 := (by omega))) cw_X7_226 ⟨(Nat.le_of_ble_eq_true rfl), (Nat.le_of_ble_eq_true rfl)⟩ hE hS (sub_P (wc := wPl kI kT x c v x (v 1) c) hP [7, 8, 9, 10, 11, 12, 13, 14, 15, 16, 17, 18, 19, 20] rfl) rfl rfl rfl rfl hl.1 rfl (Nat.le_of_ble_eq_true rfl) dX7_ofTitle_98 ⟨Nat.le_refl _, Nat.le_refl _⟩ ?_
    refine W.eq (g2 := F0 m 101 ls [.int ((c 52) k)]) rfl ?_
    rw [hQ]; exact W.iret (pc := 101) hx hb hr (fun t9 ht _ => ⟨retI (by rw [titleS, if_neg c_1, if_neg c_2, if_neg c_3, if_neg c_4, if_neg c_5, if_neg c_6, if_pos c_7, w52 k (by omega), e8]), ht⟩) (fun _ h => nomatch h) dX7_ofTitle_101 hlocks
  by_cases c_8 : what = 7
  · skip
    refine lv_tableIn (pc := 13) (off := 89) (tgt := 102) hx hb dX7_ofTitle_13 (by rw [c_8]; decide) (by rw [c_8]; decide) (by rw [c_8]; try rfl) (by decide) ?_
    refine lv_aload_n (pc := 102) hx hb dX7_ofTitle_102 rfl (lv_at hl 1 rfl) ?_
    refine fget (pc := 103) (v := .ref (x 14)) hx hb hts hown hE hP fl_X7_19 0 rfl rfl dX7_ofTitle_103 ?_
    refine fget (pc := 106) (v := .ref (x 15)) hx hb hts hown hE hP fl_X7_76 6 rfl rfl dX7_ofTitle_106 ?_
    refine lv_iload_n (pc := 109) hx hb dX7_ofTitle_109 rfl (lv_at hl 2 rfl) ?_
    refine rV (pc := 110) (rest := []) ⟨hx, hb, hml, hown, hts⟩ (k_X4_sortsOf (t := nI k) (x := x) (c := c) (sz := v 10) (sn := sn) (hsz := hv10) (hsn := hsn)) cw_X7_229 ⟨(Nat.le_of_ble_eq_true rfl), (Nat.le_of_ble_eq_true rfl)⟩ hE hS (sub_P (wc := wSe kI x c (v 10)) hP [21, 22, 23] rfl) rfl rfl rfl rfl hl.1 rfl (Nat.le_of_ble_eq_true rfl) dX7_ofTitle_110 ⟨Nat.le_refl _, Nat.le_refl _⟩ ?_
    refine W.eq (g2 := F0 m 113 ls [.int (andS (c 11) (c 12) (nI k) sn)]) rfl ?_
    rw [hQ]; exact W.iret (pc := 113) hx hb hr (fun t9 ht _ => ⟨retI (by rw [titleS, if_neg c_1, if_neg c_2, if_neg c_3, if_neg c_4, if_neg c_5, if_neg c_6, if_neg c_7, if_pos c_8]; exact sorts_eq hSe), ht⟩) (fun _ h => nomatch h) dX7_ofTitle_113 hlocks
  refine lv_tableOut (pc := 13) (tgt := 114) hx hb dX7_ofTitle_13 (by (have q0 : ¬ what.toInt = 0 := fun q => c_1 (Int32.toInt_inj.mp (q.trans rfl)); have q1 : ¬ what.toInt = 1 := fun q => c_2 (Int32.toInt_inj.mp (q.trans rfl)); have q2 : ¬ what.toInt = 2 := fun q => c_3 (Int32.toInt_inj.mp (q.trans rfl)); have q3 : ¬ what.toInt = 3 := fun q => c_4 (Int32.toInt_inj.mp (q.trans rfl)); have q4 : ¬ what.toInt = 4 := fun q => c_5 (Int32.toInt_inj.mp (q.trans rfl)); have q5 : ¬ what.toInt = 5 := fun q => c_6 (Int32.toInt_inj.mp (q.trans rfl)); have q6 : ¬ what.toInt = 6 := fun q => c_7 (Int32.toInt_inj.mp (q.trans rfl)); have q7 : ¬ what.toInt = 7 := fun q => c_8 (Int32.toInt_inj.mp (q.trans rfl)); omega)) (by decide) ?_
  refine lv_aload_n (pc := 114) hx hb dX7_ofTitle_114 rfl (lv_at hl 1 rfl) ?_
  refine fget (pc := 115) (v := .ref (x 14)) hx hb hts hown hE hP fl_X7_19 0 rfl rfl dX7_ofTitle_115 ?_
  refine fget (pc := 118) (v := .ref (x 15)) hx hb hts hown hE hP fl_X7_76 6 rfl rfl dX7_ofTitle_118 ?_
  refine lv_iload_n (pc := 121) hx hb dX7_ofTitle_121 rfl (lv_at hl 2 rfl) ?_
  refine rV (pc := 122) (rest := []) ⟨hx, hb, hml, hown, hts⟩ (k_X4_sortsOf (t := nI k) (x := x) (c := c) (sz := v 10) (sn := sn) (hsz := hv10) (hsn := hsn)) cw_X7_229 ⟨(Nat.le_of_ble_eq_true rfl), (Nat.le_of_ble_eq_true rfl)⟩ hE hS (sub_P (wc := wSe kI x c (v 10)) hP [21, 22, 23] rfl) rfl rfl rfl rfl hl.1 rfl (Nat.le_of_ble_eq_true rfl) dX7_ofTitle_122 ⟨Nat.le_refl _, Nat.le_refl _⟩ ?_
  refine W.eq (g2 := F0 m 125 ls [.int (andS (c 11) (c 12) (nI k) sn)]) rfl ?_
  refine rS (pc := 125) (rest := []) ⟨hx, hb, hml, hown, hts⟩ (k_X7_ask (v := andS (c 11) (c 12) (nI k) sn)) cw_X7_232 ⟨(Nat.le_of_ble_eq_true rfl), (Nat.le_of_ble_eq_true rfl)⟩ hE hS wc0 rfl hl.1 rfl (Nat.le_of_ble_eq_true rfl) dX7_ofTitle_125 ⟨Nat.le_refl _, Nat.le_refl _⟩ ?_
  refine W.eq (g2 := F0 m 128 ls [.int (askCS (andS (c 11) (c 12) (nI k) sn))]) rfl ?_
  rw [hQ]; exact W.iret (pc := 128) hx hb hr (fun t9 ht _ => ⟨retI (by rw [titleS, if_neg c_1, if_neg c_2, if_neg c_3, if_neg c_4, if_neg c_5, if_neg c_6, if_neg c_7, if_neg c_8]; exact ask_eq hSe), ht⟩) (fun _ h => nomatch h) dX7_ofTitle_128 hlocks
set_option maxRecDepth 100000 in
set_option maxHeartbeats 4000000 in
theorem k_X7_ofNight {b : Nat → Nat} {g : Nat → Int32} {cd : Nat → Int32} {so : Nat → Int32} {sq : Nat → Int32} {q : Nat → Int32} {x : Nat → Nat} {c : Nat → Nat → Int32} {v : Nat → Int32} {y : Nat → Nat} {c2 : Nat → Nat → Int32} {v2 : Nat → Int32} {pa : Nat → Nat} {d : Nat → Nat → Int32} {u : Nat → Int32} (i : Nat) (what : Int32) {nn : Nat} {sn : Nat} {pn : Nat} {h9 : Nat} {bt : Nat} {N9 : Nat} {z : Nat → Int32} {gg : Nat → Int64} {r : Nat → Nat → Int32} (hI : Inv nn sn pn h9 bt N9 g cd c v c2 v2 z r) (hi : i < 12) : MR l yX7_ofNight cX7_ofNight 3 (some .int) 0 0 D kB kI kT ks sk sv [.ref (b 30), .int (nI i), .int what] (wC kI kT b g cd so sq q x c v y c2 v2 pa d u) (some (.int (nightS r i what))) := by
  refine MR.go (by decide +kernel) (Nat.le_of_ble_eq_true rfl) ?_
  intro p e s m below meth c0 args Q ls hQ hx hb hr hml hown hts hlocks hE hP hS hl
  have hl : lv_has ls 3 [(0, .ref (b 30)), (1, .int (nI i)), (2, .int what)] := hl
  have hown : s.vm.findClass RX7 = some m.cls := hown
  obtain ⟨hTi, hWg, hSeI, hPgI, hCt, hKp⟩ := hI
  have ⟨hv1, hz1, hn5, e2, e3, e4, e5, e6, e7, e8, hok, hC, hF⟩ := hTi
  have ⟨w50, w51, w52, w53, w57, w58, w59⟩ := hWg
  have ⟨hv10, hz10, hsn, hSe⟩ := hSeI
  have ⟨hg14, hz14, hpn, hPg⟩ := hPgI
  have ⟨hg0, hz0, hhN, hN, hg9, hz9, hbt⟩ := hCt
  have hcd : ∀ k, k < pn → inR (cd k) 32 126 := fun k hk => (hPg k hk).2
  refine lv_iload_n (pc := 0) hx hb dX7_ofNight_0 rfl (lv_at hl 2 rfl) ?_
  refine lv_if_ne (pc := 1) (tgt := 17) hx hb dX7_ofNight_1 (by decide) (fun c_1 => ?_) (fun c_1 => ?_)
  · skip
    refine lv_iload_n (pc := 17) hx hb dX7_ofNight_17 rfl (lv_at hl 2 rfl) ?_
    refine lv_iconst (pc := 18) (v := 1) hx hb dX7_ofNight_18 (by decide) ?_
    refine lv_icmp_ne (pc := 19) (tgt := 37) hx hb dX7_ofNight_19 (by decide) (fun c_2 => ?_) (fun c_2 => ?_)
    · skip
      refine lv_aload_n (pc := 37) hx hb dX7_ofNight_37 rfl (lv_at hl 0 rfl) ?_
      refine fget (pc := 38) (v := .ref (x 14)) hx hb hts hown hE hP fl_X7_19 0 rfl rfl dX7_ofNight_38 ?_
      refine fget (pc := 41) (v := .ref (x 0)) hx hb hts hown hE hP fl_X7_70 6 rfl rfl dX7_ofNight_41 ?_
      refine fget (pc := 44) (v := .ref (x 3)) hx hb hts hown hE hP fl_X7_238 7 rfl rfl dX7_ofNight_44 ?_
      refine lv_iload_n (pc := 47) hx hb dX7_ofNight_47 rfl (lv_at hl 1 rfl) ?_
      refine aldN (pc := 48) (f := c 51) hx hb hE hP 10 rfl (i) (by omega) (by omega) dX7_ofNight_48 ?_
      rw [hQ]; exact W.iret (pc := 49) hx hb hr (fun t9 ht _ => ⟨retI (by rw [nightS, if_neg c_1, if_neg c_2, w51 i hi, e2, e7, e8]), ht⟩) (fun _ h => nomatch h) dX7_ofNight_49 hlocks
    · skip
      refine lv_aload_n (pc := 22) hx hb dX7_ofNight_22 rfl (lv_at hl 0 rfl) ?_
      refine fget (pc := 23) (v := .ref (x 14)) hx hb hts hown hE hP fl_X7_19 0 rfl rfl dX7_ofNight_23 ?_
      refine fget (pc := 26) (v := .ref (x 0)) hx hb hts hown hE hP fl_X7_70 6 rfl rfl dX7_ofNight_26 ?_
      refine fget (pc := 29) (v := .ref (x 2)) hx hb hts hown hE hP fl_X7_235 7 rfl rfl dX7_ofNight_29 ?_
      refine lv_iload_n (pc := 32) hx hb dX7_ofNight_32 rfl (lv_at hl 1 rfl) ?_
      refine aldN (pc := 33) (f := c 50) hx hb hE hP 9 rfl (i) (by omega) (by omega) dX7_ofNight_33 ?_
      refine lv_goto (pc := 34) (tgt := 49) hx hb dX7_ofNight_34 (by decide) ?_
      rw [hQ]; exact W.iret (pc := 49) hx hb hr (fun t9 ht _ => ⟨retI (by rw [nightS, if_neg c_1, if_pos c_2, w50 i hi, e2, e3, e4, e5, e6, e8]), ht⟩) (fun _ h => nomatch h) dX7_ofNight_49 hlocks
  · skip
    refine lv_aload_n (pc := 4) hx hb dX7_ofNight_4 rfl (lv_at hl 0 rfl) ?_
    refine fget (pc := 5) (v := .ref (x 14)) hx hb hts hown hE hP fl_X7_19 0 rfl rfl dX7_ofNight_5 ?_
    refine fget (pc := 8) (v := .ref (x 0)) hx hb hts hown hE hP fl_X7_70 6 rfl rfl dX7_ofNight_8 ?_
    refine fget (pc := 11) (v := .ref (x 1)) hx hb hts hown hE hP fl_X7_129 7 rfl rfl dX7_ofNight_11 ?_
    refine lv_iload_n (pc := 14) hx hb dX7_ofNight_14 rfl (lv_at hl 1 rfl) ?_
    refine aldN (pc := 15) (f := c 8) hx hb hE hP 8 rfl (i) (by omega) (by omega) dX7_ofNight_15 ?_
    rw [hQ]; exact W.iret (pc := 16) hx hb hr (fun t9 ht _ => ⟨retI (by rw [nightS, if_pos c_1, e8]), ht⟩) (fun _ h => nomatch h) dX7_ofNight_16 hlocks
end
