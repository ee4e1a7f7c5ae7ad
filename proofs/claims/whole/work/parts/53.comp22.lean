section
variable {l : Launch} {D : va_G} {kB kI kT : ClassId} {ks sk sv : Nat}
set_option maxRecDepth 100000 in
set_option maxHeartbeats 4000000 in
theorem k_X7_rights_s {b : Nat → Nat} {g : Nat → Int32} {cd : Nat → Int32} {so : Nat → Int32} {sq : Nat → Int32} {q : Nat → Int32} {x : Nat → Nat} {c : Nat → Nat → Int32} {v : Nat → Int32} {y : Nat → Nat} {c2 : Nat → Nat → Int32} {v2 : Nat → Int32} {pa : Nat → Nat} {d : Nat → Nat → Int32} {u : Nat → Int32} (t : Int32) (fi : Int32) (la : Int32) {nn : Nat} {sn : Nat} {pn : Nat} {h9 : Nat} {bt : Nat} {N9 : Nat} {z : Nat → Int32} {gg : Nat → Int64} {r : Nat → Nat → Int32} (hI : Inv nn sn pn h9 bt N9 g cd c v c2 v2 z r) (hN1 : N9 + 1 < 100000) : MX l yX7_rights cX7_rights 5 (some .int) 4 92 D kB kI kT ks sk sv [.ref (b 30), .int t, .int fi, .int la] (wC kI kT b g cd so sq q x c v y c2 v2 pa d u) (fun w w1 => SimP kI kT b x y pa (N9 + 1) (R_rights z gg r t fi la) w w1) := by
  refine MX.go (by decide +kernel) (Nat.le_of_ble_eq_true rfl) ?_
  intro p e s m below meth c0 args Q ls A hQ hx hb hr hml hown hts hlocks hE hP hD hS hl
  have hl : lv_has ls 5 [(0, .ref (b 30)), (1, .int t), (2, .int fi), (3, .int la)] := hl
  have hown : s.vm.findClass RX7 = some m.cls := hown
  obtain ⟨hTi, hWg, hSeI, hPgI, hCt, hKp⟩ := hI
  have ⟨hv1, hz1, hn5, e2, e3, e4, e5, e6, e7, e8, hok, hC, hF⟩ := hTi
  have ⟨w50, w51, w52, w53, w57, w58, w59⟩ := hWg
  have ⟨hv10, hz10, hsn, hSe⟩ := hSeI
  have ⟨hg14, hz14, hpn, hPg⟩ := hPgI
  have ⟨hg0, hz0, hhN, hN, hg9, hz9, hbt⟩ := hCt
  have hcd : ∀ k, k < pn → inR (cd k) 32 126 := fun k hk => (hPg k hk).2
  have hvz : v 1 = z 1 := hv1.trans hz1.symm
  have hT : (¬ t < 0 ∧ ¬ v 1 ≤ t) ↔ inR t 0 (z 1 - 1) := by rw [← hvz]; exact has_iff hv1 hn5
  refine lv_aload_n (pc := 0) hx hb dX7_rights_0 rfl (lv_at hl 0 rfl) ?_
  refine fget (pc := 1) (v := .ref (x 14)) hx hb hts hown hE hP fl_X7_19 0 rfl rfl dX7_rights_1 ?_
  refine fget (pc := 4) (v := .ref (x 7)) hx hb hts hown hE hP fl_X7_28 6 rfl rfl dX7_rights_4 ?_
  refine lv_iload_n (pc := 7) hx hb dX7_rights_7 rfl (lv_at hl 1 rfl) ?_
  refine rV (pc := 8) (rest := []) ⟨hx, hb, hml, hown, hts⟩ (k_X6_has (t := t) (x := x) (n := v 1) (c := c)) cw_X7_104 ⟨(Nat.le_of_ble_eq_true rfl), (Nat.le_of_ble_eq_true rfl)⟩ hE hS (sub_P (wc := wTs kT x (v 1) c) hP [14, 15, 16, 17, 18, 19, 20] rfl) rfl rfl rfl rfl hl.1 rfl (Nat.le_of_ble_eq_true rfl) dX7_rights_8 ⟨Nat.le_refl _, Nat.le_refl _⟩ ?_
  refine W.eq (g2 := F0 m 11 ls [.int (bi (¬ t < 0 ∧ ¬ (v 1) ≤ t))]) rfl ?_
  refine bif_ne (pc := 11) (tgt := 17) hx hb dX7_rights_11 (by decide) (fun c_1 => ?_) (fun c_1 => ?_)
  · skip
    refine lv_iload_n (pc := 17) hx hb dX7_rights_17 rfl (lv_at hl 2 rfl) ?_
    refine lv_iload_n (pc := 18) hx hb dX7_rights_18 rfl (lv_at hl 3 rfl) ?_
    refine rS (pc := 19) (rest := []) ⟨hx, hb, hml, hown, hts⟩ (k_X7_isSpan (f := fi) (t := la)) cw_X7_146 ⟨(Nat.le_of_ble_eq_true rfl), (Nat.le_of_ble_eq_true rfl)⟩ hE hS wc0 rfl hl.1 rfl (Nat.le_of_ble_eq_true rfl) dX7_rights_19 ⟨Nat.le_refl _, Nat.le_refl _⟩ ?_
    refine W.eq (g2 := F0 m 22 ls [.int (bi (inR fi 0 11 ∧ inR la 0 11 ∧ ¬ la < fi))]) rfl ?_
    refine bif_ne (pc := 22) (tgt := 28) hx hb dX7_rights_22 (by decide) (fun c_2 => ?_) (fun c_2 => ?_)
    · skip
      obtain ⟨k, hk, htk⟩ := isT_nat hz1 hn5 (hT.mp c_1)
      refine lv_aload_n (pc := 28) hx hb dX7_rights_28 rfl (lv_at hl 0 rfl) ?_
      refine fget (pc := 29) (v := .ref (x 14)) hx hb hts hown hE hP fl_X7_19 0 rfl rfl dX7_rights_29 ?_
      refine fget (pc := 32) (v := .ref (x 7)) hx hb hts hown hE hP fl_X7_28 6 rfl rfl dX7_rights_32 ?_
      refine lv_iload_n (pc := 35) hx hb dX7_rights_35 rfl (lv_at hl 1 rfl) ?_
      refine vEq (v := nI k) htk ?_
      refine rV (pc := 36) (rest := []) ⟨hx, hb, hml, hown, hts⟩ (k_X6_at (k := k) (x := x) (n := v 1) (c := c) (hk5 := (by omega))) cw_X7_114 ⟨(Nat.le_of_ble_eq_true rfl), (Nat.le_of_ble_eq_true rfl)⟩ hE hS (sub_P (wc := wTs kT x (v 1) c) hP [14, 15, 16, 17, 18, 19, 20] rfl) rfl rfl rfl rfl hl.1 rfl (Nat.le_of_ble_eq_true rfl) dX7_rights_36 ⟨Nat.le_refl _, Nat.le_refl _⟩ ?_
      refine W.eq (g2 := F0 m 39 ls [.ref (x (9 + k))]) rfl ?_
      refine lv_astore (pc := 39) (lv' := [(4, .ref (x (9 + k))), (0, .ref (b 30)), (1, .int t), (2, .int fi), (3, .int la)]) hx hb dX7_rights_39 hl (by decide) rfl (fun ls hl => ?_)
      refine lv_aload (pc := 41) hx hb dX7_rights_41 (lv_at hl 0 rfl) ?_
      refine lv_iload_n (pc := 43) hx hb dX7_rights_43 rfl (lv_at hl 3 rfl) ?_
      refine fput (pc := 44) (v := .int fi) hx hb hts hown hE hP hD hS fp_X7_150 (16 + k) (wC_t (by omega)) rfl rfl (Nat.le_of_ble_eq_true rfl) dX7_rights_44 (fun H locs hP hD hS => ?_)
      have hP : va_P D vwCl (wC kI kT b g cd so sq q x (va_up c 5 (upd (c 5) k fi)) v y c2 v2 pa d u) H := by have q := hP; rw [wC_s3 (by omega)] at q; exact q
      have hD : va_D A (wC kI kT b g cd so sq q x (va_up c 5 (upd (c 5) k fi)) v y c2 v2 pa d u) := by have q := hD; rw [wC_s3 (by omega)] at q; exact q
      refine lv_aload (pc := 47) hx hb dX7_rights_47 (lv_at hl 0 rfl) ?_
      refine lv_iload_n (pc := 49) hx hb dX7_rights_49 rfl (lv_at hl 4 rfl) ?_
      refine fput (pc := 50) (v := .int la) hx hb hts hown hE hP hD hS fp_X7_153 (16 + k) (wC_t (by omega)) rfl rfl (Nat.le_of_ble_eq_true rfl) dX7_rights_50 (fun H locs hP hD hS => ?_)
      have hP : va_P D vwCl (wC kI kT b g cd so sq q x (va_up (va_up c 5 (upd (c 5) k fi)) 6 (upd (c 6) k la)) v y c2 v2 pa d u) H := by have q := hP; rw [wC_s4 (by omega)] at q; exact q
      have hD : va_D A (wC kI kT b g cd so sq q x (va_up (va_up c 5 (upd (c 5) k fi)) 6 (upd (c 6) k la)) v y c2 v2 pa d u) := by have q := hD; rw [wC_s4 (by omega)] at q; exact q
      refine lv_aload_n (pc := 53) hx hb dX7_rights_53 rfl (lv_at hl 1 rfl) ?_
      refine fget (pc := 54) (v := .ref (x 14)) hx hb hts hown hE hP fl_X7_19 0 rfl rfl dX7_rights_54 ?_
      refine fget (pc := 57) (v := .ref (x 0)) hx hb hts hown hE hP fl_X7_70 6 rfl rfl dX7_rights_57 ?_
      refine wV (pc := 60) (rest := []) ⟨hx, hb, hml, hown, hts⟩ (k_X1_weigh (pa := x) (d := (va_up (va_up c 5 (upd (c 5) k fi)) 6 (upd (c 6) k la))) (u := v) (x := x) (n := v 1) (c := (va_up (va_up c 5 (upd (c 5) k fi)) 6 (upd (c 6) k la))) (nn := nn) (hn := hv1) (hn5 := hn5) (hok := hok) (hC := hC)) cw_X7_133 ⟨(Nat.le_of_ble_eq_true rfl), (Nat.le_of_ble_eq_true rfl)⟩ hE hP hD hS [7, 8, 9, 10, 11, 12, 13, 14, 15, 16, 17, 18, 19, 20] (by decide) rfl rfl rfl rfl rfl rfl hl.1 rfl (Nat.le_of_ble_eq_true rfl) dX7_rights_60 ⟨Nat.le_refl _, Nat.le_refl _⟩ (fun H locs hP hD hS => ?_)
      rw [sp_CPl] at hP hD
      have hP : va_P D vwCl (wC kI kT b g cd so sq q x (va_up (va_up (va_up (va_up (va_up (va_up (va_up c 5 (upd (c 5) k fi)) 6 (upd (c 6) k la)) 50 (ovN (c 50) (brk (c 2) (c 3) (c 4) ((upd (c 5) k fi)) ((upd (c 6) k la)) (c 8)) 12)) 51 (ovN (c 51) (sts (c 2) (c 7) (c 8)) 12)) 52 (ovN (c 52) (fun t => nI (nOf (c 8) (nI t) 12)) 5)) 53 (ovN (c 53) (fun t => sumI (fun j => if (c 8) j = nI t ∧ brk (c 2) (c 3) (c 4) ((upd (c 5) k fi)) ((upd (c 6) k la)) (c 8) j = 0 then sts (c 2) (c 7) (c 8) j else 0) 12) 5)) 54 (lstC (c 4) (c 8) (ovN (c 54) (fun _ => -1) 5) 12)) (va_up (va_up (va_up v 57 (nI (cntP (fun j => 0 < brk (c 2) (c 3) (c 4) ((upd (c 5) k fi)) ((upd (c 6) k la)) (c 8) j) 12))) 58 (nI (cntP (fun j => (c 8) j = -1 ∨ 0 < brk (c 2) (c 3) (c 4) ((upd (c 5) k fi)) ((upd (c 6) k la)) (c 8) j) 12))) 59 (sumI (fun j => if brk (c 2) (c 3) (c 4) ((upd (c 5) k fi)) ((upd (c 6) k la)) (c 8) j = 0 then sts (c 2) (c 7) (c 8) j else 0) 12)) y c2 v2 pa d u) H := hP
      have hD : va_D A (wC kI kT b g cd so sq q x (va_up (va_up (va_up (va_up (va_up (va_up (va_up c 5 (upd (c 5) k fi)) 6 (upd (c 6) k la)) 50 (ovN (c 50) (brk (c 2) (c 3) (c 4) ((upd (c 5) k fi)) ((upd (c 6) k la)) (c 8)) 12)) 51 (ovN (c 51) (sts (c 2) (c 7) (c 8)) 12)) 52 (ovN (c 52) (fun t => nI (nOf (c 8) (nI t) 12)) 5)) 53 (ovN (c 53) (fun t => sumI (fun j => if (c 8) j = nI t ∧ brk (c 2) (c 3) (c 4) ((upd (c 5) k fi)) ((upd (c 6) k la)) (c 8) j = 0 then sts (c 2) (c 7) (c 8) j else 0) 12) 5)) 54 (lstC (c 4) (c 8) (ovN (c 54) (fun _ => -1) 5) 12)) (va_up (va_up (va_up v 57 (nI (cntP (fun j => 0 < brk (c 2) (c 3) (c 4) ((upd (c 5) k fi)) ((upd (c 6) k la)) (c 8) j) 12))) 58 (nI (cntP (fun j => (c 8) j = -1 ∨ 0 < brk (c 2) (c 3) (c 4) ((upd (c 5) k fi)) ((upd (c 6) k la)) (c 8) j) 12))) 59 (sumI (fun j => if brk (c 2) (c 3) (c 4) ((upd (c 5) k fi)) ((upd (c 6) k la)) (c 8) j = 0 then sts (c 2) (c 7) (c 8) j else 0) 12)) y c2 v2 pa d u) := hD
      refine W.eq (g2 := F0 m 63 ls []) rfl ?_
      refine lv_aload_n (pc := 63) hx hb dX7_rights_63 rfl (lv_at hl 1 rfl) ?_
      refine fget (pc := 64) (v := .ref (x 14)) hx hb hts hown hE hP fl_X7_19 0 rfl rfl dX7_rights_64 ?_
      refine fget (pc := 67) (v := .ref (x 0)) hx hb hts hown hE hP fl_X7_70 6 rfl rfl dX7_rights_67 ?_
      refine fget (pc := 70) (v := .int (nI (cntP (fun j => 0 < brk (c 2) (c 3) (c 4) ((upd (c 5) k fi)) ((upd (c 6) k la)) (c 8) j) 12))) hx hb hts hown hE hP fl_X7_136 7 rfl rfl dX7_rights_70 ?_
      have hR : R_rights z gg r t fi la = (nI (cntP (fun j => 0 < brk (c 2) (c 3) (c 4) ((upd (c 5) k fi)) ((upd (c 6) k la)) (c 8) j) 12), z, gg, va_up (va_up r 5 (upd (r 5) k fi)) 6 (upd (r 6) k la)) := by rw [R_rights, if_pos (hT.mp c_1), if_pos ⟨c_2.1, Int32.not_lt.mp c_2.2.2, c_2.2.1.2⟩, htk, ix_nI (by omega)]; exact congrArg (fun a9 => (a9, z, gg, va_up (va_up r 5 (upd (r 5) k fi)) 6 (upd (r 6) k la))) (congrArg nI (by rw [e2, e3, e4, e5, e6, e8]; rfl))
      rw [hQ]; exact W.iret (pc := 73) hx hb hr (fun t9 ht _ => ⟨⟨_, (wC kI kT b g cd so sq q x (va_up (va_up (va_up (va_up (va_up (va_up (va_up c 5 (upd (c 5) k fi)) 6 (upd (c 6) k la)) 50 (ovN (c 50) (brk (c 2) (c 3) (c 4) ((upd (c 5) k fi)) ((upd (c 6) k la)) (c 8)) 12)) 51 (ovN (c 51) (sts (c 2) (c 7) (c 8)) 12)) 52 (ovN (c 52) (fun t => nI (nOf (c 8) (nI t) 12)) 5)) 53 (ovN (c 53) (fun t => sumI (fun j => if (c 8) j = nI t ∧ brk (c 2) (c 3) (c 4) ((upd (c 5) k fi)) ((upd (c 6) k la)) (c 8) j = 0 then sts (c 2) (c 7) (c 8) j else 0) 12) 5)) 54 (lstC (c 4) (c 8) (ovN (c 54) (fun _ => -1) 5) 12)) (va_up (va_up (va_up v 57 (nI (cntP (fun j => 0 < brk (c 2) (c 3) (c 4) ((upd (c 5) k fi)) ((upd (c 6) k la)) (c 8) j) 12))) 58 (nI (cntP (fun j => (c 8) j = -1 ∨ 0 < brk (c 2) (c 3) (c 4) ((upd (c 5) k fi)) ((upd (c 6) k la)) (c 8) j) 12))) 59 (sumI (fun j => if brk (c 2) (c 3) (c 4) ((upd (c 5) k fi)) ((upd (c 6) k la)) (c 8) j = 0 then sts (c 2) (c 7) (c 8) j else 0) 12)) y c2 v2 pa d u), rfl, by rw [ht]; exact hP, ⟨nn, sn, pn, h9, bt, g, cd, so, sq, q, (va_up (va_up (va_up (va_up (va_up (va_up (va_up c 5 (upd (c 5) k fi)) 6 (upd (c 6) k la)) 50 (ovN (c 50) (brk (c 2) (c 3) (c 4) ((upd (c 5) k fi)) ((upd (c 6) k la)) (c 8)) 12)) 51 (ovN (c 51) (sts (c 2) (c 7) (c 8)) 12)) 52 (ovN (c 52) (fun t => nI (nOf (c 8) (nI t) 12)) 5)) 53 (ovN (c 53) (fun t => sumI (fun j => if (c 8) j = nI t ∧ brk (c 2) (c 3) (c 4) ((upd (c 5) k fi)) ((upd (c 6) k la)) (c 8) j = 0 then sts (c 2) (c 7) (c 8) j else 0) 12) 5)) 54 (lstC (c 4) (c 8) (ovN (c 54) (fun _ => -1) 5) 12)), (va_up (va_up (va_up v 57 (nI (cntP (fun j => 0 < brk (c 2) (c 3) (c 4) ((upd (c 5) k fi)) ((upd (c 6) k la)) (c 8) j) 12))) 58 (nI (cntP (fun j => (c 8) j = -1 ∨ 0 < brk (c 2) (c 3) (c 4) ((upd (c 5) k fi)) ((upd (c 6) k la)) (c 8) j) 12))) 59 (sumI (fun j => if brk (c 2) (c 3) (c 4) ((upd (c 5) k fi)) ((upd (c 6) k la)) (c 8) j = 0 then sts (c 2) (c 7) (c 8) j else 0) 12)), c2, v2, d, u, by rw [hR], rfl, by rw [hR]; exact ⟨⟨hv1, hz1, hn5, e2, e3, e4, congrArg (fun a9 => upd a9 k fi) e5, congrArg (fun a9 => upd a9 k la) e6, e7, e8, hok, hC, hF⟩, wg_new, hSeI, hPgI, ct_w hCt hN1, hKp⟩⟩, rfl⟩, hS.F ht⟩) hS.2.2 dX7_rights_73 hlocks
    · skip
      refine lv_bipush (pc := 25) (v := (-102)) hx hb dX7_rights_25 (by decide) ?_
      have hR : R_rights z gg r t fi la = ((-102), z, gg, r) := by rw [R_rights, if_pos (hT.mp c_1), if_neg (fun q9 => c_2 ⟨q9.1, ⟨Int32.le_trans q9.1.1 q9.2.1, q9.2.2⟩, Int32.not_lt.mpr q9.2.1⟩)]
      rw [hQ]; exact W.iret (pc := 27) hx hb hr (fun t9 ht _ => ⟨⟨_, (wC kI kT b g cd so sq q x c v y c2 v2 pa d u), rfl, by rw [ht]; exact hP, ⟨nn, sn, pn, h9, bt, g, cd, so, sq, q, c, v, c2, v2, d, u, by rw [hR], rfl, by rw [hR]; exact ⟨hTi, hWg, hSeI, hPgI, ct_w hCt hN1, hKp⟩⟩, rfl⟩, hS.F ht⟩) hS.2.2 dX7_rights_27 hlocks
  · skip
    refine lv_bipush (pc := 14) (v := (-101)) hx hb dX7_rights_14 (by decide) ?_
    have hR : R_rights z gg r t fi la = ((-101), z, gg, r) := by rw [R_rights, if_neg (fun q9 => c_1 (hT.mpr q9))]
    rw [hQ]; exact W.iret (pc := 16) hx hb hr (fun t9 ht _ => ⟨⟨_, (wC kI kT b g cd so sq q x c v y c2 v2 pa d u), rfl, by rw [ht]; exact hP, ⟨nn, sn, pn, h9, bt, g, cd, so, sq, q, c, v, c2, v2, d, u, by rw [hR], rfl, by rw [hR]; exact ⟨hTi, hWg, hSeI, hPgI, ct_w hCt hN1, hKp⟩⟩, rfl⟩, hS.F ht⟩) hS.2.2 dX7_rights_16 hlocks
set_option maxRecDepth 100000 in
set_option maxHeartbeats 4000000 in
theorem k_X7_be_s {b : Nat → Nat} {g : Nat → Int32} {cd : Nat → Int32} {so : Nat → Int32} {sq : Nat → Int32} {q : Nat → Int32} {x : Nat → Nat} {c : Nat → Nat → Int32} {v : Nat → Int32} {y : Nat → Nat} {c2 : Nat → Nat → Int32} {v2 : Nat → Int32} {pa : Nat → Nat} {d : Nat → Nat → Int32} {u : Nat → Int32} (t : Int32) (kind : Int32) {nn : Nat} {sn : Nat} {pn : Nat} {h9 : Nat} {bt : Nat} {N9 : Nat} {z : Nat → Int32} {gg : Nat → Int64} {r : Nat → Nat → Int32} (hI : Inv nn sn pn h9 bt N9 g cd c v c2 v2 z r) (hN1 : N9 + 1 < 100000) : MX l yX7_be cX7_be 5 (some .int) 4 92 D kB kI kT ks sk sv [.ref (b 30), .int t, .int kind] (wC kI kT b g cd so sq q x c v y c2 v2 pa d u) (fun w w1 => SimP kI kT b x y pa (N9 + 1) (R_be z gg r t kind) w w1) := by
  refine MX.go (by decide +kernel) (Nat.le_of_ble_eq_true rfl) ?_
  intro p e s m below meth c0 args Q ls A hQ hx hb hr hml hown hts hlocks hE hP hD hS hl
  have hl : lv_has ls 5 [(0, .ref (b 30)), (1, .int t), (2, .int kind)] := hl
  have hown : s.vm.findClass RX7 = some m.cls := hown
  obtain ⟨hTi, hWg, hSeI, hPgI, hCt, hKp⟩ := hI
  have ⟨hv1, hz1, hn5, e2, e3, e4, e5, e6, e7, e8, hok, hC, hF⟩ := hTi
  have ⟨w50, w51, w52, w53, w57, w58, w59⟩ := hWg
  have ⟨hv10, hz10, hsn, hSe⟩ := hSeI
  have ⟨hg14, hz14, hpn, hPg⟩ := hPgI
  have ⟨hg0, hz0, hhN, hN, hg9, hz9, hbt⟩ := hCt
  have hcd : ∀ k, k < pn → inR (cd k) 32 126 := fun k hk => (hPg k hk).2
  have hvz : v 1 = z 1 := hv1.trans hz1.symm
  have hT : (¬ t < 0 ∧ ¬ v 1 ≤ t) ↔ inR t 0 (z 1 - 1) := by rw [← hvz]; exact has_iff hv1 hn5
  refine lv_aload_n (pc := 0) hx hb dX7_be_0 rfl (lv_at hl 0 rfl) ?_
  refine fget (pc := 1) (v := .ref (x 14)) hx hb hts hown hE hP fl_X7_19 0 rfl rfl dX7_be_1 ?_
  refine fget (pc := 4) (v := .ref (x 7)) hx hb hts hown hE hP fl_X7_28 6 rfl rfl dX7_be_4 ?_
  refine lv_iload_n (pc := 7) hx hb dX7_be_7 rfl (lv_at hl 1 rfl) ?_
  refine rV (pc := 8) (rest := []) ⟨hx, hb, hml, hown, hts⟩ (k_X6_has (t := t) (x := x) (n := v 1) (c := c)) cw_X7_104 ⟨(Nat.le_of_ble_eq_true rfl), (Nat.le_of_ble_eq_true rfl)⟩ hE hS (sub_P (wc := wTs kT x (v 1) c) hP [14, 15, 16, 17, 18, 19, 20] rfl) rfl rfl rfl rfl hl.1 rfl (Nat.le_of_ble_eq_true rfl) dX7_be_8 ⟨Nat.le_refl _, Nat.le_refl _⟩ ?_
  refine W.eq (g2 := F0 m 11 ls [.int (bi (¬ t < 0 ∧ ¬ (v 1) ≤ t))]) rfl ?_
  refine bif_ne (pc := 11) (tgt := 17) hx hb dX7_be_11 (by decide) (fun c_1 => ?_) (fun c_1 => ?_)
  · skip
    refine lv_iload_n (pc := 17) hx hb dX7_be_17 rfl (lv_at hl 2 rfl) ?_
    refine rS (pc := 18) (rest := []) ⟨hx, hb, hml, hown, hts⟩ (k_X7_isKind (k9 := kind)) cw_X7_111 ⟨(Nat.le_of_ble_eq_true rfl), (Nat.le_of_ble_eq_true rfl)⟩ hE hS wc0 rfl hl.1 rfl (Nat.le_of_ble_eq_true rfl) dX7_be_18 ⟨Nat.le_refl _, Nat.le_refl _⟩ ?_
    refine W.eq (g2 := F0 m 21 ls [.int (bi (inR kind 0 4))]) rfl ?_
    refine bif_ne (pc := 21) (tgt := 27) hx hb dX7_be_21 (by decide) (fun c_2 => ?_) (fun c_2 => ?_)
    · skip
      obtain ⟨k, hk, htk⟩ := isT_nat hz1 hn5 (hT.mp c_1)
      refine lv_aload_n (pc := 27) hx hb dX7_be_27 rfl (lv_at hl 0 rfl) ?_
      refine fget (pc := 28) (v := .ref (x 14)) hx hb hts hown hE hP fl_X7_19 0 rfl rfl dX7_be_28 ?_
      refine fget (pc := 31) (v := .ref (x 7)) hx hb hts hown hE hP fl_X7_28 6 rfl rfl dX7_be_31 ?_
      refine lv_iload_n (pc := 34) hx hb dX7_be_34 rfl (lv_at hl 1 rfl) ?_
      refine vEq (v := nI k) htk ?_
      refine rV (pc := 35) (rest := []) ⟨hx, hb, hml, hown, hts⟩ (k_X6_at (k := k) (x := x) (n := v 1) (c := c) (hk5 := (by omega))) cw_X7_114 ⟨(Nat.le_of_ble_eq_true rfl), (Nat.le_of_ble_eq_true rfl)⟩ hE hS (sub_P (wc := wTs kT x (v 1) c) hP [14, 15, 16, 17, 18, 19, 20] rfl) rfl rfl rfl rfl hl.1 rfl (Nat.le_of_ble_eq_true rfl) dX7_be_35 ⟨Nat.le_refl _, Nat.le_refl _⟩ ?_
      refine W.eq (g2 := F0 m 38 ls [.ref (x (9 + k))]) rfl ?_
      refine lv_astore_n (pc := 38) (lv' := [(3, .ref (x (9 + k))), (0, .ref (b 30)), (1, .int t), (2, .int kind)]) hx hb dX7_be_38 rfl hl (by decide) rfl (fun ls hl => ?_)
      refine lv_aload_n (pc := 39) hx hb dX7_be_39 rfl (lv_at hl 0 rfl) ?_
      refine fget (pc := 40) (v := .int ((c 2) k)) hx hb hts hown hE hP fl_X7_156 (16 + k) (wC_t (by omega)) rfl dX7_be_40 ?_
      refine lv_istore (pc := 43) (lv' := [(4, .int ((c 2) k)), (3, .ref (x (9 + k))), (0, .ref (b 30)), (1, .int t), (2, .int kind)]) hx hb dX7_be_43 hl (by decide) rfl (fun ls hl => ?_)
      refine lv_aload_n (pc := 45) hx hb dX7_be_45 rfl (lv_at hl 1 rfl) ?_
      refine lv_iload_n (pc := 46) hx hb dX7_be_46 rfl (lv_at hl 4 rfl) ?_
      refine fput (pc := 47) (v := .int kind) hx hb hts hown hE hP hD hS fp_X7_156 (16 + k) (wC_t (by omega)) rfl rfl (Nat.le_of_ble_eq_true rfl) dX7_be_47 (fun H locs hP hD hS => ?_)
      have hP : va_P D vwCl (wC kI kT b g cd so sq q x (va_up c 2 (upd (c 2) k kind)) v y c2 v2 pa d u) H := by have q := hP; rw [wC_s0 (by omega)] at q; exact q
      have hD : va_D A (wC kI kT b g cd so sq q x (va_up c 2 (upd (c 2) k kind)) v y c2 v2 pa d u) := by have q := hD; rw [wC_s0 (by omega)] at q; exact q
      refine lv_aload_n (pc := 50) hx hb dX7_be_50 rfl (lv_at hl 2 rfl) ?_
      refine fget (pc := 51) (v := .ref (x 14)) hx hb hts hown hE hP fl_X7_19 0 rfl rfl dX7_be_51 ?_
      refine fget (pc := 54) (v := .ref (x 0)) hx hb hts hown hE hP fl_X7_70 6 rfl rfl dX7_be_54 ?_
      refine wV (pc := 57) (rest := []) ⟨hx, hb, hml, hown, hts⟩ (k_X1_weigh (pa := x) (d := (va_up c 2 (upd (c 2) k kind))) (u := v) (x := x) (n := v 1) (c := (va_up c 2 (upd (c 2) k kind))) (nn := nn) (hn := hv1) (hn5 := hn5) (hok := hok) (hC := hC)) cw_X7_133 ⟨(Nat.le_of_ble_eq_true rfl), (Nat.le_of_ble_eq_true rfl)⟩ hE hP hD hS [7, 8, 9, 10, 11, 12, 13, 14, 15, 16, 17, 18, 19, 20] (by decide) rfl rfl rfl rfl rfl rfl hl.1 rfl (Nat.le_of_ble_eq_true rfl) dX7_be_57 ⟨Nat.le_refl _, Nat.le_refl _⟩ (fun H locs hP hD hS => ?_)
      rw [sp_CPl] at hP hD
      have hP : va_P D vwCl (wC kI kT b g cd so sq q x (va_up (va_up (va_up (va_up (va_up (va_up c 2 (upd (c 2) k kind)) 50 (ovN (c 50) (brk ((upd (c 2) k kind)) (c 3) (c 4) (c 5) (c 6) (c 8)) 12)) 51 (ovN (c 51) (sts ((upd (c 2) k kind)) (c 7) (c 8)) 12)) 52 (ovN (c 52) (fun t => nI (nOf (c 8) (nI t) 12)) 5)) 53 (ovN (c 53) (fun t => sumI (fun j => if (c 8) j = nI t ∧ brk ((upd (c 2) k kind)) (c 3) (c 4) (c 5) (c 6) (c 8) j = 0 then sts ((upd (c 2) k kind)) (c 7) (c 8) j else 0) 12) 5)) 54 (lstC (c 4) (c 8) (ovN (c 54) (fun _ => -1) 5) 12)) (va_up (va_up (va_up v 57 (nI (cntP (fun j => 0 < brk ((upd (c 2) k kind)) (c 3) (c 4) (c 5) (c 6) (c 8) j) 12))) 58 (nI (cntP (fun j => (c 8) j = -1 ∨ 0 < brk ((upd (c 2) k kind)) (c 3) (c 4) (c 5) (c 6) (c 8) j) 12))) 59 (sumI (fun j => if brk ((upd (c 2) k kind)) (c 3) (c 4) (c 5) (c 6) (c 8) j = 0 then sts ((upd (c 2) k kind)) (c 7) (c 8) j else 0) 12)) y c2 v2 pa d u) H := hP
      have hD : va_D A (wC kI kT b g cd so sq q x (va_up (va_up (va_up (va_up (va_up (va_up c 2 (upd (c 2) k kind)) 50 (ovN (c 50) (brk ((upd (c 2) k kind)) (c 3) (c 4) (c 5) (c 6) (c 8)) 12)) 51 (ovN (c 51) (sts ((upd (c 2) k kind)) (c 7) (c 8)) 12)) 52 (ovN (c 52) (fun t => nI (nOf (c 8) (nI t) 12)) 5)) 53 (ovN (c 53) (fun t => sumI (fun j => if (c 8) j = nI t ∧ brk ((upd (c 2) k kind)) (c 3) (c 4) (c 5) (c 6) (c 8) j = 0 then sts ((upd (c 2) k kind)) (c 7) (c 8) j else 0) 12) 5)) 54 (lstC (c 4) (c 8) (ovN (c 54) (fun _ => -1) 5) 12)) (va_up (va_up (va_up v 57 (nI (cntP (fun j => 0 < brk ((upd (c 2) k kind)) (c 3) (c 4) (c 5) (c 6) (c 8) j) 12))) 58 (nI (cntP (fun j => (c 8) j = -1 ∨ 0 < brk ((upd (c 2) k kind)) (c 3) (c 4) (c 5) (c 6) (c 8) j) 12))) 59 (sumI (fun j => if brk ((upd (c 2) k kind)) (c 3) (c 4) (c 5) (c 6) (c 8) j = 0 then sts ((upd (c 2) k kind)) (c 7) (c 8) j else 0) 12)) y c2 v2 pa d u) := hD
      refine W.eq (g2 := F0 m 60 ls []) rfl ?_
      refine lv_iload (pc := 60) hx hb dX7_be_60 (lv_at hl 0 rfl) ?_
      have hR : R_be z gg r t kind = ((c 2) k, z, gg, va_up r 2 (upd (r 2) k kind)) := by rw [R_be, if_pos (hT.mp c_1), if_pos c_2, htk, ix_nI (by omega), e2]
      rw [hQ]; exact W.iret (pc := 62) hx hb hr (fun t9 ht _ => ⟨⟨_, (wC kI kT b g cd so sq q x (va_up (va_up (va_up (va_up (va_up (va_up c 2 (upd (c 2) k kind)) 50 (ovN (c 50) (brk ((upd (c 2) k kind)) (c 3) (c 4) (c 5) (c 6) (c 8)) 12)) 51 (ovN (c 51) (sts ((upd (c 2) k kind)) (c 7) (c 8)) 12)) 52 (ovN (c 52) (fun t => nI (nOf (c 8) (nI t) 12)) 5)) 53 (ovN (c 53) (fun t => sumI (fun j => if (c 8) j = nI t ∧ brk ((upd (c 2) k kind)) (c 3) (c 4) (c 5) (c 6) (c 8) j = 0 then sts ((upd (c 2) k kind)) (c 7) (c 8) j else 0) 12) 5)) 54 (lstC (c 4) (c 8) (ovN (c 54) (fun _ => -1) 5) 12)) (va_up (va_up (va_up v 57 (nI (cntP (fun j => 0 < brk ((upd (c 2) k kind)) (c 3) (c 4) (c 5) (c 6) (c 8) j) 12))) 58 (nI (cntP (fun j => (c 8) j = -1 ∨ 0 < brk ((upd (c 2) k kind)) (c 3) (c 4) (c 5) (c 6) (c 8) j) 12))) 59 (sumI (fun j => if brk ((upd (c 2) k kind)) (c 3) (c 4) (c 5) (c 6) (c 8) j = 0 then sts ((upd (c 2) k kind)) (c 7) (c 8) j else 0) 12)) y c2 v2 pa d u), rfl, by rw [ht]; exact hP, ⟨nn, sn, pn, h9, bt, g, cd, so, sq, q, (va_up (va_up (va_up (va_up (va_up (va_up c 2 (upd (c 2) k kind)) 50 (ovN (c 50) (brk ((upd (c 2) k kind)) (c 3) (c 4) (c 5) (c 6) (c 8)) 12)) 51 (ovN (c 51) (sts ((upd (c 2) k kind)) (c 7) (c 8)) 12)) 52 (ovN (c 52) (fun t => nI (nOf (c 8) (nI t) 12)) 5)) 53 (ovN (c 53) (fun t => sumI (fun j => if (c 8) j = nI t ∧ brk ((upd (c 2) k kind)) (c 3) (c 4) (c 5) (c 6) (c 8) j = 0 then sts ((upd (c 2) k kind)) (c 7) (c 8) j else 0) 12) 5)) 54 (lstC (c 4) (c 8) (ovN (c 54) (fun _ => -1) 5) 12)), (va_up (va_up (va_up v 57 (nI (cntP (fun j => 0 < brk ((upd (c 2) k kind)) (c 3) (c 4) (c 5) (c 6) (c 8) j) 12))) 58 (nI (cntP (fun j => (c 8) j = -1 ∨ 0 < brk ((upd (c 2) k kind)) (c 3) (c 4) (c 5) (c 6) (c 8) j) 12))) 59 (sumI (fun j => if brk ((upd (c 2) k kind)) (c 3) (c 4) (c 5) (c 6) (c 8) j = 0 then sts ((upd (c 2) k kind)) (c 7) (c 8) j else 0) 12)), c2, v2, d, u, by rw [hR], rfl, by rw [hR]; exact ⟨⟨hv1, hz1, hn5, congrArg (fun a9 => upd a9 k kind) e2, e3, e4, e5, e6, e7, e8, hok, hC, hF⟩, wg_new, hSeI, hPgI, ct_w hCt hN1, hKp⟩⟩, rfl⟩, hS.F ht⟩) hS.2.2 dX7_be_62 hlocks
    · skip
      refine lv_bipush (pc := 24) (v := (-102)) hx hb dX7_be_24 (by decide) ?_
      have hR : R_be z gg r t kind = ((-102), z, gg, r) := by rw [R_be, if_pos (hT.mp c_1), if_neg c_2]
      rw [hQ]; exact W.iret (pc := 26) hx hb hr (fun t9 ht _ => ⟨⟨_, (wC kI kT b g cd so sq q x c v y c2 v2 pa d u), rfl, by rw [ht]; exact hP, ⟨nn, sn, pn, h9, bt, g, cd, so, sq, q, c, v, c2, v2, d, u, by rw [hR], rfl, by rw [hR]; exact ⟨hTi, hWg, hSeI, hPgI, ct_w hCt hN1, hKp⟩⟩, rfl⟩, hS.F ht⟩) hS.2.2 dX7_be_26 hlocks
  · skip
    refine lv_bipush (pc := 14) (v := (-101)) hx hb dX7_be_14 (by decide) ?_
    have hR : R_be z gg r t kind = ((-101), z, gg, r) := by rw [R_be, if_neg (fun q9 => c_1 (hT.mpr q9))]
    rw [hQ]; exact W.iret (pc := 16) hx hb hr (fun t9 ht _ => ⟨⟨_, (wC kI kT b g cd so sq q x c v y c2 v2 pa d u), rfl, by rw [ht]; exact hP, ⟨nn, sn, pn, h9, bt, g, cd, so, sq, q, c, v, c2, v2, d, u, by rw [hR], rfl, by rw [hR]; exact ⟨hTi, hWg, hSeI, hPgI, ct_w hCt hN1, hKp⟩⟩, rfl⟩, hS.F ht⟩) hS.2.2 dX7_be_16 hlocks
end
