section
variable {l : Launch} {D : va_G} {kB kI kT : ClassId} {ks sk sv : Nat}
theorem kl_any {w : Nat} {could : Int32} : klS w could = klS w (if could = 0 then 0 else 1) := by
  unfold klS
  by_cases q : could = 0
  · rw [if_pos q, if_pos q]; rfl
  · rw [if_neg q, if_neg q]; rfl
theorem se_put {c11 c12 r11 r12 r13 : Nat → Int32} {sn w : Nat} {t what could : Int32} (h : ∀ k, k < sn → Seq1 c11 c12 r11 r12 r13 k) (hw : w < 4) (e : what = nI w) : ∀ k, k < sn + 1 → Seq1 (upd c11 sn t) (upd c12 sn (klS w could)) (upd r11 sn t) (upd r12 sn what) (upd r13 sn (if could = 0 then 0 else 1)) k := by
  intro k hk
  unfold Seq1
  by_cases q : k = sn
  · rw [q, pk_us, pk_us, pk_us, pk_us, pk_us]
    refine ⟨rfl, w, hw, e, ?_, kl_any⟩
    by_cases z : could = 0
    · rw [if_pos z]; exact Or.inl rfl
    · rw [if_neg z]; exact Or.inr rfl
  · rw [pk_un q, pk_un q, pk_un q, pk_un q, pk_un q]
    exact h k (by omega)
set_option maxRecDepth 100000 in
set_option maxHeartbeats 4000000 in
theorem k_X7_play_s {b : Nat → Nat} {g : Nat → Int32} {cd : Nat → Int32} {so : Nat → Int32} {sq : Nat → Int32} {q : Nat → Int32} {x : Nat → Nat} {c : Nat → Nat → Int32} {v : Nat → Int32} {y : Nat → Nat} {c2 : Nat → Nat → Int32} {v2 : Nat → Int32} {pa : Nat → Nat} {d : Nat → Nat → Int32} {u : Nat → Int32} (x9 : Int32) (p9 : Int32) {nn : Nat} {sn : Nat} {pn : Nat} {h9 : Nat} {bt : Nat} {N9 : Nat} {z : Nat → Int32} {gg : Nat → Int64} {r : Nat → Nat → Int32} (hI : Inv nn sn pn h9 bt N9 g cd c v c2 v2 z r) (hN1 : N9 + 1 < 100000) : MX l yX7_play cX7_play 3 (some .int) 4 92 D kB kI kT ks sk sv [.ref (b 30), .int x9, .int p9] (wC kI kT b g cd so sq q x c v y c2 v2 pa d u) (fun w w1 => SimP kI kT b x y pa (N9 + 1) (R_play z gg r nn x9 p9) w w1) := by
  refine MX.go (by decide +kernel) (Nat.le_of_ble_eq_true rfl) ?_
  intro p e s m below meth c0 args Q ls A hQ hx hb hr hml hown hts hlocks hE hP hD hS hl
  have hl : lv_has ls 3 [(0, .ref (b 30)), (1, .int x9), (2, .int p9)] := hl
  have hown : s.vm.findClass RX7 = some m.cls := hown
  obtain ⟨hTi, hWg, hSeI, hPgI, hCt, hKp⟩ := hI
  have ⟨hv1, hz1, hn5, e2, e3, e4, e5, e6, e7, e8, hok, hC, hF⟩ := hTi
  have ⟨w50, w51, w52, w53, w57, w58, w59⟩ := hWg
  have ⟨hv10, hz10, hsn, hSe⟩ := hSeI
  have ⟨hg14, hz14, hpn, hPg⟩ := hPgI
  have ⟨hg0, hz0, hhN, hN, hg9, hz9, hbt⟩ := hCt
  have hcd : ∀ k, k < pn → inR (cd k) 32 126 := fun k hk => (hPg k hk).2
  have hvz : v 1 = z 1 := hv1.trans hz1.symm
  have hT : (¬ p9 < 0 ∧ ¬ v 1 ≤ p9) ↔ inR p9 0 (z 1 - 1) := by rw [← hvz]; exact has_iff hv1 hn5
  refine lv_aload_n (pc := 0) hx hb dX7_play_0 rfl (lv_at hl 0 rfl) ?_
  refine rV (pc := 1) (rest := []) ⟨hx, hb, hml, hown, hts⟩ (k_X7_hasHouse (b := b) (g := g) (cd := cd) (so := so) (sq := sq) (q := q) (x := x) (c := c) (v := v) (y := y) (c2 := c2) (v2 := v2) (pa := pa) (d := d) (u := u) (nn := nn) (hv1 := hv1) (hn5 := hn5)) cw_X7_93 ⟨(Nat.le_of_ble_eq_true rfl), (Nat.le_of_ble_eq_true rfl)⟩ hE hS hP rfl rfl rfl rfl hl.1 rfl (Nat.le_of_ble_eq_true rfl) dX7_play_1 ⟨Nat.le_refl _, Nat.le_refl _⟩ ?_
  refine W.eq (g2 := F0 m 4 ls [.int (bi (0 < nn))]) rfl ?_
  refine bif_eq (pc := 4) (tgt := 14) hx hb dX7_play_4 (by decide) (fun c_1 => ?_) (fun c_1 => ?_)
  · skip
    refine lv_bipush (pc := 14) (v := (-101)) hx hb dX7_play_14 (by decide) ?_
    have hR : R_play z gg r nn x9 p9 = ((-101), z, gg, r) := by rw [R_play, if_neg (fun q9 => q9.2.1 (by omega))]
    rw [hQ]; exact W.iret (pc := 16) hx hb hr (fun t9 ht _ => ⟨⟨_, (wC kI kT b g cd so sq q x c v y c2 v2 pa d u), rfl, by rw [ht]; exact hP, ⟨nn, sn, pn, h9, bt, g, cd, so, sq, q, c, v, c2, v2, d, u, by rw [hR], rfl, by rw [hR]; exact ⟨hTi, hWg, hSeI, hPgI, ct_w hCt hN1, hKp⟩⟩, rfl⟩, hS.F ht⟩) hS.2.2 dX7_play_16 hlocks
  · skip
    refine lv_iload_n (pc := 7) hx hb dX7_play_7 rfl (lv_at hl 1 rfl) ?_
    refine rS (pc := 8) (rest := []) ⟨hx, hb, hml, hown, hts⟩ (k_X7_isNight (x9 := x9)) cw_X7_123 ⟨(Nat.le_of_ble_eq_true rfl), (Nat.le_of_ble_eq_true rfl)⟩ hE hS wc0 rfl hl.1 rfl (Nat.le_of_ble_eq_true rfl) dX7_play_8 ⟨Nat.le_refl _, Nat.le_refl _⟩ ?_
    refine W.eq (g2 := F0 m 11 ls [.int (bi (inR x9 0 11))]) rfl ?_
    refine bif_ne (pc := 11) (tgt := 17) hx hb dX7_play_11 (by decide) (fun c_2 => ?_) (fun c_2 => ?_)
    · skip
      refine lv_iload_n (pc := 17) hx hb dX7_play_17 rfl (lv_at hl 2 rfl) ?_
      refine lv_iconst (pc := 18) (v := (-1)) hx hb dX7_play_18 (by decide) ?_
      refine lv_icmp_eq (pc := 19) (tgt := 39) hx hb dX7_play_19 (by decide) (fun c_3 => ?_) (fun c_3 => ?_)
      · skip
        obtain ⟨i, hi, hxi⟩ := inR_nat c_2
        have hok9 : okP nn (upd (c 8) i p9) := okP_upd hok (Or.inl c_3)
        refine lv_aload_n (pc := 39) hx hb dX7_play_39 rfl (lv_at hl 0 rfl) ?_
        refine fget (pc := 40) (v := .ref (x 14)) hx hb hts hown hE hP fl_X7_19 0 rfl rfl dX7_play_40 ?_
        refine fget (pc := 43) (v := .ref (x 0)) hx hb hts hown hE hP fl_X7_70 6 rfl rfl dX7_play_43 ?_
        refine fget (pc := 46) (v := .ref (x 1)) hx hb hts hown hE hP fl_X7_129 7 rfl rfl dX7_play_46 ?_
        refine lv_iload_n (pc := 49) hx hb dX7_play_49 rfl (lv_at hl 1 rfl) ?_
        refine vEq (v := nI i) hxi ?_
        refine lv_iload_n (pc := 50) hx hb dX7_play_50 rfl (lv_at hl 2 rfl) ?_
        refine astN (pc := 51) (f := c 8) hx hb hE hP hD hS 8 rfl (i) (by omega) (by omega) dX7_play_51 (fun H locs hP hD hS => ?_)
        have hP : va_P D vwCl (wC kI kT b g cd so sq q x (va_up c 8 (upd (c 8) i p9)) v y c2 v2 pa d u) H := hP
        have hD : va_D A (wC kI kT b g cd so sq q x (va_up c 8 (upd (c 8) i p9)) v y c2 v2 pa d u) := hD
        refine lv_aload_n (pc := 52) hx hb dX7_play_52 rfl (lv_at hl 0 rfl) ?_
        refine fget (pc := 53) (v := .ref (x 14)) hx hb hts hown hE hP fl_X7_19 0 rfl rfl dX7_play_53 ?_
        refine fget (pc := 56) (v := .ref (x 0)) hx hb hts hown hE hP fl_X7_70 6 rfl rfl dX7_play_56 ?_
        refine wV (pc := 59) (rest := []) ⟨hx, hb, hml, hown, hts⟩ (k_X1_weigh (pa := x) (d := (va_up c 8 (upd (c 8) i p9))) (u := v) (x := x) (n := v 1) (c := (va_up c 8 (upd (c 8) i p9))) (nn := nn) (hn := hv1) (hn5 := hn5) (hok := hok9) (hC := hC)) cw_X7_133 ⟨(Nat.le_of_ble_eq_true rfl), (Nat.le_of_ble_eq_true rfl)⟩ hE hP hD hS [7, 8, 9, 10, 11, 12, 13, 14, 15, 16, 17, 18, 19, 20] (by decide) rfl rfl rfl rfl rfl rfl hl.1 rfl (Nat.le_of_ble_eq_true rfl) dX7_play_59 ⟨Nat.le_refl _, Nat.le_refl _⟩ (fun H locs hP hD hS => ?_)
        rw [sp_CPl] at hP hD
        have hP : va_P D vwCl (wC kI kT b g cd so sq q x (va_up (va_up (va_up (va_up (va_up (va_up c 8 (upd (c 8) i p9)) 50 (ovN (c 50) (brk (c 2) (c 3) (c 4) (c 5) (c 6) ((upd (c 8) i p9))) 12)) 51 (ovN (c 51) (sts (c 2) (c 7) ((upd (c 8) i p9))) 12)) 52 (ovN (c 52) (fun t => nI (nOf ((upd (c 8) i p9)) (nI t) 12)) 5)) 53 (ovN (c 53) (fun t => sumI (fun j => if ((upd (c 8) i p9)) j = nI t ∧ brk (c 2) (c 3) (c 4) (c 5) (c 6) ((upd (c 8) i p9)) j = 0 then sts (c 2) (c 7) ((upd (c 8) i p9)) j else 0) 12) 5)) 54 (lstC (c 4) ((upd (c 8) i p9)) (ovN (c 54) (fun _ => -1) 5) 12)) (va_up (va_up (va_up v 57 (nI (cntP (fun j => 0 < brk (c 2) (c 3) (c 4) (c 5) (c 6) ((upd (c 8) i p9)) j) 12))) 58 (nI (cntP (fun j => ((upd (c 8) i p9)) j = -1 ∨ 0 < brk (c 2) (c 3) (c 4) (c 5) (c 6) ((upd (c 8) i p9)) j) 12))) 59 (sumI (fun j => if brk (c 2) (c 3) (c 4) (c 5) (c 6) ((upd (c 8) i p9)) j = 0 then sts (c 2) (c 7) ((upd (c 8) i p9)) j else 0) 12)) y c2 v2 pa d u) H := hP
        have hD : va_D A (wC kI kT b g cd so sq q x (va_up (va_up (va_up (va_up (va_up (va_up c 8 (upd (c 8) i p9)) 50 (ovN (c 50) (brk (c 2) (c 3) (c 4) (c 5) (c 6) ((upd (c 8) i p9))) 12)) 51 (ovN (c 51) (sts (c 2) (c 7) ((upd (c 8) i p9))) 12)) 52 (ovN (c 52) (fun t => nI (nOf ((upd (c 8) i p9)) (nI t) 12)) 5)) 53 (ovN (c 53) (fun t => sumI (fun j => if ((upd (c 8) i p9)) j = nI t ∧ brk (c 2) (c 3) (c 4) (c 5) (c 6) ((upd (c 8) i p9)) j = 0 then sts (c 2) (c 7) ((upd (c 8) i p9)) j else 0) 12) 5)) 54 (lstC (c 4) ((upd (c 8) i p9)) (ovN (c 54) (fun _ => -1) 5) 12)) (va_up (va_up (va_up v 57 (nI (cntP (fun j => 0 < brk (c 2) (c 3) (c 4) (c 5) (c 6) ((upd (c 8) i p9)) j) 12))) 58 (nI (cntP (fun j => ((upd (c 8) i p9)) j = -1 ∨ 0 < brk (c 2) (c 3) (c 4) (c 5) (c 6) ((upd (c 8) i p9)) j) 12))) 59 (sumI (fun j => if brk (c 2) (c 3) (c 4) (c 5) (c 6) ((upd (c 8) i p9)) j = 0 then sts (c 2) (c 7) ((upd (c 8) i p9)) j else 0) 12)) y c2 v2 pa d u) := hD
        refine W.eq (g2 := F0 m 62 ls []) rfl ?_
        refine lv_aload_n (pc := 62) hx hb dX7_play_62 rfl (lv_at hl 0 rfl) ?_
        refine fget (pc := 63) (v := .ref (x 14)) hx hb hts hown hE hP fl_X7_19 0 rfl rfl dX7_play_63 ?_
        refine fget (pc := 66) (v := .ref (x 0)) hx hb hts hown hE hP fl_X7_70 6 rfl rfl dX7_play_66 ?_
        refine fget (pc := 69) (v := .int (nI (cntP (fun j => 0 < brk (c 2) (c 3) (c 4) (c 5) (c 6) ((upd (c 8) i p9)) j) 12))) hx hb hts hown hE hP fl_X7_136 7 rfl rfl dX7_play_69 ?_
        have hok2 : okP nn (upd (c 8) i p9) := hok9
        have hR : R_play z gg r nn x9 p9 = (nI (cntP (fun j => 0 < brk (c 2) (c 3) (c 4) (c 5) (c 6) ((upd (c 8) i p9)) j) 12), z, gg, va_up r 8 (upd (r 8) i p9)) := by rw [R_play, if_pos ⟨c_2, by omega, Or.inl c_3⟩, hxi, ix_nI (by omega)]; exact congrArg (fun a9 => (a9, z, gg, va_up r 8 (upd (r 8) i p9))) (congrArg nI (by rw [e2, e3, e4, e5, e6, e8]; rfl))
        rw [hQ]; exact W.iret (pc := 72) hx hb hr (fun t9 ht _ => ⟨⟨_, (wC kI kT b g cd so sq q x (va_up (va_up (va_up (va_up (va_up (va_up c 8 (upd (c 8) i p9)) 50 (ovN (c 50) (brk (c 2) (c 3) (c 4) (c 5) (c 6) ((upd (c 8) i p9))) 12)) 51 (ovN (c 51) (sts (c 2) (c 7) ((upd (c 8) i p9))) 12)) 52 (ovN (c 52) (fun t => nI (nOf ((upd (c 8) i p9)) (nI t) 12)) 5)) 53 (ovN (c 53) (fun t => sumI (fun j => if ((upd (c 8) i p9)) j = nI t ∧ brk (c 2) (c 3) (c 4) (c 5) (c 6) ((upd (c 8) i p9)) j = 0 then sts (c 2) (c 7) ((upd (c 8) i p9)) j else 0) 12) 5)) 54 (lstC (c 4) ((upd (c 8) i p9)) (ovN (c 54) (fun _ => -1) 5) 12)) (va_up (va_up (va_up v 57 (nI (cntP (fun j => 0 < brk (c 2) (c 3) (c 4) (c 5) (c 6) ((upd (c 8) i p9)) j) 12))) 58 (nI (cntP (fun j => ((upd (c 8) i p9)) j = -1 ∨ 0 < brk (c 2) (c 3) (c 4) (c 5) (c 6) ((upd (c 8) i p9)) j) 12))) 59 (sumI (fun j => if brk (c 2) (c 3) (c 4) (c 5) (c 6) ((upd (c 8) i p9)) j = 0 then sts (c 2) (c 7) ((upd (c 8) i p9)) j else 0) 12)) y c2 v2 pa d u), rfl, by rw [ht]; exact hP, ⟨nn, sn, pn, h9, bt, g, cd, so, sq, q, (va_up (va_up (va_up (va_up (va_up (va_up c 8 (upd (c 8) i p9)) 50 (ovN (c 50) (brk (c 2) (c 3) (c 4) (c 5) (c 6) ((upd (c 8) i p9))) 12)) 51 (ovN (c 51) (sts (c 2) (c 7) ((upd (c 8) i p9))) 12)) 52 (ovN (c 52) (fun t => nI (nOf ((upd (c 8) i p9)) (nI t) 12)) 5)) 53 (ovN (c 53) (fun t => sumI (fun j => if ((upd (c 8) i p9)) j = nI t ∧ brk (c 2) (c 3) (c 4) (c 5) (c 6) ((upd (c 8) i p9)) j = 0 then sts (c 2) (c 7) ((upd (c 8) i p9)) j else 0) 12) 5)) 54 (lstC (c 4) ((upd (c 8) i p9)) (ovN (c 54) (fun _ => -1) 5) 12)), (va_up (va_up (va_up v 57 (nI (cntP (fun j => 0 < brk (c 2) (c 3) (c 4) (c 5) (c 6) ((upd (c 8) i p9)) j) 12))) 58 (nI (cntP (fun j => ((upd (c 8) i p9)) j = -1 ∨ 0 < brk (c 2) (c 3) (c 4) (c 5) (c 6) ((upd (c 8) i p9)) j) 12))) 59 (sumI (fun j => if brk (c 2) (c 3) (c 4) (c 5) (c 6) ((upd (c 8) i p9)) j = 0 then sts (c 2) (c 7) ((upd (c 8) i p9)) j else 0) 12)), c2, v2, d, u, by rw [hR], rfl, by rw [hR]; exact ⟨⟨hv1, hz1, hn5, e2, e3, e4, e5, e6, e7, congrArg (fun a9 => upd a9 i p9) e8, hok9, hC, hF⟩, wg_new, hSeI, hPgI, ct_w hCt hN1, hKp⟩⟩, rfl⟩, hS.F ht⟩) hS.2.2 dX7_play_72 hlocks
      · skip
        refine lv_aload_n (pc := 22) hx hb dX7_play_22 rfl (lv_at hl 0 rfl) ?_
        refine fget (pc := 23) (v := .ref (x 14)) hx hb hts hown hE hP fl_X7_19 0 rfl rfl dX7_play_23 ?_
        refine fget (pc := 26) (v := .ref (x 7)) hx hb hts hown hE hP fl_X7_28 6 rfl rfl dX7_play_26 ?_
        refine lv_iload_n (pc := 29) hx hb dX7_play_29 rfl (lv_at hl 2 rfl) ?_
        refine rV (pc := 30) (rest := []) ⟨hx, hb, hml, hown, hts⟩ (k_X6_has (t := p9) (x := x) (n := v 1) (c := c)) cw_X7_104 ⟨(Nat.le_of_ble_eq_true rfl), (Nat.le_of_ble_eq_true rfl)⟩ hE hS (sub_P (wc := wTs kT x (v 1) c) hP [14, 15, 16, 17, 18, 19, 20] rfl) rfl rfl rfl rfl hl.1 rfl (Nat.le_of_ble_eq_true rfl) dX7_play_30 ⟨Nat.le_refl _, Nat.le_refl _⟩ ?_
        refine W.eq (g2 := F0 m 33 ls [.int (bi (¬ p9 < 0 ∧ ¬ (v 1) ≤ p9))]) rfl ?_
        refine bif_ne (pc := 33) (tgt := 39) hx hb dX7_play_33 (by decide) (fun c_4 => ?_) (fun c_4 => ?_)
        · skip
          obtain ⟨i, hi, hxi⟩ := inR_nat c_2
          have hok9 : okP nn (upd (c 8) i p9) := okP_upd hok (Or.inr (isT_nat hz1 hn5 (hT.mp c_4)))
          refine lv_aload_n (pc := 39) hx hb dX7_play_39 rfl (lv_at hl 0 rfl) ?_
          refine fget (pc := 40) (v := .ref (x 14)) hx hb hts hown hE hP fl_X7_19 0 rfl rfl dX7_play_40 ?_
          refine fget (pc := 43) (v := .ref (x 0)) hx hb hts hown hE hP fl_X7_70 6 rfl rfl dX7_play_43 ?_
          refine fget (pc := 46) (v := .ref (x 1)) hx hb hts hown hE hP fl_X7_129 7 rfl rfl dX7_play_46 ?_
          refine lv_iload_n (pc := 49) hx hb dX7_play_49 rfl (lv_at hl 1 rfl) ?_
          refine vEq (v := nI i) hxi ?_
          refine lv_iload_n (pc := 50) hx hb dX7_play_50 rfl (lv_at hl 2 rfl) ?_
          refine astN (pc := 51) (f := c 8) hx hb hE hP hD hS 8 rfl (i) (by omega) (by omega) dX7_play_51 (fun H locs hP hD hS => ?_)
          have hP : va_P D vwCl (wC kI kT b g cd so sq q x (va_up c 8 (upd (c 8) i p9)) v y c2 v2 pa d u) H := hP
          have hD : va_D A (wC kI kT b g cd so sq q x (va_up c 8 (upd (c 8) i p9)) v y c2 v2 pa d u) := hD
          refine lv_aload_n (pc := 52) hx hb dX7_play_52 rfl (lv_at hl 0 rfl) ?_
          refine fget (pc := 53) (v := .ref (x 14)) hx hb hts hown hE hP fl_X7_19 0 rfl rfl dX7_play_53 ?_
          refine fget (pc := 56) (v := .ref (x 0)) hx hb hts hown hE hP fl_X7_70 6 rfl rfl dX7_play_56 ?_
          refine wV (pc := 59) (rest := []) ⟨hx, hb, hml, hown, hts⟩ (k_X1_weigh (pa := x) (d := (va_up c 8 (upd (c 8) i p9))) (u := v) (x := x) (n := v 1) (c := (va_up c 8 (upd (c 8) i p9))) (nn := nn) (hn := hv1) (hn5 := hn5) (hok := hok9) (hC := hC)) cw_X7_133 ⟨(Nat.le_of_ble_eq_true rfl), (Nat.le_of_ble_eq_true rfl)⟩ hE hP hD hS [7, 8, 9, 10, 11, 12, 13, 14, 15, 16, 17, 18, 19, 20] (by decide) rfl rfl rfl rfl rfl rfl hl.1 rfl (Nat.le_of_ble_eq_true rfl) dX7_play_59 ⟨Nat.le_refl _, Nat.le_refl _⟩ (fun H locs hP hD hS => ?_)
          rw [sp_CPl] at hP hD
          have hP : va_P D vwCl (wC kI kT b g cd so sq q x (va_up (va_up (va_up (va_up (va_up (va_up c 8 (upd (c 8) i p9)) 50 (ovN (c 50) (brk (c 2) (c 3) (c 4) (c 5) (c 6) ((upd (c 8) i p9))) 12)) 51 (ovN (c 51) (sts (c 2) (c 7) ((upd (c 8) i p9))) 12)) 52 (ovN (c 52) (fun t => nI (nOf ((upd (c 8) i p9)) (nI t) 12)) 5)) 53 (ovN (c 53) (fun t => sumI (fun j => if ((upd (c 8) i p9)) j = nI t ∧ brk (c 2) (c 3) (c 4) (c 5) (c 6) ((upd (c 8) i p9)) j = 0 then sts (c 2) (c 7) ((upd (c 8) i p9)) j else 0) 12) 5)) 54 (lstC (c 4) ((upd (c 8) i p9)) (ovN (c 54) (fun _ => -1) 5) 12)) (va_up (va_up (va_up v 57 (nI (cntP (fun j => 0 < brk (c 2) (c 3) (c 4) (c 5) (c 6) ((upd (c 8) i p9)) j) 12))) 58 (nI (cntP (fun j => ((upd (c 8) i p9)) j = -1 ∨ 0 < brk (c 2) (c 3) (c 4) (c 5) (c 6) ((upd (c 8) i p9)) j) 12))) 59 (sumI (fun j => if brk (c 2) (c 3) (c 4) (c 5) (c 6) ((upd (c 8) i p9)) j = 0 then sts (c 2) (c 7) ((upd (c 8) i p9)) j else 0) 12)) y c2 v2 pa d u) H := hP
          have hD : va_D A (wC kI kT b g cd so sq q x (va_up (va_up (va_up (va_up (va_up (va_up c 8 (upd (c 8) i p9)) 50 (ovN (c 50) (brk (c 2) (c 3) (c 4) (c 5) (c 6) ((upd (c 8) i p9))) 12)) 51 (ovN (c 51) (sts (c 2) (c 7) ((upd (c 8) i p9))) 12)) 52 (ovN (c 52) (fun t => nI (nOf ((upd (c 8) i p9)) (nI t) 12)) 5)) 53 (ovN (c 53) (fun t => sumI (fun j => if ((upd (c 8) i p9)) j = nI t ∧ brk (c 2) (c 3) (c 4) (c 5) (c 6) ((upd (c 8) i p9)) j = 0 then sts (c 2) (c 7) ((upd (c 8) i p9)) j else 0) 12) 5)) 54 (lstC (c 4) ((upd (c 8) i p9)) (ovN (c 54) (fun _ => -1) 5) 12)) (va_up (va_up (va_up v 57 (nI (cntP (fun j => 0 < brk (c 2) (c 3) (c 4) (c 5) (c 6) ((upd (c 8) i p9)) j) 12))) 58 (nI (cntP (fun j => ((upd (c 8) i p9)) j = -1 ∨ 0 < brk (c 2) (c 3) (c 4) (c 5) (c 6) ((upd (c 8) i p9)) j) 12))) 59 (sumI (fun j => if brk (c 2) (c 3) (c 4) (c 5) (c 6) ((upd (c 8) i p9)) j = 0 then sts (c 2) (c 7) ((upd (c 8) i p9)) j else 0) 12)) y c2 v2 pa d u) := hD
          refine W.eq (g2 := F0 m 62 ls []) rfl ?_
          refine lv_aload_n (pc := 62) hx hb dX7_play_62 rfl (lv_at hl 0 rfl) ?_
          refine fget (pc := 63) (v := .ref (x 14)) hx hb hts hown hE hP fl_X7_19 0 rfl rfl dX7_play_63 ?_
          refine fget (pc := 66) (v := .ref (x 0)) hx hb hts hown hE hP fl_X7_70 6 rfl rfl dX7_play_66 ?_
          refine fget (pc := 69) (v := .int (nI (cntP (fun j => 0 < brk (c 2) (c 3) (c 4) (c 5) (c 6) ((upd (c 8) i p9)) j) 12))) hx hb hts hown hE hP fl_X7_136 7 rfl rfl dX7_play_69 ?_
          have hok2 : okP nn (upd (c 8) i p9) := hok9
          have hR : R_play z gg r nn x9 p9 = (nI (cntP (fun j => 0 < brk (c 2) (c 3) (c 4) (c 5) (c 6) ((upd (c 8) i p9)) j) 12), z, gg, va_up r 8 (upd (r 8) i p9)) := by rw [R_play, if_pos ⟨c_2, by omega, Or.inr (hT.mp c_4)⟩, hxi, ix_nI (by omega)]; exact congrArg (fun a9 => (a9, z, gg, va_up r 8 (upd (r 8) i p9))) (congrArg nI (by rw [e2, e3, e4, e5, e6, e8]; rfl))
          rw [hQ]; exact W.iret (pc := 72) hx hb hr (fun t9 ht _ => ⟨⟨_, (wC kI kT b g cd so sq q x (va_up (va_up (va_up (va_up (va_up (va_up c 8 (upd (c 8) i p9)) 50 (ovN (c 50) (brk (c 2) (c 3) (c 4) (c 5) (c 6) ((upd (c 8) i p9))) 12)) 51 (ovN (c 51) (sts (c 2) (c 7) ((upd (c 8) i p9))) 12)) 52 (ovN (c 52) (fun t => nI (nOf ((upd (c 8) i p9)) (nI t) 12)) 5)) 53 (ovN (c 53) (fun t => sumI (fun j => if ((upd (c 8) i p9)) j = nI t ∧ brk (c 2) (c 3) (c 4) (c 5) (c 6) ((upd (c 8) i p9)) j = 0 then sts (c 2) (c 7) ((upd (c 8) i p9)) j else 0) 12) 5)) 54 (lstC (c 4) ((upd (c 8) i p9)) (ovN (c 54) (fun _ => -1) 5) 12)) (va_up (va_up (va_up v 57 (nI (cntP (fun j => 0 < brk (c 2) (c 3) (c 4) (c 5) (c 6) ((upd (c 8) i p9)) j) 12))) 58 (nI (cntP (fun j => ((upd (c 8) i p9)) j = -1 ∨ 0 < brk (c 2) (c 3) (c 4) (c 5) (c 6) ((upd (c 8) i p9)) j) 12))) 59 (sumI (fun j => if brk (c 2) (c 3) (c 4) (c 5) (c 6) ((upd (c 8) i p9)) j = 0 then sts (c 2) (c 7) ((upd (c 8) i p9)) j else 0) 12)) y c2 v2 pa d u), rfl, by rw [ht]; exact hP, ⟨nn, sn, pn, h9, bt, g, cd, so, sq, q, (va_up (va_up (va_up (va_up (va_up (va_up c 8 (upd (c 8) i p9)) 50 (ovN (c 50) (brk (c 2) (c 3) (c 4) (c 5) (c 6) ((upd (c 8) i p9))) 12)) 51 (ovN (c 51) (sts (c 2) (c 7) ((upd (c 8) i p9))) 12)) 52 (ovN (c 52) (fun t => nI (nOf ((upd (c 8) i p9)) (nI t) 12)) 5)) 53 (ovN (c 53) (fun t => sumI (fun j => if ((upd (c 8) i p9)) j = nI t ∧ brk (c 2) (c 3) (c 4) (c 5) (c 6) ((upd (c 8) i p9)) j = 0 then sts (c 2) (c 7) ((upd (c 8) i p9)) j else 0) 12) 5)) 54 (lstC (c 4) ((upd (c 8) i p9)) (ovN (c 54) (fun _ => -1) 5) 12)), (va_up (va_up (va_up v 57 (nI (cntP (fun j => 0 < brk (c 2) (c 3) (c 4) (c 5) (c 6) ((upd (c 8) i p9)) j) 12))) 58 (nI (cntP (fun j => ((upd (c 8) i p9)) j = -1 ∨ 0 < brk (c 2) (c 3) (c 4) (c 5) (c 6) ((upd (c 8) i p9)) j) 12))) 59 (sumI (fun j => if brk (c 2) (c 3) (c 4) (c 5) (c 6) ((upd (c 8) i p9)) j = 0 then sts (c 2) (c 7) ((upd (c 8) i p9)) j else 0) 12)), c2, v2, d, u, by rw [hR], rfl, by rw [hR]; exact ⟨⟨hv1, hz1, hn5, e2, e3, e4, e5, e6, e7, congrArg (fun a9 => upd a9 i p9) e8, hok9, hC, hF⟩, wg_new, hSeI, hPgI, ct_w hCt hN1, hKp⟩⟩, rfl⟩, hS.F ht⟩) hS.2.2 dX7_play_72 hlocks
        · skip
          refine lv_bipush (pc := 36) (v := (-101)) hx hb dX7_play_36 (by decide) ?_
          have hR : R_play z gg r nn x9 p9 = ((-101), z, gg, r) := by rw [R_play, if_neg (fun q9 => q9.2.2.elim c_3 (fun q8 => c_4 (hT.mpr q8)))]
          rw [hQ]; exact W.iret (pc := 38) hx hb hr (fun t9 ht _ => ⟨⟨_, (wC kI kT b g cd so sq q x c v y c2 v2 pa d u), rfl, by rw [ht]; exact hP, ⟨nn, sn, pn, h9, bt, g, cd, so, sq, q, c, v, c2, v2, d, u, by rw [hR], rfl, by rw [hR]; exact ⟨hTi, hWg, hSeI, hPgI, ct_w hCt hN1, hKp⟩⟩, rfl⟩, hS.F ht⟩) hS.2.2 dX7_play_38 hlocks
    · skip
      refine lv_bipush (pc := 14) (v := (-101)) hx hb dX7_play_14 (by decide) ?_
      have hR : R_play z gg r nn x9 p9 = ((-101), z, gg, r) := by rw [R_play, if_neg (fun q9 => c_2 q9.1)]
      rw [hQ]; exact W.iret (pc := 16) hx hb hr (fun t9 ht _ => ⟨⟨_, (wC kI kT b g cd so sq q x c v y c2 v2 pa d u), rfl, by rw [ht]; exact hP, ⟨nn, sn, pn, h9, bt, g, cd, so, sq, q, c, v, c2, v2, d, u, by rw [hR], rfl, by rw [hR]; exact ⟨hTi, hWg, hSeI, hPgI, ct_w hCt hN1, hKp⟩⟩, rfl⟩, hS.F ht⟩) hS.2.2 dX7_play_16 hlocks
end
