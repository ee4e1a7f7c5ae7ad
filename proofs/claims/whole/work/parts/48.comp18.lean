section
variable {l : Launch} {D : va_G} {kB kI kT : ClassId} {ks sk sv : Nat}
theorem lt_leN {x : Int32} (n : Nat) (hn : n < 1000) (h : x < nI (n + 1)) : x ≤ nI n := by
  rw [Int32.le_iff_toInt_le]
  have h1 := Int32.lt_iff_toInt_lt.mp h
  rw [nI_toInt (by omega)] at h1 ⊢
  omega
theorem fHs (f : Nat → Int32) (h : Int64) (k : Nat) : fH f h (k + 1) = 31 * fH f h k + (f k).toInt64 := rfl
set_option maxRecDepth 100000 in
set_option maxHeartbeats 4000000 in
theorem k_X7_title {b : Nat → Nat} {g : Nat → Int32} {cd : Nat → Int32} {so : Nat → Int32} {sq : Nat → Int32} {q : Nat → Int32} {x : Nat → Nat} {c : Nat → Nat → Int32} {v : Nat → Int32} {y : Nat → Nat} {c2 : Nat → Nat → Int32} {v2 : Nat → Int32} {pa : Nat → Nat} {d : Nat → Nat → Int32} {u : Nat → Int32} (t : Int32) (what : Int32) {nn : Nat} {sn : Nat} {pn : Nat} {h9 : Nat} {bt : Nat} {N9 : Nat} {z : Nat → Int32} {gg : Nat → Int64} {r : Nat → Nat → Int32} (hI : Inv nn sn pn h9 bt N9 g cd c v c2 v2 z r) : MR l yX7_title cX7_title 3 (some .int) 3 89 D kB kI kT ks sk sv [.ref (b 30), .int t, .int what] (wC kI kT b g cd so sq q x c v y c2 v2 pa d u) (some (.int (titS z r sn t what))) := by
  refine MR.go (by decide +kernel) (Nat.le_of_ble_eq_true rfl) ?_
  intro p e s m below meth c0 args Q ls hQ hx hb hr hml hown hts hlocks hE hP hS hl
  have hl : lv_has ls 3 [(0, .ref (b 30)), (1, .int t), (2, .int what)] := hl
  have hown : s.vm.findClass RX7 = some m.cls := hown
  obtain ⟨hTi, hWg, hSeI, hPgI, hCt, hKp⟩ := hI
  have ⟨hv1, hz1, hn5, e2, e3, e4, e5, e6, e7, e8, hok, hC, hF⟩ := hTi
  have ⟨w50, w51, w52, w53, w57, w58, w59⟩ := hWg
  have ⟨hv10, hz10, hsn, hSe⟩ := hSeI
  have ⟨hg14, hz14, hpn, hPg⟩ := hPgI
  have ⟨hg0, hz0, hhN, hN, hg9, hz9, hbt⟩ := hCt
  have hcd : ∀ k, k < pn → inR (cd k) 32 126 := fun k hk => (hPg k hk).2
  have hvz : v 1 = z 1 := hv1.trans hz1.symm
  have hT : (¬ t < 0 ∧ ¬ v 1 ≤ t) ↔ inR t 0 (z 1 - 1) := by rw [← hvz]; exact has_iff hv1 hn5
  refine lv_aload_n (pc := 0) hx hb dX7_title_0 rfl (lv_at hl 0 rfl) ?_
  refine fget (pc := 1) (v := .ref (x 14)) hx hb hts hown hE hP fl_X7_19 0 rfl rfl dX7_title_1 ?_
  refine fget (pc := 4) (v := .ref (x 7)) hx hb hts hown hE hP fl_X7_28 6 rfl rfl dX7_title_4 ?_
  refine lv_iload_n (pc := 7) hx hb dX7_title_7 rfl (lv_at hl 1 rfl) ?_
  refine rV (pc := 8) (rest := []) ⟨hx, hb, hml, hown, hts⟩ (k_X6_has (t := t) (x := x) (n := v 1) (c := c)) cw_X7_104 ⟨(Nat.le_of_ble_eq_true rfl), (Nat.le_of_ble_eq_true rfl)⟩ hE hS (sub_P (wc := wTs kT x (v 1) c) hP [14, 15, 16, 17, 18, 19, 20] rfl) rfl rfl rfl rfl hl.1 rfl (Nat.le_of_ble_eq_true rfl) dX7_title_8 ⟨Nat.le_refl _, Nat.le_refl _⟩ ?_
  refine W.eq (g2 := F0 m 11 ls [.int (bi (¬ t < 0 ∧ ¬ (v 1) ≤ t))]) rfl ?_
  refine bif_ne (pc := 11) (tgt := 17) hx hb dX7_title_11 (by decide) (fun c_1 => ?_) (fun c_1 => ?_)
  · skip
    refine lv_iload_n (pc := 17) hx hb dX7_title_17 rfl (lv_at hl 2 rfl) ?_
    refine lv_if_lt (pc := 18) (tgt := 27) hx hb dX7_title_18 (by decide) (fun c_2 => ?_) (fun c_2 => ?_)
    · skip
      refine lv_bipush (pc := 27) (v := (-102)) hx hb dX7_title_27 (by decide) ?_
      rw [hQ]; exact W.iret (pc := 29) hx hb hr (fun t9 ht _ => ⟨retI (by rw [titS, if_pos (hT.mp c_1), if_neg (fun q => absurd c_2 (Int32.not_lt.mpr q.1))]), ht⟩) (fun _ h => nomatch h) dX7_title_29 hlocks
    · skip
      refine lv_iload_n (pc := 21) hx hb dX7_title_21 rfl (lv_at hl 2 rfl) ?_
      refine lv_bipush (pc := 22) (v := 9) hx hb dX7_title_22 (by decide) ?_
      refine lv_icmp_lt (pc := 24) (tgt := 30) hx hb dX7_title_24 (by decide) (fun c_3 => ?_) (fun c_3 => ?_)
      · skip
        obtain ⟨k, hk, htk⟩ := isT_nat hz1 hn5 (hT.mp c_1)
        refine lv_aload_n (pc := 30) hx hb dX7_title_30 rfl (lv_at hl 0 rfl) ?_
        refine lv_iload_n (pc := 31) hx hb dX7_title_31 rfl (lv_at hl 1 rfl) ?_
        refine vEq (v := nI k) htk ?_
        refine lv_iload_n (pc := 32) hx hb dX7_title_32 rfl (lv_at hl 2 rfl) ?_
        refine rV (pc := 33) (rest := []) ⟨hx, hb, hml, hown, hts⟩ (k_X7_ofTitle (k := k) (what := what) (b := b) (g := g) (cd := cd) (so := so) (sq := sq) (q := q) (x := x) (c := c) (v := v) (y := y) (c2 := c2) (v2 := v2) (pa := pa) (d := d) (u := u) (nn := nn) (sn := sn) (pn := pn) (h9 := h9) (bt := bt) (N9 := N9) (z := z) (gg := gg) (r := r) (hI := ⟨hTi, hWg, hSeI, hPgI, hCt, hKp⟩) (hk := hk)) cw_X7_107 ⟨(Nat.le_of_ble_eq_true rfl), (Nat.le_of_ble_eq_true rfl)⟩ hE hS hP rfl rfl rfl rfl hl.1 rfl (Nat.le_of_ble_eq_true rfl) dX7_title_33 ⟨Nat.le_refl _, Nat.le_refl _⟩ ?_
        refine W.eq (g2 := F0 m 36 ls [.int (titleS r sn k what)]) rfl ?_
        rw [hQ]; exact W.iret (pc := 36) hx hb hr (fun t9 ht _ => ⟨retI (by rw [titS, if_pos (hT.mp c_1), if_pos ⟨Int32.not_lt.mp c_2, lt_leN 8 (by omega) c_3⟩, htk, ix_nI (by omega)]), ht⟩) (fun _ h => nomatch h) dX7_title_36 hlocks
      · skip
        refine lv_bipush (pc := 27) (v := (-102)) hx hb dX7_title_27 (by decide) ?_
        rw [hQ]; exact W.iret (pc := 29) hx hb hr (fun t9 ht _ => ⟨retI (by rw [titS, if_pos (hT.mp c_1), if_neg (fun q => c_3 (Int32.lt_of_le_of_lt q.2 (by decide)))]), ht⟩) (fun _ h => nomatch h) dX7_title_29 hlocks
  · skip
    refine lv_bipush (pc := 14) (v := (-101)) hx hb dX7_title_14 (by decide) ?_
    rw [hQ]; exact W.iret (pc := 16) hx hb hr (fun t9 ht _ => ⟨retI (by rw [titS, if_neg (fun q => c_1 (hT.mpr q))]), ht⟩) (fun _ h => nomatch h) dX7_title_16 hlocks
set_option maxRecDepth 100000 in
set_option maxHeartbeats 4000000 in
theorem k_X7_as {b : Nat → Nat} {g : Nat → Int32} {cd : Nat → Int32} {so : Nat → Int32} {sq : Nat → Int32} {q : Nat → Int32} {x : Nat → Nat} {c : Nat → Nat → Int32} {v : Nat → Int32} {y : Nat → Nat} {c2 : Nat → Nat → Int32} {v2 : Nat → Int32} {pa : Nat → Nat} {d : Nat → Nat → Int32} {u : Nat → Int32} (t : Int32) (kind : Int32) {nn : Nat} {sn : Nat} {pn : Nat} {h9 : Nat} {bt : Nat} {N9 : Nat} {z : Nat → Int32} {gg : Nat → Int64} {r : Nat → Nat → Int32} (hI : Inv nn sn pn h9 bt N9 g cd c v c2 v2 z r) : MR l yX7_as cX7_as 3 (some .int) 1 21 D kB kI kT ks sk sv [.ref (b 30), .int t, .int kind] (wC kI kT b g cd so sq q x c v y c2 v2 pa d u) (some (.int (asS z r t kind))) := by
  refine MR.go (by decide +kernel) (Nat.le_of_ble_eq_true rfl) ?_
  intro p e s m below meth c0 args Q ls hQ hx hb hr hml hown hts hlocks hE hP hS hl
  have hl : lv_has ls 3 [(0, .ref (b 30)), (1, .int t), (2, .int kind)] := hl
  have hown : s.vm.findClass RX7 = some m.cls := hown
  obtain ⟨hTi, hWg, hSeI, hPgI, hCt, hKp⟩ := hI
  have ⟨hv1, hz1, hn5, e2, e3, e4, e5, e6, e7, e8, hok, hC, hF⟩ := hTi
  have ⟨w50, w51, w52, w53, w57, w58, w59⟩ := hWg
  have ⟨hv10, hz10, hsn, hSe⟩ := hSeI
  have ⟨hg14, hz14, hpn, hPg⟩ := hPgI
  have ⟨hg0, hz0, hhN, hN, hg9, hz9, hbt⟩ := hCt
  have hcd : ∀ k, k < pn → inR (cd k) 32 126 := fun k hk => (hPg k hk).2
  have hvz : v 1 = z 1 := hv1.trans hz1.symm
  have hT : (¬ t < 0 ∧ ¬ v 1 ≤ t) ↔ inR t 0 (z 1 - 1) := by rw [← hvz]; exact has_iff hv1 hn5
  refine lv_aload_n (pc := 0) hx hb dX7_as_0 rfl (lv_at hl 0 rfl) ?_
  refine fget (pc := 1) (v := .ref (x 14)) hx hb hts hown hE hP fl_X7_19 0 rfl rfl dX7_as_1 ?_
  refine fget (pc := 4) (v := .ref (x 7)) hx hb hts hown hE hP fl_X7_28 6 rfl rfl dX7_as_4 ?_
  refine lv_iload_n (pc := 7) hx hb dX7_as_7 rfl (lv_at hl 1 rfl) ?_
  refine rV (pc := 8) (rest := []) ⟨hx, hb, hml, hown, hts⟩ (k_X6_has (t := t) (x := x) (n := v 1) (c := c)) cw_X7_104 ⟨(Nat.le_of_ble_eq_true rfl), (Nat.le_of_ble_eq_true rfl)⟩ hE hS (sub_P (wc := wTs kT x (v 1) c) hP [14, 15, 16, 17, 18, 19, 20] rfl) rfl rfl rfl rfl hl.1 rfl (Nat.le_of_ble_eq_true rfl) dX7_as_8 ⟨Nat.le_refl _, Nat.le_refl _⟩ ?_
  refine W.eq (g2 := F0 m 11 ls [.int (bi (¬ t < 0 ∧ ¬ (v 1) ≤ t))]) rfl ?_
  refine bif_ne (pc := 11) (tgt := 17) hx hb dX7_as_11 (by decide) (fun c_1 => ?_) (fun c_1 => ?_)
  · skip
    refine lv_iload_n (pc := 17) hx hb dX7_as_17 rfl (lv_at hl 2 rfl) ?_
    refine rS (pc := 18) (rest := []) ⟨hx, hb, hml, hown, hts⟩ (k_X7_isKind (k9 := kind)) cw_X7_111 ⟨(Nat.le_of_ble_eq_true rfl), (Nat.le_of_ble_eq_true rfl)⟩ hE hS wc0 rfl hl.1 rfl (Nat.le_of_ble_eq_true rfl) dX7_as_18 ⟨Nat.le_refl _, Nat.le_refl _⟩ ?_
    refine W.eq (g2 := F0 m 21 ls [.int (bi (inR kind 0 4))]) rfl ?_
    refine bif_ne (pc := 21) (tgt := 27) hx hb dX7_as_21 (by decide) (fun c_2 => ?_) (fun c_2 => ?_)
    · skip
      obtain ⟨k, hk, htk⟩ := isT_nat hz1 hn5 (hT.mp c_1)
      refine lv_aload_n (pc := 27) hx hb dX7_as_27 rfl (lv_at hl 0 rfl) ?_
      refine fget (pc := 28) (v := .ref (x 14)) hx hb hts hown hE hP fl_X7_19 0 rfl rfl dX7_as_28 ?_
      refine fget (pc := 31) (v := .ref (x 7)) hx hb hts hown hE hP fl_X7_28 6 rfl rfl dX7_as_31 ?_
      refine lv_iload_n (pc := 34) hx hb dX7_as_34 rfl (lv_at hl 1 rfl) ?_
      refine vEq (v := nI k) htk ?_
      refine rV (pc := 35) (rest := []) ⟨hx, hb, hml, hown, hts⟩ (k_X6_at (k := k) (x := x) (n := v 1) (c := c) (hk5 := (by omega))) cw_X7_114 ⟨(Nat.le_of_ble_eq_true rfl), (Nat.le_of_ble_eq_true rfl)⟩ hE hS (sub_P (wc := wTs kT x (v 1) c) hP [14, 15, 16, 17, 18, 19, 20] rfl) rfl rfl rfl rfl hl.1 rfl (Nat.le_of_ble_eq_true rfl) dX7_as_35 ⟨Nat.le_refl _, Nat.le_refl _⟩ ?_
      refine W.eq (g2 := F0 m 38 ls [.ref (x (9 + k))]) rfl ?_
      refine lv_iload_n (pc := 38) hx hb dX7_as_38 rfl (lv_at hl 2 rfl) ?_
      refine rV (pc := 39) (rest := []) ⟨hx, hb, hml, hown, hts⟩ (k_X5_isOf (asked := kind) (ta := x (9 + k)) (f0 := (c 2) k) (f1 := (c 3) k) (f2 := (c 4) k) (f3 := (c 5) k) (f4 := (c 6) k) (f5 := (c 7) k)) cw_X7_118 ⟨(Nat.le_of_ble_eq_true rfl), (Nat.le_of_ble_eq_true rfl)⟩ hE hS (sub_P (wc := wTi (x (9 + k)) ((c 2) k) ((c 3) k) ((c 4) k) ((c 5) k) ((c 6) k) ((c 7) k)) hP [16 + k] (congrArg (fun q => [q]) (wC_t (by omega)))) rfl rfl rfl rfl hl.1 rfl (Nat.le_of_ble_eq_true rfl) dX7_as_39 ⟨Nat.le_refl _, Nat.le_refl _⟩ ?_
      refine W.eq (g2 := F0 m 42 ls [.int (bi (isOfP ((c 2) k) kind))]) rfl ?_
      refine bif_eq (pc := 42) (tgt := 49) hx hb dX7_as_42 (by decide) (fun c_3 => ?_) (fun c_3 => ?_)
      · skip
        refine lv_iconst (pc := 49) (v := (-1)) hx hb dX7_as_49 (by decide) ?_
        rw [hQ]; exact W.iret (pc := 50) hx hb hr (fun t9 ht _ => ⟨retI (by rw [asS, if_pos (hT.mp c_1), if_pos c_2, if_neg (fun q => c_3 (by rw [htk, ix_nI (by omega), ← e2] at q; rcases q with q | q | q; exact Or.inl q; exact Or.inr (Or.inl q.symm); exact Or.inr (Or.inr q)))]), ht⟩) (fun _ h => nomatch h) dX7_as_50 hlocks
      · skip
        refine lv_iload_n (pc := 45) hx hb dX7_as_45 rfl (lv_at hl 1 rfl) ?_
        refine vEq (v := nI k) htk ?_
        refine lv_goto (pc := 46) (tgt := 50) hx hb dX7_as_46 (by decide) ?_
        rw [hQ]; exact W.iret (pc := 50) hx hb hr (fun t9 ht _ => ⟨retI (by rw [asS, if_pos (hT.mp c_1), if_pos c_2, if_pos (by rw [htk, ix_nI (by omega), ← e2]; rcases c_3 with q | q | q; exact Or.inl q; exact Or.inr (Or.inl q.symm); exact Or.inr (Or.inr q))]; exact htk.symm), ht⟩) (fun _ h => nomatch h) dX7_as_50 hlocks
    · skip
      refine lv_bipush (pc := 24) (v := (-102)) hx hb dX7_as_24 (by decide) ?_
      rw [hQ]; exact W.iret (pc := 26) hx hb hr (fun t9 ht _ => ⟨retI (by rw [asS, if_pos (hT.mp c_1), if_neg c_2]), ht⟩) (fun _ h => nomatch h) dX7_as_26 hlocks
  · skip
    refine lv_bipush (pc := 14) (v := (-101)) hx hb dX7_as_14 (by decide) ?_
    rw [hQ]; exact W.iret (pc := 16) hx hb hr (fun t9 ht _ => ⟨retI (by rw [asS, if_neg (fun q => c_1 (hT.mpr q))]), ht⟩) (fun _ h => nomatch h) dX7_as_16 hlocks
set_option maxRecDepth 100000 in
set_option maxHeartbeats 4000000 in
theorem k_X7_night {b : Nat → Nat} {g : Nat → Int32} {cd : Nat → Int32} {so : Nat → Int32} {sq : Nat → Int32} {q : Nat → Int32} {x : Nat → Nat} {c : Nat → Nat → Int32} {v : Nat → Int32} {y : Nat → Nat} {c2 : Nat → Nat → Int32} {v2 : Nat → Int32} {pa : Nat → Nat} {d : Nat → Nat → Int32} {u : Nat → Int32} (x9 : Int32) (what : Int32) {nn : Nat} {sn : Nat} {pn : Nat} {h9 : Nat} {bt : Nat} {N9 : Nat} {z : Nat → Int32} {gg : Nat → Int64} {r : Nat → Nat → Int32} (hI : Inv nn sn pn h9 bt N9 g cd c v c2 v2 z r) : MR l yX7_night cX7_night 3 (some .int) 1 22 D kB kI kT ks sk sv [.ref (b 30), .int x9, .int what] (wC kI kT b g cd so sq q x c v y c2 v2 pa d u) (some (.int (nigS z r x9 what))) := by
  refine MR.go (by decide +kernel) (Nat.le_of_ble_eq_true rfl) ?_
  intro p e s m below meth c0 args Q ls hQ hx hb hr hml hown hts hlocks hE hP hS hl
  have hl : lv_has ls 3 [(0, .ref (b 30)), (1, .int x9), (2, .int what)] := hl
  have hown : s.vm.findClass RX7 = some m.cls := hown
  obtain ⟨hTi, hWg, hSeI, hPgI, hCt, hKp⟩ := hI
  have ⟨hv1, hz1, hn5, e2, e3, e4, e5, e6, e7, e8, hok, hC, hF⟩ := hTi
  have ⟨w50, w51, w52, w53, w57, w58, w59⟩ := hWg
  have ⟨hv10, hz10, hsn, hSe⟩ := hSeI
  have ⟨hg14, hz14, hpn, hPg⟩ := hPgI
  have ⟨hg0, hz0, hhN, hN, hg9, hz9, hbt⟩ := hCt
  have hcd : ∀ k, k < pn → inR (cd k) 32 126 := fun k hk => (hPg k hk).2
  refine lv_aload_n (pc := 0) hx hb dX7_night_0 rfl (lv_at hl 0 rfl) ?_
  refine rV (pc := 1) (rest := []) ⟨hx, hb, hml, hown, hts⟩ (k_X7_hasHouse (b := b) (g := g) (cd := cd) (so := so) (sq := sq) (q := q) (x := x) (c := c) (v := v) (y := y) (c2 := c2) (v2 := v2) (pa := pa) (d := d) (u := u) (nn := nn) (hv1 := hv1) (hn5 := hn5)) cw_X7_93 ⟨(Nat.le_of_ble_eq_true rfl), (Nat.le_of_ble_eq_true rfl)⟩ hE hS hP rfl rfl rfl rfl hl.1 rfl (Nat.le_of_ble_eq_true rfl) dX7_night_1 ⟨Nat.le_refl _, Nat.le_refl _⟩ ?_
  refine W.eq (g2 := F0 m 4 ls [.int (bi (0 < nn))]) rfl ?_
  refine bif_eq (pc := 4) (tgt := 14) hx hb dX7_night_4 (by decide) (fun c_1 => ?_) (fun c_1 => ?_)
  · skip
    refine lv_bipush (pc := 14) (v := (-101)) hx hb dX7_night_14 (by decide) ?_
    rw [hQ]; exact W.iret (pc := 16) hx hb hr (fun t9 ht _ => ⟨retI (by rw [nigS, if_neg (fun q => q.2 (by rw [hz1]; exact congrArg nI (show nn = 0 by omega)))]), ht⟩) (fun _ h => nomatch h) dX7_night_16 hlocks
  · skip
    refine lv_iload_n (pc := 7) hx hb dX7_night_7 rfl (lv_at hl 1 rfl) ?_
    refine rS (pc := 8) (rest := []) ⟨hx, hb, hml, hown, hts⟩ (k_X7_isNight (x9 := x9)) cw_X7_123 ⟨(Nat.le_of_ble_eq_true rfl), (Nat.le_of_ble_eq_true rfl)⟩ hE hS wc0 rfl hl.1 rfl (Nat.le_of_ble_eq_true rfl) dX7_night_8 ⟨Nat.le_refl _, Nat.le_refl _⟩ ?_
    refine W.eq (g2 := F0 m 11 ls [.int (bi (inR x9 0 11))]) rfl ?_
    refine bif_ne (pc := 11) (tgt := 17) hx hb dX7_night_11 (by decide) (fun c_2 => ?_) (fun c_2 => ?_)
    · skip
      refine lv_iload_n (pc := 17) hx hb dX7_night_17 rfl (lv_at hl 2 rfl) ?_
      refine lv_if_lt (pc := 18) (tgt := 26) hx hb dX7_night_18 (by decide) (fun c_3 => ?_) (fun c_3 => ?_)
      · skip
        refine lv_bipush (pc := 26) (v := (-102)) hx hb dX7_night_26 (by decide) ?_
        rw [hQ]; exact W.iret (pc := 28) hx hb hr (fun t9 ht _ => ⟨retI (by rw [nigS, if_pos ⟨c_2, fun q => by rw [hz1] at q; have := (nI_eq (a := nn) (b := 0) (by omega) (by omega)).mp q; omega⟩, if_neg (fun q => absurd c_3 (Int32.not_lt.mpr q.1))]), ht⟩) (fun _ h => nomatch h) dX7_night_28 hlocks
      · skip
        refine lv_iload_n (pc := 21) hx hb dX7_night_21 rfl (lv_at hl 2 rfl) ?_
        refine lv_iconst (pc := 22) (v := 3) hx hb dX7_night_22 (by decide) ?_
        refine lv_icmp_lt (pc := 23) (tgt := 29) hx hb dX7_night_23 (by decide) (fun c_4 => ?_) (fun c_4 => ?_)
        · skip
          obtain ⟨i, hi, hxi⟩ := inR_nat c_2
          refine lv_aload_n (pc := 29) hx hb dX7_night_29 rfl (lv_at hl 0 rfl) ?_
          refine lv_iload_n (pc := 30) hx hb dX7_night_30 rfl (lv_at hl 1 rfl) ?_
          refine vEq (v := nI i) hxi ?_
          refine lv_iload_n (pc := 31) hx hb dX7_night_31 rfl (lv_at hl 2 rfl) ?_
          refine rV (pc := 32) (rest := []) ⟨hx, hb, hml, hown, hts⟩ (k_X7_ofNight (i := i) (what := what) (b := b) (g := g) (cd := cd) (so := so) (sq := sq) (q := q) (x := x) (c := c) (v := v) (y := y) (c2 := c2) (v2 := v2) (pa := pa) (d := d) (u := u) (nn := nn) (sn := sn) (pn := pn) (h9 := h9) (bt := bt) (N9 := N9) (z := z) (gg := gg) (r := r) (hI := ⟨hTi, hWg, hSeI, hPgI, hCt, hKp⟩) (hi := hi)) cw_X7_126 ⟨(Nat.le_of_ble_eq_true rfl), (Nat.le_of_ble_eq_true rfl)⟩ hE hS hP rfl rfl rfl rfl hl.1 rfl (Nat.le_of_ble_eq_true rfl) dX7_night_32 ⟨Nat.le_refl _, Nat.le_refl _⟩ ?_
          refine W.eq (g2 := F0 m 35 ls [.int (nightS r i what)]) rfl ?_
          rw [hQ]; exact W.iret (pc := 35) hx hb hr (fun t9 ht _ => ⟨retI (by rw [nigS, if_pos ⟨c_2, fun q => by rw [hz1] at q; have := (nI_eq (a := nn) (b := 0) (by omega) (by omega)).mp q; omega⟩, if_pos ⟨Int32.not_lt.mp c_3, lt_leN 2 (by omega) c_4⟩, hxi, ix_nI (by omega)]), ht⟩) (fun _ h => nomatch h) dX7_night_35 hlocks
        · skip
          refine lv_bipush (pc := 26) (v := (-102)) hx hb dX7_night_26 (by decide) ?_
          rw [hQ]; exact W.iret (pc := 28) hx hb hr (fun t9 ht _ => ⟨retI (by rw [nigS, if_pos ⟨c_2, fun q => by rw [hz1] at q; have := (nI_eq (a := nn) (b := 0) (by omega) (by omega)).mp q; omega⟩, if_neg (fun q => c_4 (Int32.lt_of_le_of_lt q.2 (by decide)))]), ht⟩) (fun _ h => nomatch h) dX7_night_28 hlocks
    · skip
      refine lv_bipush (pc := 14) (v := (-101)) hx hb dX7_night_14 (by decide) ?_
      rw [hQ]; exact W.iret (pc := 16) hx hb hr (fun t9 ht _ => ⟨retI (by rw [nigS, if_neg (fun q => c_2 q.1)]), ht⟩) (fun _ h => nomatch h) dX7_night_16 hlocks
set_option maxRecDepth 100000 in
set_option maxHeartbeats 4000000 in
theorem k_X7_rank {b : Nat → Nat} {g : Nat → Int32} {cd : Nat → Int32} {so : Nat → Int32} {sq : Nat → Int32} {q : Nat → Int32} {x : Nat → Nat} {c : Nat → Nat → Int32} {v : Nat → Int32} {y : Nat → Nat} {c2 : Nat → Nat → Int32} {v2 : Nat → Int32} {pa : Nat → Nat} {d : Nat → Nat → Int32} {u : Nat → Int32} (place : Int32) {nn : Nat} {sn : Nat} {pn : Nat} {h9 : Nat} {bt : Nat} {N9 : Nat} {z : Nat → Int32} {gg : Nat → Int64} {r : Nat → Nat → Int32} (hI : Inv nn sn pn h9 bt N9 g cd c v c2 v2 z r) : MR l yX7_rank cX7_rank 3 (some .int) 2 45 D kB kI kT ks sk sv [.ref (b 30), .int place] (wC kI kT b g cd so sq q x c v y c2 v2 pa d u) (some (.int (rankS r nn place))) := by
  refine MR.go (by decide +kernel) (Nat.le_of_ble_eq_true rfl) ?_
  intro p e s m below meth c0 args Q ls hQ hx hb hr hml hown hts hlocks hE hP hS hl
  have hl : lv_has ls 3 [(0, .ref (b 30)), (1, .int place)] := hl
  have hown : s.vm.findClass RX7 = some m.cls := hown
  obtain ⟨hTi, hWg, hSeI, hPgI, hCt, hKp⟩ := hI
  have ⟨hv1, hz1, hn5, e2, e3, e4, e5, e6, e7, e8, hok, hC, hF⟩ := hTi
  have ⟨w50, w51, w52, w53, w57, w58, w59⟩ := hWg
  have ⟨hv10, hz10, hsn, hSe⟩ := hSeI
  have ⟨hg14, hz14, hpn, hPg⟩ := hPgI
  have ⟨hg0, hz0, hhN, hN, hg9, hz9, hbt⟩ := hCt
  have hcd : ∀ k, k < pn → inR (cd k) 32 126 := fun k hk => (hPg k hk).2
  have h52 : ∀ t, t < 5 → c 52 t = nI (nOf (r 8) (nI t) 12) := fun t ht => by rw [w52 t ht, e8]
  have h53 : ∀ t, t < 5 → c 53 t = seatS r (nI t) 12 := fun t ht => by rw [w53 t ht, e2, e3, e4, e5, e6, e7, e8]; rfl
  have hrk : ∀ k, k < nn → cntP (fun e => ahdC (c 52) (c 53) e k = true) nn = aheadN r k nn := fun k hk => rk_eq h52 h53 (e8 ▸ hok) hn5 (e7 ▸ hF) hk
  refine lv_iconst (pc := 0) (v := 0) hx hb dX7_rank_0 (by decide) ?_
  refine lv_istore_n (pc := 1) (lv' := [(2, .int 0), (0, .ref (b 30)), (1, .int place)]) hx hb dX7_rank_1 rfl hl (by decide) rfl (fun ls hl => ?_)
  have lp_1 : ∀ (fuel : Nat) (i : Nat), nn - i < fuel → (i ≤ nn) → (rankF (fun k => aheadN r k nn) place nn nn = rankF (fun k => aheadN r k nn) place nn (nn - i)) → ∀ (ls : Array Slot), lv_has ls 3 [(0, .ref (b 30)), (1, .int place), (2, .int (nI i))] → W p l e (rmO 2 45) s m args below meth c0 s.heap [] 0 0 Q (F0 m 2 ls []) := by
    intro fuel
    induction fuel with
    | zero => intro i hfuel; exact absurd hfuel (Nat.not_lt_zero _)
    | succ fuel ih_lp_1 =>
      intro i hfuel hi hR ls hl
      refine lv_iload_n (pc := 2) hx hb dX7_rank_2 rfl (lv_at hl 2 rfl) ?_
      refine lv_aload_n (pc := 3) hx hb dX7_rank_3 rfl (lv_at hl 0 rfl) ?_
      refine fget (pc := 4) (v := .ref (x 14)) hx hb hts hown hE hP fl_X7_19 0 rfl rfl dX7_rank_4 ?_
      refine fget (pc := 7) (v := .ref (x 7)) hx hb hts hown hE hP fl_X7_28 6 rfl rfl dX7_rank_7 ?_
      refine fget (pc := 10) (v := .int (v 1)) hx hb hts hown hE hP fl_X7_92 14 rfl rfl dX7_rank_10 ?_
      refine vEq (v := nI nn) hv1 ?_
      refine lv_icmp_ge (pc := 13) (tgt := 39) hx hb dX7_rank_13 (by decide) (fun c_2 => ?_) (fun c_2 => ?_)
      · skip
        have c_2n : nn ≤ i := (nI_leI (a := nn) (b := i) (by omega) (by omega)).mp c_2
        refine lv_bipush (pc := 39) (v := (-101)) hx hb dX7_rank_39 (by decide) ?_
        rw [hQ]; exact W.iret (pc := 41) hx hb hr (fun t9 ht _ => ⟨retI (by rw [rankS, hR, show nn - i = 0 by omega]; rfl), ht⟩) (fun _ h => nomatch h) dX7_rank_41 hlocks
      · skip
        have c_2n : ¬ nn ≤ i := fun hh => c_2 ((nI_leI (a := nn) (b := i) (by omega) (by omega)).mpr hh)
        refine lv_aload_n (pc := 16) hx hb dX7_rank_16 rfl (lv_at hl 0 rfl) ?_
        refine fget (pc := 17) (v := .ref (x 14)) hx hb hts hown hE hP fl_X7_19 0 rfl rfl dX7_rank_17 ?_
        refine fget (pc := 20) (v := .ref (x 0)) hx hb hts hown hE hP fl_X7_70 6 rfl rfl dX7_rank_20 ?_
        refine lv_iload_n (pc := 23) hx hb dX7_rank_23 rfl (lv_at hl 2 rfl) ?_
        refine rV (pc := 24) (rest := []) ⟨hx, hb, hml, hown, hts⟩ (k_X1_placeOf (k := i) (pa := x) (d := c) (u := v) (x := x) (n := v 1) (c := c) (nn := nn) (hn := hv1) (hn5 := hn5) (hk5 := (by omega))) cw_X7_180 ⟨(Nat.le_of_ble_eq_true rfl), (Nat.le_of_ble_eq_true rfl)⟩ hE hS (sub_P (wc := wPl kI kT x c v x (v 1) c) hP [7, 8, 9, 10, 11, 12, 13, 14, 15, 16, 17, 18, 19, 20] rfl) rfl rfl rfl rfl hl.1 rfl (Nat.le_of_ble_eq_true rfl) dX7_rank_24 ⟨Nat.le_refl _, Nat.le_refl _⟩ ?_
        refine W.eq (g2 := F0 m 27 ls [.int (nI (cntP (fun e => ahdC (c 52) (c 53) e i = true) nn))]) rfl ?_
        refine vEq (v := nI (aheadN r i nn)) (congrArg nI (hrk i (by omega))) ?_
        refine lv_iload_n (pc := 27) hx hb dX7_rank_27 rfl (lv_at hl 1 rfl) ?_
        refine lv_icmp_ne (pc := 28) (tgt := 33) hx hb dX7_rank_28 (by decide) (fun c_3 => ?_) (fun c_3 => ?_)
        · skip
          refine lv_iinc (pc := 33) (v := nI (i + 1)) (lv' := [(2, .int (nI (i + 1))), (0, .ref (b 30)), (1, .int place)]) hx hb dX7_rank_33 hl (k := 2) rfl (nI_add (i) 1) (by decide) rfl (fun ls hl => ?_)
          refine lv_goto (pc := 36) (tgt := 2) hx hb dX7_rank_36 (by decide) ?_
          exact ih_lp_1 (i + 1) (by omega) (by omega) (by rw [hR]; obtain ⟨m8, hm8⟩ : ∃ m8, nn - i = m8 + 1 := ⟨nn - i - 1, by omega⟩; rw [hm8, rankF, show nn - (m8 + 1) = i by omega, if_neg c_3, show nn - (i + 1) = m8 by omega]) ls (lv_sub hl [1, 2, 0] rfl)
        · skip
          refine lv_iload_n (pc := 31) hx hb dX7_rank_31 rfl (lv_at hl 2 rfl) ?_
          rw [hQ]; exact W.iret (pc := 32) hx hb hr (fun t9 ht _ => ⟨retI ((by rw [rankS, hR]; obtain ⟨m8, hm8⟩ : ∃ m8, nn - i = m8 + 1 := ⟨nn - i - 1, by omega⟩; rw [hm8, rankF, show nn - (m8 + 1) = i by omega, if_pos c_3])), ht⟩) (fun _ h => nomatch h) dX7_rank_32 hlocks
  exact lp_1 _ 0 (Nat.lt_succ_self _) (by omega) rfl ls (lv_sub hl [1, 2, 0] rfl)
set_option maxRecDepth 100000 in
set_option maxHeartbeats 4000000 in
theorem k_X7_count {b : Nat → Nat} {g : Nat → Int32} {cd : Nat → Int32} {so : Nat → Int32} {sq : Nat → Int32} {q : Nat → Int32} {x : Nat → Nat} {c : Nat → Nat → Int32} {v : Nat → Int32} {y : Nat → Nat} {c2 : Nat → Nat → Int32} {v2 : Nat → Int32} {pa : Nat → Nat} {d : Nat → Nat → Int32} {u : Nat → Int32} (what : Int32) {nn : Nat} {sn : Nat} {pn : Nat} {h9 : Nat} {bt : Nat} {N9 : Nat} {z : Nat → Int32} {gg : Nat → Int64} {r : Nat → Nat → Int32} (hI : Inv nn sn pn h9 bt N9 g cd c v c2 v2 z r) : MR l yX7_count cX7_count 2 (some .int) 4 87 D kB kI kT ks sk sv [.ref (b 30), .int what] (wC kI kT b g cd so sq q x c v y c2 v2 pa d u) (some (.int (howS z r nn what))) := by
  refine MR.go (by decide +kernel) (Nat.le_of_ble_eq_true rfl) ?_
  intro p e s m below meth c0 args Q ls hQ hx hb hr hml hown hts hlocks hE hP hS hl
  have hl : lv_has ls 2 [(0, .ref (b 30)), (1, .int what)] := hl
  have hown : s.vm.findClass RX7 = some m.cls := hown
  obtain ⟨hTi, hWg, hSeI, hPgI, hCt, hKp⟩ := hI
  have ⟨hv1, hz1, hn5, e2, e3, e4, e5, e6, e7, e8, hok, hC, hF⟩ := hTi
  have ⟨w50, w51, w52, w53, w57, w58, w59⟩ := hWg
  have ⟨hv10, hz10, hsn, hSe⟩ := hSeI
  have ⟨hg14, hz14, hpn, hPg⟩ := hPgI
  have ⟨hg0, hz0, hhN, hN, hg9, hz9, hbt⟩ := hCt
  have hcd : ∀ k, k < pn → inR (cd k) 32 126 := fun k hk => (hPg k hk).2
  refine lv_iload_n (pc := 0) hx hb dX7_count_0 rfl (lv_at hl 1 rfl) ?_
  by_cases c_1 : what = 0
  · skip
    refine lv_tableIn (pc := 1) (off := 55) (tgt := 56) hx hb dX7_count_1 (by rw [c_1]; decide) (by rw [c_1]; decide) (by rw [c_1]; try rfl) (by decide) ?_
    refine lv_aload_n (pc := 56) hx hb dX7_count_56 rfl (lv_at hl 0 rfl) ?_
    refine fget (pc := 57) (v := .ref (x 14)) hx hb hts hown hE hP fl_X7_19 0 rfl rfl dX7_count_57 ?_
    refine fget (pc := 60) (v := .ref (x 7)) hx hb hts hown hE hP fl_X7_28 6 rfl rfl dX7_count_60 ?_
    refine fget (pc := 63) (v := .int (v 1)) hx hb hts hown hE hP fl_X7_92 14 rfl rfl dX7_count_63 ?_
    refine vEq (v := nI nn) hv1 ?_
    rw [hQ]; exact W.iret (pc := 66) hx hb hr (fun t9 ht _ => ⟨retI (by rw [howS, if_pos c_1]; exact hz1.symm), ht⟩) (fun _ h => nomatch h) dX7_count_66 hlocks
  by_cases c_2 : what = 1
  · skip
    refine lv_tableIn (pc := 1) (off := 66) (tgt := 67) hx hb dX7_count_1 (by rw [c_2]; decide) (by rw [c_2]; decide) (by rw [c_2]; try rfl) (by decide) ?_
    refine lv_aload_n (pc := 67) hx hb dX7_count_67 rfl (lv_at hl 0 rfl) ?_
    refine fget (pc := 68) (v := .ref (x 14)) hx hb hts hown hE hP fl_X7_19 0 rfl rfl dX7_count_68 ?_
    refine fget (pc := 71) (v := .ref (x 0)) hx hb hts hown hE hP fl_X7_70 6 rfl rfl dX7_count_71 ?_
    refine rV (pc := 74) (rest := []) ⟨hx, hb, hml, hown, hts⟩ (k_X1_lit (pa := x) (d := c) (u := v) (x := x) (n := v 1) (c := c) (nn := nn) (hn := hv1) (hn5 := hn5) (hok := hok)) cw_X7_101 ⟨(Nat.le_of_ble_eq_true rfl), (Nat.le_of_ble_eq_true rfl)⟩ hE hS (sub_P (wc := wPl kI kT x c v x (v 1) c) hP [7, 8, 9, 10, 11, 12, 13, 14, 15, 16, 17, 18, 19, 20] rfl) rfl rfl rfl rfl hl.1 rfl (Nat.le_of_ble_eq_true rfl) dX7_count_74 ⟨Nat.le_refl _, Nat.le_refl _⟩ ?_
    refine W.eq (g2 := F0 m 77 ls [.int (12 - nI (dkN (c 8) 0 12))]) rfl ?_
    rw [hQ]; exact W.iret (pc := 77) hx hb hr (fun t9 ht _ => ⟨retI (by rw [howS, if_neg c_1, if_pos c_2]; rw [← e8]; exact lit_eq), ht⟩) (fun _ h => nomatch h) dX7_count_77 hlocks
  by_cases c_3 : what = 2
  · skip
    refine lv_tableIn (pc := 1) (off := 77) (tgt := 78) hx hb dX7_count_1 (by rw [c_3]; decide) (by rw [c_3]; decide) (by rw [c_3]; try rfl) (by decide) ?_
    refine lv_aload_n (pc := 78) hx hb dX7_count_78 rfl (lv_at hl 0 rfl) ?_
    refine fget (pc := 79) (v := .ref (x 14)) hx hb hts hown hE hP fl_X7_19 0 rfl rfl dX7_count_79 ?_
    refine fget (pc := 82) (v := .ref (x 0)) hx hb hts hown hE hP fl_X7_70 6 rfl rfl dX7_count_82 ?_
    refine fget (pc := 85) (v := .int (v 57)) hx hb hts hown hE hP fl_X7_136 7 rfl rfl dX7_count_85 ?_
    rw [hQ]; exact W.iret (pc := 88) hx hb hr (fun t9 ht _ => ⟨retI (by rw [howS, if_neg c_1, if_neg c_2, if_pos c_3]; rw [w57, e2, e3, e4, e5, e6, e8]; rfl), ht⟩) (fun _ h => nomatch h) dX7_count_88 hlocks
  by_cases c_4 : what = 3
  · skip
    refine lv_tableIn (pc := 1) (off := 88) (tgt := 89) hx hb dX7_count_1 (by rw [c_4]; decide) (by rw [c_4]; decide) (by rw [c_4]; try rfl) (by decide) ?_
    refine lv_aload_n (pc := 89) hx hb dX7_count_89 rfl (lv_at hl 0 rfl) ?_
    refine fget (pc := 90) (v := .ref (x 14)) hx hb hts hown hE hP fl_X7_19 0 rfl rfl dX7_count_90 ?_
    refine fget (pc := 93) (v := .ref (x 0)) hx hb hts hown hE hP fl_X7_70 6 rfl rfl dX7_count_93 ?_
    refine fget (pc := 96) (v := .int (v 58)) hx hb hts hown hE hP fl_X7_200 7 rfl rfl dX7_count_96 ?_
    rw [hQ]; exact W.iret (pc := 99) hx hb hr (fun t9 ht _ => ⟨retI (by rw [howS, if_neg c_1, if_neg c_2, if_neg c_3, if_pos c_4]; rw [w58]; exact lost_at0 e2.symm e3.symm e4.symm e5.symm e6.symm e8.symm), ht⟩) (fun _ h => nomatch h) dX7_count_99 hlocks
  by_cases c_5 : what = 4
  · skip
    refine lv_tableIn (pc := 1) (off := 99) (tgt := 100) hx hb dX7_count_1 (by rw [c_5]; decide) (by rw [c_5]; decide) (by rw [c_5]; try rfl) (by decide) ?_
    refine lv_aload_n (pc := 100) hx hb dX7_count_100 rfl (lv_at hl 0 rfl) ?_
    refine fget (pc := 101) (v := .ref (x 14)) hx hb hts hown hE hP fl_X7_19 0 rfl rfl dX7_count_101 ?_
    refine fget (pc := 104) (v := .ref (x 0)) hx hb hts hown hE hP fl_X7_70 6 rfl rfl dX7_count_104 ?_
    refine fget (pc := 107) (v := .int (v 59)) hx hb hts hown hE hP fl_X7_195 7 rfl rfl dX7_count_107 ?_
    rw [hQ]; exact W.iret (pc := 110) hx hb hr (fun t9 ht _ => ⟨retI (by rw [howS, if_neg c_1, if_neg c_2, if_neg c_3, if_neg c_4, if_pos c_5]; rw [w59]; exact ern_at0 e2.symm e3.symm e4.symm e5.symm e6.symm e7.symm e8.symm), ht⟩) (fun _ h => nomatch h) dX7_count_110 hlocks
  by_cases c_6 : what = 5
  · skip
    refine lv_tableIn (pc := 1) (off := 110) (tgt := 111) hx hb dX7_count_1 (by rw [c_6]; decide) (by rw [c_6]; decide) (by rw [c_6]; try rfl) (by decide) ?_
    refine lv_aload_n (pc := 111) hx hb dX7_count_111 rfl (lv_at hl 0 rfl) ?_
    refine fget (pc := 112) (v := .ref (x 14)) hx hb hts hown hE hP fl_X7_19 0 rfl rfl dX7_count_112 ?_
    refine fget (pc := 115) (v := .ref (x 0)) hx hb hts hown hE hP fl_X7_70 6 rfl rfl dX7_count_115 ?_
    refine rV (pc := 118) (rest := []) ⟨hx, hb, hml, hown, hts⟩ (k_X1_unlike (pa := x) (d := c) (u := v) (x := x) (n := v 1) (c := c)) cw_X7_201 ⟨(Nat.le_of_ble_eq_true rfl), (Nat.le_of_ble_eq_true rfl)⟩ hE hS (sub_P (wc := wPl kI kT x c v x (v 1) c) hP [7, 8, 9, 10, 11, 12, 13, 14, 15, 16, 17, 18, 19, 20] rfl) rfl rfl rfl rfl hl.1 rfl (Nat.le_of_ble_eq_true rfl) dX7_count_118 ⟨Nat.le_refl _, Nat.le_refl _⟩ ?_
    refine W.eq (g2 := F0 m 121 ls [.int (nI (cntP (fun k => 0 < (c 52) k) 5))]) rfl ?_
    rw [hQ]; exact W.iret (pc := 121) hx hb hr (fun t9 ht _ => ⟨retI (by rw [howS, if_neg c_1, if_neg c_2, if_neg c_3, if_neg c_4, if_neg c_5, if_pos c_6]; rw [← e8]; exact congrArg nI (unl_eq w52 hn5 hok)), ht⟩) (fun _ h => nomatch h) dX7_count_121 hlocks
  by_cases c_7 : what = 6
  · skip
    refine lv_tableIn (pc := 1) (off := 121) (tgt := 122) hx hb dX7_count_1 (by rw [c_7]; decide) (by rw [c_7]; decide) (by rw [c_7]; try rfl) (by decide) ?_
    refine lv_aload_n (pc := 122) hx hb dX7_count_122 rfl (lv_at hl 0 rfl) ?_
    refine fget (pc := 123) (v := .ref (x 14)) hx hb hts hown hE hP fl_X7_19 0 rfl rfl dX7_count_123 ?_
    refine fget (pc := 126) (v := .ref (x 15)) hx hb hts hown hE hP fl_X7_76 6 rfl rfl dX7_count_126 ?_
    refine fget (pc := 129) (v := .int (v 10)) hx hb hts hown hE hP fl_X7_80 21 rfl rfl dX7_count_129 ?_
    refine vEq (v := nI sn) hv10 ?_
    rw [hQ]; exact W.iret (pc := 132) hx hb hr (fun t9 ht _ => ⟨retI (by rw [howS, if_neg c_1, if_neg c_2, if_neg c_3, if_neg c_4, if_neg c_5, if_neg c_6, if_pos c_7]; exact hz10.symm), ht⟩) (fun _ h => nomatch h) dX7_count_132 hlocks
  by_cases c_8 : what = 7
  · skip
    refine lv_tableIn (pc := 1) (off := 132) (tgt := 133) hx hb dX7_count_1 (by rw [c_8]; decide) (by rw [c_8]; decide) (by rw [c_8]; try rfl) (by decide) ?_
    refine lv_aload_n (pc := 133) hx hb dX7_count_133 rfl (lv_at hl 0 rfl) ?_
    refine fget (pc := 134) (v := .ref (b 31)) hx hb hts hown hE hP fl_X7_10 0 rfl rfl dX7_count_134 ?_
    refine fget (pc := 137) (v := .int (g 14)) hx hb hts hown hE hP fl_X7_48 1 rfl rfl dX7_count_137 ?_
    refine vEq (v := nI pn) hg14 ?_
    rw [hQ]; exact W.iret (pc := 140) hx hb hr (fun t9 ht _ => ⟨retI (by rw [howS, if_neg c_1, if_neg c_2, if_neg c_3, if_neg c_4, if_neg c_5, if_neg c_6, if_neg c_7, if_pos c_8]; exact hz14.symm), ht⟩) (fun _ h => nomatch h) dX7_count_140 hlocks
  by_cases c_9 : what = 8
  · skip
    refine lv_tableIn (pc := 1) (off := 140) (tgt := 141) hx hb dX7_count_1 (by rw [c_9]; decide) (by rw [c_9]; decide) (by rw [c_9]; try rfl) (by decide) ?_
    refine lv_aload_n (pc := 141) hx hb dX7_count_141 rfl (lv_at hl 0 rfl) ?_
    refine fget (pc := 142) (v := .int (g 0)) hx hb hts hown hE hP fl_X7_89 0 rfl rfl dX7_count_142 ?_
    refine vEq (v := nI h9) hg0 ?_
    rw [hQ]; exact W.iret (pc := 145) hx hb hr (fun t9 ht _ => ⟨retI (by rw [howS, if_neg c_1, if_neg c_2, if_neg c_3, if_neg c_4, if_neg c_5, if_neg c_6, if_neg c_7, if_neg c_8, if_pos c_9]; exact hz0.symm), ht⟩) (fun _ h => nomatch h) dX7_count_145 hlocks
  by_cases c_10 : what = 9
  · skip
    refine lv_tableIn (pc := 1) (off := 145) (tgt := 146) hx hb dX7_count_1 (by rw [c_10]; decide) (by rw [c_10]; decide) (by rw [c_10]; try rfl) (by decide) ?_
    refine lv_aload_n (pc := 146) hx hb dX7_count_146 rfl (lv_at hl 0 rfl) ?_
    refine fget (pc := 147) (v := .int (g 9)) hx hb hts hown hE hP fl_X7_159 0 rfl rfl dX7_count_147 ?_
    refine vEq (v := nI bt) hg9 ?_
    rw [hQ]; exact W.iret (pc := 150) hx hb hr (fun t9 ht _ => ⟨retI (by rw [howS, if_neg c_1, if_neg c_2, if_neg c_3, if_neg c_4, if_neg c_5, if_neg c_6, if_neg c_7, if_neg c_8, if_neg c_9, if_pos c_10]; exact hz9.symm), ht⟩) (fun _ h => nomatch h) dX7_count_150 hlocks
  refine lv_tableOut (pc := 1) (tgt := 151) hx hb dX7_count_1 (by (have q0 : ¬ what.toInt = 0 := fun q => c_1 (Int32.toInt_inj.mp (q.trans rfl)); have q1 : ¬ what.toInt = 1 := fun q => c_2 (Int32.toInt_inj.mp (q.trans rfl)); have q2 : ¬ what.toInt = 2 := fun q => c_3 (Int32.toInt_inj.mp (q.trans rfl)); have q3 : ¬ what.toInt = 3 := fun q => c_4 (Int32.toInt_inj.mp (q.trans rfl)); have q4 : ¬ what.toInt = 4 := fun q => c_5 (Int32.toInt_inj.mp (q.trans rfl)); have q5 : ¬ what.toInt = 5 := fun q => c_6 (Int32.toInt_inj.mp (q.trans rfl)); have q6 : ¬ what.toInt = 6 := fun q => c_7 (Int32.toInt_inj.mp (q.trans rfl)); have q7 : ¬ what.toInt = 7 := fun q => c_8 (Int32.toInt_inj.mp (q.trans rfl)); have q8 : ¬ what.toInt = 8 := fun q => c_9 (Int32.toInt_inj.mp (q.trans rfl)); have q9 : ¬ what.toInt = 9 := fun q => c_10 (Int32.toInt_inj.mp (q.trans rfl)); omega)) (by decide) ?_
  refine lv_bipush (pc := 151) (v := (-102)) hx hb dX7_count_151 (by decide) ?_
  rw [hQ]; exact W.iret (pc := 153) hx hb hr (fun t9 ht _ => ⟨retI (by rw [howS, if_neg c_1, if_neg c_2, if_neg c_3, if_neg c_4, if_neg c_5, if_neg c_6, if_neg c_7, if_neg c_8, if_neg c_9, if_neg c_10]), ht⟩) (fun _ h => nomatch h) dX7_count_153 hlocks
set_option maxRecDepth 100000 in
set_option maxHeartbeats 4000000 in
theorem k_X7_fault {b : Nat → Nat} {g : Nat → Int32} {cd : Nat → Int32} {so : Nat → Int32} {sq : Nat → Int32} {q : Nat → Int32} {x : Nat → Nat} {c : Nat → Nat → Int32} {v : Nat → Int32} {y : Nat → Nat} {c2 : Nat → Nat → Int32} {v2 : Nat → Int32} {pa : Nat → Nat} {d : Nat → Nat → Int32} {u : Nat → Int32} {nn : Nat} {sn : Nat} {pn : Nat} {h9 : Nat} {bt : Nat} {N9 : Nat} {z : Nat → Int32} {gg : Nat → Int64} {r : Nat → Nat → Int32} (hI : Inv nn sn pn h9 bt N9 g cd c v c2 v2 z r) : MR l yX7_fault cX7_fault 1 (some .int) 6 148 D kB kI kT ks sk sv [.ref (b 30)] (wC kI kT b g cd so sq q x c v y c2 v2 pa d u) (some (.int (nI (ffC cd pn)))) := by
  refine MR.go (by decide +kernel) (Nat.le_of_ble_eq_true rfl) ?_
  intro p e s m below meth c0 args Q ls hQ hx hb hr hml hown hts hlocks hE hP hS hl
  have hl : lv_has ls 1 [(0, .ref (b 30))] := hl
  have hown : s.vm.findClass RX7 = some m.cls := hown
  obtain ⟨hTi, hWg, hSeI, hPgI, hCt, hKp⟩ := hI
  have ⟨hv1, hz1, hn5, e2, e3, e4, e5, e6, e7, e8, hok, hC, hF⟩ := hTi
  have ⟨w50, w51, w52, w53, w57, w58, w59⟩ := hWg
  have ⟨hv10, hz10, hsn, hSe⟩ := hSeI
  have ⟨hg14, hz14, hpn, hPg⟩ := hPgI
  have ⟨hg0, hz0, hhN, hN, hg9, hz9, hbt⟩ := hCt
  have hcd : ∀ k, k < pn → inR (cd k) 32 126 := fun k hk => (hPg k hk).2
  refine lv_aload_n (pc := 0) hx hb dX7_fault_0 rfl (lv_at hl 0 rfl) ?_
  refine fget (pc := 1) (v := .ref (b 31)) hx hb hts hown hE hP fl_X7_10 0 rfl rfl dX7_fault_1 ?_
  refine rV (pc := 4) (rest := []) ⟨hx, hb, hml, hown, hts⟩ (k_X0_firstFault (b := b) (cd := cd) (ln := g 14) (pn := pn) (hln := hg14) (hpn := hpn) (hcd := hcd)) cw_X7_56 ⟨(Nat.le_of_ble_eq_true rfl), (Nat.le_of_ble_eq_true rfl)⟩ hE hS (sub_P (wc := wPg kI b cd (g 14)) hP [1, 2] rfl) rfl rfl rfl rfl hl.1 rfl (Nat.le_of_ble_eq_true rfl) dX7_fault_4 ⟨Nat.le_refl _, Nat.le_refl _⟩ ?_
  refine W.eq (g2 := F0 m 7 ls [.int (nI (ffC cd pn))]) rfl ?_
  rw [hQ]; exact W.iret (pc := 7) hx hb hr (fun t9 ht _ => ⟨retI (rfl), ht⟩) (fun _ h => nomatch h) dX7_fault_7 hlocks
set_option maxRecDepth 100000 in
set_option maxHeartbeats 4000000 in
theorem k_X7_digest {b : Nat → Nat} {g : Nat → Int32} {cd : Nat → Int32} {so : Nat → Int32} {sq : Nat → Int32} {q : Nat → Int32} {x : Nat → Nat} {c : Nat → Nat → Int32} {v : Nat → Int32} {y : Nat → Nat} {c2 : Nat → Nat → Int32} {v2 : Nat → Int32} {pa : Nat → Nat} {d : Nat → Nat → Int32} {u : Nat → Int32} {nn : Nat} {sn : Nat} {pn : Nat} {h9 : Nat} {bt : Nat} {N9 : Nat} {z : Nat → Int32} {gg : Nat → Int64} {r : Nat → Nat → Int32} (hI : Inv nn sn pn h9 bt N9 g cd c v c2 v2 z r) : MR l yX7_digest cX7_digest 5 (some .long) 5 108 D kB kI kT ks sk sv [.ref (b 30)] (wC kI kT b g cd so sq q x c v y c2 v2 pa d u) (some (.long (dg5 z r nn sn pn 10))) := by
  refine MR.go (by decide +kernel) (Nat.le_of_ble_eq_true rfl) ?_
  intro p e s m below meth c0 args Q ls hQ hx hb hr hml hown hts hlocks hE hP hS hl
  have hl : lv_has ls 5 [(0, .ref (b 30))] := hl
  have hown : s.vm.findClass RX7 = some m.cls := hown
  obtain ⟨hTi, hWg, hSeI, hPgI, hCt, hKp⟩ := hI
  have ⟨hv1, hz1, hn5, e2, e3, e4, e5, e6, e7, e8, hok, hC, hF⟩ := hTi
  have ⟨w50, w51, w52, w53, w57, w58, w59⟩ := hWg
  have ⟨hv10, hz10, hsn, hSe⟩ := hSeI
  have ⟨hg14, hz14, hpn, hPg⟩ := hPgI
  have ⟨hg0, hz0, hhN, hN, hg9, hz9, hbt⟩ := hCt
  have hcd : ∀ k, k < pn → inR (cd k) 32 126 := fun k hk => (hPg k hk).2
  refine lv_ldc2 (pc := 0) (v := 1459) hx hb hown (hts _ co_X7_204) dX7_digest_0 ?_
  refine lv_lstore_n (pc := 3) (lv' := [(1, .long 1459), (0, .ref (b 30))]) hx hb dX7_digest_3 rfl hl (by decide) rfl (fun ls hl => ?_)
  refine lv_iconst (pc := 4) (v := 0) hx hb dX7_digest_4 (by decide) ?_
  refine lv_istore_n (pc := 5) (lv' := [(3, .int 0), (1, .long 1459), (0, .ref (b 30))]) hx hb dX7_digest_5 rfl hl (by decide) rfl (fun ls hl => ?_)
  have lp_1 : ∀ (fuel : Nat) (k : Nat), nn - k < fuel → (k ≤ nn) → ∀ (ls : Array Slot), lv_has ls 5 [(0, .ref (b 30)), (1, .long (dg1 r sn k)), (3, .int (nI k))] → W p l e (rmO 5 108) s m args below meth c0 s.heap [] 0 0 Q (F0 m 6 ls []) := by
    intro fuel
    induction fuel with
    | zero => intro k hfuel; exact absurd hfuel (Nat.not_lt_zero _)
    | succ fuel ih_lp_1 =>
      intro k hfuel hk ls hl
      refine lv_iload_n (pc := 6) hx hb dX7_digest_6 rfl (lv_at hl 2 rfl) ?_
      refine lv_aload_n (pc := 7) hx hb dX7_digest_7 rfl (lv_at hl 0 rfl) ?_
      refine fget (pc := 8) (v := .ref (x 14)) hx hb hts hown hE hP fl_X7_19 0 rfl rfl dX7_digest_8 ?_
      refine fget (pc := 11) (v := .ref (x 7)) hx hb hts hown hE hP fl_X7_28 6 rfl rfl dX7_digest_11 ?_
      refine fget (pc := 14) (v := .int (v 1)) hx hb hts hown hE hP fl_X7_92 14 rfl rfl dX7_digest_14 ?_
      refine vEq (v := nI nn) hv1 ?_
      refine lv_icmp_ge (pc := 17) (tgt := 57) hx hb dX7_digest_17 (by decide) (fun c_2 => ?_) (fun c_2 => ?_)
      · skip
        have c_2n : nn ≤ k := (nI_leI (a := nn) (b := k) (by omega) (by omega)).mp c_2
        refine lv_aload_n (pc := 57) hx hb dX7_digest_57 rfl (lv_at hl 0 rfl) ?_
        refine rV (pc := 58) (rest := []) ⟨hx, hb, hml, hown, hts⟩ (k_X7_hasHouse (b := b) (g := g) (cd := cd) (so := so) (sq := sq) (q := q) (x := x) (c := c) (v := v) (y := y) (c2 := c2) (v2 := v2) (pa := pa) (d := d) (u := u) (nn := nn) (hv1 := hv1) (hn5 := hn5)) cw_X7_93 ⟨(Nat.le_of_ble_eq_true rfl), (Nat.le_of_ble_eq_true rfl)⟩ hE hS hP rfl rfl rfl rfl hl.1 rfl (Nat.le_of_ble_eq_true rfl) dX7_digest_58 ⟨Nat.le_refl _, Nat.le_refl _⟩ ?_
        refine W.eq (g2 := F0 m 61 ls [.int (bi (0 < nn))]) rfl ?_
        refine bif_eq (pc := 61) (tgt := 108) hx hb dX7_digest_61 (by decide) (fun c_3 => ?_) (fun c_3 => ?_)
        · skip
          refine lv_iconst (pc := 108) (v := 0) hx hb dX7_digest_108 (by decide) ?_
          refine lv_istore_n (pc := 109) (lv' := [(3, .int 0), (0, .ref (b 30)), (1, .long (dg1 r sn k))]) hx hb dX7_digest_109 rfl hl (by decide) rfl (fun ls hl => ?_)
          have lp_4 : ∀ (fuel : Nat) (k : Nat), nn - k < fuel → (k ≤ nn) → ∀ (ls : Array Slot), lv_has ls 5 [(0, .ref (b 30)), (1, .long (dg3 r nn sn k)), (3, .int (nI k))] → W p l e (rmO 5 108) s m args below meth c0 s.heap [] 0 0 Q (F0 m 110 ls []) := by
            intro fuel
            induction fuel with
            | zero => intro k hfuel; exact absurd hfuel (Nat.not_lt_zero _)
            | succ fuel ih_lp_4 =>
              intro k hfuel hk ls hl
              refine lv_iload_n (pc := 110) hx hb dX7_digest_110 rfl (lv_at hl 2 rfl) ?_
              refine lv_aload_n (pc := 111) hx hb dX7_digest_111 rfl (lv_at hl 0 rfl) ?_
              refine fget (pc := 112) (v := .ref (x 14)) hx hb hts hown hE hP fl_X7_19 0 rfl rfl dX7_digest_112 ?_
              refine fget (pc := 115) (v := .ref (x 7)) hx hb hts hown hE hP fl_X7_28 6 rfl rfl dX7_digest_115 ?_
              refine fget (pc := 118) (v := .int (v 1)) hx hb hts hown hE hP fl_X7_92 14 rfl rfl dX7_digest_118 ?_
              refine vEq (v := nI nn) hv1 ?_
              refine lv_icmp_ge (pc := 121) (tgt := 143) hx hb dX7_digest_121 (by decide) (fun c_5 => ?_) (fun c_5 => ?_)
              · skip
                have c_5n : nn ≤ k := (nI_leI (a := nn) (b := k) (by omega) (by omega)).mp c_5
                refine lv_iconst (pc := 143) (v := 0) hx hb dX7_digest_143 (by decide) ?_
                refine lv_istore_n (pc := 144) (lv' := [(3, .int 0), (0, .ref (b 30)), (1, .long (dg3 r nn sn k))]) hx hb dX7_digest_144 rfl hl (by decide) rfl (fun ls hl => ?_)
                have lp_6 : ∀ (fuel : Nat) (k : Nat), pn - k < fuel → (k ≤ pn) → ∀ (ls : Array Slot), lv_has ls 5 [(0, .ref (b 30)), (1, .long (dg4 r nn sn k)), (3, .int (nI k))] → W p l e (rmO 5 108) s m args below meth c0 s.heap [] 0 0 Q (F0 m 145 ls []) := by
                  intro fuel
                  induction fuel with
                  | zero => intro k hfuel; exact absurd hfuel (Nat.not_lt_zero _)
                  | succ fuel ih_lp_6 =>
                    intro k hfuel hk ls hl
                    refine lv_iload_n (pc := 145) hx hb dX7_digest_145 rfl (lv_at hl 2 rfl) ?_
                    refine lv_aload_n (pc := 146) hx hb dX7_digest_146 rfl (lv_at hl 0 rfl) ?_
                    refine fget (pc := 147) (v := .ref (b 31)) hx hb hts hown hE hP fl_X7_10 0 rfl rfl dX7_digest_147 ?_
                    refine fget (pc := 150) (v := .int (g 14)) hx hb hts hown hE hP fl_X7_48 1 rfl rfl dX7_digest_150 ?_
                    refine vEq (v := nI pn) hg14 ?_
                    refine lv_icmp_ge (pc := 153) (tgt := 179) hx hb dX7_digest_153 (by decide) (fun c_7 => ?_) (fun c_7 => ?_)
                    · skip
                      have c_7n : pn ≤ k := (nI_leI (a := pn) (b := k) (by omega) (by omega)).mp c_7
                      refine lv_iconst (pc := 179) (v := 0) hx hb dX7_digest_179 (by decide) ?_
                      refine lv_istore_n (pc := 180) (lv' := [(3, .int 0), (0, .ref (b 30)), (1, .long (dg4 r nn sn k))]) hx hb dX7_digest_180 rfl hl (by decide) rfl (fun ls hl => ?_)
                      have lp_8 : ∀ (fuel : Nat) (w9 : Nat), 10 - w9 < fuel → (w9 ≤ 10) → ∀ (ls : Array Slot), lv_has ls 5 [(0, .ref (b 30)), (1, .long (dg5 z r nn sn pn w9)), (3, .int (nI w9))] → W p l e (rmO 5 108) s m args below meth c0 s.heap [] 0 0 Q (F0 m 181 ls []) := by
                        intro fuel
                        induction fuel with
                        | zero => intro w9 hfuel; exact absurd hfuel (Nat.not_lt_zero _)
                        | succ fuel ih_lp_8 =>
                          intro w9 hfuel hw9 ls hl
                          refine lv_iload_n (pc := 181) hx hb dX7_digest_181 rfl (lv_at hl 2 rfl) ?_
                          refine lv_bipush (pc := 182) (v := 10) hx hb dX7_digest_182 (by decide) ?_
                          refine lv_icmp_ge (pc := 184) (tgt := 206) hx hb dX7_digest_184 (by decide) (fun c_9 => ?_) (fun c_9 => ?_)
                          · skip
                            have c_9n : 10 ≤ w9 := (nI_leI (a := 10) (b := w9) (by omega) (by omega)).mp c_9
                            refine lv_lload_n (pc := 206) hx hb dX7_digest_206 rfl (lv_at hl 1 rfl) ?_
                            rw [hQ]; exact W.lret (pc := 207) hx hb hr (fun t9 ht _ => ⟨retL (by rw [show (10 : Nat) = w9 by omega]), ht⟩) (fun _ h => nomatch h) dX7_digest_207 hlocks
                          · skip
                            have c_9n : ¬ 10 ≤ w9 := fun hh => c_9 ((nI_leI (a := 10) (b := w9) (by omega) (by omega)).mpr hh)
                            refine lv_ldc2 (pc := 187) (v := 31) hx hb hown (hts _ co_X7_206) dX7_digest_187 ?_
                            refine lv_lload_n (pc := 190) hx hb dX7_digest_190 rfl (lv_at hl 1 rfl) ?_
                            refine lv_lmul (pc := 191) hx hb dX7_digest_191 ?_
                            refine lv_aload_n (pc := 192) hx hb dX7_digest_192 rfl (lv_at hl 0 rfl) ?_
                            refine lv_iload_n (pc := 193) hx hb dX7_digest_193 rfl (lv_at hl 2 rfl) ?_
                            refine rV (pc := 194) (rest := [.long (31 * (dg5 z r nn sn pn w9))]) ⟨hx, hb, hml, hown, hts⟩ (k_X7_count (what := nI w9) (b := b) (g := g) (cd := cd) (so := so) (sq := sq) (q := q) (x := x) (c := c) (v := v) (y := y) (c2 := c2) (v2 := v2) (pa := pa) (d := d) (u := u) (nn := nn) (sn := sn) (pn := pn) (h9 := h9) (bt := bt) (N9 := N9) (z := z) (gg := gg) (r := r) (hI := ⟨hTi, hWg, hSeI, hPgI, hCt, hKp⟩)) cw_X7_214 ⟨(Nat.le_of_ble_eq_true rfl), (Nat.le_of_ble_eq_true rfl)⟩ hE hS hP rfl rfl rfl rfl hl.1 rfl (Nat.le_of_ble_eq_true rfl) dX7_digest_194 ⟨Nat.le_refl _, Nat.le_refl _⟩ ?_
                            refine W.eq (g2 := F0 m 197 ls [.int (howS z r nn (nI w9)), .long (31 * (dg5 z r nn sn pn w9))]) rfl ?_
                            refine lv_i2l (pc := 197) (v := (howS z r nn (nI w9)).toInt64) hx hb dX7_digest_197 rfl ?_
                            refine lv_ladd (pc := 198) hx hb dX7_digest_198 ?_
                            refine lv_lstore_n (pc := 199) (lv' := [(1, .long ((31 * (dg5 z r nn sn pn w9)) + ((howS z r nn (nI w9)).toInt64))), (0, .ref (b 30)), (3, .int (nI w9))]) hx hb dX7_digest_199 rfl hl (by decide) rfl (fun ls hl => ?_)
                            refine lv_iinc (pc := 200) (v := nI (w9 + 1)) (lv' := [(3, .int (nI (w9 + 1))), (1, .long ((31 * (dg5 z r nn sn pn w9)) + ((howS z r nn (nI w9)).toInt64))), (0, .ref (b 30))]) hx hb dX7_digest_200 hl (k := 2) rfl (nI_add (w9) 1) (by decide) rfl (fun ls hl => ?_)
                            refine lv_goto (pc := 203) (tgt := 181) hx hb dX7_digest_203 (by decide) ?_
                            exact ih_lp_8 (w9 + 1) (by omega) (by omega) ls (by rw [show (dg5 z r nn sn pn (w9 + 1) : Int64) = (31 * (dg5 z r nn sn pn w9)) + ((howS z r nn (nI w9)).toInt64) from (rfl)]; exact lv_sub hl [2, 1, 0] rfl)
                      exact lp_8 _ 0 (Nat.lt_succ_self _) (by omega) ls (by have q9 := lv_sub hl [1, 2, 0] rfl; rw [show k = pn by omega] at q9; exact q9)
                    · skip
                      have c_7n : ¬ pn ≤ k := fun hh => c_7 ((nI_leI (a := pn) (b := k) (by omega) (by omega)).mpr hh)
                      refine lv_ldc2 (pc := 156) (v := 31) hx hb hown (hts _ co_X7_206) dX7_digest_156 ?_
                      refine lv_lload_n (pc := 159) hx hb dX7_digest_159 rfl (lv_at hl 1 rfl) ?_
                      refine lv_lmul (pc := 160) hx hb dX7_digest_160 ?_
                      refine lv_aload_n (pc := 161) hx hb dX7_digest_161 rfl (lv_at hl 0 rfl) ?_
                      refine fget (pc := 162) (v := .ref (b 31)) hx hb hts hown hE hP fl_X7_10 0 rfl rfl dX7_digest_162 ?_
                      refine fget (pc := 165) (v := .ref (b 32)) hx hb hts hown hE hP fl_X7_211 1 rfl rfl dX7_digest_165 ?_
                      refine lv_iload_n (pc := 168) hx hb dX7_digest_168 rfl (lv_at hl 2 rfl) ?_
                      refine aldN (pc := 169) (f := cd) hx hb hE hP 2 rfl (k) (by omega) (by omega) dX7_digest_169 ?_
                      refine lv_i2l (pc := 170) (v := (cd k).toInt64) hx hb dX7_digest_170 rfl ?_
                      refine lv_ladd (pc := 171) hx hb dX7_digest_171 ?_
                      refine lv_lstore_n (pc := 172) (lv' := [(1, .long ((31 * (dg4 r nn sn k)) + ((cd k).toInt64))), (0, .ref (b 30)), (3, .int (nI k))]) hx hb dX7_digest_172 rfl hl (by decide) rfl (fun ls hl => ?_)
                      refine lv_iinc (pc := 173) (v := nI (k + 1)) (lv' := [(3, .int (nI (k + 1))), (1, .long ((31 * (dg4 r nn sn k)) + ((cd k).toInt64))), (0, .ref (b 30))]) hx hb dX7_digest_173 hl (k := 2) rfl (nI_add (k) 1) (by decide) rfl (fun ls hl => ?_)
                      refine lv_goto (pc := 176) (tgt := 145) hx hb dX7_digest_176 (by decide) ?_
                      exact ih_lp_6 (k + 1) (by omega) (by omega) ls (by rw [show (dg4 r nn sn (k + 1) : Int64) = (31 * (dg4 r nn sn k)) + ((cd k).toInt64) from (by rw [show (cd k) = r 15 k from (hPg k (by omega)).1]; rfl)]; exact lv_sub hl [2, 1, 0] rfl)
                exact lp_6 _ 0 (Nat.lt_succ_self _) (by omega) ls (by have q9 := lv_sub hl [1, 2, 0] rfl; rw [show k = nn by omega] at q9; exact q9)
              · skip
                have c_5n : ¬ nn ≤ k := fun hh => c_5 ((nI_leI (a := nn) (b := k) (by omega) (by omega)).mpr hh)
                refine lv_ldc2 (pc := 124) (v := 31) hx hb hown (hts _ co_X7_206) dX7_digest_124 ?_
                refine lv_lload_n (pc := 127) hx hb dX7_digest_127 rfl (lv_at hl 1 rfl) ?_
                refine lv_lmul (pc := 128) hx hb dX7_digest_128 ?_
                refine lv_aload_n (pc := 129) hx hb dX7_digest_129 rfl (lv_at hl 0 rfl) ?_
                refine lv_iload_n (pc := 130) hx hb dX7_digest_130 rfl (lv_at hl 2 rfl) ?_
                refine rV (pc := 131) (rest := [.long (31 * (dg3 r nn sn k))]) ⟨hx, hb, hml, hown, hts⟩ (k_X7_rank (place := nI k) (b := b) (g := g) (cd := cd) (so := so) (sq := sq) (q := q) (x := x) (c := c) (v := v) (y := y) (c2 := c2) (v2 := v2) (pa := pa) (d := d) (u := u) (nn := nn) (sn := sn) (pn := pn) (h9 := h9) (bt := bt) (N9 := N9) (z := z) (gg := gg) (r := r) (hI := ⟨hTi, hWg, hSeI, hPgI, hCt, hKp⟩)) cw_X7_208 ⟨(Nat.le_of_ble_eq_true rfl), (Nat.le_of_ble_eq_true rfl)⟩ hE hS hP rfl rfl rfl rfl hl.1 rfl (Nat.le_of_ble_eq_true rfl) dX7_digest_131 ⟨Nat.le_refl _, Nat.le_refl _⟩ ?_
                refine W.eq (g2 := F0 m 134 ls [.int (rankS r nn (nI k)), .long (31 * (dg3 r nn sn k))]) rfl ?_
                refine lv_i2l (pc := 134) (v := (rankS r nn (nI k)).toInt64) hx hb dX7_digest_134 rfl ?_
                refine lv_ladd (pc := 135) hx hb dX7_digest_135 ?_
                refine lv_lstore_n (pc := 136) (lv' := [(1, .long ((31 * (dg3 r nn sn k)) + ((rankS r nn (nI k)).toInt64))), (0, .ref (b 30)), (3, .int (nI k))]) hx hb dX7_digest_136 rfl hl (by decide) rfl (fun ls hl => ?_)
                refine lv_iinc (pc := 137) (v := nI (k + 1)) (lv' := [(3, .int (nI (k + 1))), (1, .long ((31 * (dg3 r nn sn k)) + ((rankS r nn (nI k)).toInt64))), (0, .ref (b 30))]) hx hb dX7_digest_137 hl (k := 2) rfl (nI_add (k) 1) (by decide) rfl (fun ls hl => ?_)
                refine lv_goto (pc := 140) (tgt := 110) hx hb dX7_digest_140 (by decide) ?_
                exact ih_lp_4 (k + 1) (by omega) (by omega) ls (by rw [show (dg3 r nn sn (k + 1) : Int64) = (31 * (dg3 r nn sn k)) + ((rankS r nn (nI k)).toInt64) from (rfl)]; exact lv_sub hl [2, 1, 0] rfl)
          exact lp_4 _ 0 (Nat.lt_succ_self _) (by omega) ls (by have q9 := lv_sub hl [1, 2, 0] rfl; rw [show k = nn by omega] at q9; unfold dg3 fH; rw [if_neg (show ¬ 0 < nn by omega)]; exact q9)
        · skip
          refine lv_iconst (pc := 64) (v := 0) hx hb dX7_digest_64 (by decide) ?_
          refine lv_istore_n (pc := 65) (lv' := [(3, .int 0), (0, .ref (b 30)), (1, .long (dg1 r sn k))]) hx hb dX7_digest_65 rfl hl (by decide) rfl (fun ls hl => ?_)
          have lp_10 : ∀ (fuel : Nat) (i : Nat), 12 - i < fuel → (i ≤ 12) → ∀ (ls : Array Slot), lv_has ls 5 [(0, .ref (b 30)), (1, .long (dg2 r nn sn i)), (3, .int (nI i))] → W p l e (rmO 5 108) s m args below meth c0 s.heap [] 0 0 Q (F0 m 66 ls []) := by
            intro fuel
            induction fuel with
            | zero => intro i hfuel; exact absurd hfuel (Nat.not_lt_zero _)
            | succ fuel ih_lp_10 =>
              intro i hfuel hi ls hl
              refine lv_iload_n (pc := 66) hx hb dX7_digest_66 rfl (lv_at hl 2 rfl) ?_
              refine lv_bipush (pc := 67) (v := 12) hx hb dX7_digest_67 (by decide) ?_
              refine lv_icmp_ge (pc := 69) (tgt := 108) hx hb dX7_digest_69 (by decide) (fun c_11 => ?_) (fun c_11 => ?_)
              · skip
                have c_11n : 12 ≤ i := (nI_leI (a := 12) (b := i) (by omega) (by omega)).mp c_11
                refine lv_iconst (pc := 108) (v := 0) hx hb dX7_digest_108 (by decide) ?_
                refine lv_istore_n (pc := 109) (lv' := [(3, .int 0), (0, .ref (b 30)), (1, .long (dg2 r nn sn i))]) hx hb dX7_digest_109 rfl hl (by decide) rfl (fun ls hl => ?_)
                have lp_12 : ∀ (fuel : Nat) (k : Nat), nn - k < fuel → (k ≤ nn) → ∀ (ls : Array Slot), lv_has ls 5 [(0, .ref (b 30)), (1, .long (dg3 r nn sn k)), (3, .int (nI k))] → W p l e (rmO 5 108) s m args below meth c0 s.heap [] 0 0 Q (F0 m 110 ls []) := by
                  intro fuel
                  induction fuel with
                  | zero => intro k hfuel; exact absurd hfuel (Nat.not_lt_zero _)
                  | succ fuel ih_lp_12 =>
                    intro k hfuel hk ls hl
                    refine lv_iload_n (pc := 110) hx hb dX7_digest_110 rfl (lv_at hl 2 rfl) ?_
                    refine lv_aload_n (pc := 111) hx hb dX7_digest_111 rfl (lv_at hl 0 rfl) ?_
                    refine fget (pc := 112) (v := .ref (x 14)) hx hb hts hown hE hP fl_X7_19 0 rfl rfl dX7_digest_112 ?_
                    refine fget (pc := 115) (v := .ref (x 7)) hx hb hts hown hE hP fl_X7_28 6 rfl rfl dX7_digest_115 ?_
                    refine fget (pc := 118) (v := .int (v 1)) hx hb hts hown hE hP fl_X7_92 14 rfl rfl dX7_digest_118 ?_
                    refine vEq (v := nI nn) hv1 ?_
                    refine lv_icmp_ge (pc := 121) (tgt := 143) hx hb dX7_digest_121 (by decide) (fun c_13 => ?_) (fun c_13 => ?_)
                    · skip
                      have c_13n : nn ≤ k := (nI_leI (a := nn) (b := k) (by omega) (by omega)).mp c_13
                      refine lv_iconst (pc := 143) (v := 0) hx hb dX7_digest_143 (by decide) ?_
                      refine lv_istore_n (pc := 144) (lv' := [(3, .int 0), (0, .ref (b 30)), (1, .long (dg3 r nn sn k))]) hx hb dX7_digest_144 rfl hl (by decide) rfl (fun ls hl => ?_)
                      have lp_14 : ∀ (fuel : Nat) (k : Nat), pn - k < fuel → (k ≤ pn) → ∀ (ls : Array Slot), lv_has ls 5 [(0, .ref (b 30)), (1, .long (dg4 r nn sn k)), (3, .int (nI k))] → W p l e (rmO 5 108) s m args below meth c0 s.heap [] 0 0 Q (F0 m 145 ls []) := by
                        intro fuel
                        induction fuel with
                        | zero => intro k hfuel; exact absurd hfuel (Nat.not_lt_zero _)
                        | succ fuel ih_lp_14 =>
                          intro k hfuel hk ls hl
                          refine lv_iload_n (pc := 145) hx hb dX7_digest_145 rfl (lv_at hl 2 rfl) ?_
                          refine lv_aload_n (pc := 146) hx hb dX7_digest_146 rfl (lv_at hl 0 rfl) ?_
                          refine fget (pc := 147) (v := .ref (b 31)) hx hb hts hown hE hP fl_X7_10 0 rfl rfl dX7_digest_147 ?_
                          refine fget (pc := 150) (v := .int (g 14)) hx hb hts hown hE hP fl_X7_48 1 rfl rfl dX7_digest_150 ?_
                          refine vEq (v := nI pn) hg14 ?_
                          refine lv_icmp_ge (pc := 153) (tgt := 179) hx hb dX7_digest_153 (by decide) (fun c_15 => ?_) (fun c_15 => ?_)
                          · skip
                            have c_15n : pn ≤ k := (nI_leI (a := pn) (b := k) (by omega) (by omega)).mp c_15
                            refine lv_iconst (pc := 179) (v := 0) hx hb dX7_digest_179 (by decide) ?_
                            refine lv_istore_n (pc := 180) (lv' := [(3, .int 0), (0, .ref (b 30)), (1, .long (dg4 r nn sn k))]) hx hb dX7_digest_180 rfl hl (by decide) rfl (fun ls hl => ?_)
                            have lp_16 : ∀ (fuel : Nat) (w9 : Nat), 10 - w9 < fuel → (w9 ≤ 10) → ∀ (ls : Array Slot), lv_has ls 5 [(0, .ref (b 30)), (1, .long (dg5 z r nn sn pn w9)), (3, .int (nI w9))] → W p l e (rmO 5 108) s m args below meth c0 s.heap [] 0 0 Q (F0 m 181 ls []) := by
                              intro fuel
                              induction fuel with
                              | zero => intro w9 hfuel; exact absurd hfuel (Nat.not_lt_zero _)
                              | succ fuel ih_lp_16 =>
                                intro w9 hfuel hw9 ls hl
                                refine lv_iload_n (pc := 181) hx hb dX7_digest_181 rfl (lv_at hl 2 rfl) ?_
                                refine lv_bipush (pc := 182) (v := 10) hx hb dX7_digest_182 (by decide) ?_
                                refine lv_icmp_ge (pc := 184) (tgt := 206) hx hb dX7_digest_184 (by decide) (fun c_17 => ?_) (fun c_17 => ?_)
                                · skip
                                  have c_17n : 10 ≤ w9 := (nI_leI (a := 10) (b := w9) (by omega) (by omega)).mp c_17
                                  refine lv_lload_n (pc := 206) hx hb dX7_digest_206 rfl (lv_at hl 1 rfl) ?_
                                  rw [hQ]; exact W.lret (pc := 207) hx hb hr (fun t9 ht _ => ⟨retL (by rw [show (10 : Nat) = w9 by omega]), ht⟩) (fun _ h => nomatch h) dX7_digest_207 hlocks
                                · skip
                                  have c_17n : ¬ 10 ≤ w9 := fun hh => c_17 ((nI_leI (a := 10) (b := w9) (by omega) (by omega)).mpr hh)
                                  refine lv_ldc2 (pc := 187) (v := 31) hx hb hown (hts _ co_X7_206) dX7_digest_187 ?_
                                  refine lv_lload_n (pc := 190) hx hb dX7_digest_190 rfl (lv_at hl 1 rfl) ?_
                                  refine lv_lmul (pc := 191) hx hb dX7_digest_191 ?_
                                  refine lv_aload_n (pc := 192) hx hb dX7_digest_192 rfl (lv_at hl 0 rfl) ?_
                                  refine lv_iload_n (pc := 193) hx hb dX7_digest_193 rfl (lv_at hl 2 rfl) ?_
                                  refine rV (pc := 194) (rest := [.long (31 * (dg5 z r nn sn pn w9))]) ⟨hx, hb, hml, hown, hts⟩ (k_X7_count (what := nI w9) (b := b) (g := g) (cd := cd) (so := so) (sq := sq) (q := q) (x := x) (c := c) (v := v) (y := y) (c2 := c2) (v2 := v2) (pa := pa) (d := d) (u := u) (nn := nn) (sn := sn) (pn := pn) (h9 := h9) (bt := bt) (N9 := N9) (z := z) (gg := gg) (r := r) (hI := ⟨hTi, hWg, hSeI, hPgI, hCt, hKp⟩)) cw_X7_214 ⟨(Nat.le_of_ble_eq_true rfl), (Nat.le_of_ble_eq_true rfl)⟩ hE hS hP rfl rfl rfl rfl hl.1 rfl (Nat.le_of_ble_eq_true rfl) dX7_digest_194 ⟨Nat.le_refl _, Nat.le_refl _⟩ ?_
                                  refine W.eq (g2 := F0 m 197 ls [.int (howS z r nn (nI w9)), .long (31 * (dg5 z r nn sn pn w9))]) rfl ?_
                                  refine lv_i2l (pc := 197) (v := (howS z r nn (nI w9)).toInt64) hx hb dX7_digest_197 rfl ?_
                                  refine lv_ladd (pc := 198) hx hb dX7_digest_198 ?_
                                  refine lv_lstore_n (pc := 199) (lv' := [(1, .long ((31 * (dg5 z r nn sn pn w9)) + ((howS z r nn (nI w9)).toInt64))), (0, .ref (b 30)), (3, .int (nI w9))]) hx hb dX7_digest_199 rfl hl (by decide) rfl (fun ls hl => ?_)
                                  refine lv_iinc (pc := 200) (v := nI (w9 + 1)) (lv' := [(3, .int (nI (w9 + 1))), (1, .long ((31 * (dg5 z r nn sn pn w9)) + ((howS z r nn (nI w9)).toInt64))), (0, .ref (b 30))]) hx hb dX7_digest_200 hl (k := 2) rfl (nI_add (w9) 1) (by decide) rfl (fun ls hl => ?_)
                                  refine lv_goto (pc := 203) (tgt := 181) hx hb dX7_digest_203 (by decide) ?_
                                  exact ih_lp_16 (w9 + 1) (by omega) (by omega) ls (by rw [show (dg5 z r nn sn pn (w9 + 1) : Int64) = (31 * (dg5 z r nn sn pn w9)) + ((howS z r nn (nI w9)).toInt64) from (rfl)]; exact lv_sub hl [2, 1, 0] rfl)
                            exact lp_16 _ 0 (Nat.lt_succ_self _) (by omega) ls (by have q9 := lv_sub hl [1, 2, 0] rfl; rw [show k = pn by omega] at q9; exact q9)
                          · skip
                            have c_15n : ¬ pn ≤ k := fun hh => c_15 ((nI_leI (a := pn) (b := k) (by omega) (by omega)).mpr hh)
                            refine lv_ldc2 (pc := 156) (v := 31) hx hb hown (hts _ co_X7_206) dX7_digest_156 ?_
                            refine lv_lload_n (pc := 159) hx hb dX7_digest_159 rfl (lv_at hl 1 rfl) ?_
                            refine lv_lmul (pc := 160) hx hb dX7_digest_160 ?_
                            refine lv_aload_n (pc := 161) hx hb dX7_digest_161 rfl (lv_at hl 0 rfl) ?_
                            refine fget (pc := 162) (v := .ref (b 31)) hx hb hts hown hE hP fl_X7_10 0 rfl rfl dX7_digest_162 ?_
                            refine fget (pc := 165) (v := .ref (b 32)) hx hb hts hown hE hP fl_X7_211 1 rfl rfl dX7_digest_165 ?_
                            refine lv_iload_n (pc := 168) hx hb dX7_digest_168 rfl (lv_at hl 2 rfl) ?_
                            refine aldN (pc := 169) (f := cd) hx hb hE hP 2 rfl (k) (by omega) (by omega) dX7_digest_169 ?_
                            refine lv_i2l (pc := 170) (v := (cd k).toInt64) hx hb dX7_digest_170 rfl ?_
                            refine lv_ladd (pc := 171) hx hb dX7_digest_171 ?_
                            refine lv_lstore_n (pc := 172) (lv' := [(1, .long ((31 * (dg4 r nn sn k)) + ((cd k).toInt64))), (0, .ref (b 30)), (3, .int (nI k))]) hx hb dX7_digest_172 rfl hl (by decide) rfl (fun ls hl => ?_)
                            refine lv_iinc (pc := 173) (v := nI (k + 1)) (lv' := [(3, .int (nI (k + 1))), (1, .long ((31 * (dg4 r nn sn k)) + ((cd k).toInt64))), (0, .ref (b 30))]) hx hb dX7_digest_173 hl (k := 2) rfl (nI_add (k) 1) (by decide) rfl (fun ls hl => ?_)
                            refine lv_goto (pc := 176) (tgt := 145) hx hb dX7_digest_176 (by decide) ?_
                            exact ih_lp_14 (k + 1) (by omega) (by omega) ls (by rw [show (dg4 r nn sn (k + 1) : Int64) = (31 * (dg4 r nn sn k)) + ((cd k).toInt64) from (by rw [show (cd k) = r 15 k from (hPg k (by omega)).1]; rfl)]; exact lv_sub hl [2, 1, 0] rfl)
                      exact lp_14 _ 0 (Nat.lt_succ_self _) (by omega) ls (by have q9 := lv_sub hl [1, 2, 0] rfl; rw [show k = nn by omega] at q9; exact q9)
                    · skip
                      have c_13n : ¬ nn ≤ k := fun hh => c_13 ((nI_leI (a := nn) (b := k) (by omega) (by omega)).mpr hh)
                      refine lv_ldc2 (pc := 124) (v := 31) hx hb hown (hts _ co_X7_206) dX7_digest_124 ?_
                      refine lv_lload_n (pc := 127) hx hb dX7_digest_127 rfl (lv_at hl 1 rfl) ?_
                      refine lv_lmul (pc := 128) hx hb dX7_digest_128 ?_
                      refine lv_aload_n (pc := 129) hx hb dX7_digest_129 rfl (lv_at hl 0 rfl) ?_
                      refine lv_iload_n (pc := 130) hx hb dX7_digest_130 rfl (lv_at hl 2 rfl) ?_
                      refine rV (pc := 131) (rest := [.long (31 * (dg3 r nn sn k))]) ⟨hx, hb, hml, hown, hts⟩ (k_X7_rank (place := nI k) (b := b) (g := g) (cd := cd) (so := so) (sq := sq) (q := q) (x := x) (c := c) (v := v) (y := y) (c2 := c2) (v2 := v2) (pa := pa) (d := d) (u := u) (nn := nn) (sn := sn) (pn := pn) (h9 := h9) (bt := bt) (N9 := N9) (z := z) (gg := gg) (r := r) (hI := ⟨hTi, hWg, hSeI, hPgI, hCt, hKp⟩)) cw_X7_208 ⟨(Nat.le_of_ble_eq_true rfl), (Nat.le_of_ble_eq_true rfl)⟩ hE hS hP rfl rfl rfl rfl hl.1 rfl (Nat.le_of_ble_eq_true rfl) dX7_digest_131 ⟨Nat.le_refl _, Nat.le_refl _⟩ ?_
                      refine W.eq (g2 := F0 m 134 ls [.int (rankS r nn (nI k)), .long (31 * (dg3 r nn sn k))]) rfl ?_
                      refine lv_i2l (pc := 134) (v := (rankS r nn (nI k)).toInt64) hx hb dX7_digest_134 rfl ?_
                      refine lv_ladd (pc := 135) hx hb dX7_digest_135 ?_
                      refine lv_lstore_n (pc := 136) (lv' := [(1, .long ((31 * (dg3 r nn sn k)) + ((rankS r nn (nI k)).toInt64))), (0, .ref (b 30)), (3, .int (nI k))]) hx hb dX7_digest_136 rfl hl (by decide) rfl (fun ls hl => ?_)
                      refine lv_iinc (pc := 137) (v := nI (k + 1)) (lv' := [(3, .int (nI (k + 1))), (1, .long ((31 * (dg3 r nn sn k)) + ((rankS r nn (nI k)).toInt64))), (0, .ref (b 30))]) hx hb dX7_digest_137 hl (k := 2) rfl (nI_add (k) 1) (by decide) rfl (fun ls hl => ?_)
                      refine lv_goto (pc := 140) (tgt := 110) hx hb dX7_digest_140 (by decide) ?_
                      exact ih_lp_12 (k + 1) (by omega) (by omega) ls (by rw [show (dg3 r nn sn (k + 1) : Int64) = (31 * (dg3 r nn sn k)) + ((rankS r nn (nI k)).toInt64) from (rfl)]; exact lv_sub hl [2, 1, 0] rfl)
                exact lp_12 _ 0 (Nat.lt_succ_self _) (by omega) ls (by have q9 := lv_sub hl [1, 2, 0] rfl; rw [show i = 12 by omega] at q9; unfold dg3 fH; rw [if_pos (show 0 < nn by omega)]; exact q9)
              · skip
                have c_11n : ¬ 12 ≤ i := fun hh => c_11 ((nI_leI (a := 12) (b := i) (by omega) (by omega)).mpr hh)
                refine lv_iconst (pc := 72) (v := 0) hx hb dX7_digest_72 (by decide) ?_
                refine lv_istore (pc := 73) (lv' := [(4, .int 0), (0, .ref (b 30)), (1, .long (dg2 r nn sn i)), (3, .int (nI i))]) hx hb dX7_digest_73 hl (by decide) rfl (fun ls hl => ?_)
                have lp_18 : ∀ (fuel : Nat) (w9 : Nat), 3 - w9 < fuel → (w9 ≤ 3) → ∀ (ls : Array Slot), lv_has ls 5 [(0, .ref (b 30)), (1, .long (fH (fun w => nightS r i (nI w)) (dg2 r nn sn i) w9)), (3, .int (nI i)), (4, .int (nI w9))] → W p l e (rmO 5 108) s m args below meth c0 s.heap [] 0 0 Q (F0 m 75 ls []) := by
                  intro fuel
                  induction fuel with
                  | zero => intro w9 hfuel; exact absurd hfuel (Nat.not_lt_zero _)
                  | succ fuel ih_lp_18 =>
                    intro w9 hfuel hw9 ls hl
                    refine lv_iload (pc := 75) hx hb dX7_digest_75 (lv_at hl 3 rfl) ?_
                    refine lv_iconst (pc := 77) (v := 3) hx hb dX7_digest_77 (by decide) ?_
                    refine lv_icmp_ge (pc := 78) (tgt := 102) hx hb dX7_digest_78 (by decide) (fun c_19 => ?_) (fun c_19 => ?_)
                    · skip
                      have c_19n : 3 ≤ w9 := (nI_leI (a := 3) (b := w9) (by omega) (by omega)).mp c_19
                      refine lv_iinc (pc := 102) (v := nI (i + 1)) (lv' := [(3, .int (nI (i + 1))), (0, .ref (b 30)), (1, .long (fH (fun w => nightS r i (nI w)) (dg2 r nn sn i) w9)), (4, .int (nI w9))]) hx hb dX7_digest_102 hl (k := 2) rfl (nI_add (i) 1) (by decide) rfl (fun ls hl => ?_)
                      refine lv_goto (pc := 105) (tgt := 66) hx hb dX7_digest_105 (by decide) ?_
                      exact ih_lp_10 (i + 1) (by omega) (by omega) ls (by rw [show (dg2 r nn sn (i + 1) : Int64) = fH (fun w => nightS r i (nI w)) (dg2 r nn sn i) w9 from (by rw [show w9 = 3 by omega]; rfl)]; exact lv_sub hl [1, 2, 0] rfl)
                    · skip
                      have c_19n : ¬ 3 ≤ w9 := fun hh => c_19 ((nI_leI (a := 3) (b := w9) (by omega) (by omega)).mpr hh)
                      refine lv_ldc2 (pc := 81) (v := 31) hx hb hown (hts _ co_X7_206) dX7_digest_81 ?_
                      refine lv_lload_n (pc := 84) hx hb dX7_digest_84 rfl (lv_at hl 1 rfl) ?_
                      refine lv_lmul (pc := 85) hx hb dX7_digest_85 ?_
                      refine lv_aload_n (pc := 86) hx hb dX7_digest_86 rfl (lv_at hl 0 rfl) ?_
                      refine lv_iload_n (pc := 87) hx hb dX7_digest_87 rfl (lv_at hl 2 rfl) ?_
                      refine lv_iload (pc := 88) hx hb dX7_digest_88 (lv_at hl 3 rfl) ?_
                      refine rV (pc := 90) (rest := [.long (31 * (fH (fun w => nightS r i (nI w)) (dg2 r nn sn i) w9))]) ⟨hx, hb, hml, hown, hts⟩ (k_X7_ofNight (i := i) (what := nI w9) (b := b) (g := g) (cd := cd) (so := so) (sq := sq) (q := q) (x := x) (c := c) (v := v) (y := y) (c2 := c2) (v2 := v2) (pa := pa) (d := d) (u := u) (nn := nn) (sn := sn) (pn := pn) (h9 := h9) (bt := bt) (N9 := N9) (z := z) (gg := gg) (r := r) (hI := ⟨hTi, hWg, hSeI, hPgI, hCt, hKp⟩) (hi := (by omega))) cw_X7_126 ⟨(Nat.le_of_ble_eq_true rfl), (Nat.le_of_ble_eq_true rfl)⟩ hE hS hP rfl rfl rfl rfl hl.1 rfl (Nat.le_of_ble_eq_true rfl) dX7_digest_90 ⟨Nat.le_refl _, Nat.le_refl _⟩ ?_
                      refine W.eq (g2 := F0 m 93 ls [.int (nightS r i (nI w9)), .long (31 * (fH (fun w => nightS r i (nI w)) (dg2 r nn sn i) w9))]) rfl ?_
                      refine lv_i2l (pc := 93) (v := (nightS r i (nI w9)).toInt64) hx hb dX7_digest_93 rfl ?_
                      refine lv_ladd (pc := 94) hx hb dX7_digest_94 ?_
                      refine lv_lstore_n (pc := 95) (lv' := [(1, .long ((31 * (fH (fun w => nightS r i (nI w)) (dg2 r nn sn i) w9)) + ((nightS r i (nI w9)).toInt64))), (0, .ref (b 30)), (3, .int (nI i)), (4, .int (nI w9))]) hx hb dX7_digest_95 rfl hl (by decide) rfl (fun ls hl => ?_)
                      refine lv_iinc (pc := 96) (v := nI (w9 + 1)) (lv' := [(4, .int (nI (w9 + 1))), (1, .long ((31 * (fH (fun w => nightS r i (nI w)) (dg2 r nn sn i) w9)) + ((nightS r i (nI w9)).toInt64))), (0, .ref (b 30)), (3, .int (nI i))]) hx hb dX7_digest_96 hl (k := 3) rfl (nI_add (w9) 1) (by decide) rfl (fun ls hl => ?_)
                      refine lv_goto (pc := 99) (tgt := 75) hx hb dX7_digest_99 (by decide) ?_
                      exact ih_lp_18 (w9 + 1) (by omega) (by omega) ls (by rw [show (fH (fun w => nightS r i (nI w)) (dg2 r nn sn i) (w9 + 1) : Int64) = (31 * (fH (fun w => nightS r i (nI w)) (dg2 r nn sn i) w9)) + ((nightS r i (nI w9)).toInt64) from (rfl)]; exact lv_sub hl [2, 1, 3, 0] rfl)
                exact lp_18 _ 0 (Nat.lt_succ_self _) (by omega) ls (lv_sub hl [1, 2, 3, 0] rfl)
          exact lp_10 _ 0 (Nat.lt_succ_self _) (by omega) ls (by have q9 := lv_sub hl [1, 2, 0] rfl; rw [show k = nn by omega] at q9; exact q9)
      · skip
        have c_2n : ¬ nn ≤ k := fun hh => c_2 ((nI_leI (a := nn) (b := k) (by omega) (by omega)).mpr hh)
        refine lv_iconst (pc := 20) (v := 0) hx hb dX7_digest_20 (by decide) ?_
        refine lv_istore (pc := 21) (lv' := [(4, .int 0), (0, .ref (b 30)), (1, .long (dg1 r sn k)), (3, .int (nI k))]) hx hb dX7_digest_21 hl (by decide) rfl (fun ls hl => ?_)
        have lp_20 : ∀ (fuel : Nat) (w9 : Nat), 9 - w9 < fuel → (w9 ≤ 9) → ∀ (ls : Array Slot), lv_has ls 5 [(0, .ref (b 30)), (1, .long (fH (fun w => titleS r sn k (nI w)) (dg1 r sn k) w9)), (3, .int (nI k)), (4, .int (nI w9))] → W p l e (rmO 5 108) s m args below meth c0 s.heap [] 0 0 Q (F0 m 23 ls []) := by
          intro fuel
          induction fuel with
          | zero => intro w9 hfuel; exact absurd hfuel (Nat.not_lt_zero _)
          | succ fuel ih_lp_20 =>
            intro w9 hfuel hw9 ls hl
            refine lv_iload (pc := 23) hx hb dX7_digest_23 (lv_at hl 3 rfl) ?_
            refine lv_bipush (pc := 25) (v := 9) hx hb dX7_digest_25 (by decide) ?_
            refine lv_icmp_ge (pc := 27) (tgt := 51) hx hb dX7_digest_27 (by decide) (fun c_21 => ?_) (fun c_21 => ?_)
            · skip
              have c_21n : 9 ≤ w9 := (nI_leI (a := 9) (b := w9) (by omega) (by omega)).mp c_21
              refine lv_iinc (pc := 51) (v := nI (k + 1)) (lv' := [(3, .int (nI (k + 1))), (0, .ref (b 30)), (1, .long (fH (fun w => titleS r sn k (nI w)) (dg1 r sn k) w9)), (4, .int (nI w9))]) hx hb dX7_digest_51 hl (k := 2) rfl (nI_add (k) 1) (by decide) rfl (fun ls hl => ?_)
              refine lv_goto (pc := 54) (tgt := 6) hx hb dX7_digest_54 (by decide) ?_
              exact ih_lp_1 (k + 1) (by omega) (by omega) ls (by rw [show (dg1 r sn (k + 1) : Int64) = fH (fun w => titleS r sn k (nI w)) (dg1 r sn k) w9 from (by rw [show w9 = 9 by omega]; rfl)]; exact lv_sub hl [1, 2, 0] rfl)
            · skip
              have c_21n : ¬ 9 ≤ w9 := fun hh => c_21 ((nI_leI (a := 9) (b := w9) (by omega) (by omega)).mpr hh)
              refine lv_ldc2 (pc := 30) (v := 31) hx hb hown (hts _ co_X7_206) dX7_digest_30 ?_
              refine lv_lload_n (pc := 33) hx hb dX7_digest_33 rfl (lv_at hl 1 rfl) ?_
              refine lv_lmul (pc := 34) hx hb dX7_digest_34 ?_
              refine lv_aload_n (pc := 35) hx hb dX7_digest_35 rfl (lv_at hl 0 rfl) ?_
              refine lv_iload_n (pc := 36) hx hb dX7_digest_36 rfl (lv_at hl 2 rfl) ?_
              refine lv_iload (pc := 37) hx hb dX7_digest_37 (lv_at hl 3 rfl) ?_
              refine rV (pc := 39) (rest := [.long (31 * (fH (fun w => titleS r sn k (nI w)) (dg1 r sn k) w9))]) ⟨hx, hb, hml, hown, hts⟩ (k_X7_ofTitle (k := k) (what := nI w9) (b := b) (g := g) (cd := cd) (so := so) (sq := sq) (q := q) (x := x) (c := c) (v := v) (y := y) (c2 := c2) (v2 := v2) (pa := pa) (d := d) (u := u) (nn := nn) (sn := sn) (pn := pn) (h9 := h9) (bt := bt) (N9 := N9) (z := z) (gg := gg) (r := r) (hI := ⟨hTi, hWg, hSeI, hPgI, hCt, hKp⟩) (hk := (by omega))) cw_X7_107 ⟨(Nat.le_of_ble_eq_true rfl), (Nat.le_of_ble_eq_true rfl)⟩ hE hS hP rfl rfl rfl rfl hl.1 rfl (Nat.le_of_ble_eq_true rfl) dX7_digest_39 ⟨Nat.le_refl _, Nat.le_refl _⟩ ?_
              refine W.eq (g2 := F0 m 42 ls [.int (titleS r sn k (nI w9)), .long (31 * (fH (fun w => titleS r sn k (nI w)) (dg1 r sn k) w9))]) rfl ?_
              refine lv_i2l (pc := 42) (v := (titleS r sn k (nI w9)).toInt64) hx hb dX7_digest_42 rfl ?_
              refine lv_ladd (pc := 43) hx hb dX7_digest_43 ?_
              refine lv_lstore_n (pc := 44) (lv' := [(1, .long ((31 * (fH (fun w => titleS r sn k (nI w)) (dg1 r sn k) w9)) + ((titleS r sn k (nI w9)).toInt64))), (0, .ref (b 30)), (3, .int (nI k)), (4, .int (nI w9))]) hx hb dX7_digest_44 rfl hl (by decide) rfl (fun ls hl => ?_)
              refine lv_iinc (pc := 45) (v := nI (w9 + 1)) (lv' := [(4, .int (nI (w9 + 1))), (1, .long ((31 * (fH (fun w => titleS r sn k (nI w)) (dg1 r sn k) w9)) + ((titleS r sn k (nI w9)).toInt64))), (0, .ref (b 30)), (3, .int (nI k))]) hx hb dX7_digest_45 hl (k := 3) rfl (nI_add (w9) 1) (by decide) rfl (fun ls hl => ?_)
              refine lv_goto (pc := 48) (tgt := 23) hx hb dX7_digest_48 (by decide) ?_
              exact ih_lp_20 (w9 + 1) (by omega) (by omega) ls (by rw [show (fH (fun w => titleS r sn k (nI w)) (dg1 r sn k) (w9 + 1) : Int64) = (31 * (fH (fun w => titleS r sn k (nI w)) (dg1 r sn k) w9)) + ((titleS r sn k (nI w9)).toInt64) from (rfl)]; exact lv_sub hl [2, 1, 3, 0] rfl)
        exact lp_20 _ 0 (Nat.lt_succ_self _) (by omega) ls (lv_sub hl [1, 2, 3, 0] rfl)
  exact lp_1 _ 0 (Nat.lt_succ_self _) (by omega) ls (lv_sub hl [2, 1, 0] rfl)
end
