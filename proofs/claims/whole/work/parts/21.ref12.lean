section
variable {l : Launch} {D : va_G} {kB kI kT : ClassId} {ks sk sv : Nat}
set_option maxRecDepth 100000 in
set_option maxHeartbeats 4000000 in
theorem k_X8_bestNow {o : Nat} {a : Nat → Nat} {z : Nat → Int32} {g : Nat → Int64} {r : Nat → Nat → Int32} (f : Nat) (t : Nat) (what : Int32) {n : Nat} (hok : okP n (r 8)) (hn5 : n ≤ 5) (hz1 : z 1 = nI n) (hft : f ≤ t) (ht : t < 12) (hd4 : dkOf r f t ≤ 4) : MW l yX8_bestNow cX8_bestNow 4 (some .int) 9 197 D kB kI kT ks sk sv [.ref o, .int (nI f), .int (nI t), .int what] (wR kB kI o a z g r) (some (.int ((R_bestNow z g r n f t what).1))) (wR kB kI o a (R_bestNow z g r n f t what).2.1 (R_bestNow z g r n f t what).2.2.1 (R_bestNow z g r n f t what).2.2.2) := by
  refine MW.go (by decide +kernel) (Nat.le_of_ble_eq_true rfl) ?_
  intro p e s m below meth c0 args Q ls A hQ hx hb hr hml hown hts hlocks hE hP hD hS hl
  have hl : lv_has ls 4 [(0, .ref o), (1, .int (nI f)), (2, .int (nI t)), (3, .int what)] := hl
  have hown : s.vm.findClass RX8 = some m.cls := hown
  refine lv_aload_n (pc := 0) hx hb dX8_bestNow_0 rfl (lv_at hl 0 rfl) ?_
  refine lv_dup (pc := 1) hx hb dX8_bestNow_1 rfl ?_
  refine fget (pc := 2) (v := .int (z 9)) hx hb hts hown hE hP fl_X8_207 0 rfl rfl dX8_bestNow_2 ?_
  refine lv_iconst (pc := 5) (v := 1) hx hb dX8_bestNow_5 (by decide) ?_
  refine lv_iadd (pc := 6) hx hb dX8_bestNow_6 ?_
  refine fput (pc := 7) (v := .int ((z 9) + 1)) hx hb hts hown hE hP hD hS fp_X8_207 0 rfl rfl rfl (Nat.le_of_ble_eq_true rfl) dX8_bestNow_7 (fun H locs hP hD hS => ?_)
  have hP : va_P D vwCl (wR kB kI o a (va_up z 9 ((z 9) + 1)) g r) H := hP
  have hD : va_D A (wR kB kI o a (va_up z 9 ((z 9) + 1)) g r) := hD
  refine lv_aload_n (pc := 10) hx hb dX8_bestNow_10 rfl (lv_at hl 0 rfl) ?_
  refine lv_iload_n (pc := 11) hx hb dX8_bestNow_11 rfl (lv_at hl 1 rfl) ?_
  refine lv_iload_n (pc := 12) hx hb dX8_bestNow_12 rfl (lv_at hl 2 rfl) ?_
  refine wVa (pc := 13) (rest := []) ⟨hx, hb, hml, hown, hts⟩ (k_X8_layDarks (f := f) (t := t) (z := (va_up z 9 ((z 9) + 1))) (g := g) (r := r) (hft := hft) (ht := ht) (hd4 := hd4)) cw_X8_210 ⟨(Nat.le_of_ble_eq_true rfl), (Nat.le_of_ble_eq_true rfl)⟩ hE hP hD hS rfl rfl rfl rfl rfl hl.1 rfl (Nat.le_of_ble_eq_true rfl) dX8_bestNow_13 ⟨Nat.le_refl _, Nat.le_refl _⟩ (fun H locs hP hD hS => ?_)
  have hP : va_P D vwCl (wR kB kI o a (va_up (va_up z 9 ((z 9) + 1)) 20 (nI (dkN ((r 8)) f (t + 1 - f)))) g (va_up r 21 (dkA ((r 8)) f ((r 21)) (t + 1 - f)))) H := hP
  have hD : va_D A (wR kB kI o a (va_up (va_up z 9 ((z 9) + 1)) 20 (nI (dkN ((r 8)) f (t + 1 - f)))) g (va_up r 21 (dkA ((r 8)) f ((r 21)) (t + 1 - f)))) := hD
  refine W.eq (g2 := F0 m 16 ls []) rfl ?_
  have hok2 : okD (dkOf r f t) (layR r f t 21) := dkA_ok (by omega)
  refine lv_aload_n (pc := 16) hx hb dX8_bestNow_16 rfl (lv_at hl 0 rfl) ?_
  refine wVa (pc := 17) (rest := []) ⟨hx, hb, hml, hown, hts⟩ (k_X8_findBest (z := (va_up (va_up z 9 ((z 9) + 1)) 20 (nI (dkN ((r 8)) f (t + 1 - f))))) (g := g) (r := (va_up r 21 (dkA ((r 8)) f ((r 21)) (t + 1 - f)))) (hok := hok) (hn5 := hn5) (hz1 := hz1) (hz20 := rfl) (hdk := hd4) (hD4 := hok2) (n := n) (dk := dkOf r f t)) cw_X8_214 ⟨(Nat.le_of_ble_eq_true rfl), (Nat.le_of_ble_eq_true rfl)⟩ hE hP hD hS rfl rfl rfl rfl rfl hl.1 rfl (Nat.le_of_ble_eq_true rfl) dX8_bestNow_17 ⟨Nat.le_refl _, Nat.le_refl _⟩ (fun H locs hP hD hS => ?_)
  have hP : va_P D vwCl (wR kB kI o a (va_up (va_up (va_up (va_up (va_up z 9 ((z 9) + 1)) 20 (nI (dkN ((r 8)) f (t + 1 - f)))) 22 ((bstS (va_up (va_up z 9 ((z 9) + 1)) 20 (nI (dkN ((r 8)) f (t + 1 - f)))) (va_up r 21 (dkA ((r 8)) f ((r 21)) (t + 1 - f))) n (dkOf r f t) ((n + 1) ^ (dkOf r f t))).1)) 23 ((bstS (va_up (va_up z 9 ((z 9) + 1)) 20 (nI (dkN ((r 8)) f (t + 1 - f)))) (va_up r 21 (dkA ((r 8)) f ((r 21)) (t + 1 - f))) n (dkOf r f t) ((n + 1) ^ (dkOf r f t))).2.1)) 24 ((bstS (va_up (va_up z 9 ((z 9) + 1)) 20 (nI (dkN ((r 8)) f (t + 1 - f)))) (va_up r 21 (dkA ((r 8)) f ((r 21)) (t + 1 - f))) n (dkOf r f t) ((n + 1) ^ (dkOf r f t))).2.2)) g (va_up (va_up r 8 (plw ((dkA ((r 8)) f ((r 21)) (t + 1 - f))) n (dkOf r f t) ((r 8)) ((n + 1) ^ (dkOf r f t)))) 21 (dkA ((r 8)) f ((r 21)) (t + 1 - f)))) H := hP
  have hD : va_D A (wR kB kI o a (va_up (va_up (va_up (va_up (va_up z 9 ((z 9) + 1)) 20 (nI (dkN ((r 8)) f (t + 1 - f)))) 22 ((bstS (va_up (va_up z 9 ((z 9) + 1)) 20 (nI (dkN ((r 8)) f (t + 1 - f)))) (va_up r 21 (dkA ((r 8)) f ((r 21)) (t + 1 - f))) n (dkOf r f t) ((n + 1) ^ (dkOf r f t))).1)) 23 ((bstS (va_up (va_up z 9 ((z 9) + 1)) 20 (nI (dkN ((r 8)) f (t + 1 - f)))) (va_up r 21 (dkA ((r 8)) f ((r 21)) (t + 1 - f))) n (dkOf r f t) ((n + 1) ^ (dkOf r f t))).2.1)) 24 ((bstS (va_up (va_up z 9 ((z 9) + 1)) 20 (nI (dkN ((r 8)) f (t + 1 - f)))) (va_up r 21 (dkA ((r 8)) f ((r 21)) (t + 1 - f))) n (dkOf r f t) ((n + 1) ^ (dkOf r f t))).2.2)) g (va_up (va_up r 8 (plw ((dkA ((r 8)) f ((r 21)) (t + 1 - f))) n (dkOf r f t) ((r 8)) ((n + 1) ^ (dkOf r f t)))) 21 (dkA ((r 8)) f ((r 21)) (t + 1 - f)))) := hD
  refine W.eq (g2 := F0 m 20 ls []) rfl ?_
  have hbk := bstK_eq (z := z) (r := layR r f t) (n := n) (dk := dkOf r f t) (w := (n + 1) ^ dkOf r f t) (ways_pos _ _) (by have := ways_le (n := n) (dk := dkOf r f t) hn5 hd4; omega)
  have hwl := ways_le (n := n) (dk := dkOf r f t) hn5 hd4
  have hP : va_P D vwCl (wR kB kI o a (va_up (va_up (va_up (va_up (va_up z 9 (z 9 + 1)) 20 (nI (dkOf r f t))) 22 ((bstOf z r n f t).1)) 23 ((bstOf z r n f t).2.1)) 24 ((bstOf z r n f t).2.2)) g (va_up (va_up r 8 (plw (layR r f t 21) n (dkOf r f t) (r 8) ((n + 1) ^ dkOf r f t))) 21 (layR r f t 21))) H := hP
  have hD : va_D A (wR kB kI o a (va_up (va_up (va_up (va_up (va_up z 9 (z 9 + 1)) 20 (nI (dkOf r f t))) 22 ((bstOf z r n f t).1)) 23 ((bstOf z r n f t).2.1)) 24 ((bstOf z r n f t).2.2)) g (va_up (va_up r 8 (plw (layR r f t 21) n (dkOf r f t) (r 8) ((n + 1) ^ dkOf r f t))) 21 (layR r f t 21))) := hD
  refine lv_aload_n (pc := 20) hx hb dX8_bestNow_20 rfl (lv_at hl 0 rfl) ?_
  refine lv_iload_n (pc := 21) hx hb dX8_bestNow_21 rfl (lv_at hl 3 rfl) ?_
  refine lv_iconst (pc := 22) (v := 2) hx hb dX8_bestNow_22 (by decide) ?_
  refine lv_icmp_ne (pc := 23) (tgt := 33) hx hb dX8_bestNow_23 (by decide) (fun c_1 => ?_) (fun c_1 => ?_)
  · skip
    refine lv_iconst (pc := 33) (v := 0) hx hb dX8_bestNow_33 (by decide) ?_
    refine wVa (pc := 34) (rest := []) ⟨hx, hb, hml, hown, hts⟩ (k_X8_fillBy (w := 0) (z := (va_up (va_up (va_up (va_up (va_up z 9 (z 9 + 1)) 20 (nI (dkOf r f t))) 22 ((bstOf z r n f t).1)) 23 ((bstOf z r n f t).2.1)) 24 ((bstOf z r n f t).2.2))) (g := g) (r := (va_up (va_up r 8 (plw (layR r f t 21) n (dkOf r f t) (r 8) ((n + 1) ^ dkOf r f t))) 21 (layR r f t 21))) (hz1 := hz1) (hn5 := hn5) (hz20 := rfl) (hdk := hd4) (hD4 := hok2) (hw := (by omega)) (n := n) (dk := dkOf r f t)) cw_X8_191 ⟨(Nat.le_of_ble_eq_true rfl), (Nat.le_of_ble_eq_true rfl)⟩ hE hP hD hS rfl rfl rfl rfl rfl hl.1 rfl (Nat.le_of_ble_eq_true rfl) dX8_bestNow_34 ⟨Nat.le_refl _, Nat.le_refl _⟩ (fun H locs hP hD hS => ?_)
    have hP : va_P D vwCl (wR kB kI o a (va_up (va_up (va_up (va_up (va_up z 9 (z 9 + 1)) 20 (nI (dkOf r f t))) 22 ((bstOf z r n f t).1)) 23 ((bstOf z r n f t).2.1)) 24 ((bstOf z r n f t).2.2)) g (va_up (va_up r 8 (fbR ((layR r f t 21)) n (dkOf r f t) ((plw (layR r f t 21) n (dkOf r f t) (r 8) ((n + 1) ^ dkOf r f t))) 0)) 21 (layR r f t 21))) H := hP
    have hD : va_D A (wR kB kI o a (va_up (va_up (va_up (va_up (va_up z 9 (z 9 + 1)) 20 (nI (dkOf r f t))) 22 ((bstOf z r n f t).1)) 23 ((bstOf z r n f t).2.1)) 24 ((bstOf z r n f t).2.2)) g (va_up (va_up r 8 (fbR ((layR r f t 21)) n (dkOf r f t) ((plw (layR r f t 21) n (dkOf r f t) (r 8) ((n + 1) ^ dkOf r f t))) 0)) 21 (layR r f t 21))) := hD
    refine W.eq (g2 := F0 m 37 ls []) rfl ?_
    refine lv_iload_n (pc := 37) hx hb dX8_bestNow_37 rfl (lv_at hl 3 rfl) ?_
    refine lv_if_ne (pc := 38) (tgt := 48) hx hb dX8_bestNow_38 (by decide) (fun c_2 => ?_) (fun c_2 => ?_)
    · skip
      refine lv_iload_n (pc := 48) hx hb dX8_bestNow_48 rfl (lv_at hl 3 rfl) ?_
      refine lv_iconst (pc := 49) (v := 1) hx hb dX8_bestNow_49 (by decide) ?_
      refine lv_icmp_ne (pc := 50) (tgt := 60) hx hb dX8_bestNow_50 (by decide) (fun c_3 => ?_) (fun c_3 => ?_)
      · skip
        refine lv_aload_n (pc := 60) hx hb dX8_bestNow_60 rfl (lv_at hl 0 rfl) ?_
        refine rV (pc := 61) (rest := []) ⟨hx, hb, hml, hown, hts⟩ (k_X8_nightsOn (z := (va_up (va_up (va_up (va_up (va_up z 9 (z 9 + 1)) 20 (nI (dkOf r f t))) 22 ((bstOf z r n f t).1)) 23 ((bstOf z r n f t).2.1)) 24 ((bstOf z r n f t).2.2))) (g := g) (r := (va_up (va_up r 8 (fbR ((layR r f t 21)) n (dkOf r f t) ((plw (layR r f t 21) n (dkOf r f t) (r 8) ((n + 1) ^ dkOf r f t))) 0)) 21 (layR r f t 21)))) cw_X8_137 ⟨(Nat.le_of_ble_eq_true rfl), (Nat.le_of_ble_eq_true rfl)⟩ hE hS hP rfl rfl rfl rfl hl.1 rfl (Nat.le_of_ble_eq_true rfl) dX8_bestNow_61 ⟨Nat.le_refl _, Nat.le_refl _⟩ ?_
        refine W.eq (g2 := F0 m 64 ls [.int (nI (nOn ((fbR ((layR r f t 21)) n (dkOf r f t) ((plw (layR r f t 21) n (dkOf r f t) (r 8) ((n + 1) ^ dkOf r f t))) 0)) 12))]) rfl ?_
        have hfn : R_bestNow z g r n f t what = (nI (nOn ((fbR ((layR r f t 21)) n (dkOf r f t) ((plw (layR r f t 21) n (dkOf r f t) (r 8) ((n + 1) ^ dkOf r f t))) 0)) 12), (va_up (va_up (va_up (va_up (va_up z 9 (z 9 + 1)) 20 (nI (dkOf r f t))) 22 ((bstOf z r n f t).1)) 23 ((bstOf z r n f t).2.1)) 24 ((bstOf z r n f t).2.2)), g, (va_up (va_up r 8 (fbR ((layR r f t 21)) n (dkOf r f t) ((plw (layR r f t 21) n (dkOf r f t) (r 8) ((n + 1) ^ dkOf r f t))) 0)) 21 (layR r f t 21))) := by rw [R_bestNow, if_neg c_2, if_neg c_3, bstPl, if_neg c_1, fbR_plw]; try rfl
        rw [hQ]; exact W.iret (pc := 64) hx hb hr (fun t9 ht _ => ⟨⟨retI (by rw [hfn]), by rw [ht, hfn]; exact (show va_P D vwCl (wR kB kI o a (va_up (va_up (va_up (va_up (va_up z 9 (z 9 + 1)) 20 (nI (dkOf r f t))) 22 ((bstOf z r n f t).1)) 23 ((bstOf z r n f t).2.1)) 24 ((bstOf z r n f t).2.2)) g (va_up (va_up r 8 (fbR ((layR r f t 21)) n (dkOf r f t) ((plw (layR r f t 21) n (dkOf r f t) (r 8) ((n + 1) ^ dkOf r f t))) 0)) 21 (layR r f t 21))) _ from hP)⟩, hS.F ht⟩) hS.2.2 dX8_bestNow_64 hlocks
      · skip
        refine lv_aload_n (pc := 53) hx hb dX8_bestNow_53 rfl (lv_at hl 0 rfl) ?_
        refine fget (pc := 54) (v := .int ((bstOf z r n f t).2.2)) hx hb hts hown hE hP fl_X8_201 0 rfl rfl dX8_bestNow_54 ?_
        refine lv_goto (pc := 57) (tgt := 64) hx hb dX8_bestNow_57 (by decide) ?_
        have hfn : R_bestNow z g r n f t what = ((bstOf z r n f t).2.2, (va_up (va_up (va_up (va_up (va_up z 9 (z 9 + 1)) 20 (nI (dkOf r f t))) 22 ((bstOf z r n f t).1)) 23 ((bstOf z r n f t).2.1)) 24 ((bstOf z r n f t).2.2)), g, (va_up (va_up r 8 (fbR ((layR r f t 21)) n (dkOf r f t) ((plw (layR r f t 21) n (dkOf r f t) (r 8) ((n + 1) ^ dkOf r f t))) 0)) 21 (layR r f t 21))) := by rw [R_bestNow, if_neg c_2, if_pos c_3, bstPl, if_neg c_1, fbR_plw]; try rfl
        rw [hQ]; exact W.iret (pc := 64) hx hb hr (fun t9 ht _ => ⟨⟨retI (by rw [hfn]), by rw [ht, hfn]; exact (show va_P D vwCl (wR kB kI o a (va_up (va_up (va_up (va_up (va_up z 9 (z 9 + 1)) 20 (nI (dkOf r f t))) 22 ((bstOf z r n f t).1)) 23 ((bstOf z r n f t).2.1)) 24 ((bstOf z r n f t).2.2)) g (va_up (va_up r 8 (fbR ((layR r f t 21)) n (dkOf r f t) ((plw (layR r f t 21) n (dkOf r f t) (r 8) ((n + 1) ^ dkOf r f t))) 0)) 21 (layR r f t 21))) _ from hP)⟩, hS.F ht⟩) hS.2.2 dX8_bestNow_64 hlocks
    · skip
      refine lv_aload_n (pc := 41) hx hb dX8_bestNow_41 rfl (lv_at hl 0 rfl) ?_
      refine fget (pc := 42) (v := .int ((bstOf z r n f t).2.1)) hx hb hts hown hE hP fl_X8_188 0 rfl rfl dX8_bestNow_42 ?_
      refine lv_goto (pc := 45) (tgt := 64) hx hb dX8_bestNow_45 (by decide) ?_
      have hfn : R_bestNow z g r n f t what = ((bstOf z r n f t).2.1, (va_up (va_up (va_up (va_up (va_up z 9 (z 9 + 1)) 20 (nI (dkOf r f t))) 22 ((bstOf z r n f t).1)) 23 ((bstOf z r n f t).2.1)) 24 ((bstOf z r n f t).2.2)), g, (va_up (va_up r 8 (fbR ((layR r f t 21)) n (dkOf r f t) ((plw (layR r f t 21) n (dkOf r f t) (r 8) ((n + 1) ^ dkOf r f t))) 0)) 21 (layR r f t 21))) := by rw [R_bestNow, if_pos c_2, bstPl, if_neg c_1, fbR_plw]; try rfl
      rw [hQ]; exact W.iret (pc := 64) hx hb hr (fun t9 ht _ => ⟨⟨retI (by rw [hfn]), by rw [ht, hfn]; exact (show va_P D vwCl (wR kB kI o a (va_up (va_up (va_up (va_up (va_up z 9 (z 9 + 1)) 20 (nI (dkOf r f t))) 22 ((bstOf z r n f t).1)) 23 ((bstOf z r n f t).2.1)) 24 ((bstOf z r n f t).2.2)) g (va_up (va_up r 8 (fbR ((layR r f t 21)) n (dkOf r f t) ((plw (layR r f t 21) n (dkOf r f t) (r 8) ((n + 1) ^ dkOf r f t))) 0)) 21 (layR r f t 21))) _ from hP)⟩, hS.F ht⟩) hS.2.2 dX8_bestNow_64 hlocks
  · skip
    refine lv_aload_n (pc := 26) hx hb dX8_bestNow_26 rfl (lv_at hl 0 rfl) ?_
    refine fget (pc := 27) (v := .int ((bstOf z r n f t).1)) hx hb hts hown hE hP fl_X8_204 0 rfl rfl dX8_bestNow_27 ?_
    refine vEq (v := nI (bstK z (layR r f t) n (dkOf r f t) ((n + 1) ^ dkOf r f t))) hbk.1 ?_
    refine lv_goto (pc := 30) (tgt := 34) hx hb dX8_bestNow_30 (by decide) ?_
    refine wVa (pc := 34) (rest := []) ⟨hx, hb, hml, hown, hts⟩ (k_X8_fillBy (w := bstK z (layR r f t) n (dkOf r f t) ((n + 1) ^ dkOf r f t)) (z := (va_up (va_up (va_up (va_up (va_up z 9 (z 9 + 1)) 20 (nI (dkOf r f t))) 22 ((bstOf z r n f t).1)) 23 ((bstOf z r n f t).2.1)) 24 ((bstOf z r n f t).2.2))) (g := g) (r := (va_up (va_up r 8 (plw (layR r f t 21) n (dkOf r f t) (r 8) ((n + 1) ^ dkOf r f t))) 21 (layR r f t 21))) (hz1 := hz1) (hn5 := hn5) (hz20 := rfl) (hdk := hd4) (hD4 := hok2) (hw := (by omega)) (n := n) (dk := dkOf r f t)) cw_X8_191 ⟨(Nat.le_of_ble_eq_true rfl), (Nat.le_of_ble_eq_true rfl)⟩ hE hP hD hS rfl rfl rfl rfl rfl hl.1 rfl (Nat.le_of_ble_eq_true rfl) dX8_bestNow_34 ⟨Nat.le_refl _, Nat.le_refl _⟩ (fun H locs hP hD hS => ?_)
    have hP : va_P D vwCl (wR kB kI o a (va_up (va_up (va_up (va_up (va_up z 9 (z 9 + 1)) 20 (nI (dkOf r f t))) 22 ((bstOf z r n f t).1)) 23 ((bstOf z r n f t).2.1)) 24 ((bstOf z r n f t).2.2)) g (va_up (va_up r 8 (fbR ((layR r f t 21)) n (dkOf r f t) ((plw (layR r f t 21) n (dkOf r f t) (r 8) ((n + 1) ^ dkOf r f t))) (bstK z (layR r f t) n (dkOf r f t) ((n + 1) ^ dkOf r f t)))) 21 (layR r f t 21))) H := hP
    have hD : va_D A (wR kB kI o a (va_up (va_up (va_up (va_up (va_up z 9 (z 9 + 1)) 20 (nI (dkOf r f t))) 22 ((bstOf z r n f t).1)) 23 ((bstOf z r n f t).2.1)) 24 ((bstOf z r n f t).2.2)) g (va_up (va_up r 8 (fbR ((layR r f t 21)) n (dkOf r f t) ((plw (layR r f t 21) n (dkOf r f t) (r 8) ((n + 1) ^ dkOf r f t))) (bstK z (layR r f t) n (dkOf r f t) ((n + 1) ^ dkOf r f t)))) 21 (layR r f t 21))) := hD
    refine W.eq (g2 := F0 m 37 ls []) rfl ?_
    refine lv_iload_n (pc := 37) hx hb dX8_bestNow_37 rfl (lv_at hl 3 rfl) ?_
    refine lv_if_ne (pc := 38) (tgt := 48) hx hb dX8_bestNow_38 (by decide) (fun c_4 => ?_) (fun c_4 => ?_)
    · skip
      refine lv_iload_n (pc := 48) hx hb dX8_bestNow_48 rfl (lv_at hl 3 rfl) ?_
      refine lv_iconst (pc := 49) (v := 1) hx hb dX8_bestNow_49 (by decide) ?_
      refine lv_icmp_ne (pc := 50) (tgt := 60) hx hb dX8_bestNow_50 (by decide) (fun c_5 => ?_) (fun c_5 => ?_)
      · skip
        refine lv_aload_n (pc := 60) hx hb dX8_bestNow_60 rfl (lv_at hl 0 rfl) ?_
        refine rV (pc := 61) (rest := []) ⟨hx, hb, hml, hown, hts⟩ (k_X8_nightsOn (z := (va_up (va_up (va_up (va_up (va_up z 9 (z 9 + 1)) 20 (nI (dkOf r f t))) 22 ((bstOf z r n f t).1)) 23 ((bstOf z r n f t).2.1)) 24 ((bstOf z r n f t).2.2))) (g := g) (r := (va_up (va_up r 8 (fbR ((layR r f t 21)) n (dkOf r f t) ((plw (layR r f t 21) n (dkOf r f t) (r 8) ((n + 1) ^ dkOf r f t))) (bstK z (layR r f t) n (dkOf r f t) ((n + 1) ^ dkOf r f t)))) 21 (layR r f t 21)))) cw_X8_137 ⟨(Nat.le_of_ble_eq_true rfl), (Nat.le_of_ble_eq_true rfl)⟩ hE hS hP rfl rfl rfl rfl hl.1 rfl (Nat.le_of_ble_eq_true rfl) dX8_bestNow_61 ⟨Nat.le_refl _, Nat.le_refl _⟩ ?_
        refine W.eq (g2 := F0 m 64 ls [.int (nI (nOn ((fbR ((layR r f t 21)) n (dkOf r f t) ((plw (layR r f t 21) n (dkOf r f t) (r 8) ((n + 1) ^ dkOf r f t))) (bstK z (layR r f t) n (dkOf r f t) ((n + 1) ^ dkOf r f t)))) 12))]) rfl ?_
        have hfn : R_bestNow z g r n f t what = (nI (nOn ((fbR ((layR r f t 21)) n (dkOf r f t) ((plw (layR r f t 21) n (dkOf r f t) (r 8) ((n + 1) ^ dkOf r f t))) (bstK z (layR r f t) n (dkOf r f t) ((n + 1) ^ dkOf r f t)))) 12), (va_up (va_up (va_up (va_up (va_up z 9 (z 9 + 1)) 20 (nI (dkOf r f t))) 22 ((bstOf z r n f t).1)) 23 ((bstOf z r n f t).2.1)) 24 ((bstOf z r n f t).2.2)), g, (va_up (va_up r 8 (fbR ((layR r f t 21)) n (dkOf r f t) ((plw (layR r f t 21) n (dkOf r f t) (r 8) ((n + 1) ^ dkOf r f t))) (bstK z (layR r f t) n (dkOf r f t) ((n + 1) ^ dkOf r f t)))) 21 (layR r f t 21))) := by rw [R_bestNow, if_neg c_4, if_neg c_5, bstPl, if_pos c_1, fbR_plw]; try rfl
        rw [hQ]; exact W.iret (pc := 64) hx hb hr (fun t9 ht _ => ⟨⟨retI (by rw [hfn]), by rw [ht, hfn]; exact (show va_P D vwCl (wR kB kI o a (va_up (va_up (va_up (va_up (va_up z 9 (z 9 + 1)) 20 (nI (dkOf r f t))) 22 ((bstOf z r n f t).1)) 23 ((bstOf z r n f t).2.1)) 24 ((bstOf z r n f t).2.2)) g (va_up (va_up r 8 (fbR ((layR r f t 21)) n (dkOf r f t) ((plw (layR r f t 21) n (dkOf r f t) (r 8) ((n + 1) ^ dkOf r f t))) (bstK z (layR r f t) n (dkOf r f t) ((n + 1) ^ dkOf r f t)))) 21 (layR r f t 21))) _ from hP)⟩, hS.F ht⟩) hS.2.2 dX8_bestNow_64 hlocks
      · skip
        refine lv_aload_n (pc := 53) hx hb dX8_bestNow_53 rfl (lv_at hl 0 rfl) ?_
        refine fget (pc := 54) (v := .int ((bstOf z r n f t).2.2)) hx hb hts hown hE hP fl_X8_201 0 rfl rfl dX8_bestNow_54 ?_
        refine lv_goto (pc := 57) (tgt := 64) hx hb dX8_bestNow_57 (by decide) ?_
        have hfn : R_bestNow z g r n f t what = ((bstOf z r n f t).2.2, (va_up (va_up (va_up (va_up (va_up z 9 (z 9 + 1)) 20 (nI (dkOf r f t))) 22 ((bstOf z r n f t).1)) 23 ((bstOf z r n f t).2.1)) 24 ((bstOf z r n f t).2.2)), g, (va_up (va_up r 8 (fbR ((layR r f t 21)) n (dkOf r f t) ((plw (layR r f t 21) n (dkOf r f t) (r 8) ((n + 1) ^ dkOf r f t))) (bstK z (layR r f t) n (dkOf r f t) ((n + 1) ^ dkOf r f t)))) 21 (layR r f t 21))) := by rw [R_bestNow, if_neg c_4, if_pos c_5, bstPl, if_pos c_1, fbR_plw]; try rfl
        rw [hQ]; exact W.iret (pc := 64) hx hb hr (fun t9 ht _ => ⟨⟨retI (by rw [hfn]), by rw [ht, hfn]; exact (show va_P D vwCl (wR kB kI o a (va_up (va_up (va_up (va_up (va_up z 9 (z 9 + 1)) 20 (nI (dkOf r f t))) 22 ((bstOf z r n f t).1)) 23 ((bstOf z r n f t).2.1)) 24 ((bstOf z r n f t).2.2)) g (va_up (va_up r 8 (fbR ((layR r f t 21)) n (dkOf r f t) ((plw (layR r f t 21) n (dkOf r f t) (r 8) ((n + 1) ^ dkOf r f t))) (bstK z (layR r f t) n (dkOf r f t) ((n + 1) ^ dkOf r f t)))) 21 (layR r f t 21))) _ from hP)⟩, hS.F ht⟩) hS.2.2 dX8_bestNow_64 hlocks
    · skip
      refine lv_aload_n (pc := 41) hx hb dX8_bestNow_41 rfl (lv_at hl 0 rfl) ?_
      refine fget (pc := 42) (v := .int ((bstOf z r n f t).2.1)) hx hb hts hown hE hP fl_X8_188 0 rfl rfl dX8_bestNow_42 ?_
      refine lv_goto (pc := 45) (tgt := 64) hx hb dX8_bestNow_45 (by decide) ?_
      have hfn : R_bestNow z g r n f t what = ((bstOf z r n f t).2.1, (va_up (va_up (va_up (va_up (va_up z 9 (z 9 + 1)) 20 (nI (dkOf r f t))) 22 ((bstOf z r n f t).1)) 23 ((bstOf z r n f t).2.1)) 24 ((bstOf z r n f t).2.2)), g, (va_up (va_up r 8 (fbR ((layR r f t 21)) n (dkOf r f t) ((plw (layR r f t 21) n (dkOf r f t) (r 8) ((n + 1) ^ dkOf r f t))) (bstK z (layR r f t) n (dkOf r f t) ((n + 1) ^ dkOf r f t)))) 21 (layR r f t 21))) := by rw [R_bestNow, if_pos c_4, bstPl, if_pos c_1, fbR_plw]; try rfl
      rw [hQ]; exact W.iret (pc := 64) hx hb hr (fun t9 ht _ => ⟨⟨retI (by rw [hfn]), by rw [ht, hfn]; exact (show va_P D vwCl (wR kB kI o a (va_up (va_up (va_up (va_up (va_up z 9 (z 9 + 1)) 20 (nI (dkOf r f t))) 22 ((bstOf z r n f t).1)) 23 ((bstOf z r n f t).2.1)) 24 ((bstOf z r n f t).2.2)) g (va_up (va_up r 8 (fbR ((layR r f t 21)) n (dkOf r f t) ((plw (layR r f t 21) n (dkOf r f t) (r 8) ((n + 1) ^ dkOf r f t))) (bstK z (layR r f t) n (dkOf r f t) ((n + 1) ^ dkOf r f t)))) 21 (layR r f t 21))) _ from hP)⟩, hS.F ht⟩) hS.2.2 dX8_bestNow_64 hlocks
end
