section
variable {l : Launch} {D : va_G} {kB kI kT : ClassId} {ks sk sv : Nat}
set_option maxRecDepth 100000 in
set_option maxHeartbeats 4000000 in
theorem k_X1_startAnew {pa : Nat → Nat} {d : Nat → Nat → Int32} {u : Nat → Int32} {x : Nat → Nat} {n : Int32} {c : Nat → Nat → Int32} {nn : Nat} (hn : n = nI nn) (hn5 : nn ≤ 5) (hok : okP nn (d 8)) (hC : ∀ k, k < nn → ∃ k4, k4 < 5 ∧ (c 4) k = nI k4) : MW l yX1_startAnew cX1_startAnew 3 none 1 23 D kB kI kT ks sk sv [.ref (pa 0)] (wPl kI kT pa d u x n c) none (wPl kI kT pa (va_up (va_up (va_up d 52 (ovN (d 52) (fun _ => 0) 5)) 53 (ovN (d 53) (fun _ => 0) 5)) 54 (lstC (c 4) (d 8) (ovN (d 54) (fun _ => -1) 5) 12)) (va_up (va_up (va_up u 57 0) 58 0) 59 0) x n c) := by
  refine MW.go (by decide +kernel) (Nat.le_of_ble_eq_true rfl) ?_
  intro p e s m below meth c0 args Q ls A hQ hx hb hr hml hown hts hlocks hE hP hD hS hl
  have hl : lv_has ls 3 [(0, .ref (pa 0))] := hl
  have hown : s.vm.findClass RX1 = some m.cls := hown
  refine lv_aload_n (pc := 0) hx hb dX1_startAnew_0 rfl (lv_at hl 0 rfl) ?_
  refine lv_iconst (pc := 1) (v := 0) hx hb dX1_startAnew_1 (by decide) ?_
  refine fput (pc := 2) (v := .int 0) hx hb hts hown hE hP hD hS fp_X1_103 0 rfl rfl rfl (Nat.le_of_ble_eq_true rfl) dX1_startAnew_2 (fun H locs hP hD hS => ?_)
  have hP : va_P D vwCl (wPl kI kT pa d (va_up u 57 0) x n c) H := hP
  have hD : va_D A (wPl kI kT pa d (va_up u 57 0) x n c) := hD
  refine lv_aload_n (pc := 5) hx hb dX1_startAnew_5 rfl (lv_at hl 0 rfl) ?_
  refine lv_iconst (pc := 6) (v := 0) hx hb dX1_startAnew_6 (by decide) ?_
  refine fput (pc := 7) (v := .int 0) hx hb hts hown hE hP hD hS fp_X1_40 0 rfl rfl rfl (Nat.le_of_ble_eq_true rfl) dX1_startAnew_7 (fun H locs hP hD hS => ?_)
  have hP : va_P D vwCl (wPl kI kT pa d (va_up (va_up u 57 0) 58 0) x n c) H := hP
  have hD : va_D A (wPl kI kT pa d (va_up (va_up u 57 0) 58 0) x n c) := hD
  refine lv_aload_n (pc := 10) hx hb dX1_startAnew_10 rfl (lv_at hl 0 rfl) ?_
  refine lv_iconst (pc := 11) (v := 0) hx hb dX1_startAnew_11 (by decide) ?_
  refine fput (pc := 12) (v := .int 0) hx hb hts hown hE hP hD hS fp_X1_106 0 rfl rfl rfl (Nat.le_of_ble_eq_true rfl) dX1_startAnew_12 (fun H locs hP hD hS => ?_)
  have hP : va_P D vwCl (wPl kI kT pa d (va_up (va_up (va_up u 57 0) 58 0) 59 0) x n c) H := hP
  have hD : va_D A (wPl kI kT pa d (va_up (va_up (va_up u 57 0) 58 0) 59 0) x n c) := hD
  refine lv_aload_n (pc := 15) hx hb dX1_startAnew_15 rfl (lv_at hl 0 rfl) ?_
  refine fget (pc := 16) (v := .ref (pa 4)) hx hb hts hown hE hP fl_X1_21 0 rfl rfl dX1_startAnew_16 ?_
  refine lv_iconst (pc := 19) (v := 0) hx hb dX1_startAnew_19 (by decide) ?_
  refine wS (pc := 20) (rest := []) ⟨hx, hb, hml, hown, hts⟩ (k_J7_fill (v := 0) (aa := pa 4) (NN := 5) (af := d 52) (hNN := (by omega))) cw_X1_34 ⟨(Nat.le_of_ble_eq_true rfl), (Nat.le_of_ble_eq_true rfl)⟩ hE hP hD hS [4] (by decide) rfl rfl rfl hl.1 rfl (Nat.le_of_ble_eq_true rfl) dX1_startAnew_20 ⟨Nat.le_refl _, Nat.le_refl _⟩ (fun H locs hP hD hS => ?_)
  have hP : va_P D vwCl (wPl kI kT pa (va_up d 52 (ovN (d 52) (fun _ => 0) 5)) (va_up (va_up (va_up u 57 0) 58 0) 59 0) x n c) H := hP
  have hD : va_D A (wPl kI kT pa (va_up d 52 (ovN (d 52) (fun _ => 0) 5)) (va_up (va_up (va_up u 57 0) 58 0) 59 0) x n c) := hD
  refine W.eq (g2 := F0 m 23 ls []) rfl ?_
  refine lv_aload_n (pc := 23) hx hb dX1_startAnew_23 rfl (lv_at hl 0 rfl) ?_
  refine fget (pc := 24) (v := .ref (pa 5)) hx hb hts hown hE hP fl_X1_24 0 rfl rfl dX1_startAnew_24 ?_
  refine lv_iconst (pc := 27) (v := 0) hx hb dX1_startAnew_27 (by decide) ?_
  refine wS (pc := 28) (rest := []) ⟨hx, hb, hml, hown, hts⟩ (k_J7_fill (v := 0) (aa := pa 5) (NN := 5) (af := d 53) (hNN := (by omega))) cw_X1_34 ⟨(Nat.le_of_ble_eq_true rfl), (Nat.le_of_ble_eq_true rfl)⟩ hE hP hD hS [5] (by decide) rfl rfl rfl hl.1 rfl (Nat.le_of_ble_eq_true rfl) dX1_startAnew_28 ⟨Nat.le_refl _, Nat.le_refl _⟩ (fun H locs hP hD hS => ?_)
  have hP : va_P D vwCl (wPl kI kT pa (va_up (va_up d 52 (ovN (d 52) (fun _ => 0) 5)) 53 (ovN (d 53) (fun _ => 0) 5)) (va_up (va_up (va_up u 57 0) 58 0) 59 0) x n c) H := hP
  have hD : va_D A (wPl kI kT pa (va_up (va_up d 52 (ovN (d 52) (fun _ => 0) 5)) 53 (ovN (d 53) (fun _ => 0) 5)) (va_up (va_up (va_up u 57 0) 58 0) 59 0) x n c) := hD
  refine W.eq (g2 := F0 m 31 ls []) rfl ?_
  refine lv_aload_n (pc := 31) hx hb dX1_startAnew_31 rfl (lv_at hl 0 rfl) ?_
  refine fget (pc := 32) (v := .ref (pa 6)) hx hb hts hown hE hP fl_X1_27 0 rfl rfl dX1_startAnew_32 ?_
  refine lv_iconst (pc := 35) (v := (-1)) hx hb dX1_startAnew_35 (by decide) ?_
  refine wS (pc := 36) (rest := []) ⟨hx, hb, hml, hown, hts⟩ (k_J7_fill (v := (-1)) (aa := pa 6) (NN := 5) (af := d 54) (hNN := (by omega))) cw_X1_34 ⟨(Nat.le_of_ble_eq_true rfl), (Nat.le_of_ble_eq_true rfl)⟩ hE hP hD hS [6] (by decide) rfl rfl rfl hl.1 rfl (Nat.le_of_ble_eq_true rfl) dX1_startAnew_36 ⟨Nat.le_refl _, Nat.le_refl _⟩ (fun H locs hP hD hS => ?_)
  have hP : va_P D vwCl (wPl kI kT pa (va_up (va_up (va_up d 52 (ovN (d 52) (fun _ => 0) 5)) 53 (ovN (d 53) (fun _ => 0) 5)) 54 (ovN (d 54) (fun _ => (-1)) 5)) (va_up (va_up (va_up u 57 0) 58 0) 59 0) x n c) H := hP
  have hD : va_D A (wPl kI kT pa (va_up (va_up (va_up d 52 (ovN (d 52) (fun _ => 0) 5)) 53 (ovN (d 53) (fun _ => 0) 5)) 54 (ovN (d 54) (fun _ => (-1)) 5)) (va_up (va_up (va_up u 57 0) 58 0) 59 0) x n c) := hD
  refine W.eq (g2 := F0 m 39 ls []) rfl ?_
  refine lv_iconst (pc := 39) (v := 0) hx hb dX1_startAnew_39 (by decide) ?_
  refine lv_istore_n (pc := 40) (lv' := [(1, .int 0), (0, .ref (pa 0))]) hx hb dX1_startAnew_40 rfl hl (by decide) rfl (fun ls hl => ?_)
  have lp_1 : ∀ (fuel : Nat) (i : Nat), 12 - i < fuel → (i ≤ 12) → ∀ (H : Heap) (locs : List Loc), va_P D vwCl (wPl kI kT pa (va_up (va_up (va_up d 52 (ovN (d 52) (fun _ => 0) 5)) 53 (ovN (d 53) (fun _ => 0) 5)) 54 (lstC (c 4) (d 8) (ovN (d 54) (fun _ => -1) 5) i)) (va_up (va_up (va_up u 57 0) 58 0) 59 0) x n c) H → va_D A (wPl kI kT pa (va_up (va_up (va_up d 52 (ovN (d 52) (fun _ => 0) 5)) 53 (ovN (d 53) (fun _ => 0) 5)) 54 (lstC (c 4) (d 8) (ovN (d 54) (fun _ => -1) 5) i)) (va_up (va_up (va_up u 57 0) 58 0) 59 0) x n c) → va_S A s.heap H locs → ∀ (ls : Array Slot), lv_has ls 3 [(0, .ref (pa 0)), (1, .int (nI i))] → W p l e (rmO 1 23) s m args below meth c0 H locs 0 0 Q (F0 m 41 ls []) := by
    intro fuel
    induction fuel with
    | zero => intro i hfuel; exact absurd hfuel (Nat.not_lt_zero _)
    | succ fuel ih_lp_1 =>
      intro i hfuel hi H locs hP hD hS ls hl
      refine lv_iload_n (pc := 41) hx hb dX1_startAnew_41 rfl (lv_at hl 1 rfl) ?_
      refine lv_bipush (pc := 42) (v := 12) hx hb dX1_startAnew_42 (by decide) ?_
      refine lv_icmp_ge (pc := 44) (tgt := 81) hx hb dX1_startAnew_44 (by decide) (fun c_2 => ?_) (fun c_2 => ?_)
      · skip
        have c_2n : 12 ≤ i := (nI_leI (a := 12) (b := i) (by omega) (by omega)).mp c_2
        rw [hQ]; exact W.vret (pc := 81) hx hb hr (fun t9 ht _ => ⟨⟨rfl, by rw [ht]; exact by rw [show (12 : Nat) = i by omega]; exact hP⟩, hS.F ht⟩) hS.2.2 dX1_startAnew_81 hlocks
      · skip
        have c_2n : ¬ 12 ≤ i := fun hh => c_2 ((nI_leI (a := 12) (b := i) (by omega) (by omega)).mpr hh)
        refine lv_aload_n (pc := 47) hx hb dX1_startAnew_47 rfl (lv_at hl 0 rfl) ?_
        refine lv_iload_n (pc := 48) hx hb dX1_startAnew_48 rfl (lv_at hl 1 rfl) ?_
        refine rV (pc := 49) (rest := []) ⟨hx, hb, hml, hown, hts⟩ (k_X1_titleOn (x9 := nI i) (pa := pa) (d := (va_up (va_up (va_up d 52 (ovN (d 52) (fun _ => 0) 5)) 53 (ovN (d 53) (fun _ => 0) 5)) 54 (lstC (c 4) (d 8) (ovN (d 54) (fun _ => -1) 5) i))) (u := (va_up (va_up (va_up u 57 0) 58 0) 59 0)) (x := x) (n := n) (c := c) (nn := nn) (hn := (by first | assumption | omega)) (hn5 := (by first | assumption | omega)) (hok := (by first | assumption | omega))) cw_X1_78 ⟨(Nat.le_of_ble_eq_true rfl), (Nat.le_of_ble_eq_true rfl)⟩ hE hS hP rfl rfl rfl rfl hl.1 rfl (Nat.le_of_ble_eq_true rfl) dX1_startAnew_49 ⟨Nat.le_refl _, Nat.le_refl _⟩ ?_
        refine W.eq (g2 := F0 m 52 ls [.int (rOn (d 8) (nI i))]) rfl ?_
        refine vEq (v := (d 8) i) (rOn_at (by omega)) ?_
        refine lv_istore_n (pc := 52) (lv' := [(2, .int ((d 8) i)), (0, .ref (pa 0)), (1, .int (nI i))]) hx hb dX1_startAnew_52 rfl hl (by decide) rfl (fun ls hl => ?_)
        refine lv_iload_n (pc := 53) hx hb dX1_startAnew_53 rfl (lv_at hl 0 rfl) ?_
        refine lv_iconst (pc := 54) (v := (-1)) hx hb dX1_startAnew_54 (by decide) ?_
        refine lv_icmp_eq (pc := 55) (tgt := 75) hx hb dX1_startAnew_55 (by decide) (fun c_3 => ?_) (fun c_3 => ?_)
        · skip
          refine lv_iinc (pc := 75) (v := nI (i + 1)) (lv' := [(1, .int (nI (i + 1))), (2, .int ((d 8) i)), (0, .ref (pa 0))]) hx hb dX1_startAnew_75 hl (k := 2) rfl (nI_add (i) 1) (by decide) rfl (fun ls hl => ?_)
          refine lv_goto (pc := 78) (tgt := 41) hx hb dX1_startAnew_78 (by decide) ?_
          exact ih_lp_1 (i + 1) (by omega) (by omega) _ _ (by rw [lstC, if_pos c_3]; exact hP) (by rw [lstC, if_pos c_3]; exact hD) hS ls (lv_sub hl [2, 0] rfl)
        · skip
          obtain ⟨t, ht, hti⟩ := (hok i (by omega)).resolve_left c_3
          obtain ⟨k4, hk4, hk4e⟩ := hC t ht
          refine lv_aload_n (pc := 58) hx hb dX1_startAnew_58 rfl (lv_at hl 1 rfl) ?_
          refine fget (pc := 59) (v := .ref (pa 6)) hx hb hts hown hE hP fl_X1_27 0 rfl rfl dX1_startAnew_59 ?_
          refine lv_aload_n (pc := 62) hx hb dX1_startAnew_62 rfl (lv_at hl 1 rfl) ?_
          refine fget (pc := 63) (v := .ref (x 7)) hx hb hts hown hE hP fl_X1_30 0 rfl rfl dX1_startAnew_63 ?_
          refine lv_iload_n (pc := 66) hx hb dX1_startAnew_66 rfl (lv_at hl 0 rfl) ?_
          refine vEq (v := nI t) hti ?_
          refine rV (pc := 67) (rest := [.ref (pa 6)]) ⟨hx, hb, hml, hown, hts⟩ (k_X6_at (k := t) (x := x) (n := n) (c := c) (hk5 := (by omega))) cw_X1_109 ⟨(Nat.le_of_ble_eq_true rfl), (Nat.le_of_ble_eq_true rfl)⟩ hE hS (sub_P (wc := wTs kT x n c) hP [7, 8, 9, 10, 11, 12, 13] rfl) rfl rfl rfl rfl hl.1 rfl (Nat.le_of_ble_eq_true rfl) dX1_startAnew_67 ⟨Nat.le_refl _, Nat.le_refl _⟩ ?_
          refine W.eq (g2 := F0 m 70 ls [.ref (x (9 + t)), .ref (pa 6)]) rfl ?_
          refine fget (pc := 70) (v := .int ((c 4) t)) hx hb hts hown hE hP fl_X1_113 (9 + t) (wPl_t (by omega)) rfl dX1_startAnew_70 ?_
          refine lv_iload_n (pc := 73) hx hb dX1_startAnew_73 rfl (lv_at hl 2 rfl) ?_
          refine astX (pc := 74) (f := lstC (c 4) (d 8) (ovN (d 54) (fun _ => -1) 5) i) hx hb hE hP hD hS 6 rfl (by rw [hk4e]; exact vp_in_nI hk4 (by omega)) dX1_startAnew_74 (fun H locs hP hD hS => ?_)
          have hP : va_P D vwCl (wPl kI kT pa (va_up (va_up (va_up d 52 (ovN (d 52) (fun _ => 0) 5)) 53 (ovN (d 53) (fun _ => 0) 5)) 54 (upd (lstC (c 4) (d 8) (ovN (d 54) (fun _ => -1) 5) i) (ix ((c 4) t)) (nI i))) (va_up (va_up (va_up u 57 0) 58 0) 59 0) x n c) H := hP
          have hD : va_D A (wPl kI kT pa (va_up (va_up (va_up d 52 (ovN (d 52) (fun _ => 0) 5)) 53 (ovN (d 53) (fun _ => 0) 5)) 54 (upd (lstC (c 4) (d 8) (ovN (d 54) (fun _ => -1) 5) i) (ix ((c 4) t)) (nI i))) (va_up (va_up (va_up u 57 0) 58 0) 59 0) x n c) := hD
          refine lv_iinc (pc := 75) (v := nI (i + 1)) (lv' := [(1, .int (nI (i + 1))), (2, .int ((d 8) i)), (0, .ref (pa 0))]) hx hb dX1_startAnew_75 hl (k := 2) rfl (nI_add (i) 1) (by decide) rfl (fun ls hl => ?_)
          refine lv_goto (pc := 78) (tgt := 41) hx hb dX1_startAnew_78 (by decide) ?_
          exact ih_lp_1 (i + 1) (by omega) (by omega) _ _ (by rw [lstC, if_neg c_3, hti, ix_nI (by omega)]; exact hP) (by rw [lstC, if_neg c_3, hti, ix_nI (by omega)]; exact hD) hS ls (lv_sub hl [2, 0] rfl)
  exact lp_1 _ 0 (Nat.lt_succ_self _) (by omega) _ _ hP hD hS ls (lv_sub hl [1, 0] rfl)
set_option maxRecDepth 100000 in
set_option maxHeartbeats 4000000 in
theorem k_X1_tally {pa : Nat → Nat} {d : Nat → Nat → Int32} {u : Nat → Int32} {x : Nat → Nat} {n : Int32} {c : Nat → Nat → Int32} (i : Nat) (t : Nat) (hi : i < 12) (ht5 : t < 5) : MW l yX1_tally cX1_tally 3 none 0 0 D kB kI kT ks sk sv [.ref (pa 0), .int (nI i), .int (nI t)] (wPl kI kT pa d u x n c) none (wPl kI kT pa (va_up (va_up d 52 (upd (d 52) t ((d 52) t + 1))) 53 (if (d 50) i = 0 then upd (d 53) t ((d 53) t + (d 51) i) else d 53)) (va_up (va_up (va_up u 57 (if (d 50) i = 0 then u 57 else u 57 + 1)) 58 (if (d 50) i = 0 then u 58 else u 58 + 1)) 59 (if (d 50) i = 0 then u 59 + (d 51) i else u 59)) x n c) := by
  refine MW.go (by decide +kernel) (Nat.le_of_ble_eq_true rfl) ?_
  intro p e s m below meth c0 args Q ls A hQ hx hb hr hml hown hts hlocks hE hP hD hS hl
  have hl : lv_has ls 3 [(0, .ref (pa 0)), (1, .int (nI i)), (2, .int (nI t))] := hl
  have hown : s.vm.findClass RX1 = some m.cls := hown
  refine lv_aload_n (pc := 0) hx hb dX1_tally_0 rfl (lv_at hl 0 rfl) ?_
  refine fget (pc := 1) (v := .ref (pa 4)) hx hb hts hown hE hP fl_X1_21 0 rfl rfl dX1_tally_1 ?_
  refine lv_iload_n (pc := 4) hx hb dX1_tally_4 rfl (lv_at hl 2 rfl) ?_
  refine lv_dup2_11 (pc := 5) hx hb dX1_tally_5 rfl rfl ?_
  refine aldN (pc := 6) (f := d 52) hx hb hE hP 4 rfl (t) (by omega) (by omega) dX1_tally_6 ?_
  refine lv_iconst (pc := 7) (v := 1) hx hb dX1_tally_7 (by decide) ?_
  refine lv_iadd (pc := 8) hx hb dX1_tally_8 ?_
  refine astN (pc := 9) (f := d 52) hx hb hE hP hD hS 4 rfl (t) (by omega) (by omega) dX1_tally_9 (fun H locs hP hD hS => ?_)
  have hP : va_P D vwCl (wPl kI kT pa (va_up d 52 (upd (d 52) t (((d 52) t) + 1))) u x n c) H := hP
  have hD : va_D A (wPl kI kT pa (va_up d 52 (upd (d 52) t (((d 52) t) + 1))) u x n c) := hD
  refine lv_aload_n (pc := 10) hx hb dX1_tally_10 rfl (lv_at hl 0 rfl) ?_
  refine fget (pc := 11) (v := .ref (pa 2)) hx hb hts hown hE hP fl_X1_15 0 rfl rfl dX1_tally_11 ?_
  refine lv_iload_n (pc := 14) hx hb dX1_tally_14 rfl (lv_at hl 1 rfl) ?_
  refine aldN (pc := 15) (f := d 50) hx hb hE hP 2 rfl (i) (by omega) (by omega) dX1_tally_15 ?_
  refine lv_if_ne (pc := 16) (tgt := 52) hx hb dX1_tally_16 (by decide) (fun c_1 => ?_) (fun c_1 => ?_)
  · skip
    refine lv_aload_n (pc := 52) hx hb dX1_tally_52 rfl (lv_at hl 0 rfl) ?_
    refine lv_dup (pc := 53) hx hb dX1_tally_53 rfl ?_
    refine fget (pc := 54) (v := .int (u 57)) hx hb hts hown hE hP fl_X1_103 0 rfl rfl dX1_tally_54 ?_
    refine lv_iconst (pc := 57) (v := 1) hx hb dX1_tally_57 (by decide) ?_
    refine lv_iadd (pc := 58) hx hb dX1_tally_58 ?_
    refine fput (pc := 59) (v := .int ((u 57) + 1)) hx hb hts hown hE hP hD hS fp_X1_103 0 rfl rfl rfl (Nat.le_of_ble_eq_true rfl) dX1_tally_59 (fun H locs hP hD hS => ?_)
    have hP : va_P D vwCl (wPl kI kT pa (va_up d 52 (upd (d 52) t (((d 52) t) + 1))) (va_up u 57 ((u 57) + 1)) x n c) H := hP
    have hD : va_D A (wPl kI kT pa (va_up d 52 (upd (d 52) t (((d 52) t) + 1))) (va_up u 57 ((u 57) + 1)) x n c) := hD
    refine lv_aload_n (pc := 62) hx hb dX1_tally_62 rfl (lv_at hl 0 rfl) ?_
    refine lv_dup (pc := 63) hx hb dX1_tally_63 rfl ?_
    refine fget (pc := 64) (v := .int (u 58)) hx hb hts hown hE hP fl_X1_40 0 rfl rfl dX1_tally_64 ?_
    refine lv_iconst (pc := 67) (v := 1) hx hb dX1_tally_67 (by decide) ?_
    refine lv_iadd (pc := 68) hx hb dX1_tally_68 ?_
    refine fput (pc := 69) (v := .int ((u 58) + 1)) hx hb hts hown hE hP hD hS fp_X1_40 0 rfl rfl rfl (Nat.le_of_ble_eq_true rfl) dX1_tally_69 (fun H locs hP hD hS => ?_)
    have hP : va_P D vwCl (wPl kI kT pa (va_up d 52 (upd (d 52) t (((d 52) t) + 1))) (va_up (va_up u 57 ((u 57) + 1)) 58 ((u 58) + 1)) x n c) H := hP
    have hD : va_D A (wPl kI kT pa (va_up d 52 (upd (d 52) t (((d 52) t) + 1))) (va_up (va_up u 57 ((u 57) + 1)) 58 ((u 58) + 1)) x n c) := hD
    rw [hQ]; exact W.vret (pc := 72) hx hb hr (fun t9 ht _ => ⟨⟨rfl, by rw [ht]; exact by rw [if_neg c_1, if_neg c_1, if_neg c_1, if_neg c_1]; exact hP⟩, hS.F ht⟩) hS.2.2 dX1_tally_72 hlocks
  · skip
    refine lv_aload_n (pc := 19) hx hb dX1_tally_19 rfl (lv_at hl 0 rfl) ?_
    refine lv_dup (pc := 20) hx hb dX1_tally_20 rfl ?_
    refine fget (pc := 21) (v := .int (u 59)) hx hb hts hown hE hP fl_X1_106 0 rfl rfl dX1_tally_21 ?_
    refine lv_aload_n (pc := 24) hx hb dX1_tally_24 rfl (lv_at hl 0 rfl) ?_
    refine fget (pc := 25) (v := .ref (pa 3)) hx hb hts hown hE hP fl_X1_18 0 rfl rfl dX1_tally_25 ?_
    refine lv_iload_n (pc := 28) hx hb dX1_tally_28 rfl (lv_at hl 1 rfl) ?_
    refine aldN (pc := 29) (f := d 51) hx hb hE hP 3 rfl (i) (by omega) (by omega) dX1_tally_29 ?_
    refine lv_iadd (pc := 30) hx hb dX1_tally_30 ?_
    refine fput (pc := 31) (v := .int ((u 59) + ((d 51) i))) hx hb hts hown hE hP hD hS fp_X1_106 0 rfl rfl rfl (Nat.le_of_ble_eq_true rfl) dX1_tally_31 (fun H locs hP hD hS => ?_)
    have hP : va_P D vwCl (wPl kI kT pa (va_up d 52 (upd (d 52) t (((d 52) t) + 1))) (va_up u 59 ((u 59) + ((d 51) i))) x n c) H := hP
    have hD : va_D A (wPl kI kT pa (va_up d 52 (upd (d 52) t (((d 52) t) + 1))) (va_up u 59 ((u 59) + ((d 51) i))) x n c) := hD
    refine lv_aload_n (pc := 34) hx hb dX1_tally_34 rfl (lv_at hl 0 rfl) ?_
    refine fget (pc := 35) (v := .ref (pa 5)) hx hb hts hown hE hP fl_X1_24 0 rfl rfl dX1_tally_35 ?_
    refine lv_iload_n (pc := 38) hx hb dX1_tally_38 rfl (lv_at hl 2 rfl) ?_
    refine lv_dup2_11 (pc := 39) hx hb dX1_tally_39 rfl rfl ?_
    refine aldN (pc := 40) (f := d 53) hx hb hE hP 5 rfl (t) (by omega) (by omega) dX1_tally_40 ?_
    refine lv_aload_n (pc := 41) hx hb dX1_tally_41 rfl (lv_at hl 0 rfl) ?_
    refine fget (pc := 42) (v := .ref (pa 3)) hx hb hts hown hE hP fl_X1_18 0 rfl rfl dX1_tally_42 ?_
    refine lv_iload_n (pc := 45) hx hb dX1_tally_45 rfl (lv_at hl 1 rfl) ?_
    refine aldN (pc := 46) (f := d 51) hx hb hE hP 3 rfl (i) (by omega) (by omega) dX1_tally_46 ?_
    refine lv_iadd (pc := 47) hx hb dX1_tally_47 ?_
    refine astN (pc := 48) (f := d 53) hx hb hE hP hD hS 5 rfl (t) (by omega) (by omega) dX1_tally_48 (fun H locs hP hD hS => ?_)
    have hP : va_P D vwCl (wPl kI kT pa (va_up (va_up d 52 (upd (d 52) t (((d 52) t) + 1))) 53 (upd (d 53) t (((d 53) t) + ((d 51) i)))) (va_up u 59 ((u 59) + ((d 51) i))) x n c) H := hP
    have hD : va_D A (wPl kI kT pa (va_up (va_up d 52 (upd (d 52) t (((d 52) t) + 1))) 53 (upd (d 53) t (((d 53) t) + ((d 51) i)))) (va_up u 59 ((u 59) + ((d 51) i))) x n c) := hD
    refine lv_goto (pc := 49) (tgt := 72) hx hb dX1_tally_49 (by decide) ?_
    rw [hQ]; exact W.vret (pc := 72) hx hb hr (fun t9 ht _ => ⟨⟨rfl, by rw [ht]; exact by rw [if_pos c_1, if_pos c_1, if_pos c_1, if_pos c_1]; exact hP⟩, hS.F ht⟩) hS.2.2 dX1_tally_72 hlocks
end
