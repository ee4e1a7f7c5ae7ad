section
variable {l : Launch} {D : va_G} {kB kI kT : ClassId} {ks sk sv : Nat}
theorem acw_X2_33 : ACW RX2 33 := ⟨GG_at 561 (by decide +kernel) rfl, GG_at 563 (by decide +kernel) rfl, GG_at 562 (by decide +kernel) rfl, GG_at 18 (by decide +kernel) rfl⟩
theorem acw_X1_52 : ACW RX1 52 := ⟨GG_at 581 (by decide +kernel) rfl, GG_at 563 (by decide +kernel) rfl, GG_at 562 (by decide +kernel) rfl, GG_at 18 (by decide +kernel) rfl⟩
theorem acw_X4_22 : ACW RX4 22 := ⟨GG_at 639 (by decide +kernel) rfl, GG_at 563 (by decide +kernel) rfl, GG_at 562 (by decide +kernel) rfl, GG_at 18 (by decide +kernel) rfl⟩
def wPx (kI kT : ClassId) (pa : Nat → Nat) (d : Nat → Nat → Int32) (u : Nat → Int32) (x : Nat → Nat) (n : Int32) (c : Nat → Nat → Int32) (b : Nat → Nat) (cd : Nat → Int32) (ln : Int32) : va_W :=
  [(pa 0, .inr (1, [.ref (x 7), .ref (pa 1), .ref (pa 2), .ref (pa 3), .ref (pa 4), .ref (pa 5), .ref (pa 6), .int (u 57), .int (u 58), .int (u 59)])), (pa 1, .inl (kI, 12, .inl (d 8))), (pa 2, .inl (kI, 12, .inl (d 50))), (pa 3, .inl (kI, 12, .inl (d 51))), (pa 4, .inl (kI, 5, .inl (d 52))), (pa 5, .inl (kI, 5, .inl (d 53))), (pa 6, .inl (kI, 5, .inl (d 54))), (x 7, .inr (6, [.ref (x 8), .int n])), (x 8, .inl (kT, 5, .inr (.inr (.inr (.inr (fun k => some (x (9 + k)))))))), (x 9, .inr (5, [.int ((c 2) 0), .int ((c 3) 0), .int ((c 4) 0), .int ((c 5) 0), .int ((c 6) 0), .int ((c 7) 0)])), (x 10, .inr (5, [.int ((c 2) 1), .int ((c 3) 1), .int ((c 4) 1), .int ((c 5) 1), .int ((c 6) 1), .int ((c 7) 1)])), (x 11, .inr (5, [.int ((c 2) 2), .int ((c 3) 2), .int ((c 4) 2), .int ((c 5) 2), .int ((c 6) 2), .int ((c 7) 2)])), (x 12, .inr (5, [.int ((c 2) 3), .int ((c 3) 3), .int ((c 4) 3), .int ((c 5) 3), .int ((c 6) 3), .int ((c 7) 3)])), (x 13, .inr (5, [.int ((c 2) 4), .int ((c 3) 4), .int ((c 4) 4), .int ((c 5) 4), .int ((c 6) 4), .int ((c 7) 4)])), (b 31, .inr (0, [.ref (b 32), .int ln])), (b 32, .inl (kI, 40, .inl (cd)))]
def wPo (kI kT : ClassId) (pa : Nat → Nat) (d : Nat → Nat → Int32) (u : Nat → Int32) (x : Nat → Nat) (n : Int32) (c : Nat → Nat → Int32) (oa : Nat) (of : Nat → Int32) : va_W :=
  [(pa 0, .inr (1, [.ref (x 7), .ref (pa 1), .ref (pa 2), .ref (pa 3), .ref (pa 4), .ref (pa 5), .ref (pa 6), .int (u 57), .int (u 58), .int (u 59)])), (pa 1, .inl (kI, 12, .inl (d 8))), (pa 2, .inl (kI, 12, .inl (d 50))), (pa 3, .inl (kI, 12, .inl (d 51))), (pa 4, .inl (kI, 5, .inl (d 52))), (pa 5, .inl (kI, 5, .inl (d 53))), (pa 6, .inl (kI, 5, .inl (d 54))), (x 7, .inr (6, [.ref (x 8), .int n])), (x 8, .inl (kT, 5, .inr (.inr (.inr (.inr (fun k => some (x (9 + k)))))))), (x 9, .inr (5, [.int ((c 2) 0), .int ((c 3) 0), .int ((c 4) 0), .int ((c 5) 0), .int ((c 6) 0), .int ((c 7) 0)])), (x 10, .inr (5, [.int ((c 2) 1), .int ((c 3) 1), .int ((c 4) 1), .int ((c 5) 1), .int ((c 6) 1), .int ((c 7) 1)])), (x 11, .inr (5, [.int ((c 2) 2), .int ((c 3) 2), .int ((c 4) 2), .int ((c 5) 2), .int ((c 6) 2), .int ((c 7) 2)])), (x 12, .inr (5, [.int ((c 2) 3), .int ((c 3) 3), .int ((c 4) 3), .int ((c 5) 3), .int ((c 6) 3), .int ((c 7) 3)])), (x 13, .inr (5, [.int ((c 2) 4), .int ((c 3) 4), .int ((c 4) 4), .int ((c 5) 4), .int ((c 6) 4), .int ((c 7) 4)])), (oa, .inl (kI, 12, .inl (of)))]
theorem okP_dark {n : Nat} {pl : Nat → Int32} : okP n (ovN pl (fun _ => -1) 12) := fun i hi => Or.inl (ovN_in hi)
set_option maxRecDepth 100000 in
set_option maxHeartbeats 4000000 in
theorem k_X7_isNight (x9 : Int32) : MR l yX7_isNight cX7_isNight 1 (some .boolean) 0 0 D kB kI kT ks sk sv [.int x9] ([]) (some (.int (bi (inR x9 0 11)))) := by
  refine MR.go (by decide +kernel) (Nat.le_of_ble_eq_true rfl) ?_
  intro p e s m below meth c0 args Q ls hQ hx hb hr hml hown hts hlocks hE hP hS hl
  have hl : lv_has ls 1 [(0, .int x9)] := hl
  have hown : s.vm.findClass RX7 = some m.cls := hown
  refine lv_iload_n (pc := 0) hx hb dX7_isNight_0 rfl (lv_at hl 0 rfl) ?_
  refine lv_if_lt (pc := 1) (tgt := 14) hx hb dX7_isNight_1 (by decide) (fun c_1 => ?_) (fun c_1 => ?_)
  · skip
    refine lv_iconst (pc := 14) (v := 0) hx hb dX7_isNight_14 (by decide) ?_
    rw [hQ]; exact W.zret (pc := 15) hx hb hr rfl (fun t9 ht _ => ⟨retI (bi_f (fun q => Int32.not_lt.mpr q.1 c_1)), ht⟩) (fun _ h => nomatch h) dX7_isNight_15 hlocks
  · skip
    refine lv_iload_n (pc := 4) hx hb dX7_isNight_4 rfl (lv_at hl 0 rfl) ?_
    refine lv_bipush (pc := 5) (v := 12) hx hb dX7_isNight_5 (by decide) ?_
    refine lv_icmp_ge (pc := 7) (tgt := 14) hx hb dX7_isNight_7 (by decide) (fun c_2 => ?_) (fun c_2 => ?_)
    · skip
      refine lv_iconst (pc := 14) (v := 0) hx hb dX7_isNight_14 (by decide) ?_
      rw [hQ]; exact W.zret (pc := 15) hx hb hr rfl (fun t9 ht _ => ⟨retI (bi_f (fun q => Int32.not_lt.mpr (Int32.le_trans c_2 q.2) (by decide))), ht⟩) (fun _ h => nomatch h) dX7_isNight_15 hlocks
    · skip
      refine lv_iconst (pc := 10) (v := 1) hx hb dX7_isNight_10 (by decide) ?_
      refine lv_goto (pc := 11) (tgt := 15) hx hb dX7_isNight_11 (by decide) ?_
      rw [hQ]; exact W.zret (pc := 15) hx hb hr rfl (fun t9 ht _ => ⟨retI (bi_t ⟨Int32.not_lt.mp c_1, lt_le11 (Int32.not_le.mp c_2)⟩), ht⟩) (fun _ h => nomatch h) dX7_isNight_15 hlocks
set_option maxRecDepth 100000 in
set_option maxHeartbeats 4000000 in
theorem k_X1_darken {pa : Nat → Nat} {d : Nat → Nat → Int32} {u : Nat → Int32} {x : Nat → Nat} {n : Int32} {c : Nat → Nat → Int32} {nn : Nat} (hn : n = nI nn) (hn5 : nn ≤ 5) (hC : ∀ k, k < nn → ∃ k4, k4 < 5 ∧ (c 4) k = nI k4) : MW l yX1_darken cX1_darken 1 none 4 92 D kB kI kT ks sk sv [.ref (pa 0)] (wPl kI kT pa d u x n c) none (wPl kI kT pa (va_up (va_up (va_up (va_up (va_up (va_up d 8 (ovN (d 8) (fun _ => -1) 12)) 50 (ovN (d 50) (brk (c 2) (c 3) (c 4) (c 5) (c 6) (ovN (d 8) (fun _ => -1) 12)) 12)) 51 (ovN (d 51) (sts (c 2) (c 7) (ovN (d 8) (fun _ => -1) 12)) 12)) 52 (ovN (d 52) (fun t => nI (nOf (ovN (d 8) (fun _ => -1) 12) (nI t) 12)) 5)) 53 (ovN (d 53) (fun t => sumI (fun j => if (ovN (d 8) (fun _ => -1) 12) j = nI t ∧ brk (c 2) (c 3) (c 4) (c 5) (c 6) (ovN (d 8) (fun _ => -1) 12) j = 0 then sts (c 2) (c 7) (ovN (d 8) (fun _ => -1) 12) j else 0) 12) 5)) 54 (lstC (c 4) (ovN (d 8) (fun _ => -1) 12) (ovN (d 54) (fun _ => -1) 5) 12)) (va_up (va_up (va_up u 57 (nI (cntP (fun j => 0 < brk (c 2) (c 3) (c 4) (c 5) (c 6) (ovN (d 8) (fun _ => -1) 12) j) 12))) 58 (nI (cntP (fun j => (ovN (d 8) (fun _ => -1) 12) j = -1 ∨ 0 < brk (c 2) (c 3) (c 4) (c 5) (c 6) (ovN (d 8) (fun _ => -1) 12) j) 12))) 59 (sumI (fun j => if brk (c 2) (c 3) (c 4) (c 5) (c 6) (ovN (d 8) (fun _ => -1) 12) j = 0 then sts (c 2) (c 7) (ovN (d 8) (fun _ => -1) 12) j else 0) 12)) x n c) := by
  refine MW.go (by decide +kernel) (Nat.le_of_ble_eq_true rfl) ?_
  intro p e s m below meth c0 args Q ls A hQ hx hb hr hml hown hts hlocks hE hP hD hS hl
  have hl : lv_has ls 1 [(0, .ref (pa 0))] := hl
  have hown : s.vm.findClass RX1 = some m.cls := hown
  refine lv_aload_n (pc := 0) hx hb dX1_darken_0 rfl (lv_at hl 0 rfl) ?_
  refine fget (pc := 1) (v := .ref (pa 1)) hx hb hts hown hE hP fl_X1_9 0 rfl rfl dX1_darken_1 ?_
  refine lv_iconst (pc := 4) (v := (-1)) hx hb dX1_darken_4 (by decide) ?_
  refine wS (pc := 5) (rest := []) ⟨hx, hb, hml, hown, hts⟩ (k_J7_fill (v := (-1)) (aa := pa 1) (NN := 12) (af := d 8) (hNN := (by omega))) cw_X1_34 ⟨(Nat.le_of_ble_eq_true rfl), (Nat.le_of_ble_eq_true rfl)⟩ hE hP hD hS [1] (by decide) rfl rfl rfl hl.1 rfl (Nat.le_of_ble_eq_true rfl) dX1_darken_5 ⟨Nat.le_refl _, Nat.le_refl _⟩ (fun H locs hP hD hS => ?_)
  have hP : va_P D vwCl (wPl kI kT pa (va_up d 8 (ovN (d 8) (fun _ => (-1)) 12)) u x n c) H := hP
  have hD : va_D A (wPl kI kT pa (va_up d 8 (ovN (d 8) (fun _ => (-1)) 12)) u x n c) := hD
  refine W.eq (g2 := F0 m 8 ls []) rfl ?_
  refine lv_aload_n (pc := 8) hx hb dX1_darken_8 rfl (lv_at hl 0 rfl) ?_
  refine wVa (pc := 9) (rest := []) ⟨hx, hb, hml, hown, hts⟩ (k_X1_weigh (pa := pa) (d := (va_up d 8 (ovN (d 8) (fun _ => (-1)) 12))) (u := u) (x := x) (n := n) (c := c) (nn := nn) (hn := hn) (hn5 := hn5) (hok := okP_dark) (hC := hC)) cw_X1_44 ⟨(Nat.le_of_ble_eq_true rfl), (Nat.le_of_ble_eq_true rfl)⟩ hE hP hD hS rfl rfl rfl rfl rfl hl.1 rfl (Nat.le_of_ble_eq_true rfl) dX1_darken_9 ⟨Nat.le_refl _, Nat.le_refl _⟩ (fun H locs hP hD hS => ?_)
  have hP : va_P D vwCl (wPl kI kT pa (va_up (va_up (va_up (va_up (va_up (va_up d 8 (ovN (d 8) (fun _ => (-1)) 12)) 50 (ovN (d 50) (brk (c 2) (c 3) (c 4) (c 5) (c 6) ((ovN (d 8) (fun _ => (-1)) 12))) 12)) 51 (ovN (d 51) (sts (c 2) (c 7) ((ovN (d 8) (fun _ => (-1)) 12))) 12)) 52 (ovN (d 52) (fun t => nI (nOf ((ovN (d 8) (fun _ => (-1)) 12)) (nI t) 12)) 5)) 53 (ovN (d 53) (fun t => sumI (fun j => if ((ovN (d 8) (fun _ => (-1)) 12)) j = nI t ∧ brk (c 2) (c 3) (c 4) (c 5) (c 6) ((ovN (d 8) (fun _ => (-1)) 12)) j = 0 then sts (c 2) (c 7) ((ovN (d 8) (fun _ => (-1)) 12)) j else 0) 12) 5)) 54 (lstC (c 4) ((ovN (d 8) (fun _ => (-1)) 12)) (ovN (d 54) (fun _ => -1) 5) 12)) (va_up (va_up (va_up u 57 (nI (cntP (fun j => 0 < brk (c 2) (c 3) (c 4) (c 5) (c 6) ((ovN (d 8) (fun _ => (-1)) 12)) j) 12))) 58 (nI (cntP (fun j => ((ovN (d 8) (fun _ => (-1)) 12)) j = -1 ∨ 0 < brk (c 2) (c 3) (c 4) (c 5) (c 6) ((ovN (d 8) (fun _ => (-1)) 12)) j) 12))) 59 (sumI (fun j => if brk (c 2) (c 3) (c 4) (c 5) (c 6) ((ovN (d 8) (fun _ => (-1)) 12)) j = 0 then sts (c 2) (c 7) ((ovN (d 8) (fun _ => (-1)) 12)) j else 0) 12)) x n c) H := hP
  have hD : va_D A (wPl kI kT pa (va_up (va_up (va_up (va_up (va_up (va_up d 8 (ovN (d 8) (fun _ => (-1)) 12)) 50 (ovN (d 50) (brk (c 2) (c 3) (c 4) (c 5) (c 6) ((ovN (d 8) (fun _ => (-1)) 12))) 12)) 51 (ovN (d 51) (sts (c 2) (c 7) ((ovN (d 8) (fun _ => (-1)) 12))) 12)) 52 (ovN (d 52) (fun t => nI (nOf ((ovN (d 8) (fun _ => (-1)) 12)) (nI t) 12)) 5)) 53 (ovN (d 53) (fun t => sumI (fun j => if ((ovN (d 8) (fun _ => (-1)) 12)) j = nI t ∧ brk (c 2) (c 3) (c 4) (c 5) (c 6) ((ovN (d 8) (fun _ => (-1)) 12)) j = 0 then sts (c 2) (c 7) ((ovN (d 8) (fun _ => (-1)) 12)) j else 0) 12) 5)) 54 (lstC (c 4) ((ovN (d 8) (fun _ => (-1)) 12)) (ovN (d 54) (fun _ => -1) 5) 12)) (va_up (va_up (va_up u 57 (nI (cntP (fun j => 0 < brk (c 2) (c 3) (c 4) (c 5) (c 6) ((ovN (d 8) (fun _ => (-1)) 12)) j) 12))) 58 (nI (cntP (fun j => ((ovN (d 8) (fun _ => (-1)) 12)) j = -1 ∨ 0 < brk (c 2) (c 3) (c 4) (c 5) (c 6) ((ovN (d 8) (fun _ => (-1)) 12)) j) 12))) 59 (sumI (fun j => if brk (c 2) (c 3) (c 4) (c 5) (c 6) ((ovN (d 8) (fun _ => (-1)) 12)) j = 0 then sts (c 2) (c 7) ((ovN (d 8) (fun _ => (-1)) 12)) j else 0) 12)) x n c) := hD
  refine W.eq (g2 := F0 m 12 ls []) rfl ?_
  rw [hQ]; exact W.vret (pc := 12) hx hb hr (fun t9 ht _ => ⟨⟨rfl, by rw [ht]; exact hP⟩, hS.F ht⟩) hS.2.2 dX1_darken_12 hlocks
set_option maxRecDepth 100000 in
set_option maxHeartbeats 4000000 in
theorem k_X1_read {pa : Nat → Nat} {d : Nat → Nat → Int32} {u : Nat → Int32} {x : Nat → Nat} {n : Int32} {c : Nat → Nat → Int32} {b : Nat → Nat} {cd : Nat → Int32} {ln : Int32} {nn : Nat} (hn : n = nI nn) (hn5 : nn ≤ 5) (hok : okP nn (ovN (d 8) (planF cd) 12)) (hC : ∀ k, k < nn → ∃ k4, k4 < 5 ∧ (c 4) k = nI k4) : MW l yX1_read cX1_read 3 none 4 92 D kB kI kT ks sk sv [.ref (pa 0), .ref (b 31)] (wPx kI kT pa d u x n c b cd ln) none (wPx kI kT pa (va_up (va_up (va_up (va_up (va_up (va_up d 8 (ovN (d 8) (planF cd) 12)) 50 (ovN (d 50) (brk (c 2) (c 3) (c 4) (c 5) (c 6) (ovN (d 8) (planF cd) 12)) 12)) 51 (ovN (d 51) (sts (c 2) (c 7) (ovN (d 8) (planF cd) 12)) 12)) 52 (ovN (d 52) (fun t => nI (nOf (ovN (d 8) (planF cd) 12) (nI t) 12)) 5)) 53 (ovN (d 53) (fun t => sumI (fun j => if (ovN (d 8) (planF cd) 12) j = nI t ∧ brk (c 2) (c 3) (c 4) (c 5) (c 6) (ovN (d 8) (planF cd) 12) j = 0 then sts (c 2) (c 7) (ovN (d 8) (planF cd) 12) j else 0) 12) 5)) 54 (lstC (c 4) (ovN (d 8) (planF cd) 12) (ovN (d 54) (fun _ => -1) 5) 12)) (va_up (va_up (va_up u 57 (nI (cntP (fun j => 0 < brk (c 2) (c 3) (c 4) (c 5) (c 6) (ovN (d 8) (planF cd) 12) j) 12))) 58 (nI (cntP (fun j => (ovN (d 8) (planF cd) 12) j = -1 ∨ 0 < brk (c 2) (c 3) (c 4) (c 5) (c 6) (ovN (d 8) (planF cd) 12) j) 12))) 59 (sumI (fun j => if brk (c 2) (c 3) (c 4) (c 5) (c 6) (ovN (d 8) (planF cd) 12) j = 0 then sts (c 2) (c 7) (ovN (d 8) (planF cd) 12) j else 0) 12)) x n c b cd ln) := by
  refine MW.go (by decide +kernel) (Nat.le_of_ble_eq_true rfl) ?_
  intro p e s m below meth c0 args Q ls A hQ hx hb hr hml hown hts hlocks hE hP hD hS hl
  have hl : lv_has ls 3 [(0, .ref (pa 0)), (1, .ref (b 31))] := hl
  have hown : s.vm.findClass RX1 = some m.cls := hown
  refine lv_iconst (pc := 0) (v := 0) hx hb dX1_read_0 (by decide) ?_
  refine lv_istore_n (pc := 1) (lv' := [(2, .int 0), (0, .ref (pa 0)), (1, .ref (b 31))]) hx hb dX1_read_1 rfl hl (by decide) rfl (fun ls hl => ?_)
  have lp_1 : ∀ (fuel : Nat) (j : Nat), 12 - j < fuel → (j ≤ 12) → ∀ (H : Heap) (locs : List Loc), va_P D vwCl (wPx kI kT pa (va_up d 8 (ovN (d 8) (planF cd) j)) u x n c b cd ln) H → va_D A (wPx kI kT pa (va_up d 8 (ovN (d 8) (planF cd) j)) u x n c b cd ln) → va_S A s.heap H locs → ∀ (ls : Array Slot), lv_has ls 3 [(0, .ref (pa 0)), (1, .ref (b 31)), (2, .int (nI j))] → W p l e (rmO 4 92) s m args below meth c0 H locs 0 0 Q (F0 m 2 ls []) := by
    intro fuel
    induction fuel with
    | zero => intro j hfuel; exact absurd hfuel (Nat.not_lt_zero _)
    | succ fuel ih_lp_1 =>
      intro j hfuel hj H locs hP hD hS ls hl
      refine lv_iload_n (pc := 2) hx hb dX1_read_2 rfl (lv_at hl 2 rfl) ?_
      refine lv_bipush (pc := 3) (v := 12) hx hb dX1_read_3 (by decide) ?_
      refine lv_icmp_ge (pc := 5) (tgt := 44) hx hb dX1_read_5 (by decide) (fun c_2 => ?_) (fun c_2 => ?_)
      · skip
        have c_2n : 12 ≤ j := (nI_leI (a := 12) (b := j) (by omega) (by omega)).mp c_2
        have hws_j : j = 12 := by omega
        rw [hws_j] at hP hD
        refine lv_aload_n (pc := 44) hx hb dX1_read_44 rfl (lv_at hl 0 rfl) ?_
        refine wV (pc := 45) (rest := []) ⟨hx, hb, hml, hown, hts⟩ (k_X1_weigh (pa := pa) (d := (va_up d 8 (ovN (d 8) (planF cd) 12))) (u := u) (x := x) (n := n) (c := c) (nn := nn) (hn := hn) (hn5 := hn5) (hok := hok) (hC := hC)) cw_X1_44 ⟨(Nat.le_of_ble_eq_true rfl), (Nat.le_of_ble_eq_true rfl)⟩ hE hP hD hS [0, 1, 2, 3, 4, 5, 6, 7, 8, 9, 10, 11, 12, 13] (by decide) rfl rfl rfl rfl rfl rfl hl.1 rfl (Nat.le_of_ble_eq_true rfl) dX1_read_45 ⟨Nat.le_refl _, Nat.le_refl _⟩ (fun H locs hP hD hS => ?_)
        have hP : va_P D vwCl (wPx kI kT pa (va_up (va_up (va_up (va_up (va_up (va_up d 8 (ovN (d 8) (planF cd) 12)) 50 (ovN (d 50) (brk (c 2) (c 3) (c 4) (c 5) (c 6) ((ovN (d 8) (planF cd) 12))) 12)) 51 (ovN (d 51) (sts (c 2) (c 7) ((ovN (d 8) (planF cd) 12))) 12)) 52 (ovN (d 52) (fun t => nI (nOf ((ovN (d 8) (planF cd) 12)) (nI t) 12)) 5)) 53 (ovN (d 53) (fun t => sumI (fun j => if ((ovN (d 8) (planF cd) 12)) j = nI t ∧ brk (c 2) (c 3) (c 4) (c 5) (c 6) ((ovN (d 8) (planF cd) 12)) j = 0 then sts (c 2) (c 7) ((ovN (d 8) (planF cd) 12)) j else 0) 12) 5)) 54 (lstC (c 4) ((ovN (d 8) (planF cd) 12)) (ovN (d 54) (fun _ => -1) 5) 12)) (va_up (va_up (va_up u 57 (nI (cntP (fun j => 0 < brk (c 2) (c 3) (c 4) (c 5) (c 6) ((ovN (d 8) (planF cd) 12)) j) 12))) 58 (nI (cntP (fun j => ((ovN (d 8) (planF cd) 12)) j = -1 ∨ 0 < brk (c 2) (c 3) (c 4) (c 5) (c 6) ((ovN (d 8) (planF cd) 12)) j) 12))) 59 (sumI (fun j => if brk (c 2) (c 3) (c 4) (c 5) (c 6) ((ovN (d 8) (planF cd) 12)) j = 0 then sts (c 2) (c 7) ((ovN (d 8) (planF cd) 12)) j else 0) 12)) x n c b cd ln) H := hP
        have hD : va_D A (wPx kI kT pa (va_up (va_up (va_up (va_up (va_up (va_up d 8 (ovN (d 8) (planF cd) 12)) 50 (ovN (d 50) (brk (c 2) (c 3) (c 4) (c 5) (c 6) ((ovN (d 8) (planF cd) 12))) 12)) 51 (ovN (d 51) (sts (c 2) (c 7) ((ovN (d 8) (planF cd) 12))) 12)) 52 (ovN (d 52) (fun t => nI (nOf ((ovN (d 8) (planF cd) 12)) (nI t) 12)) 5)) 53 (ovN (d 53) (fun t => sumI (fun j => if ((ovN (d 8) (planF cd) 12)) j = nI t ∧ brk (c 2) (c 3) (c 4) (c 5) (c 6) ((ovN (d 8) (planF cd) 12)) j = 0 then sts (c 2) (c 7) ((ovN (d 8) (planF cd) 12)) j else 0) 12) 5)) 54 (lstC (c 4) ((ovN (d 8) (planF cd) 12)) (ovN (d 54) (fun _ => -1) 5) 12)) (va_up (va_up (va_up u 57 (nI (cntP (fun j => 0 < brk (c 2) (c 3) (c 4) (c 5) (c 6) ((ovN (d 8) (planF cd) 12)) j) 12))) 58 (nI (cntP (fun j => ((ovN (d 8) (planF cd) 12)) j = -1 ∨ 0 < brk (c 2) (c 3) (c 4) (c 5) (c 6) ((ovN (d 8) (planF cd) 12)) j) 12))) 59 (sumI (fun j => if brk (c 2) (c 3) (c 4) (c 5) (c 6) ((ovN (d 8) (planF cd) 12)) j = 0 then sts (c 2) (c 7) ((ovN (d 8) (planF cd) 12)) j else 0) 12)) x n c b cd ln) := hD
        refine W.eq (g2 := F0 m 48 ls []) rfl ?_
        rw [hQ]; exact W.vret (pc := 48) hx hb hr (fun t9 ht _ => ⟨⟨rfl, by rw [ht]; exact hP⟩, hS.F ht⟩) hS.2.2 dX1_read_48 hlocks
      · skip
        have c_2n : ¬ 12 ≤ j := fun hh => c_2 ((nI_leI (a := 12) (b := j) (by omega) (by omega)).mpr hh)
        refine lv_aload_n (pc := 8) hx hb dX1_read_8 rfl (lv_at hl 0 rfl) ?_
        refine fget (pc := 9) (v := .ref (pa 1)) hx hb hts hown hE hP fl_X1_9 0 rfl rfl dX1_read_9 ?_
        refine lv_iload_n (pc := 12) hx hb dX1_read_12 rfl (lv_at hl 2 rfl) ?_
        refine lv_aload_n (pc := 13) hx hb dX1_read_13 rfl (lv_at hl 1 rfl) ?_
        refine fget (pc := 14) (v := .ref (b 32)) hx hb hts hown hE hP fl_X1_47 14 rfl rfl dX1_read_14 ?_
        refine lv_iload_n (pc := 17) hx hb dX1_read_17 rfl (lv_at hl 2 rfl) ?_
        refine aldN (pc := 18) (f := cd) hx hb hE hP 15 rfl (j) (by omega) (by omega) dX1_read_18 ?_
        refine lv_bipush (pc := 19) (v := 46) hx hb dX1_read_19 (by decide) ?_
        refine lv_icmp_ne (pc := 21) (tgt := 28) hx hb dX1_read_21 (by decide) (fun c_3 => ?_) (fun c_3 => ?_)
        · skip
          refine lv_aload_n (pc := 28) hx hb dX1_read_28 rfl (lv_at hl 1 rfl) ?_
          refine fget (pc := 29) (v := .ref (b 32)) hx hb hts hown hE hP fl_X1_47 14 rfl rfl dX1_read_29 ?_
          refine lv_iload_n (pc := 32) hx hb dX1_read_32 rfl (lv_at hl 2 rfl) ?_
          refine aldN (pc := 33) (f := cd) hx hb hE hP 15 rfl (j) (by omega) (by omega) dX1_read_33 ?_
          refine lv_bipush (pc := 34) (v := 48) hx hb dX1_read_34 (by decide) ?_
          refine lv_isub (pc := 36) hx hb dX1_read_36 ?_
          refine astN (pc := 37) (f := ovN (d 8) (planF cd) j) hx hb hE hP hD hS 1 rfl (j) (by omega) (by omega) dX1_read_37 (fun H locs hP hD hS => ?_)
          have hP : va_P D vwCl (wPx kI kT pa (va_up d 8 (upd (ovN (d 8) (planF cd) j) j ((cd j) - 48))) u x n c b cd ln) H := hP
          have hD : va_D A (wPx kI kT pa (va_up d 8 (upd (ovN (d 8) (planF cd) j) j ((cd j) - 48))) u x n c b cd ln) := hD
          refine lv_iinc (pc := 38) (v := nI (j + 1)) (lv' := [(2, .int (nI (j + 1))), (0, .ref (pa 0)), (1, .ref (b 31))]) hx hb dX1_read_38 hl (k := 2) rfl (nI_add (j) 1) (by decide) rfl (fun ls hl => ?_)
          refine lv_goto (pc := 41) (tgt := 2) hx hb dX1_read_41 (by decide) ?_
          exact ih_lp_1 (j + 1) (by omega) (by omega) _ _ (by rw [← ovN_sv _ _ _ (show cd j - 48 = planF cd j by rw [planF, if_neg c_3])]; exact hP) (by rw [← ovN_sv _ _ _ (show cd j - 48 = planF cd j by rw [planF, if_neg c_3])]; exact hD) hS ls (lv_sub hl [1, 2, 0] rfl)
        · skip
          refine lv_iconst (pc := 24) (v := (-1)) hx hb dX1_read_24 (by decide) ?_
          refine lv_goto (pc := 25) (tgt := 37) hx hb dX1_read_25 (by decide) ?_
          refine astN (pc := 37) (f := ovN (d 8) (planF cd) j) hx hb hE hP hD hS 1 rfl (j) (by omega) (by omega) dX1_read_37 (fun H locs hP hD hS => ?_)
          have hP : va_P D vwCl (wPx kI kT pa (va_up d 8 (upd (ovN (d 8) (planF cd) j) j (-1))) u x n c b cd ln) H := hP
          have hD : va_D A (wPx kI kT pa (va_up d 8 (upd (ovN (d 8) (planF cd) j) j (-1))) u x n c b cd ln) := hD
          refine lv_iinc (pc := 38) (v := nI (j + 1)) (lv' := [(2, .int (nI (j + 1))), (0, .ref (pa 0)), (1, .ref (b 31))]) hx hb dX1_read_38 hl (k := 2) rfl (nI_add (j) 1) (by decide) rfl (fun ls hl => ?_)
          refine lv_goto (pc := 41) (tgt := 2) hx hb dX1_read_41 (by decide) ?_
          exact ih_lp_1 (j + 1) (by omega) (by omega) _ _ (by rw [← ovN_sv _ _ _ (show -1 = planF cd j by rw [planF, if_pos c_3])]; exact hP) (by rw [← ovN_sv _ _ _ (show -1 = planF cd j by rw [planF, if_pos c_3])]; exact hD) hS ls (lv_sub hl [1, 2, 0] rfl)
  exact lp_1 _ 0 (Nat.lt_succ_self _) (by omega) _ _ (by rw [ovN_0, va_up_same]; exact hP) (by rw [ovN_0, va_up_same]; exact hD) hS ls (lv_sub hl [1, 2, 0] rfl)
set_option maxRecDepth 100000 in
set_option maxHeartbeats 4000000 in
theorem k_X1_take {pa : Nat → Nat} {d : Nat → Nat → Int32} {u : Nat → Int32} {x : Nat → Nat} {n : Int32} {c : Nat → Nat → Int32} {oa : Nat} {of : Nat → Int32} {nn : Nat} (hn : n = nI nn) (hn5 : nn ≤ 5) (hok : okP nn (ovN (d 8) of 12)) (hC : ∀ k, k < nn → ∃ k4, k4 < 5 ∧ (c 4) k = nI k4) : MW l yX1_take cX1_take 2 none 4 92 D kB kI kT ks sk sv [.ref (pa 0), .ref oa] (wPo kI kT pa d u x n c oa of) none (wPo kI kT pa (va_up (va_up (va_up (va_up (va_up (va_up d 8 (ovN (d 8) of 12)) 50 (ovN (d 50) (brk (c 2) (c 3) (c 4) (c 5) (c 6) (ovN (d 8) of 12)) 12)) 51 (ovN (d 51) (sts (c 2) (c 7) (ovN (d 8) of 12)) 12)) 52 (ovN (d 52) (fun t => nI (nOf (ovN (d 8) of 12) (nI t) 12)) 5)) 53 (ovN (d 53) (fun t => sumI (fun j => if (ovN (d 8) of 12) j = nI t ∧ brk (c 2) (c 3) (c 4) (c 5) (c 6) (ovN (d 8) of 12) j = 0 then sts (c 2) (c 7) (ovN (d 8) of 12) j else 0) 12) 5)) 54 (lstC (c 4) (ovN (d 8) of 12) (ovN (d 54) (fun _ => -1) 5) 12)) (va_up (va_up (va_up u 57 (nI (cntP (fun j => 0 < brk (c 2) (c 3) (c 4) (c 5) (c 6) (ovN (d 8) of 12) j) 12))) 58 (nI (cntP (fun j => (ovN (d 8) of 12) j = -1 ∨ 0 < brk (c 2) (c 3) (c 4) (c 5) (c 6) (ovN (d 8) of 12) j) 12))) 59 (sumI (fun j => if brk (c 2) (c 3) (c 4) (c 5) (c 6) (ovN (d 8) of 12) j = 0 then sts (c 2) (c 7) (ovN (d 8) of 12) j else 0) 12)) x n c oa of) := by
  refine MW.go (by decide +kernel) (Nat.le_of_ble_eq_true rfl) ?_
  intro p e s m below meth c0 args Q ls A hQ hx hb hr hml hown hts hlocks hE hP hD hS hl
  have hl : lv_has ls 2 [(0, .ref (pa 0)), (1, .ref oa)] := hl
  have hown : s.vm.findClass RX1 = some m.cls := hown
  refine lv_aload_n (pc := 0) hx hb dX1_take_0 rfl (lv_at hl 1 rfl) ?_
  refine lv_iconst (pc := 1) (v := 0) hx hb dX1_take_1 (by decide) ?_
  refine lv_aload_n (pc := 2) hx hb dX1_take_2 rfl (lv_at hl 0 rfl) ?_
  refine fget (pc := 3) (v := .ref (pa 1)) hx hb hts hown hE hP fl_X1_9 0 rfl rfl dX1_take_3 ?_
  refine lv_iconst (pc := 6) (v := 0) hx hb dX1_take_6 (by decide) ?_
  refine lv_bipush (pc := 7) (v := 12) hx hb dX1_take_7 (by decide) ?_
  refine acp (pc := 9) (rest := []) (f := of) (g := d 8) (N := 12) hx hb hml hown acw_X1_52 hE hP hD hS 14 1 rfl rfl hl.1 ⟨by omega, by omega⟩ (by omega) (Nat.le_of_ble_eq_true rfl) (Nat.le_of_ble_eq_true rfl) hts dX1_take_9 (fun H locs hP hD hS => ?_)
  have hP : va_P D vwCl (wPo kI kT pa (va_up d 8 (ovN (d 8) of 12)) u x n c oa of) H := hP
  have hD : va_D A (wPo kI kT pa (va_up d 8 (ovN (d 8) of 12)) u x n c oa of) := hD
  refine W.eq (g2 := F0 m 12 ls []) rfl ?_
  refine lv_aload_n (pc := 12) hx hb dX1_take_12 rfl (lv_at hl 0 rfl) ?_
  refine wV (pc := 13) (rest := []) ⟨hx, hb, hml, hown, hts⟩ (k_X1_weigh (pa := pa) (d := (va_up d 8 (ovN (d 8) of 12))) (u := u) (x := x) (n := n) (c := c) (nn := nn) (hn := hn) (hn5 := hn5) (hok := hok) (hC := hC)) cw_X1_44 ⟨(Nat.le_of_ble_eq_true rfl), (Nat.le_of_ble_eq_true rfl)⟩ hE hP hD hS [0, 1, 2, 3, 4, 5, 6, 7, 8, 9, 10, 11, 12, 13] (by decide) rfl rfl rfl rfl rfl rfl hl.1 rfl (Nat.le_of_ble_eq_true rfl) dX1_take_13 ⟨Nat.le_refl _, Nat.le_refl _⟩ (fun H locs hP hD hS => ?_)
  have hP : va_P D vwCl (wPo kI kT pa (va_up (va_up (va_up (va_up (va_up (va_up d 8 (ovN (d 8) of 12)) 50 (ovN (d 50) (brk (c 2) (c 3) (c 4) (c 5) (c 6) ((ovN (d 8) of 12))) 12)) 51 (ovN (d 51) (sts (c 2) (c 7) ((ovN (d 8) of 12))) 12)) 52 (ovN (d 52) (fun t => nI (nOf ((ovN (d 8) of 12)) (nI t) 12)) 5)) 53 (ovN (d 53) (fun t => sumI (fun j => if ((ovN (d 8) of 12)) j = nI t ∧ brk (c 2) (c 3) (c 4) (c 5) (c 6) ((ovN (d 8) of 12)) j = 0 then sts (c 2) (c 7) ((ovN (d 8) of 12)) j else 0) 12) 5)) 54 (lstC (c 4) ((ovN (d 8) of 12)) (ovN (d 54) (fun _ => -1) 5) 12)) (va_up (va_up (va_up u 57 (nI (cntP (fun j => 0 < brk (c 2) (c 3) (c 4) (c 5) (c 6) ((ovN (d 8) of 12)) j) 12))) 58 (nI (cntP (fun j => ((ovN (d 8) of 12)) j = -1 ∨ 0 < brk (c 2) (c 3) (c 4) (c 5) (c 6) ((ovN (d 8) of 12)) j) 12))) 59 (sumI (fun j => if brk (c 2) (c 3) (c 4) (c 5) (c 6) ((ovN (d 8) of 12)) j = 0 then sts (c 2) (c 7) ((ovN (d 8) of 12)) j else 0) 12)) x n c oa of) H := hP
  have hD : va_D A (wPo kI kT pa (va_up (va_up (va_up (va_up (va_up (va_up d 8 (ovN (d 8) of 12)) 50 (ovN (d 50) (brk (c 2) (c 3) (c 4) (c 5) (c 6) ((ovN (d 8) of 12))) 12)) 51 (ovN (d 51) (sts (c 2) (c 7) ((ovN (d 8) of 12))) 12)) 52 (ovN (d 52) (fun t => nI (nOf ((ovN (d 8) of 12)) (nI t) 12)) 5)) 53 (ovN (d 53) (fun t => sumI (fun j => if ((ovN (d 8) of 12)) j = nI t ∧ brk (c 2) (c 3) (c 4) (c 5) (c 6) ((ovN (d 8) of 12)) j = 0 then sts (c 2) (c 7) ((ovN (d 8) of 12)) j else 0) 12) 5)) 54 (lstC (c 4) ((ovN (d 8) of 12)) (ovN (d 54) (fun _ => -1) 5) 12)) (va_up (va_up (va_up u 57 (nI (cntP (fun j => 0 < brk (c 2) (c 3) (c 4) (c 5) (c 6) ((ovN (d 8) of 12)) j) 12))) 58 (nI (cntP (fun j => ((ovN (d 8) of 12)) j = -1 ∨ 0 < brk (c 2) (c 3) (c 4) (c 5) (c 6) ((ovN (d 8) of 12)) j) 12))) 59 (sumI (fun j => if brk (c 2) (c 3) (c 4) (c 5) (c 6) ((ovN (d 8) of 12)) j = 0 then sts (c 2) (c 7) ((ovN (d 8) of 12)) j else 0) 12)) x n c oa of) := hD
  refine W.eq (g2 := F0 m 16 ls []) rfl ?_
  rw [hQ]; exact W.vret (pc := 16) hx hb hr (fun t9 ht _ => ⟨⟨rfl, by rw [ht]; exact hP⟩, hS.F ht⟩) hS.2.2 dX1_take_16 hlocks
set_option maxRecDepth 100000 in
set_option maxHeartbeats 4000000 in
theorem k_X1_shift {pa : Nat → Nat} {d : Nat → Nat → Int32} {u : Nat → Int32} {x : Nat → Nat} {n : Int32} {c : Nat → Nat → Int32} (b9 : Int32) {nn : Nat} (hn : n = nI nn) (hn5 : nn ≤ 5) (hb9 : inR b9 1 11) (hok : okP nn (shN (d 8) b9 0)) (hC : ∀ k, k < nn → ∃ k4, k4 < 5 ∧ (c 4) k = nI k4) : MW l yX1_shift cX1_shift 4 none 4 92 D kB kI kT ks sk sv [.ref (pa 0), .int b9] (wPl kI kT pa d u x n c) none (wPl kI kT pa (va_up (va_up (va_up (va_up (va_up (va_up d 8 (shN (d 8) b9 0)) 50 (ovN (d 50) (brk (c 2) (c 3) (c 4) (c 5) (c 6) (shN (d 8) b9 0)) 12)) 51 (ovN (d 51) (sts (c 2) (c 7) (shN (d 8) b9 0)) 12)) 52 (ovN (d 52) (fun t => nI (nOf (shN (d 8) b9 0) (nI t) 12)) 5)) 53 (ovN (d 53) (fun t => sumI (fun j => if (shN (d 8) b9 0) j = nI t ∧ brk (c 2) (c 3) (c 4) (c 5) (c 6) (shN (d 8) b9 0) j = 0 then sts (c 2) (c 7) (shN (d 8) b9 0) j else 0) 12) 5)) 54 (lstC (c 4) (shN (d 8) b9 0) (ovN (d 54) (fun _ => -1) 5) 12)) (va_up (va_up (va_up u 57 (nI (cntP (fun j => 0 < brk (c 2) (c 3) (c 4) (c 5) (c 6) (shN (d 8) b9 0) j) 12))) 58 (nI (cntP (fun j => (shN (d 8) b9 0) j = -1 ∨ 0 < brk (c 2) (c 3) (c 4) (c 5) (c 6) (shN (d 8) b9 0) j) 12))) 59 (sumI (fun j => if brk (c 2) (c 3) (c 4) (c 5) (c 6) (shN (d 8) b9 0) j = 0 then sts (c 2) (c 7) (shN (d 8) b9 0) j else 0) 12)) x n c) := by
  refine MW.go (by decide +kernel) (Nat.le_of_ble_eq_true rfl) ?_
  intro p e s m below meth c0 args Q ls A hQ hx hb hr hml hown hts hlocks hE hP hD hS hl
  have hl : lv_has ls 4 [(0, .ref (pa 0)), (1, .int b9)] := hl
  have hown : s.vm.findClass RX1 = some m.cls := hown
  refine lv_bipush (pc := 0) (v := 11) hx hb dX1_shift_0 (by decide) ?_
  refine lv_istore_n (pc := 2) (lv' := [(2, .int 11), (0, .ref (pa 0)), (1, .int b9)]) hx hb dX1_shift_2 rfl hl (by decide) rfl (fun ls hl => ?_)
  have lp_1 : ∀ (fuel : Nat) (m9 : Nat), m9 < fuel → (m9 ≤ 12) → ∀ (H : Heap) (locs : List Loc), va_P D vwCl (wPl kI kT pa (va_up d 8 (shN (d 8) b9 m9)) u x n c) H → va_D A (wPl kI kT pa (va_up d 8 (shN (d 8) b9 m9)) u x n c) → va_S A s.heap H locs → ∀ (ls : Array Slot), lv_has ls 4 [(0, .ref (pa 0)), (1, .int b9), (2, .int (nI m9 - 1))] → W p l e (rmO 4 92) s m args below meth c0 H locs 0 0 Q (F0 m 3 ls []) := by
    intro fuel
    induction fuel with
    | zero => intro m9 hfuel; exact absurd hfuel (Nat.not_lt_zero _)
    | succ fuel ih_lp_1 =>
      intro m9 hfuel hm H locs hP hD hS ls hl
      refine lv_iload_n (pc := 3) hx hb dX1_shift_3 rfl (lv_at hl 2 rfl) ?_
      refine lv_if_lt (pc := 4) (tgt := 40) hx hb dX1_shift_4 (by decide) (fun c_2 => ?_) (fun c_2 => ?_)
      · skip
        have hm0 : m9 = 0 := (pm_lt (by omega)).mp c_2
        rw [hm0] at hP hD
        refine lv_aload_n (pc := 40) hx hb dX1_shift_40 rfl (lv_at hl 0 rfl) ?_
        refine wVa (pc := 41) (rest := []) ⟨hx, hb, hml, hown, hts⟩ (k_X1_weigh (pa := pa) (d := (va_up d 8 (shN (d 8) b9 0))) (u := u) (x := x) (n := n) (c := c) (nn := nn) (hn := hn) (hn5 := hn5) (hok := hok) (hC := hC)) cw_X1_44 ⟨(Nat.le_of_ble_eq_true rfl), (Nat.le_of_ble_eq_true rfl)⟩ hE hP hD hS rfl rfl rfl rfl rfl hl.1 rfl (Nat.le_of_ble_eq_true rfl) dX1_shift_41 ⟨Nat.le_refl _, Nat.le_refl _⟩ (fun H locs hP hD hS => ?_)
        have hP : va_P D vwCl (wPl kI kT pa (va_up (va_up (va_up (va_up (va_up (va_up d 8 (shN (d 8) b9 0)) 50 (ovN (d 50) (brk (c 2) (c 3) (c 4) (c 5) (c 6) ((shN (d 8) b9 0))) 12)) 51 (ovN (d 51) (sts (c 2) (c 7) ((shN (d 8) b9 0))) 12)) 52 (ovN (d 52) (fun t => nI (nOf ((shN (d 8) b9 0)) (nI t) 12)) 5)) 53 (ovN (d 53) (fun t => sumI (fun j => if ((shN (d 8) b9 0)) j = nI t ∧ brk (c 2) (c 3) (c 4) (c 5) (c 6) ((shN (d 8) b9 0)) j = 0 then sts (c 2) (c 7) ((shN (d 8) b9 0)) j else 0) 12) 5)) 54 (lstC (c 4) ((shN (d 8) b9 0)) (ovN (d 54) (fun _ => -1) 5) 12)) (va_up (va_up (va_up u 57 (nI (cntP (fun j => 0 < brk (c 2) (c 3) (c 4) (c 5) (c 6) ((shN (d 8) b9 0)) j) 12))) 58 (nI (cntP (fun j => ((shN (d 8) b9 0)) j = -1 ∨ 0 < brk (c 2) (c 3) (c 4) (c 5) (c 6) ((shN (d 8) b9 0)) j) 12))) 59 (sumI (fun j => if brk (c 2) (c 3) (c 4) (c 5) (c 6) ((shN (d 8) b9 0)) j = 0 then sts (c 2) (c 7) ((shN (d 8) b9 0)) j else 0) 12)) x n c) H := hP
        have hD : va_D A (wPl kI kT pa (va_up (va_up (va_up (va_up (va_up (va_up d 8 (shN (d 8) b9 0)) 50 (ovN (d 50) (brk (c 2) (c 3) (c 4) (c 5) (c 6) ((shN (d 8) b9 0))) 12)) 51 (ovN (d 51) (sts (c 2) (c 7) ((shN (d 8) b9 0))) 12)) 52 (ovN (d 52) (fun t => nI (nOf ((shN (d 8) b9 0)) (nI t) 12)) 5)) 53 (ovN (d 53) (fun t => sumI (fun j => if ((shN (d 8) b9 0)) j = nI t ∧ brk (c 2) (c 3) (c 4) (c 5) (c 6) ((shN (d 8) b9 0)) j = 0 then sts (c 2) (c 7) ((shN (d 8) b9 0)) j else 0) 12) 5)) 54 (lstC (c 4) ((shN (d 8) b9 0)) (ovN (d 54) (fun _ => -1) 5) 12)) (va_up (va_up (va_up u 57 (nI (cntP (fun j => 0 < brk (c 2) (c 3) (c 4) (c 5) (c 6) ((shN (d 8) b9 0)) j) 12))) 58 (nI (cntP (fun j => ((shN (d 8) b9 0)) j = -1 ∨ 0 < brk (c 2) (c 3) (c 4) (c 5) (c 6) ((shN (d 8) b9 0)) j) 12))) 59 (sumI (fun j => if brk (c 2) (c 3) (c 4) (c 5) (c 6) ((shN (d 8) b9 0)) j = 0 then sts (c 2) (c 7) ((shN (d 8) b9 0)) j else 0) 12)) x n c) := hD
        refine W.eq (g2 := F0 m 44 ls []) rfl ?_
        rw [hQ]; exact W.vret (pc := 44) hx hb hr (fun t9 ht _ => ⟨⟨rfl, by rw [ht]; exact hP⟩, hS.F ht⟩) hS.2.2 dX1_shift_44 hlocks
      · skip
        have hm1 : 0 < m9 := Nat.pos_of_ne_zero (fun q => c_2 ((pm_lt (by omega)).mpr q))
        have hpm : nI m9 - 1 = nI (m9 - 1) := pm_eq hm1
        refine lv_iload_n (pc := 7) hx hb dX1_shift_7 rfl (lv_at hl 2 rfl) ?_
        refine vEq (v := nI (m9 - 1)) hpm ?_
        refine lv_iload_n (pc := 8) hx hb dX1_shift_8 rfl (lv_at hl 1 rfl) ?_
        refine lv_isub (pc := 9) hx hb dX1_shift_9 ?_
        refine lv_istore_n (pc := 10) (lv' := [(3, .int ((nI (m9 - 1)) - b9)), (0, .ref (pa 0)), (1, .int b9), (2, .int (nI m9 - 1))]) hx hb dX1_shift_10 rfl hl (by decide) rfl (fun ls hl => ?_)
        refine lv_aload_n (pc := 11) hx hb dX1_shift_11 rfl (lv_at hl 1 rfl) ?_
        refine fget (pc := 12) (v := .ref (pa 1)) hx hb hts hown hE hP fl_X1_9 0 rfl rfl dX1_shift_12 ?_
        refine lv_iload_n (pc := 15) hx hb dX1_shift_15 rfl (lv_at hl 3 rfl) ?_
        refine vEq (v := nI (m9 - 1)) hpm ?_
        refine lv_iload_n (pc := 16) hx hb dX1_shift_16 rfl (lv_at hl 0 rfl) ?_
        refine rSN (pc := 17) (rest := [.int (nI (m9 - 1)), .ref (pa 1)]) ⟨hx, hb, hml, hown, hts⟩ (k_X7_isNight (x9 := (nI (m9 - 1)) - b9)) cw_X1_58 ⟨(Nat.le_of_ble_eq_true rfl), (Nat.le_of_ble_eq_true rfl)⟩ hE hS wc0 rfl hl.1 rfl (Nat.le_of_ble_eq_true rfl) dX1_shift_17 ⟨Nat.le_refl _, Nat.le_refl _⟩ ?_
        refine W.eq (g2 := F0 m 20 ls [.int (bi (inR ((nI (m9 - 1)) - b9) 0 11)), .int (nI (m9 - 1)), .ref (pa 1)]) rfl ?_
        refine bif_eq (pc := 20) (tgt := 32) hx hb dX1_shift_20 (by decide) (fun c_3 => ?_) (fun c_3 => ?_)
        · skip
          refine lv_iconst (pc := 32) (v := (-1)) hx hb dX1_shift_32 (by decide) ?_
          refine astN (pc := 33) (f := shN (d 8) b9 m9) hx hb hE hP hD hS 1 rfl (m9 - 1) (by omega) (by omega) dX1_shift_33 (fun H locs hP hD hS => ?_)
          have hP : va_P D vwCl (wPl kI kT pa (va_up d 8 (upd (shN (d 8) b9 m9) (m9 - 1) (-1))) u x n c) H := hP
          have hD : va_D A (wPl kI kT pa (va_up d 8 (upd (shN (d 8) b9 m9) (m9 - 1) (-1))) u x n c) := hD
          refine lv_iinc (pc := 34) (v := nI (m9 - 1) - 1) (lv' := [(2, .int (nI (m9 - 1) - 1)), (3, .int ((nI (m9 - 1)) - b9)), (0, .ref (pa 0)), (1, .int b9)]) hx hb dX1_shift_34 hl (k := 3) rfl (by rw [hpm]; exact dec1 _) (by decide) rfl (fun ls hl => ?_)
          refine lv_goto (pc := 37) (tgt := 3) hx hb dX1_shift_37 (by decide) ?_
          exact ih_lp_1 (m9 - 1) (by omega) (by omega) _ _ (by rw [← sh_step hb9 hm1 hm, rOn, if_neg c_3]; exact hP) (by rw [← sh_step hb9 hm1 hm, rOn, if_neg c_3]; exact hD) hS ls (lv_sub hl [2, 3, 0] rfl)
        · skip
          refine lv_aload_n (pc := 23) hx hb dX1_shift_23 rfl (lv_at hl 1 rfl) ?_
          refine fget (pc := 24) (v := .ref (pa 1)) hx hb hts hown hE hP fl_X1_9 0 rfl rfl dX1_shift_24 ?_
          refine lv_iload_n (pc := 27) hx hb dX1_shift_27 rfl (lv_at hl 0 rfl) ?_
          refine aldX (pc := 28) (f := shN (d 8) b9 m9) hx hb hE hP 1 rfl (by obtain ⟨i9, h1, h2⟩ := inR_nat c_3; rw [h2]; exact vp_in_nI h1 (by omega)) dX1_shift_28 ?_
          refine lv_goto (pc := 29) (tgt := 33) hx hb dX1_shift_29 (by decide) ?_
          refine astN (pc := 33) (f := shN (d 8) b9 m9) hx hb hE hP hD hS 1 rfl (m9 - 1) (by omega) (by omega) dX1_shift_33 (fun H locs hP hD hS => ?_)
          have hP : va_P D vwCl (wPl kI kT pa (va_up d 8 (upd (shN (d 8) b9 m9) (m9 - 1) ((shN (d 8) b9 m9) (ix ((nI (m9 - 1)) - b9))))) u x n c) H := hP
          have hD : va_D A (wPl kI kT pa (va_up d 8 (upd (shN (d 8) b9 m9) (m9 - 1) ((shN (d 8) b9 m9) (ix ((nI (m9 - 1)) - b9))))) u x n c) := hD
          refine lv_iinc (pc := 34) (v := nI (m9 - 1) - 1) (lv' := [(2, .int (nI (m9 - 1) - 1)), (3, .int ((nI (m9 - 1)) - b9)), (0, .ref (pa 0)), (1, .int b9)]) hx hb dX1_shift_34 hl (k := 3) rfl (by rw [hpm]; exact dec1 _) (by decide) rfl (fun ls hl => ?_)
          refine lv_goto (pc := 37) (tgt := 3) hx hb dX1_shift_37 (by decide) ?_
          exact ih_lp_1 (m9 - 1) (by omega) (by omega) _ _ (by rw [← sh_step hb9 hm1 hm, rOn, if_pos c_3]; exact hP) (by rw [← sh_step hb9 hm1 hm, rOn, if_pos c_3]; exact hD) hS ls (lv_sub hl [2, 3, 0] rfl)
  exact lp_1 _ 12 (Nat.lt_succ_self _) (by omega) _ _ (by rw [sh_0, va_up_same]; exact hP) (by rw [sh_0, va_up_same]; exact hD) hS ls (by rw [show (nI 12 - 1 : Int32) = 11 from (by decide)]; exact lv_sub hl [1, 2, 0] rfl)
set_option maxRecDepth 100000 in
set_option maxHeartbeats 4000000 in
theorem k_X1_drawAll {pa : Nat → Nat} {d : Nat → Nat → Int32} {u : Nat → Int32} {x : Nat → Nat} {n : Int32} {c : Nat → Nat → Int32} (sd : Nat) {nn : Nat} (hn : n = nI nn) (hn5 : nn ≤ 5) (hsd : sd < 2147483648) (hC : ∀ k, k < nn → ∃ k4, k4 < 5 ∧ (c 4) k = nI k4) : MW l yX1_drawAll cX1_drawAll 5 (some .int) 4 92 D kB kI kT ks sk sv [.ref (pa 0), .int (nI sd)] (wPl kI kT pa d u x n c) (some (.int (nI (itN 12 sd)))) (wPl kI kT pa (va_up (va_up (va_up (va_up (va_up (va_up d 8 (ovN (d 8) (dpl nn sd) 12)) 50 (ovN (d 50) (brk (c 2) (c 3) (c 4) (c 5) (c 6) (ovN (d 8) (dpl nn sd) 12)) 12)) 51 (ovN (d 51) (sts (c 2) (c 7) (ovN (d 8) (dpl nn sd) 12)) 12)) 52 (ovN (d 52) (fun t => nI (nOf (ovN (d 8) (dpl nn sd) 12) (nI t) 12)) 5)) 53 (ovN (d 53) (fun t => sumI (fun j => if (ovN (d 8) (dpl nn sd) 12) j = nI t ∧ brk (c 2) (c 3) (c 4) (c 5) (c 6) (ovN (d 8) (dpl nn sd) 12) j = 0 then sts (c 2) (c 7) (ovN (d 8) (dpl nn sd) 12) j else 0) 12) 5)) 54 (lstC (c 4) (ovN (d 8) (dpl nn sd) 12) (ovN (d 54) (fun _ => -1) 5) 12)) (va_up (va_up (va_up u 57 (nI (cntP (fun j => 0 < brk (c 2) (c 3) (c 4) (c 5) (c 6) (ovN (d 8) (dpl nn sd) 12) j) 12))) 58 (nI (cntP (fun j => (ovN (d 8) (dpl nn sd) 12) j = -1 ∨ 0 < brk (c 2) (c 3) (c 4) (c 5) (c 6) (ovN (d 8) (dpl nn sd) 12) j) 12))) 59 (sumI (fun j => if brk (c 2) (c 3) (c 4) (c 5) (c 6) (ovN (d 8) (dpl nn sd) 12) j = 0 then sts (c 2) (c 7) (ovN (d 8) (dpl nn sd) 12) j else 0) 12)) x n c) := by
  refine MW.go (by decide +kernel) (Nat.le_of_ble_eq_true rfl) ?_
  intro p e s m below meth c0 args Q ls A hQ hx hb hr hml hown hts hlocks hE hP hD hS hl
  have hl : lv_has ls 5 [(0, .ref (pa 0)), (1, .int (nI sd))] := hl
  have hown : s.vm.findClass RX1 = some m.cls := hown
  refine lv_iload_n (pc := 0) hx hb dX1_drawAll_0 rfl (lv_at hl 1 rfl) ?_
  refine lv_i2l (pc := 1) (v := lN sd) hx hb dX1_drawAll_1 (nI_l (by omega)) ?_
  refine lv_lstore_n (pc := 2) (lv' := [(2, .long (lN sd)), (0, .ref (pa 0)), (1, .int (nI sd))]) hx hb dX1_drawAll_2 rfl hl (by decide) rfl (fun ls hl => ?_)
  refine lv_iconst (pc := 3) (v := 0) hx hb dX1_drawAll_3 (by decide) ?_
  refine lv_istore (pc := 4) (lv' := [(4, .int 0), (2, .long (lN sd)), (0, .ref (pa 0)), (1, .int (nI sd))]) hx hb dX1_drawAll_4 hl (by decide) rfl (fun ls hl => ?_)
  have lp_1 : ∀ (fuel : Nat) (i : Nat), 12 - i < fuel → (i ≤ 12) → ∀ (H : Heap) (locs : List Loc), va_P D vwCl (wPl kI kT pa (va_up d 8 (ovN (d 8) (dpl nn sd) i)) u x n c) H → va_D A (wPl kI kT pa (va_up d 8 (ovN (d 8) (dpl nn sd) i)) u x n c) → va_S A s.heap H locs → ∀ (ls : Array Slot), lv_has ls 5 [(0, .ref (pa 0)), (1, .int (nI sd)), (2, .long (lN (itN i sd))), (4, .int (nI i))] → W p l e (rmO 4 92) s m args below meth c0 H locs 0 0 Q (F0 m 6 ls []) := by
    intro fuel
    induction fuel with
    | zero => intro i hfuel; exact absurd hfuel (Nat.not_lt_zero _)
    | succ fuel ih_lp_1 =>
      intro i hfuel hi H locs hP hD hS ls hl
      refine lv_iload (pc := 6) hx hb dX1_drawAll_6 (lv_at hl 3 rfl) ?_
      refine lv_bipush (pc := 8) (v := 12) hx hb dX1_drawAll_8 (by decide) ?_
      refine lv_icmp_ge (pc := 10) (tgt := 59) hx hb dX1_drawAll_10 (by decide) (fun c_2 => ?_) (fun c_2 => ?_)
      · skip
        have c_2n : 12 ≤ i := (nI_leI (a := 12) (b := i) (by omega) (by omega)).mp c_2
        have hi12 : i = 12 := by omega
        rw [hi12] at hP hD
        have hl : lv_has ls 5 [(0, .ref (pa 0)), (1, .int (nI sd)), (2, .long (lN (itN 12 sd))), (4, .int (nI 12))] := by rw [hi12] at hl; exact hl
        refine lv_aload_n (pc := 59) hx hb dX1_drawAll_59 rfl (lv_at hl 0 rfl) ?_
        refine wVa (pc := 60) (rest := []) ⟨hx, hb, hml, hown, hts⟩ (k_X1_weigh (pa := pa) (d := (va_up d 8 (ovN (d 8) (dpl nn sd) 12))) (u := u) (x := x) (n := n) (c := c) (nn := nn) (hn := hn) (hn5 := hn5) (hok := okP_dpl) (hC := hC)) cw_X1_44 ⟨(Nat.le_of_ble_eq_true rfl), (Nat.le_of_ble_eq_true rfl)⟩ hE hP hD hS rfl rfl rfl rfl rfl hl.1 rfl (Nat.le_of_ble_eq_true rfl) dX1_drawAll_60 ⟨Nat.le_refl _, Nat.le_refl _⟩ (fun H locs hP hD hS => ?_)
        have hP : va_P D vwCl (wPl kI kT pa (va_up (va_up (va_up (va_up (va_up (va_up d 8 (ovN (d 8) (dpl nn sd) 12)) 50 (ovN (d 50) (brk (c 2) (c 3) (c 4) (c 5) (c 6) ((ovN (d 8) (dpl nn sd) 12))) 12)) 51 (ovN (d 51) (sts (c 2) (c 7) ((ovN (d 8) (dpl nn sd) 12))) 12)) 52 (ovN (d 52) (fun t => nI (nOf ((ovN (d 8) (dpl nn sd) 12)) (nI t) 12)) 5)) 53 (ovN (d 53) (fun t => sumI (fun j => if ((ovN (d 8) (dpl nn sd) 12)) j = nI t ∧ brk (c 2) (c 3) (c 4) (c 5) (c 6) ((ovN (d 8) (dpl nn sd) 12)) j = 0 then sts (c 2) (c 7) ((ovN (d 8) (dpl nn sd) 12)) j else 0) 12) 5)) 54 (lstC (c 4) ((ovN (d 8) (dpl nn sd) 12)) (ovN (d 54) (fun _ => -1) 5) 12)) (va_up (va_up (va_up u 57 (nI (cntP (fun j => 0 < brk (c 2) (c 3) (c 4) (c 5) (c 6) ((ovN (d 8) (dpl nn sd) 12)) j) 12))) 58 (nI (cntP (fun j => ((ovN (d 8) (dpl nn sd) 12)) j = -1 ∨ 0 < brk (c 2) (c 3) (c 4) (c 5) (c 6) ((ovN (d 8) (dpl nn sd) 12)) j) 12))) 59 (sumI (fun j => if brk (c 2) (c 3) (c 4) (c 5) (c 6) ((ovN (d 8) (dpl nn sd) 12)) j = 0 then sts (c 2) (c 7) ((ovN (d 8) (dpl nn sd) 12)) j else 0) 12)) x n c) H := hP
        have hD : va_D A (wPl kI kT pa (va_up (va_up (va_up (va_up (va_up (va_up d 8 (ovN (d 8) (dpl nn sd) 12)) 50 (ovN (d 50) (brk (c 2) (c 3) (c 4) (c 5) (c 6) ((ovN (d 8) (dpl nn sd) 12))) 12)) 51 (ovN (d 51) (sts (c 2) (c 7) ((ovN (d 8) (dpl nn sd) 12))) 12)) 52 (ovN (d 52) (fun t => nI (nOf ((ovN (d 8) (dpl nn sd) 12)) (nI t) 12)) 5)) 53 (ovN (d 53) (fun t => sumI (fun j => if ((ovN (d 8) (dpl nn sd) 12)) j = nI t ∧ brk (c 2) (c 3) (c 4) (c 5) (c 6) ((ovN (d 8) (dpl nn sd) 12)) j = 0 then sts (c 2) (c 7) ((ovN (d 8) (dpl nn sd) 12)) j else 0) 12) 5)) 54 (lstC (c 4) ((ovN (d 8) (dpl nn sd) 12)) (ovN (d 54) (fun _ => -1) 5) 12)) (va_up (va_up (va_up u 57 (nI (cntP (fun j => 0 < brk (c 2) (c 3) (c 4) (c 5) (c 6) ((ovN (d 8) (dpl nn sd) 12)) j) 12))) 58 (nI (cntP (fun j => ((ovN (d 8) (dpl nn sd) 12)) j = -1 ∨ 0 < brk (c 2) (c 3) (c 4) (c 5) (c 6) ((ovN (d 8) (dpl nn sd) 12)) j) 12))) 59 (sumI (fun j => if brk (c 2) (c 3) (c 4) (c 5) (c 6) ((ovN (d 8) (dpl nn sd) 12)) j = 0 then sts (c 2) (c 7) ((ovN (d 8) (dpl nn sd) 12)) j else 0) 12)) x n c) := hD
        refine W.eq (g2 := F0 m 63 ls []) rfl ?_
        refine lv_lload_n (pc := 63) hx hb dX1_drawAll_63 rfl (lv_at hl 2 rfl) ?_
        refine lv_l2i (pc := 64) (v := nI (itN 12 sd)) hx hb dX1_drawAll_64 (lN_i _) ?_
        rw [hQ]; exact W.iret (pc := 65) hx hb hr (fun t9 ht _ => ⟨⟨retI (rfl), by rw [ht]; exact hP⟩, hS.F ht⟩) hS.2.2 dX1_drawAll_65 hlocks
      · skip
        have c_2n : ¬ 12 ≤ i := fun hh => c_2 ((nI_leI (a := 12) (b := i) (by omega) (by omega)).mpr hh)
        refine lv_ldc2 (pc := 13) (v := 1103515245) hx hb hown (hts _ co_X1_62) dX1_drawAll_13 ?_
        refine lv_lload_n (pc := 16) hx hb dX1_drawAll_16 rfl (lv_at hl 2 rfl) ?_
        refine lv_lmul (pc := 17) hx hb dX1_drawAll_17 ?_
        refine vEqL (v := lN (1103515245 * itN i sd)) (lN_mul 1103515245 (itN i sd)) ?_
        refine lv_ldc2 (pc := 18) (v := 12345) hx hb hown (hts _ co_X1_64) dX1_drawAll_18 ?_
        refine lv_ladd (pc := 21) hx hb dX1_drawAll_21 ?_
        refine vEqL (v := lN (1103515245 * itN i sd + 12345)) (lN_add (1103515245 * itN i sd) 12345) ?_
        refine lv_ldc2 (pc := 22) (v := 2147483648) hx hb hown (hts _ co_X1_66) dX1_drawAll_22 ?_
        refine lv_lrem (pc := 25) hx hb dX1_drawAll_25 (by decide) ?_
        refine vEqL (v := lN (nxt (itN i sd))) (pk_lRem (a := 1103515245 * itN i sd + 12345) (b := 2147483648) (by have := itN_lt hsd i; omega) (by omega) (by omega)) ?_
        refine lv_lstore_n (pc := 26) (lv' := [(2, .long (lN (nxt (itN i sd)))), (0, .ref (pa 0)), (1, .int (nI sd)), (4, .int (nI i))]) hx hb dX1_drawAll_26 rfl hl (by decide) rfl (fun ls hl => ?_)
        refine lv_aload_n (pc := 27) hx hb dX1_drawAll_27 rfl (lv_at hl 1 rfl) ?_
        refine fget (pc := 28) (v := .ref (pa 1)) hx hb hts hown hE hP fl_X1_9 0 rfl rfl dX1_drawAll_28 ?_
        refine lv_iload (pc := 31) hx hb dX1_drawAll_31 (lv_at hl 3 rfl) ?_
        refine lv_lload_n (pc := 33) hx hb dX1_drawAll_33 rfl (lv_at hl 0 rfl) ?_
        refine lv_ldc2 (pc := 34) (v := 65536) hx hb hown (hts _ co_X1_68) dX1_drawAll_34 ?_
        refine lv_ldiv (pc := 37) hx hb dX1_drawAll_37 (by decide) ?_
        refine vEqL (v := lN (nxt (itN i sd) / 65536)) (pk_lDiv (a := nxt (itN i sd)) (b := 65536) (by have := nxt_lt (itN i sd); omega) (by omega) (by omega)) ?_
        refine lv_aload_n (pc := 38) hx hb dX1_drawAll_38 rfl (lv_at hl 1 rfl) ?_
        refine fget (pc := 39) (v := .ref (x 7)) hx hb hts hown hE hP fl_X1_30 0 rfl rfl dX1_drawAll_39 ?_
        refine fget (pc := 42) (v := .int n) hx hb hts hown hE hP fl_X1_70 7 rfl rfl dX1_drawAll_42 ?_
        refine vEq (v := nI nn) hn ?_
        refine lv_iconst (pc := 45) (v := 1) hx hb dX1_drawAll_45 (by decide) ?_
        refine iaddV (pc := 46) (v := nI (nn + 1)) hx hb dX1_drawAll_46 (nI_add (nn) (1)) ?_
        refine lv_i2l (pc := 47) (v := lN (nn + 1)) hx hb dX1_drawAll_47 (nI_l (by omega)) ?_
        refine lv_lrem (pc := 48) hx hb dX1_drawAll_48 (fun q => by have h9 := (pk_lEQ (a := nn + 1) (b := 0) (by omega) (by omega)).mp q; omega) ?_
        refine vEqL (v := lN (nxt (itN i sd) / 65536 % (nn + 1))) (pk_lRem (by have := nxt_lt (itN i sd); omega) (by omega) (by omega)) ?_
        refine lv_l2i (pc := 49) (v := nI (nxt (itN i sd) / 65536 % (nn + 1))) hx hb dX1_drawAll_49 (lN_i _) ?_
        refine lv_iconst (pc := 50) (v := 1) hx hb dX1_drawAll_50 (by decide) ?_
        refine isubV (pc := 51) (v := nI (nxt (itN i sd) / 65536 % (nn + 1)) - 1) hx hb dX1_drawAll_51 rfl ?_
        refine astN (pc := 52) (f := ovN (d 8) (dpl nn sd) i) hx hb hE hP hD hS 1 rfl (i) (by omega) (by omega) dX1_drawAll_52 (fun H locs hP hD hS => ?_)
        have hP : va_P D vwCl (wPl kI kT pa (va_up d 8 (upd (ovN (d 8) (dpl nn sd) i) i (nI (nxt (itN i sd) / 65536 % (nn + 1)) - 1))) u x n c) H := hP
        have hD : va_D A (wPl kI kT pa (va_up d 8 (upd (ovN (d 8) (dpl nn sd) i) i (nI (nxt (itN i sd) / 65536 % (nn + 1)) - 1))) u x n c) := hD
        refine lv_iinc (pc := 53) (v := nI (i + 1)) (lv' := [(4, .int (nI (i + 1))), (2, .long (lN (nxt (itN i sd)))), (0, .ref (pa 0)), (1, .int (nI sd))]) hx hb dX1_drawAll_53 hl (k := 3) rfl (nI_add (i) 1) (by decide) rfl (fun ls hl => ?_)
        refine lv_goto (pc := 56) (tgt := 6) hx hb dX1_drawAll_56 (by decide) ?_
        exact ih_lp_1 (i + 1) (by omega) (by omega) _ _ (by rw [← ovN_sv (d 8) (dpl nn sd) i rfl]; exact hP) (by rw [← ovN_sv (d 8) (dpl nn sd) i rfl]; exact hD) hS ls (lv_sub hl [2, 3, 1, 0] rfl)
  exact lp_1 _ 0 (Nat.lt_succ_self _) (by omega) _ _ (by rw [ovN_0, va_up_same]; exact hP) (by rw [ovN_0, va_up_same]; exact hD) hS ls (lv_sub hl [2, 3, 1, 0] rfl)
end
