section
variable {l : Launch} {D : va_G} {kB kI kT : ClassId} {ks sk sv : Nat}
def ahdC (tm er : Nat → Int32) (a b : Nat) : Bool := if tm a = tm b then (if er a = er b then decide (a < b) else decide (er b < er a)) else decide (tm b < tm a)
set_option maxRecDepth 100000 in
set_option maxHeartbeats 4000000 in
theorem k_X1_titleOn {pa : Nat → Nat} {d : Nat → Nat → Int32} {u : Nat → Int32} {x : Nat → Nat} {n : Int32} {c : Nat → Nat → Int32} (x9 : Int32) {nn : Nat} (hn : n = nI nn) (hn5 : nn ≤ 5) (hok : okP nn (d 8)) : MR l yX1_titleOn cX1_titleOn 3 (some .int) 0 0 D kB kI kT ks sk sv [.ref (pa 0), .int x9] (wPl kI kT pa d u x n c) (some (.int (rOn (d 8) x9))) := by
  refine MR.go (by decide +kernel) (Nat.le_of_ble_eq_true rfl) ?_
  intro p e s m below meth c0 args Q ls hQ hx hb hr hml hown hts hlocks hE hP hS hl
  have hl : lv_has ls 3 [(0, .ref (pa 0)), (1, .int x9)] := hl
  have hown : s.vm.findClass RX1 = some m.cls := hown
  refine lv_iload_n (pc := 0) hx hb dX1_titleOn_0 rfl (lv_at hl 1 rfl) ?_
  refine lv_if_lt (pc := 1) (tgt := 10) hx hb dX1_titleOn_1 (by decide) (fun c_1 => ?_) (fun c_1 => ?_)
  · skip
    refine lv_iconst (pc := 10) (v := (-1)) hx hb dX1_titleOn_10 (by decide) ?_
    rw [hQ]; exact W.iret (pc := 11) hx hb hr (fun t9 ht _ => ⟨retI ((rOn_neg c_1).symm), ht⟩) (fun _ h => nomatch h) dX1_titleOn_11 hlocks
  · skip
    refine lv_iload_n (pc := 4) hx hb dX1_titleOn_4 rfl (lv_at hl 1 rfl) ?_
    refine lv_bipush (pc := 5) (v := 12) hx hb dX1_titleOn_5 (by decide) ?_
    refine lv_icmp_lt (pc := 7) (tgt := 12) hx hb dX1_titleOn_7 (by decide) (fun c_2 => ?_) (fun c_2 => ?_)
    · skip
      obtain ⟨i, hi, hxi⟩ : ∃ i, i < 12 ∧ x9 = nI i := inR_nat ⟨Int32.not_lt.mp c_1, lt_le11 c_2⟩
      refine lv_aload_n (pc := 12) hx hb dX1_titleOn_12 rfl (lv_at hl 0 rfl) ?_
      refine fget (pc := 13) (v := .ref (pa 1)) hx hb hts hown hE hP fl_X1_9 0 rfl rfl dX1_titleOn_13 ?_
      refine lv_iload_n (pc := 16) hx hb dX1_titleOn_16 rfl (lv_at hl 1 rfl) ?_
      refine vEq (v := nI i) hxi ?_
      refine aldN (pc := 17) (f := d 8) hx hb hE hP 1 rfl (i) (by omega) (by omega) dX1_titleOn_17 ?_
      refine lv_istore_n (pc := 18) (lv' := [(2, .int ((d 8) i)), (0, .ref (pa 0)), (1, .int x9)]) hx hb dX1_titleOn_18 rfl hl (by decide) rfl (fun ls hl => ?_)
      refine lv_iload_n (pc := 19) hx hb dX1_titleOn_19 rfl (lv_at hl 0 rfl) ?_
      refine lv_if_lt (pc := 20) (tgt := 38) hx hb dX1_titleOn_20 (by decide) (fun c_3 => ?_) (fun c_3 => ?_)
      · skip
        refine lv_iconst (pc := 38) (v := (-1)) hx hb dX1_titleOn_38 (by decide) ?_
        rw [hQ]; exact W.iret (pc := 39) hx hb hr (fun t9 ht _ => ⟨retI (by rw [hxi, rOn_at hi]; exact (okP_neg hok hn5 hi c_3).symm), ht⟩) (fun _ h => nomatch h) dX1_titleOn_39 hlocks
      · skip
        refine lv_iload_n (pc := 23) hx hb dX1_titleOn_23 rfl (lv_at hl 0 rfl) ?_
        refine lv_aload_n (pc := 24) hx hb dX1_titleOn_24 rfl (lv_at hl 1 rfl) ?_
        refine fget (pc := 25) (v := .ref (x 7)) hx hb hts hown hE hP fl_X1_30 0 rfl rfl dX1_titleOn_25 ?_
        refine fget (pc := 28) (v := .int n) hx hb hts hown hE hP fl_X1_70 7 rfl rfl dX1_titleOn_28 ?_
        refine vEq (v := nI nn) hn ?_
        refine lv_icmp_ge (pc := 31) (tgt := 38) hx hb dX1_titleOn_31 (by decide) (fun c_4 => ?_) (fun c_4 => ?_)
        · skip
          refine lv_iconst (pc := 38) (v := (-1)) hx hb dX1_titleOn_38 (by decide) ?_
          rw [hQ]; exact W.iret (pc := 39) hx hb hr (fun t9 ht _ => ⟨retI ((okP_big hok hn5 hi c_3 c_4).elim), ht⟩) (fun _ h => nomatch h) dX1_titleOn_39 hlocks
        · skip
          refine lv_iload_n (pc := 34) hx hb dX1_titleOn_34 rfl (lv_at hl 0 rfl) ?_
          refine lv_goto (pc := 35) (tgt := 39) hx hb dX1_titleOn_35 (by decide) ?_
          rw [hQ]; exact W.iret (pc := 39) hx hb hr (fun t9 ht _ => ⟨retI (by rw [hxi, rOn_at hi]), ht⟩) (fun _ h => nomatch h) dX1_titleOn_39 hlocks
    · skip
      refine lv_iconst (pc := 10) (v := (-1)) hx hb dX1_titleOn_10 (by decide) ?_
      rw [hQ]; exact W.iret (pc := 11) hx hb hr (fun t9 ht _ => ⟨retI ((rOn_big c_2).symm), ht⟩) (fun _ h => nomatch h) dX1_titleOn_11 hlocks
set_option maxRecDepth 100000 in
set_option maxHeartbeats 4000000 in
theorem k_X1_isDark {pa : Nat → Nat} {d : Nat → Nat → Int32} {u : Nat → Int32} {x : Nat → Nat} {n : Int32} {c : Nat → Nat → Int32} (x9 : Int32) {nn : Nat} (hn : n = nI nn) (hn5 : nn ≤ 5) (hok : okP nn (d 8)) : MR l yX1_isDark cX1_isDark 2 (some .boolean) 1 22 D kB kI kT ks sk sv [.ref (pa 0), .int x9] (wPl kI kT pa d u x n c) (some (.int (bi (rOn (d 8) x9 = -1)))) := by
  refine MR.go (by decide +kernel) (Nat.le_of_ble_eq_true rfl) ?_
  intro p e s m below meth c0 args Q ls hQ hx hb hr hml hown hts hlocks hE hP hS hl
  have hl : lv_has ls 2 [(0, .ref (pa 0)), (1, .int x9)] := hl
  have hown : s.vm.findClass RX1 = some m.cls := hown
  refine lv_aload_n (pc := 0) hx hb dX1_isDark_0 rfl (lv_at hl 0 rfl) ?_
  refine lv_iload_n (pc := 1) hx hb dX1_isDark_1 rfl (lv_at hl 1 rfl) ?_
  refine rV (pc := 2) (rest := []) ⟨hx, hb, hml, hown, hts⟩ (k_X1_titleOn (x9 := x9) (pa := pa) (d := d) (u := u) (x := x) (n := n) (c := c) (nn := nn) (hn := (by first | assumption | omega)) (hn5 := (by first | assumption | omega)) (hok := (by first | assumption | omega))) cw_X1_78 ⟨(Nat.le_of_ble_eq_true rfl), (Nat.le_of_ble_eq_true rfl)⟩ hE hS hP rfl rfl rfl rfl hl.1 rfl (Nat.le_of_ble_eq_true rfl) dX1_isDark_2 ⟨Nat.le_refl _, Nat.le_refl _⟩ ?_
  refine W.eq (g2 := F0 m 5 ls [.int (rOn (d 8) x9)]) rfl ?_
  refine lv_iconst (pc := 5) (v := (-1)) hx hb dX1_isDark_5 (by decide) ?_
  refine lv_icmp_ne (pc := 6) (tgt := 13) hx hb dX1_isDark_6 (by decide) (fun c_1 => ?_) (fun c_1 => ?_)
  · skip
    refine lv_iconst (pc := 13) (v := 0) hx hb dX1_isDark_13 (by decide) ?_
    rw [hQ]; exact W.zret (pc := 14) hx hb hr rfl (fun t9 ht _ => ⟨retI (bi_f c_1), ht⟩) (fun _ h => nomatch h) dX1_isDark_14 hlocks
  · skip
    refine lv_iconst (pc := 9) (v := 1) hx hb dX1_isDark_9 (by decide) ?_
    refine lv_goto (pc := 10) (tgt := 14) hx hb dX1_isDark_10 (by decide) ?_
    rw [hQ]; exact W.zret (pc := 14) hx hb hr rfl (fun t9 ht _ => ⟨retI (bi_t c_1), ht⟩) (fun _ h => nomatch h) dX1_isDark_14 hlocks
set_option maxRecDepth 100000 in
set_option maxHeartbeats 4000000 in
theorem k_X1_darkWithin {pa : Nat → Nat} {d : Nat → Nat → Int32} {u : Nat → Int32} {x : Nat → Nat} {n : Int32} {c : Nat → Nat → Int32} (f : Nat) (t : Nat) {nn : Nat} (hn : n = nI nn) (hn5 : nn ≤ 5) (hok : okP nn (d 8)) (hft : f ≤ t) (ht : t < 12) : MR l yX1_darkWithin cX1_darkWithin 5 (some .int) 2 43 D kB kI kT ks sk sv [.ref (pa 0), .int (nI f), .int (nI t)] (wPl kI kT pa d u x n c) (some (.int (nI (dkN (d 8) f (t + 1 - f))))) := by
  refine MR.go (by decide +kernel) (Nat.le_of_ble_eq_true rfl) ?_
  intro p e s m below meth c0 args Q ls hQ hx hb hr hml hown hts hlocks hE hP hS hl
  have hl : lv_has ls 5 [(0, .ref (pa 0)), (1, .int (nI f)), (2, .int (nI t))] := hl
  have hown : s.vm.findClass RX1 = some m.cls := hown
  refine lv_iconst (pc := 0) (v := 0) hx hb dX1_darkWithin_0 (by decide) ?_
  refine lv_istore_n (pc := 1) (lv' := [(3, .int 0), (0, .ref (pa 0)), (1, .int (nI f)), (2, .int (nI t))]) hx hb dX1_darkWithin_1 rfl hl (by decide) rfl (fun ls hl => ?_)
  refine lv_iload_n (pc := 2) hx hb dX1_darkWithin_2 rfl (lv_at hl 2 rfl) ?_
  refine lv_istore (pc := 3) (lv' := [(4, .int (nI f)), (3, .int 0), (0, .ref (pa 0)), (1, .int (nI f)), (2, .int (nI t))]) hx hb dX1_darkWithin_3 hl (by decide) rfl (fun ls hl => ?_)
  have lp_1 : ∀ (fuel : Nat) (j : Nat), t + 1 - f - j < fuel → (f + j ≤ t + 1) → ∀ (ls : Array Slot), lv_has ls 5 [(0, .ref (pa 0)), (1, .int (nI f)), (2, .int (nI t)), (3, .int (nI (dkN (d 8) f j))), (4, .int (nI (f + j)))] → W p l e (rmO 2 43) s m args below meth c0 s.heap [] 0 0 Q (F0 m 5 ls []) := by
    intro fuel
    induction fuel with
    | zero => intro j hfuel; exact absurd hfuel (Nat.not_lt_zero _)
    | succ fuel ih_lp_1 =>
      intro j hfuel hj ls hl
      refine lv_iload (pc := 5) hx hb dX1_darkWithin_5 (lv_at hl 4 rfl) ?_
      refine lv_iload_n (pc := 7) hx hb dX1_darkWithin_7 rfl (lv_at hl 2 rfl) ?_
      refine lv_icmp_gt (pc := 8) (tgt := 41) hx hb dX1_darkWithin_8 (by decide) (fun c_2 => ?_) (fun c_2 => ?_)
      · skip
        have c_2n : t < (f + j) := (nI_ltI (a := t) (b := f + j) (by omega) (by omega)).mp c_2
        refine lv_iload_n (pc := 41) hx hb dX1_darkWithin_41 rfl (lv_at hl 3 rfl) ?_
        rw [hQ]; exact W.iret (pc := 42) hx hb hr (fun t9 ht _ => ⟨retI (by rw [show j = t + 1 - f by omega]), ht⟩) (fun _ h => nomatch h) dX1_darkWithin_42 hlocks
      · skip
        have c_2n : ¬ t < (f + j) := fun hh => c_2 ((nI_ltI (a := t) (b := f + j) (by omega) (by omega)).mpr hh)
        refine lv_iload (pc := 11) hx hb dX1_darkWithin_11 (lv_at hl 4 rfl) ?_
        refine lv_bipush (pc := 13) (v := 12) hx hb dX1_darkWithin_13 (by decide) ?_
        refine lv_icmp_ge (pc := 15) (tgt := 41) hx hb dX1_darkWithin_15 (by decide) (fun c_3 => ?_) (fun c_3 => ?_)
        · skip
          have c_3n : 12 ≤ (f + j) := (nI_leI (a := 12) (b := f + j) (by omega) (by omega)).mp c_3
          refine lv_iload_n (pc := 41) hx hb dX1_darkWithin_41 rfl (lv_at hl 3 rfl) ?_
          rw [hQ]; exact W.iret (pc := 42) hx hb hr (fun t9 ht _ => ⟨retI (by rw [show j = t + 1 - f by omega]), ht⟩) (fun _ h => nomatch h) dX1_darkWithin_42 hlocks
        · skip
          have c_3n : ¬ 12 ≤ (f + j) := fun hh => c_3 ((nI_leI (a := 12) (b := f + j) (by omega) (by omega)).mpr hh)
          refine lv_iload_n (pc := 18) hx hb dX1_darkWithin_18 rfl (lv_at hl 3 rfl) ?_
          refine lv_aload_n (pc := 19) hx hb dX1_darkWithin_19 rfl (lv_at hl 0 rfl) ?_
          refine lv_iload (pc := 20) hx hb dX1_darkWithin_20 (lv_at hl 4 rfl) ?_
          refine rV (pc := 22) (rest := [.int (nI (dkN (d 8) f j))]) ⟨hx, hb, hml, hown, hts⟩ (k_X1_isDark (x9 := nI (f + j)) (pa := pa) (d := d) (u := u) (x := x) (n := n) (c := c) (nn := nn) (hn := (by first | assumption | omega)) (hn5 := (by first | assumption | omega)) (hok := (by first | assumption | omega))) cw_X1_75 ⟨(Nat.le_of_ble_eq_true rfl), (Nat.le_of_ble_eq_true rfl)⟩ hE hS hP rfl rfl rfl rfl hl.1 rfl (Nat.le_of_ble_eq_true rfl) dX1_darkWithin_22 ⟨Nat.le_refl _, Nat.le_refl _⟩ ?_
          refine W.eq (g2 := F0 m 25 ls [.int (bi (rOn (d 8) (nI (f + j)) = -1)), .int (nI (dkN (d 8) f j))]) rfl ?_
          refine bif_eq (pc := 25) (tgt := 32) hx hb dX1_darkWithin_25 (by decide) (fun c_4 => ?_) (fun c_4 => ?_)
          · skip
            refine lv_iconst (pc := 32) (v := 0) hx hb dX1_darkWithin_32 (by decide) ?_
            refine iaddV (pc := 33) (v := nI (dkN (d 8) f j + 0)) hx hb dX1_darkWithin_33 (nI_add (dkN (d 8) f j) (0)) ?_
            refine lv_istore_n (pc := 34) (lv' := [(3, .int (nI (dkN (d 8) f j + 0))), (0, .ref (pa 0)), (1, .int (nI f)), (2, .int (nI t)), (4, .int (nI (f + j)))]) hx hb dX1_darkWithin_34 rfl hl (by decide) rfl (fun ls hl => ?_)
            refine lv_iinc (pc := 35) (v := nI (f + j + 1)) (lv' := [(4, .int (nI (f + j + 1))), (3, .int (nI (dkN (d 8) f j + 0))), (0, .ref (pa 0)), (1, .int (nI f)), (2, .int (nI t))]) hx hb dX1_darkWithin_35 hl (k := 4) rfl (nI_add (f + j) 1) (by decide) rfl (fun ls hl => ?_)
            refine lv_goto (pc := 38) (tgt := 5) hx hb dX1_darkWithin_38 (by decide) ?_
            exact ih_lp_1 (j + 1) (by omega) (by omega) ls (by rw [show (nI (dkN (d 8) f (j + 1)) : Int32) = nI (dkN (d 8) f j + 0) from (by rw [dkN, cntP_f (by rw [rOn_at (by omega)] at c_4; exact c_4)]; rfl)]; exact lv_sub hl [2, 3, 4, 1, 0] rfl)
          · skip
            refine lv_iconst (pc := 28) (v := 1) hx hb dX1_darkWithin_28 (by decide) ?_
            refine lv_goto (pc := 29) (tgt := 33) hx hb dX1_darkWithin_29 (by decide) ?_
            refine iaddV (pc := 33) (v := nI (dkN (d 8) f j + 1)) hx hb dX1_darkWithin_33 (nI_add (dkN (d 8) f j) (1)) ?_
            refine lv_istore_n (pc := 34) (lv' := [(3, .int (nI (dkN (d 8) f j + 1))), (0, .ref (pa 0)), (1, .int (nI f)), (2, .int (nI t)), (4, .int (nI (f + j)))]) hx hb dX1_darkWithin_34 rfl hl (by decide) rfl (fun ls hl => ?_)
            refine lv_iinc (pc := 35) (v := nI (f + j + 1)) (lv' := [(4, .int (nI (f + j + 1))), (3, .int (nI (dkN (d 8) f j + 1))), (0, .ref (pa 0)), (1, .int (nI f)), (2, .int (nI t))]) hx hb dX1_darkWithin_35 hl (k := 4) rfl (nI_add (f + j) 1) (by decide) rfl (fun ls hl => ?_)
            refine lv_goto (pc := 38) (tgt := 5) hx hb dX1_darkWithin_38 (by decide) ?_
            exact ih_lp_1 (j + 1) (by omega) (by omega) ls (by rw [show (nI (dkN (d 8) f (j + 1)) : Int32) = nI (dkN (d 8) f j + 1) from (by rw [dkN, cntP_t (by rw [rOn_at (by omega)] at c_4; exact c_4)]; rfl)]; exact lv_sub hl [2, 3, 4, 1, 0] rfl)
  exact lp_1 _ 0 (Nat.lt_succ_self _) (by omega) ls (lv_sub hl [2, 3, 4, 1, 0] rfl)
set_option maxRecDepth 100000 in
set_option maxHeartbeats 4000000 in
theorem k_X1_lit {pa : Nat → Nat} {d : Nat → Nat → Int32} {u : Nat → Int32} {x : Nat → Nat} {n : Int32} {c : Nat → Nat → Int32} {nn : Nat} (hn : n = nI nn) (hn5 : nn ≤ 5) (hok : okP nn (d 8)) : MR l yX1_lit cX1_lit 1 (some .int) 3 67 D kB kI kT ks sk sv [.ref (pa 0)] (wPl kI kT pa d u x n c) (some (.int (12 - nI (dkN (d 8) 0 12)))) := by
  refine MR.go (by decide +kernel) (Nat.le_of_ble_eq_true rfl) ?_
  intro p e s m below meth c0 args Q ls hQ hx hb hr hml hown hts hlocks hE hP hS hl
  have hl : lv_has ls 1 [(0, .ref (pa 0))] := hl
  have hown : s.vm.findClass RX1 = some m.cls := hown
  refine lv_bipush (pc := 0) (v := 12) hx hb dX1_lit_0 (by decide) ?_
  refine lv_aload_n (pc := 2) hx hb dX1_lit_2 rfl (lv_at hl 0 rfl) ?_
  refine lv_iconst (pc := 3) (v := 0) hx hb dX1_lit_3 (by decide) ?_
  refine lv_bipush (pc := 4) (v := 11) hx hb dX1_lit_4 (by decide) ?_
  refine rV (pc := 6) (rest := [.int 12]) ⟨hx, hb, hml, hown, hts⟩ (k_X1_darkWithin (f := 0) (t := 11) (pa := pa) (d := d) (u := u) (x := x) (n := n) (c := c) (nn := nn) (hn := hn) (hn5 := hn5) (hok := hok) (hft := (by omega)) (ht := (by omega))) cw_X1_82 ⟨(Nat.le_of_ble_eq_true rfl), (Nat.le_of_ble_eq_true rfl)⟩ hE hS hP rfl rfl rfl rfl hl.1 rfl (Nat.le_of_ble_eq_true rfl) dX1_lit_6 ⟨Nat.le_refl _, Nat.le_refl _⟩ ?_
  refine W.eq (g2 := F0 m 9 ls [.int (nI (dkN (d 8) 0 (11 + 1 - 0))), .int 12]) rfl ?_
  refine isubV (pc := 9) (v := 12 - nI (dkN (d 8) 0 12)) hx hb dX1_lit_9 rfl ?_
  rw [hQ]; exact W.iret (pc := 10) hx hb hr (fun t9 ht _ => ⟨retI (rfl), ht⟩) (fun _ h => nomatch h) dX1_lit_10 hlocks
set_option maxRecDepth 100000 in
set_option maxHeartbeats 4000000 in
theorem k_X1_timesOf {pa : Nat → Nat} {d : Nat → Nat → Int32} {u : Nat → Int32} {x : Nat → Nat} {n : Int32} {c : Nat → Nat → Int32} (k : Nat) (hk5 : k < 5) : MR l yX1_timesOf cX1_timesOf 2 (some .int) 0 0 D kB kI kT ks sk sv [.ref (pa 0), .int (nI k)] (wPl kI kT pa d u x n c) (some (.int ((d 52) k))) := by
  refine MR.go (by decide +kernel) (Nat.le_of_ble_eq_true rfl) ?_
  intro p e s m below meth c0 args Q ls hQ hx hb hr hml hown hts hlocks hE hP hS hl
  have hl : lv_has ls 2 [(0, .ref (pa 0)), (1, .int (nI k))] := hl
  have hown : s.vm.findClass RX1 = some m.cls := hown
  refine lv_iload_n (pc := 0) hx hb dX1_timesOf_0 rfl (lv_at hl 1 rfl) ?_
  refine lv_if_lt (pc := 1) (tgt := 18) hx hb dX1_timesOf_1 (by decide) (fun c_1 => ?_) (fun c_1 => ?_)
  · exact absurd c_1 (nI_pos (by omega))
  · skip
    have c_1n : ¬ k < 0 := fun hh => c_1 ((nI_ltI (a := k) (b := 0) (by omega) (by omega)).mpr hh)
    refine lv_iload_n (pc := 4) hx hb dX1_timesOf_4 rfl (lv_at hl 1 rfl) ?_
    refine lv_iconst (pc := 5) (v := 5) hx hb dX1_timesOf_5 (by decide) ?_
    refine lv_icmp_ge (pc := 6) (tgt := 18) hx hb dX1_timesOf_6 (by decide) (fun c_2 => ?_) (fun c_2 => ?_)
    · exact absurd ((nI_leI (a := 5) (b := k) (by omega) (by omega)).mp c_2) (by omega)
    · skip
      have c_2n : ¬ 5 ≤ k := fun hh => c_2 ((nI_leI (a := 5) (b := k) (by omega) (by omega)).mpr hh)
      refine lv_aload_n (pc := 9) hx hb dX1_timesOf_9 rfl (lv_at hl 0 rfl) ?_
      refine fget (pc := 10) (v := .ref (pa 4)) hx hb hts hown hE hP fl_X1_21 0 rfl rfl dX1_timesOf_10 ?_
      refine lv_iload_n (pc := 13) hx hb dX1_timesOf_13 rfl (lv_at hl 1 rfl) ?_
      refine aldN (pc := 14) (f := d 52) hx hb hE hP 4 rfl (k) (by omega) (by omega) dX1_timesOf_14 ?_
      refine lv_goto (pc := 15) (tgt := 19) hx hb dX1_timesOf_15 (by decide) ?_
      rw [hQ]; exact W.iret (pc := 19) hx hb hr (fun t9 ht _ => ⟨retI (rfl), ht⟩) (fun _ h => nomatch h) dX1_timesOf_19 hlocks
set_option maxRecDepth 100000 in
set_option maxHeartbeats 4000000 in
theorem k_X1_unlike {pa : Nat → Nat} {d : Nat → Nat → Int32} {u : Nat → Int32} {x : Nat → Nat} {n : Int32} {c : Nat → Nat → Int32} : MR l yX1_unlike cX1_unlike 3 (some .int) 0 0 D kB kI kT ks sk sv [.ref (pa 0)] (wPl kI kT pa d u x n c) (some (.int (nI (cntP (fun k => 0 < (d 52) k) 5)))) := by
  refine MR.go (by decide +kernel) (Nat.le_of_ble_eq_true rfl) ?_
  intro p e s m below meth c0 args Q ls hQ hx hb hr hml hown hts hlocks hE hP hS hl
  have hl : lv_has ls 3 [(0, .ref (pa 0))] := hl
  have hown : s.vm.findClass RX1 = some m.cls := hown
  refine lv_iconst (pc := 0) (v := 0) hx hb dX1_unlike_0 (by decide) ?_
  refine lv_istore_n (pc := 1) (lv' := [(1, .int 0), (0, .ref (pa 0))]) hx hb dX1_unlike_1 rfl hl (by decide) rfl (fun ls hl => ?_)
  refine lv_iconst (pc := 2) (v := 0) hx hb dX1_unlike_2 (by decide) ?_
  refine lv_istore_n (pc := 3) (lv' := [(2, .int 0), (1, .int 0), (0, .ref (pa 0))]) hx hb dX1_unlike_3 rfl hl (by decide) rfl (fun ls hl => ?_)
  have lp_1 : ∀ (fuel : Nat) (i : Nat), 5 - i < fuel → (i ≤ 5) → ∀ (ls : Array Slot), lv_has ls 3 [(0, .ref (pa 0)), (1, .int (nI (cntP (fun k => 0 < (d 52) k) i))), (2, .int (nI i))] → W p l e (rmO 0 0) s m args below meth c0 s.heap [] 0 0 Q (F0 m 4 ls []) := by
    intro fuel
    induction fuel with
    | zero => intro i hfuel; exact absurd hfuel (Nat.not_lt_zero _)
    | succ fuel ih_lp_1 =>
      intro i hfuel hi ls hl
      refine lv_iload_n (pc := 4) hx hb dX1_unlike_4 rfl (lv_at hl 2 rfl) ?_
      refine lv_iconst (pc := 5) (v := 5) hx hb dX1_unlike_5 (by decide) ?_
      refine lv_icmp_ge (pc := 6) (tgt := 32) hx hb dX1_unlike_6 (by decide) (fun c_2 => ?_) (fun c_2 => ?_)
      · skip
        have c_2n : 5 ≤ i := (nI_leI (a := 5) (b := i) (by omega) (by omega)).mp c_2
        refine lv_iload_n (pc := 32) hx hb dX1_unlike_32 rfl (lv_at hl 1 rfl) ?_
        rw [hQ]; exact W.iret (pc := 33) hx hb hr (fun t9 ht _ => ⟨retI (by rw [show i = 5 by omega]), ht⟩) (fun _ h => nomatch h) dX1_unlike_33 hlocks
      · skip
        have c_2n : ¬ 5 ≤ i := fun hh => c_2 ((nI_leI (a := 5) (b := i) (by omega) (by omega)).mpr hh)
        refine lv_iload_n (pc := 9) hx hb dX1_unlike_9 rfl (lv_at hl 1 rfl) ?_
        refine lv_aload_n (pc := 10) hx hb dX1_unlike_10 rfl (lv_at hl 0 rfl) ?_
        refine fget (pc := 11) (v := .ref (pa 4)) hx hb hts hown hE hP fl_X1_21 0 rfl rfl dX1_unlike_11 ?_
        refine lv_iload_n (pc := 14) hx hb dX1_unlike_14 rfl (lv_at hl 2 rfl) ?_
        refine aldN (pc := 15) (f := d 52) hx hb hE hP 4 rfl (i) (by omega) (by omega) dX1_unlike_15 ?_
        refine lv_if_le (pc := 16) (tgt := 23) hx hb dX1_unlike_16 (by decide) (fun c_3 => ?_) (fun c_3 => ?_)
        · skip
          refine lv_iconst (pc := 23) (v := 0) hx hb dX1_unlike_23 (by decide) ?_
          refine iaddV (pc := 24) (v := nI (cntP (fun k => 0 < (d 52) k) i + 0)) hx hb dX1_unlike_24 (nI_add (cntP (fun k => 0 < (d 52) k) i) (0)) ?_
          refine lv_istore_n (pc := 25) (lv' := [(1, .int (nI (cntP (fun k => 0 < (d 52) k) i + 0))), (0, .ref (pa 0)), (2, .int (nI i))]) hx hb dX1_unlike_25 rfl hl (by decide) rfl (fun ls hl => ?_)
          refine lv_iinc (pc := 26) (v := nI (i + 1)) (lv' := [(2, .int (nI (i + 1))), (1, .int (nI (cntP (fun k => 0 < (d 52) k) i + 0))), (0, .ref (pa 0))]) hx hb dX1_unlike_26 hl (k := 2) rfl (nI_add (i) 1) (by decide) rfl (fun ls hl => ?_)
          refine lv_goto (pc := 29) (tgt := 4) hx hb dX1_unlike_29 (by decide) ?_
          exact ih_lp_1 (i + 1) (by omega) (by omega) ls (by rw [show (nI (cntP (fun k => 0 < (d 52) k) (i + 1)) : Int32) = nI (cntP (fun k => 0 < (d 52) k) i + 0) from (by rw [cntP_f (Int32.not_lt.mpr c_3)]; rfl)]; exact lv_sub hl [2, 1, 0] rfl)
        · skip
          refine lv_iconst (pc := 19) (v := 1) hx hb dX1_unlike_19 (by decide) ?_
          refine lv_goto (pc := 20) (tgt := 24) hx hb dX1_unlike_20 (by decide) ?_
          refine iaddV (pc := 24) (v := nI (cntP (fun k => 0 < (d 52) k) i + 1)) hx hb dX1_unlike_24 (nI_add (cntP (fun k => 0 < (d 52) k) i) (1)) ?_
          refine lv_istore_n (pc := 25) (lv' := [(1, .int (nI (cntP (fun k => 0 < (d 52) k) i + 1))), (0, .ref (pa 0)), (2, .int (nI i))]) hx hb dX1_unlike_25 rfl hl (by decide) rfl (fun ls hl => ?_)
          refine lv_iinc (pc := 26) (v := nI (i + 1)) (lv' := [(2, .int (nI (i + 1))), (1, .int (nI (cntP (fun k => 0 < (d 52) k) i + 1))), (0, .ref (pa 0))]) hx hb dX1_unlike_26 hl (k := 2) rfl (nI_add (i) 1) (by decide) rfl (fun ls hl => ?_)
          refine lv_goto (pc := 29) (tgt := 4) hx hb dX1_unlike_29 (by decide) ?_
          exact ih_lp_1 (i + 1) (by omega) (by omega) ls (by rw [show (nI (cntP (fun k => 0 < (d 52) k) (i + 1)) : Int32) = nI (cntP (fun k => 0 < (d 52) k) i + 1) from (by rw [cntP_t (Int32.not_le.mp c_3)])]; exact lv_sub hl [2, 1, 0] rfl)
  exact lp_1 _ 0 (Nat.lt_succ_self _) (by omega) ls (lv_sub hl [2, 1, 0] rfl)
set_option maxRecDepth 100000 in
set_option maxHeartbeats 4000000 in
theorem k_X1_comesAhead {pa : Nat → Nat} {d : Nat → Nat → Int32} {u : Nat → Int32} {x : Nat → Nat} {n : Int32} {c : Nat → Nat → Int32} (a : Nat) (b : Nat) (ha5 : a < 5) (hb5 : b < 5) : MR l yX1_comesAhead cX1_comesAhead 3 (some .boolean) 0 0 D kB kI kT ks sk sv [.ref (pa 0), .int (nI a), .int (nI b)] (wPl kI kT pa d u x n c) (some (.int (bi (ahdC (d 52) (d 53) a b = true)))) := by
  refine MR.go (by decide +kernel) (Nat.le_of_ble_eq_true rfl) ?_
  intro p e s m below meth c0 args Q ls hQ hx hb hr hml hown hts hlocks hE hP hS hl
  have hl : lv_has ls 3 [(0, .ref (pa 0)), (1, .int (nI a)), (2, .int (nI b))] := hl
  have hown : s.vm.findClass RX1 = some m.cls := hown
  refine lv_aload_n (pc := 0) hx hb dX1_comesAhead_0 rfl (lv_at hl 0 rfl) ?_
  refine fget (pc := 1) (v := .ref (pa 4)) hx hb hts hown hE hP fl_X1_21 0 rfl rfl dX1_comesAhead_1 ?_
  refine lv_iload_n (pc := 4) hx hb dX1_comesAhead_4 rfl (lv_at hl 1 rfl) ?_
  refine aldN (pc := 5) (f := d 52) hx hb hE hP 4 rfl (a) (by omega) (by omega) dX1_comesAhead_5 ?_
  refine lv_aload_n (pc := 6) hx hb dX1_comesAhead_6 rfl (lv_at hl 0 rfl) ?_
  refine fget (pc := 7) (v := .ref (pa 4)) hx hb hts hown hE hP fl_X1_21 0 rfl rfl dX1_comesAhead_7 ?_
  refine lv_iload_n (pc := 10) hx hb dX1_comesAhead_10 rfl (lv_at hl 2 rfl) ?_
  refine aldN (pc := 11) (f := d 52) hx hb hE hP 4 rfl (b) (by omega) (by omega) dX1_comesAhead_11 ?_
  refine lv_icmp_eq (pc := 12) (tgt := 36) hx hb dX1_comesAhead_12 (by decide) (fun c_1 => ?_) (fun c_1 => ?_)
  · skip
    refine lv_aload_n (pc := 36) hx hb dX1_comesAhead_36 rfl (lv_at hl 0 rfl) ?_
    refine fget (pc := 37) (v := .ref (pa 5)) hx hb hts hown hE hP fl_X1_24 0 rfl rfl dX1_comesAhead_37 ?_
    refine lv_iload_n (pc := 40) hx hb dX1_comesAhead_40 rfl (lv_at hl 1 rfl) ?_
    refine aldN (pc := 41) (f := d 53) hx hb hE hP 5 rfl (a) (by omega) (by omega) dX1_comesAhead_41 ?_
    refine lv_aload_n (pc := 42) hx hb dX1_comesAhead_42 rfl (lv_at hl 0 rfl) ?_
    refine fget (pc := 43) (v := .ref (pa 5)) hx hb hts hown hE hP fl_X1_24 0 rfl rfl dX1_comesAhead_43 ?_
    refine lv_iload_n (pc := 46) hx hb dX1_comesAhead_46 rfl (lv_at hl 2 rfl) ?_
    refine aldN (pc := 47) (f := d 53) hx hb hE hP 5 rfl (b) (by omega) (by omega) dX1_comesAhead_47 ?_
    refine lv_icmp_eq (pc := 48) (tgt := 72) hx hb dX1_comesAhead_48 (by decide) (fun c_2 => ?_) (fun c_2 => ?_)
    · skip
      refine lv_iload_n (pc := 72) hx hb dX1_comesAhead_72 rfl (lv_at hl 1 rfl) ?_
      refine lv_iload_n (pc := 73) hx hb dX1_comesAhead_73 rfl (lv_at hl 2 rfl) ?_
      refine lv_icmp_ge (pc := 74) (tgt := 81) hx hb dX1_comesAhead_74 (by decide) (fun c_3 => ?_) (fun c_3 => ?_)
      · skip
        have c_3n : b ≤ a := (nI_leI (a := b) (b := a) (by omega) (by omega)).mp c_3
        refine lv_iconst (pc := 81) (v := 0) hx hb dX1_comesAhead_81 (by decide) ?_
        rw [hQ]; exact W.zret (pc := 82) hx hb hr rfl (fun t9 ht _ => ⟨retI (bi_f (by simp [ahdC, c_1, c_2, c_3, c_3n, Nat.not_lt.mpr c_3n])), ht⟩) (fun _ h => nomatch h) dX1_comesAhead_82 hlocks
      · skip
        have c_3n : ¬ b ≤ a := fun hh => c_3 ((nI_leI (a := b) (b := a) (by omega) (by omega)).mpr hh)
        refine lv_iconst (pc := 77) (v := 1) hx hb dX1_comesAhead_77 (by decide) ?_
        refine lv_goto (pc := 78) (tgt := 82) hx hb dX1_comesAhead_78 (by decide) ?_
        rw [hQ]; exact W.zret (pc := 82) hx hb hr rfl (fun t9 ht _ => ⟨retI (bi_t (by simp [ahdC, c_1, c_2, c_3, Nat.lt_of_not_le c_3n])), ht⟩) (fun _ h => nomatch h) dX1_comesAhead_82 hlocks
    · skip
      refine lv_aload_n (pc := 51) hx hb dX1_comesAhead_51 rfl (lv_at hl 0 rfl) ?_
      refine fget (pc := 52) (v := .ref (pa 5)) hx hb hts hown hE hP fl_X1_24 0 rfl rfl dX1_comesAhead_52 ?_
      refine lv_iload_n (pc := 55) hx hb dX1_comesAhead_55 rfl (lv_at hl 1 rfl) ?_
      refine aldN (pc := 56) (f := d 53) hx hb hE hP 5 rfl (a) (by omega) (by omega) dX1_comesAhead_56 ?_
      refine lv_aload_n (pc := 57) hx hb dX1_comesAhead_57 rfl (lv_at hl 0 rfl) ?_
      refine fget (pc := 58) (v := .ref (pa 5)) hx hb hts hown hE hP fl_X1_24 0 rfl rfl dX1_comesAhead_58 ?_
      refine lv_iload_n (pc := 61) hx hb dX1_comesAhead_61 rfl (lv_at hl 2 rfl) ?_
      refine aldN (pc := 62) (f := d 53) hx hb hE hP 5 rfl (b) (by omega) (by omega) dX1_comesAhead_62 ?_
      refine lv_icmp_le (pc := 63) (tgt := 70) hx hb dX1_comesAhead_63 (by decide) (fun c_4 => ?_) (fun c_4 => ?_)
      · skip
        refine lv_iconst (pc := 70) (v := 0) hx hb dX1_comesAhead_70 (by decide) ?_
        rw [hQ]; exact W.zret (pc := 71) hx hb hr rfl (fun t9 ht _ => ⟨retI (bi_f (by simp [ahdC, c_1, c_2, c_4])), ht⟩) (fun _ h => nomatch h) dX1_comesAhead_71 hlocks
      · skip
        refine lv_iconst (pc := 66) (v := 1) hx hb dX1_comesAhead_66 (by decide) ?_
        refine lv_goto (pc := 67) (tgt := 71) hx hb dX1_comesAhead_67 (by decide) ?_
        rw [hQ]; exact W.zret (pc := 71) hx hb hr rfl (fun t9 ht _ => ⟨retI (bi_t (by simp [ahdC, c_1, c_2, c_4, Int32.not_le.mp c_4])), ht⟩) (fun _ h => nomatch h) dX1_comesAhead_71 hlocks
  · skip
    refine lv_aload_n (pc := 15) hx hb dX1_comesAhead_15 rfl (lv_at hl 0 rfl) ?_
    refine fget (pc := 16) (v := .ref (pa 4)) hx hb hts hown hE hP fl_X1_21 0 rfl rfl dX1_comesAhead_16 ?_
    refine lv_iload_n (pc := 19) hx hb dX1_comesAhead_19 rfl (lv_at hl 1 rfl) ?_
    refine aldN (pc := 20) (f := d 52) hx hb hE hP 4 rfl (a) (by omega) (by omega) dX1_comesAhead_20 ?_
    refine lv_aload_n (pc := 21) hx hb dX1_comesAhead_21 rfl (lv_at hl 0 rfl) ?_
    refine fget (pc := 22) (v := .ref (pa 4)) hx hb hts hown hE hP fl_X1_21 0 rfl rfl dX1_comesAhead_22 ?_
    refine lv_iload_n (pc := 25) hx hb dX1_comesAhead_25 rfl (lv_at hl 2 rfl) ?_
    refine aldN (pc := 26) (f := d 52) hx hb hE hP 4 rfl (b) (by omega) (by omega) dX1_comesAhead_26 ?_
    refine lv_icmp_le (pc := 27) (tgt := 34) hx hb dX1_comesAhead_27 (by decide) (fun c_5 => ?_) (fun c_5 => ?_)
    · skip
      refine lv_iconst (pc := 34) (v := 0) hx hb dX1_comesAhead_34 (by decide) ?_
      rw [hQ]; exact W.zret (pc := 35) hx hb hr rfl (fun t9 ht _ => ⟨retI (bi_f (by simp [ahdC, c_1, c_5])), ht⟩) (fun _ h => nomatch h) dX1_comesAhead_35 hlocks
    · skip
      refine lv_iconst (pc := 30) (v := 1) hx hb dX1_comesAhead_30 (by decide) ?_
      refine lv_goto (pc := 31) (tgt := 35) hx hb dX1_comesAhead_31 (by decide) ?_
      rw [hQ]; exact W.zret (pc := 35) hx hb hr rfl (fun t9 ht _ => ⟨retI (bi_t (by simp [ahdC, c_1, c_5, Int32.not_le.mp c_5])), ht⟩) (fun _ h => nomatch h) dX1_comesAhead_35 hlocks
set_option maxRecDepth 100000 in
set_option maxHeartbeats 4000000 in
theorem k_X1_placeOf {pa : Nat → Nat} {d : Nat → Nat → Int32} {u : Nat → Int32} {x : Nat → Nat} {n : Int32} {c : Nat → Nat → Int32} (k : Nat) {nn : Nat} (hn : n = nI nn) (hn5 : nn ≤ 5) (hk5 : k < 5) : MR l yX1_placeOf cX1_placeOf 4 (some .int) 1 22 D kB kI kT ks sk sv [.ref (pa 0), .int (nI k)] (wPl kI kT pa d u x n c) (some (.int (nI (cntP (fun e => ahdC (d 52) (d 53) e k = true) nn)))) := by
  refine MR.go (by decide +kernel) (Nat.le_of_ble_eq_true rfl) ?_
  intro p e s m below meth c0 args Q ls hQ hx hb hr hml hown hts hlocks hE hP hS hl
  have hl : lv_has ls 4 [(0, .ref (pa 0)), (1, .int (nI k))] := hl
  have hown : s.vm.findClass RX1 = some m.cls := hown
  refine lv_iconst (pc := 0) (v := 0) hx hb dX1_placeOf_0 (by decide) ?_
  refine lv_istore_n (pc := 1) (lv' := [(2, .int 0), (0, .ref (pa 0)), (1, .int (nI k))]) hx hb dX1_placeOf_1 rfl hl (by decide) rfl (fun ls hl => ?_)
  refine lv_iconst (pc := 2) (v := 0) hx hb dX1_placeOf_2 (by decide) ?_
  refine lv_istore_n (pc := 3) (lv' := [(3, .int 0), (2, .int 0), (0, .ref (pa 0)), (1, .int (nI k))]) hx hb dX1_placeOf_3 rfl hl (by decide) rfl (fun ls hl => ?_)
  have lp_1 : ∀ (fuel : Nat) (i : Nat), nn - i < fuel → (i ≤ nn) → ∀ (ls : Array Slot), lv_has ls 4 [(0, .ref (pa 0)), (1, .int (nI k)), (2, .int (nI (cntP (fun e => ahdC (d 52) (d 53) e k = true) i))), (3, .int (nI i))] → W p l e (rmO 1 22) s m args below meth c0 s.heap [] 0 0 Q (F0 m 4 ls []) := by
    intro fuel
    induction fuel with
    | zero => intro i hfuel; exact absurd hfuel (Nat.not_lt_zero _)
    | succ fuel ih_lp_1 =>
      intro i hfuel hi ls hl
      refine lv_iload_n (pc := 4) hx hb dX1_placeOf_4 rfl (lv_at hl 3 rfl) ?_
      refine lv_aload_n (pc := 5) hx hb dX1_placeOf_5 rfl (lv_at hl 0 rfl) ?_
      refine fget (pc := 6) (v := .ref (x 7)) hx hb hts hown hE hP fl_X1_30 0 rfl rfl dX1_placeOf_6 ?_
      refine fget (pc := 9) (v := .int n) hx hb hts hown hE hP fl_X1_70 7 rfl rfl dX1_placeOf_9 ?_
      refine vEq (v := nI nn) hn ?_
      refine lv_icmp_ge (pc := 12) (tgt := 38) hx hb dX1_placeOf_12 (by decide) (fun c_2 => ?_) (fun c_2 => ?_)
      · skip
        have c_2n : nn ≤ i := (nI_leI (a := nn) (b := i) (by omega) (by omega)).mp c_2
        refine lv_iload_n (pc := 38) hx hb dX1_placeOf_38 rfl (lv_at hl 2 rfl) ?_
        rw [hQ]; exact W.iret (pc := 39) hx hb hr (fun t9 ht _ => ⟨retI (by rw [show i = nn by omega]), ht⟩) (fun _ h => nomatch h) dX1_placeOf_39 hlocks
      · skip
        have c_2n : ¬ nn ≤ i := fun hh => c_2 ((nI_leI (a := nn) (b := i) (by omega) (by omega)).mpr hh)
        refine lv_iload_n (pc := 15) hx hb dX1_placeOf_15 rfl (lv_at hl 2 rfl) ?_
        refine lv_aload_n (pc := 16) hx hb dX1_placeOf_16 rfl (lv_at hl 0 rfl) ?_
        refine lv_iload_n (pc := 17) hx hb dX1_placeOf_17 rfl (lv_at hl 3 rfl) ?_
        refine lv_iload_n (pc := 18) hx hb dX1_placeOf_18 rfl (lv_at hl 1 rfl) ?_
        refine rV (pc := 19) (rest := [.int (nI (cntP (fun e => ahdC (d 52) (d 53) e k = true) i))]) ⟨hx, hb, hml, hown, hts⟩ (k_X1_comesAhead (a := i) (b := k) (pa := pa) (d := d) (u := u) (x := x) (n := n) (c := c) (ha5 := (by first | assumption | omega)) (hb5 := (by first | assumption | omega))) cw_X1_86 ⟨(Nat.le_of_ble_eq_true rfl), (Nat.le_of_ble_eq_true rfl)⟩ hE hS hP rfl rfl rfl rfl hl.1 rfl (Nat.le_of_ble_eq_true rfl) dX1_placeOf_19 ⟨Nat.le_refl _, Nat.le_refl _⟩ ?_
        refine W.eq (g2 := F0 m 22 ls [.int (bi (ahdC (d 52) (d 53) i k = true)), .int (nI (cntP (fun e => ahdC (d 52) (d 53) e k = true) i))]) rfl ?_
        refine bif_eq (pc := 22) (tgt := 29) hx hb dX1_placeOf_22 (by decide) (fun c_3 => ?_) (fun c_3 => ?_)
        · skip
          refine lv_iconst (pc := 29) (v := 0) hx hb dX1_placeOf_29 (by decide) ?_
          refine iaddV (pc := 30) (v := nI (cntP (fun e => ahdC (d 52) (d 53) e k = true) i + 0)) hx hb dX1_placeOf_30 (nI_add (cntP (fun e => ahdC (d 52) (d 53) e k = true) i) (0)) ?_
          refine lv_istore_n (pc := 31) (lv' := [(2, .int (nI (cntP (fun e => ahdC (d 52) (d 53) e k = true) i + 0))), (0, .ref (pa 0)), (1, .int (nI k)), (3, .int (nI i))]) hx hb dX1_placeOf_31 rfl hl (by decide) rfl (fun ls hl => ?_)
          refine lv_iinc (pc := 32) (v := nI (i + 1)) (lv' := [(3, .int (nI (i + 1))), (2, .int (nI (cntP (fun e => ahdC (d 52) (d 53) e k = true) i + 0))), (0, .ref (pa 0)), (1, .int (nI k))]) hx hb dX1_placeOf_32 hl (k := 3) rfl (nI_add (i) 1) (by decide) rfl (fun ls hl => ?_)
          refine lv_goto (pc := 35) (tgt := 4) hx hb dX1_placeOf_35 (by decide) ?_
          exact ih_lp_1 (i + 1) (by omega) (by omega) ls (by rw [show (nI (cntP (fun e => ahdC (d 52) (d 53) e k = true) (i + 1)) : Int32) = nI (cntP (fun e => ahdC (d 52) (d 53) e k = true) i + 0) from (by simp [cntP, c_2, c_3])]; exact lv_sub hl [2, 3, 1, 0] rfl)
        · skip
          refine lv_iconst (pc := 25) (v := 1) hx hb dX1_placeOf_25 (by decide) ?_
          refine lv_goto (pc := 26) (tgt := 30) hx hb dX1_placeOf_26 (by decide) ?_
          refine iaddV (pc := 30) (v := nI (cntP (fun e => ahdC (d 52) (d 53) e k = true) i + 1)) hx hb dX1_placeOf_30 (nI_add (cntP (fun e => ahdC (d 52) (d 53) e k = true) i) (1)) ?_
          refine lv_istore_n (pc := 31) (lv' := [(2, .int (nI (cntP (fun e => ahdC (d 52) (d 53) e k = true) i + 1))), (0, .ref (pa 0)), (1, .int (nI k)), (3, .int (nI i))]) hx hb dX1_placeOf_31 rfl hl (by decide) rfl (fun ls hl => ?_)
          refine lv_iinc (pc := 32) (v := nI (i + 1)) (lv' := [(3, .int (nI (i + 1))), (2, .int (nI (cntP (fun e => ahdC (d 52) (d 53) e k = true) i + 1))), (0, .ref (pa 0)), (1, .int (nI k))]) hx hb dX1_placeOf_32 hl (k := 3) rfl (nI_add (i) 1) (by decide) rfl (fun ls hl => ?_)
          refine lv_goto (pc := 35) (tgt := 4) hx hb dX1_placeOf_35 (by decide) ?_
          exact ih_lp_1 (i + 1) (by omega) (by omega) ls (by rw [show (nI (cntP (fun e => ahdC (d 52) (d 53) e k = true) (i + 1)) : Int32) = nI (cntP (fun e => ahdC (d 52) (d 53) e k = true) i + 1) from (by simp [cntP, c_2, c_3])]; exact lv_sub hl [2, 3, 1, 0] rfl)
  exact lp_1 _ 0 (Nat.lt_succ_self _) (by omega) ls (lv_sub hl [2, 3, 1, 0] rfl)
set_option maxRecDepth 100000 in
set_option maxHeartbeats 4000000 in
theorem k_X1_isCastOn {pa : Nat → Nat} {d : Nat → Nat → Int32} {u : Nat → Int32} {x : Nat → Nat} {n : Int32} {c : Nat → Nat → Int32} (x9 : Int32) (cast : Int32) {nn : Nat} (hn : n = nI nn) (hn5 : nn ≤ 5) (hok : okP nn (d 8)) : MR l yX1_isCastOn cX1_isCastOn 4 (some .boolean) 1 22 D kB kI kT ks sk sv [.ref (pa 0), .int x9, .int cast] (wPl kI kT pa d u x n c) (some (.int (bi (hasC (c 4) (d 8) x9 cast)))) := by
  refine MR.go (by decide +kernel) (Nat.le_of_ble_eq_true rfl) ?_
  intro p e s m below meth c0 args Q ls hQ hx hb hr hml hown hts hlocks hE hP hS hl
  have hl : lv_has ls 4 [(0, .ref (pa 0)), (1, .int x9), (2, .int cast)] := hl
  have hown : s.vm.findClass RX1 = some m.cls := hown
  refine lv_aload_n (pc := 0) hx hb dX1_isCastOn_0 rfl (lv_at hl 0 rfl) ?_
  refine lv_iload_n (pc := 1) hx hb dX1_isCastOn_1 rfl (lv_at hl 1 rfl) ?_
  refine rV (pc := 2) (rest := []) ⟨hx, hb, hml, hown, hts⟩ (k_X1_titleOn (x9 := x9) (pa := pa) (d := d) (u := u) (x := x) (n := n) (c := c) (nn := nn) (hn := (by first | assumption | omega)) (hn5 := (by first | assumption | omega)) (hok := (by first | assumption | omega))) cw_X1_78 ⟨(Nat.le_of_ble_eq_true rfl), (Nat.le_of_ble_eq_true rfl)⟩ hE hS hP rfl rfl rfl rfl hl.1 rfl (Nat.le_of_ble_eq_true rfl) dX1_isCastOn_2 ⟨Nat.le_refl _, Nat.le_refl _⟩ ?_
  refine W.eq (g2 := F0 m 5 ls [.int (rOn (d 8) x9)]) rfl ?_
  refine lv_istore_n (pc := 5) (lv' := [(3, .int (rOn (d 8) x9)), (0, .ref (pa 0)), (1, .int x9), (2, .int cast)]) hx hb dX1_isCastOn_5 rfl hl (by decide) rfl (fun ls hl => ?_)
  refine lv_iload_n (pc := 6) hx hb dX1_isCastOn_6 rfl (lv_at hl 0 rfl) ?_
  refine lv_iconst (pc := 7) (v := (-1)) hx hb dX1_isCastOn_7 (by decide) ?_
  refine lv_icmp_eq (pc := 8) (tgt := 30) hx hb dX1_isCastOn_8 (by decide) (fun c_1 => ?_) (fun c_1 => ?_)
  · skip
    refine lv_iconst (pc := 30) (v := 0) hx hb dX1_isCastOn_30 (by decide) ?_
    rw [hQ]; exact W.zret (pc := 31) hx hb hr rfl (fun t9 ht _ => ⟨retI (bi_f (fun q => q.1 c_1)), ht⟩) (fun _ h => nomatch h) dX1_isCastOn_31 hlocks
  · skip
    obtain ⟨t2, ht2, hxa⟩ := rOn_nat hok c_1
    refine lv_aload_n (pc := 11) hx hb dX1_isCastOn_11 rfl (lv_at hl 1 rfl) ?_
    refine fget (pc := 12) (v := .ref (x 7)) hx hb hts hown hE hP fl_X1_30 0 rfl rfl dX1_isCastOn_12 ?_
    refine lv_iload_n (pc := 15) hx hb dX1_isCastOn_15 rfl (lv_at hl 0 rfl) ?_
    refine vEq (v := nI t2) hxa ?_
    refine rV (pc := 16) (rest := []) ⟨hx, hb, hml, hown, hts⟩ (k_X6_at (k := t2) (x := x) (n := n) (c := c) (hk5 := (by omega))) cw_X1_109 ⟨(Nat.le_of_ble_eq_true rfl), (Nat.le_of_ble_eq_true rfl)⟩ hE hS (sub_P (wc := wTs kT x n c) hP [7, 8, 9, 10, 11, 12, 13] rfl) rfl rfl rfl rfl hl.1 rfl (Nat.le_of_ble_eq_true rfl) dX1_isCastOn_16 ⟨Nat.le_refl _, Nat.le_refl _⟩ ?_
    refine W.eq (g2 := F0 m 19 ls [.ref (x (9 + t2))]) rfl ?_
    refine fget (pc := 19) (v := .int ((c 4) t2)) hx hb hts hown hE hP fl_X1_113 (9 + t2) (wPl_t (by omega)) rfl dX1_isCastOn_19 ?_
    refine lv_iload_n (pc := 22) hx hb dX1_isCastOn_22 rfl (lv_at hl 3 rfl) ?_
    refine lv_icmp_ne (pc := 23) (tgt := 30) hx hb dX1_isCastOn_23 (by decide) (fun c_2 => ?_) (fun c_2 => ?_)
    · skip
      refine lv_iconst (pc := 30) (v := 0) hx hb dX1_isCastOn_30 (by decide) ?_
      rw [hQ]; exact W.zret (pc := 31) hx hb hr rfl (fun t9 ht _ => ⟨retI (bi_f (fun q => c_2 (by have q2 := q.2; rw [hxa, ix_nI (by omega)] at q2; exact q2))), ht⟩) (fun _ h => nomatch h) dX1_isCastOn_31 hlocks
    · skip
      refine lv_iconst (pc := 26) (v := 1) hx hb dX1_isCastOn_26 (by decide) ?_
      refine lv_goto (pc := 27) (tgt := 31) hx hb dX1_isCastOn_27 (by decide) ?_
      rw [hQ]; exact W.zret (pc := 31) hx hb hr rfl (fun t9 ht _ => ⟨retI (bi_t ⟨c_1, by rw [hxa, ix_nI (by omega)]; exact c_2⟩), ht⟩) (fun _ h => nomatch h) dX1_isCastOn_31 hlocks
set_option maxRecDepth 100000 in
set_option maxHeartbeats 4000000 in
theorem k_X1_isDrawnBy {pa : Nat → Nat} {d : Nat → Nat → Int32} {u : Nat → Int32} {x : Nat → Nat} {n : Int32} {c : Nat → Nat → Int32} (x9 : Int32) (t : Nat) {nn : Nat} (hn : n = nI nn) (hn5 : nn ≤ 5) (hok : okP nn (d 8)) (ht5 : t < 5) : MR l yX1_isDrawnBy cX1_isDrawnBy 4 (some .boolean) 1 22 D kB kI kT ks sk sv [.ref (pa 0), .int x9, .int (nI t)] (wPl kI kT pa d u x n c) (some (.int (bi (draws (c 2) (d 8) x9 (nI t))))) := by
  refine MR.go (by decide +kernel) (Nat.le_of_ble_eq_true rfl) ?_
  intro p e s m below meth c0 args Q ls hQ hx hb hr hml hown hts hlocks hE hP hS hl
  have hl : lv_has ls 4 [(0, .ref (pa 0)), (1, .int x9), (2, .int (nI t))] := hl
  have hown : s.vm.findClass RX1 = some m.cls := hown
  refine lv_aload_n (pc := 0) hx hb dX1_isDrawnBy_0 rfl (lv_at hl 0 rfl) ?_
  refine lv_iload_n (pc := 1) hx hb dX1_isDrawnBy_1 rfl (lv_at hl 1 rfl) ?_
  refine rV (pc := 2) (rest := []) ⟨hx, hb, hml, hown, hts⟩ (k_X1_titleOn (x9 := x9) (pa := pa) (d := d) (u := u) (x := x) (n := n) (c := c) (nn := nn) (hn := (by first | assumption | omega)) (hn5 := (by first | assumption | omega)) (hok := (by first | assumption | omega))) cw_X1_78 ⟨(Nat.le_of_ble_eq_true rfl), (Nat.le_of_ble_eq_true rfl)⟩ hE hS hP rfl rfl rfl rfl hl.1 rfl (Nat.le_of_ble_eq_true rfl) dX1_isDrawnBy_2 ⟨Nat.le_refl _, Nat.le_refl _⟩ ?_
  refine W.eq (g2 := F0 m 5 ls [.int (rOn (d 8) x9)]) rfl ?_
  refine lv_istore_n (pc := 5) (lv' := [(3, .int (rOn (d 8) x9)), (0, .ref (pa 0)), (1, .int x9), (2, .int (nI t))]) hx hb dX1_isDrawnBy_5 rfl hl (by decide) rfl (fun ls hl => ?_)
  refine lv_iload_n (pc := 6) hx hb dX1_isDrawnBy_6 rfl (lv_at hl 0 rfl) ?_
  refine lv_iconst (pc := 7) (v := (-1)) hx hb dX1_isDrawnBy_7 (by decide) ?_
  refine lv_icmp_eq (pc := 8) (tgt := 35) hx hb dX1_isDrawnBy_8 (by decide) (fun c_1 => ?_) (fun c_1 => ?_)
  · skip
    refine lv_iconst (pc := 35) (v := 0) hx hb dX1_isDrawnBy_35 (by decide) ?_
    rw [hQ]; exact W.zret (pc := 36) hx hb hr rfl (fun t9 ht _ => ⟨retI (bi_f (fun q => q.1 c_1)), ht⟩) (fun _ h => nomatch h) dX1_isDrawnBy_36 hlocks
  · skip
    obtain ⟨t2, ht2, hxa⟩ := rOn_nat hok c_1
    refine lv_iload_n (pc := 11) hx hb dX1_isDrawnBy_11 rfl (lv_at hl 0 rfl) ?_
    refine vEq (v := nI t2) hxa ?_
    refine lv_iload_n (pc := 12) hx hb dX1_isDrawnBy_12 rfl (lv_at hl 3 rfl) ?_
    refine lv_icmp_eq (pc := 13) (tgt := 35) hx hb dX1_isDrawnBy_13 (by decide) (fun c_2 => ?_) (fun c_2 => ?_)
    · skip
      have c_2n : t2 = t := (nI_eq (a := t2) (b := t) (by omega) (by omega)).mp c_2
      refine lv_iconst (pc := 35) (v := 0) hx hb dX1_isDrawnBy_35 (by decide) ?_
      rw [hQ]; exact W.zret (pc := 36) hx hb hr rfl (fun t9 ht _ => ⟨retI (bi_f (fun q => q.2.1 (by rw [hxa]; exact c_2))), ht⟩) (fun _ h => nomatch h) dX1_isDrawnBy_36 hlocks
    · skip
      have c_2n : ¬ t2 = t := fun hh => c_2 ((nI_eq (a := t2) (b := t) (by omega) (by omega)).mpr hh)
      refine lv_aload_n (pc := 16) hx hb dX1_isDrawnBy_16 rfl (lv_at hl 1 rfl) ?_
      refine fget (pc := 17) (v := .ref (x 7)) hx hb hts hown hE hP fl_X1_30 0 rfl rfl dX1_isDrawnBy_17 ?_
      refine lv_iload_n (pc := 20) hx hb dX1_isDrawnBy_20 rfl (lv_at hl 0 rfl) ?_
      refine vEq (v := nI t2) hxa ?_
      refine rV (pc := 21) (rest := []) ⟨hx, hb, hml, hown, hts⟩ (k_X6_at (k := t2) (x := x) (n := n) (c := c) (hk5 := (by omega))) cw_X1_109 ⟨(Nat.le_of_ble_eq_true rfl), (Nat.le_of_ble_eq_true rfl)⟩ hE hS (sub_P (wc := wTs kT x n c) hP [7, 8, 9, 10, 11, 12, 13] rfl) rfl rfl rfl rfl hl.1 rfl (Nat.le_of_ble_eq_true rfl) dX1_isDrawnBy_21 ⟨Nat.le_refl _, Nat.le_refl _⟩ ?_
      refine W.eq (g2 := F0 m 24 ls [.ref (x (9 + t2))]) rfl ?_
      refine fget (pc := 24) (v := .int ((c 2) t2)) hx hb hts hown hE hP fl_X1_133 (9 + t2) (wPl_t (by omega)) rfl dX1_isDrawnBy_24 ?_
      refine lv_iconst (pc := 27) (v := 4) hx hb dX1_isDrawnBy_27 (by decide) ?_
      refine lv_icmp_ne (pc := 28) (tgt := 35) hx hb dX1_isDrawnBy_28 (by decide) (fun c_3 => ?_) (fun c_3 => ?_)
      · skip
        refine lv_iconst (pc := 35) (v := 0) hx hb dX1_isDrawnBy_35 (by decide) ?_
        rw [hQ]; exact W.zret (pc := 36) hx hb hr rfl (fun t9 ht _ => ⟨retI (bi_f (fun q => c_3 (by have q2 := q.2.2; rw [hxa, ix_nI (by omega)] at q2; exact q2))), ht⟩) (fun _ h => nomatch h) dX1_isDrawnBy_36 hlocks
      · skip
        refine lv_iconst (pc := 31) (v := 1) hx hb dX1_isDrawnBy_31 (by decide) ?_
        refine lv_goto (pc := 32) (tgt := 36) hx hb dX1_isDrawnBy_32 (by decide) ?_
        rw [hQ]; exact W.zret (pc := 36) hx hb hr rfl (fun t9 ht _ => ⟨retI (bi_t ⟨c_1, (by rw [hxa]; exact c_2), by rw [hxa, ix_nI (by omega)]; exact c_3⟩), ht⟩) (fun _ h => nomatch h) dX1_isDrawnBy_36 hlocks
end
