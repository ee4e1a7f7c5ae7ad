section
variable {l : Launch} {D : va_G} {kB kI kT : ClassId} {ks sk sv : Nat}
def wSk (kI kT : ClassId) (b : Nat → Nat) (so : Nat → Int32) (sn : Nat → Int32) (q : Nat → Int32) (pa : Nat → Nat) (d : Nat → Nat → Int32) (u : Nat → Int32) (x : Nat → Nat) (n : Int32) (c : Nat → Nat → Int32) (p2 : Nat → Nat) (d2 : Nat → Nat → Int32) (u2 : Nat → Int32) : va_W :=
  [(b 33, .inr (2, [.ref (x 7), .ref (pa 0), .ref (b 34), .ref (b 35), .int (q 20), .int (q 23), .int (q 24)])), (b 34, .inl (kI, 4, .inl (so))), (b 35, .inl (kI, 12, .inl (sn))), (pa 0, .inr (1, [.ref (x 7), .ref (pa 1), .ref (pa 2), .ref (pa 3), .ref (pa 4), .ref (pa 5), .ref (pa 6), .int (u 57), .int (u 58), .int (u 59)])), (pa 1, .inl (kI, 12, .inl (d 8))), (pa 2, .inl (kI, 12, .inl (d 50))), (pa 3, .inl (kI, 12, .inl (d 51))), (pa 4, .inl (kI, 5, .inl (d 52))), (pa 5, .inl (kI, 5, .inl (d 53))), (pa 6, .inl (kI, 5, .inl (d 54))), (x 7, .inr (6, [.ref (x 8), .int n])), (x 8, .inl (kT, 5, .inr (.inr (.inr (.inr (fun k => some (x (9 + k)))))))), (x 9, .inr (5, [.int ((c 2) 0), .int ((c 3) 0), .int ((c 4) 0), .int ((c 5) 0), .int ((c 6) 0), .int ((c 7) 0)])), (x 10, .inr (5, [.int ((c 2) 1), .int ((c 3) 1), .int ((c 4) 1), .int ((c 5) 1), .int ((c 6) 1), .int ((c 7) 1)])), (x 11, .inr (5, [.int ((c 2) 2), .int ((c 3) 2), .int ((c 4) 2), .int ((c 5) 2), .int ((c 6) 2), .int ((c 7) 2)])), (x 12, .inr (5, [.int ((c 2) 3), .int ((c 3) 3), .int ((c 4) 3), .int ((c 5) 3), .int ((c 6) 3), .int ((c 7) 3)])), (x 13, .inr (5, [.int ((c 2) 4), .int ((c 3) 4), .int ((c 4) 4), .int ((c 5) 4), .int ((c 6) 4), .int ((c 7) 4)])), (p2 0, .inr (1, [.ref (x 7), .ref (p2 1), .ref (p2 2), .ref (p2 3), .ref (p2 4), .ref (p2 5), .ref (p2 6), .int (u2 57), .int (u2 58), .int (u2 59)])), (p2 1, .inl (kI, 12, .inl (d2 8))), (p2 2, .inl (kI, 12, .inl (d2 50))), (p2 3, .inl (kI, 12, .inl (d2 51))), (p2 4, .inl (kI, 5, .inl (d2 52))), (p2 5, .inl (kI, 5, .inl (d2 53))), (p2 6, .inl (kI, 5, .inl (d2 54)))]
set_option maxRecDepth 100000 in
set_option maxHeartbeats 4000000 in
theorem k_X2_gatherOpen {b : Nat → Nat} {so : Nat → Int32} {sn : Nat → Int32} {q : Nat → Int32} {pa : Nat → Nat} {d : Nat → Nat → Int32} {u : Nat → Int32} {x : Nat → Nat} {n : Int32} {c : Nat → Nat → Int32} {p2 : Nat → Nat} {d2 : Nat → Nat → Int32} {u2 : Nat → Int32} (f : Nat) (t : Nat) {nn : Nat} (hn : n = nI nn) (hn5 : nn ≤ 5) (hok : okP nn (d2 8)) (hft : f ≤ t) (ht : t < 12) (hd4 : dkN (d2 8) f (t + 1 - f) ≤ 4) : MW l yX2_gatherOpen cX2_gatherOpen 5 none 2 43 D kB kI kT ks sk sv [.ref (b 33), .ref (p2 0), .int (nI f), .int (nI t)] (wSk kI kT b so sn q pa d u x n c p2 d2 u2) none (wSk kI kT b (dkA (d2 8) f so (t + 1 - f)) sn (va_up q 20 (nI (dkN (d2 8) f (t + 1 - f)))) pa d u x n c p2 d2 u2) := by
  refine MW.go (by decide +kernel) (Nat.le_of_ble_eq_true rfl) ?_
  intro p e s m below meth c0 args Q ls A hQ hx hb hr hml hown hts hlocks hE hP hD hS hl
  have hl : lv_has ls 5 [(0, .ref (b 33)), (1, .ref (p2 0)), (2, .int (nI f)), (3, .int (nI t))] := hl
  have hown : s.vm.findClass RX2 = some m.cls := hown
  refine lv_aload_n (pc := 0) hx hb dX2_gatherOpen_0 rfl (lv_at hl 0 rfl) ?_
  refine lv_iconst (pc := 1) (v := 0) hx hb dX2_gatherOpen_1 (by decide) ?_
  refine fput (pc := 2) (v := .int 0) hx hb hts hown hE hP hD hS fp_X2_39 0 rfl rfl rfl (Nat.le_of_ble_eq_true rfl) dX2_gatherOpen_2 (fun H locs hP hD hS => ?_)
  have hP : va_P D vwCl (wSk kI kT b so sn (va_up q 20 0) pa d u x n c p2 d2 u2) H := hP
  have hD : va_D A (wSk kI kT b so sn (va_up q 20 0) pa d u x n c p2 d2 u2) := hD
  refine lv_iload_n (pc := 5) hx hb dX2_gatherOpen_5 rfl (lv_at hl 2 rfl) ?_
  refine lv_istore (pc := 6) (lv' := [(4, .int (nI f)), (0, .ref (b 33)), (1, .ref (p2 0)), (2, .int (nI f)), (3, .int (nI t))]) hx hb dX2_gatherOpen_6 hl (by decide) rfl (fun ls hl => ?_)
  have lp_1 : ∀ (fuel : Nat) (j : Nat), t + 1 - f - j < fuel → (f + j ≤ t + 1) → ∀ (H : Heap) (locs : List Loc), va_P D vwCl (wSk kI kT b (dkA (d2 8) f so j) sn (va_up q 20 (nI (dkN (d2 8) f j))) pa d u x n c p2 d2 u2) H → va_D A (wSk kI kT b (dkA (d2 8) f so j) sn (va_up q 20 (nI (dkN (d2 8) f j))) pa d u x n c p2 d2 u2) → va_S A s.heap H locs → ∀ (ls : Array Slot), lv_has ls 5 [(0, .ref (b 33)), (1, .ref (p2 0)), (2, .int (nI f)), (3, .int (nI t)), (4, .int (nI (f + j)))] → W p l e (rmO 2 43) s m args below meth c0 H locs 0 0 Q (F0 m 8 ls []) := by
    intro fuel
    induction fuel with
    | zero => intro j hfuel; exact absurd hfuel (Nat.not_lt_zero _)
    | succ fuel ih_lp_1 =>
      intro j hfuel hj H locs hP hD hS ls hl
      have hdl : dkN (d2 8) f j ≤ j := cntP_le _ _
      refine lv_iload (pc := 8) hx hb dX2_gatherOpen_8 (lv_at hl 4 rfl) ?_
      refine lv_iload_n (pc := 10) hx hb dX2_gatherOpen_10 rfl (lv_at hl 3 rfl) ?_
      refine lv_icmp_gt (pc := 11) (tgt := 58) hx hb dX2_gatherOpen_11 (by decide) (fun c_2 => ?_) (fun c_2 => ?_)
      · skip
        have c_2n : t < (f + j) := (nI_ltI (a := t) (b := f + j) (by omega) (by omega)).mp c_2
        rw [hQ]; exact W.vret (pc := 58) hx hb hr (fun t9 ht _ => ⟨⟨rfl, by rw [ht]; exact (by have e9 : j = t + 1 - f := (by omega); rw [e9] at hP; exact hP)⟩, hS.F ht⟩) hS.2.2 dX2_gatherOpen_58 hlocks
      · skip
        have c_2n : ¬ t < (f + j) := fun hh => c_2 ((nI_ltI (a := t) (b := f + j) (by omega) (by omega)).mpr hh)
        refine lv_aload_n (pc := 14) hx hb dX2_gatherOpen_14 rfl (lv_at hl 0 rfl) ?_
        refine fget (pc := 15) (v := .int (nI (dkN (d2 8) f j))) hx hb hts hown hE hP fl_X2_39 0 rfl rfl dX2_gatherOpen_15 ?_
        refine lv_iconst (pc := 18) (v := 4) hx hb dX2_gatherOpen_18 (by decide) ?_
        refine lv_icmp_ge (pc := 19) (tgt := 58) hx hb dX2_gatherOpen_19 (by decide) (fun c_3 => ?_) (fun c_3 => ?_)
        · skip
          have c_3n : 4 ≤ (dkN (d2 8) f j) := (nI_leI (a := 4) (b := dkN (d2 8) f j) (by omega) (by omega)).mp c_3
          rw [hQ]; exact W.vret (pc := 58) hx hb hr (fun t9 ht _ => ⟨⟨rfl, by rw [ht]; exact (by have h8 : dkN (d2 8) f j ≤ dkN (d2 8) f (t + 1 - f) := cntP_mono (by omega); have h9 : dkN (d2 8) f j = dkN (d2 8) f (t + 1 - f) := (by omega); rw [dkA_same (k := t + 1 - f) (by omega) (cntP_same (by omega) h9), h9] at hP; exact hP)⟩, hS.F ht⟩) hS.2.2 dX2_gatherOpen_58 hlocks
        · skip
          have c_3n : ¬ 4 ≤ (dkN (d2 8) f j) := fun hh => c_3 ((nI_leI (a := 4) (b := dkN (d2 8) f j) (by omega) (by omega)).mpr hh)
          refine lv_aload_n (pc := 22) hx hb dX2_gatherOpen_22 rfl (lv_at hl 1 rfl) ?_
          refine lv_iload (pc := 23) hx hb dX2_gatherOpen_23 (lv_at hl 4 rfl) ?_
          refine rV (pc := 25) (rest := []) ⟨hx, hb, hml, hown, hts⟩ (k_X1_isDark (x9 := nI (f + j)) (pa := p2) (d := d2) (u := u2) (x := x) (n := n) (c := c) (nn := nn) (hn := (by first | assumption | omega)) (hn5 := (by first | assumption | omega)) (hok := (by first | assumption | omega))) cw_X2_62 ⟨(Nat.le_of_ble_eq_true rfl), (Nat.le_of_ble_eq_true rfl)⟩ hE hS (sub_P (wc := wPl kI kT p2 d2 u2 x n c) hP [17, 18, 19, 20, 21, 22, 23, 10, 11, 12, 13, 14, 15, 16] rfl) rfl rfl rfl rfl hl.1 rfl (Nat.le_of_ble_eq_true rfl) dX2_gatherOpen_25 ⟨Nat.le_refl _, Nat.le_refl _⟩ ?_
          refine W.eq (g2 := F0 m 28 ls [.int (bi (rOn (d2 8) (nI (f + j)) = -1))]) rfl ?_
          refine bif_eq (pc := 28) (tgt := 52) hx hb dX2_gatherOpen_28 (by decide) (fun c_4 => ?_) (fun c_4 => ?_)
          · skip
            refine lv_iinc (pc := 52) (v := nI (f + j + 1)) (lv' := [(4, .int (nI (f + j + 1))), (0, .ref (b 33)), (1, .ref (p2 0)), (2, .int (nI f)), (3, .int (nI t))]) hx hb dX2_gatherOpen_52 hl (k := 4) rfl (nI_add (f + j) 1) (by decide) rfl (fun ls hl => ?_)
            refine lv_goto (pc := 55) (tgt := 8) hx hb dX2_gatherOpen_55 (by decide) ?_
            exact ih_lp_1 (j + 1) (by omega) (by omega) _ _ (by rw [dkA, if_neg (by rw [rOn_at (by omega)] at c_4; exact c_4), show dkN (d2 8) f (j + 1) = dkN (d2 8) f j from cntP_f (by rw [rOn_at (by omega)] at c_4; exact c_4)]; exact hP) (by rw [dkA, if_neg (by rw [rOn_at (by omega)] at c_4; exact c_4), show dkN (d2 8) f (j + 1) = dkN (d2 8) f j from cntP_f (by rw [rOn_at (by omega)] at c_4; exact c_4)]; exact hD) hS ls (lv_sub hl [1, 2, 3, 4, 0] rfl)
          · skip
            refine lv_aload_n (pc := 31) hx hb dX2_gatherOpen_31 rfl (lv_at hl 0 rfl) ?_
            refine fget (pc := 32) (v := .ref (b 34)) hx hb hts hown hE hP fl_X2_9 0 rfl rfl dX2_gatherOpen_32 ?_
            refine lv_aload_n (pc := 35) hx hb dX2_gatherOpen_35 rfl (lv_at hl 0 rfl) ?_
            refine fget (pc := 36) (v := .int (nI (dkN (d2 8) f j))) hx hb hts hown hE hP fl_X2_39 0 rfl rfl dX2_gatherOpen_36 ?_
            refine lv_iload (pc := 39) hx hb dX2_gatherOpen_39 (lv_at hl 4 rfl) ?_
            refine astN (pc := 41) (f := dkA (d2 8) f so j) hx hb hE hP hD hS 1 rfl (dkN (d2 8) f j) (by omega) (by omega) dX2_gatherOpen_41 (fun H locs hP hD hS => ?_)
            have hP : va_P D vwCl (wSk kI kT b (upd (dkA (d2 8) f so j) (dkN (d2 8) f j) (nI (f + j))) sn (va_up q 20 (nI (dkN (d2 8) f j))) pa d u x n c p2 d2 u2) H := hP
            have hD : va_D A (wSk kI kT b (upd (dkA (d2 8) f so j) (dkN (d2 8) f j) (nI (f + j))) sn (va_up q 20 (nI (dkN (d2 8) f j))) pa d u x n c p2 d2 u2) := hD
            refine lv_aload_n (pc := 42) hx hb dX2_gatherOpen_42 rfl (lv_at hl 0 rfl) ?_
            refine lv_dup (pc := 43) hx hb dX2_gatherOpen_43 rfl ?_
            refine fget (pc := 44) (v := .int (nI (dkN (d2 8) f j))) hx hb hts hown hE hP fl_X2_39 0 rfl rfl dX2_gatherOpen_44 ?_
            refine lv_iconst (pc := 47) (v := 1) hx hb dX2_gatherOpen_47 (by decide) ?_
            refine iaddV (pc := 48) (v := nI (dkN (d2 8) f j + 1)) hx hb dX2_gatherOpen_48 (nI_add (dkN (d2 8) f j) (1)) ?_
            refine fput (pc := 49) (v := .int (nI (dkN (d2 8) f j + 1))) hx hb hts hown hE hP hD hS fp_X2_39 0 rfl rfl rfl (Nat.le_of_ble_eq_true rfl) dX2_gatherOpen_49 (fun H locs hP hD hS => ?_)
            have hP : va_P D vwCl (wSk kI kT b (upd (dkA (d2 8) f so j) (dkN (d2 8) f j) (nI (f + j))) sn (va_up q 20 (nI (dkN (d2 8) f j + 1))) pa d u x n c p2 d2 u2) H := hP
            have hD : va_D A (wSk kI kT b (upd (dkA (d2 8) f so j) (dkN (d2 8) f j) (nI (f + j))) sn (va_up q 20 (nI (dkN (d2 8) f j + 1))) pa d u x n c p2 d2 u2) := hD
            refine lv_iinc (pc := 52) (v := nI (f + j + 1)) (lv' := [(4, .int (nI (f + j + 1))), (0, .ref (b 33)), (1, .ref (p2 0)), (2, .int (nI f)), (3, .int (nI t))]) hx hb dX2_gatherOpen_52 hl (k := 4) rfl (nI_add (f + j) 1) (by decide) rfl (fun ls hl => ?_)
            refine lv_goto (pc := 55) (tgt := 8) hx hb dX2_gatherOpen_55 (by decide) ?_
            exact ih_lp_1 (j + 1) (by omega) (by omega) _ _ (by rw [dkA, if_pos (by rw [rOn_at (by omega)] at c_4; exact c_4), show dkN (d2 8) f (j + 1) = dkN (d2 8) f j + 1 from cntP_t (by rw [rOn_at (by omega)] at c_4; exact c_4)]; exact hP) (by rw [dkA, if_pos (by rw [rOn_at (by omega)] at c_4; exact c_4), show dkN (d2 8) f (j + 1) = dkN (d2 8) f j + 1 from cntP_t (by rw [rOn_at (by omega)] at c_4; exact c_4)]; exact hD) hS ls (lv_sub hl [1, 2, 3, 4, 0] rfl)
  exact lp_1 _ 0 (Nat.lt_succ_self _) (by omega) _ _ hP hD hS ls (lv_sub hl [1, 2, 3, 4, 0] rfl)
set_option maxRecDepth 100000 in
set_option maxHeartbeats 4000000 in
theorem k_X2_fill {b : Nat → Nat} {so : Nat → Int32} {sn : Nat → Int32} {q : Nat → Int32} {pa : Nat → Nat} {d : Nat → Nat → Int32} {u : Nat → Int32} {x : Nat → Nat} {n : Int32} {c : Nat → Nat → Int32} {p2 : Nat → Nat} {d2 : Nat → Nat → Int32} {u2 : Nat → Int32} (w : Nat) {nn : Nat} {dk : Nat} (hn : n = nI nn) (hn5 : nn ≤ 5) (hq20 : q 20 = nI dk) (hdk : dk ≤ 4) (hD4 : okD dk so) (hw : w < 100000) : MW l yX2_fill cX2_fill 5 none 0 0 D kB kI kT ks sk sv [.ref (b 33), .int (nI w)] (wSk kI kT b so sn q pa d u x n c p2 d2 u2) none (wSk kI kT b so sn q pa (va_up d 8 (fbR so nn dk (d 8) w)) u x n c p2 d2 u2) := by
  refine MW.go (by decide +kernel) (Nat.le_of_ble_eq_true rfl) ?_
  intro p e s m below meth c0 args Q ls A hQ hx hb hr hml hown hts hlocks hE hP hD hS hl
  have hl : lv_has ls 5 [(0, .ref (b 33)), (1, .int (nI w))] := hl
  have hown : s.vm.findClass RX2 = some m.cls := hown
  refine lv_aload_n (pc := 0) hx hb dX2_fill_0 rfl (lv_at hl 0 rfl) ?_
  refine fget (pc := 1) (v := .ref (x 7)) hx hb hts hown hE hP fl_X2_18 0 rfl rfl dX2_fill_1 ?_
  refine fget (pc := 4) (v := .int n) hx hb hts hown hE hP fl_X2_43 10 rfl rfl dX2_fill_4 ?_
  refine vEq (v := nI nn) hn ?_
  refine lv_iconst (pc := 7) (v := 1) hx hb dX2_fill_7 (by decide) ?_
  refine iaddV (pc := 8) (v := nI (nn + 1)) hx hb dX2_fill_8 (nI_add (nn) (1)) ?_
  refine lv_istore_n (pc := 9) (lv' := [(2, .int (nI (nn + 1))), (0, .ref (b 33)), (1, .int (nI w))]) hx hb dX2_fill_9 rfl hl (by decide) rfl (fun ls hl => ?_)
  refine lv_iload_n (pc := 10) hx hb dX2_fill_10 rfl (lv_at hl 2 rfl) ?_
  refine lv_istore_n (pc := 11) (lv' := [(3, .int (nI w)), (2, .int (nI (nn + 1))), (0, .ref (b 33)), (1, .int (nI w))]) hx hb dX2_fill_11 rfl hl (by decide) rfl (fun ls hl => ?_)
  refine lv_aload_n (pc := 12) hx hb dX2_fill_12 rfl (lv_at hl 2 rfl) ?_
  refine fget (pc := 13) (v := .int (q 20)) hx hb hts hown hE hP fl_X2_39 0 rfl rfl dX2_fill_13 ?_
  refine vEq (v := nI dk) hq20 ?_
  refine lv_iconst (pc := 16) (v := 1) hx hb dX2_fill_16 (by decide) ?_
  refine isubV (pc := 17) (v := nI dk - 1) hx hb dX2_fill_17 rfl ?_
  refine lv_istore (pc := 18) (lv' := [(4, .int (nI dk - 1)), (3, .int (nI w)), (2, .int (nI (nn + 1))), (0, .ref (b 33)), (1, .int (nI w))]) hx hb dX2_fill_18 hl (by decide) rfl (fun ls hl => ?_)
  have lp_1 : ∀ (fuel : Nat) (uu : Nat) (plc : Nat → Int32) (lf : Nat), uu < fuel → (uu ≤ dk) → (lf < 100000) → (fbR so nn dk (d 8) w = fbR so nn uu plc lf) → ∀ (H : Heap) (locs : List Loc), va_P D vwCl (wSk kI kT b so sn q pa (va_up d 8 plc) u x n c p2 d2 u2) H → va_D A (wSk kI kT b so sn q pa (va_up d 8 plc) u x n c p2 d2 u2) → va_S A s.heap H locs → ∀ (ls : Array Slot), lv_has ls 5 [(0, .ref (b 33)), (1, .int (nI w)), (2, .int (nI (nn + 1))), (3, .int (nI lf)), (4, .int (nI uu - 1))] → W p l e (rmO 0 0) s m args below meth c0 H locs 0 0 Q (F0 m 20 ls []) := by
    intro fuel
    induction fuel with
    | zero => intro uu plc lf hfuel; exact absurd hfuel (Nat.not_lt_zero _)
    | succ fuel ih_lp_1 =>
      intro uu plc lf hfuel hu hlf hR H locs hP hD hS ls hl
      refine lv_iload (pc := 20) hx hb dX2_fill_20 (lv_at hl 4 rfl) ?_
      refine lv_if_lt (pc := 22) (tgt := 55) hx hb dX2_fill_22 (by decide) (fun c_2 => ?_) (fun c_2 => ?_)
      · skip
        have hm0 : uu = 0 := (pm_lt (by omega)).mp c_2
        rw [hQ]; exact W.vret (pc := 55) hx hb hr (fun t9 ht _ => ⟨⟨rfl, by rw [ht]; exact by rw [hR, hm0]; exact hP⟩, hS.F ht⟩) hS.2.2 dX2_fill_55 hlocks
      · skip
        have hm1 : 0 < uu := Nat.pos_of_ne_zero (fun q => c_2 ((pm_lt (by omega)).mpr q))
        have hpm : nI uu - 1 = nI (uu - 1) := pm_eq hm1
        refine lv_aload_n (pc := 25) hx hb dX2_fill_25 rfl (lv_at hl 0 rfl) ?_
        refine fget (pc := 26) (v := .ref (pa 0)) hx hb hts hown hE hP fl_X2_22 0 rfl rfl dX2_fill_26 ?_
        refine fget (pc := 29) (v := .ref (pa 1)) hx hb hts hown hE hP fl_X2_30 3 rfl rfl dX2_fill_29 ?_
        refine lv_aload_n (pc := 32) hx hb dX2_fill_32 rfl (lv_at hl 0 rfl) ?_
        refine fget (pc := 33) (v := .ref (b 34)) hx hb hts hown hE hP fl_X2_9 0 rfl rfl dX2_fill_33 ?_
        refine lv_iload (pc := 36) hx hb dX2_fill_36 (lv_at hl 4 rfl) ?_
        refine vEq (v := nI (uu - 1)) hpm ?_
        refine aldN (pc := 38) (f := so) hx hb hE hP 1 rfl (uu - 1) (by omega) (by omega) dX2_fill_38 ?_
        refine lv_iload_n (pc := 39) hx hb dX2_fill_39 rfl (lv_at hl 3 rfl) ?_
        refine lv_iload_n (pc := 40) hx hb dX2_fill_40 rfl (lv_at hl 2 rfl) ?_
        refine iremV (pc := 41) (v := nI (lf % (nn + 1))) hx hb dX2_fill_41 (nI_ne0 (by omega) (by omega)) (pk_rem (by omega) (by omega) (by omega)) ?_
        refine lv_iconst (pc := 42) (v := 1) hx hb dX2_fill_42 (by decide) ?_
        refine isubV (pc := 43) (v := nI (lf % (nn + 1)) - 1) hx hb dX2_fill_43 rfl ?_
        refine astX (pc := 44) (f := plc) hx hb hE hP hD hS 4 rfl (by obtain ⟨i9, h1, h2⟩ := hD4 (uu - 1) (by omega); rw [h2]; exact vp_in_nI h1 (by omega)) dX2_fill_44 (fun H locs hP hD hS => ?_)
        have hP : va_P D vwCl (wSk kI kT b so sn q pa (va_up d 8 (upd plc (ix (so (uu - 1))) (nI (lf % (nn + 1)) - 1))) u x n c p2 d2 u2) H := hP
        have hD : va_D A (wSk kI kT b so sn q pa (va_up d 8 (upd plc (ix (so (uu - 1))) (nI (lf % (nn + 1)) - 1))) u x n c p2 d2 u2) := hD
        refine lv_iload_n (pc := 45) hx hb dX2_fill_45 rfl (lv_at hl 3 rfl) ?_
        refine lv_iload_n (pc := 46) hx hb dX2_fill_46 rfl (lv_at hl 2 rfl) ?_
        refine idivV (pc := 47) (v := nI (lf / (nn + 1))) hx hb dX2_fill_47 (nI_ne0 (by omega) (by omega)) (pk_div (by omega) (by omega) (by omega)) ?_
        refine lv_istore_n (pc := 48) (lv' := [(3, .int (nI (lf / (nn + 1)))), (0, .ref (b 33)), (1, .int (nI w)), (2, .int (nI (nn + 1))), (4, .int (nI uu - 1))]) hx hb dX2_fill_48 rfl hl (by decide) rfl (fun ls hl => ?_)
        refine lv_iinc (pc := 49) (v := nI (uu - 1) - 1) (lv' := [(4, .int (nI (uu - 1) - 1)), (3, .int (nI (lf / (nn + 1)))), (0, .ref (b 33)), (1, .int (nI w)), (2, .int (nI (nn + 1)))]) hx hb dX2_fill_49 hl (k := 4) rfl (by rw [hpm]; exact dec1 _) (by decide) rfl (fun ls hl => ?_)
        refine lv_goto (pc := 52) (tgt := 20) hx hb dX2_fill_52 (by decide) ?_
        exact ih_lp_1 (uu - 1) (upd plc (ix (so (uu - 1))) (nI (lf % (nn + 1)) - 1)) (lf / (nn + 1)) (by omega) (by omega) (Nat.lt_of_le_of_lt (Nat.div_le_self _ _) hlf) (by rw [hR]; obtain ⟨v8, rfl⟩ : ∃ v8, uu = v8 + 1 := ⟨uu - 1, by omega⟩; rfl) _ _ hP hD hS ls (lv_sub hl [2, 3, 4, 1, 0] rfl)
  exact lp_1 _ dk (d 8) w (Nat.lt_succ_self _) (by omega) hw rfl _ _ (by rw [va_up_same]; exact hP) (by rw [va_up_same]; exact hD) hS ls (lv_sub hl [3, 4, 2, 1, 0] rfl)
set_option maxRecDepth 100000 in
set_option maxHeartbeats 4000000 in
theorem k_X2_isBetter {b : Nat → Nat} {so : Nat → Int32} {sn : Nat → Int32} {q : Nat → Int32} {pa : Nat → Nat} {d : Nat → Nat → Int32} {u : Nat → Int32} {x : Nat → Nat} {n : Int32} {c : Nat → Nat → Int32} {p2 : Nat → Nat} {d2 : Nat → Nat → Int32} {u2 : Nat → Int32} : MR l yX2_isBetter cX2_isBetter 1 (some .boolean) 0 0 D kB kI kT ks sk sv [.ref (b 33)] (wSk kI kT b so sn q pa d u x n c p2 d2 u2) (some (.int (bi (u 58 < q 23 ∨ (u 58 = q 23 ∧ q 24 < u 59))))) := by
  refine MR.go (by decide +kernel) (Nat.le_of_ble_eq_true rfl) ?_
  intro p e s m below meth c0 args Q ls hQ hx hb hr hml hown hts hlocks hE hP hS hl
  have hl : lv_has ls 1 [(0, .ref (b 33))] := hl
  have hown : s.vm.findClass RX2 = some m.cls := hown
  refine lv_aload_n (pc := 0) hx hb dX2_isBetter_0 rfl (lv_at hl 0 rfl) ?_
  refine fget (pc := 1) (v := .ref (pa 0)) hx hb hts hown hE hP fl_X2_22 0 rfl rfl dX2_isBetter_1 ?_
  refine fget (pc := 4) (v := .int (u 58)) hx hb hts hown hE hP fl_X2_66 3 rfl rfl dX2_isBetter_4 ?_
  refine lv_aload_n (pc := 7) hx hb dX2_isBetter_7 rfl (lv_at hl 0 rfl) ?_
  refine fget (pc := 8) (v := .int (q 23)) hx hb hts hown hE hP fl_X2_69 0 rfl rfl dX2_isBetter_8 ?_
  refine lv_icmp_lt (pc := 11) (tgt := 42) hx hb dX2_isBetter_11 (by decide) (fun c_1 => ?_) (fun c_1 => ?_)
  · skip
    refine lv_iconst (pc := 42) (v := 1) hx hb dX2_isBetter_42 (by decide) ?_
    refine lv_goto (pc := 43) (tgt := 47) hx hb dX2_isBetter_43 (by decide) ?_
    rw [hQ]; exact W.zret (pc := 47) hx hb hr rfl (fun t9 ht _ => ⟨retI (bi_t (Or.inl c_1)), ht⟩) (fun _ h => nomatch h) dX2_isBetter_47 hlocks
  · skip
    refine lv_aload_n (pc := 14) hx hb dX2_isBetter_14 rfl (lv_at hl 0 rfl) ?_
    refine fget (pc := 15) (v := .ref (pa 0)) hx hb hts hown hE hP fl_X2_22 0 rfl rfl dX2_isBetter_15 ?_
    refine fget (pc := 18) (v := .int (u 58)) hx hb hts hown hE hP fl_X2_66 3 rfl rfl dX2_isBetter_18 ?_
    refine lv_aload_n (pc := 21) hx hb dX2_isBetter_21 rfl (lv_at hl 0 rfl) ?_
    refine fget (pc := 22) (v := .int (q 23)) hx hb hts hown hE hP fl_X2_69 0 rfl rfl dX2_isBetter_22 ?_
    refine lv_icmp_ne (pc := 25) (tgt := 46) hx hb dX2_isBetter_25 (by decide) (fun c_2 => ?_) (fun c_2 => ?_)
    · skip
      refine lv_iconst (pc := 46) (v := 0) hx hb dX2_isBetter_46 (by decide) ?_
      rw [hQ]; exact W.zret (pc := 47) hx hb hr rfl (fun t9 ht _ => ⟨retI (bi_f (fun q9 => q9.elim c_1 (fun q9 => c_2 q9.1))), ht⟩) (fun _ h => nomatch h) dX2_isBetter_47 hlocks
    · skip
      refine lv_aload_n (pc := 28) hx hb dX2_isBetter_28 rfl (lv_at hl 0 rfl) ?_
      refine fget (pc := 29) (v := .ref (pa 0)) hx hb hts hown hE hP fl_X2_22 0 rfl rfl dX2_isBetter_29 ?_
      refine fget (pc := 32) (v := .int (u 59)) hx hb hts hown hE hP fl_X2_70 3 rfl rfl dX2_isBetter_32 ?_
      refine lv_aload_n (pc := 35) hx hb dX2_isBetter_35 rfl (lv_at hl 0 rfl) ?_
      refine fget (pc := 36) (v := .int (q 24)) hx hb hts hown hE hP fl_X2_73 0 rfl rfl dX2_isBetter_36 ?_
      refine lv_icmp_le (pc := 39) (tgt := 46) hx hb dX2_isBetter_39 (by decide) (fun c_3 => ?_) (fun c_3 => ?_)
      · skip
        refine lv_iconst (pc := 46) (v := 0) hx hb dX2_isBetter_46 (by decide) ?_
        rw [hQ]; exact W.zret (pc := 47) hx hb hr rfl (fun t9 ht _ => ⟨retI (bi_f (fun q9 => q9.elim c_1 (fun q9 => absurd q9.2 (Int32.not_lt.mpr c_3)))), ht⟩) (fun _ h => nomatch h) dX2_isBetter_47 hlocks
      · skip
        refine lv_iconst (pc := 42) (v := 1) hx hb dX2_isBetter_42 (by decide) ?_
        refine lv_goto (pc := 43) (tgt := 47) hx hb dX2_isBetter_43 (by decide) ?_
        rw [hQ]; exact W.zret (pc := 47) hx hb hr rfl (fun t9 ht _ => ⟨retI (bi_t (Or.inr ⟨c_2, Int32.not_le.mp c_3⟩)), ht⟩) (fun _ h => nomatch h) dX2_isBetter_47 hlocks
set_option maxRecDepth 100000 in
set_option maxHeartbeats 4000000 in
theorem k_X2_keep {b : Nat → Nat} {so : Nat → Int32} {sn : Nat → Int32} {q : Nat → Int32} {pa : Nat → Nat} {d : Nat → Nat → Int32} {u : Nat → Int32} {x : Nat → Nat} {n : Int32} {c : Nat → Nat → Int32} {p2 : Nat → Nat} {d2 : Nat → Nat → Int32} {u2 : Nat → Int32} : MW l yX2_keep cX2_keep 1 none 1 40 D kB kI kT ks sk sv [.ref (b 33)] (wSk kI kT b so sn q pa d u x n c p2 d2 u2) none (wSk kI kT b so (ovN sn (d 8) 12) (va_up (va_up q 23 (u 58)) 24 (u 59)) pa d u x n c p2 d2 u2) := by
  refine MW.go (by decide +kernel) (Nat.le_of_ble_eq_true rfl) ?_
  intro p e s m below meth c0 args Q ls A hQ hx hb hr hml hown hts hlocks hE hP hD hS hl
  have hl : lv_has ls 1 [(0, .ref (b 33))] := hl
  have hown : s.vm.findClass RX2 = some m.cls := hown
  refine lv_aload_n (pc := 0) hx hb dX2_keep_0 rfl (lv_at hl 0 rfl) ?_
  refine lv_aload_n (pc := 1) hx hb dX2_keep_1 rfl (lv_at hl 0 rfl) ?_
  refine fget (pc := 2) (v := .ref (pa 0)) hx hb hts hown hE hP fl_X2_22 0 rfl rfl dX2_keep_2 ?_
  refine fget (pc := 5) (v := .int (u 58)) hx hb hts hown hE hP fl_X2_66 3 rfl rfl dX2_keep_5 ?_
  refine fput (pc := 8) (v := .int (u 58)) hx hb hts hown hE hP hD hS fp_X2_69 0 rfl rfl rfl (Nat.le_of_ble_eq_true rfl) dX2_keep_8 (fun H locs hP hD hS => ?_)
  have hP : va_P D vwCl (wSk kI kT b so sn (va_up q 23 (u 58)) pa d u x n c p2 d2 u2) H := hP
  have hD : va_D A (wSk kI kT b so sn (va_up q 23 (u 58)) pa d u x n c p2 d2 u2) := hD
  refine lv_aload_n (pc := 11) hx hb dX2_keep_11 rfl (lv_at hl 0 rfl) ?_
  refine lv_aload_n (pc := 12) hx hb dX2_keep_12 rfl (lv_at hl 0 rfl) ?_
  refine fget (pc := 13) (v := .ref (pa 0)) hx hb hts hown hE hP fl_X2_22 0 rfl rfl dX2_keep_13 ?_
  refine fget (pc := 16) (v := .int (u 59)) hx hb hts hown hE hP fl_X2_70 3 rfl rfl dX2_keep_16 ?_
  refine fput (pc := 19) (v := .int (u 59)) hx hb hts hown hE hP hD hS fp_X2_73 0 rfl rfl rfl (Nat.le_of_ble_eq_true rfl) dX2_keep_19 (fun H locs hP hD hS => ?_)
  have hP : va_P D vwCl (wSk kI kT b so sn (va_up (va_up q 23 (u 58)) 24 (u 59)) pa d u x n c p2 d2 u2) H := hP
  have hD : va_D A (wSk kI kT b so sn (va_up (va_up q 23 (u 58)) 24 (u 59)) pa d u x n c p2 d2 u2) := hD
  refine lv_aload_n (pc := 22) hx hb dX2_keep_22 rfl (lv_at hl 0 rfl) ?_
  refine fget (pc := 23) (v := .ref (pa 0)) hx hb hts hown hE hP fl_X2_22 0 rfl rfl dX2_keep_23 ?_
  refine fget (pc := 26) (v := .ref (pa 1)) hx hb hts hown hE hP fl_X2_30 3 rfl rfl dX2_keep_26 ?_
  refine lv_iconst (pc := 29) (v := 0) hx hb dX2_keep_29 (by decide) ?_
  refine lv_aload_n (pc := 30) hx hb dX2_keep_30 rfl (lv_at hl 0 rfl) ?_
  refine fget (pc := 31) (v := .ref (b 35)) hx hb hts hown hE hP fl_X2_15 0 rfl rfl dX2_keep_31 ?_
  refine lv_iconst (pc := 34) (v := 0) hx hb dX2_keep_34 (by decide) ?_
  refine lv_bipush (pc := 35) (v := 12) hx hb dX2_keep_35 (by decide) ?_
  refine acp (pc := 37) (rest := []) (f := d 8) (g := sn) (N := 12) hx hb hml hown acw_X2_33 hE hP hD hS 4 2 rfl rfl hl.1 ⟨by omega, by omega⟩ (by omega) (Nat.le_of_ble_eq_true rfl) (Nat.le_of_ble_eq_true rfl) hts dX2_keep_37 (fun H locs hP hD hS => ?_)
  have hP : va_P D vwCl (wSk kI kT b so (ovN sn (d 8) 12) (va_up (va_up q 23 (u 58)) 24 (u 59)) pa d u x n c p2 d2 u2) H := hP
  have hD : va_D A (wSk kI kT b so (ovN sn (d 8) 12) (va_up (va_up q 23 (u 58)) 24 (u 59)) pa d u x n c p2 d2 u2) := hD
  refine W.eq (g2 := F0 m 40 ls []) rfl ?_
  rw [hQ]; exact W.vret (pc := 40) hx hb hr (fun t9 ht _ => ⟨⟨rfl, by rw [ht]; exact hP⟩, hS.F ht⟩) hS.2.2 dX2_keep_40 hlocks
end
