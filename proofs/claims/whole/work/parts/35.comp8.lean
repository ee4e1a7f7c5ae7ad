section
variable {l : Launch} {D : va_G} {kB kI kT : ClassId} {ks sk sv : Nat}
def wSe2 (kI : ClassId) (x : Nat → Nat) (c : Nat → Nat → Int32) (sz : Int32) (y : Nat → Nat) (c2 : Nat → Nat → Int32) (sz2 : Int32) : va_W :=
  [(x 15, .inr (4, [.ref (x 16), .ref (x 17), .int sz])), (x 16, .inl (kI, 6, .inl (c 11))), (x 17, .inl (kI, 6, .inl (c 12))), (y 15, .inr (4, [.ref (y 16), .ref (y 17), .int sz2])), (y 16, .inl (kI, 6, .inl (c2 11))), (y 17, .inl (kI, 6, .inl (c2 12)))]
set_option maxRecDepth 100000 in
set_option maxHeartbeats 4000000 in
theorem k_X4_note {x : Nat → Nat} {c : Nat → Nat → Int32} {sz : Int32} (t : Int32) (lf : Int32) {sn : Nat} (hsz : sz = nI sn) (hsn : sn < 6) : MW l yX4_note cX4_note 3 none 0 0 D kB kI kT ks sk sv [.ref (x 15), .int t, .int lf] (wSe kI x c sz) none (wSe kI x (va_up (va_up c 11 (upd (c 11) sn t)) 12 (upd (c 12) sn lf)) (nI (sn + 1))) := by
  refine MW.go (by decide +kernel) (Nat.le_of_ble_eq_true rfl) ?_
  intro p e s m below meth c0 args Q ls A hQ hx hb hr hml hown hts hlocks hE hP hD hS hl
  have hl : lv_has ls 3 [(0, .ref (x 15)), (1, .int t), (2, .int lf)] := hl
  have hown : s.vm.findClass RX4 = some m.cls := hown
  refine lv_aload_n (pc := 0) hx hb dX4_note_0 rfl (lv_at hl 0 rfl) ?_
  refine fget (pc := 1) (v := .int sz) hx hb hts hown hE hP fl_X4_18 0 rfl rfl dX4_note_1 ?_
  refine vEq (v := nI sn) hsz ?_
  refine lv_if_lt (pc := 4) (tgt := 46) hx hb dX4_note_4 (by decide) (fun c_1 => ?_) (fun c_1 => ?_)
  · exact absurd c_1 (nI_pos (by omega))
  · skip
    have c_1n : ¬ sn < 0 := fun hh => c_1 ((nI_ltI (a := sn) (b := 0) (by omega) (by omega)).mpr hh)
    refine lv_aload_n (pc := 7) hx hb dX4_note_7 rfl (lv_at hl 0 rfl) ?_
    refine fget (pc := 8) (v := .int sz) hx hb hts hown hE hP fl_X4_18 0 rfl rfl dX4_note_8 ?_
    refine vEq (v := nI sn) hsz ?_
    refine lv_bipush (pc := 11) (v := 6) hx hb dX4_note_11 (by decide) ?_
    refine lv_icmp_ge (pc := 13) (tgt := 46) hx hb dX4_note_13 (by decide) (fun c_2 => ?_) (fun c_2 => ?_)
    · exact absurd ((nI_leI (a := 6) (b := sn) (by omega) (by omega)).mp c_2) (by omega)
    · skip
      have c_2n : ¬ 6 ≤ sn := fun hh => c_2 ((nI_leI (a := 6) (b := sn) (by omega) (by omega)).mpr hh)
      refine lv_aload_n (pc := 16) hx hb dX4_note_16 rfl (lv_at hl 0 rfl) ?_
      refine fget (pc := 17) (v := .ref (x 16)) hx hb hts hown hE hP fl_X4_9 0 rfl rfl dX4_note_17 ?_
      refine lv_aload_n (pc := 20) hx hb dX4_note_20 rfl (lv_at hl 0 rfl) ?_
      refine fget (pc := 21) (v := .int sz) hx hb hts hown hE hP fl_X4_18 0 rfl rfl dX4_note_21 ?_
      refine vEq (v := nI sn) hsz ?_
      refine lv_iload_n (pc := 24) hx hb dX4_note_24 rfl (lv_at hl 1 rfl) ?_
      refine astN (pc := 25) (f := c 11) hx hb hE hP hD hS 1 rfl (sn) (by omega) (by omega) dX4_note_25 (fun H locs hP hD hS => ?_)
      have hP : va_P D vwCl (wSe kI x (va_up c 11 (upd (c 11) sn t)) sz) H := hP
      have hD : va_D A (wSe kI x (va_up c 11 (upd (c 11) sn t)) sz) := hD
      refine lv_aload_n (pc := 26) hx hb dX4_note_26 rfl (lv_at hl 0 rfl) ?_
      refine fget (pc := 27) (v := .ref (x 17)) hx hb hts hown hE hP fl_X4_15 0 rfl rfl dX4_note_27 ?_
      refine lv_aload_n (pc := 30) hx hb dX4_note_30 rfl (lv_at hl 0 rfl) ?_
      refine fget (pc := 31) (v := .int sz) hx hb hts hown hE hP fl_X4_18 0 rfl rfl dX4_note_31 ?_
      refine vEq (v := nI sn) hsz ?_
      refine lv_iload_n (pc := 34) hx hb dX4_note_34 rfl (lv_at hl 2 rfl) ?_
      refine astN (pc := 35) (f := c 12) hx hb hE hP hD hS 2 rfl (sn) (by omega) (by omega) dX4_note_35 (fun H locs hP hD hS => ?_)
      have hP : va_P D vwCl (wSe kI x (va_up (va_up c 11 (upd (c 11) sn t)) 12 (upd (c 12) sn lf)) sz) H := hP
      have hD : va_D A (wSe kI x (va_up (va_up c 11 (upd (c 11) sn t)) 12 (upd (c 12) sn lf)) sz) := hD
      refine lv_aload_n (pc := 36) hx hb dX4_note_36 rfl (lv_at hl 0 rfl) ?_
      refine lv_dup (pc := 37) hx hb dX4_note_37 rfl ?_
      refine fget (pc := 38) (v := .int sz) hx hb hts hown hE hP fl_X4_18 0 rfl rfl dX4_note_38 ?_
      refine vEq (v := nI sn) hsz ?_
      refine lv_iconst (pc := 41) (v := 1) hx hb dX4_note_41 (by decide) ?_
      refine iaddV (pc := 42) (v := nI (sn + 1)) hx hb dX4_note_42 (nI_add (sn) (1)) ?_
      refine fput (pc := 43) (v := .int (nI (sn + 1))) hx hb hts hown hE hP hD hS fp_X4_18 0 rfl rfl rfl (Nat.le_of_ble_eq_true rfl) dX4_note_43 (fun H locs hP hD hS => ?_)
      have hP : va_P D vwCl (wSe kI x (va_up (va_up c 11 (upd (c 11) sn t)) 12 (upd (c 12) sn lf)) (nI (sn + 1))) H := hP
      have hD : va_D A (wSe kI x (va_up (va_up c 11 (upd (c 11) sn t)) 12 (upd (c 12) sn lf)) (nI (sn + 1))) := hD
      rw [hQ]; exact W.vret (pc := 46) hx hb hr (fun t9 ht _ => ⟨⟨rfl, by rw [ht]; exact hP⟩, hS.F ht⟩) hS.2.2 dX4_note_46 hlocks
set_option maxRecDepth 100000 in
set_option maxHeartbeats 4000000 in
theorem k_X4_sortsOf {x : Nat → Nat} {c : Nat → Nat → Int32} {sz : Int32} (t : Int32) {sn : Nat} (hsz : sz = nI sn) (hsn : sn ≤ 6) : MR l yX4_sortsOf cX4_sortsOf 4 (some .int) 0 0 D kB kI kT ks sk sv [.ref (x 15), .int t] (wSe kI x c sz) (some (.int (andS (c 11) (c 12) t sn))) := by
  refine MR.go (by decide +kernel) (Nat.le_of_ble_eq_true rfl) ?_
  intro p e s m below meth c0 args Q ls hQ hx hb hr hml hown hts hlocks hE hP hS hl
  have hl : lv_has ls 4 [(0, .ref (x 15)), (1, .int t)] := hl
  have hown : s.vm.findClass RX4 = some m.cls := hown
  refine lv_bipush (pc := 0) (v := 31) hx hb dX4_sortsOf_0 (by decide) ?_
  refine lv_istore_n (pc := 2) (lv' := [(2, .int 31), (0, .ref (x 15)), (1, .int t)]) hx hb dX4_sortsOf_2 rfl hl (by decide) rfl (fun ls hl => ?_)
  refine lv_iconst (pc := 3) (v := 0) hx hb dX4_sortsOf_3 (by decide) ?_
  refine lv_istore_n (pc := 4) (lv' := [(3, .int 0), (2, .int 31), (0, .ref (x 15)), (1, .int t)]) hx hb dX4_sortsOf_4 rfl hl (by decide) rfl (fun ls hl => ?_)
  have lp_1 : ∀ (fuel : Nat) (k : Nat), sn - k < fuel → (k ≤ sn) → ∀ (ls : Array Slot), lv_has ls 4 [(0, .ref (x 15)), (1, .int t), (2, .int (andS (c 11) (c 12) t k)), (3, .int (nI k))] → W p l e (rmO 0 0) s m args below meth c0 s.heap [] 0 0 Q (F0 m 5 ls []) := by
    intro fuel
    induction fuel with
    | zero => intro k hfuel; exact absurd hfuel (Nat.not_lt_zero _)
    | succ fuel ih_lp_1 =>
      intro k hfuel hk ls hl
      refine lv_iload_n (pc := 5) hx hb dX4_sortsOf_5 rfl (lv_at hl 3 rfl) ?_
      refine lv_aload_n (pc := 6) hx hb dX4_sortsOf_6 rfl (lv_at hl 0 rfl) ?_
      refine fget (pc := 7) (v := .int sz) hx hb hts hown hE hP fl_X4_18 0 rfl rfl dX4_sortsOf_7 ?_
      refine vEq (v := nI sn) hsz ?_
      refine lv_icmp_ge (pc := 10) (tgt := 38) hx hb dX4_sortsOf_10 (by decide) (fun c_2 => ?_) (fun c_2 => ?_)
      · skip
        have c_2n : sn ≤ k := (nI_leI (a := sn) (b := k) (by omega) (by omega)).mp c_2
        refine lv_iload_n (pc := 38) hx hb dX4_sortsOf_38 rfl (lv_at hl 2 rfl) ?_
        rw [hQ]; exact W.iret (pc := 39) hx hb hr (fun t9 ht _ => ⟨retI (by rw [show k = sn by omega]), ht⟩) (fun _ h => nomatch h) dX4_sortsOf_39 hlocks
      · skip
        have c_2n : ¬ sn ≤ k := fun hh => c_2 ((nI_leI (a := sn) (b := k) (by omega) (by omega)).mpr hh)
        refine lv_aload_n (pc := 13) hx hb dX4_sortsOf_13 rfl (lv_at hl 0 rfl) ?_
        refine fget (pc := 14) (v := .ref (x 16)) hx hb hts hown hE hP fl_X4_9 0 rfl rfl dX4_sortsOf_14 ?_
        refine lv_iload_n (pc := 17) hx hb dX4_sortsOf_17 rfl (lv_at hl 3 rfl) ?_
        refine aldN (pc := 18) (f := c 11) hx hb hE hP 1 rfl (k) (by omega) (by omega) dX4_sortsOf_18 ?_
        refine lv_iload_n (pc := 19) hx hb dX4_sortsOf_19 rfl (lv_at hl 1 rfl) ?_
        refine lv_icmp_ne (pc := 20) (tgt := 32) hx hb dX4_sortsOf_20 (by decide) (fun c_3 => ?_) (fun c_3 => ?_)
        · skip
          refine lv_iinc (pc := 32) (v := nI (k + 1)) (lv' := [(3, .int (nI (k + 1))), (0, .ref (x 15)), (1, .int t), (2, .int (andS (c 11) (c 12) t k))]) hx hb dX4_sortsOf_32 hl (k := 3) rfl (nI_add (k) 1) (by decide) rfl (fun ls hl => ?_)
          refine lv_goto (pc := 35) (tgt := 5) hx hb dX4_sortsOf_35 (by decide) ?_
          exact ih_lp_1 (k + 1) (by omega) (by omega) ls (by rw [show (andS (c 11) (c 12) t (k + 1) : Int32) = andS (c 11) (c 12) t k from (by simp [andS, c_2, c_3])]; exact lv_sub hl [1, 2, 3, 0] rfl)
        · skip
          refine lv_iload_n (pc := 23) hx hb dX4_sortsOf_23 rfl (lv_at hl 2 rfl) ?_
          refine lv_aload_n (pc := 24) hx hb dX4_sortsOf_24 rfl (lv_at hl 0 rfl) ?_
          refine fget (pc := 25) (v := .ref (x 17)) hx hb hts hown hE hP fl_X4_15 0 rfl rfl dX4_sortsOf_25 ?_
          refine lv_iload_n (pc := 28) hx hb dX4_sortsOf_28 rfl (lv_at hl 3 rfl) ?_
          refine aldN (pc := 29) (f := c 12) hx hb hE hP 2 rfl (k) (by omega) (by omega) dX4_sortsOf_29 ?_
          refine lv_iand (pc := 30) hx hb dX4_sortsOf_30 ?_
          refine lv_istore_n (pc := 31) (lv' := [(2, .int ((andS (c 11) (c 12) t k) &&& ((c 12) k))), (0, .ref (x 15)), (1, .int t), (3, .int (nI k))]) hx hb dX4_sortsOf_31 rfl hl (by decide) rfl (fun ls hl => ?_)
          refine lv_iinc (pc := 32) (v := nI (k + 1)) (lv' := [(3, .int (nI (k + 1))), (2, .int ((andS (c 11) (c 12) t k) &&& ((c 12) k))), (0, .ref (x 15)), (1, .int t)]) hx hb dX4_sortsOf_32 hl (k := 3) rfl (nI_add (k) 1) (by decide) rfl (fun ls hl => ?_)
          refine lv_goto (pc := 35) (tgt := 5) hx hb dX4_sortsOf_35 (by decide) ?_
          exact ih_lp_1 (k + 1) (by omega) (by omega) ls (by rw [show (andS (c 11) (c 12) t (k + 1) : Int32) = (andS (c 11) (c 12) t k) &&& ((c 12) k) from (by simp [andS, c_2, c_3])]; exact lv_sub hl [2, 3, 1, 0] rfl)
  exact lp_1 _ 0 (Nat.lt_succ_self _) (by omega) ls (lv_sub hl [2, 3, 1, 0] rfl)
set_option maxRecDepth 100000 in
set_option maxHeartbeats 4000000 in
theorem k_X4_copy {x : Nat → Nat} {c : Nat → Nat → Int32} {sz : Int32} {y : Nat → Nat} {c2 : Nat → Nat → Int32} {sz2 : Int32} : MW l yX4_copy cX4_copy 2 none 1 40 D kB kI kT ks sk sv [.ref (x 15), .ref (y 15)] (wSe2 kI x c sz y c2 sz2) none (wSe2 kI x (va_up (va_up c 11 (ovN (c 11) (c2 11) 6)) 12 (ovN (c 12) (c2 12) 6)) sz2 y c2 sz2) := by
  refine MW.go (by decide +kernel) (Nat.le_of_ble_eq_true rfl) ?_
  intro p e s m below meth c0 args Q ls A hQ hx hb hr hml hown hts hlocks hE hP hD hS hl
  have hl : lv_has ls 2 [(0, .ref (x 15)), (1, .ref (y 15))] := hl
  have hown : s.vm.findClass RX4 = some m.cls := hown
  refine lv_aload_n (pc := 0) hx hb dX4_copy_0 rfl (lv_at hl 0 rfl) ?_
  refine lv_aload_n (pc := 1) hx hb dX4_copy_1 rfl (lv_at hl 1 rfl) ?_
  refine fget (pc := 2) (v := .int sz2) hx hb hts hown hE hP fl_X4_18 3 rfl rfl dX4_copy_2 ?_
  refine fput (pc := 5) (v := .int sz2) hx hb hts hown hE hP hD hS fp_X4_18 0 rfl rfl rfl (Nat.le_of_ble_eq_true rfl) dX4_copy_5 (fun H locs hP hD hS => ?_)
  have hP : va_P D vwCl (wSe2 kI x c sz2 y c2 sz2) H := hP
  have hD : va_D A (wSe2 kI x c sz2 y c2 sz2) := hD
  refine lv_aload_n (pc := 8) hx hb dX4_copy_8 rfl (lv_at hl 1 rfl) ?_
  refine fget (pc := 9) (v := .ref (y 16)) hx hb hts hown hE hP fl_X4_9 3 rfl rfl dX4_copy_9 ?_
  refine lv_iconst (pc := 12) (v := 0) hx hb dX4_copy_12 (by decide) ?_
  refine lv_aload_n (pc := 13) hx hb dX4_copy_13 rfl (lv_at hl 0 rfl) ?_
  refine fget (pc := 14) (v := .ref (x 16)) hx hb hts hown hE hP fl_X4_9 0 rfl rfl dX4_copy_14 ?_
  refine lv_iconst (pc := 17) (v := 0) hx hb dX4_copy_17 (by decide) ?_
  refine lv_bipush (pc := 18) (v := 6) hx hb dX4_copy_18 (by decide) ?_
  refine acp (pc := 20) (rest := []) (f := c2 11) (g := c 11) (N := 6) hx hb hml hown acw_X4_22 hE hP hD hS 4 1 rfl rfl hl.1 ⟨by omega, by omega⟩ (by omega) (Nat.le_of_ble_eq_true rfl) (Nat.le_of_ble_eq_true rfl) hts dX4_copy_20 (fun H locs hP hD hS => ?_)
  have hP : va_P D vwCl (wSe2 kI x (va_up c 11 (ovN (c 11) (c2 11) 6)) sz2 y c2 sz2) H := hP
  have hD : va_D A (wSe2 kI x (va_up c 11 (ovN (c 11) (c2 11) 6)) sz2 y c2 sz2) := hD
  refine W.eq (g2 := F0 m 23 ls []) rfl ?_
  refine lv_aload_n (pc := 23) hx hb dX4_copy_23 rfl (lv_at hl 1 rfl) ?_
  refine fget (pc := 24) (v := .ref (y 17)) hx hb hts hown hE hP fl_X4_15 3 rfl rfl dX4_copy_24 ?_
  refine lv_iconst (pc := 27) (v := 0) hx hb dX4_copy_27 (by decide) ?_
  refine lv_aload_n (pc := 28) hx hb dX4_copy_28 rfl (lv_at hl 0 rfl) ?_
  refine fget (pc := 29) (v := .ref (x 17)) hx hb hts hown hE hP fl_X4_15 0 rfl rfl dX4_copy_29 ?_
  refine lv_iconst (pc := 32) (v := 0) hx hb dX4_copy_32 (by decide) ?_
  refine lv_bipush (pc := 33) (v := 6) hx hb dX4_copy_33 (by decide) ?_
  refine acp (pc := 35) (rest := []) (f := c2 12) (g := c 12) (N := 6) hx hb hml hown acw_X4_22 hE hP hD hS 5 2 rfl rfl hl.1 ⟨by omega, by omega⟩ (by omega) (Nat.le_of_ble_eq_true rfl) (Nat.le_of_ble_eq_true rfl) hts dX4_copy_35 (fun H locs hP hD hS => ?_)
  have hP : va_P D vwCl (wSe2 kI x (va_up (va_up c 11 (ovN (c 11) (c2 11) 6)) 12 (ovN (c 12) (c2 12) 6)) sz2 y c2 sz2) H := hP
  have hD : va_D A (wSe2 kI x (va_up (va_up c 11 (ovN (c 11) (c2 11) 6)) 12 (ovN (c 12) (c2 12) 6)) sz2 y c2 sz2) := hD
  refine W.eq (g2 := F0 m 38 ls []) rfl ?_
  rw [hQ]; exact W.vret (pc := 38) hx hb hr (fun t9 ht _ => ⟨⟨rfl, by rw [ht]; exact hP⟩, hS.F ht⟩) hS.2.2 dX4_copy_38 hlocks
set_option maxRecDepth 100000 in
set_option maxHeartbeats 4000000 in
theorem k_X0_put {b : Nat → Nat} {cd : Nat → Int32} {ln : Int32} (code : Int32) {pn : Nat} (hln : ln = nI pn) (hpn : pn < 40) : MW l yX0_put cX0_put 2 none 0 0 D kB kI kT ks sk sv [.ref (b 31), .int code] (wPg kI b cd ln) none (wPg kI b (upd cd pn code) (nI (pn + 1))) := by
  refine MW.go (by decide +kernel) (Nat.le_of_ble_eq_true rfl) ?_
  intro p e s m below meth c0 args Q ls A hQ hx hb hr hml hown hts hlocks hE hP hD hS hl
  have hl : lv_has ls 2 [(0, .ref (b 31)), (1, .int code)] := hl
  have hown : s.vm.findClass RX0 = some m.cls := hown
  refine lv_aload_n (pc := 0) hx hb dX0_put_0 rfl (lv_at hl 0 rfl) ?_
  refine fget (pc := 1) (v := .int ln) hx hb hts hown hE hP fl_X0_15 0 rfl rfl dX0_put_1 ?_
  refine vEq (v := nI pn) hln ?_
  refine lv_if_lt (pc := 4) (tgt := 36) hx hb dX0_put_4 (by decide) (fun c_1 => ?_) (fun c_1 => ?_)
  · exact absurd c_1 (nI_pos (by omega))
  · skip
    have c_1n : ¬ pn < 0 := fun hh => c_1 ((nI_ltI (a := pn) (b := 0) (by omega) (by omega)).mpr hh)
    refine lv_aload_n (pc := 7) hx hb dX0_put_7 rfl (lv_at hl 0 rfl) ?_
    refine fget (pc := 8) (v := .int ln) hx hb hts hown hE hP fl_X0_15 0 rfl rfl dX0_put_8 ?_
    refine vEq (v := nI pn) hln ?_
    refine lv_bipush (pc := 11) (v := 40) hx hb dX0_put_11 (by decide) ?_
    refine lv_icmp_ge (pc := 13) (tgt := 36) hx hb dX0_put_13 (by decide) (fun c_2 => ?_) (fun c_2 => ?_)
    · exact absurd ((nI_leI (a := 40) (b := pn) (by omega) (by omega)).mp c_2) (by omega)
    · skip
      have c_2n : ¬ 40 ≤ pn := fun hh => c_2 ((nI_leI (a := 40) (b := pn) (by omega) (by omega)).mpr hh)
      refine lv_aload_n (pc := 16) hx hb dX0_put_16 rfl (lv_at hl 0 rfl) ?_
      refine fget (pc := 17) (v := .ref (b 32)) hx hb hts hown hE hP fl_X0_11 0 rfl rfl dX0_put_17 ?_
      refine lv_aload_n (pc := 20) hx hb dX0_put_20 rfl (lv_at hl 0 rfl) ?_
      refine fget (pc := 21) (v := .int ln) hx hb hts hown hE hP fl_X0_15 0 rfl rfl dX0_put_21 ?_
      refine vEq (v := nI pn) hln ?_
      refine lv_iload_n (pc := 24) hx hb dX0_put_24 rfl (lv_at hl 1 rfl) ?_
      refine astN (pc := 25) (f := cd) hx hb hE hP hD hS 1 rfl (pn) (by omega) (by omega) dX0_put_25 (fun H locs hP hD hS => ?_)
      have hP : va_P D vwCl (wPg kI b (upd cd pn code) ln) H := hP
      have hD : va_D A (wPg kI b (upd cd pn code) ln) := hD
      refine lv_aload_n (pc := 26) hx hb dX0_put_26 rfl (lv_at hl 0 rfl) ?_
      refine lv_dup (pc := 27) hx hb dX0_put_27 rfl ?_
      refine fget (pc := 28) (v := .int ln) hx hb hts hown hE hP fl_X0_15 0 rfl rfl dX0_put_28 ?_
      refine vEq (v := nI pn) hln ?_
      refine lv_iconst (pc := 31) (v := 1) hx hb dX0_put_31 (by decide) ?_
      refine iaddV (pc := 32) (v := nI (pn + 1)) hx hb dX0_put_32 (nI_add (pn) (1)) ?_
      refine fput (pc := 33) (v := .int (nI (pn + 1))) hx hb hts hown hE hP hD hS fp_X0_15 0 rfl rfl rfl (Nat.le_of_ble_eq_true rfl) dX0_put_33 (fun H locs hP hD hS => ?_)
      have hP : va_P D vwCl (wPg kI b (upd cd pn code) (nI (pn + 1))) H := hP
      have hD : va_D A (wPg kI b (upd cd pn code) (nI (pn + 1))) := hD
      rw [hQ]; exact W.vret (pc := 36) hx hb hr (fun t9 ht _ => ⟨⟨rfl, by rw [ht]; exact hP⟩, hS.F ht⟩) hS.2.2 dX0_put_36 hlocks
set_option maxRecDepth 100000 in
set_option maxHeartbeats 4000000 in
theorem k_X0_isWithin {b : Nat → Nat} {cd : Nat → Int32} {ln : Int32} (k : Nat) (lo : Int32) (hi : Int32) (hk : k < 40) : MR l yX0_isWithin cX0_isWithin 4 (some .boolean) 0 0 D kB kI kT ks sk sv [.ref (b 31), .int (nI k), .int lo, .int hi] (wPg kI b cd ln) (some (.int (bi (inR (cd k) lo hi)))) := by
  refine MR.go (by decide +kernel) (Nat.le_of_ble_eq_true rfl) ?_
  intro p e s m below meth c0 args Q ls hQ hx hb hr hml hown hts hlocks hE hP hS hl
  have hl : lv_has ls 4 [(0, .ref (b 31)), (1, .int (nI k)), (2, .int lo), (3, .int hi)] := hl
  have hown : s.vm.findClass RX0 = some m.cls := hown
  refine lv_aload_n (pc := 0) hx hb dX0_isWithin_0 rfl (lv_at hl 0 rfl) ?_
  refine fget (pc := 1) (v := .ref (b 32)) hx hb hts hown hE hP fl_X0_11 0 rfl rfl dX0_isWithin_1 ?_
  refine lv_iload_n (pc := 4) hx hb dX0_isWithin_4 rfl (lv_at hl 1 rfl) ?_
  refine aldN (pc := 5) (f := cd) hx hb hE hP 1 rfl (k) (by omega) (by omega) dX0_isWithin_5 ?_
  refine lv_iload_n (pc := 6) hx hb dX0_isWithin_6 rfl (lv_at hl 2 rfl) ?_
  refine lv_icmp_lt (pc := 7) (tgt := 24) hx hb dX0_isWithin_7 (by decide) (fun c_1 => ?_) (fun c_1 => ?_)
  · skip
    refine lv_iconst (pc := 24) (v := 0) hx hb dX0_isWithin_24 (by decide) ?_
    rw [hQ]; exact W.zret (pc := 25) hx hb hr rfl (fun t9 ht _ => ⟨retI (bi_f (fun q => absurd c_1 (Int32.not_lt.mpr q.1))), ht⟩) (fun _ h => nomatch h) dX0_isWithin_25 hlocks
  · skip
    refine lv_aload_n (pc := 10) hx hb dX0_isWithin_10 rfl (lv_at hl 0 rfl) ?_
    refine fget (pc := 11) (v := .ref (b 32)) hx hb hts hown hE hP fl_X0_11 0 rfl rfl dX0_isWithin_11 ?_
    refine lv_iload_n (pc := 14) hx hb dX0_isWithin_14 rfl (lv_at hl 1 rfl) ?_
    refine aldN (pc := 15) (f := cd) hx hb hE hP 1 rfl (k) (by omega) (by omega) dX0_isWithin_15 ?_
    refine lv_iload_n (pc := 16) hx hb dX0_isWithin_16 rfl (lv_at hl 3 rfl) ?_
    refine lv_icmp_gt (pc := 17) (tgt := 24) hx hb dX0_isWithin_17 (by decide) (fun c_2 => ?_) (fun c_2 => ?_)
    · skip
      refine lv_iconst (pc := 24) (v := 0) hx hb dX0_isWithin_24 (by decide) ?_
      rw [hQ]; exact W.zret (pc := 25) hx hb hr rfl (fun t9 ht _ => ⟨retI (bi_f (fun q => absurd c_2 (Int32.not_lt.mpr q.2))), ht⟩) (fun _ h => nomatch h) dX0_isWithin_25 hlocks
    · skip
      refine lv_iconst (pc := 20) (v := 1) hx hb dX0_isWithin_20 (by decide) ?_
      refine lv_goto (pc := 21) (tgt := 25) hx hb dX0_isWithin_21 (by decide) ?_
      rw [hQ]; exact W.zret (pc := 25) hx hb hr rfl (fun t9 ht _ => ⟨retI (bi_t ⟨Int32.not_lt.mp c_1, Int32.not_lt.mp c_2⟩), ht⟩) (fun _ h => nomatch h) dX0_isWithin_25 hlocks
set_option maxRecDepth 100000 in
set_option maxHeartbeats 4000000 in
theorem k_X0_isPlan {b : Nat → Nat} {cd : Nat → Int32} {ln : Int32} (ti : Int32) {pn : Nat} (hln : ln = nI pn) (hpn : pn ≤ 40) : MR l yX0_isPlan cX0_isPlan 3 (some .boolean) 1 23 D kB kI kT ks sk sv [.ref (b 31), .int ti] (wPg kI b cd ln) (some (.int (bi (pn = 12 ∧ allB (fun i => decide (cd i = 46 ∨ inR (cd i) 48 (48 + ti - 1))) 12 = true)))) := by
  refine MR.go (by decide +kernel) (Nat.le_of_ble_eq_true rfl) ?_
  intro p e s m below meth c0 args Q ls hQ hx hb hr hml hown hts hlocks hE hP hS hl
  have hl : lv_has ls 3 [(0, .ref (b 31)), (1, .int ti)] := hl
  have hown : s.vm.findClass RX0 = some m.cls := hown
  refine lv_aload_n (pc := 0) hx hb dX0_isPlan_0 rfl (lv_at hl 0 rfl) ?_
  refine fget (pc := 1) (v := .int ln) hx hb hts hown hE hP fl_X0_15 0 rfl rfl dX0_isPlan_1 ?_
  refine vEq (v := nI pn) hln ?_
  refine lv_bipush (pc := 4) (v := 12) hx hb dX0_isPlan_4 (by decide) ?_
  refine lv_icmp_eq (pc := 6) (tgt := 11) hx hb dX0_isPlan_6 (by decide) (fun c_1 => ?_) (fun c_1 => ?_)
  · skip
    have c_1n : pn = 12 := (nI_eq (a := pn) (b := 12) (by omega) (by omega)).mp c_1
    refine lv_iconst (pc := 11) (v := 0) hx hb dX0_isPlan_11 (by decide) ?_
    refine lv_istore_n (pc := 12) (lv' := [(2, .int 0), (0, .ref (b 31)), (1, .int ti)]) hx hb dX0_isPlan_12 rfl hl (by decide) rfl (fun ls hl => ?_)
    have lp_2 : ∀ (fuel : Nat) (i : Nat), 12 - i < fuel → (i ≤ 12) → (allB (fun i => decide (cd i = 46 ∨ inR (cd i) 48 (48 + ti - 1))) i = true) → ∀ (ls : Array Slot), lv_has ls 3 [(0, .ref (b 31)), (1, .int ti), (2, .int (nI i))] → W p l e (rmO 1 23) s m args below meth c0 s.heap [] 0 0 Q (F0 m 13 ls []) := by
      intro fuel
      induction fuel with
      | zero => intro i hfuel; exact absurd hfuel (Nat.not_lt_zero _)
      | succ fuel ih_lp_2 =>
        intro i hfuel hi hal ls hl
        refine lv_iload_n (pc := 13) hx hb dX0_isPlan_13 rfl (lv_at hl 2 rfl) ?_
        refine lv_bipush (pc := 14) (v := 12) hx hb dX0_isPlan_14 (by decide) ?_
        refine lv_icmp_ge (pc := 16) (tgt := 54) hx hb dX0_isPlan_16 (by decide) (fun c_3 => ?_) (fun c_3 => ?_)
        · skip
          have c_3n : 12 ≤ i := (nI_leI (a := 12) (b := i) (by omega) (by omega)).mp c_3
          refine lv_iconst (pc := 54) (v := 1) hx hb dX0_isPlan_54 (by decide) ?_
          rw [hQ]; exact W.zret (pc := 55) hx hb hr rfl (fun t9 ht _ => ⟨retI (bi_t ⟨c_1n, by rw [show (12 : Nat) = i by omega]; exact hal⟩), ht⟩) (fun _ h => nomatch h) dX0_isPlan_55 hlocks
        · skip
          have c_3n : ¬ 12 ≤ i := fun hh => c_3 ((nI_leI (a := 12) (b := i) (by omega) (by omega)).mpr hh)
          refine lv_aload_n (pc := 19) hx hb dX0_isPlan_19 rfl (lv_at hl 0 rfl) ?_
          refine fget (pc := 20) (v := .ref (b 32)) hx hb hts hown hE hP fl_X0_11 0 rfl rfl dX0_isPlan_20 ?_
          refine lv_iload_n (pc := 23) hx hb dX0_isPlan_23 rfl (lv_at hl 2 rfl) ?_
          refine aldN (pc := 24) (f := cd) hx hb hE hP 1 rfl (i) (by omega) (by omega) dX0_isPlan_24 ?_
          refine lv_bipush (pc := 25) (v := 46) hx hb dX0_isPlan_25 (by decide) ?_
          refine lv_icmp_eq (pc := 27) (tgt := 48) hx hb dX0_isPlan_27 (by decide) (fun c_4 => ?_) (fun c_4 => ?_)
          · skip
            refine lv_iinc (pc := 48) (v := nI (i + 1)) (lv' := [(2, .int (nI (i + 1))), (0, .ref (b 31)), (1, .int ti)]) hx hb dX0_isPlan_48 hl (k := 2) rfl (nI_add (i) 1) (by decide) rfl (fun ls hl => ?_)
            refine lv_goto (pc := 51) (tgt := 13) hx hb dX0_isPlan_51 (by decide) ?_
            exact ih_lp_2 (i + 1) (by omega) (by omega) (by rw [allB, hal, Bool.true_and]; exact decide_eq_true (Or.inl c_4)) ls (lv_sub hl [1, 2, 0] rfl)
          · skip
            refine lv_aload_n (pc := 30) hx hb dX0_isPlan_30 rfl (lv_at hl 0 rfl) ?_
            refine lv_iload_n (pc := 31) hx hb dX0_isPlan_31 rfl (lv_at hl 2 rfl) ?_
            refine lv_bipush (pc := 32) (v := 48) hx hb dX0_isPlan_32 (by decide) ?_
            refine lv_bipush (pc := 34) (v := 48) hx hb dX0_isPlan_34 (by decide) ?_
            refine lv_iload_n (pc := 36) hx hb dX0_isPlan_36 rfl (lv_at hl 1 rfl) ?_
            refine lv_iadd (pc := 37) hx hb dX0_isPlan_37 ?_
            refine lv_iconst (pc := 38) (v := 1) hx hb dX0_isPlan_38 (by decide) ?_
            refine lv_isub (pc := 39) hx hb dX0_isPlan_39 ?_
            refine rV (pc := 40) (rest := []) ⟨hx, hb, hml, hown, hts⟩ (k_X0_isWithin (k := i) (lo := 48) (hi := (48 + ti) - 1) (b := b) (cd := cd) (ln := ln) (hk := (by omega))) cw_X0_27 ⟨(Nat.le_of_ble_eq_true rfl), (Nat.le_of_ble_eq_true rfl)⟩ hE hS hP rfl rfl rfl rfl hl.1 rfl (Nat.le_of_ble_eq_true rfl) dX0_isPlan_40 ⟨Nat.le_refl _, Nat.le_refl _⟩ ?_
            refine W.eq (g2 := F0 m 43 ls [.int (bi (inR (cd i) 48 ((48 + ti) - 1)))]) rfl ?_
            refine bif_ne (pc := 43) (tgt := 48) hx hb dX0_isPlan_43 (by decide) (fun c_5 => ?_) (fun c_5 => ?_)
            · skip
              refine lv_iinc (pc := 48) (v := nI (i + 1)) (lv' := [(2, .int (nI (i + 1))), (0, .ref (b 31)), (1, .int ti)]) hx hb dX0_isPlan_48 hl (k := 2) rfl (nI_add (i) 1) (by decide) rfl (fun ls hl => ?_)
              refine lv_goto (pc := 51) (tgt := 13) hx hb dX0_isPlan_51 (by decide) ?_
              exact ih_lp_2 (i + 1) (by omega) (by omega) (by rw [allB, hal, Bool.true_and]; exact decide_eq_true (Or.inr c_5)) ls (lv_sub hl [1, 2, 0] rfl)
            · skip
              refine lv_iconst (pc := 46) (v := 0) hx hb dX0_isPlan_46 (by decide) ?_
              rw [hQ]; exact W.zret (pc := 47) hx hb hr rfl (fun t9 ht _ => ⟨retI (bi_f (fun q => by have q2 := of_decide_eq_true (allB_at q.2 i (by omega)); exact q2.elim c_4 c_5)), ht⟩) (fun _ h => nomatch h) dX0_isPlan_47 hlocks
    exact lp_2 _ 0 (Nat.lt_succ_self _) (by omega) rfl ls (lv_sub hl [1, 2, 0] rfl)
  · skip
    have c_1n : ¬ pn = 12 := fun hh => c_1 ((nI_eq (a := pn) (b := 12) (by omega) (by omega)).mpr hh)
    refine lv_iconst (pc := 9) (v := 0) hx hb dX0_isPlan_9 (by decide) ?_
    rw [hQ]; exact W.zret (pc := 10) hx hb hr rfl (fun t9 ht _ => ⟨retI (bi_f (fun q => c_1n q.1)), ht⟩) (fun _ h => nomatch h) dX0_isPlan_10 hlocks
end
