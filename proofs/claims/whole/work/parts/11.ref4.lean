section
variable {l : Launch} {D : va_G} {kB kI kT : ClassId} {ks sk sv : Nat}
set_option maxRecDepth 100000 in
set_option maxHeartbeats 4000000 in
theorem k_X8_darken {o : Nat} {a : Nat → Nat} {z : Nat → Int32} {g : Nat → Int64} {r : Nat → Nat → Int32} : MW l yX8_darken cX8_darken 2 none 0 0 D kB kI kT ks sk sv [.ref o] (wR kB kI o a z g r) none (wR kB kI o a z g (va_up r 8 (darkF (r 8) 12))) := by
  refine MW.go (by decide +kernel) (Nat.le_of_ble_eq_true rfl) ?_
  intro p e s m below meth c0 args Q ls A hQ hx hb hr hml hown hts hlocks hE hP hD hS hl
  have hl : lv_has ls 2 [(0, .ref o)] := hl
  have hown : s.vm.findClass RX8 = some m.cls := hown
  refine lv_iconst (pc := 0) (v := 0) hx hb dX8_darken_0 (by decide) ?_
  refine lv_istore_n (pc := 1) (lv' := [(1, .int 0), (0, .ref o)]) hx hb dX8_darken_1 rfl hl (by decide) rfl (fun ls hl => ?_)
  have lp_1 : ∀ (fuel : Nat) (i : Nat), 12 - i < fuel → (i ≤ 12) → ∀ (H : Heap) (locs : List Loc), va_P D vwCl (wR kB kI o a z g (va_up r 8 (darkF (r 8) i))) H → va_D A (wR kB kI o a z g (va_up r 8 (darkF (r 8) i))) → va_S A s.heap H locs → ∀ (ls : Array Slot), lv_has ls 2 [(0, .ref o), (1, .int (nI i))] → W p l e (rmO 0 0) s m args below meth c0 H locs 0 0 Q (F0 m 2 ls []) := by
    intro fuel
    induction fuel with
    | zero => intro i hfuel; exact absurd hfuel (Nat.not_lt_zero _)
    | succ fuel ih_lp_1 =>
      intro i hfuel hi H locs hP hD hS ls hl
      refine lv_iload_n (pc := 2) hx hb dX8_darken_2 rfl (lv_at hl 1 rfl) ?_
      refine lv_bipush (pc := 3) (v := 12) hx hb dX8_darken_3 (by decide) ?_
      refine lv_icmp_ge (pc := 5) (tgt := 21) hx hb dX8_darken_5 (by decide) (fun c_2 => ?_) (fun c_2 => ?_)
      · skip
        have c_2n : 12 ≤ i := (nI_leI (a := 12) (b := i) (by omega) (by omega)).mp c_2
        rw [hQ]; exact W.vret (pc := 21) hx hb hr (fun t9 ht _ => ⟨⟨rfl, by rw [ht]; exact by rw [show (12 : Nat) = i by omega]; exact hP⟩, hS.F ht⟩) hS.2.2 dX8_darken_21 hlocks
      · skip
        have c_2n : ¬ 12 ≤ i := fun hh => c_2 ((nI_leI (a := 12) (b := i) (by omega) (by omega)).mpr hh)
        refine lv_aload_n (pc := 8) hx hb dX8_darken_8 rfl (lv_at hl 0 rfl) ?_
        refine fget (pc := 9) (v := .ref (a 8)) hx hb hts hown hE hP fl_X8_28 0 rfl rfl dX8_darken_9 ?_
        refine lv_iload_n (pc := 12) hx hb dX8_darken_12 rfl (lv_at hl 1 rfl) ?_
        refine lv_iconst (pc := 13) (v := (-1)) hx hb dX8_darken_13 (by decide) ?_
        refine astN (pc := 14) (f := darkF (r 8) i) hx hb hE hP hD hS 7 rfl (i) (by omega) (by omega) dX8_darken_14 (fun H locs hP hD hS => ?_)
        have hP : va_P D vwCl (wR kB kI o a z g (va_up r 8 (upd (darkF (r 8) i) i (-1)))) H := hP
        have hD : va_D A (wR kB kI o a z g (va_up r 8 (upd (darkF (r 8) i) i (-1)))) := hD
        refine lv_iinc (pc := 15) (v := nI (i + 1)) (lv' := [(1, .int (nI (i + 1))), (0, .ref o)]) hx hb dX8_darken_15 hl (k := 1) rfl (nI_add (i) 1) (by decide) rfl (fun ls hl => ?_)
        refine lv_goto (pc := 18) (tgt := 2) hx hb dX8_darken_18 (by decide) ?_
        exact ih_lp_1 (i + 1) (by omega) (by omega) _ _ (by rw [darkF, ← ovN_s]; exact hP) (by rw [darkF, ← ovN_s]; exact hD) hS ls (lv_sub hl [1, 0] rfl)
  exact lp_1 _ 0 (Nat.lt_succ_self _) (by omega) _ _ (by rw [darkF, ovN_0, va_up_same]; exact hP) (by rw [darkF, ovN_0, va_up_same]; exact hD) hS ls (lv_sub hl [1, 0] rfl)
set_option maxRecDepth 100000 in
set_option maxHeartbeats 4000000 in
theorem k_X8_letter {o : Nat} {a : Nat → Nat} {z : Nat → Int32} {g : Nat → Int64} {r : Nat → Nat → Int32} (code : Int32) {pn : Nat} (hz14 : z 14 = nI pn) (hpn : pn ≤ 40) : MW l yX8_letter cX8_letter 2 (some .int) 1 22 D kB kI kT ks sk sv [.ref o, .int code] (wR kB kI o a z g r) (some (.int ((R_letter z g r pn code).1))) (wR kB kI o a (R_letter z g r pn code).2.1 (R_letter z g r pn code).2.2.1 (R_letter z g r pn code).2.2.2) := by
  refine MW.go (by decide +kernel) (Nat.le_of_ble_eq_true rfl) ?_
  intro p e s m below meth c0 args Q ls A hQ hx hb hr hml hown hts hlocks hE hP hD hS hl
  have hl : lv_has ls 2 [(0, .ref o), (1, .int code)] := hl
  have hown : s.vm.findClass RX8 = some m.cls := hown
  refine lv_iload_n (pc := 0) hx hb dX8_letter_0 rfl (lv_at hl 1 rfl) ?_
  refine lv_bipush (pc := 1) (v := 32) hx hb dX8_letter_1 (by decide) ?_
  refine lv_bipush (pc := 3) (v := 126) hx hb dX8_letter_3 (by decide) ?_
  refine rS (pc := 5) (rest := []) ⟨hx, hb, hml, hown, hts⟩ (k_X8_within (v := code) (lo := 32) (hi := 126)) cw_X8_86 ⟨(Nat.le_of_ble_eq_true rfl), (Nat.le_of_ble_eq_true rfl)⟩ hE hS wc0 rfl hl.1 rfl (Nat.le_of_ble_eq_true rfl) dX8_letter_5 ⟨Nat.le_refl _, Nat.le_refl _⟩ ?_
  refine W.eq (g2 := F0 m 8 ls [.int (bi (inR code 32 126))]) rfl ?_
  refine bif_ne (pc := 8) (tgt := 14) hx hb dX8_letter_8 (by decide) (fun c_1 => ?_) (fun c_1 => ?_)
  · skip
    refine lv_aload_n (pc := 14) hx hb dX8_letter_14 rfl (lv_at hl 0 rfl) ?_
    refine fget (pc := 15) (v := .int (z 14)) hx hb hts hown hE hP fl_X8_90 0 rfl rfl dX8_letter_15 ?_
    refine vEq (v := nI pn) hz14 ?_
    refine lv_bipush (pc := 18) (v := 40) hx hb dX8_letter_18 (by decide) ?_
    refine lv_icmp_ne (pc := 20) (tgt := 26) hx hb dX8_letter_20 (by decide) (fun c_2 => ?_) (fun c_2 => ?_)
    · skip
      have c_2n : ¬ pn = 40 := fun hh => c_2 ((nI_eq (a := pn) (b := 40) (by omega) (by omega)).mpr hh)
      refine lv_aload_n (pc := 26) hx hb dX8_letter_26 rfl (lv_at hl 0 rfl) ?_
      refine fget (pc := 27) (v := .ref (a 15)) hx hb hts hown hE hP fl_X8_40 0 rfl rfl dX8_letter_27 ?_
      refine lv_aload_n (pc := 30) hx hb dX8_letter_30 rfl (lv_at hl 0 rfl) ?_
      refine fget (pc := 31) (v := .int (z 14)) hx hb hts hown hE hP fl_X8_90 0 rfl rfl dX8_letter_31 ?_
      refine vEq (v := nI pn) hz14 ?_
      refine lv_iload_n (pc := 34) hx hb dX8_letter_34 rfl (lv_at hl 1 rfl) ?_
      refine lv_i2b (pc := 35) (v := code.toInt8.toInt32) hx hb dX8_letter_35 rfl ?_
      refine astB (pc := 36) (f := r 15) hx hb hE hP hD hS 11 rfl (pn) (by omega) (by omega) (pk_vb _) dX8_letter_36 (fun H locs hP hD hS => ?_)
      have hP : va_P D vwCl (wR kB kI o a z g (va_up r 15 (upd (r 15) pn code.toInt8.toInt32))) H := hP
      have hD : va_D A (wR kB kI o a z g (va_up r 15 (upd (r 15) pn code.toInt8.toInt32))) := hD
      refine lv_aload_n (pc := 37) hx hb dX8_letter_37 rfl (lv_at hl 0 rfl) ?_
      refine lv_dup (pc := 38) hx hb dX8_letter_38 rfl ?_
      refine fget (pc := 39) (v := .int (z 14)) hx hb hts hown hE hP fl_X8_90 0 rfl rfl dX8_letter_39 ?_
      refine vEq (v := nI pn) hz14 ?_
      refine lv_iconst (pc := 42) (v := 1) hx hb dX8_letter_42 (by decide) ?_
      refine iaddV (pc := 43) (v := nI (pn + 1)) hx hb dX8_letter_43 (nI_add (pn) (1)) ?_
      refine fput (pc := 44) (v := .int (nI (pn + 1))) hx hb hts hown hE hP hD hS fp_X8_90 0 rfl rfl rfl (Nat.le_of_ble_eq_true rfl) dX8_letter_44 (fun H locs hP hD hS => ?_)
      have hP : va_P D vwCl (wR kB kI o a (va_up z 14 (nI (pn + 1))) g (va_up r 15 (upd (r 15) pn code.toInt8.toInt32))) H := hP
      have hD : va_D A (wR kB kI o a (va_up z 14 (nI (pn + 1))) g (va_up r 15 (upd (r 15) pn code.toInt8.toInt32))) := hD
      refine lv_aload_n (pc := 47) hx hb dX8_letter_47 rfl (lv_at hl 0 rfl) ?_
      refine fget (pc := 48) (v := .int (nI (pn + 1))) hx hb hts hown hE hP fl_X8_90 0 rfl rfl dX8_letter_48 ?_
      have hfn : R_letter z g r pn code = (nI (pn + 1), (va_up z 14 (nI (pn + 1))), g, (va_up r 15 (upd (r 15) pn code.toInt8.toInt32))) := by rw [R_letter, if_pos c_1, if_neg c_2n]
      rw [hQ]; exact W.iret (pc := 51) hx hb hr (fun t9 ht _ => ⟨⟨retI (by rw [hfn]), by rw [ht, hfn]; exact (show va_P D vwCl (wR kB kI o a (va_up z 14 (nI (pn + 1))) g (va_up r 15 (upd (r 15) pn code.toInt8.toInt32))) _ from hP)⟩, hS.F ht⟩) hS.2.2 dX8_letter_51 hlocks
    · skip
      have c_2n : pn = 40 := (nI_eq (a := pn) (b := 40) (by omega) (by omega)).mp c_2
      refine lv_bipush (pc := 23) (v := (-104)) hx hb dX8_letter_23 (by decide) ?_
      have hfn : R_letter z g r pn code = ((-104), z, g, r) := by rw [R_letter, if_pos c_1, if_pos c_2n]
      rw [hQ]; exact W.iret (pc := 25) hx hb hr (fun t9 ht _ => ⟨⟨retI (by rw [hfn]), by rw [ht, hfn]; exact (show va_P D vwCl (wR kB kI o a z g r) _ from hP)⟩, hS.F ht⟩) hS.2.2 dX8_letter_25 hlocks
  · skip
    refine lv_bipush (pc := 11) (v := (-102)) hx hb dX8_letter_11 (by decide) ?_
    have hfn : R_letter z g r pn code = ((-102), z, g, r) := by rw [R_letter, if_neg c_1]
    rw [hQ]; exact W.iret (pc := 13) hx hb hr (fun t9 ht _ => ⟨⟨retI (by rw [hfn]), by rw [ht, hfn]; exact (show va_P D vwCl (wR kB kI o a z g r) _ from hP)⟩, hS.F ht⟩) hS.2.2 dX8_letter_13 hlocks
set_option maxRecDepth 100000 in
set_option maxHeartbeats 4000000 in
theorem k_X8_blank {o : Nat} {a : Nat → Nat} {z : Nat → Int32} {g : Nat → Int64} {r : Nat → Nat → Int32} : MW l yX8_blank cX8_blank 2 (some .int) 0 0 D kB kI kT ks sk sv [.ref o] (wR kB kI o a z g r) (some (.int (z 14))) (wR kB kI o a (va_up z 14 0) g r) := by
  refine MW.go (by decide +kernel) (Nat.le_of_ble_eq_true rfl) ?_
  intro p e s m below meth c0 args Q ls A hQ hx hb hr hml hown hts hlocks hE hP hD hS hl
  have hl : lv_has ls 2 [(0, .ref o)] := hl
  have hown : s.vm.findClass RX8 = some m.cls := hown
  refine lv_aload_n (pc := 0) hx hb dX8_blank_0 rfl (lv_at hl 0 rfl) ?_
  refine fget (pc := 1) (v := .int (z 14)) hx hb hts hown hE hP fl_X8_90 0 rfl rfl dX8_blank_1 ?_
  refine lv_istore_n (pc := 4) (lv' := [(1, .int (z 14)), (0, .ref o)]) hx hb dX8_blank_4 rfl hl (by decide) rfl (fun ls hl => ?_)
  refine lv_aload_n (pc := 5) hx hb dX8_blank_5 rfl (lv_at hl 1 rfl) ?_
  refine lv_iconst (pc := 6) (v := 0) hx hb dX8_blank_6 (by decide) ?_
  refine fput (pc := 7) (v := .int 0) hx hb hts hown hE hP hD hS fp_X8_90 0 rfl rfl rfl (Nat.le_of_ble_eq_true rfl) dX8_blank_7 (fun H locs hP hD hS => ?_)
  have hP : va_P D vwCl (wR kB kI o a (va_up z 14 0) g r) H := hP
  have hD : va_D A (wR kB kI o a (va_up z 14 0) g r) := hD
  refine lv_iload_n (pc := 10) hx hb dX8_blank_10 rfl (lv_at hl 0 rfl) ?_
  rw [hQ]; exact W.iret (pc := 11) hx hb hr (fun t9 ht _ => ⟨⟨retI (rfl), by rw [ht]; exact hP⟩, hS.F ht⟩) hS.2.2 dX8_blank_11 hlocks
set_option maxRecDepth 100000 in
set_option maxHeartbeats 4000000 in
theorem k_X8_forget {o : Nat} {a : Nat → Nat} {z : Nat → Int32} {g : Nat → Int64} {r : Nat → Nat → Int32} : MW l yX8_forget cX8_forget 2 (some .int) 0 0 D kB kI kT ks sk sv [.ref o] (wR kB kI o a z g r) (some (.int (z 10))) (wR kB kI o a (va_up z 10 0) g r) := by
  refine MW.go (by decide +kernel) (Nat.le_of_ble_eq_true rfl) ?_
  intro p e s m below meth c0 args Q ls A hQ hx hb hr hml hown hts hlocks hE hP hD hS hl
  have hl : lv_has ls 2 [(0, .ref o)] := hl
  have hown : s.vm.findClass RX8 = some m.cls := hown
  refine lv_aload_n (pc := 0) hx hb dX8_forget_0 rfl (lv_at hl 0 rfl) ?_
  refine fget (pc := 1) (v := .int (z 10)) hx hb hts hown hE hP fl_X8_130 0 rfl rfl dX8_forget_1 ?_
  refine lv_istore_n (pc := 4) (lv' := [(1, .int (z 10)), (0, .ref o)]) hx hb dX8_forget_4 rfl hl (by decide) rfl (fun ls hl => ?_)
  refine lv_aload_n (pc := 5) hx hb dX8_forget_5 rfl (lv_at hl 1 rfl) ?_
  refine lv_iconst (pc := 6) (v := 0) hx hb dX8_forget_6 (by decide) ?_
  refine fput (pc := 7) (v := .int 0) hx hb hts hown hE hP hD hS fp_X8_130 0 rfl rfl rfl (Nat.le_of_ble_eq_true rfl) dX8_forget_7 (fun H locs hP hD hS => ?_)
  have hP : va_P D vwCl (wR kB kI o a (va_up z 10 0) g r) H := hP
  have hD : va_D A (wR kB kI o a (va_up z 10 0) g r) := hD
  refine lv_iload_n (pc := 10) hx hb dX8_forget_10 rfl (lv_at hl 0 rfl) ?_
  rw [hQ]; exact W.iret (pc := 11) hx hb hr (fun t9 ht _ => ⟨⟨retI (rfl), by rw [ht]; exact hP⟩, hS.F ht⟩) hS.2.2 dX8_forget_11 hlocks
end
