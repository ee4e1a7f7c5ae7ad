section
variable {l : Launch} {D : va_G} {kB kI kT : ClassId} {ks sk sv : Nat}
set_option maxRecDepth 100000 in
set_option maxHeartbeats 4000000 in
theorem k_X8_layDarks {o : Nat} {a : Nat → Nat} {z : Nat → Int32} {g : Nat → Int64} {r : Nat → Nat → Int32} (f : Nat) (t : Nat) (hft : f ≤ t) (ht : t < 12) (hd4 : dkN (r 8) f (t + 1 - f) ≤ 4) : MW l yX8_layDarks cX8_layDarks 4 none 0 0 D kB kI kT ks sk sv [.ref o, .int (nI f), .int (nI t)] (wR kB kI o a z g r) none (wR kB kI o a (va_up z 20 (nI (dkN (r 8) f (t + 1 - f)))) g (va_up r 21 (dkA (r 8) f (r 21) (t + 1 - f)))) := by
  refine MW.go (by decide +kernel) (Nat.le_of_ble_eq_true rfl) ?_
  intro p e s m below meth c0 args Q ls A hQ hx hb hr hml hown hts hlocks hE hP hD hS hl
  have hl : lv_has ls 4 [(0, .ref o), (1, .int (nI f)), (2, .int (nI t))] := hl
  have hown : s.vm.findClass RX8 = some m.cls := hown
  refine lv_aload_n (pc := 0) hx hb dX8_layDarks_0 rfl (lv_at hl 0 rfl) ?_
  refine lv_iconst (pc := 1) (v := 0) hx hb dX8_layDarks_1 (by decide) ?_
  refine fput (pc := 2) (v := .int 0) hx hb hts hown hE hP hD hS fp_X8_184 0 rfl rfl rfl (Nat.le_of_ble_eq_true rfl) dX8_layDarks_2 (fun H locs hP hD hS => ?_)
  have hP : va_P D vwCl (wR kB kI o a (va_up z 20 0) g r) H := hP
  have hD : va_D A (wR kB kI o a (va_up z 20 0) g r) := hD
  refine lv_iload_n (pc := 5) hx hb dX8_layDarks_5 rfl (lv_at hl 1 rfl) ?_
  refine lv_istore_n (pc := 6) (lv' := [(3, .int (nI f)), (0, .ref o), (1, .int (nI f)), (2, .int (nI t))]) hx hb dX8_layDarks_6 rfl hl (by decide) rfl (fun ls hl => ?_)
  have lp_1 : ∀ (fuel : Nat) (j : Nat), t + 1 - f - j < fuel → (f + j ≤ t + 1) → ∀ (H : Heap) (locs : List Loc), va_P D vwCl (wR kB kI o a (va_up z 20 (nI (dkN (r 8) f j))) g (va_up r 21 (dkA (r 8) f (r 21) j))) H → va_D A (wR kB kI o a (va_up z 20 (nI (dkN (r 8) f j))) g (va_up r 21 (dkA (r 8) f (r 21) j))) → va_S A s.heap H locs → ∀ (ls : Array Slot), lv_has ls 4 [(0, .ref o), (1, .int (nI f)), (2, .int (nI t)), (3, .int (nI (f + j)))] → W p l e (rmO 0 0) s m args below meth c0 H locs 0 0 Q (F0 m 7 ls []) := by
    intro fuel
    induction fuel with
    | zero => intro j hfuel; exact absurd hfuel (Nat.not_lt_zero _)
    | succ fuel ih_lp_1 =>
      intro j hfuel hj H locs hP hD hS ls hl
      refine lv_iload_n (pc := 7) hx hb dX8_layDarks_7 rfl (lv_at hl 3 rfl) ?_
      refine lv_iload_n (pc := 8) hx hb dX8_layDarks_8 rfl (lv_at hl 2 rfl) ?_
      refine lv_icmp_gt (pc := 9) (tgt := 48) hx hb dX8_layDarks_9 (by decide) (fun c_2 => ?_) (fun c_2 => ?_)
      · skip
        have c_2n : t < (f + j) := (nI_ltI (a := t) (b := f + j) (by omega) (by omega)).mp c_2
        rw [hQ]; exact W.vret (pc := 48) hx hb hr (fun t9 ht _ => ⟨⟨rfl, by rw [ht]; exact by rw [show t + 1 - f = j by omega]; exact hP⟩, hS.F ht⟩) hS.2.2 dX8_layDarks_48 hlocks
      · skip
        have c_2n : ¬ t < (f + j) := fun hh => c_2 ((nI_ltI (a := t) (b := f + j) (by omega) (by omega)).mpr hh)
        refine lv_aload_n (pc := 12) hx hb dX8_layDarks_12 rfl (lv_at hl 0 rfl) ?_
        refine fget (pc := 13) (v := .ref (a 8)) hx hb hts hown hE hP fl_X8_28 0 rfl rfl dX8_layDarks_13 ?_
        refine lv_iload_n (pc := 16) hx hb dX8_layDarks_16 rfl (lv_at hl 3 rfl) ?_
        refine aldN (pc := 17) (f := r 8) hx hb hE hP 7 rfl (f + j) (by omega) (by omega) dX8_layDarks_17 ?_
        refine lv_iconst (pc := 18) (v := (-1)) hx hb dX8_layDarks_18 (by decide) ?_
        refine lv_icmp_ne (pc := 19) (tgt := 42) hx hb dX8_layDarks_19 (by decide) (fun c_3 => ?_) (fun c_3 => ?_)
        · skip
          refine lv_iinc (pc := 42) (v := nI (f + j + 1)) (lv' := [(3, .int (nI (f + j + 1))), (0, .ref o), (1, .int (nI f)), (2, .int (nI t))]) hx hb dX8_layDarks_42 hl (k := 3) rfl (nI_add (f + j) 1) (by decide) rfl (fun ls hl => ?_)
          refine lv_goto (pc := 45) (tgt := 7) hx hb dX8_layDarks_45 (by decide) ?_
          exact ih_lp_1 (j + 1) (by omega) (by omega) _ _ (by rw [dkA, if_neg c_3, show dkN (r 8) f (j + 1) = dkN (r 8) f j from cntP_f c_3]; exact hP) (by rw [dkA, if_neg c_3, show dkN (r 8) f (j + 1) = dkN (r 8) f j from cntP_f c_3]; exact hD) hS ls (lv_sub hl [1, 2, 3, 0] rfl)
        · skip
          have hm4 : dkN (r 8) f (j + 1) ≤ dkN (r 8) f (t + 1 - f) := cntP_mono (by omega)
          have hm5 : dkN (r 8) f (j + 1) = dkN (r 8) f j + 1 := cntP_t c_3
          refine lv_aload_n (pc := 22) hx hb dX8_layDarks_22 rfl (lv_at hl 0 rfl) ?_
          refine fget (pc := 23) (v := .ref (a 21)) hx hb hts hown hE hP fl_X8_47 0 rfl rfl dX8_layDarks_23 ?_
          refine lv_aload_n (pc := 26) hx hb dX8_layDarks_26 rfl (lv_at hl 0 rfl) ?_
          refine fget (pc := 27) (v := .int (nI (dkN (r 8) f j))) hx hb hts hown hE hP fl_X8_184 0 rfl rfl dX8_layDarks_27 ?_
          refine lv_iload_n (pc := 30) hx hb dX8_layDarks_30 rfl (lv_at hl 3 rfl) ?_
          refine astN (pc := 31) (f := dkA (r 8) f (r 21) j) hx hb hE hP hD hS 13 rfl (dkN (r 8) f j) (by omega) (by omega) dX8_layDarks_31 (fun H locs hP hD hS => ?_)
          have hP : va_P D vwCl (wR kB kI o a (va_up z 20 (nI (dkN (r 8) f j))) g (va_up r 21 (upd (dkA (r 8) f (r 21) j) (dkN (r 8) f j) (nI (f + j))))) H := hP
          have hD : va_D A (wR kB kI o a (va_up z 20 (nI (dkN (r 8) f j))) g (va_up r 21 (upd (dkA (r 8) f (r 21) j) (dkN (r 8) f j) (nI (f + j))))) := hD
          refine lv_aload_n (pc := 32) hx hb dX8_layDarks_32 rfl (lv_at hl 0 rfl) ?_
          refine lv_dup (pc := 33) hx hb dX8_layDarks_33 rfl ?_
          refine fget (pc := 34) (v := .int (nI (dkN (r 8) f j))) hx hb hts hown hE hP fl_X8_184 0 rfl rfl dX8_layDarks_34 ?_
          refine lv_iconst (pc := 37) (v := 1) hx hb dX8_layDarks_37 (by decide) ?_
          refine iaddV (pc := 38) (v := nI (dkN (r 8) f j + 1)) hx hb dX8_layDarks_38 (nI_add (dkN (r 8) f j) (1)) ?_
          refine fput (pc := 39) (v := .int (nI (dkN (r 8) f j + 1))) hx hb hts hown hE hP hD hS fp_X8_184 0 rfl rfl rfl (Nat.le_of_ble_eq_true rfl) dX8_layDarks_39 (fun H locs hP hD hS => ?_)
          have hP : va_P D vwCl (wR kB kI o a (va_up z 20 (nI (dkN (r 8) f j + 1))) g (va_up r 21 (upd (dkA (r 8) f (r 21) j) (dkN (r 8) f j) (nI (f + j))))) H := hP
          have hD : va_D A (wR kB kI o a (va_up z 20 (nI (dkN (r 8) f j + 1))) g (va_up r 21 (upd (dkA (r 8) f (r 21) j) (dkN (r 8) f j) (nI (f + j))))) := hD
          refine lv_iinc (pc := 42) (v := nI (f + j + 1)) (lv' := [(3, .int (nI (f + j + 1))), (0, .ref o), (1, .int (nI f)), (2, .int (nI t))]) hx hb dX8_layDarks_42 hl (k := 3) rfl (nI_add (f + j) 1) (by decide) rfl (fun ls hl => ?_)
          refine lv_goto (pc := 45) (tgt := 7) hx hb dX8_layDarks_45 (by decide) ?_
          exact ih_lp_1 (j + 1) (by omega) (by omega) _ _ (by rw [dkA, if_pos c_3, show dkN (r 8) f (j + 1) = dkN (r 8) f j + 1 from cntP_t c_3]; exact hP) (by rw [dkA, if_pos c_3, show dkN (r 8) f (j + 1) = dkN (r 8) f j + 1 from cntP_t c_3]; exact hD) hS ls (lv_sub hl [1, 2, 3, 0] rfl)
  exact lp_1 _ 0 (Nat.lt_succ_self _) (by omega) _ _ (by rw [show dkA (r 8) f (r 21) 0 = r 21 from rfl, va_up_same]; exact hP) (by rw [show dkA (r 8) f (r 21) 0 = r 21 from rfl, va_up_same]; exact hD) hS ls (lv_sub hl [1, 2, 3, 0] rfl)
set_option maxRecDepth 100000 in
set_option maxHeartbeats 4000000 in
theorem k_X8_fillBy {o : Nat} {a : Nat → Nat} {z : Nat → Int32} {g : Nat → Int64} {r : Nat → Nat → Int32} (w : Nat) {n : Nat} {dk : Nat} (hz1 : z 1 = nI n) (hn5 : n ≤ 5) (hz20 : z 20 = nI dk) (hdk : dk ≤ 4) (hD4 : okD dk (r 21)) (hw : w < 100000) : MW l yX8_fillBy cX8_fillBy 4 none 0 0 D kB kI kT ks sk sv [.ref o, .int (nI w)] (wR kB kI o a z g r) none (wR kB kI o a z g (va_up r 8 (fbR (r 21) n dk (r 8) w))) := by
  refine MW.go (by decide +kernel) (Nat.le_of_ble_eq_true rfl) ?_
  intro p e s m below meth c0 args Q ls A hQ hx hb hr hml hown hts hlocks hE hP hD hS hl
  have hl : lv_has ls 4 [(0, .ref o), (1, .int (nI w))] := hl
  have hown : s.vm.findClass RX8 = some m.cls := hown
  refine lv_iload_n (pc := 0) hx hb dX8_fillBy_0 rfl (lv_at hl 1 rfl) ?_
  refine lv_istore_n (pc := 1) (lv' := [(2, .int (nI w)), (0, .ref o), (1, .int (nI w))]) hx hb dX8_fillBy_1 rfl hl (by decide) rfl (fun ls hl => ?_)
  refine lv_aload_n (pc := 2) hx hb dX8_fillBy_2 rfl (lv_at hl 1 rfl) ?_
  refine fget (pc := 3) (v := .int (z 20)) hx hb hts hown hE hP fl_X8_184 0 rfl rfl dX8_fillBy_3 ?_
  refine vEq (v := nI dk) hz20 ?_
  refine lv_iconst (pc := 6) (v := 1) hx hb dX8_fillBy_6 (by decide) ?_
  refine isubV (pc := 7) (v := nI dk - 1) hx hb dX8_fillBy_7 rfl ?_
  refine lv_istore_n (pc := 8) (lv' := [(3, .int (nI dk - 1)), (2, .int (nI w)), (0, .ref o), (1, .int (nI w))]) hx hb dX8_fillBy_8 rfl hl (by decide) rfl (fun ls hl => ?_)
  have lp_1 : ∀ (fuel : Nat) (u : Nat) (plc : Nat → Int32) (lf : Nat), u < fuel → (u ≤ dk) → (lf < 100000) → (fbR (r 21) n dk (r 8) w = fbR (r 21) n u plc lf) → ∀ (H : Heap) (locs : List Loc), va_P D vwCl (wR kB kI o a z g (va_up r 8 plc)) H → va_D A (wR kB kI o a z g (va_up r 8 plc)) → va_S A s.heap H locs → ∀ (ls : Array Slot), lv_has ls 4 [(0, .ref o), (1, .int (nI w)), (2, .int (nI lf)), (3, .int (nI u - 1))] → W p l e (rmO 0 0) s m args below meth c0 H locs 0 0 Q (F0 m 9 ls []) := by
    intro fuel
    induction fuel with
    | zero => intro u plc lf hfuel; exact absurd hfuel (Nat.not_lt_zero _)
    | succ fuel ih_lp_1 =>
      intro u plc lf hfuel hu hlf hR H locs hP hD hS ls hl
      refine lv_iload_n (pc := 9) hx hb dX8_fillBy_9 rfl (lv_at hl 3 rfl) ?_
      refine lv_if_lt (pc := 10) (tgt := 49) hx hb dX8_fillBy_10 (by decide) (fun c_2 => ?_) (fun c_2 => ?_)
      · skip
        have hm0 : u = 0 := (pm_lt (by omega)).mp c_2
        rw [hQ]; exact W.vret (pc := 49) hx hb hr (fun t9 ht _ => ⟨⟨rfl, by rw [ht]; exact by rw [hR, hm0]; exact hP⟩, hS.F ht⟩) hS.2.2 dX8_fillBy_49 hlocks
      · skip
        have hm1 : 0 < u := Nat.pos_of_ne_zero (fun q => c_2 ((pm_lt (by omega)).mpr q))
        have hpm : nI u - 1 = nI (u - 1) := pm_eq hm1
        refine lv_aload_n (pc := 13) hx hb dX8_fillBy_13 rfl (lv_at hl 0 rfl) ?_
        refine fget (pc := 14) (v := .ref (a 8)) hx hb hts hown hE hP fl_X8_28 0 rfl rfl dX8_fillBy_14 ?_
        refine lv_aload_n (pc := 17) hx hb dX8_fillBy_17 rfl (lv_at hl 0 rfl) ?_
        refine fget (pc := 18) (v := .ref (a 21)) hx hb hts hown hE hP fl_X8_47 0 rfl rfl dX8_fillBy_18 ?_
        refine lv_iload_n (pc := 21) hx hb dX8_fillBy_21 rfl (lv_at hl 3 rfl) ?_
        refine vEq (v := nI (u - 1)) hpm ?_
        refine aldN (pc := 22) (f := r 21) hx hb hE hP 13 rfl (u - 1) (by omega) (by omega) dX8_fillBy_22 ?_
        refine lv_iload_n (pc := 23) hx hb dX8_fillBy_23 rfl (lv_at hl 2 rfl) ?_
        refine lv_aload_n (pc := 24) hx hb dX8_fillBy_24 rfl (lv_at hl 0 rfl) ?_
        refine fget (pc := 25) (v := .int (z 1)) hx hb hts hown hE hP fl_X8_124 0 rfl rfl dX8_fillBy_25 ?_
        refine vEq (v := nI n) hz1 ?_
        refine lv_iconst (pc := 28) (v := 1) hx hb dX8_fillBy_28 (by decide) ?_
        refine iaddV (pc := 29) (v := nI (n + 1)) hx hb dX8_fillBy_29 (nI_add (n) (1)) ?_
        refine iremV (pc := 30) (v := nI (lf % (n + 1))) hx hb dX8_fillBy_30 (nI_ne0 (by omega) (by omega)) (pk_rem (by omega) (by omega) (by omega)) ?_
        refine lv_iconst (pc := 31) (v := 1) hx hb dX8_fillBy_31 (by decide) ?_
        refine isubV (pc := 32) (v := nI (lf % (n + 1)) - 1) hx hb dX8_fillBy_32 rfl ?_
        refine astX (pc := 33) (f := plc) hx hb hE hP hD hS 7 rfl (by obtain ⟨i9, h1, h2⟩ := hD4 (u - 1) (by omega); rw [h2]; exact vp_in_nI h1 (by omega)) dX8_fillBy_33 (fun H locs hP hD hS => ?_)
        have hP : va_P D vwCl (wR kB kI o a z g (va_up r 8 (upd plc (ix ((r 21) (u - 1))) (nI (lf % (n + 1)) - 1)))) H := hP
        have hD : va_D A (wR kB kI o a z g (va_up r 8 (upd plc (ix ((r 21) (u - 1))) (nI (lf % (n + 1)) - 1)))) := hD
        refine lv_iload_n (pc := 34) hx hb dX8_fillBy_34 rfl (lv_at hl 2 rfl) ?_
        refine lv_aload_n (pc := 35) hx hb dX8_fillBy_35 rfl (lv_at hl 0 rfl) ?_
        refine fget (pc := 36) (v := .int (z 1)) hx hb hts hown hE hP fl_X8_124 0 rfl rfl dX8_fillBy_36 ?_
        refine vEq (v := nI n) hz1 ?_
        refine lv_iconst (pc := 39) (v := 1) hx hb dX8_fillBy_39 (by decide) ?_
        refine iaddV (pc := 40) (v := nI (n + 1)) hx hb dX8_fillBy_40 (nI_add (n) (1)) ?_
        refine idivV (pc := 41) (v := nI (lf / (n + 1))) hx hb dX8_fillBy_41 (nI_ne0 (by omega) (by omega)) (pk_div (by omega) (by omega) (by omega)) ?_
        refine lv_istore_n (pc := 42) (lv' := [(2, .int (nI (lf / (n + 1)))), (0, .ref o), (1, .int (nI w)), (3, .int (nI u - 1))]) hx hb dX8_fillBy_42 rfl hl (by decide) rfl (fun ls hl => ?_)
        refine lv_iinc (pc := 43) (v := nI (u - 1) - 1) (lv' := [(3, .int (nI (u - 1) - 1)), (2, .int (nI (lf / (n + 1)))), (0, .ref o), (1, .int (nI w))]) hx hb dX8_fillBy_43 hl (k := 3) rfl (by rw [hpm]; exact dec1 _) (by decide) rfl (fun ls hl => ?_)
        refine lv_goto (pc := 46) (tgt := 9) hx hb dX8_fillBy_46 (by decide) ?_
        exact ih_lp_1 (u - 1) (upd plc (ix (r 21 (u - 1))) (nI (lf % (n + 1)) - 1)) (lf / (n + 1)) (by omega) (by omega) (Nat.lt_of_le_of_lt (Nat.div_le_self _ _) hlf) (by rw [hR]; obtain ⟨v, rfl⟩ : ∃ v, u = v + 1 := ⟨u - 1, by omega⟩; rfl) _ _ hP hD hS ls (lv_sub hl [2, 3, 1, 0] rfl)
  exact lp_1 _ dk (r 8) w (Nat.lt_succ_self _) (by omega) hw rfl _ _ (by rw [va_up_same]; exact hP) (by rw [va_up_same]; exact hD) hS ls (lv_sub hl [2, 3, 1, 0] rfl)
end
