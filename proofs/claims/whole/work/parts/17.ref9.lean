section
variable {l : Launch} {D : va_G} {kB kI kT : ClassId} {ks sk sv : Nat}
set_option maxRecDepth 100000 in
set_option maxHeartbeats 4000000 in
theorem k_X8_house {o : Nat} {a : Nat → Nat} {z : Nat → Int32} {g : Nat → Int64} {r : Nat → Nat → Int32} {pn : Nat} (hz14 : z 14 = nI pn) (hpn : pn ≤ 40) : MW l yX8_house cX8_house 2 (some .int) 3 66 D kB kI kT ks sk sv [.ref o] (wR kB kI o a z g r) (some (.int ((R_house z g r pn).1))) (wR kB kI o a (R_house z g r pn).2.1 (R_house z g r pn).2.2.1 (R_house z g r pn).2.2.2) := by
  refine MW.go (by decide +kernel) (Nat.le_of_ble_eq_true rfl) ?_
  intro p e s m below meth c0 args Q ls A hQ hx hb hr hml hown hts hlocks hE hP hD hS hl
  have hl : lv_has ls 2 [(0, .ref o)] := hl
  have hown : s.vm.findClass RX8 = some m.cls := hown
  refine lv_aload_n (pc := 0) hx hb dX8_house_0 rfl (lv_at hl 0 rfl) ?_
  refine wVa (pc := 1) (rest := []) ⟨hx, hb, hml, hown, hts⟩ (k_X8_read (z := z) (g := g) (r := r) (hz14 := (by first | assumption | omega)) (hpn := (by first | assumption | omega)) (pn := pn)) cw_X8_120 ⟨(Nat.le_of_ble_eq_true rfl), (Nat.le_of_ble_eq_true rfl)⟩ hE hP hD hS rfl rfl rfl rfl rfl hl.1 rfl (Nat.le_of_ble_eq_true rfl) dX8_house_1 ⟨Nat.le_refl _, Nat.le_refl _⟩ (fun H locs hP hD hS => ?_)
  have hP : va_P D vwCl (wR kB kI o a (R_read z g r pn).2.1 (R_read z g r pn).2.2.1 (R_read z g r pn).2.2.2) H := hP
  have hD : va_D A (wR kB kI o a (R_read z g r pn).2.1 (R_read z g r pn).2.2.1 (R_read z g r pn).2.2.2) := hD
  refine W.eq (g2 := F0 m 4 ls [.int ((R_read z g r pn).1)]) rfl ?_
  rcases hA : rdA (r 15) pn (r 19) with ⟨k9, nt9, br, td⟩
  have hnt9 : nt9 ≤ 5 := by have q := rdL_nt (r 15) pn 6 (rdT (r 15) pn 0 0 (r 19)).1 (if (rdT (r 15) pn 0 0 (r 19)).2.1 = true then 0 else 1) (rdT (r 15) pn 0 0 (r 19)).2.1 (rdT (r 15) pn 0 0 (r 19)).2.2 (by split <;> omega); rw [show rdL (r 15) pn 6 _ _ _ _ = (k9, nt9, br, td) from hA] at q; exact q
  have hF1 : R_read z g r pn = (nI k9, va_up (va_up (va_up z 16 (bi (br = false ∧ k9 = pn))) 17 (bi (br = true))) 18 (nI nt9), g, va_up r 19 td) := by rw [R_read, hA]
  rw [hF1] at hP hD ⊢
  have hP : va_P D vwCl (wR kB kI o a (va_up (va_up (va_up z 16 (bi (br = false ∧ k9 = pn))) 17 (bi (br = true))) 18 (nI nt9)) g (va_up r 19 td)) H := hP
  have hD : va_D A (wR kB kI o a (va_up (va_up (va_up z 16 (bi (br = false ∧ k9 = pn))) 17 (bi (br = true))) 18 (nI nt9)) g (va_up r 19 td)) := hD
  refine W.eq (g2 := F0 m 4 ls [.int (nI k9)]) rfl ?_
  refine lv_pop (pc := 4) hx hb dX8_house_4 rfl ?_
  refine lv_aload_n (pc := 5) hx hb dX8_house_5 rfl (lv_at hl 0 rfl) ?_
  refine fget (pc := 6) (v := .int (bi (br = false ∧ k9 = pn))) hx hb hts hown hE hP fl_X8_114 0 rfl rfl dX8_house_6 ?_
  refine bif_ne (pc := 9) (tgt := 15) hx hb dX8_house_9 (by decide) (fun c_1 => ?_) (fun c_1 => ?_)
  · skip
    refine lv_aload_n (pc := 15) hx hb dX8_house_15 rfl (lv_at hl 0 rfl) ?_
    refine lv_aload_n (pc := 16) hx hb dX8_house_16 rfl (lv_at hl 0 rfl) ?_
    refine fget (pc := 17) (v := .int (nI nt9)) hx hb hts hown hE hP fl_X8_94 0 rfl rfl dX8_house_17 ?_
    refine fput (pc := 20) (v := .int (nI nt9)) hx hb hts hown hE hP hD hS fp_X8_124 0 rfl rfl rfl (Nat.le_of_ble_eq_true rfl) dX8_house_20 (fun H locs hP hD hS => ?_)
    have hP : va_P D vwCl (wR kB kI o a (va_up (va_up (va_up (va_up z 1 (nI nt9)) 16 (bi (br = false ∧ k9 = pn))) 17 (bi (br = true))) 18 (nI nt9)) g (va_up r 19 td)) H := hP
    have hD : va_D A (wR kB kI o a (va_up (va_up (va_up (va_up z 1 (nI nt9)) 16 (bi (br = false ∧ k9 = pn))) 17 (bi (br = true))) 18 (nI nt9)) g (va_up r 19 td)) := hD
    refine lv_iconst (pc := 23) (v := 0) hx hb dX8_house_23 (by decide) ?_
    refine lv_istore_n (pc := 24) (lv' := [(1, .int 0), (0, .ref o)]) hx hb dX8_house_24 rfl hl (by decide) rfl (fun ls hl => ?_)
    have lp_2 : ∀ (fuel : Nat) (i : Nat), nt9 - i < fuel → (i ≤ nt9) → ∀ (H : Heap) (locs : List Loc), va_P D vwCl (wR kB kI o a (va_up (va_up (va_up (va_up z 1 (nI nt9)) 16 (bi (br = false ∧ k9 = pn))) 17 (bi (br = true))) 18 (nI nt9)) g (va_up (va_up (va_up (va_up (va_up (va_up (va_up r 2 (ovN (r 2) (fun q => td (6 * q)) i)) 3 (ovN (r 3) (fun q => td (6 * q + 1)) i)) 4 (ovN (r 4) (fun q => td (6 * q + 2)) i)) 5 (ovN (r 5) (fun q => td (6 * q + 3)) i)) 6 (ovN (r 6) (fun q => td (6 * q + 4)) i)) 7 (ovN (r 7) (fun q => td (6 * q + 5)) i)) 19 td)) H → va_D A (wR kB kI o a (va_up (va_up (va_up (va_up z 1 (nI nt9)) 16 (bi (br = false ∧ k9 = pn))) 17 (bi (br = true))) 18 (nI nt9)) g (va_up (va_up (va_up (va_up (va_up (va_up (va_up r 2 (ovN (r 2) (fun q => td (6 * q)) i)) 3 (ovN (r 3) (fun q => td (6 * q + 1)) i)) 4 (ovN (r 4) (fun q => td (6 * q + 2)) i)) 5 (ovN (r 5) (fun q => td (6 * q + 3)) i)) 6 (ovN (r 6) (fun q => td (6 * q + 4)) i)) 7 (ovN (r 7) (fun q => td (6 * q + 5)) i)) 19 td)) → va_S A s.heap H locs → ∀ (ls : Array Slot), lv_has ls 2 [(0, .ref o), (1, .int (nI i))] → W p l e (rmO 3 66) s m args below meth c0 H locs 0 0 Q (F0 m 25 ls []) := by
      intro fuel
      induction fuel with
      | zero => intro i hfuel; exact absurd hfuel (Nat.not_lt_zero _)
      | succ fuel ih_lp_2 =>
        intro i hfuel hi H locs hP hD hS ls hl
        refine lv_iload_n (pc := 25) hx hb dX8_house_25 rfl (lv_at hl 1 rfl) ?_
        refine lv_aload_n (pc := 26) hx hb dX8_house_26 rfl (lv_at hl 0 rfl) ?_
        refine fget (pc := 27) (v := .int (nI nt9)) hx hb hts hown hE hP fl_X8_124 0 rfl rfl dX8_house_27 ?_
        refine lv_icmp_ge (pc := 30) (tgt := 139) hx hb dX8_house_30 (by decide) (fun c_3 => ?_) (fun c_3 => ?_)
        · skip
          have c_3n : nt9 ≤ i := (nI_leI (a := nt9) (b := i) (by omega) (by omega)).mp c_3
          have hws_i : i = nt9 := by omega
          rw [hws_i] at hP hD
          refine lv_aload_n (pc := 139) hx hb dX8_house_139 rfl (lv_at hl 0 rfl) ?_
          refine wVa (pc := 140) (rest := []) ⟨hx, hb, hml, hown, hts⟩ (k_X8_darken (z := (va_up (va_up (va_up (va_up z 1 (nI nt9)) 16 (bi (br = false ∧ k9 = pn))) 17 (bi (br = true))) 18 (nI nt9))) (g := g) (r := (va_up (va_up (va_up (va_up (va_up (va_up (va_up r 2 (ovN (r 2) (fun q => td (6 * q)) nt9)) 3 (ovN (r 3) (fun q => td (6 * q + 1)) nt9)) 4 (ovN (r 4) (fun q => td (6 * q + 2)) nt9)) 5 (ovN (r 5) (fun q => td (6 * q + 3)) nt9)) 6 (ovN (r 6) (fun q => td (6 * q + 4)) nt9)) 7 (ovN (r 7) (fun q => td (6 * q + 5)) nt9)) 19 td))) cw_X8_83 ⟨(Nat.le_of_ble_eq_true rfl), (Nat.le_of_ble_eq_true rfl)⟩ hE hP hD hS rfl rfl rfl rfl rfl hl.1 rfl (Nat.le_of_ble_eq_true rfl) dX8_house_140 ⟨Nat.le_refl _, Nat.le_refl _⟩ (fun H locs hP hD hS => ?_)
          have hP : va_P D vwCl (wR kB kI o a (va_up (va_up (va_up (va_up z 1 (nI nt9)) 16 (bi (br = false ∧ k9 = pn))) 17 (bi (br = true))) 18 (nI nt9)) g (va_up (va_up (va_up (va_up (va_up (va_up (va_up (va_up r 2 (ovN (r 2) (fun q => td (6 * q)) nt9)) 3 (ovN (r 3) (fun q => td (6 * q + 1)) nt9)) 4 (ovN (r 4) (fun q => td (6 * q + 2)) nt9)) 5 (ovN (r 5) (fun q => td (6 * q + 3)) nt9)) 6 (ovN (r 6) (fun q => td (6 * q + 4)) nt9)) 7 (ovN (r 7) (fun q => td (6 * q + 5)) nt9)) 8 (darkF ((r 8)) 12)) 19 td)) H := hP
          have hD : va_D A (wR kB kI o a (va_up (va_up (va_up (va_up z 1 (nI nt9)) 16 (bi (br = false ∧ k9 = pn))) 17 (bi (br = true))) 18 (nI nt9)) g (va_up (va_up (va_up (va_up (va_up (va_up (va_up (va_up r 2 (ovN (r 2) (fun q => td (6 * q)) nt9)) 3 (ovN (r 3) (fun q => td (6 * q + 1)) nt9)) 4 (ovN (r 4) (fun q => td (6 * q + 2)) nt9)) 5 (ovN (r 5) (fun q => td (6 * q + 3)) nt9)) 6 (ovN (r 6) (fun q => td (6 * q + 4)) nt9)) 7 (ovN (r 7) (fun q => td (6 * q + 5)) nt9)) 8 (darkF ((r 8)) 12)) 19 td)) := hD
          refine W.eq (g2 := F0 m 143 ls []) rfl ?_
          refine lv_aload_n (pc := 143) hx hb dX8_house_143 rfl (lv_at hl 0 rfl) ?_
          refine lv_dup (pc := 144) hx hb dX8_house_144 rfl ?_
          refine fget (pc := 145) (v := .int (z 0)) hx hb hts hown hE hP fl_X8_127 0 rfl rfl dX8_house_145 ?_
          refine lv_iconst (pc := 148) (v := 1) hx hb dX8_house_148 (by decide) ?_
          refine lv_iadd (pc := 149) hx hb dX8_house_149 ?_
          refine fput (pc := 150) (v := .int ((z 0) + 1)) hx hb hts hown hE hP hD hS fp_X8_127 0 rfl rfl rfl (Nat.le_of_ble_eq_true rfl) dX8_house_150 (fun H locs hP hD hS => ?_)
          have hP : va_P D vwCl (wR kB kI o a (va_up (va_up (va_up (va_up (va_up z 0 ((z 0) + 1)) 1 (nI nt9)) 16 (bi (br = false ∧ k9 = pn))) 17 (bi (br = true))) 18 (nI nt9)) g (va_up (va_up (va_up (va_up (va_up (va_up (va_up (va_up r 2 (ovN (r 2) (fun q => td (6 * q)) nt9)) 3 (ovN (r 3) (fun q => td (6 * q + 1)) nt9)) 4 (ovN (r 4) (fun q => td (6 * q + 2)) nt9)) 5 (ovN (r 5) (fun q => td (6 * q + 3)) nt9)) 6 (ovN (r 6) (fun q => td (6 * q + 4)) nt9)) 7 (ovN (r 7) (fun q => td (6 * q + 5)) nt9)) 8 (darkF ((r 8)) 12)) 19 td)) H := hP
          have hD : va_D A (wR kB kI o a (va_up (va_up (va_up (va_up (va_up z 0 ((z 0) + 1)) 1 (nI nt9)) 16 (bi (br = false ∧ k9 = pn))) 17 (bi (br = true))) 18 (nI nt9)) g (va_up (va_up (va_up (va_up (va_up (va_up (va_up (va_up r 2 (ovN (r 2) (fun q => td (6 * q)) nt9)) 3 (ovN (r 3) (fun q => td (6 * q + 1)) nt9)) 4 (ovN (r 4) (fun q => td (6 * q + 2)) nt9)) 5 (ovN (r 5) (fun q => td (6 * q + 3)) nt9)) 6 (ovN (r 6) (fun q => td (6 * q + 4)) nt9)) 7 (ovN (r 7) (fun q => td (6 * q + 5)) nt9)) 8 (darkF ((r 8)) 12)) 19 td)) := hD
          refine lv_aload_n (pc := 153) hx hb dX8_house_153 rfl (lv_at hl 0 rfl) ?_
          refine lv_iconst (pc := 154) (v := 0) hx hb dX8_house_154 (by decide) ?_
          refine fput (pc := 155) (v := .int 0) hx hb hts hown hE hP hD hS fp_X8_130 0 rfl rfl rfl (Nat.le_of_ble_eq_true rfl) dX8_house_155 (fun H locs hP hD hS => ?_)
          have hP : va_P D vwCl (wR kB kI o a (va_up (va_up (va_up (va_up (va_up (va_up z 0 ((z 0) + 1)) 1 (nI nt9)) 10 0) 16 (bi (br = false ∧ k9 = pn))) 17 (bi (br = true))) 18 (nI nt9)) g (va_up (va_up (va_up (va_up (va_up (va_up (va_up (va_up r 2 (ovN (r 2) (fun q => td (6 * q)) nt9)) 3 (ovN (r 3) (fun q => td (6 * q + 1)) nt9)) 4 (ovN (r 4) (fun q => td (6 * q + 2)) nt9)) 5 (ovN (r 5) (fun q => td (6 * q + 3)) nt9)) 6 (ovN (r 6) (fun q => td (6 * q + 4)) nt9)) 7 (ovN (r 7) (fun q => td (6 * q + 5)) nt9)) 8 (darkF ((r 8)) 12)) 19 td)) H := hP
          have hD : va_D A (wR kB kI o a (va_up (va_up (va_up (va_up (va_up (va_up z 0 ((z 0) + 1)) 1 (nI nt9)) 10 0) 16 (bi (br = false ∧ k9 = pn))) 17 (bi (br = true))) 18 (nI nt9)) g (va_up (va_up (va_up (va_up (va_up (va_up (va_up (va_up r 2 (ovN (r 2) (fun q => td (6 * q)) nt9)) 3 (ovN (r 3) (fun q => td (6 * q + 1)) nt9)) 4 (ovN (r 4) (fun q => td (6 * q + 2)) nt9)) 5 (ovN (r 5) (fun q => td (6 * q + 3)) nt9)) 6 (ovN (r 6) (fun q => td (6 * q + 4)) nt9)) 7 (ovN (r 7) (fun q => td (6 * q + 5)) nt9)) 8 (darkF ((r 8)) 12)) 19 td)) := hD
          refine lv_aload_n (pc := 158) hx hb dX8_house_158 rfl (lv_at hl 0 rfl) ?_
          refine lv_iconst (pc := 159) (v := 0) hx hb dX8_house_159 (by decide) ?_
          refine fput (pc := 160) (v := .int 0) hx hb hts hown hE hP hD hS fp_X8_90 0 rfl rfl rfl (Nat.le_of_ble_eq_true rfl) dX8_house_160 (fun H locs hP hD hS => ?_)
          have hP : va_P D vwCl (wR kB kI o a (va_up (va_up (va_up (va_up (va_up (va_up (va_up z 0 ((z 0) + 1)) 1 (nI nt9)) 10 0) 14 0) 16 (bi (br = false ∧ k9 = pn))) 17 (bi (br = true))) 18 (nI nt9)) g (va_up (va_up (va_up (va_up (va_up (va_up (va_up (va_up r 2 (ovN (r 2) (fun q => td (6 * q)) nt9)) 3 (ovN (r 3) (fun q => td (6 * q + 1)) nt9)) 4 (ovN (r 4) (fun q => td (6 * q + 2)) nt9)) 5 (ovN (r 5) (fun q => td (6 * q + 3)) nt9)) 6 (ovN (r 6) (fun q => td (6 * q + 4)) nt9)) 7 (ovN (r 7) (fun q => td (6 * q + 5)) nt9)) 8 (darkF ((r 8)) 12)) 19 td)) H := hP
          have hD : va_D A (wR kB kI o a (va_up (va_up (va_up (va_up (va_up (va_up (va_up z 0 ((z 0) + 1)) 1 (nI nt9)) 10 0) 14 0) 16 (bi (br = false ∧ k9 = pn))) 17 (bi (br = true))) 18 (nI nt9)) g (va_up (va_up (va_up (va_up (va_up (va_up (va_up (va_up r 2 (ovN (r 2) (fun q => td (6 * q)) nt9)) 3 (ovN (r 3) (fun q => td (6 * q + 1)) nt9)) 4 (ovN (r 4) (fun q => td (6 * q + 2)) nt9)) 5 (ovN (r 5) (fun q => td (6 * q + 3)) nt9)) 6 (ovN (r 6) (fun q => td (6 * q + 4)) nt9)) 7 (ovN (r 7) (fun q => td (6 * q + 5)) nt9)) 8 (darkF ((r 8)) 12)) 19 td)) := hD
          refine lv_aload_n (pc := 163) hx hb dX8_house_163 rfl (lv_at hl 0 rfl) ?_
          refine fget (pc := 164) (v := .int (nI nt9)) hx hb hts hown hE hP fl_X8_124 0 rfl rfl dX8_house_164 ?_
          have hfn : R_house z g r pn = (nI nt9, (va_up (va_up (va_up (va_up (va_up (va_up (va_up z 0 ((z 0) + 1)) 1 (nI nt9)) 10 0) 14 0) 16 (bi (br = false ∧ k9 = pn))) 17 (bi (br = true))) 18 (nI nt9)), g, (va_up (va_up (va_up (va_up (va_up (va_up (va_up (va_up r 2 (ovN (r 2) (fun q => td (6 * q)) nt9)) 3 (ovN (r 3) (fun q => td (6 * q + 1)) nt9)) 4 (ovN (r 4) (fun q => td (6 * q + 2)) nt9)) 5 (ovN (r 5) (fun q => td (6 * q + 3)) nt9)) 6 (ovN (r 6) (fun q => td (6 * q + 4)) nt9)) 7 (ovN (r 7) (fun q => td (6 * q + 5)) nt9)) 8 (darkF ((r 8)) 12)) 19 td)) := by rw [R_house, hA, if_pos c_1]; simp only [bi]; rw [if_pos c_1, if_neg (fun q => by rw [c_1.1] at q; cases q)]
          rw [hQ]; exact W.iret (pc := 167) hx hb hr (fun t9 ht _ => ⟨⟨retI (by rw [hfn]), by rw [ht, hfn]; exact (show va_P D vwCl (wR kB kI o a (va_up (va_up (va_up (va_up (va_up (va_up (va_up z 0 ((z 0) + 1)) 1 (nI nt9)) 10 0) 14 0) 16 (bi (br = false ∧ k9 = pn))) 17 (bi (br = true))) 18 (nI nt9)) g (va_up (va_up (va_up (va_up (va_up (va_up (va_up (va_up r 2 (ovN (r 2) (fun q => td (6 * q)) nt9)) 3 (ovN (r 3) (fun q => td (6 * q + 1)) nt9)) 4 (ovN (r 4) (fun q => td (6 * q + 2)) nt9)) 5 (ovN (r 5) (fun q => td (6 * q + 3)) nt9)) 6 (ovN (r 6) (fun q => td (6 * q + 4)) nt9)) 7 (ovN (r 7) (fun q => td (6 * q + 5)) nt9)) 8 (darkF ((r 8)) 12)) 19 td)) _ from hP)⟩, hS.F ht⟩) hS.2.2 dX8_house_167 hlocks
        · skip
          have c_3n : ¬ nt9 ≤ i := fun hh => c_3 ((nI_leI (a := nt9) (b := i) (by omega) (by omega)).mpr hh)
          refine lv_aload_n (pc := 33) hx hb dX8_house_33 rfl (lv_at hl 0 rfl) ?_
          refine fget (pc := 34) (v := .ref (a 2)) hx hb hts hown hE hP fl_X8_7 0 rfl rfl dX8_house_34 ?_
          refine lv_iload_n (pc := 37) hx hb dX8_house_37 rfl (lv_at hl 1 rfl) ?_
          refine lv_aload_n (pc := 38) hx hb dX8_house_38 rfl (lv_at hl 0 rfl) ?_
          refine fget (pc := 39) (v := .ref (a 19)) hx hb hts hown hE hP fl_X8_44 0 rfl rfl dX8_house_39 ?_
          refine lv_bipush (pc := 42) (v := 6) hx hb dX8_house_42 (by decide) ?_
          refine lv_iload_n (pc := 44) hx hb dX8_house_44 rfl (lv_at hl 1 rfl) ?_
          refine imulV (pc := 45) (v := nI (6 * i)) hx hb dX8_house_45 (pk_mul (6) (i)) ?_
          refine aldN (pc := 46) (f := td) hx hb hE hP 12 rfl (6 * i) (by omega) (by omega) dX8_house_46 ?_
          refine astN (pc := 47) (f := ovN (r 2) (fun q => td (6 * q)) i) hx hb hE hP hD hS 1 rfl (i) (by omega) (by omega) dX8_house_47 (fun H locs hP hD hS => ?_)
          have hP : va_P D vwCl (wR kB kI o a (va_up (va_up (va_up (va_up z 1 (nI nt9)) 16 (bi (br = false ∧ k9 = pn))) 17 (bi (br = true))) 18 (nI nt9)) g (va_up (va_up (va_up (va_up (va_up (va_up (va_up r 2 (upd (ovN (r 2) (fun q => td (6 * q)) i) i (td (6 * i)))) 3 (ovN (r 3) (fun q => td (6 * q + 1)) i)) 4 (ovN (r 4) (fun q => td (6 * q + 2)) i)) 5 (ovN (r 5) (fun q => td (6 * q + 3)) i)) 6 (ovN (r 6) (fun q => td (6 * q + 4)) i)) 7 (ovN (r 7) (fun q => td (6 * q + 5)) i)) 19 td)) H := hP
          have hD : va_D A (wR kB kI o a (va_up (va_up (va_up (va_up z 1 (nI nt9)) 16 (bi (br = false ∧ k9 = pn))) 17 (bi (br = true))) 18 (nI nt9)) g (va_up (va_up (va_up (va_up (va_up (va_up (va_up r 2 (upd (ovN (r 2) (fun q => td (6 * q)) i) i (td (6 * i)))) 3 (ovN (r 3) (fun q => td (6 * q + 1)) i)) 4 (ovN (r 4) (fun q => td (6 * q + 2)) i)) 5 (ovN (r 5) (fun q => td (6 * q + 3)) i)) 6 (ovN (r 6) (fun q => td (6 * q + 4)) i)) 7 (ovN (r 7) (fun q => td (6 * q + 5)) i)) 19 td)) := hD
          refine lv_aload_n (pc := 48) hx hb dX8_house_48 rfl (lv_at hl 0 rfl) ?_
          refine fget (pc := 49) (v := .ref (a 3)) hx hb hts hown hE hP fl_X8_13 0 rfl rfl dX8_house_49 ?_
          refine lv_iload_n (pc := 52) hx hb dX8_house_52 rfl (lv_at hl 1 rfl) ?_
          refine lv_aload_n (pc := 53) hx hb dX8_house_53 rfl (lv_at hl 0 rfl) ?_
          refine fget (pc := 54) (v := .ref (a 19)) hx hb hts hown hE hP fl_X8_44 0 rfl rfl dX8_house_54 ?_
          refine lv_bipush (pc := 57) (v := 6) hx hb dX8_house_57 (by decide) ?_
          refine lv_iload_n (pc := 59) hx hb dX8_house_59 rfl (lv_at hl 1 rfl) ?_
          refine imulV (pc := 60) (v := nI (6 * i)) hx hb dX8_house_60 (pk_mul (6) (i)) ?_
          refine lv_iconst (pc := 61) (v := 1) hx hb dX8_house_61 (by decide) ?_
          refine iaddV (pc := 62) (v := nI (6 * i + 1)) hx hb dX8_house_62 (nI_add (6 * i) (1)) ?_
          refine aldN (pc := 63) (f := td) hx hb hE hP 12 rfl (6 * i + 1) (by omega) (by omega) dX8_house_63 ?_
          refine astN (pc := 64) (f := ovN (r 3) (fun q => td (6 * q + 1)) i) hx hb hE hP hD hS 2 rfl (i) (by omega) (by omega) dX8_house_64 (fun H locs hP hD hS => ?_)
          have hP : va_P D vwCl (wR kB kI o a (va_up (va_up (va_up (va_up z 1 (nI nt9)) 16 (bi (br = false ∧ k9 = pn))) 17 (bi (br = true))) 18 (nI nt9)) g (va_up (va_up (va_up (va_up (va_up (va_up (va_up r 2 (upd (ovN (r 2) (fun q => td (6 * q)) i) i (td (6 * i)))) 3 (upd (ovN (r 3) (fun q => td (6 * q + 1)) i) i (td (6 * i + 1)))) 4 (ovN (r 4) (fun q => td (6 * q + 2)) i)) 5 (ovN (r 5) (fun q => td (6 * q + 3)) i)) 6 (ovN (r 6) (fun q => td (6 * q + 4)) i)) 7 (ovN (r 7) (fun q => td (6 * q + 5)) i)) 19 td)) H := hP
          have hD : va_D A (wR kB kI o a (va_up (va_up (va_up (va_up z 1 (nI nt9)) 16 (bi (br = false ∧ k9 = pn))) 17 (bi (br = true))) 18 (nI nt9)) g (va_up (va_up (va_up (va_up (va_up (va_up (va_up r 2 (upd (ovN (r 2) (fun q => td (6 * q)) i) i (td (6 * i)))) 3 (upd (ovN (r 3) (fun q => td (6 * q + 1)) i) i (td (6 * i + 1)))) 4 (ovN (r 4) (fun q => td (6 * q + 2)) i)) 5 (ovN (r 5) (fun q => td (6 * q + 3)) i)) 6 (ovN (r 6) (fun q => td (6 * q + 4)) i)) 7 (ovN (r 7) (fun q => td (6 * q + 5)) i)) 19 td)) := hD
          refine lv_aload_n (pc := 65) hx hb dX8_house_65 rfl (lv_at hl 0 rfl) ?_
          refine fget (pc := 66) (v := .ref (a 4)) hx hb hts hown hE hP fl_X8_16 0 rfl rfl dX8_house_66 ?_
          refine lv_iload_n (pc := 69) hx hb dX8_house_69 rfl (lv_at hl 1 rfl) ?_
          refine lv_aload_n (pc := 70) hx hb dX8_house_70 rfl (lv_at hl 0 rfl) ?_
          refine fget (pc := 71) (v := .ref (a 19)) hx hb hts hown hE hP fl_X8_44 0 rfl rfl dX8_house_71 ?_
          refine lv_bipush (pc := 74) (v := 6) hx hb dX8_house_74 (by decide) ?_
          refine lv_iload_n (pc := 76) hx hb dX8_house_76 rfl (lv_at hl 1 rfl) ?_
          refine imulV (pc := 77) (v := nI (6 * i)) hx hb dX8_house_77 (pk_mul (6) (i)) ?_
          refine lv_iconst (pc := 78) (v := 2) hx hb dX8_house_78 (by decide) ?_
          refine iaddV (pc := 79) (v := nI (6 * i + 2)) hx hb dX8_house_79 (nI_add (6 * i) (2)) ?_
          refine aldN (pc := 80) (f := td) hx hb hE hP 12 rfl (6 * i + 2) (by omega) (by omega) dX8_house_80 ?_
          refine astN (pc := 81) (f := ovN (r 4) (fun q => td (6 * q + 2)) i) hx hb hE hP hD hS 3 rfl (i) (by omega) (by omega) dX8_house_81 (fun H locs hP hD hS => ?_)
          have hP : va_P D vwCl (wR kB kI o a (va_up (va_up (va_up (va_up z 1 (nI nt9)) 16 (bi (br = false ∧ k9 = pn))) 17 (bi (br = true))) 18 (nI nt9)) g (va_up (va_up (va_up (va_up (va_up (va_up (va_up r 2 (upd (ovN (r 2) (fun q => td (6 * q)) i) i (td (6 * i)))) 3 (upd (ovN (r 3) (fun q => td (6 * q + 1)) i) i (td (6 * i + 1)))) 4 (upd (ovN (r 4) (fun q => td (6 * q + 2)) i) i (td (6 * i + 2)))) 5 (ovN (r 5) (fun q => td (6 * q + 3)) i)) 6 (ovN (r 6) (fun q => td (6 * q + 4)) i)) 7 (ovN (r 7) (fun q => td (6 * q + 5)) i)) 19 td)) H := hP
          have hD : va_D A (wR kB kI o a (va_up (va_up (va_up (va_up z 1 (nI nt9)) 16 (bi (br = false ∧ k9 = pn))) 17 (bi (br = true))) 18 (nI nt9)) g (va_up (va_up (va_up (va_up (va_up (va_up (va_up r 2 (upd (ovN (r 2) (fun q => td (6 * q)) i) i (td (6 * i)))) 3 (upd (ovN (r 3) (fun q => td (6 * q + 1)) i) i (td (6 * i + 1)))) 4 (upd (ovN (r 4) (fun q => td (6 * q + 2)) i) i (td (6 * i + 2)))) 5 (ovN (r 5) (fun q => td (6 * q + 3)) i)) 6 (ovN (r 6) (fun q => td (6 * q + 4)) i)) 7 (ovN (r 7) (fun q => td (6 * q + 5)) i)) 19 td)) := hD
          refine lv_aload_n (pc := 82) hx hb dX8_house_82 rfl (lv_at hl 0 rfl) ?_
          refine fget (pc := 83) (v := .ref (a 5)) hx hb hts hown hE hP fl_X8_19 0 rfl rfl dX8_house_83 ?_
          refine lv_iload_n (pc := 86) hx hb dX8_house_86 rfl (lv_at hl 1 rfl) ?_
          refine lv_aload_n (pc := 87) hx hb dX8_house_87 rfl (lv_at hl 0 rfl) ?_
          refine fget (pc := 88) (v := .ref (a 19)) hx hb hts hown hE hP fl_X8_44 0 rfl rfl dX8_house_88 ?_
          refine lv_bipush (pc := 91) (v := 6) hx hb dX8_house_91 (by decide) ?_
          refine lv_iload_n (pc := 93) hx hb dX8_house_93 rfl (lv_at hl 1 rfl) ?_
          refine imulV (pc := 94) (v := nI (6 * i)) hx hb dX8_house_94 (pk_mul (6) (i)) ?_
          refine lv_iconst (pc := 95) (v := 3) hx hb dX8_house_95 (by decide) ?_
          refine iaddV (pc := 96) (v := nI (6 * i + 3)) hx hb dX8_house_96 (nI_add (6 * i) (3)) ?_
          refine aldN (pc := 97) (f := td) hx hb hE hP 12 rfl (6 * i + 3) (by omega) (by omega) dX8_house_97 ?_
          refine astN (pc := 98) (f := ovN (r 5) (fun q => td (6 * q + 3)) i) hx hb hE hP hD hS 4 rfl (i) (by omega) (by omega) dX8_house_98 (fun H locs hP hD hS => ?_)
          have hP : va_P D vwCl (wR kB kI o a (va_up (va_up (va_up (va_up z 1 (nI nt9)) 16 (bi (br = false ∧ k9 = pn))) 17 (bi (br = true))) 18 (nI nt9)) g (va_up (va_up (va_up (va_up (va_up (va_up (va_up r 2 (upd (ovN (r 2) (fun q => td (6 * q)) i) i (td (6 * i)))) 3 (upd (ovN (r 3) (fun q => td (6 * q + 1)) i) i (td (6 * i + 1)))) 4 (upd (ovN (r 4) (fun q => td (6 * q + 2)) i) i (td (6 * i + 2)))) 5 (upd (ovN (r 5) (fun q => td (6 * q + 3)) i) i (td (6 * i + 3)))) 6 (ovN (r 6) (fun q => td (6 * q + 4)) i)) 7 (ovN (r 7) (fun q => td (6 * q + 5)) i)) 19 td)) H := hP
          have hD : va_D A (wR kB kI o a (va_up (va_up (va_up (va_up z 1 (nI nt9)) 16 (bi (br = false ∧ k9 = pn))) 17 (bi (br = true))) 18 (nI nt9)) g (va_up (va_up (va_up (va_up (va_up (va_up (va_up r 2 (upd (ovN (r 2) (fun q => td (6 * q)) i) i (td (6 * i)))) 3 (upd (ovN (r 3) (fun q => td (6 * q + 1)) i) i (td (6 * i + 1)))) 4 (upd (ovN (r 4) (fun q => td (6 * q + 2)) i) i (td (6 * i + 2)))) 5 (upd (ovN (r 5) (fun q => td (6 * q + 3)) i) i (td (6 * i + 3)))) 6 (ovN (r 6) (fun q => td (6 * q + 4)) i)) 7 (ovN (r 7) (fun q => td (6 * q + 5)) i)) 19 td)) := hD
          refine lv_aload_n (pc := 99) hx hb dX8_house_99 rfl (lv_at hl 0 rfl) ?_
          refine fget (pc := 100) (v := .ref (a 6)) hx hb hts hown hE hP fl_X8_22 0 rfl rfl dX8_house_100 ?_
          refine lv_iload_n (pc := 103) hx hb dX8_house_103 rfl (lv_at hl 1 rfl) ?_
          refine lv_aload_n (pc := 104) hx hb dX8_house_104 rfl (lv_at hl 0 rfl) ?_
          refine fget (pc := 105) (v := .ref (a 19)) hx hb hts hown hE hP fl_X8_44 0 rfl rfl dX8_house_105 ?_
          refine lv_bipush (pc := 108) (v := 6) hx hb dX8_house_108 (by decide) ?_
          refine lv_iload_n (pc := 110) hx hb dX8_house_110 rfl (lv_at hl 1 rfl) ?_
          refine imulV (pc := 111) (v := nI (6 * i)) hx hb dX8_house_111 (pk_mul (6) (i)) ?_
          refine lv_iconst (pc := 112) (v := 4) hx hb dX8_house_112 (by decide) ?_
          refine iaddV (pc := 113) (v := nI (6 * i + 4)) hx hb dX8_house_113 (nI_add (6 * i) (4)) ?_
          refine aldN (pc := 114) (f := td) hx hb hE hP 12 rfl (6 * i + 4) (by omega) (by omega) dX8_house_114 ?_
          refine astN (pc := 115) (f := ovN (r 6) (fun q => td (6 * q + 4)) i) hx hb hE hP hD hS 5 rfl (i) (by omega) (by omega) dX8_house_115 (fun H locs hP hD hS => ?_)
          have hP : va_P D vwCl (wR kB kI o a (va_up (va_up (va_up (va_up z 1 (nI nt9)) 16 (bi (br = false ∧ k9 = pn))) 17 (bi (br = true))) 18 (nI nt9)) g (va_up (va_up (va_up (va_up (va_up (va_up (va_up r 2 (upd (ovN (r 2) (fun q => td (6 * q)) i) i (td (6 * i)))) 3 (upd (ovN (r 3) (fun q => td (6 * q + 1)) i) i (td (6 * i + 1)))) 4 (upd (ovN (r 4) (fun q => td (6 * q + 2)) i) i (td (6 * i + 2)))) 5 (upd (ovN (r 5) (fun q => td (6 * q + 3)) i) i (td (6 * i + 3)))) 6 (upd (ovN (r 6) (fun q => td (6 * q + 4)) i) i (td (6 * i + 4)))) 7 (ovN (r 7) (fun q => td (6 * q + 5)) i)) 19 td)) H := hP
          have hD : va_D A (wR kB kI o a (va_up (va_up (va_up (va_up z 1 (nI nt9)) 16 (bi (br = false ∧ k9 = pn))) 17 (bi (br = true))) 18 (nI nt9)) g (va_up (va_up (va_up (va_up (va_up (va_up (va_up r 2 (upd (ovN (r 2) (fun q => td (6 * q)) i) i (td (6 * i)))) 3 (upd (ovN (r 3) (fun q => td (6 * q + 1)) i) i (td (6 * i + 1)))) 4 (upd (ovN (r 4) (fun q => td (6 * q + 2)) i) i (td (6 * i + 2)))) 5 (upd (ovN (r 5) (fun q => td (6 * q + 3)) i) i (td (6 * i + 3)))) 6 (upd (ovN (r 6) (fun q => td (6 * q + 4)) i) i (td (6 * i + 4)))) 7 (ovN (r 7) (fun q => td (6 * q + 5)) i)) 19 td)) := hD
          refine lv_aload_n (pc := 116) hx hb dX8_house_116 rfl (lv_at hl 0 rfl) ?_
          refine fget (pc := 117) (v := .ref (a 7)) hx hb hts hown hE hP fl_X8_25 0 rfl rfl dX8_house_117 ?_
          refine lv_iload_n (pc := 120) hx hb dX8_house_120 rfl (lv_at hl 1 rfl) ?_
          refine lv_aload_n (pc := 121) hx hb dX8_house_121 rfl (lv_at hl 0 rfl) ?_
          refine fget (pc := 122) (v := .ref (a 19)) hx hb hts hown hE hP fl_X8_44 0 rfl rfl dX8_house_122 ?_
          refine lv_bipush (pc := 125) (v := 6) hx hb dX8_house_125 (by decide) ?_
          refine lv_iload_n (pc := 127) hx hb dX8_house_127 rfl (lv_at hl 1 rfl) ?_
          refine imulV (pc := 128) (v := nI (6 * i)) hx hb dX8_house_128 (pk_mul (6) (i)) ?_
          refine lv_iconst (pc := 129) (v := 5) hx hb dX8_house_129 (by decide) ?_
          refine iaddV (pc := 130) (v := nI (6 * i + 5)) hx hb dX8_house_130 (nI_add (6 * i) (5)) ?_
          refine aldN (pc := 131) (f := td) hx hb hE hP 12 rfl (6 * i + 5) (by omega) (by omega) dX8_house_131 ?_
          refine astN (pc := 132) (f := ovN (r 7) (fun q => td (6 * q + 5)) i) hx hb hE hP hD hS 6 rfl (i) (by omega) (by omega) dX8_house_132 (fun H locs hP hD hS => ?_)
          have hP : va_P D vwCl (wR kB kI o a (va_up (va_up (va_up (va_up z 1 (nI nt9)) 16 (bi (br = false ∧ k9 = pn))) 17 (bi (br = true))) 18 (nI nt9)) g (va_up (va_up (va_up (va_up (va_up (va_up (va_up r 2 (upd (ovN (r 2) (fun q => td (6 * q)) i) i (td (6 * i)))) 3 (upd (ovN (r 3) (fun q => td (6 * q + 1)) i) i (td (6 * i + 1)))) 4 (upd (ovN (r 4) (fun q => td (6 * q + 2)) i) i (td (6 * i + 2)))) 5 (upd (ovN (r 5) (fun q => td (6 * q + 3)) i) i (td (6 * i + 3)))) 6 (upd (ovN (r 6) (fun q => td (6 * q + 4)) i) i (td (6 * i + 4)))) 7 (upd (ovN (r 7) (fun q => td (6 * q + 5)) i) i (td (6 * i + 5)))) 19 td)) H := hP
          have hD : va_D A (wR kB kI o a (va_up (va_up (va_up (va_up z 1 (nI nt9)) 16 (bi (br = false ∧ k9 = pn))) 17 (bi (br = true))) 18 (nI nt9)) g (va_up (va_up (va_up (va_up (va_up (va_up (va_up r 2 (upd (ovN (r 2) (fun q => td (6 * q)) i) i (td (6 * i)))) 3 (upd (ovN (r 3) (fun q => td (6 * q + 1)) i) i (td (6 * i + 1)))) 4 (upd (ovN (r 4) (fun q => td (6 * q + 2)) i) i (td (6 * i + 2)))) 5 (upd (ovN (r 5) (fun q => td (6 * q + 3)) i) i (td (6 * i + 3)))) 6 (upd (ovN (r 6) (fun q => td (6 * q + 4)) i) i (td (6 * i + 4)))) 7 (upd (ovN (r 7) (fun q => td (6 * q + 5)) i) i (td (6 * i + 5)))) 19 td)) := hD
          refine lv_iinc (pc := 133) (v := nI (i + 1)) (lv' := [(1, .int (nI (i + 1))), (0, .ref o)]) hx hb dX8_house_133 hl (k := 1) rfl (nI_add (i) 1) (by decide) rfl (fun ls hl => ?_)
          refine lv_goto (pc := 136) (tgt := 25) hx hb dX8_house_136 (by decide) ?_
          exact ih_lp_2 (i + 1) (by omega) (by omega) _ _ (by rw [← ovN_s (r 2) (fun q => td (6 * q)), ← ovN_s (r 3) (fun q => td (6 * q + 1)), ← ovN_s (r 4) (fun q => td (6 * q + 2)), ← ovN_s (r 5) (fun q => td (6 * q + 3)), ← ovN_s (r 6) (fun q => td (6 * q + 4)), ← ovN_s (r 7) (fun q => td (6 * q + 5))]; exact hP) (by rw [← ovN_s (r 2) (fun q => td (6 * q)), ← ovN_s (r 3) (fun q => td (6 * q + 1)), ← ovN_s (r 4) (fun q => td (6 * q + 2)), ← ovN_s (r 5) (fun q => td (6 * q + 3)), ← ovN_s (r 6) (fun q => td (6 * q + 4)), ← ovN_s (r 7) (fun q => td (6 * q + 5))]; exact hD) hS ls (lv_sub hl [1, 0] rfl)
    exact lp_2 _ 0 (Nat.lt_succ_self _) (by omega) _ _ (by rw [ovN_0, ovN_0, ovN_0, ovN_0, ovN_0, ovN_0]; exact hP) (by rw [ovN_0, ovN_0, ovN_0, ovN_0, ovN_0, ovN_0]; exact hD) hS ls (lv_sub hl [1, 0] rfl)
  · skip
    refine lv_bipush (pc := 12) (v := (-103)) hx hb dX8_house_12 (by decide) ?_
    have hfn : R_house z g r pn = ((-103), (va_up (va_up (va_up z 16 (bi (br = false ∧ k9 = pn))) 17 (bi (br = true))) 18 (nI nt9)), g, (va_up r 19 td)) := by rw [R_house, hA, if_neg c_1, hF1]
    rw [hQ]; exact W.iret (pc := 14) hx hb hr (fun t9 ht _ => ⟨⟨retI (by rw [hfn]), by rw [ht, hfn]; exact (show va_P D vwCl (wR kB kI o a (va_up (va_up (va_up z 16 (bi (br = false ∧ k9 = pn))) 17 (bi (br = true))) 18 (nI nt9)) g (va_up r 19 td)) _ from hP)⟩, hS.F ht⟩) hS.2.2 dX8_house_14 hlocks
end
