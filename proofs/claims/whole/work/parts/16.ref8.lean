section
variable {l : Launch} {D : va_G} {kB kI kT : ClassId} {ks sk sv : Nat}
set_option maxRecDepth 100000 in
set_option maxHeartbeats 4000000 in
theorem k_X8_read {o : Nat} {a : Nat → Nat} {z : Nat → Int32} {g : Nat → Int64} {r : Nat → Nat → Int32} {pn : Nat} (hz14 : z 14 = nI pn) (hpn : pn ≤ 40) : MW l yX8_read cX8_read 2 (some .int) 2 45 D kB kI kT ks sk sv [.ref o] (wR kB kI o a z g r) (some (.int ((R_read z g r pn).1))) (wR kB kI o a (R_read z g r pn).2.1 (R_read z g r pn).2.2.1 (R_read z g r pn).2.2.2) := by
  refine MW.go (by decide +kernel) (Nat.le_of_ble_eq_true rfl) ?_
  intro p e s m below meth c0 args Q ls A hQ hx hb hr hml hown hts hlocks hE hP hD hS hl
  have hl : lv_has ls 2 [(0, .ref o)] := hl
  have hown : s.vm.findClass RX8 = some m.cls := hown
  refine lv_aload_n (pc := 0) hx hb dX8_read_0 rfl (lv_at hl 0 rfl) ?_
  refine lv_iconst (pc := 1) (v := 0) hx hb dX8_read_1 (by decide) ?_
  refine fput (pc := 2) (v := .int 0) hx hb hts hown hE hP hD hS fp_X8_114 0 rfl rfl rfl (Nat.le_of_ble_eq_true rfl) dX8_read_2 (fun H locs hP hD hS => ?_)
  have hP : va_P D vwCl (wR kB kI o a (va_up z 16 0) g r) H := hP
  have hD : va_D A (wR kB kI o a (va_up z 16 0) g r) := hD
  refine lv_aload_n (pc := 5) hx hb dX8_read_5 rfl (lv_at hl 0 rfl) ?_
  refine lv_iconst (pc := 6) (v := 0) hx hb dX8_read_6 (by decide) ?_
  refine fput (pc := 7) (v := .int 0) hx hb hts hown hE hP hD hS fp_X8_104 0 rfl rfl rfl (Nat.le_of_ble_eq_true rfl) dX8_read_7 (fun H locs hP hD hS => ?_)
  have hP : va_P D vwCl (wR kB kI o a (va_up (va_up z 16 0) 17 0) g r) H := hP
  have hD : va_D A (wR kB kI o a (va_up (va_up z 16 0) 17 0) g r) := hD
  refine lv_aload_n (pc := 10) hx hb dX8_read_10 rfl (lv_at hl 0 rfl) ?_
  refine lv_iconst (pc := 11) (v := 0) hx hb dX8_read_11 (by decide) ?_
  refine fput (pc := 12) (v := .int 0) hx hb hts hown hE hP hD hS fp_X8_94 0 rfl rfl rfl (Nat.le_of_ble_eq_true rfl) dX8_read_12 (fun H locs hP hD hS => ?_)
  have hP : va_P D vwCl (wR kB kI o a (va_up (va_up (va_up z 16 0) 17 0) 18 0) g r) H := hP
  have hD : va_D A (wR kB kI o a (va_up (va_up (va_up z 16 0) 17 0) 18 0) g r) := hD
  refine lv_aload_n (pc := 15) hx hb dX8_read_15 rfl (lv_at hl 0 rfl) ?_
  refine lv_iconst (pc := 16) (v := 0) hx hb dX8_read_16 (by decide) ?_
  refine wVa (pc := 17) (rest := []) ⟨hx, hb, hml, hown, hts⟩ (k_X8_readTitle (k := 0) (z := (va_up (va_up (va_up z 16 0) 17 0) 18 0)) (g := g) (r := r) (hz14 := hz14) (hpn := (by first | assumption | omega)) (hz18 := rfl) (hnt := (by omega)) (hk := (by omega)) (pn := pn) (nt := 0)) cw_X8_117 ⟨(Nat.le_of_ble_eq_true rfl), (Nat.le_of_ble_eq_true rfl)⟩ hE hP hD hS rfl rfl rfl rfl rfl hl.1 rfl (Nat.le_of_ble_eq_true rfl) dX8_read_17 ⟨Nat.le_refl _, Nat.le_refl _⟩ (fun H locs hP hD hS => ?_)
  have hP : va_P D vwCl (wR kB kI o a (R_readTitle (va_up (va_up (va_up z 16 0) 17 0) 18 0) g r pn 0 0).2.1 (R_readTitle (va_up (va_up (va_up z 16 0) 17 0) 18 0) g r pn 0 0).2.2.1 (R_readTitle (va_up (va_up (va_up z 16 0) 17 0) 18 0) g r pn 0 0).2.2.2) H := hP
  have hD : va_D A (wR kB kI o a (R_readTitle (va_up (va_up (va_up z 16 0) 17 0) 18 0) g r pn 0 0).2.1 (R_readTitle (va_up (va_up (va_up z 16 0) 17 0) 18 0) g r pn 0 0).2.2.1 (R_readTitle (va_up (va_up (va_up z 16 0) 17 0) 18 0) g r pn 0 0).2.2.2) := hD
  refine W.eq (g2 := F0 m 20 ls [.int ((R_readTitle (va_up (va_up (va_up z 16 0) 17 0) 18 0) g r pn 0 0).1)]) rfl ?_
  rcases hT1 : rdT (r 15) pn 0 0 (r 19) with ⟨k1, b1, t1⟩
  have hTl : k1 ≤ 0 + 6 := by have q := rdT_le (r 15) pn 0 0 (r 19); rw [hT1] at q; exact q
  cases b1 with
  | true =>
    have hF1 : R_readTitle (va_up (va_up (va_up z 16 0) 17 0) 18 0) g r pn 0 0 = (nI k1, va_up (va_up (va_up (va_up z 16 0) 17 0) 18 0) 17 1, g, va_up r 19 t1) := by show (nI (rdT (r 15) pn 0 0 (r 19)).1, (if (rdT (r 15) pn 0 0 (r 19)).2.1 = true then va_up (va_up (va_up (va_up z 16 0) 17 0) 18 0) 17 1 else va_up (va_up (va_up (va_up z 16 0) 17 0) 18 0) 18 (nI (0 + 1))), g, va_up r 19 (rdT (r 15) pn 0 0 (r 19)).2.2) = _; rw [hT1]; rfl
    rw [hF1] at hP hD ⊢
    have hP : va_P D vwCl (wR kB kI o a (va_up (va_up (va_up z 16 0) 17 1) 18 (nI 0)) g (va_up r 19 t1)) H := hP
    have hD : va_D A (wR kB kI o a (va_up (va_up (va_up z 16 0) 17 1) 18 (nI 0)) g (va_up r 19 t1)) := hD
    refine W.eq (g2 := F0 m 20 ls [.int (nI k1)]) rfl ?_
    refine lv_istore_n (pc := 20) (lv' := [(1, .int (nI k1)), (0, .ref o)]) hx hb dX8_read_20 rfl hl (by decide) rfl (fun ls hl => ?_)
    have lp_1 : ∀ (fuel : Nat) (k9 : Nat) (nt9 : Nat) (br : Bool) (td : Nat → Int32), (5 - nt9) + (if br = true then 0 else 1) < fuel → (nt9 ≤ 5) → (br = false → k9 ≤ 7 * nt9) → (k9 ≤ 7 * nt9 + 7) → (∃ f9, (5 - nt9) + (if br = true then 0 else 1) ≤ f9 ∧ rdA (r 15) pn (r 19) = rdL (r 15) pn f9 k9 nt9 br td) → ∀ (H : Heap) (locs : List Loc), va_P D vwCl (wR kB kI o a (va_up (va_up (va_up z 16 0) 17 (bi (br = true))) 18 (nI nt9)) g (va_up r 19 td)) H → va_D A (wR kB kI o a (va_up (va_up (va_up z 16 0) 17 (bi (br = true))) 18 (nI nt9)) g (va_up r 19 td)) → va_S A s.heap H locs → ∀ (ls : Array Slot), lv_has ls 2 [(0, .ref o), (1, .int (nI k9))] → W p l e (rmO 2 45) s m args below meth c0 H locs 0 0 Q (F0 m 21 ls []) := by
      intro fuel
      induction fuel with
      | zero => intro k9 nt9 br td hfuel; exact absurd hfuel (Nat.not_lt_zero _)
      | succ fuel ih_lp_1 =>
        intro k9 nt9 br td hfuel hnt9 hkb hkb2 hR H locs hP hD hS ls hl
        refine lv_aload_n (pc := 21) hx hb dX8_read_21 rfl (lv_at hl 0 rfl) ?_
        refine fget (pc := 22) (v := .int (bi (br = true))) hx hb hts hown hE hP fl_X8_104 0 rfl rfl dX8_read_22 ?_
        refine bif_ne (pc := 25) (tgt := 57) hx hb dX8_read_25 (by decide) (fun c_2 => ?_) (fun c_2 => ?_)
        · skip
          refine lv_aload_n (pc := 57) hx hb dX8_read_57 rfl (lv_at hl 0 rfl) ?_
          refine lv_aload_n (pc := 58) hx hb dX8_read_58 rfl (lv_at hl 0 rfl) ?_
          refine fget (pc := 59) (v := .int (bi (br = true))) hx hb hts hown hE hP fl_X8_104 0 rfl rfl dX8_read_59 ?_
          refine bif_ne (pc := 62) (tgt := 77) hx hb dX8_read_62 (by decide) (fun c_3 => ?_) (fun c_3 => ?_)
          · skip
            refine lv_iconst (pc := 77) (v := 0) hx hb dX8_read_77 (by decide) ?_
            refine fput (pc := 78) (v := .int 0) hx hb hts hown hE hP hD hS fp_X8_114 0 rfl rfl rfl (Nat.le_of_ble_eq_true rfl) dX8_read_78 (fun H locs hP hD hS => ?_)
            have hP : va_P D vwCl (wR kB kI o a (va_up (va_up (va_up z 16 0) 17 (bi (br = true))) 18 (nI nt9)) g (va_up r 19 td)) H := hP
            have hD : va_D A (wR kB kI o a (va_up (va_up (va_up z 16 0) 17 (bi (br = true))) 18 (nI nt9)) g (va_up r 19 td)) := hD
            refine lv_iload_n (pc := 81) hx hb dX8_read_81 rfl (lv_at hl 1 rfl) ?_
            have hfn : R_read z g r pn = (nI k9, (va_up (va_up (va_up z 16 0) 17 (bi (br = true))) 18 (nI nt9)), g, (va_up r 19 td)) := by obtain ⟨f9, h1, h2⟩ := hR; rw [rdL_out (r 15) pn (fun q => by rw [q.1] at c_2; cases c_2)] at h2; rw [R_read, h2]; simp only [bi]; rw [if_neg (fun q => by rw [q.1] at c_3; cases c_3)]
            rw [hQ]; exact W.iret (pc := 82) hx hb hr (fun t9 ht _ => ⟨⟨retI (by rw [hfn]), by rw [ht, hfn]; exact (show va_P D vwCl (wR kB kI o a (va_up (va_up (va_up z 16 0) 17 (bi (br = true))) 18 (nI nt9)) g (va_up r 19 td)) _ from hP)⟩, hS.F ht⟩) hS.2.2 dX8_read_82 hlocks
          · skip
            refine lv_iload_n (pc := 65) hx hb dX8_read_65 rfl (lv_at hl 1 rfl) ?_
            refine lv_aload_n (pc := 66) hx hb dX8_read_66 rfl (lv_at hl 0 rfl) ?_
            refine fget (pc := 67) (v := .int (z 14)) hx hb hts hown hE hP fl_X8_90 0 rfl rfl dX8_read_67 ?_
            refine vEq (v := nI pn) hz14 ?_
            refine lv_icmp_ne (pc := 70) (tgt := 77) hx hb dX8_read_70 (by decide) (fun c_4 => ?_) (fun c_4 => ?_)
            · skip
              have c_4n : ¬ k9 = pn := fun hh => c_4 ((nI_eq (a := k9) (b := pn) (by omega) (by omega)).mpr hh)
              refine lv_iconst (pc := 77) (v := 0) hx hb dX8_read_77 (by decide) ?_
              refine fput (pc := 78) (v := .int 0) hx hb hts hown hE hP hD hS fp_X8_114 0 rfl rfl rfl (Nat.le_of_ble_eq_true rfl) dX8_read_78 (fun H locs hP hD hS => ?_)
              have hP : va_P D vwCl (wR kB kI o a (va_up (va_up (va_up z 16 0) 17 (bi (br = true))) 18 (nI nt9)) g (va_up r 19 td)) H := hP
              have hD : va_D A (wR kB kI o a (va_up (va_up (va_up z 16 0) 17 (bi (br = true))) 18 (nI nt9)) g (va_up r 19 td)) := hD
              refine lv_iload_n (pc := 81) hx hb dX8_read_81 rfl (lv_at hl 1 rfl) ?_
              have hfn : R_read z g r pn = (nI k9, (va_up (va_up (va_up z 16 0) 17 (bi (br = true))) 18 (nI nt9)), g, (va_up r 19 td)) := by obtain ⟨f9, h1, h2⟩ := hR; rw [rdL_out (r 15) pn (fun q => by rw [q.1] at c_2; cases c_2)] at h2; rw [R_read, h2]; simp only [bi]; rw [if_neg (fun q => c_4n q.2)]
              rw [hQ]; exact W.iret (pc := 82) hx hb hr (fun t9 ht _ => ⟨⟨retI (by rw [hfn]), by rw [ht, hfn]; exact (show va_P D vwCl (wR kB kI o a (va_up (va_up (va_up z 16 0) 17 (bi (br = true))) 18 (nI nt9)) g (va_up r 19 td)) _ from hP)⟩, hS.F ht⟩) hS.2.2 dX8_read_82 hlocks
            · skip
              have c_4n : k9 = pn := (nI_eq (a := k9) (b := pn) (by omega) (by omega)).mp c_4
              refine lv_iconst (pc := 73) (v := 1) hx hb dX8_read_73 (by decide) ?_
              refine lv_goto (pc := 74) (tgt := 78) hx hb dX8_read_74 (by decide) ?_
              refine fput (pc := 78) (v := .int 1) hx hb hts hown hE hP hD hS fp_X8_114 0 rfl rfl rfl (Nat.le_of_ble_eq_true rfl) dX8_read_78 (fun H locs hP hD hS => ?_)
              have hP : va_P D vwCl (wR kB kI o a (va_up (va_up (va_up z 16 1) 17 (bi (br = true))) 18 (nI nt9)) g (va_up r 19 td)) H := hP
              have hD : va_D A (wR kB kI o a (va_up (va_up (va_up z 16 1) 17 (bi (br = true))) 18 (nI nt9)) g (va_up r 19 td)) := hD
              refine lv_iload_n (pc := 81) hx hb dX8_read_81 rfl (lv_at hl 1 rfl) ?_
              have hfn : R_read z g r pn = (nI k9, (va_up (va_up (va_up z 16 1) 17 (bi (br = true))) 18 (nI nt9)), g, (va_up r 19 td)) := by obtain ⟨f9, h1, h2⟩ := hR; rw [rdL_out (r 15) pn (fun q => by rw [q.1] at c_2; cases c_2)] at h2; rw [R_read, h2]; simp only [bi]; rw [if_pos ⟨Bool.eq_false_iff.mpr c_3, c_4n⟩]
              rw [hQ]; exact W.iret (pc := 82) hx hb hr (fun t9 ht _ => ⟨⟨retI (by rw [hfn]), by rw [ht, hfn]; exact (show va_P D vwCl (wR kB kI o a (va_up (va_up (va_up z 16 1) 17 (bi (br = true))) 18 (nI nt9)) g (va_up r 19 td)) _ from hP)⟩, hS.F ht⟩) hS.2.2 dX8_read_82 hlocks
        · skip
          have hk9 := hkb (Bool.eq_false_iff.mpr c_2)
          refine lv_aload_n (pc := 28) hx hb dX8_read_28 rfl (lv_at hl 0 rfl) ?_
          refine fget (pc := 29) (v := .int (nI nt9)) hx hb hts hown hE hP fl_X8_94 0 rfl rfl dX8_read_29 ?_
          refine lv_iconst (pc := 32) (v := 5) hx hb dX8_read_32 (by decide) ?_
          refine lv_icmp_ge (pc := 33) (tgt := 57) hx hb dX8_read_33 (by decide) (fun c_5 => ?_) (fun c_5 => ?_)
          · skip
            have c_5n : 5 ≤ nt9 := (nI_leI (a := 5) (b := nt9) (by omega) (by omega)).mp c_5
            refine lv_aload_n (pc := 57) hx hb dX8_read_57 rfl (lv_at hl 0 rfl) ?_
            refine lv_aload_n (pc := 58) hx hb dX8_read_58 rfl (lv_at hl 0 rfl) ?_
            refine fget (pc := 59) (v := .int (bi (br = true))) hx hb hts hown hE hP fl_X8_104 0 rfl rfl dX8_read_59 ?_
            refine bif_ne (pc := 62) (tgt := 77) hx hb dX8_read_62 (by decide) (fun c_6 => ?_) (fun c_6 => ?_)
            · skip
              refine lv_iconst (pc := 77) (v := 0) hx hb dX8_read_77 (by decide) ?_
              refine fput (pc := 78) (v := .int 0) hx hb hts hown hE hP hD hS fp_X8_114 0 rfl rfl rfl (Nat.le_of_ble_eq_true rfl) dX8_read_78 (fun H locs hP hD hS => ?_)
              have hP : va_P D vwCl (wR kB kI o a (va_up (va_up (va_up z 16 0) 17 (bi (br = true))) 18 (nI nt9)) g (va_up r 19 td)) H := hP
              have hD : va_D A (wR kB kI o a (va_up (va_up (va_up z 16 0) 17 (bi (br = true))) 18 (nI nt9)) g (va_up r 19 td)) := hD
              refine lv_iload_n (pc := 81) hx hb dX8_read_81 rfl (lv_at hl 1 rfl) ?_
              have hfn : R_read z g r pn = (nI k9, (va_up (va_up (va_up z 16 0) 17 (bi (br = true))) 18 (nI nt9)), g, (va_up r 19 td)) := by obtain ⟨f9, h1, h2⟩ := hR; rw [rdL_out (r 15) pn (fun q => by omega)] at h2; rw [R_read, h2]; simp only [bi]; rw [if_neg (fun q => by rw [q.1] at c_6; cases c_6)]
              rw [hQ]; exact W.iret (pc := 82) hx hb hr (fun t9 ht _ => ⟨⟨retI (by rw [hfn]), by rw [ht, hfn]; exact (show va_P D vwCl (wR kB kI o a (va_up (va_up (va_up z 16 0) 17 (bi (br = true))) 18 (nI nt9)) g (va_up r 19 td)) _ from hP)⟩, hS.F ht⟩) hS.2.2 dX8_read_82 hlocks
            · skip
              refine lv_iload_n (pc := 65) hx hb dX8_read_65 rfl (lv_at hl 1 rfl) ?_
              refine lv_aload_n (pc := 66) hx hb dX8_read_66 rfl (lv_at hl 0 rfl) ?_
              refine fget (pc := 67) (v := .int (z 14)) hx hb hts hown hE hP fl_X8_90 0 rfl rfl dX8_read_67 ?_
              refine vEq (v := nI pn) hz14 ?_
              refine lv_icmp_ne (pc := 70) (tgt := 77) hx hb dX8_read_70 (by decide) (fun c_7 => ?_) (fun c_7 => ?_)
              · skip
                have c_7n : ¬ k9 = pn := fun hh => c_7 ((nI_eq (a := k9) (b := pn) (by omega) (by omega)).mpr hh)
                refine lv_iconst (pc := 77) (v := 0) hx hb dX8_read_77 (by decide) ?_
                refine fput (pc := 78) (v := .int 0) hx hb hts hown hE hP hD hS fp_X8_114 0 rfl rfl rfl (Nat.le_of_ble_eq_true rfl) dX8_read_78 (fun H locs hP hD hS => ?_)
                have hP : va_P D vwCl (wR kB kI o a (va_up (va_up (va_up z 16 0) 17 (bi (br = true))) 18 (nI nt9)) g (va_up r 19 td)) H := hP
                have hD : va_D A (wR kB kI o a (va_up (va_up (va_up z 16 0) 17 (bi (br = true))) 18 (nI nt9)) g (va_up r 19 td)) := hD
                refine lv_iload_n (pc := 81) hx hb dX8_read_81 rfl (lv_at hl 1 rfl) ?_
                have hfn : R_read z g r pn = (nI k9, (va_up (va_up (va_up z 16 0) 17 (bi (br = true))) 18 (nI nt9)), g, (va_up r 19 td)) := by obtain ⟨f9, h1, h2⟩ := hR; rw [rdL_out (r 15) pn (fun q => by omega)] at h2; rw [R_read, h2]; simp only [bi]; rw [if_neg (fun q => c_7n q.2)]
                rw [hQ]; exact W.iret (pc := 82) hx hb hr (fun t9 ht _ => ⟨⟨retI (by rw [hfn]), by rw [ht, hfn]; exact (show va_P D vwCl (wR kB kI o a (va_up (va_up (va_up z 16 0) 17 (bi (br = true))) 18 (nI nt9)) g (va_up r 19 td)) _ from hP)⟩, hS.F ht⟩) hS.2.2 dX8_read_82 hlocks
              · skip
                have c_7n : k9 = pn := (nI_eq (a := k9) (b := pn) (by omega) (by omega)).mp c_7
                refine lv_iconst (pc := 73) (v := 1) hx hb dX8_read_73 (by decide) ?_
                refine lv_goto (pc := 74) (tgt := 78) hx hb dX8_read_74 (by decide) ?_
                refine fput (pc := 78) (v := .int 1) hx hb hts hown hE hP hD hS fp_X8_114 0 rfl rfl rfl (Nat.le_of_ble_eq_true rfl) dX8_read_78 (fun H locs hP hD hS => ?_)
                have hP : va_P D vwCl (wR kB kI o a (va_up (va_up (va_up z 16 1) 17 (bi (br = true))) 18 (nI nt9)) g (va_up r 19 td)) H := hP
                have hD : va_D A (wR kB kI o a (va_up (va_up (va_up z 16 1) 17 (bi (br = true))) 18 (nI nt9)) g (va_up r 19 td)) := hD
                refine lv_iload_n (pc := 81) hx hb dX8_read_81 rfl (lv_at hl 1 rfl) ?_
                have hfn : R_read z g r pn = (nI k9, (va_up (va_up (va_up z 16 1) 17 (bi (br = true))) 18 (nI nt9)), g, (va_up r 19 td)) := by obtain ⟨f9, h1, h2⟩ := hR; rw [rdL_out (r 15) pn (fun q => by omega)] at h2; rw [R_read, h2]; simp only [bi]; rw [if_pos ⟨Bool.eq_false_iff.mpr c_6, c_7n⟩]
                rw [hQ]; exact W.iret (pc := 82) hx hb hr (fun t9 ht _ => ⟨⟨retI (by rw [hfn]), by rw [ht, hfn]; exact (show va_P D vwCl (wR kB kI o a (va_up (va_up (va_up z 16 1) 17 (bi (br = true))) 18 (nI nt9)) g (va_up r 19 td)) _ from hP)⟩, hS.F ht⟩) hS.2.2 dX8_read_82 hlocks
          · skip
            have c_5n : ¬ 5 ≤ nt9 := fun hh => c_5 ((nI_leI (a := 5) (b := nt9) (by omega) (by omega)).mpr hh)
            refine lv_aload_n (pc := 36) hx hb dX8_read_36 rfl (lv_at hl 0 rfl) ?_
            refine lv_iload_n (pc := 37) hx hb dX8_read_37 rfl (lv_at hl 1 rfl) ?_
            refine rV (pc := 38) (rest := []) ⟨hx, hb, hml, hown, hts⟩ (k_X8_at (k := k9) (z := (va_up (va_up (va_up z 16 0) 17 (bi (br = true))) 18 (nI nt9))) (g := g) (r := (va_up r 19 td)) (hz14 := hz14) (hpn := (by first | assumption | omega)) (hk := (by omega))) cw_X8_97 ⟨(Nat.le_of_ble_eq_true rfl), (Nat.le_of_ble_eq_true rfl)⟩ hE hS hP rfl rfl rfl rfl hl.1 rfl (Nat.le_of_ble_eq_true rfl) dX8_read_38 ⟨Nat.le_refl _, Nat.le_refl _⟩ ?_
            refine W.eq (g2 := F0 m 41 ls [.int (atP ((r 15)) pn k9)]) rfl ?_
            refine lv_bipush (pc := 41) (v := 44) hx hb dX8_read_41 (by decide) ?_
            refine lv_icmp_ne (pc := 43) (tgt := 57) hx hb dX8_read_43 (by decide) (fun c_8 => ?_) (fun c_8 => ?_)
            · skip
              refine lv_aload_n (pc := 57) hx hb dX8_read_57 rfl (lv_at hl 0 rfl) ?_
              refine lv_aload_n (pc := 58) hx hb dX8_read_58 rfl (lv_at hl 0 rfl) ?_
              refine fget (pc := 59) (v := .int (bi (br = true))) hx hb hts hown hE hP fl_X8_104 0 rfl rfl dX8_read_59 ?_
              refine bif_ne (pc := 62) (tgt := 77) hx hb dX8_read_62 (by decide) (fun c_9 => ?_) (fun c_9 => ?_)
              · skip
                refine lv_iconst (pc := 77) (v := 0) hx hb dX8_read_77 (by decide) ?_
                refine fput (pc := 78) (v := .int 0) hx hb hts hown hE hP hD hS fp_X8_114 0 rfl rfl rfl (Nat.le_of_ble_eq_true rfl) dX8_read_78 (fun H locs hP hD hS => ?_)
                have hP : va_P D vwCl (wR kB kI o a (va_up (va_up (va_up z 16 0) 17 (bi (br = true))) 18 (nI nt9)) g (va_up r 19 td)) H := hP
                have hD : va_D A (wR kB kI o a (va_up (va_up (va_up z 16 0) 17 (bi (br = true))) 18 (nI nt9)) g (va_up r 19 td)) := hD
                refine lv_iload_n (pc := 81) hx hb dX8_read_81 rfl (lv_at hl 1 rfl) ?_
                have hfn : R_read z g r pn = (nI k9, (va_up (va_up (va_up z 16 0) 17 (bi (br = true))) 18 (nI nt9)), g, (va_up r 19 td)) := by obtain ⟨f9, h1, h2⟩ := hR; rw [rdL_out (r 15) pn (fun q => c_8 q.2.2)] at h2; rw [R_read, h2]; simp only [bi]; rw [if_neg (fun q => by rw [q.1] at c_9; cases c_9)]
                rw [hQ]; exact W.iret (pc := 82) hx hb hr (fun t9 ht _ => ⟨⟨retI (by rw [hfn]), by rw [ht, hfn]; exact (show va_P D vwCl (wR kB kI o a (va_up (va_up (va_up z 16 0) 17 (bi (br = true))) 18 (nI nt9)) g (va_up r 19 td)) _ from hP)⟩, hS.F ht⟩) hS.2.2 dX8_read_82 hlocks
              · skip
                refine lv_iload_n (pc := 65) hx hb dX8_read_65 rfl (lv_at hl 1 rfl) ?_
                refine lv_aload_n (pc := 66) hx hb dX8_read_66 rfl (lv_at hl 0 rfl) ?_
                refine fget (pc := 67) (v := .int (z 14)) hx hb hts hown hE hP fl_X8_90 0 rfl rfl dX8_read_67 ?_
                refine vEq (v := nI pn) hz14 ?_
                refine lv_icmp_ne (pc := 70) (tgt := 77) hx hb dX8_read_70 (by decide) (fun c_10 => ?_) (fun c_10 => ?_)
                · skip
                  have c_10n : ¬ k9 = pn := fun hh => c_10 ((nI_eq (a := k9) (b := pn) (by omega) (by omega)).mpr hh)
                  refine lv_iconst (pc := 77) (v := 0) hx hb dX8_read_77 (by decide) ?_
                  refine fput (pc := 78) (v := .int 0) hx hb hts hown hE hP hD hS fp_X8_114 0 rfl rfl rfl (Nat.le_of_ble_eq_true rfl) dX8_read_78 (fun H locs hP hD hS => ?_)
                  have hP : va_P D vwCl (wR kB kI o a (va_up (va_up (va_up z 16 0) 17 (bi (br = true))) 18 (nI nt9)) g (va_up r 19 td)) H := hP
                  have hD : va_D A (wR kB kI o a (va_up (va_up (va_up z 16 0) 17 (bi (br = true))) 18 (nI nt9)) g (va_up r 19 td)) := hD
                  refine lv_iload_n (pc := 81) hx hb dX8_read_81 rfl (lv_at hl 1 rfl) ?_
                  have hfn : R_read z g r pn = (nI k9, (va_up (va_up (va_up z 16 0) 17 (bi (br = true))) 18 (nI nt9)), g, (va_up r 19 td)) := by obtain ⟨f9, h1, h2⟩ := hR; rw [rdL_out (r 15) pn (fun q => c_8 q.2.2)] at h2; rw [R_read, h2]; simp only [bi]; rw [if_neg (fun q => c_10n q.2)]
                  rw [hQ]; exact W.iret (pc := 82) hx hb hr (fun t9 ht _ => ⟨⟨retI (by rw [hfn]), by rw [ht, hfn]; exact (show va_P D vwCl (wR kB kI o a (va_up (va_up (va_up z 16 0) 17 (bi (br = true))) 18 (nI nt9)) g (va_up r 19 td)) _ from hP)⟩, hS.F ht⟩) hS.2.2 dX8_read_82 hlocks
                · skip
                  have c_10n : k9 = pn := (nI_eq (a := k9) (b := pn) (by omega) (by omega)).mp c_10
                  refine lv_iconst (pc := 73) (v := 1) hx hb dX8_read_73 (by decide) ?_
                  refine lv_goto (pc := 74) (tgt := 78) hx hb dX8_read_74 (by decide) ?_
                  refine fput (pc := 78) (v := .int 1) hx hb hts hown hE hP hD hS fp_X8_114 0 rfl rfl rfl (Nat.le_of_ble_eq_true rfl) dX8_read_78 (fun H locs hP hD hS => ?_)
                  have hP : va_P D vwCl (wR kB kI o a (va_up (va_up (va_up z 16 1) 17 (bi (br = true))) 18 (nI nt9)) g (va_up r 19 td)) H := hP
                  have hD : va_D A (wR kB kI o a (va_up (va_up (va_up z 16 1) 17 (bi (br = true))) 18 (nI nt9)) g (va_up r 19 td)) := hD
                  refine lv_iload_n (pc := 81) hx hb dX8_read_81 rfl (lv_at hl 1 rfl) ?_
                  have hfn : R_read z g r pn = (nI k9, (va_up (va_up (va_up z 16 1) 17 (bi (br = true))) 18 (nI nt9)), g, (va_up r 19 td)) := by obtain ⟨f9, h1, h2⟩ := hR; rw [rdL_out (r 15) pn (fun q => c_8 q.2.2)] at h2; rw [R_read, h2]; simp only [bi]; rw [if_pos ⟨Bool.eq_false_iff.mpr c_9, c_10n⟩]
                  rw [hQ]; exact W.iret (pc := 82) hx hb hr (fun t9 ht _ => ⟨⟨retI (by rw [hfn]), by rw [ht, hfn]; exact (show va_P D vwCl (wR kB kI o a (va_up (va_up (va_up z 16 1) 17 (bi (br = true))) 18 (nI nt9)) g (va_up r 19 td)) _ from hP)⟩, hS.F ht⟩) hS.2.2 dX8_read_82 hlocks
            · skip
              refine lv_aload_n (pc := 46) hx hb dX8_read_46 rfl (lv_at hl 0 rfl) ?_
              refine lv_iload_n (pc := 47) hx hb dX8_read_47 rfl (lv_at hl 1 rfl) ?_
              refine lv_iconst (pc := 48) (v := 1) hx hb dX8_read_48 (by decide) ?_
              refine iaddV (pc := 49) (v := nI (k9 + 1)) hx hb dX8_read_49 (nI_add (k9) (1)) ?_
              refine wVa (pc := 50) (rest := []) ⟨hx, hb, hml, hown, hts⟩ (k_X8_readTitle (k := k9 + 1) (z := (va_up (va_up (va_up z 16 0) 17 (bi (br = true))) 18 (nI nt9))) (g := g) (r := (va_up r 19 td)) (hz14 := hz14) (hpn := (by first | assumption | omega)) (hz18 := rfl) (hnt := (by omega)) (hk := (by omega)) (pn := pn) (nt := nt9)) cw_X8_117 ⟨(Nat.le_of_ble_eq_true rfl), (Nat.le_of_ble_eq_true rfl)⟩ hE hP hD hS rfl rfl rfl rfl rfl hl.1 rfl (Nat.le_of_ble_eq_true rfl) dX8_read_50 ⟨Nat.le_refl _, Nat.le_refl _⟩ (fun H locs hP hD hS => ?_)
              have hP : va_P D vwCl (wR kB kI o a (R_readTitle (va_up (va_up (va_up z 16 0) 17 (bi (br = true))) 18 (nI nt9)) g (va_up r 19 td) pn nt9 (k9 + 1)).2.1 (R_readTitle (va_up (va_up (va_up z 16 0) 17 (bi (br = true))) 18 (nI nt9)) g (va_up r 19 td) pn nt9 (k9 + 1)).2.2.1 (R_readTitle (va_up (va_up (va_up z 16 0) 17 (bi (br = true))) 18 (nI nt9)) g (va_up r 19 td) pn nt9 (k9 + 1)).2.2.2) H := hP
              have hD : va_D A (wR kB kI o a (R_readTitle (va_up (va_up (va_up z 16 0) 17 (bi (br = true))) 18 (nI nt9)) g (va_up r 19 td) pn nt9 (k9 + 1)).2.1 (R_readTitle (va_up (va_up (va_up z 16 0) 17 (bi (br = true))) 18 (nI nt9)) g (va_up r 19 td) pn nt9 (k9 + 1)).2.2.1 (R_readTitle (va_up (va_up (va_up z 16 0) 17 (bi (br = true))) 18 (nI nt9)) g (va_up r 19 td) pn nt9 (k9 + 1)).2.2.2) := hD
              refine W.eq (g2 := F0 m 53 ls [.int ((R_readTitle (va_up (va_up (va_up z 16 0) 17 (bi (br = true))) 18 (nI nt9)) g (va_up r 19 td) pn nt9 (k9 + 1)).1)]) rfl ?_
              rcases hT2 : rdT (r 15) pn (k9 + 1) nt9 td with ⟨k2, b2, t2⟩
              have hTl : k2 ≤ k9 + 1 + 6 := by have q := rdT_le (r 15) pn (k9 + 1) nt9 td; rw [hT2] at q; exact q
              cases b2 with
              | true =>
                have hF2 : R_readTitle (va_up (va_up (va_up z 16 0) 17 (bi (br = true))) 18 (nI nt9)) g (va_up r 19 td) pn nt9 (k9 + 1) = (nI k2, va_up (va_up (va_up (va_up z 16 0) 17 (bi (br = true))) 18 (nI nt9)) 17 1, g, va_up (va_up r 19 td) 19 t2) := by show (nI (rdT (r 15) pn (k9 + 1) nt9 td).1, (if (rdT (r 15) pn (k9 + 1) nt9 td).2.1 = true then va_up (va_up (va_up (va_up z 16 0) 17 (bi (br = true))) 18 (nI nt9)) 17 1 else va_up (va_up (va_up (va_up z 16 0) 17 (bi (br = true))) 18 (nI nt9)) 18 (nI (nt9 + 1))), g, va_up (va_up r 19 td) 19 (rdT (r 15) pn (k9 + 1) nt9 td).2.2) = _; rw [hT2]; rfl
                rw [hF2] at hP hD ⊢
                have hP : va_P D vwCl (wR kB kI o a (va_up (va_up (va_up z 16 0) 17 1) 18 (nI nt9)) g (va_up r 19 t2)) H := hP
                have hD : va_D A (wR kB kI o a (va_up (va_up (va_up z 16 0) 17 1) 18 (nI nt9)) g (va_up r 19 t2)) := hD
                refine W.eq (g2 := F0 m 53 ls [.int (nI k2)]) rfl ?_
                refine lv_istore_n (pc := 53) (lv' := [(1, .int (nI k2)), (0, .ref o)]) hx hb dX8_read_53 rfl hl (by decide) rfl (fun ls hl => ?_)
                refine lv_goto (pc := 54) (tgt := 21) hx hb dX8_read_54 (by decide) ?_
                exact ih_lp_1 k2 nt9 true t2 (by rw [if_neg c_2] at hfuel; simp; omega) (by omega) (fun q => by cases q) (by omega) (by obtain ⟨f9, h1, h2⟩ := hR; rw [if_neg c_2] at h1; obtain ⟨f8, rfl⟩ : ∃ f8, f9 = f8 + 1 := ⟨f9 - 1, by omega⟩; refine ⟨f8, by simp; omega, ?_⟩; rw [h2, rdL, if_pos ⟨Bool.eq_false_iff.mpr c_2, by omega, c_8⟩, hT2]; rfl) _ _ hP hD hS ls (lv_sub hl [1, 0] rfl)
              | false =>
                have hF2 : R_readTitle (va_up (va_up (va_up z 16 0) 17 (bi (br = true))) 18 (nI nt9)) g (va_up r 19 td) pn nt9 (k9 + 1) = (nI k2, va_up (va_up (va_up (va_up z 16 0) 17 (bi (br = true))) 18 (nI nt9)) 18 (nI (nt9 + 1)), g, va_up (va_up r 19 td) 19 t2) := by show (nI (rdT (r 15) pn (k9 + 1) nt9 td).1, (if (rdT (r 15) pn (k9 + 1) nt9 td).2.1 = true then va_up (va_up (va_up (va_up z 16 0) 17 (bi (br = true))) 18 (nI nt9)) 17 1 else va_up (va_up (va_up (va_up z 16 0) 17 (bi (br = true))) 18 (nI nt9)) 18 (nI (nt9 + 1))), g, va_up (va_up r 19 td) 19 (rdT (r 15) pn (k9 + 1) nt9 td).2.2) = _; rw [hT2]; rfl
                rw [hF2] at hP hD ⊢
                rw [show bi (br = true) = (0 : Int32) from if_neg c_2] at hP hD
                have hP : va_P D vwCl (wR kB kI o a (va_up (va_up (va_up z 16 0) 17 0) 18 (nI (nt9 + 1))) g (va_up r 19 t2)) H := hP
                have hD : va_D A (wR kB kI o a (va_up (va_up (va_up z 16 0) 17 0) 18 (nI (nt9 + 1))) g (va_up r 19 t2)) := hD
                refine W.eq (g2 := F0 m 53 ls [.int (nI k2)]) rfl ?_
                refine lv_istore_n (pc := 53) (lv' := [(1, .int (nI k2)), (0, .ref o)]) hx hb dX8_read_53 rfl hl (by decide) rfl (fun ls hl => ?_)
                refine lv_goto (pc := 54) (tgt := 21) hx hb dX8_read_54 (by decide) ?_
                exact ih_lp_1 k2 (nt9 + 1) false t2 (by rw [if_neg c_2] at hfuel; simp; omega) (by omega) (fun q => by omega) (by omega) (by obtain ⟨f9, h1, h2⟩ := hR; rw [if_neg c_2] at h1; obtain ⟨f8, rfl⟩ : ∃ f8, f9 = f8 + 1 := ⟨f9 - 1, by omega⟩; refine ⟨f8, by simp; omega, ?_⟩; rw [h2, rdL, if_pos ⟨Bool.eq_false_iff.mpr c_2, by omega, c_8⟩, hT2]; rfl) _ _ hP hD hS ls (lv_sub hl [1, 0] rfl)
    exact lp_1 _ k1 0 true t1 (Nat.lt_succ_self _) (by omega) (fun q => by cases q) (by omega) (⟨6, by decide, by rw [rdA, hT1]; rfl⟩) _ _ hP hD hS ls (lv_sub hl [1, 0] rfl)
  | false =>
    have hF1 : R_readTitle (va_up (va_up (va_up z 16 0) 17 0) 18 0) g r pn 0 0 = (nI k1, va_up (va_up (va_up (va_up z 16 0) 17 0) 18 0) 18 (nI (0 + 1)), g, va_up r 19 t1) := by show (nI (rdT (r 15) pn 0 0 (r 19)).1, (if (rdT (r 15) pn 0 0 (r 19)).2.1 = true then va_up (va_up (va_up (va_up z 16 0) 17 0) 18 0) 17 1 else va_up (va_up (va_up (va_up z 16 0) 17 0) 18 0) 18 (nI (0 + 1))), g, va_up r 19 (rdT (r 15) pn 0 0 (r 19)).2.2) = _; rw [hT1]; rfl
    rw [hF1] at hP hD ⊢
    have hP : va_P D vwCl (wR kB kI o a (va_up (va_up (va_up z 16 0) 17 0) 18 (nI 1)) g (va_up r 19 t1)) H := hP
    have hD : va_D A (wR kB kI o a (va_up (va_up (va_up z 16 0) 17 0) 18 (nI 1)) g (va_up r 19 t1)) := hD
    refine W.eq (g2 := F0 m 20 ls [.int (nI k1)]) rfl ?_
    refine lv_istore_n (pc := 20) (lv' := [(1, .int (nI k1)), (0, .ref o)]) hx hb dX8_read_20 rfl hl (by decide) rfl (fun ls hl => ?_)
    have lp_11 : ∀ (fuel : Nat) (k9 : Nat) (nt9 : Nat) (br : Bool) (td : Nat → Int32), (5 - nt9) + (if br = true then 0 else 1) < fuel → (nt9 ≤ 5) → (br = false → k9 ≤ 7 * nt9) → (k9 ≤ 7 * nt9 + 7) → (∃ f9, (5 - nt9) + (if br = true then 0 else 1) ≤ f9 ∧ rdA (r 15) pn (r 19) = rdL (r 15) pn f9 k9 nt9 br td) → ∀ (H : Heap) (locs : List Loc), va_P D vwCl (wR kB kI o a (va_up (va_up (va_up z 16 0) 17 (bi (br = true))) 18 (nI nt9)) g (va_up r 19 td)) H → va_D A (wR kB kI o a (va_up (va_up (va_up z 16 0) 17 (bi (br = true))) 18 (nI nt9)) g (va_up r 19 td)) → va_S A s.heap H locs → ∀ (ls : Array Slot), lv_has ls 2 [(0, .ref o), (1, .int (nI k9))] → W p l e (rmO 2 45) s m args below meth c0 H locs 0 0 Q (F0 m 21 ls []) := by
      intro fuel
      induction fuel with
      | zero => intro k9 nt9 br td hfuel; exact absurd hfuel (Nat.not_lt_zero _)
      | succ fuel ih_lp_11 =>
        intro k9 nt9 br td hfuel hnt9 hkb hkb2 hR H locs hP hD hS ls hl
        refine lv_aload_n (pc := 21) hx hb dX8_read_21 rfl (lv_at hl 0 rfl) ?_
        refine fget (pc := 22) (v := .int (bi (br = true))) hx hb hts hown hE hP fl_X8_104 0 rfl rfl dX8_read_22 ?_
        refine bif_ne (pc := 25) (tgt := 57) hx hb dX8_read_25 (by decide) (fun c_12 => ?_) (fun c_12 => ?_)
        · skip
          refine lv_aload_n (pc := 57) hx hb dX8_read_57 rfl (lv_at hl 0 rfl) ?_
          refine lv_aload_n (pc := 58) hx hb dX8_read_58 rfl (lv_at hl 0 rfl) ?_
          refine fget (pc := 59) (v := .int (bi (br = true))) hx hb hts hown hE hP fl_X8_104 0 rfl rfl dX8_read_59 ?_
          refine bif_ne (pc := 62) (tgt := 77) hx hb dX8_read_62 (by decide) (fun c_13 => ?_) (fun c_13 => ?_)
          · skip
            refine lv_iconst (pc := 77) (v := 0) hx hb dX8_read_77 (by decide) ?_
            refine fput (pc := 78) (v := .int 0) hx hb hts hown hE hP hD hS fp_X8_114 0 rfl rfl rfl (Nat.le_of_ble_eq_true rfl) dX8_read_78 (fun H locs hP hD hS => ?_)
            have hP : va_P D vwCl (wR kB kI o a (va_up (va_up (va_up z 16 0) 17 (bi (br = true))) 18 (nI nt9)) g (va_up r 19 td)) H := hP
            have hD : va_D A (wR kB kI o a (va_up (va_up (va_up z 16 0) 17 (bi (br = true))) 18 (nI nt9)) g (va_up r 19 td)) := hD
            refine lv_iload_n (pc := 81) hx hb dX8_read_81 rfl (lv_at hl 1 rfl) ?_
            have hfn : R_read z g r pn = (nI k9, (va_up (va_up (va_up z 16 0) 17 (bi (br = true))) 18 (nI nt9)), g, (va_up r 19 td)) := by obtain ⟨f9, h1, h2⟩ := hR; rw [rdL_out (r 15) pn (fun q => by rw [q.1] at c_12; cases c_12)] at h2; rw [R_read, h2]; simp only [bi]; rw [if_neg (fun q => by rw [q.1] at c_13; cases c_13)]
            rw [hQ]; exact W.iret (pc := 82) hx hb hr (fun t9 ht _ => ⟨⟨retI (by rw [hfn]), by rw [ht, hfn]; exact (show va_P D vwCl (wR kB kI o a (va_up (va_up (va_up z 16 0) 17 (bi (br = true))) 18 (nI nt9)) g (va_up r 19 td)) _ from hP)⟩, hS.F ht⟩) hS.2.2 dX8_read_82 hlocks
          · skip
            refine lv_iload_n (pc := 65) hx hb dX8_read_65 rfl (lv_at hl 1 rfl) ?_
            refine lv_aload_n (pc := 66) hx hb dX8_read_66 rfl (lv_at hl 0 rfl) ?_
            refine fget (pc := 67) (v := .int (z 14)) hx hb hts hown hE hP fl_X8_90 0 rfl rfl dX8_read_67 ?_
            refine vEq (v := nI pn) hz14 ?_
            refine lv_icmp_ne (pc := 70) (tgt := 77) hx hb dX8_read_70 (by decide) (fun c_14 => ?_) (fun c_14 => ?_)
            · skip
              have c_14n : ¬ k9 = pn := fun hh => c_14 ((nI_eq (a := k9) (b := pn) (by omega) (by omega)).mpr hh)
              refine lv_iconst (pc := 77) (v := 0) hx hb dX8_read_77 (by decide) ?_
              refine fput (pc := 78) (v := .int 0) hx hb hts hown hE hP hD hS fp_X8_114 0 rfl rfl rfl (Nat.le_of_ble_eq_true rfl) dX8_read_78 (fun H locs hP hD hS => ?_)
              have hP : va_P D vwCl (wR kB kI o a (va_up (va_up (va_up z 16 0) 17 (bi (br = true))) 18 (nI nt9)) g (va_up r 19 td)) H := hP
              have hD : va_D A (wR kB kI o a (va_up (va_up (va_up z 16 0) 17 (bi (br = true))) 18 (nI nt9)) g (va_up r 19 td)) := hD
              refine lv_iload_n (pc := 81) hx hb dX8_read_81 rfl (lv_at hl 1 rfl) ?_
              have hfn : R_read z g r pn = (nI k9, (va_up (va_up (va_up z 16 0) 17 (bi (br = true))) 18 (nI nt9)), g, (va_up r 19 td)) := by obtain ⟨f9, h1, h2⟩ := hR; rw [rdL_out (r 15) pn (fun q => by rw [q.1] at c_12; cases c_12)] at h2; rw [R_read, h2]; simp only [bi]; rw [if_neg (fun q => c_14n q.2)]
              rw [hQ]; exact W.iret (pc := 82) hx hb hr (fun t9 ht _ => ⟨⟨retI (by rw [hfn]), by rw [ht, hfn]; exact (show va_P D vwCl (wR kB kI o a (va_up (va_up (va_up z 16 0) 17 (bi (br = true))) 18 (nI nt9)) g (va_up r 19 td)) _ from hP)⟩, hS.F ht⟩) hS.2.2 dX8_read_82 hlocks
            · skip
              have c_14n : k9 = pn := (nI_eq (a := k9) (b := pn) (by omega) (by omega)).mp c_14
              refine lv_iconst (pc := 73) (v := 1) hx hb dX8_read_73 (by decide) ?_
              refine lv_goto (pc := 74) (tgt := 78) hx hb dX8_read_74 (by decide) ?_
              refine fput (pc := 78) (v := .int 1) hx hb hts hown hE hP hD hS fp_X8_114 0 rfl rfl rfl (Nat.le_of_ble_eq_true rfl) dX8_read_78 (fun H locs hP hD hS => ?_)
              have hP : va_P D vwCl (wR kB kI o a (va_up (va_up (va_up z 16 1) 17 (bi (br = true))) 18 (nI nt9)) g (va_up r 19 td)) H := hP
              have hD : va_D A (wR kB kI o a (va_up (va_up (va_up z 16 1) 17 (bi (br = true))) 18 (nI nt9)) g (va_up r 19 td)) := hD
              refine lv_iload_n (pc := 81) hx hb dX8_read_81 rfl (lv_at hl 1 rfl) ?_
              have hfn : R_read z g r pn = (nI k9, (va_up (va_up (va_up z 16 1) 17 (bi (br = true))) 18 (nI nt9)), g, (va_up r 19 td)) := by obtain ⟨f9, h1, h2⟩ := hR; rw [rdL_out (r 15) pn (fun q => by rw [q.1] at c_12; cases c_12)] at h2; rw [R_read, h2]; simp only [bi]; rw [if_pos ⟨Bool.eq_false_iff.mpr c_13, c_14n⟩]
              rw [hQ]; exact W.iret (pc := 82) hx hb hr (fun t9 ht _ => ⟨⟨retI (by rw [hfn]), by rw [ht, hfn]; exact (show va_P D vwCl (wR kB kI o a (va_up (va_up (va_up z 16 1) 17 (bi (br = true))) 18 (nI nt9)) g (va_up r 19 td)) _ from hP)⟩, hS.F ht⟩) hS.2.2 dX8_read_82 hlocks
        · skip
          have hk9 := hkb (Bool.eq_false_iff.mpr c_12)
          refine lv_aload_n (pc := 28) hx hb dX8_read_28 rfl (lv_at hl 0 rfl) ?_
          refine fget (pc := 29) (v := .int (nI nt9)) hx hb hts hown hE hP fl_X8_94 0 rfl rfl dX8_read_29 ?_
          refine lv_iconst (pc := 32) (v := 5) hx hb dX8_read_32 (by decide) ?_
          refine lv_icmp_ge (pc := 33) (tgt := 57) hx hb dX8_read_33 (by decide) (fun c_15 => ?_) (fun c_15 => ?_)
          · skip
            have c_15n : 5 ≤ nt9 := (nI_leI (a := 5) (b := nt9) (by omega) (by omega)).mp c_15
            refine lv_aload_n (pc := 57) hx hb dX8_read_57 rfl (lv_at hl 0 rfl) ?_
            refine lv_aload_n (pc := 58) hx hb dX8_read_58 rfl (lv_at hl 0 rfl) ?_
            refine fget (pc := 59) (v := .int (bi (br = true))) hx hb hts hown hE hP fl_X8_104 0 rfl rfl dX8_read_59 ?_
            refine bif_ne (pc := 62) (tgt := 77) hx hb dX8_read_62 (by decide) (fun c_16 => ?_) (fun c_16 => ?_)
            · skip
              refine lv_iconst (pc := 77) (v := 0) hx hb dX8_read_77 (by decide) ?_
              refine fput (pc := 78) (v := .int 0) hx hb hts hown hE hP hD hS fp_X8_114 0 rfl rfl rfl (Nat.le_of_ble_eq_true rfl) dX8_read_78 (fun H locs hP hD hS => ?_)
              have hP : va_P D vwCl (wR kB kI o a (va_up (va_up (va_up z 16 0) 17 (bi (br = true))) 18 (nI nt9)) g (va_up r 19 td)) H := hP
              have hD : va_D A (wR kB kI o a (va_up (va_up (va_up z 16 0) 17 (bi (br = true))) 18 (nI nt9)) g (va_up r 19 td)) := hD
              refine lv_iload_n (pc := 81) hx hb dX8_read_81 rfl (lv_at hl 1 rfl) ?_
              have hfn : R_read z g r pn = (nI k9, (va_up (va_up (va_up z 16 0) 17 (bi (br = true))) 18 (nI nt9)), g, (va_up r 19 td)) := by obtain ⟨f9, h1, h2⟩ := hR; rw [rdL_out (r 15) pn (fun q => by omega)] at h2; rw [R_read, h2]; simp only [bi]; rw [if_neg (fun q => by rw [q.1] at c_16; cases c_16)]
              rw [hQ]; exact W.iret (pc := 82) hx hb hr (fun t9 ht _ => ⟨⟨retI (by rw [hfn]), by rw [ht, hfn]; exact (show va_P D vwCl (wR kB kI o a (va_up (va_up (va_up z 16 0) 17 (bi (br = true))) 18 (nI nt9)) g (va_up r 19 td)) _ from hP)⟩, hS.F ht⟩) hS.2.2 dX8_read_82 hlocks
            · skip
              refine lv_iload_n (pc := 65) hx hb dX8_read_65 rfl (lv_at hl 1 rfl) ?_
              refine lv_aload_n (pc := 66) hx hb dX8_read_66 rfl (lv_at hl 0 rfl) ?_
              refine fget (pc := 67) (v := .int (z 14)) hx hb hts hown hE hP fl_X8_90 0 rfl rfl dX8_read_67 ?_
              refine vEq (v := nI pn) hz14 ?_
              refine lv_icmp_ne (pc := 70) (tgt := 77) hx hb dX8_read_70 (by decide) (fun c_17 => ?_) (fun c_17 => ?_)
              · skip
                have c_17n : ¬ k9 = pn := fun hh => c_17 ((nI_eq (a := k9) (b := pn) (by omega) (by omega)).mpr hh)
                refine lv_iconst (pc := 77) (v := 0) hx hb dX8_read_77 (by decide) ?_
                refine fput (pc := 78) (v := .int 0) hx hb hts hown hE hP hD hS fp_X8_114 0 rfl rfl rfl (Nat.le_of_ble_eq_true rfl) dX8_read_78 (fun H locs hP hD hS => ?_)
                have hP : va_P D vwCl (wR kB kI o a (va_up (va_up (va_up z 16 0) 17 (bi (br = true))) 18 (nI nt9)) g (va_up r 19 td)) H := hP
                have hD : va_D A (wR kB kI o a (va_up (va_up (va_up z 16 0) 17 (bi (br = true))) 18 (nI nt9)) g (va_up r 19 td)) := hD
                refine lv_iload_n (pc := 81) hx hb dX8_read_81 rfl (lv_at hl 1 rfl) ?_
                have hfn : R_read z g r pn = (nI k9, (va_up (va_up (va_up z 16 0) 17 (bi (br = true))) 18 (nI nt9)), g, (va_up r 19 td)) := by obtain ⟨f9, h1, h2⟩ := hR; rw [rdL_out (r 15) pn (fun q => by omega)] at h2; rw [R_read, h2]; simp only [bi]; rw [if_neg (fun q => c_17n q.2)]
                rw [hQ]; exact W.iret (pc := 82) hx hb hr (fun t9 ht _ => ⟨⟨retI (by rw [hfn]), by rw [ht, hfn]; exact (show va_P D vwCl (wR kB kI o a (va_up (va_up (va_up z 16 0) 17 (bi (br = true))) 18 (nI nt9)) g (va_up r 19 td)) _ from hP)⟩, hS.F ht⟩) hS.2.2 dX8_read_82 hlocks
              · skip
                have c_17n : k9 = pn := (nI_eq (a := k9) (b := pn) (by omega) (by omega)).mp c_17
                refine lv_iconst (pc := 73) (v := 1) hx hb dX8_read_73 (by decide) ?_
                refine lv_goto (pc := 74) (tgt := 78) hx hb dX8_read_74 (by decide) ?_
                refine fput (pc := 78) (v := .int 1) hx hb hts hown hE hP hD hS fp_X8_114 0 rfl rfl rfl (Nat.le_of_ble_eq_true rfl) dX8_read_78 (fun H locs hP hD hS => ?_)
                have hP : va_P D vwCl (wR kB kI o a (va_up (va_up (va_up z 16 1) 17 (bi (br = true))) 18 (nI nt9)) g (va_up r 19 td)) H := hP
                have hD : va_D A (wR kB kI o a (va_up (va_up (va_up z 16 1) 17 (bi (br = true))) 18 (nI nt9)) g (va_up r 19 td)) := hD
                refine lv_iload_n (pc := 81) hx hb dX8_read_81 rfl (lv_at hl 1 rfl) ?_
                have hfn : R_read z g r pn = (nI k9, (va_up (va_up (va_up z 16 1) 17 (bi (br = true))) 18 (nI nt9)), g, (va_up r 19 td)) := by obtain ⟨f9, h1, h2⟩ := hR; rw [rdL_out (r 15) pn (fun q => by omega)] at h2; rw [R_read, h2]; simp only [bi]; rw [if_pos ⟨Bool.eq_false_iff.mpr c_16, c_17n⟩]
                rw [hQ]; exact W.iret (pc := 82) hx hb hr (fun t9 ht _ => ⟨⟨retI (by rw [hfn]), by rw [ht, hfn]; exact (show va_P D vwCl (wR kB kI o a (va_up (va_up (va_up z 16 1) 17 (bi (br = true))) 18 (nI nt9)) g (va_up r 19 td)) _ from hP)⟩, hS.F ht⟩) hS.2.2 dX8_read_82 hlocks
          · skip
            have c_15n : ¬ 5 ≤ nt9 := fun hh => c_15 ((nI_leI (a := 5) (b := nt9) (by omega) (by omega)).mpr hh)
            refine lv_aload_n (pc := 36) hx hb dX8_read_36 rfl (lv_at hl 0 rfl) ?_
            refine lv_iload_n (pc := 37) hx hb dX8_read_37 rfl (lv_at hl 1 rfl) ?_
            refine rV (pc := 38) (rest := []) ⟨hx, hb, hml, hown, hts⟩ (k_X8_at (k := k9) (z := (va_up (va_up (va_up z 16 0) 17 (bi (br = true))) 18 (nI nt9))) (g := g) (r := (va_up r 19 td)) (hz14 := hz14) (hpn := (by first | assumption | omega)) (hk := (by omega))) cw_X8_97 ⟨(Nat.le_of_ble_eq_true rfl), (Nat.le_of_ble_eq_true rfl)⟩ hE hS hP rfl rfl rfl rfl hl.1 rfl (Nat.le_of_ble_eq_true rfl) dX8_read_38 ⟨Nat.le_refl _, Nat.le_refl _⟩ ?_
            refine W.eq (g2 := F0 m 41 ls [.int (atP ((r 15)) pn k9)]) rfl ?_
            refine lv_bipush (pc := 41) (v := 44) hx hb dX8_read_41 (by decide) ?_
            refine lv_icmp_ne (pc := 43) (tgt := 57) hx hb dX8_read_43 (by decide) (fun c_18 => ?_) (fun c_18 => ?_)
            · skip
              refine lv_aload_n (pc := 57) hx hb dX8_read_57 rfl (lv_at hl 0 rfl) ?_
              refine lv_aload_n (pc := 58) hx hb dX8_read_58 rfl (lv_at hl 0 rfl) ?_
              refine fget (pc := 59) (v := .int (bi (br = true))) hx hb hts hown hE hP fl_X8_104 0 rfl rfl dX8_read_59 ?_
              refine bif_ne (pc := 62) (tgt := 77) hx hb dX8_read_62 (by decide) (fun c_19 => ?_) (fun c_19 => ?_)
              · skip
                refine lv_iconst (pc := 77) (v := 0) hx hb dX8_read_77 (by decide) ?_
                refine fput (pc := 78) (v := .int 0) hx hb hts hown hE hP hD hS fp_X8_114 0 rfl rfl rfl (Nat.le_of_ble_eq_true rfl) dX8_read_78 (fun H locs hP hD hS => ?_)
                have hP : va_P D vwCl (wR kB kI o a (va_up (va_up (va_up z 16 0) 17 (bi (br = true))) 18 (nI nt9)) g (va_up r 19 td)) H := hP
                have hD : va_D A (wR kB kI o a (va_up (va_up (va_up z 16 0) 17 (bi (br = true))) 18 (nI nt9)) g (va_up r 19 td)) := hD
                refine lv_iload_n (pc := 81) hx hb dX8_read_81 rfl (lv_at hl 1 rfl) ?_
                have hfn : R_read z g r pn = (nI k9, (va_up (va_up (va_up z 16 0) 17 (bi (br = true))) 18 (nI nt9)), g, (va_up r 19 td)) := by obtain ⟨f9, h1, h2⟩ := hR; rw [rdL_out (r 15) pn (fun q => c_18 q.2.2)] at h2; rw [R_read, h2]; simp only [bi]; rw [if_neg (fun q => by rw [q.1] at c_19; cases c_19)]
                rw [hQ]; exact W.iret (pc := 82) hx hb hr (fun t9 ht _ => ⟨⟨retI (by rw [hfn]), by rw [ht, hfn]; exact (show va_P D vwCl (wR kB kI o a (va_up (va_up (va_up z 16 0) 17 (bi (br = true))) 18 (nI nt9)) g (va_up r 19 td)) _ from hP)⟩, hS.F ht⟩) hS.2.2 dX8_read_82 hlocks
              · skip
                refine lv_iload_n (pc := 65) hx hb dX8_read_65 rfl (lv_at hl 1 rfl) ?_
                refine lv_aload_n (pc := 66) hx hb dX8_read_66 rfl (lv_at hl 0 rfl) ?_
                refine fget (pc := 67) (v := .int (z 14)) hx hb hts hown hE hP fl_X8_90 0 rfl rfl dX8_read_67 ?_
                refine vEq (v := nI pn) hz14 ?_
                refine lv_icmp_ne (pc := 70) (tgt := 77) hx hb dX8_read_70 (by decide) (fun c_20 => ?_) (fun c_20 => ?_)
                · skip
                  have c_20n : ¬ k9 = pn := fun hh => c_20 ((nI_eq (a := k9) (b := pn) (by omega) (by omega)).mpr hh)
                  refine lv_iconst (pc := 77) (v := 0) hx hb dX8_read_77 (by decide) ?_
                  refine fput (pc := 78) (v := .int 0) hx hb hts hown hE hP hD hS fp_X8_114 0 rfl rfl rfl (Nat.le_of_ble_eq_true rfl) dX8_read_78 (fun H locs hP hD hS => ?_)
                  have hP : va_P D vwCl (wR kB kI o a (va_up (va_up (va_up z 16 0) 17 (bi (br = true))) 18 (nI nt9)) g (va_up r 19 td)) H := hP
                  have hD : va_D A (wR kB kI o a (va_up (va_up (va_up z 16 0) 17 (bi (br = true))) 18 (nI nt9)) g (va_up r 19 td)) := hD
                  refine lv_iload_n (pc := 81) hx hb dX8_read_81 rfl (lv_at hl 1 rfl) ?_
                  have hfn : R_read z g r pn = (nI k9, (va_up (va_up (va_up z 16 0) 17 (bi (br = true))) 18 (nI nt9)), g, (va_up r 19 td)) := by obtain ⟨f9, h1, h2⟩ := hR; rw [rdL_out (r 15) pn (fun q => c_18 q.2.2)] at h2; rw [R_read, h2]; simp only [bi]; rw [if_neg (fun q => c_20n q.2)]
                  rw [hQ]; exact W.iret (pc := 82) hx hb hr (fun t9 ht _ => ⟨⟨retI (by rw [hfn]), by rw [ht, hfn]; exact (show va_P D vwCl (wR kB kI o a (va_up (va_up (va_up z 16 0) 17 (bi (br = true))) 18 (nI nt9)) g (va_up r 19 td)) _ from hP)⟩, hS.F ht⟩) hS.2.2 dX8_read_82 hlocks
                · skip
                  have c_20n : k9 = pn := (nI_eq (a := k9) (b := pn) (by omega) (by omega)).mp c_20
                  refine lv_iconst (pc := 73) (v := 1) hx hb dX8_read_73 (by decide) ?_
                  refine lv_goto (pc := 74) (tgt := 78) hx hb dX8_read_74 (by decide) ?_
                  refine fput (pc := 78) (v := .int 1) hx hb hts hown hE hP hD hS fp_X8_114 0 rfl rfl rfl (Nat.le_of_ble_eq_true rfl) dX8_read_78 (fun H locs hP hD hS => ?_)
                  have hP : va_P D vwCl (wR kB kI o a (va_up (va_up (va_up z 16 1) 17 (bi (br = true))) 18 (nI nt9)) g (va_up r 19 td)) H := hP
                  have hD : va_D A (wR kB kI o a (va_up (va_up (va_up z 16 1) 17 (bi (br = true))) 18 (nI nt9)) g (va_up r 19 td)) := hD
                  refine lv_iload_n (pc := 81) hx hb dX8_read_81 rfl (lv_at hl 1 rfl) ?_
                  have hfn : R_read z g r pn = (nI k9, (va_up (va_up (va_up z 16 1) 17 (bi (br = true))) 18 (nI nt9)), g, (va_up r 19 td)) := by obtain ⟨f9, h1, h2⟩ := hR; rw [rdL_out (r 15) pn (fun q => c_18 q.2.2)] at h2; rw [R_read, h2]; simp only [bi]; rw [if_pos ⟨Bool.eq_false_iff.mpr c_19, c_20n⟩]
                  rw [hQ]; exact W.iret (pc := 82) hx hb hr (fun t9 ht _ => ⟨⟨retI (by rw [hfn]), by rw [ht, hfn]; exact (show va_P D vwCl (wR kB kI o a (va_up (va_up (va_up z 16 1) 17 (bi (br = true))) 18 (nI nt9)) g (va_up r 19 td)) _ from hP)⟩, hS.F ht⟩) hS.2.2 dX8_read_82 hlocks
            · skip
              refine lv_aload_n (pc := 46) hx hb dX8_read_46 rfl (lv_at hl 0 rfl) ?_
              refine lv_iload_n (pc := 47) hx hb dX8_read_47 rfl (lv_at hl 1 rfl) ?_
              refine lv_iconst (pc := 48) (v := 1) hx hb dX8_read_48 (by decide) ?_
              refine iaddV (pc := 49) (v := nI (k9 + 1)) hx hb dX8_read_49 (nI_add (k9) (1)) ?_
              refine wVa (pc := 50) (rest := []) ⟨hx, hb, hml, hown, hts⟩ (k_X8_readTitle (k := k9 + 1) (z := (va_up (va_up (va_up z 16 0) 17 (bi (br = true))) 18 (nI nt9))) (g := g) (r := (va_up r 19 td)) (hz14 := hz14) (hpn := (by first | assumption | omega)) (hz18 := rfl) (hnt := (by omega)) (hk := (by omega)) (pn := pn) (nt := nt9)) cw_X8_117 ⟨(Nat.le_of_ble_eq_true rfl), (Nat.le_of_ble_eq_true rfl)⟩ hE hP hD hS rfl rfl rfl rfl rfl hl.1 rfl (Nat.le_of_ble_eq_true rfl) dX8_read_50 ⟨Nat.le_refl _, Nat.le_refl _⟩ (fun H locs hP hD hS => ?_)
              have hP : va_P D vwCl (wR kB kI o a (R_readTitle (va_up (va_up (va_up z 16 0) 17 (bi (br = true))) 18 (nI nt9)) g (va_up r 19 td) pn nt9 (k9 + 1)).2.1 (R_readTitle (va_up (va_up (va_up z 16 0) 17 (bi (br = true))) 18 (nI nt9)) g (va_up r 19 td) pn nt9 (k9 + 1)).2.2.1 (R_readTitle (va_up (va_up (va_up z 16 0) 17 (bi (br = true))) 18 (nI nt9)) g (va_up r 19 td) pn nt9 (k9 + 1)).2.2.2) H := hP
              have hD : va_D A (wR kB kI o a (R_readTitle (va_up (va_up (va_up z 16 0) 17 (bi (br = true))) 18 (nI nt9)) g (va_up r 19 td) pn nt9 (k9 + 1)).2.1 (R_readTitle (va_up (va_up (va_up z 16 0) 17 (bi (br = true))) 18 (nI nt9)) g (va_up r 19 td) pn nt9 (k9 + 1)).2.2.1 (R_readTitle (va_up (va_up (va_up z 16 0) 17 (bi (br = true))) 18 (nI nt9)) g (va_up r 19 td) pn nt9 (k9 + 1)).2.2.2) := hD
              refine W.eq (g2 := F0 m 53 ls [.int ((R_readTitle (va_up (va_up (va_up z 16 0) 17 (bi (br = true))) 18 (nI nt9)) g (va_up r 19 td) pn nt9 (k9 + 1)).1)]) rfl ?_
              rcases hT2 : rdT (r 15) pn (k9 + 1) nt9 td with ⟨k2, b2, t2⟩
              have hTl : k2 ≤ k9 + 1 + 6 := by have q := rdT_le (r 15) pn (k9 + 1) nt9 td; rw [hT2] at q; exact q
              cases b2 with
              | true =>
                have hF2 : R_readTitle (va_up (va_up (va_up z 16 0) 17 (bi (br = true))) 18 (nI nt9)) g (va_up r 19 td) pn nt9 (k9 + 1) = (nI k2, va_up (va_up (va_up (va_up z 16 0) 17 (bi (br = true))) 18 (nI nt9)) 17 1, g, va_up (va_up r 19 td) 19 t2) := by show (nI (rdT (r 15) pn (k9 + 1) nt9 td).1, (if (rdT (r 15) pn (k9 + 1) nt9 td).2.1 = true then va_up (va_up (va_up (va_up z 16 0) 17 (bi (br = true))) 18 (nI nt9)) 17 1 else va_up (va_up (va_up (va_up z 16 0) 17 (bi (br = true))) 18 (nI nt9)) 18 (nI (nt9 + 1))), g, va_up (va_up r 19 td) 19 (rdT (r 15) pn (k9 + 1) nt9 td).2.2) = _; rw [hT2]; rfl
                rw [hF2] at hP hD ⊢
                have hP : va_P D vwCl (wR kB kI o a (va_up (va_up (va_up z 16 0) 17 1) 18 (nI nt9)) g (va_up r 19 t2)) H := hP
                have hD : va_D A (wR kB kI o a (va_up (va_up (va_up z 16 0) 17 1) 18 (nI nt9)) g (va_up r 19 t2)) := hD
                refine W.eq (g2 := F0 m 53 ls [.int (nI k2)]) rfl ?_
                refine lv_istore_n (pc := 53) (lv' := [(1, .int (nI k2)), (0, .ref o)]) hx hb dX8_read_53 rfl hl (by decide) rfl (fun ls hl => ?_)
                refine lv_goto (pc := 54) (tgt := 21) hx hb dX8_read_54 (by decide) ?_
                exact ih_lp_11 k2 nt9 true t2 (by rw [if_neg c_12] at hfuel; simp; omega) (by omega) (fun q => by cases q) (by omega) (by obtain ⟨f9, h1, h2⟩ := hR; rw [if_neg c_12] at h1; obtain ⟨f8, rfl⟩ : ∃ f8, f9 = f8 + 1 := ⟨f9 - 1, by omega⟩; refine ⟨f8, by simp; omega, ?_⟩; rw [h2, rdL, if_pos ⟨Bool.eq_false_iff.mpr c_12, by omega, c_18⟩, hT2]; rfl) _ _ hP hD hS ls (lv_sub hl [1, 0] rfl)
              | false =>
                have hF2 : R_readTitle (va_up (va_up (va_up z 16 0) 17 (bi (br = true))) 18 (nI nt9)) g (va_up r 19 td) pn nt9 (k9 + 1) = (nI k2, va_up (va_up (va_up (va_up z 16 0) 17 (bi (br = true))) 18 (nI nt9)) 18 (nI (nt9 + 1)), g, va_up (va_up r 19 td) 19 t2) := by show (nI (rdT (r 15) pn (k9 + 1) nt9 td).1, (if (rdT (r 15) pn (k9 + 1) nt9 td).2.1 = true then va_up (va_up (va_up (va_up z 16 0) 17 (bi (br = true))) 18 (nI nt9)) 17 1 else va_up (va_up (va_up (va_up z 16 0) 17 (bi (br = true))) 18 (nI nt9)) 18 (nI (nt9 + 1))), g, va_up (va_up r 19 td) 19 (rdT (r 15) pn (k9 + 1) nt9 td).2.2) = _; rw [hT2]; rfl
                rw [hF2] at hP hD ⊢
                rw [show bi (br = true) = (0 : Int32) from if_neg c_12] at hP hD
                have hP : va_P D vwCl (wR kB kI o a (va_up (va_up (va_up z 16 0) 17 0) 18 (nI (nt9 + 1))) g (va_up r 19 t2)) H := hP
                have hD : va_D A (wR kB kI o a (va_up (va_up (va_up z 16 0) 17 0) 18 (nI (nt9 + 1))) g (va_up r 19 t2)) := hD
                refine W.eq (g2 := F0 m 53 ls [.int (nI k2)]) rfl ?_
                refine lv_istore_n (pc := 53) (lv' := [(1, .int (nI k2)), (0, .ref o)]) hx hb dX8_read_53 rfl hl (by decide) rfl (fun ls hl => ?_)
                refine lv_goto (pc := 54) (tgt := 21) hx hb dX8_read_54 (by decide) ?_
                exact ih_lp_11 k2 (nt9 + 1) false t2 (by rw [if_neg c_12] at hfuel; simp; omega) (by omega) (fun q => by omega) (by omega) (by obtain ⟨f9, h1, h2⟩ := hR; rw [if_neg c_12] at h1; obtain ⟨f8, rfl⟩ : ∃ f8, f9 = f8 + 1 := ⟨f9 - 1, by omega⟩; refine ⟨f8, by simp; omega, ?_⟩; rw [h2, rdL, if_pos ⟨Bool.eq_false_iff.mpr c_12, by omega, c_18⟩, hT2]; rfl) _ _ hP hD hS ls (lv_sub hl [1, 0] rfl)
    exact lp_11 _ k1 1 false t1 (Nat.lt_succ_self _) (by omega) (fun q => by omega) (by omega) (⟨6, by decide, by rw [rdA, hT1]; rfl⟩) _ _ hP hD hS ls (lv_sub hl [1, 0] rfl)
set_option maxRecDepth 100000 in
set_option maxHeartbeats 4000000 in
theorem k_X8_fault {o : Nat} {a : Nat → Nat} {z : Nat → Int32} {g : Nat → Int64} {r : Nat → Nat → Int32} {pn : Nat} (hz14 : z 14 = nI pn) (hpn : pn ≤ 40) : MW l yX8_fault cX8_fault 1 (some .int) 3 66 D kB kI kT ks sk sv [.ref o] (wR kB kI o a z g r) (some (.int ((R_read z g r pn).1))) (wR kB kI o a (R_read z g r pn).2.1 (R_read z g r pn).2.2.1 (R_read z g r pn).2.2.2) := by
  refine MW.go (by decide +kernel) (Nat.le_of_ble_eq_true rfl) ?_
  intro p e s m below meth c0 args Q ls A hQ hx hb hr hml hown hts hlocks hE hP hD hS hl
  have hl : lv_has ls 1 [(0, .ref o)] := hl
  have hown : s.vm.findClass RX8 = some m.cls := hown
  refine lv_aload_n (pc := 0) hx hb dX8_fault_0 rfl (lv_at hl 0 rfl) ?_
  refine wVa (pc := 1) (rest := []) ⟨hx, hb, hml, hown, hts⟩ (k_X8_read (z := z) (g := g) (r := r) (hz14 := (by first | assumption | omega)) (hpn := (by first | assumption | omega))) cw_X8_120 ⟨(Nat.le_of_ble_eq_true rfl), (Nat.le_of_ble_eq_true rfl)⟩ hE hP hD hS rfl rfl rfl rfl rfl hl.1 rfl (Nat.le_of_ble_eq_true rfl) dX8_fault_1 ⟨Nat.le_refl _, Nat.le_refl _⟩ (fun H locs hP hD hS => ?_)
  have hP : va_P D vwCl (wR kB kI o a (R_read z g r pn).2.1 (R_read z g r pn).2.2.1 (R_read z g r pn).2.2.2) H := hP
  have hD : va_D A (wR kB kI o a (R_read z g r pn).2.1 (R_read z g r pn).2.2.1 (R_read z g r pn).2.2.2) := hD
  refine W.eq (g2 := F0 m 4 ls [.int ((R_read z g r pn).1)]) rfl ?_
  have hfn : R_read z g r pn = ((R_read z g r pn).1, (R_read z g r pn).2.1, (R_read z g r pn).2.2.1, (R_read z g r pn).2.2.2) := rfl
  rw [hQ]; exact W.iret (pc := 4) hx hb hr (fun t9 ht _ => ⟨⟨retI (by rw [hfn]), by rw [ht, hfn]; exact (show va_P D vwCl (wR kB kI o a (R_read z g r pn).2.1 (R_read z g r pn).2.2.1 (R_read z g r pn).2.2.2) _ from hP)⟩, hS.F ht⟩) hS.2.2 dX8_fault_4 hlocks
end
