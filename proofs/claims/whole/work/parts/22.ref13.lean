section
variable {l : Launch} {D : va_G} {kB kI kT : ClassId} {ks sk sv : Nat}
set_option maxRecDepth 100000 in
set_option maxHeartbeats 4000000 in
theorem k_X8_best {o : Nat} {a : Nat → Nat} {z : Nat → Int32} {g : Nat → Int64} {r : Nat → Nat → Int32} (f : Int32) (t : Int32) (what : Int32) {n : Nat} (hok : okP n (r 8)) (hn5 : n ≤ 5) (hz1 : z 1 = nI n) : MW l yX8_best cX8_best 4 (some .int) 10 220 D kB kI kT ks sk sv [.ref o, .int f, .int t, .int what] (wR kB kI o a z g r) (some (.int ((R_best z g r n f t what).1))) (wR kB kI o a (R_best z g r n f t what).2.1 (R_best z g r n f t what).2.2.1 (R_best z g r n f t what).2.2.2) := by
  refine MW.go (by decide +kernel) (Nat.le_of_ble_eq_true rfl) ?_
  intro p e s m below meth c0 args Q ls A hQ hx hb hr hml hown hts hlocks hE hP hD hS hl
  have hl : lv_has ls 4 [(0, .ref o), (1, .int f), (2, .int t), (3, .int what)] := hl
  have hown : s.vm.findClass RX8 = some m.cls := hown
  refine lv_iload_n (pc := 0) hx hb dX8_best_0 rfl (lv_at hl 1 rfl) ?_
  refine rS (pc := 1) (rest := []) ⟨hx, hb, hml, hown, hts⟩ (k_X8_isNight (n := f)) cw_X8_140 ⟨(Nat.le_of_ble_eq_true rfl), (Nat.le_of_ble_eq_true rfl)⟩ hE hS wc0 rfl hl.1 rfl (Nat.le_of_ble_eq_true rfl) dX8_best_1 ⟨Nat.le_refl _, Nat.le_refl _⟩ ?_
  refine W.eq (g2 := F0 m 4 ls [.int (bi (inR f 0 11))]) rfl ?_
  refine bif_eq (pc := 4) (tgt := 24) hx hb dX8_best_4 (by decide) (fun c_1 => ?_) (fun c_1 => ?_)
  · skip
    refine lv_bipush (pc := 24) (v := (-101)) hx hb dX8_best_24 (by decide) ?_
    have hfn : R_best z g r n f t what = ((-101), z, g, r) := by rw [R_best, if_neg (fun q => c_1 q.1)]
    rw [hQ]; exact W.iret (pc := 26) hx hb hr (fun t9 ht _ => ⟨⟨retI (by rw [hfn]), by rw [ht, hfn]; exact (show va_P D vwCl (wR kB kI o a z g r) _ from hP)⟩, hS.F ht⟩) hS.2.2 dX8_best_26 hlocks
  · skip
    obtain ⟨i, hi, hxf⟩ := inR_nat c_1
    refine lv_iload_n (pc := 7) hx hb dX8_best_7 rfl (lv_at hl 2 rfl) ?_
    refine lv_iload_n (pc := 8) hx hb dX8_best_8 rfl (lv_at hl 1 rfl) ?_
    refine vEq (v := nI i) hxf ?_
    refine lv_bipush (pc := 9) (v := 11) hx hb dX8_best_9 (by decide) ?_
    refine rS (pc := 11) (rest := []) ⟨hx, hb, hml, hown, hts⟩ (k_X8_within (v := t) (lo := nI i) (hi := 11)) cw_X8_86 ⟨(Nat.le_of_ble_eq_true rfl), (Nat.le_of_ble_eq_true rfl)⟩ hE hS wc0 rfl hl.1 rfl (Nat.le_of_ble_eq_true rfl) dX8_best_11 ⟨Nat.le_refl _, Nat.le_refl _⟩ ?_
    refine W.eq (g2 := F0 m 14 ls [.int (bi (inR t (nI i) 11))]) rfl ?_
    refine bif_eq (pc := 14) (tgt := 24) hx hb dX8_best_14 (by decide) (fun c_2 => ?_) (fun c_2 => ?_)
    · skip
      have c_2f : ¬ inR t f 11 := by rw [hxf]; exact c_2
      refine lv_bipush (pc := 24) (v := (-101)) hx hb dX8_best_24 (by decide) ?_
      have hfn : R_best z g r n f t what = ((-101), z, g, r) := by rw [R_best, if_neg (fun q => c_2f q.2.1)]
      rw [hQ]; exact W.iret (pc := 26) hx hb hr (fun t9 ht _ => ⟨⟨retI (by rw [hfn]), by rw [ht, hfn]; exact (show va_P D vwCl (wR kB kI o a z g r) _ from hP)⟩, hS.F ht⟩) hS.2.2 dX8_best_26 hlocks
    · skip
      obtain ⟨j, hij, hj, hxt⟩ := inR_nat2 hi c_2
      have c_2f : inR t f 11 := by rw [hxf]; exact c_2
      refine lv_aload_n (pc := 17) hx hb dX8_best_17 rfl (lv_at hl 0 rfl) ?_
      refine fget (pc := 18) (v := .int (z 1)) hx hb hts hown hE hP fl_X8_124 0 rfl rfl dX8_best_18 ?_
      refine vEq (v := nI n) hz1 ?_
      refine lv_if_ne (pc := 21) (tgt := 27) hx hb dX8_best_21 (by decide) (fun c_3 => ?_) (fun c_3 => ?_)
      · skip
        have c_3n : ¬ n = 0 := fun hh => c_3 ((nI_eq (a := n) (b := 0) (by omega) (by omega)).mpr hh)
        refine lv_iload_n (pc := 27) hx hb dX8_best_27 rfl (lv_at hl 3 rfl) ?_
        refine lv_iconst (pc := 28) (v := 0) hx hb dX8_best_28 (by decide) ?_
        refine lv_iconst (pc := 29) (v := 2) hx hb dX8_best_29 (by decide) ?_
        refine rS (pc := 30) (rest := []) ⟨hx, hb, hml, hown, hts⟩ (k_X8_within (v := what) (lo := 0) (hi := 2)) cw_X8_86 ⟨(Nat.le_of_ble_eq_true rfl), (Nat.le_of_ble_eq_true rfl)⟩ hE hS wc0 rfl hl.1 rfl (Nat.le_of_ble_eq_true rfl) dX8_best_30 ⟨Nat.le_refl _, Nat.le_refl _⟩ ?_
        refine W.eq (g2 := F0 m 33 ls [.int (bi (inR what 0 2))]) rfl ?_
        refine bif_ne (pc := 33) (tgt := 39) hx hb dX8_best_33 (by decide) (fun c_4 => ?_) (fun c_4 => ?_)
        · skip
          refine lv_aload_n (pc := 39) hx hb dX8_best_39 rfl (lv_at hl 0 rfl) ?_
          refine lv_iload_n (pc := 40) hx hb dX8_best_40 rfl (lv_at hl 1 rfl) ?_
          refine vEq (v := nI i) hxf ?_
          refine lv_iload_n (pc := 41) hx hb dX8_best_41 rfl (lv_at hl 2 rfl) ?_
          refine vEq (v := nI j) hxt ?_
          refine rV (pc := 42) (rest := []) ⟨hx, hb, hml, hown, hts⟩ (k_X8_darkOnes (f := i) (t := j) (z := z) (g := g) (r := r) (hft := hij) (ht := hj)) cw_X8_217 ⟨(Nat.le_of_ble_eq_true rfl), (Nat.le_of_ble_eq_true rfl)⟩ hE hS hP rfl rfl rfl rfl hl.1 rfl (Nat.le_of_ble_eq_true rfl) dX8_best_42 ⟨Nat.le_refl _, Nat.le_refl _⟩ ?_
          refine W.eq (g2 := F0 m 45 ls [.int (nI (dkN ((r 8)) i (j + 1 - i)))]) rfl ?_
          have hdl : dkN (r 8) i (j + 1 - i) ≤ j + 1 - i := cntP_le _ _
          refine lv_iconst (pc := 45) (v := 4) hx hb dX8_best_45 (by decide) ?_
          refine lv_icmp_gt (pc := 46) (tgt := 58) hx hb dX8_best_46 (by decide) (fun c_5 => ?_) (fun c_5 => ?_)
          · skip
            have c_5n : 4 < (dkN ((r 8)) i (j + 1 - i)) := (nI_ltI (a := 4) (b := dkN ((r 8)) i (j + 1 - i)) (by omega) (by omega)).mp c_5
            refine lv_bipush (pc := 58) (v := (-103)) hx hb dX8_best_58 (by decide) ?_
            refine lv_goto (pc := 60) (tgt := 70) hx hb dX8_best_60 (by decide) ?_
            have hfn : R_best z g r n f t what = ((-103), z, g, r) := by rw [R_best, if_pos ⟨c_1, c_2f, c_3n⟩, if_pos c_4, hxf, hxt, ix_nI (j := i) (by omega), ix_nI (j := j) (by omega), if_pos (Or.inl (by show 4 < dkN _ _ _; omega))]
            rw [hQ]; exact W.iret (pc := 70) hx hb hr (fun t9 ht _ => ⟨⟨retI (by rw [hfn]), by rw [ht, hfn]; exact (show va_P D vwCl (wR kB kI o a z g r) _ from hP)⟩, hS.F ht⟩) hS.2.2 dX8_best_70 hlocks
          · skip
            have c_5n : ¬ 4 < (dkN ((r 8)) i (j + 1 - i)) := fun hh => c_5 ((nI_ltI (a := 4) (b := dkN ((r 8)) i (j + 1 - i)) (by omega) (by omega)).mpr hh)
            refine lv_aload_n (pc := 49) hx hb dX8_best_49 rfl (lv_at hl 0 rfl) ?_
            refine fget (pc := 50) (v := .int (z 9)) hx hb hts hown hE hP fl_X8_207 0 rfl rfl dX8_best_50 ?_
            refine lv_bipush (pc := 53) (v := 8) hx hb dX8_best_53 (by decide) ?_
            refine lv_icmp_ne (pc := 55) (tgt := 63) hx hb dX8_best_55 (by decide) (fun c_6 => ?_) (fun c_6 => ?_)
            · skip
              refine lv_aload_n (pc := 63) hx hb dX8_best_63 rfl (lv_at hl 0 rfl) ?_
              refine lv_iload_n (pc := 64) hx hb dX8_best_64 rfl (lv_at hl 1 rfl) ?_
              refine vEq (v := nI i) hxf ?_
              refine lv_iload_n (pc := 65) hx hb dX8_best_65 rfl (lv_at hl 2 rfl) ?_
              refine vEq (v := nI j) hxt ?_
              refine lv_iload_n (pc := 66) hx hb dX8_best_66 rfl (lv_at hl 3 rfl) ?_
              refine wVa (pc := 67) (rest := []) ⟨hx, hb, hml, hown, hts⟩ (k_X8_bestNow (f := i) (t := j) (what := what) (z := z) (g := g) (r := r) (hok := hok) (hn5 := hn5) (hz1 := hz1) (hft := hij) (ht := hj) (hd4 := (by show dkN _ _ _ ≤ 4; omega)) (n := n)) cw_X8_220 ⟨(Nat.le_of_ble_eq_true rfl), (Nat.le_of_ble_eq_true rfl)⟩ hE hP hD hS rfl rfl rfl rfl rfl hl.1 rfl (Nat.le_of_ble_eq_true rfl) dX8_best_67 ⟨Nat.le_refl _, Nat.le_refl _⟩ (fun H locs hP hD hS => ?_)
              have hP : va_P D vwCl (wR kB kI o a (R_bestNow z g r n i j what).2.1 (R_bestNow z g r n i j what).2.2.1 (R_bestNow z g r n i j what).2.2.2) H := hP
              have hD : va_D A (wR kB kI o a (R_bestNow z g r n i j what).2.1 (R_bestNow z g r n i j what).2.2.1 (R_bestNow z g r n i j what).2.2.2) := hD
              refine W.eq (g2 := F0 m 70 ls [.int ((R_bestNow z g r n i j what).1)]) rfl ?_
              have hfn : R_best z g r n f t what = ((R_bestNow z g r n i j what).1, (R_bestNow z g r n i j what).2.1, (R_bestNow z g r n i j what).2.2.1, (R_bestNow z g r n i j what).2.2.2) := by rw [R_best, if_pos ⟨c_1, c_2f, c_3n⟩, if_pos c_4, hxf, hxt, ix_nI (j := i) (by omega), ix_nI (j := j) (by omega), if_neg (fun q => q.elim (fun q => by have q2 : 4 < dkN (r 8) i (j + 1 - i) := q; omega) c_6)]
              rw [hQ]; exact W.iret (pc := 70) hx hb hr (fun t9 ht _ => ⟨⟨retI (by rw [hfn]), by rw [ht, hfn]; exact (show va_P D vwCl (wR kB kI o a (R_bestNow z g r n i j what).2.1 (R_bestNow z g r n i j what).2.2.1 (R_bestNow z g r n i j what).2.2.2) _ from hP)⟩, hS.F ht⟩) hS.2.2 dX8_best_70 hlocks
            · skip
              refine lv_bipush (pc := 58) (v := (-103)) hx hb dX8_best_58 (by decide) ?_
              refine lv_goto (pc := 60) (tgt := 70) hx hb dX8_best_60 (by decide) ?_
              have hfn : R_best z g r n f t what = ((-103), z, g, r) := by rw [R_best, if_pos ⟨c_1, c_2f, c_3n⟩, if_pos c_4, hxf, hxt, ix_nI (j := i) (by omega), ix_nI (j := j) (by omega), if_pos (Or.inr c_6)]
              rw [hQ]; exact W.iret (pc := 70) hx hb hr (fun t9 ht _ => ⟨⟨retI (by rw [hfn]), by rw [ht, hfn]; exact (show va_P D vwCl (wR kB kI o a z g r) _ from hP)⟩, hS.F ht⟩) hS.2.2 dX8_best_70 hlocks
        · skip
          refine lv_bipush (pc := 36) (v := (-102)) hx hb dX8_best_36 (by decide) ?_
          have hfn : R_best z g r n f t what = ((-102), z, g, r) := by rw [R_best, if_pos ⟨c_1, c_2f, c_3n⟩, if_neg c_4]
          rw [hQ]; exact W.iret (pc := 38) hx hb hr (fun t9 ht _ => ⟨⟨retI (by rw [hfn]), by rw [ht, hfn]; exact (show va_P D vwCl (wR kB kI o a z g r) _ from hP)⟩, hS.F ht⟩) hS.2.2 dX8_best_38 hlocks
      · skip
        have c_3n : n = 0 := (nI_eq (a := n) (b := 0) (by omega) (by omega)).mp c_3
        refine lv_bipush (pc := 24) (v := (-101)) hx hb dX8_best_24 (by decide) ?_
        have hfn : R_best z g r n f t what = ((-101), z, g, r) := by rw [R_best, if_neg (fun q => q.2.2 c_3n)]
        rw [hQ]; exact W.iret (pc := 26) hx hb hr (fun t9 ht _ => ⟨⟨retI (by rw [hfn]), by rw [ht, hfn]; exact (show va_P D vwCl (wR kB kI o a z g r) _ from hP)⟩, hS.F ht⟩) hS.2.2 dX8_best_26 hlocks
end
