section
variable {l : Launch} {D : va_G} {kB kI kT : ClassId} {ks sk sv : Nat}
set_option maxRecDepth 100000 in
set_option maxHeartbeats 4000000 in
theorem k_X8_plan {o : Nat} {a : Nat → Nat} {z : Nat → Int32} {g : Nat → Int64} {r : Nat → Nat → Int32} {n : Nat} {pn : Nat} (hz1 : z 1 = nI n) (hn5 : n ≤ 5) (hz14 : z 14 = nI pn) (hpn : pn ≤ 40) : MW l yX8_plan cX8_plan 3 (some .int) 2 43 D kB kI kT ks sk sv [.ref o] (wR kB kI o a z g r) (some (.int ((R_plan z g r n pn).1))) (wR kB kI o a (R_plan z g r n pn).2.1 (R_plan z g r n pn).2.2.1 (R_plan z g r n pn).2.2.2) := by
  refine MW.go (by decide +kernel) (Nat.le_of_ble_eq_true rfl) ?_
  intro p e s m below meth c0 args Q ls A hQ hx hb hr hml hown hts hlocks hE hP hD hS hl
  have hl : lv_has ls 3 [(0, .ref o)] := hl
  have hown : s.vm.findClass RX8 = some m.cls := hown
  refine lv_aload_n (pc := 0) hx hb dX8_plan_0 rfl (lv_at hl 0 rfl) ?_
  refine fget (pc := 1) (v := .int (z 1)) hx hb hts hown hE hP fl_X8_124 0 rfl rfl dX8_plan_1 ?_
  refine vEq (v := nI n) hz1 ?_
  refine lv_if_le (pc := 4) (tgt := 20) hx hb dX8_plan_4 (by decide) (fun c_1 => ?_) (fun c_1 => ?_)
  · skip
    have c_1n : n ≤ 0 := (nI_leI (a := n) (b := 0) (by omega) (by omega)).mp c_1
    refine lv_iconst (pc := 20) (v := 0) hx hb dX8_plan_20 (by decide) ?_
    refine lv_istore_n (pc := 21) (lv' := [(1, .int 0), (0, .ref o)]) hx hb dX8_plan_21 rfl hl (by decide) rfl (fun ls hl => ?_)
    refine lv_iconst (pc := 22) (v := 0) hx hb dX8_plan_22 (by decide) ?_
    refine lv_istore_n (pc := 23) (lv' := [(2, .int 0), (1, .int 0), (0, .ref o)]) hx hb dX8_plan_23 rfl hl (by decide) rfl (fun ls hl => ?_)
    have lp_2 : ∀ (fuel : Nat) (i : Nat) (b9 : Bool), 12 - i < fuel → (i ≤ 12) → (b9 = decide (0 < n ∧ pn = 12 ∧ allB (planOk (r 15) (z 1)) i = true)) → ∀ (H : Heap) (locs : List Loc), va_P D vwCl (wR kB kI o a z g r) H → va_D A (wR kB kI o a z g r) → va_S A s.heap H locs → ∀ (ls : Array Slot), lv_has ls 3 [(0, .ref o), (1, .int (bi (b9 = true))), (2, .int (nI i))] → W p l e (rmO 2 43) s m args below meth c0 H locs 0 0 Q (F0 m 24 ls []) := by
      intro fuel
      induction fuel with
      | zero => intro i b9 hfuel; exact absurd hfuel (Nat.not_lt_zero _)
      | succ fuel ih_lp_2 =>
        intro i b9 hfuel hi hb9 H locs hP hD hS ls hl
        refine lv_iload_n (pc := 24) hx hb dX8_plan_24 rfl (lv_at hl 2 rfl) ?_
        refine lv_bipush (pc := 25) (v := 12) hx hb dX8_plan_25 (by decide) ?_
        refine lv_icmp_ge (pc := 27) (tgt := 73) hx hb dX8_plan_27 (by decide) (fun c_3 => ?_) (fun c_3 => ?_)
        · skip
          have c_3n : 12 ≤ i := (nI_leI (a := 12) (b := i) (by omega) (by omega)).mp c_3
          refine lv_iload_n (pc := 73) hx hb dX8_plan_73 rfl (lv_at hl 1 rfl) ?_
          refine bif_ne (pc := 74) (tgt := 80) hx hb dX8_plan_74 (by decide) (fun c_4 => ?_) (fun c_4 => ?_)
          · skip
            have hall : 0 < n ∧ pn = 12 ∧ allB (planOk (r 15) (z 1)) 12 = true := by have q := of_decide_eq_true (hb9.symm.trans c_4); rw [show (12 : Nat) = i by omega]; rw [show i = 12 by omega] at q ⊢; exact q
            refine lv_iconst (pc := 80) (v := 0) hx hb dX8_plan_80 (by decide) ?_
            refine lv_istore_n (pc := 81) (lv' := [(2, .int 0), (0, .ref o), (1, .int (bi (b9 = true)))]) hx hb dX8_plan_81 rfl hl (by decide) rfl (fun ls hl => ?_)
            have lp_5 : ∀ (fuel : Nat) (j : Nat), 12 - j < fuel → (j ≤ 12) → ∀ (H : Heap) (locs : List Loc), va_P D vwCl (wR kB kI o a z g (va_up r 8 (ovN (r 8) (planF (r 15)) j))) H → va_D A (wR kB kI o a z g (va_up r 8 (ovN (r 8) (planF (r 15)) j))) → va_S A s.heap H locs → ∀ (ls : Array Slot), lv_has ls 3 [(0, .ref o), (2, .int (nI j))] → W p l e (rmO 2 43) s m args below meth c0 H locs 0 0 Q (F0 m 82 ls []) := by
              intro fuel
              induction fuel with
              | zero => intro j hfuel; exact absurd hfuel (Nat.not_lt_zero _)
              | succ fuel ih_lp_5 =>
                intro j hfuel hj H locs hP hD hS ls hl
                refine lv_iload_n (pc := 82) hx hb dX8_plan_82 rfl (lv_at hl 1 rfl) ?_
                refine lv_bipush (pc := 83) (v := 12) hx hb dX8_plan_83 (by decide) ?_
                refine lv_icmp_ge (pc := 85) (tgt := 124) hx hb dX8_plan_85 (by decide) (fun c_6 => ?_) (fun c_6 => ?_)
                · skip
                  have c_6n : 12 ≤ j := (nI_leI (a := 12) (b := j) (by omega) (by omega)).mp c_6
                  have hws_j : j = 12 := by omega
                  rw [hws_j] at hP hD
                  refine lv_aload_n (pc := 124) hx hb dX8_plan_124 rfl (lv_at hl 0 rfl) ?_
                  refine lv_iconst (pc := 125) (v := 0) hx hb dX8_plan_125 (by decide) ?_
                  refine fput (pc := 126) (v := .int 0) hx hb hts hown hE hP hD hS fp_X8_90 0 rfl rfl rfl (Nat.le_of_ble_eq_true rfl) dX8_plan_126 (fun H locs hP hD hS => ?_)
                  have hP : va_P D vwCl (wR kB kI o a (va_up z 14 0) g (va_up r 8 (ovN (r 8) (planF (r 15)) 12))) H := hP
                  have hD : va_D A (wR kB kI o a (va_up z 14 0) g (va_up r 8 (ovN (r 8) (planF (r 15)) 12))) := hD
                  refine lv_aload_n (pc := 129) hx hb dX8_plan_129 rfl (lv_at hl 0 rfl) ?_
                  refine rV (pc := 130) (rest := []) ⟨hx, hb, hml, hown, hts⟩ (k_X8_nightsOn (z := (va_up z 14 0)) (g := g) (r := (va_up r 8 (ovN (r 8) (planF (r 15)) 12)))) cw_X8_137 ⟨(Nat.le_of_ble_eq_true rfl), (Nat.le_of_ble_eq_true rfl)⟩ hE hS hP rfl rfl rfl rfl hl.1 rfl (Nat.le_of_ble_eq_true rfl) dX8_plan_130 ⟨Nat.le_refl _, Nat.le_refl _⟩ ?_
                  refine W.eq (g2 := F0 m 133 ls [.int (nI (nOn ((ovN (r 8) (planF (r 15)) 12)) 12))]) rfl ?_
                  have hfn : R_plan z g r n pn = (nI (nOn ((ovN (r 8) (planF (r 15)) 12)) 12), (va_up z 14 0), g, (va_up r 8 (ovN (r 8) (planF (r 15)) 12))) := by rw [R_plan, if_pos hall]
                  rw [hQ]; exact W.iret (pc := 133) hx hb hr (fun t9 ht _ => ⟨⟨retI (by rw [hfn]), by rw [ht, hfn]; exact (show va_P D vwCl (wR kB kI o a (va_up z 14 0) g (va_up r 8 (ovN (r 8) (planF (r 15)) 12))) _ from hP)⟩, hS.F ht⟩) hS.2.2 dX8_plan_133 hlocks
                · skip
                  have c_6n : ¬ 12 ≤ j := fun hh => c_6 ((nI_leI (a := 12) (b := j) (by omega) (by omega)).mpr hh)
                  refine lv_aload_n (pc := 88) hx hb dX8_plan_88 rfl (lv_at hl 0 rfl) ?_
                  refine fget (pc := 89) (v := .ref (a 8)) hx hb hts hown hE hP fl_X8_28 0 rfl rfl dX8_plan_89 ?_
                  refine lv_iload_n (pc := 92) hx hb dX8_plan_92 rfl (lv_at hl 1 rfl) ?_
                  refine lv_aload_n (pc := 93) hx hb dX8_plan_93 rfl (lv_at hl 0 rfl) ?_
                  refine fget (pc := 94) (v := .ref (a 15)) hx hb hts hown hE hP fl_X8_40 0 rfl rfl dX8_plan_94 ?_
                  refine lv_iload_n (pc := 97) hx hb dX8_plan_97 rfl (lv_at hl 1 rfl) ?_
                  refine aldB (pc := 98) (f := r 15) hx hb hE hP 11 rfl (j) (by omega) (by omega) dX8_plan_98 ?_
                  refine lv_bipush (pc := 99) (v := 46) hx hb dX8_plan_99 (by decide) ?_
                  refine lv_icmp_ne (pc := 101) (tgt := 108) hx hb dX8_plan_101 (by decide) (fun c_7 => ?_) (fun c_7 => ?_)
                  · skip
                    refine lv_aload_n (pc := 108) hx hb dX8_plan_108 rfl (lv_at hl 0 rfl) ?_
                    refine fget (pc := 109) (v := .ref (a 15)) hx hb hts hown hE hP fl_X8_40 0 rfl rfl dX8_plan_109 ?_
                    refine lv_iload_n (pc := 112) hx hb dX8_plan_112 rfl (lv_at hl 1 rfl) ?_
                    refine aldB (pc := 113) (f := r 15) hx hb hE hP 11 rfl (j) (by omega) (by omega) dX8_plan_113 ?_
                    refine lv_bipush (pc := 114) (v := 48) hx hb dX8_plan_114 (by decide) ?_
                    refine lv_isub (pc := 116) hx hb dX8_plan_116 ?_
                    refine astN (pc := 117) (f := ovN (r 8) (planF (r 15)) j) hx hb hE hP hD hS 7 rfl (j) (by omega) (by omega) dX8_plan_117 (fun H locs hP hD hS => ?_)
                    have hP : va_P D vwCl (wR kB kI o a z g (va_up r 8 (upd (ovN (r 8) (planF (r 15)) j) j (((r 15) j) - 48)))) H := hP
                    have hD : va_D A (wR kB kI o a z g (va_up r 8 (upd (ovN (r 8) (planF (r 15)) j) j (((r 15) j) - 48)))) := hD
                    refine lv_iinc (pc := 118) (v := nI (j + 1)) (lv' := [(2, .int (nI (j + 1))), (0, .ref o)]) hx hb dX8_plan_118 hl (k := 1) rfl (nI_add (j) 1) (by decide) rfl (fun ls hl => ?_)
                    refine lv_goto (pc := 121) (tgt := 82) hx hb dX8_plan_121 (by decide) ?_
                    exact ih_lp_5 (j + 1) (by omega) (by omega) _ _ (by rw [← ovN_sv _ _ _ (show r 15 j - 48 = planF (r 15) j by rw [planF, if_neg c_7])]; exact hP) (by rw [← ovN_sv _ _ _ (show r 15 j - 48 = planF (r 15) j by rw [planF, if_neg c_7])]; exact hD) hS ls (lv_sub hl [1, 0] rfl)
                  · skip
                    refine lv_iconst (pc := 104) (v := (-1)) hx hb dX8_plan_104 (by decide) ?_
                    refine lv_goto (pc := 105) (tgt := 117) hx hb dX8_plan_105 (by decide) ?_
                    refine astN (pc := 117) (f := ovN (r 8) (planF (r 15)) j) hx hb hE hP hD hS 7 rfl (j) (by omega) (by omega) dX8_plan_117 (fun H locs hP hD hS => ?_)
                    have hP : va_P D vwCl (wR kB kI o a z g (va_up r 8 (upd (ovN (r 8) (planF (r 15)) j) j (-1)))) H := hP
                    have hD : va_D A (wR kB kI o a z g (va_up r 8 (upd (ovN (r 8) (planF (r 15)) j) j (-1)))) := hD
                    refine lv_iinc (pc := 118) (v := nI (j + 1)) (lv' := [(2, .int (nI (j + 1))), (0, .ref o)]) hx hb dX8_plan_118 hl (k := 1) rfl (nI_add (j) 1) (by decide) rfl (fun ls hl => ?_)
                    refine lv_goto (pc := 121) (tgt := 82) hx hb dX8_plan_121 (by decide) ?_
                    exact ih_lp_5 (j + 1) (by omega) (by omega) _ _ (by rw [← ovN_sv _ _ _ (show -1 = planF (r 15) j by rw [planF, if_pos c_7])]; exact hP) (by rw [← ovN_sv _ _ _ (show -1 = planF (r 15) j by rw [planF, if_pos c_7])]; exact hD) hS ls (lv_sub hl [1, 0] rfl)
            exact lp_5 _ 0 (Nat.lt_succ_self _) (by omega) _ _ (by rw [ovN_0, va_up_same]; exact hP) (by rw [ovN_0, va_up_same]; exact hD) hS ls (lv_sub hl [1, 0] rfl)
          · skip
            refine lv_bipush (pc := 77) (v := (-103)) hx hb dX8_plan_77 (by decide) ?_
            have hfn : R_plan z g r n pn = ((-103), z, g, r) := by rw [R_plan, if_neg (fun q => c_4 (hb9.trans (decide_eq_true ⟨q.1, q.2.1, allB_mono (by omega) q.2.2⟩)))]
            rw [hQ]; exact W.iret (pc := 79) hx hb hr (fun t9 ht _ => ⟨⟨retI (by rw [hfn]), by rw [ht, hfn]; exact (show va_P D vwCl (wR kB kI o a z g r) _ from hP)⟩, hS.F ht⟩) hS.2.2 dX8_plan_79 hlocks
        · skip
          have c_3n : ¬ 12 ≤ i := fun hh => c_3 ((nI_leI (a := 12) (b := i) (by omega) (by omega)).mpr hh)
          refine lv_iload_n (pc := 30) hx hb dX8_plan_30 rfl (lv_at hl 1 rfl) ?_
          refine bif_eq (pc := 31) (tgt := 73) hx hb dX8_plan_31 (by decide) (fun c_8 => ?_) (fun c_8 => ?_)
          · skip
            refine lv_iload_n (pc := 73) hx hb dX8_plan_73 rfl (lv_at hl 1 rfl) ?_
            refine bif_ne (pc := 74) (tgt := 80) hx hb dX8_plan_74 (by decide) (fun c_9 => ?_) (fun c_9 => ?_)
            · exact absurd c_9 c_8
            · skip
              refine lv_bipush (pc := 77) (v := (-103)) hx hb dX8_plan_77 (by decide) ?_
              have hfn : R_plan z g r n pn = ((-103), z, g, r) := by rw [R_plan, if_neg (fun q => c_9 (hb9.trans (decide_eq_true ⟨q.1, q.2.1, allB_mono (by omega) q.2.2⟩)))]
              rw [hQ]; exact W.iret (pc := 79) hx hb hr (fun t9 ht _ => ⟨⟨retI (by rw [hfn]), by rw [ht, hfn]; exact (show va_P D vwCl (wR kB kI o a z g r) _ from hP)⟩, hS.F ht⟩) hS.2.2 dX8_plan_79 hlocks
          · skip
            refine lv_aload_n (pc := 34) hx hb dX8_plan_34 rfl (lv_at hl 0 rfl) ?_
            refine fget (pc := 35) (v := .ref (a 15)) hx hb hts hown hE hP fl_X8_40 0 rfl rfl dX8_plan_35 ?_
            refine lv_iload_n (pc := 38) hx hb dX8_plan_38 rfl (lv_at hl 2 rfl) ?_
            refine aldB (pc := 39) (f := r 15) hx hb hE hP 11 rfl (i) (by omega) (by omega) dX8_plan_39 ?_
            refine lv_bipush (pc := 40) (v := 46) hx hb dX8_plan_40 (by decide) ?_
            refine lv_icmp_eq (pc := 42) (tgt := 61) hx hb dX8_plan_42 (by decide) (fun c_10 => ?_) (fun c_10 => ?_)
            · skip
              refine lv_iconst (pc := 61) (v := 1) hx hb dX8_plan_61 (by decide) ?_
              refine lv_goto (pc := 62) (tgt := 66) hx hb dX8_plan_62 (by decide) ?_
              refine lv_istore_n (pc := 66) (lv' := [(1, .int 1), (0, .ref o), (2, .int (nI i))]) hx hb dX8_plan_66 rfl hl (by decide) rfl (fun ls hl => ?_)
              refine lv_iinc (pc := 67) (v := nI (i + 1)) (lv' := [(2, .int (nI (i + 1))), (1, .int 1), (0, .ref o)]) hx hb dX8_plan_67 hl (k := 2) rfl (nI_add (i) 1) (by decide) rfl (fun ls hl => ?_)
              refine lv_goto (pc := 70) (tgt := 24) hx hb dX8_plan_70 (by decide) ?_
              exact ih_lp_2 (i + 1) true (by omega) (by omega) (by have q := of_decide_eq_true (hb9.symm.trans c_8); symm; apply decide_eq_true; refine ⟨q.1, q.2.1, ?_⟩; show (allB (planOk (r 15) (z 1)) i && planOk (r 15) (z 1) i) = true; rw [q.2.2, planOk, decide_eq_true (Or.inl c_10)]; rfl) _ _ hP hD hS ls (lv_sub hl [2, 1, 0] rfl)
            · skip
              refine lv_aload_n (pc := 45) hx hb dX8_plan_45 rfl (lv_at hl 0 rfl) ?_
              refine lv_aload_n (pc := 46) hx hb dX8_plan_46 rfl (lv_at hl 0 rfl) ?_
              refine fget (pc := 47) (v := .ref (a 15)) hx hb hts hown hE hP fl_X8_40 0 rfl rfl dX8_plan_47 ?_
              refine lv_iload_n (pc := 50) hx hb dX8_plan_50 rfl (lv_at hl 2 rfl) ?_
              refine aldB (pc := 51) (f := r 15) hx hb hE hP 11 rfl (i) (by omega) (by omega) dX8_plan_51 ?_
              refine lv_bipush (pc := 52) (v := 48) hx hb dX8_plan_52 (by decide) ?_
              refine lv_isub (pc := 54) hx hb dX8_plan_54 ?_
              refine rV (pc := 55) (rest := []) ⟨hx, hb, hml, hown, hts⟩ (k_X8_isTitle (t := ((r 15) i) - 48) (z := z) (g := g) (r := r)) cw_X8_133 ⟨(Nat.le_of_ble_eq_true rfl), (Nat.le_of_ble_eq_true rfl)⟩ hE hS hP rfl rfl rfl rfl hl.1 rfl (Nat.le_of_ble_eq_true rfl) dX8_plan_55 ⟨Nat.le_refl _, Nat.le_refl _⟩ ?_
              refine W.eq (g2 := F0 m 58 ls [.int (bi (inR (((r 15) i) - 48) 0 ((z 1) - 1)))]) rfl ?_
              refine bif_eq (pc := 58) (tgt := 65) hx hb dX8_plan_58 (by decide) (fun c_11 => ?_) (fun c_11 => ?_)
              · skip
                refine lv_iconst (pc := 65) (v := 0) hx hb dX8_plan_65 (by decide) ?_
                refine lv_istore_n (pc := 66) (lv' := [(1, .int 0), (0, .ref o), (2, .int (nI i))]) hx hb dX8_plan_66 rfl hl (by decide) rfl (fun ls hl => ?_)
                refine lv_iinc (pc := 67) (v := nI (i + 1)) (lv' := [(2, .int (nI (i + 1))), (1, .int 0), (0, .ref o)]) hx hb dX8_plan_67 hl (k := 2) rfl (nI_add (i) 1) (by decide) rfl (fun ls hl => ?_)
                refine lv_goto (pc := 70) (tgt := 24) hx hb dX8_plan_70 (by decide) ?_
                exact ih_lp_2 (i + 1) false (by omega) (by omega) (by symm; apply decide_eq_false; rintro ⟨-, -, q3⟩; have q4 : (allB (planOk (r 15) (z 1)) i && planOk (r 15) (z 1) i) = true := q3; rw [planOk, decide_eq_false (fun q => q.elim c_10 c_11), Bool.and_false] at q4; cases q4) _ _ hP hD hS ls (lv_sub hl [2, 1, 0] rfl)
              · skip
                refine lv_iconst (pc := 61) (v := 1) hx hb dX8_plan_61 (by decide) ?_
                refine lv_goto (pc := 62) (tgt := 66) hx hb dX8_plan_62 (by decide) ?_
                refine lv_istore_n (pc := 66) (lv' := [(1, .int 1), (0, .ref o), (2, .int (nI i))]) hx hb dX8_plan_66 rfl hl (by decide) rfl (fun ls hl => ?_)
                refine lv_iinc (pc := 67) (v := nI (i + 1)) (lv' := [(2, .int (nI (i + 1))), (1, .int 1), (0, .ref o)]) hx hb dX8_plan_67 hl (k := 2) rfl (nI_add (i) 1) (by decide) rfl (fun ls hl => ?_)
                refine lv_goto (pc := 70) (tgt := 24) hx hb dX8_plan_70 (by decide) ?_
                exact ih_lp_2 (i + 1) true (by omega) (by omega) (by have q := of_decide_eq_true (hb9.symm.trans c_8); symm; apply decide_eq_true; refine ⟨q.1, q.2.1, ?_⟩; show (allB (planOk (r 15) (z 1)) i && planOk (r 15) (z 1) i) = true; rw [q.2.2, planOk, decide_eq_true (Or.inr c_11)]; rfl) _ _ hP hD hS ls (lv_sub hl [2, 1, 0] rfl)
    exact lp_2 _ 0 false (Nat.lt_succ_self _) (by omega) (by symm; apply decide_eq_false; rintro ⟨q1, q2, -⟩; omega) _ _ hP hD hS ls (lv_sub hl [2, 1, 0] rfl)
  · skip
    have c_1n : ¬ n ≤ 0 := fun hh => c_1 ((nI_leI (a := n) (b := 0) (by omega) (by omega)).mpr hh)
    refine lv_aload_n (pc := 7) hx hb dX8_plan_7 rfl (lv_at hl 0 rfl) ?_
    refine fget (pc := 8) (v := .int (z 14)) hx hb hts hown hE hP fl_X8_90 0 rfl rfl dX8_plan_8 ?_
    refine vEq (v := nI pn) hz14 ?_
    refine lv_bipush (pc := 11) (v := 12) hx hb dX8_plan_11 (by decide) ?_
    refine lv_icmp_ne (pc := 13) (tgt := 20) hx hb dX8_plan_13 (by decide) (fun c_12 => ?_) (fun c_12 => ?_)
    · skip
      have c_12n : ¬ pn = 12 := fun hh => c_12 ((nI_eq (a := pn) (b := 12) (by omega) (by omega)).mpr hh)
      refine lv_iconst (pc := 20) (v := 0) hx hb dX8_plan_20 (by decide) ?_
      refine lv_istore_n (pc := 21) (lv' := [(1, .int 0), (0, .ref o)]) hx hb dX8_plan_21 rfl hl (by decide) rfl (fun ls hl => ?_)
      refine lv_iconst (pc := 22) (v := 0) hx hb dX8_plan_22 (by decide) ?_
      refine lv_istore_n (pc := 23) (lv' := [(2, .int 0), (1, .int 0), (0, .ref o)]) hx hb dX8_plan_23 rfl hl (by decide) rfl (fun ls hl => ?_)
      have lp_13 : ∀ (fuel : Nat) (i : Nat) (b9 : Bool), 12 - i < fuel → (i ≤ 12) → (b9 = decide (0 < n ∧ pn = 12 ∧ allB (planOk (r 15) (z 1)) i = true)) → ∀ (H : Heap) (locs : List Loc), va_P D vwCl (wR kB kI o a z g r) H → va_D A (wR kB kI o a z g r) → va_S A s.heap H locs → ∀ (ls : Array Slot), lv_has ls 3 [(0, .ref o), (1, .int (bi (b9 = true))), (2, .int (nI i))] → W p l e (rmO 2 43) s m args below meth c0 H locs 0 0 Q (F0 m 24 ls []) := by
        intro fuel
        induction fuel with
        | zero => intro i b9 hfuel; exact absurd hfuel (Nat.not_lt_zero _)
        | succ fuel ih_lp_13 =>
          intro i b9 hfuel hi hb9 H locs hP hD hS ls hl
          refine lv_iload_n (pc := 24) hx hb dX8_plan_24 rfl (lv_at hl 2 rfl) ?_
          refine lv_bipush (pc := 25) (v := 12) hx hb dX8_plan_25 (by decide) ?_
          refine lv_icmp_ge (pc := 27) (tgt := 73) hx hb dX8_plan_27 (by decide) (fun c_14 => ?_) (fun c_14 => ?_)
          · skip
            have c_14n : 12 ≤ i := (nI_leI (a := 12) (b := i) (by omega) (by omega)).mp c_14
            refine lv_iload_n (pc := 73) hx hb dX8_plan_73 rfl (lv_at hl 1 rfl) ?_
            refine bif_ne (pc := 74) (tgt := 80) hx hb dX8_plan_74 (by decide) (fun c_15 => ?_) (fun c_15 => ?_)
            · skip
              have hall : 0 < n ∧ pn = 12 ∧ allB (planOk (r 15) (z 1)) 12 = true := by have q := of_decide_eq_true (hb9.symm.trans c_15); rw [show (12 : Nat) = i by omega]; rw [show i = 12 by omega] at q ⊢; exact q
              refine lv_iconst (pc := 80) (v := 0) hx hb dX8_plan_80 (by decide) ?_
              refine lv_istore_n (pc := 81) (lv' := [(2, .int 0), (0, .ref o), (1, .int (bi (b9 = true)))]) hx hb dX8_plan_81 rfl hl (by decide) rfl (fun ls hl => ?_)
              have lp_16 : ∀ (fuel : Nat) (j : Nat), 12 - j < fuel → (j ≤ 12) → ∀ (H : Heap) (locs : List Loc), va_P D vwCl (wR kB kI o a z g (va_up r 8 (ovN (r 8) (planF (r 15)) j))) H → va_D A (wR kB kI o a z g (va_up r 8 (ovN (r 8) (planF (r 15)) j))) → va_S A s.heap H locs → ∀ (ls : Array Slot), lv_has ls 3 [(0, .ref o), (2, .int (nI j))] → W p l e (rmO 2 43) s m args below meth c0 H locs 0 0 Q (F0 m 82 ls []) := by
                intro fuel
                induction fuel with
                | zero => intro j hfuel; exact absurd hfuel (Nat.not_lt_zero _)
                | succ fuel ih_lp_16 =>
                  intro j hfuel hj H locs hP hD hS ls hl
                  refine lv_iload_n (pc := 82) hx hb dX8_plan_82 rfl (lv_at hl 1 rfl) ?_
                  refine lv_bipush (pc := 83) (v := 12) hx hb dX8_plan_83 (by decide) ?_
                  refine lv_icmp_ge (pc := 85) (tgt := 124) hx hb dX8_plan_85 (by decide) (fun c_17 => ?_) (fun c_17 => ?_)
                  · skip
                    have c_17n : 12 ≤ j := (nI_leI (a := 12) (b := j) (by omega) (by omega)).mp c_17
                    have hws_j : j = 12 := by omega
                    rw [hws_j] at hP hD
                    refine lv_aload_n (pc := 124) hx hb dX8_plan_124 rfl (lv_at hl 0 rfl) ?_
                    refine lv_iconst (pc := 125) (v := 0) hx hb dX8_plan_125 (by decide) ?_
                    refine fput (pc := 126) (v := .int 0) hx hb hts hown hE hP hD hS fp_X8_90 0 rfl rfl rfl (Nat.le_of_ble_eq_true rfl) dX8_plan_126 (fun H locs hP hD hS => ?_)
                    have hP : va_P D vwCl (wR kB kI o a (va_up z 14 0) g (va_up r 8 (ovN (r 8) (planF (r 15)) 12))) H := hP
                    have hD : va_D A (wR kB kI o a (va_up z 14 0) g (va_up r 8 (ovN (r 8) (planF (r 15)) 12))) := hD
                    refine lv_aload_n (pc := 129) hx hb dX8_plan_129 rfl (lv_at hl 0 rfl) ?_
                    refine rV (pc := 130) (rest := []) ⟨hx, hb, hml, hown, hts⟩ (k_X8_nightsOn (z := (va_up z 14 0)) (g := g) (r := (va_up r 8 (ovN (r 8) (planF (r 15)) 12)))) cw_X8_137 ⟨(Nat.le_of_ble_eq_true rfl), (Nat.le_of_ble_eq_true rfl)⟩ hE hS hP rfl rfl rfl rfl hl.1 rfl (Nat.le_of_ble_eq_true rfl) dX8_plan_130 ⟨Nat.le_refl _, Nat.le_refl _⟩ ?_
                    refine W.eq (g2 := F0 m 133 ls [.int (nI (nOn ((ovN (r 8) (planF (r 15)) 12)) 12))]) rfl ?_
                    have hfn : R_plan z g r n pn = (nI (nOn ((ovN (r 8) (planF (r 15)) 12)) 12), (va_up z 14 0), g, (va_up r 8 (ovN (r 8) (planF (r 15)) 12))) := by rw [R_plan, if_pos hall]
                    rw [hQ]; exact W.iret (pc := 133) hx hb hr (fun t9 ht _ => ⟨⟨retI (by rw [hfn]), by rw [ht, hfn]; exact (show va_P D vwCl (wR kB kI o a (va_up z 14 0) g (va_up r 8 (ovN (r 8) (planF (r 15)) 12))) _ from hP)⟩, hS.F ht⟩) hS.2.2 dX8_plan_133 hlocks
                  · skip
                    have c_17n : ¬ 12 ≤ j := fun hh => c_17 ((nI_leI (a := 12) (b := j) (by omega) (by omega)).mpr hh)
                    refine lv_aload_n (pc := 88) hx hb dX8_plan_88 rfl (lv_at hl 0 rfl) ?_
                    refine fget (pc := 89) (v := .ref (a 8)) hx hb hts hown hE hP fl_X8_28 0 rfl rfl dX8_plan_89 ?_
                    refine lv_iload_n (pc := 92) hx hb dX8_plan_92 rfl (lv_at hl 1 rfl) ?_
                    refine lv_aload_n (pc := 93) hx hb dX8_plan_93 rfl (lv_at hl 0 rfl) ?_
                    refine fget (pc := 94) (v := .ref (a 15)) hx hb hts hown hE hP fl_X8_40 0 rfl rfl dX8_plan_94 ?_
                    refine lv_iload_n (pc := 97) hx hb dX8_plan_97 rfl (lv_at hl 1 rfl) ?_
                    refine aldB (pc := 98) (f := r 15) hx hb hE hP 11 rfl (j) (by omega) (by omega) dX8_plan_98 ?_
                    refine lv_bipush (pc := 99) (v := 46) hx hb dX8_plan_99 (by decide) ?_
                    refine lv_icmp_ne (pc := 101) (tgt := 108) hx hb dX8_plan_101 (by decide) (fun c_18 => ?_) (fun c_18 => ?_)
                    · skip
                      refine lv_aload_n (pc := 108) hx hb dX8_plan_108 rfl (lv_at hl 0 rfl) ?_
                      refine fget (pc := 109) (v := .ref (a 15)) hx hb hts hown hE hP fl_X8_40 0 rfl rfl dX8_plan_109 ?_
                      refine lv_iload_n (pc := 112) hx hb dX8_plan_112 rfl (lv_at hl 1 rfl) ?_
                      refine aldB (pc := 113) (f := r 15) hx hb hE hP 11 rfl (j) (by omega) (by omega) dX8_plan_113 ?_
                      refine lv_bipush (pc := 114) (v := 48) hx hb dX8_plan_114 (by decide) ?_
                      refine lv_isub (pc := 116) hx hb dX8_plan_116 ?_
                      refine astN (pc := 117) (f := ovN (r 8) (planF (r 15)) j) hx hb hE hP hD hS 7 rfl (j) (by omega) (by omega) dX8_plan_117 (fun H locs hP hD hS => ?_)
                      have hP : va_P D vwCl (wR kB kI o a z g (va_up r 8 (upd (ovN (r 8) (planF (r 15)) j) j (((r 15) j) - 48)))) H := hP
                      have hD : va_D A (wR kB kI o a z g (va_up r 8 (upd (ovN (r 8) (planF (r 15)) j) j (((r 15) j) - 48)))) := hD
                      refine lv_iinc (pc := 118) (v := nI (j + 1)) (lv' := [(2, .int (nI (j + 1))), (0, .ref o)]) hx hb dX8_plan_118 hl (k := 1) rfl (nI_add (j) 1) (by decide) rfl (fun ls hl => ?_)
                      refine lv_goto (pc := 121) (tgt := 82) hx hb dX8_plan_121 (by decide) ?_
                      exact ih_lp_16 (j + 1) (by omega) (by omega) _ _ (by rw [← ovN_sv _ _ _ (show r 15 j - 48 = planF (r 15) j by rw [planF, if_neg c_18])]; exact hP) (by rw [← ovN_sv _ _ _ (show r 15 j - 48 = planF (r 15) j by rw [planF, if_neg c_18])]; exact hD) hS ls (lv_sub hl [1, 0] rfl)
                    · skip
                      refine lv_iconst (pc := 104) (v := (-1)) hx hb dX8_plan_104 (by decide) ?_
                      refine lv_goto (pc := 105) (tgt := 117) hx hb dX8_plan_105 (by decide) ?_
                      refine astN (pc := 117) (f := ovN (r 8) (planF (r 15)) j) hx hb hE hP hD hS 7 rfl (j) (by omega) (by omega) dX8_plan_117 (fun H locs hP hD hS => ?_)
                      have hP : va_P D vwCl (wR kB kI o a z g (va_up r 8 (upd (ovN (r 8) (planF (r 15)) j) j (-1)))) H := hP
                      have hD : va_D A (wR kB kI o a z g (va_up r 8 (upd (ovN (r 8) (planF (r 15)) j) j (-1)))) := hD
                      refine lv_iinc (pc := 118) (v := nI (j + 1)) (lv' := [(2, .int (nI (j + 1))), (0, .ref o)]) hx hb dX8_plan_118 hl (k := 1) rfl (nI_add (j) 1) (by decide) rfl (fun ls hl => ?_)
                      refine lv_goto (pc := 121) (tgt := 82) hx hb dX8_plan_121 (by decide) ?_
                      exact ih_lp_16 (j + 1) (by omega) (by omega) _ _ (by rw [← ovN_sv _ _ _ (show -1 = planF (r 15) j by rw [planF, if_pos c_18])]; exact hP) (by rw [← ovN_sv _ _ _ (show -1 = planF (r 15) j by rw [planF, if_pos c_18])]; exact hD) hS ls (lv_sub hl [1, 0] rfl)
              exact lp_16 _ 0 (Nat.lt_succ_self _) (by omega) _ _ (by rw [ovN_0, va_up_same]; exact hP) (by rw [ovN_0, va_up_same]; exact hD) hS ls (lv_sub hl [1, 0] rfl)
            · skip
              refine lv_bipush (pc := 77) (v := (-103)) hx hb dX8_plan_77 (by decide) ?_
              have hfn : R_plan z g r n pn = ((-103), z, g, r) := by rw [R_plan, if_neg (fun q => c_15 (hb9.trans (decide_eq_true ⟨q.1, q.2.1, allB_mono (by omega) q.2.2⟩)))]
              rw [hQ]; exact W.iret (pc := 79) hx hb hr (fun t9 ht _ => ⟨⟨retI (by rw [hfn]), by rw [ht, hfn]; exact (show va_P D vwCl (wR kB kI o a z g r) _ from hP)⟩, hS.F ht⟩) hS.2.2 dX8_plan_79 hlocks
          · skip
            have c_14n : ¬ 12 ≤ i := fun hh => c_14 ((nI_leI (a := 12) (b := i) (by omega) (by omega)).mpr hh)
            refine lv_iload_n (pc := 30) hx hb dX8_plan_30 rfl (lv_at hl 1 rfl) ?_
            refine bif_eq (pc := 31) (tgt := 73) hx hb dX8_plan_31 (by decide) (fun c_19 => ?_) (fun c_19 => ?_)
            · skip
              refine lv_iload_n (pc := 73) hx hb dX8_plan_73 rfl (lv_at hl 1 rfl) ?_
              refine bif_ne (pc := 74) (tgt := 80) hx hb dX8_plan_74 (by decide) (fun c_20 => ?_) (fun c_20 => ?_)
              · exact absurd c_20 c_19
              · skip
                refine lv_bipush (pc := 77) (v := (-103)) hx hb dX8_plan_77 (by decide) ?_
                have hfn : R_plan z g r n pn = ((-103), z, g, r) := by rw [R_plan, if_neg (fun q => c_20 (hb9.trans (decide_eq_true ⟨q.1, q.2.1, allB_mono (by omega) q.2.2⟩)))]
                rw [hQ]; exact W.iret (pc := 79) hx hb hr (fun t9 ht _ => ⟨⟨retI (by rw [hfn]), by rw [ht, hfn]; exact (show va_P D vwCl (wR kB kI o a z g r) _ from hP)⟩, hS.F ht⟩) hS.2.2 dX8_plan_79 hlocks
            · skip
              refine lv_aload_n (pc := 34) hx hb dX8_plan_34 rfl (lv_at hl 0 rfl) ?_
              refine fget (pc := 35) (v := .ref (a 15)) hx hb hts hown hE hP fl_X8_40 0 rfl rfl dX8_plan_35 ?_
              refine lv_iload_n (pc := 38) hx hb dX8_plan_38 rfl (lv_at hl 2 rfl) ?_
              refine aldB (pc := 39) (f := r 15) hx hb hE hP 11 rfl (i) (by omega) (by omega) dX8_plan_39 ?_
              refine lv_bipush (pc := 40) (v := 46) hx hb dX8_plan_40 (by decide) ?_
              refine lv_icmp_eq (pc := 42) (tgt := 61) hx hb dX8_plan_42 (by decide) (fun c_21 => ?_) (fun c_21 => ?_)
              · skip
                refine lv_iconst (pc := 61) (v := 1) hx hb dX8_plan_61 (by decide) ?_
                refine lv_goto (pc := 62) (tgt := 66) hx hb dX8_plan_62 (by decide) ?_
                refine lv_istore_n (pc := 66) (lv' := [(1, .int 1), (0, .ref o), (2, .int (nI i))]) hx hb dX8_plan_66 rfl hl (by decide) rfl (fun ls hl => ?_)
                refine lv_iinc (pc := 67) (v := nI (i + 1)) (lv' := [(2, .int (nI (i + 1))), (1, .int 1), (0, .ref o)]) hx hb dX8_plan_67 hl (k := 2) rfl (nI_add (i) 1) (by decide) rfl (fun ls hl => ?_)
                refine lv_goto (pc := 70) (tgt := 24) hx hb dX8_plan_70 (by decide) ?_
                exact ih_lp_13 (i + 1) true (by omega) (by omega) (by have q := of_decide_eq_true (hb9.symm.trans c_19); symm; apply decide_eq_true; refine ⟨q.1, q.2.1, ?_⟩; show (allB (planOk (r 15) (z 1)) i && planOk (r 15) (z 1) i) = true; rw [q.2.2, planOk, decide_eq_true (Or.inl c_21)]; rfl) _ _ hP hD hS ls (lv_sub hl [2, 1, 0] rfl)
              · skip
                refine lv_aload_n (pc := 45) hx hb dX8_plan_45 rfl (lv_at hl 0 rfl) ?_
                refine lv_aload_n (pc := 46) hx hb dX8_plan_46 rfl (lv_at hl 0 rfl) ?_
                refine fget (pc := 47) (v := .ref (a 15)) hx hb hts hown hE hP fl_X8_40 0 rfl rfl dX8_plan_47 ?_
                refine lv_iload_n (pc := 50) hx hb dX8_plan_50 rfl (lv_at hl 2 rfl) ?_
                refine aldB (pc := 51) (f := r 15) hx hb hE hP 11 rfl (i) (by omega) (by omega) dX8_plan_51 ?_
                refine lv_bipush (pc := 52) (v := 48) hx hb dX8_plan_52 (by decide) ?_
                refine lv_isub (pc := 54) hx hb dX8_plan_54 ?_
                refine rV (pc := 55) (rest := []) ⟨hx, hb, hml, hown, hts⟩ (k_X8_isTitle (t := ((r 15) i) - 48) (z := z) (g := g) (r := r)) cw_X8_133 ⟨(Nat.le_of_ble_eq_true rfl), (Nat.le_of_ble_eq_true rfl)⟩ hE hS hP rfl rfl rfl rfl hl.1 rfl (Nat.le_of_ble_eq_true rfl) dX8_plan_55 ⟨Nat.le_refl _, Nat.le_refl _⟩ ?_
                refine W.eq (g2 := F0 m 58 ls [.int (bi (inR (((r 15) i) - 48) 0 ((z 1) - 1)))]) rfl ?_
                refine bif_eq (pc := 58) (tgt := 65) hx hb dX8_plan_58 (by decide) (fun c_22 => ?_) (fun c_22 => ?_)
                · skip
                  refine lv_iconst (pc := 65) (v := 0) hx hb dX8_plan_65 (by decide) ?_
                  refine lv_istore_n (pc := 66) (lv' := [(1, .int 0), (0, .ref o), (2, .int (nI i))]) hx hb dX8_plan_66 rfl hl (by decide) rfl (fun ls hl => ?_)
                  refine lv_iinc (pc := 67) (v := nI (i + 1)) (lv' := [(2, .int (nI (i + 1))), (1, .int 0), (0, .ref o)]) hx hb dX8_plan_67 hl (k := 2) rfl (nI_add (i) 1) (by decide) rfl (fun ls hl => ?_)
                  refine lv_goto (pc := 70) (tgt := 24) hx hb dX8_plan_70 (by decide) ?_
                  exact ih_lp_13 (i + 1) false (by omega) (by omega) (by symm; apply decide_eq_false; rintro ⟨-, -, q3⟩; have q4 : (allB (planOk (r 15) (z 1)) i && planOk (r 15) (z 1) i) = true := q3; rw [planOk, decide_eq_false (fun q => q.elim c_21 c_22), Bool.and_false] at q4; cases q4) _ _ hP hD hS ls (lv_sub hl [2, 1, 0] rfl)
                · skip
                  refine lv_iconst (pc := 61) (v := 1) hx hb dX8_plan_61 (by decide) ?_
                  refine lv_goto (pc := 62) (tgt := 66) hx hb dX8_plan_62 (by decide) ?_
                  refine lv_istore_n (pc := 66) (lv' := [(1, .int 1), (0, .ref o), (2, .int (nI i))]) hx hb dX8_plan_66 rfl hl (by decide) rfl (fun ls hl => ?_)
                  refine lv_iinc (pc := 67) (v := nI (i + 1)) (lv' := [(2, .int (nI (i + 1))), (1, .int 1), (0, .ref o)]) hx hb dX8_plan_67 hl (k := 2) rfl (nI_add (i) 1) (by decide) rfl (fun ls hl => ?_)
                  refine lv_goto (pc := 70) (tgt := 24) hx hb dX8_plan_70 (by decide) ?_
                  exact ih_lp_13 (i + 1) true (by omega) (by omega) (by have q := of_decide_eq_true (hb9.symm.trans c_19); symm; apply decide_eq_true; refine ⟨q.1, q.2.1, ?_⟩; show (allB (planOk (r 15) (z 1)) i && planOk (r 15) (z 1) i) = true; rw [q.2.2, planOk, decide_eq_true (Or.inr c_22)]; rfl) _ _ hP hD hS ls (lv_sub hl [2, 1, 0] rfl)
      exact lp_13 _ 0 false (Nat.lt_succ_self _) (by omega) (by symm; apply decide_eq_false; rintro ⟨q1, q2, -⟩; omega) _ _ hP hD hS ls (lv_sub hl [2, 1, 0] rfl)
    · skip
      have c_12n : pn = 12 := (nI_eq (a := pn) (b := 12) (by omega) (by omega)).mp c_12
      refine lv_iconst (pc := 16) (v := 1) hx hb dX8_plan_16 (by decide) ?_
      refine lv_goto (pc := 17) (tgt := 21) hx hb dX8_plan_17 (by decide) ?_
      refine lv_istore_n (pc := 21) (lv' := [(1, .int 1), (0, .ref o)]) hx hb dX8_plan_21 rfl hl (by decide) rfl (fun ls hl => ?_)
      refine lv_iconst (pc := 22) (v := 0) hx hb dX8_plan_22 (by decide) ?_
      refine lv_istore_n (pc := 23) (lv' := [(2, .int 0), (1, .int 1), (0, .ref o)]) hx hb dX8_plan_23 rfl hl (by decide) rfl (fun ls hl => ?_)
      have lp_23 : ∀ (fuel : Nat) (i : Nat) (b9 : Bool), 12 - i < fuel → (i ≤ 12) → (b9 = decide (0 < n ∧ pn = 12 ∧ allB (planOk (r 15) (z 1)) i = true)) → ∀ (H : Heap) (locs : List Loc), va_P D vwCl (wR kB kI o a z g r) H → va_D A (wR kB kI o a z g r) → va_S A s.heap H locs → ∀ (ls : Array Slot), lv_has ls 3 [(0, .ref o), (1, .int (bi (b9 = true))), (2, .int (nI i))] → W p l e (rmO 2 43) s m args below meth c0 H locs 0 0 Q (F0 m 24 ls []) := by
        intro fuel
        induction fuel with
        | zero => intro i b9 hfuel; exact absurd hfuel (Nat.not_lt_zero _)
        | succ fuel ih_lp_23 =>
          intro i b9 hfuel hi hb9 H locs hP hD hS ls hl
          refine lv_iload_n (pc := 24) hx hb dX8_plan_24 rfl (lv_at hl 2 rfl) ?_
          refine lv_bipush (pc := 25) (v := 12) hx hb dX8_plan_25 (by decide) ?_
          refine lv_icmp_ge (pc := 27) (tgt := 73) hx hb dX8_plan_27 (by decide) (fun c_24 => ?_) (fun c_24 => ?_)
          · skip
            have c_24n : 12 ≤ i := (nI_leI (a := 12) (b := i) (by omega) (by omega)).mp c_24
            refine lv_iload_n (pc := 73) hx hb dX8_plan_73 rfl (lv_at hl 1 rfl) ?_
            refine bif_ne (pc := 74) (tgt := 80) hx hb dX8_plan_74 (by decide) (fun c_25 => ?_) (fun c_25 => ?_)
            · skip
              have hall : 0 < n ∧ pn = 12 ∧ allB (planOk (r 15) (z 1)) 12 = true := by have q := of_decide_eq_true (hb9.symm.trans c_25); rw [show (12 : Nat) = i by omega]; rw [show i = 12 by omega] at q ⊢; exact q
              refine lv_iconst (pc := 80) (v := 0) hx hb dX8_plan_80 (by decide) ?_
              refine lv_istore_n (pc := 81) (lv' := [(2, .int 0), (0, .ref o), (1, .int (bi (b9 = true)))]) hx hb dX8_plan_81 rfl hl (by decide) rfl (fun ls hl => ?_)
              have lp_26 : ∀ (fuel : Nat) (j : Nat), 12 - j < fuel → (j ≤ 12) → ∀ (H : Heap) (locs : List Loc), va_P D vwCl (wR kB kI o a z g (va_up r 8 (ovN (r 8) (planF (r 15)) j))) H → va_D A (wR kB kI o a z g (va_up r 8 (ovN (r 8) (planF (r 15)) j))) → va_S A s.heap H locs → ∀ (ls : Array Slot), lv_has ls 3 [(0, .ref o), (2, .int (nI j))] → W p l e (rmO 2 43) s m args below meth c0 H locs 0 0 Q (F0 m 82 ls []) := by
                intro fuel
                induction fuel with
                | zero => intro j hfuel; exact absurd hfuel (Nat.not_lt_zero _)
                | succ fuel ih_lp_26 =>
                  intro j hfuel hj H locs hP hD hS ls hl
                  refine lv_iload_n (pc := 82) hx hb dX8_plan_82 rfl (lv_at hl 1 rfl) ?_
                  refine lv_bipush (pc := 83) (v := 12) hx hb dX8_plan_83 (by decide) ?_
                  refine lv_icmp_ge (pc := 85) (tgt := 124) hx hb dX8_plan_85 (by decide) (fun c_27 => ?_) (fun c_27 => ?_)
                  · skip
                    have c_27n : 12 ≤ j := (nI_leI (a := 12) (b := j) (by omega) (by omega)).mp c_27
                    have hws_j : j = 12 := by omega
                    rw [hws_j] at hP hD
                    refine lv_aload_n (pc := 124) hx hb dX8_plan_124 rfl (lv_at hl 0 rfl) ?_
                    refine lv_iconst (pc := 125) (v := 0) hx hb dX8_plan_125 (by decide) ?_
                    refine fput (pc := 126) (v := .int 0) hx hb hts hown hE hP hD hS fp_X8_90 0 rfl rfl rfl (Nat.le_of_ble_eq_true rfl) dX8_plan_126 (fun H locs hP hD hS => ?_)
                    have hP : va_P D vwCl (wR kB kI o a (va_up z 14 0) g (va_up r 8 (ovN (r 8) (planF (r 15)) 12))) H := hP
                    have hD : va_D A (wR kB kI o a (va_up z 14 0) g (va_up r 8 (ovN (r 8) (planF (r 15)) 12))) := hD
                    refine lv_aload_n (pc := 129) hx hb dX8_plan_129 rfl (lv_at hl 0 rfl) ?_
                    refine rV (pc := 130) (rest := []) ⟨hx, hb, hml, hown, hts⟩ (k_X8_nightsOn (z := (va_up z 14 0)) (g := g) (r := (va_up r 8 (ovN (r 8) (planF (r 15)) 12)))) cw_X8_137 ⟨(Nat.le_of_ble_eq_true rfl), (Nat.le_of_ble_eq_true rfl)⟩ hE hS hP rfl rfl rfl rfl hl.1 rfl (Nat.le_of_ble_eq_true rfl) dX8_plan_130 ⟨Nat.le_refl _, Nat.le_refl _⟩ ?_
                    refine W.eq (g2 := F0 m 133 ls [.int (nI (nOn ((ovN (r 8) (planF (r 15)) 12)) 12))]) rfl ?_
                    have hfn : R_plan z g r n pn = (nI (nOn ((ovN (r 8) (planF (r 15)) 12)) 12), (va_up z 14 0), g, (va_up r 8 (ovN (r 8) (planF (r 15)) 12))) := by rw [R_plan, if_pos hall]
                    rw [hQ]; exact W.iret (pc := 133) hx hb hr (fun t9 ht _ => ⟨⟨retI (by rw [hfn]), by rw [ht, hfn]; exact (show va_P D vwCl (wR kB kI o a (va_up z 14 0) g (va_up r 8 (ovN (r 8) (planF (r 15)) 12))) _ from hP)⟩, hS.F ht⟩) hS.2.2 dX8_plan_133 hlocks
                  · skip
                    have c_27n : ¬ 12 ≤ j := fun hh => c_27 ((nI_leI (a := 12) (b := j) (by omega) (by omega)).mpr hh)
                    refine lv_aload_n (pc := 88) hx hb dX8_plan_88 rfl (lv_at hl 0 rfl) ?_
                    refine fget (pc := 89) (v := .ref (a 8)) hx hb hts hown hE hP fl_X8_28 0 rfl rfl dX8_plan_89 ?_
                    refine lv_iload_n (pc := 92) hx hb dX8_plan_92 rfl (lv_at hl 1 rfl) ?_
                    refine lv_aload_n (pc := 93) hx hb dX8_plan_93 rfl (lv_at hl 0 rfl) ?_
                    refine fget (pc := 94) (v := .ref (a 15)) hx hb hts hown hE hP fl_X8_40 0 rfl rfl dX8_plan_94 ?_
                    refine lv_iload_n (pc := 97) hx hb dX8_plan_97 rfl (lv_at hl 1 rfl) ?_
                    refine aldB (pc := 98) (f := r 15) hx hb hE hP 11 rfl (j) (by omega) (by omega) dX8_plan_98 ?_
                    refine lv_bipush (pc := 99) (v := 46) hx hb dX8_plan_99 (by decide) ?_
                    refine lv_icmp_ne (pc := 101) (tgt := 108) hx hb dX8_plan_101 (by decide) (fun c_28 => ?_) (fun c_28 => ?_)
                    · skip
                      refine lv_aload_n (pc := 108) hx hb dX8_plan_108 rfl (lv_at hl 0 rfl) ?_
                      refine fget (pc := 109) (v := .ref (a 15)) hx hb hts hown hE hP fl_X8_40 0 rfl rfl dX8_plan_109 ?_
                      refine lv_iload_n (pc := 112) hx hb dX8_plan_112 rfl (lv_at hl 1 rfl) ?_
                      refine aldB (pc := 113) (f := r 15) hx hb hE hP 11 rfl (j) (by omega) (by omega) dX8_plan_113 ?_
                      refine lv_bipush (pc := 114) (v := 48) hx hb dX8_plan_114 (by decide) ?_
                      refine lv_isub (pc := 116) hx hb dX8_plan_116 ?_
                      refine astN (pc := 117) (f := ovN (r 8) (planF (r 15)) j) hx hb hE hP hD hS 7 rfl (j) (by omega) (by omega) dX8_plan_117 (fun H locs hP hD hS => ?_)
                      have hP : va_P D vwCl (wR kB kI o a z g (va_up r 8 (upd (ovN (r 8) (planF (r 15)) j) j (((r 15) j) - 48)))) H := hP
                      have hD : va_D A (wR kB kI o a z g (va_up r 8 (upd (ovN (r 8) (planF (r 15)) j) j (((r 15) j) - 48)))) := hD
                      refine lv_iinc (pc := 118) (v := nI (j + 1)) (lv' := [(2, .int (nI (j + 1))), (0, .ref o)]) hx hb dX8_plan_118 hl (k := 1) rfl (nI_add (j) 1) (by decide) rfl (fun ls hl => ?_)
                      refine lv_goto (pc := 121) (tgt := 82) hx hb dX8_plan_121 (by decide) ?_
                      exact ih_lp_26 (j + 1) (by omega) (by omega) _ _ (by rw [← ovN_sv _ _ _ (show r 15 j - 48 = planF (r 15) j by rw [planF, if_neg c_28])]; exact hP) (by rw [← ovN_sv _ _ _ (show r 15 j - 48 = planF (r 15) j by rw [planF, if_neg c_28])]; exact hD) hS ls (lv_sub hl [1, 0] rfl)
                    · skip
                      refine lv_iconst (pc := 104) (v := (-1)) hx hb dX8_plan_104 (by decide) ?_
                      refine lv_goto (pc := 105) (tgt := 117) hx hb dX8_plan_105 (by decide) ?_
                      refine astN (pc := 117) (f := ovN (r 8) (planF (r 15)) j) hx hb hE hP hD hS 7 rfl (j) (by omega) (by omega) dX8_plan_117 (fun H locs hP hD hS => ?_)
                      have hP : va_P D vwCl (wR kB kI o a z g (va_up r 8 (upd (ovN (r 8) (planF (r 15)) j) j (-1)))) H := hP
                      have hD : va_D A (wR kB kI o a z g (va_up r 8 (upd (ovN (r 8) (planF (r 15)) j) j (-1)))) := hD
                      refine lv_iinc (pc := 118) (v := nI (j + 1)) (lv' := [(2, .int (nI (j + 1))), (0, .ref o)]) hx hb dX8_plan_118 hl (k := 1) rfl (nI_add (j) 1) (by decide) rfl (fun ls hl => ?_)
                      refine lv_goto (pc := 121) (tgt := 82) hx hb dX8_plan_121 (by decide) ?_
                      exact ih_lp_26 (j + 1) (by omega) (by omega) _ _ (by rw [← ovN_sv _ _ _ (show -1 = planF (r 15) j by rw [planF, if_pos c_28])]; exact hP) (by rw [← ovN_sv _ _ _ (show -1 = planF (r 15) j by rw [planF, if_pos c_28])]; exact hD) hS ls (lv_sub hl [1, 0] rfl)
              exact lp_26 _ 0 (Nat.lt_succ_self _) (by omega) _ _ (by rw [ovN_0, va_up_same]; exact hP) (by rw [ovN_0, va_up_same]; exact hD) hS ls (lv_sub hl [1, 0] rfl)
            · skip
              refine lv_bipush (pc := 77) (v := (-103)) hx hb dX8_plan_77 (by decide) ?_
              have hfn : R_plan z g r n pn = ((-103), z, g, r) := by rw [R_plan, if_neg (fun q => c_25 (hb9.trans (decide_eq_true ⟨q.1, q.2.1, allB_mono (by omega) q.2.2⟩)))]
              rw [hQ]; exact W.iret (pc := 79) hx hb hr (fun t9 ht _ => ⟨⟨retI (by rw [hfn]), by rw [ht, hfn]; exact (show va_P D vwCl (wR kB kI o a z g r) _ from hP)⟩, hS.F ht⟩) hS.2.2 dX8_plan_79 hlocks
          · skip
            have c_24n : ¬ 12 ≤ i := fun hh => c_24 ((nI_leI (a := 12) (b := i) (by omega) (by omega)).mpr hh)
            refine lv_iload_n (pc := 30) hx hb dX8_plan_30 rfl (lv_at hl 1 rfl) ?_
            refine bif_eq (pc := 31) (tgt := 73) hx hb dX8_plan_31 (by decide) (fun c_29 => ?_) (fun c_29 => ?_)
            · skip
              refine lv_iload_n (pc := 73) hx hb dX8_plan_73 rfl (lv_at hl 1 rfl) ?_
              refine bif_ne (pc := 74) (tgt := 80) hx hb dX8_plan_74 (by decide) (fun c_30 => ?_) (fun c_30 => ?_)
              · exact absurd c_30 c_29
              · skip
                refine lv_bipush (pc := 77) (v := (-103)) hx hb dX8_plan_77 (by decide) ?_
                have hfn : R_plan z g r n pn = ((-103), z, g, r) := by rw [R_plan, if_neg (fun q => c_30 (hb9.trans (decide_eq_true ⟨q.1, q.2.1, allB_mono (by omega) q.2.2⟩)))]
                rw [hQ]; exact W.iret (pc := 79) hx hb hr (fun t9 ht _ => ⟨⟨retI (by rw [hfn]), by rw [ht, hfn]; exact (show va_P D vwCl (wR kB kI o a z g r) _ from hP)⟩, hS.F ht⟩) hS.2.2 dX8_plan_79 hlocks
            · skip
              refine lv_aload_n (pc := 34) hx hb dX8_plan_34 rfl (lv_at hl 0 rfl) ?_
              refine fget (pc := 35) (v := .ref (a 15)) hx hb hts hown hE hP fl_X8_40 0 rfl rfl dX8_plan_35 ?_
              refine lv_iload_n (pc := 38) hx hb dX8_plan_38 rfl (lv_at hl 2 rfl) ?_
              refine aldB (pc := 39) (f := r 15) hx hb hE hP 11 rfl (i) (by omega) (by omega) dX8_plan_39 ?_
              refine lv_bipush (pc := 40) (v := 46) hx hb dX8_plan_40 (by decide) ?_
              refine lv_icmp_eq (pc := 42) (tgt := 61) hx hb dX8_plan_42 (by decide) (fun c_31 => ?_) (fun c_31 => ?_)
              · skip
                refine lv_iconst (pc := 61) (v := 1) hx hb dX8_plan_61 (by decide) ?_
                refine lv_goto (pc := 62) (tgt := 66) hx hb dX8_plan_62 (by decide) ?_
                refine lv_istore_n (pc := 66) (lv' := [(1, .int 1), (0, .ref o), (2, .int (nI i))]) hx hb dX8_plan_66 rfl hl (by decide) rfl (fun ls hl => ?_)
                refine lv_iinc (pc := 67) (v := nI (i + 1)) (lv' := [(2, .int (nI (i + 1))), (1, .int 1), (0, .ref o)]) hx hb dX8_plan_67 hl (k := 2) rfl (nI_add (i) 1) (by decide) rfl (fun ls hl => ?_)
                refine lv_goto (pc := 70) (tgt := 24) hx hb dX8_plan_70 (by decide) ?_
                exact ih_lp_23 (i + 1) true (by omega) (by omega) (by have q := of_decide_eq_true (hb9.symm.trans c_29); symm; apply decide_eq_true; refine ⟨q.1, q.2.1, ?_⟩; show (allB (planOk (r 15) (z 1)) i && planOk (r 15) (z 1) i) = true; rw [q.2.2, planOk, decide_eq_true (Or.inl c_31)]; rfl) _ _ hP hD hS ls (lv_sub hl [2, 1, 0] rfl)
              · skip
                refine lv_aload_n (pc := 45) hx hb dX8_plan_45 rfl (lv_at hl 0 rfl) ?_
                refine lv_aload_n (pc := 46) hx hb dX8_plan_46 rfl (lv_at hl 0 rfl) ?_
                refine fget (pc := 47) (v := .ref (a 15)) hx hb hts hown hE hP fl_X8_40 0 rfl rfl dX8_plan_47 ?_
                refine lv_iload_n (pc := 50) hx hb dX8_plan_50 rfl (lv_at hl 2 rfl) ?_
                refine aldB (pc := 51) (f := r 15) hx hb hE hP 11 rfl (i) (by omega) (by omega) dX8_plan_51 ?_
                refine lv_bipush (pc := 52) (v := 48) hx hb dX8_plan_52 (by decide) ?_
                refine lv_isub (pc := 54) hx hb dX8_plan_54 ?_
                refine rV (pc := 55) (rest := []) ⟨hx, hb, hml, hown, hts⟩ (k_X8_isTitle (t := ((r 15) i) - 48) (z := z) (g := g) (r := r)) cw_X8_133 ⟨(Nat.le_of_ble_eq_true rfl), (Nat.le_of_ble_eq_true rfl)⟩ hE hS hP rfl rfl rfl rfl hl.1 rfl (Nat.le_of_ble_eq_true rfl) dX8_plan_55 ⟨Nat.le_refl _, Nat.le_refl _⟩ ?_
                refine W.eq (g2 := F0 m 58 ls [.int (bi (inR (((r 15) i) - 48) 0 ((z 1) - 1)))]) rfl ?_
                refine bif_eq (pc := 58) (tgt := 65) hx hb dX8_plan_58 (by decide) (fun c_32 => ?_) (fun c_32 => ?_)
                · skip
                  refine lv_iconst (pc := 65) (v := 0) hx hb dX8_plan_65 (by decide) ?_
                  refine lv_istore_n (pc := 66) (lv' := [(1, .int 0), (0, .ref o), (2, .int (nI i))]) hx hb dX8_plan_66 rfl hl (by decide) rfl (fun ls hl => ?_)
                  refine lv_iinc (pc := 67) (v := nI (i + 1)) (lv' := [(2, .int (nI (i + 1))), (1, .int 0), (0, .ref o)]) hx hb dX8_plan_67 hl (k := 2) rfl (nI_add (i) 1) (by decide) rfl (fun ls hl => ?_)
                  refine lv_goto (pc := 70) (tgt := 24) hx hb dX8_plan_70 (by decide) ?_
                  exact ih_lp_23 (i + 1) false (by omega) (by omega) (by symm; apply decide_eq_false; rintro ⟨-, -, q3⟩; have q4 : (allB (planOk (r 15) (z 1)) i && planOk (r 15) (z 1) i) = true := q3; rw [planOk, decide_eq_false (fun q => q.elim c_31 c_32), Bool.and_false] at q4; cases q4) _ _ hP hD hS ls (lv_sub hl [2, 1, 0] rfl)
                · skip
                  refine lv_iconst (pc := 61) (v := 1) hx hb dX8_plan_61 (by decide) ?_
                  refine lv_goto (pc := 62) (tgt := 66) hx hb dX8_plan_62 (by decide) ?_
                  refine lv_istore_n (pc := 66) (lv' := [(1, .int 1), (0, .ref o), (2, .int (nI i))]) hx hb dX8_plan_66 rfl hl (by decide) rfl (fun ls hl => ?_)
                  refine lv_iinc (pc := 67) (v := nI (i + 1)) (lv' := [(2, .int (nI (i + 1))), (1, .int 1), (0, .ref o)]) hx hb dX8_plan_67 hl (k := 2) rfl (nI_add (i) 1) (by decide) rfl (fun ls hl => ?_)
                  refine lv_goto (pc := 70) (tgt := 24) hx hb dX8_plan_70 (by decide) ?_
                  exact ih_lp_23 (i + 1) true (by omega) (by omega) (by have q := of_decide_eq_true (hb9.symm.trans c_29); symm; apply decide_eq_true; refine ⟨q.1, q.2.1, ?_⟩; show (allB (planOk (r 15) (z 1)) i && planOk (r 15) (z 1) i) = true; rw [q.2.2, planOk, decide_eq_true (Or.inr c_32)]; rfl) _ _ hP hD hS ls (lv_sub hl [2, 1, 0] rfl)
      exact lp_23 _ 0 true (Nat.lt_succ_self _) (by omega) (by simp [allB]; omega) _ _ hP hD hS ls (lv_sub hl [2, 1, 0] rfl)
set_option maxRecDepth 100000 in
set_option maxHeartbeats 4000000 in
theorem k_X8_image {o : Nat} {a : Nat → Nat} {z : Nat → Int32} {g : Nat → Int64} {r : Nat → Nat → Int32} {n : Nat} (hz1 : z 1 = nI n) (hn5 : n ≤ 5) : MW l yX8_image cX8_image 2 (some .int) 0 0 D kB kI kT ks sk sv [.ref o] (wR kB kI o a z g r) (some (.int ((R_image z g r n).1))) (wR kB kI o a (R_image z g r n).2.1 (R_image z g r n).2.2.1 (R_image z g r n).2.2.2) := by
  refine MW.go (by decide +kernel) (Nat.le_of_ble_eq_true rfl) ?_
  intro p e s m below meth c0 args Q ls A hQ hx hb hr hml hown hts hlocks hE hP hD hS hl
  have hl : lv_has ls 2 [(0, .ref o)] := hl
  have hown : s.vm.findClass RX8 = some m.cls := hown
  refine lv_aload_n (pc := 0) hx hb dX8_image_0 rfl (lv_at hl 0 rfl) ?_
  refine fget (pc := 1) (v := .int (z 1)) hx hb hts hown hE hP fl_X8_124 0 rfl rfl dX8_image_1 ?_
  refine lv_if_ne (pc := 4) (tgt := 10) hx hb dX8_image_4 (by decide) (fun c_1 => ?_) (fun c_1 => ?_)
  · skip
    have c_1n : ¬ n = 0 := fun q => c_1 (by rw [hz1, q]; rfl)
    refine lv_aload_n (pc := 10) hx hb dX8_image_10 rfl (lv_at hl 0 rfl) ?_
    refine lv_iconst (pc := 11) (v := 1) hx hb dX8_image_11 (by decide) ?_
    refine fput (pc := 12) (v := .int 1) hx hb hts hown hE hP hD hS fp_X8_260 0 rfl rfl rfl (Nat.le_of_ble_eq_true rfl) dX8_image_12 (fun H locs hP hD hS => ?_)
    have hP : va_P D vwCl (wR kB kI o a (va_up z 27 1) g r) H := hP
    have hD : va_D A (wR kB kI o a (va_up z 27 1) g r) := hD
    refine lv_aload_n (pc := 15) hx hb dX8_image_15 rfl (lv_at hl 0 rfl) ?_
    refine lv_aload_n (pc := 16) hx hb dX8_image_16 rfl (lv_at hl 0 rfl) ?_
    refine fget (pc := 17) (v := .int (z 0)) hx hb hts hown hE hP fl_X8_127 0 rfl rfl dX8_image_17 ?_
    refine fput (pc := 20) (v := .int (z 0)) hx hb hts hown hE hP hD hS fp_X8_263 0 rfl rfl rfl (Nat.le_of_ble_eq_true rfl) dX8_image_20 (fun H locs hP hD hS => ?_)
    have hP : va_P D vwCl (wR kB kI o a (va_up (va_up z 27 1) 28 (z 0)) g r) H := hP
    have hD : va_D A (wR kB kI o a (va_up (va_up z 27 1) 28 (z 0)) g r) := hD
    refine lv_aload_n (pc := 23) hx hb dX8_image_23 rfl (lv_at hl 0 rfl) ?_
    refine lv_aload_n (pc := 24) hx hb dX8_image_24 rfl (lv_at hl 0 rfl) ?_
    refine fget (pc := 25) (v := .int (z 1)) hx hb hts hown hE hP fl_X8_124 0 rfl rfl dX8_image_25 ?_
    refine fput (pc := 28) (v := .int (z 1)) hx hb hts hown hE hP hD hS fp_X8_266 0 rfl rfl rfl (Nat.le_of_ble_eq_true rfl) dX8_image_28 (fun H locs hP hD hS => ?_)
    have hP : va_P D vwCl (wR kB kI o a (va_up (va_up (va_up z 27 1) 28 (z 0)) 29 (z 1)) g r) H := hP
    have hD : va_D A (wR kB kI o a (va_up (va_up (va_up z 27 1) 28 (z 0)) 29 (z 1)) g r) := hD
    refine lv_aload_n (pc := 31) hx hb dX8_image_31 rfl (lv_at hl 0 rfl) ?_
    refine lv_aload_n (pc := 32) hx hb dX8_image_32 rfl (lv_at hl 0 rfl) ?_
    refine fget (pc := 33) (v := .int (z 10)) hx hb hts hown hE hP fl_X8_130 0 rfl rfl dX8_image_33 ?_
    refine fput (pc := 36) (v := .int (z 10)) hx hb hts hown hE hP hD hS fp_X8_269 0 rfl rfl rfl (Nat.le_of_ble_eq_true rfl) dX8_image_36 (fun H locs hP hD hS => ?_)
    have hP : va_P D vwCl (wR kB kI o a (va_up (va_up (va_up (va_up z 27 1) 28 (z 0)) 29 (z 1)) 30 (z 10)) g r) H := hP
    have hD : va_D A (wR kB kI o a (va_up (va_up (va_up (va_up z 27 1) 28 (z 0)) 29 (z 1)) 30 (z 10)) g r) := hD
    refine lv_iconst (pc := 39) (v := 0) hx hb dX8_image_39 (by decide) ?_
    refine lv_istore_n (pc := 40) (lv' := [(1, .int 0), (0, .ref o)]) hx hb dX8_image_40 rfl hl (by decide) rfl (fun ls hl => ?_)
    have lp_2 : ∀ (fuel : Nat) (i : Nat), 5 - i < fuel → (i ≤ 5) → ∀ (H : Heap) (locs : List Loc), va_P D vwCl (wR kB kI o a (va_up (va_up (va_up (va_up z 27 1) 28 (z 0)) 29 (z 1)) 30 (z 10)) g (va_up (va_up (va_up (va_up (va_up (va_up r 31 (ovN (r 31) (r 2) i)) 32 (ovN (r 32) (r 3) i)) 33 (ovN (r 33) (r 4) i)) 34 (ovN (r 34) (r 5) i)) 35 (ovN (r 35) (r 6) i)) 36 (ovN (r 36) (r 7) i))) H → va_D A (wR kB kI o a (va_up (va_up (va_up (va_up z 27 1) 28 (z 0)) 29 (z 1)) 30 (z 10)) g (va_up (va_up (va_up (va_up (va_up (va_up r 31 (ovN (r 31) (r 2) i)) 32 (ovN (r 32) (r 3) i)) 33 (ovN (r 33) (r 4) i)) 34 (ovN (r 34) (r 5) i)) 35 (ovN (r 35) (r 6) i)) 36 (ovN (r 36) (r 7) i))) → va_S A s.heap H locs → ∀ (ls : Array Slot), lv_has ls 2 [(0, .ref o), (1, .int (nI i))] → W p l e (rmO 0 0) s m args below meth c0 H locs 0 0 Q (F0 m 41 ls []) := by
      intro fuel
      induction fuel with
      | zero => intro i hfuel; exact absurd hfuel (Nat.not_lt_zero _)
      | succ fuel ih_lp_2 =>
        intro i hfuel hi H locs hP hD hS ls hl
        refine lv_iload_n (pc := 41) hx hb dX8_image_41 rfl (lv_at hl 1 rfl) ?_
        refine lv_iconst (pc := 42) (v := 5) hx hb dX8_image_42 (by decide) ?_
        refine lv_icmp_ge (pc := 43) (tgt := 124) hx hb dX8_image_43 (by decide) (fun c_3 => ?_) (fun c_3 => ?_)
        · skip
          have c_3n : 5 ≤ i := (nI_leI (a := 5) (b := i) (by omega) (by omega)).mp c_3
          have hws_i : i = 5 := by omega
          rw [hws_i] at hP hD
          refine lv_iconst (pc := 124) (v := 0) hx hb dX8_image_124 (by decide) ?_
          refine lv_istore_n (pc := 125) (lv' := [(1, .int 0), (0, .ref o)]) hx hb dX8_image_125 rfl hl (by decide) rfl (fun ls hl => ?_)
          have lp_4 : ∀ (fuel : Nat) (j : Nat), 12 - j < fuel → (j ≤ 12) → ∀ (H : Heap) (locs : List Loc), va_P D vwCl (wR kB kI o a (va_up (va_up (va_up (va_up z 27 1) 28 (z 0)) 29 (z 1)) 30 (z 10)) g (va_up (va_up (va_up (va_up (va_up (va_up (va_up r 31 (ovN (r 31) (r 2) 5)) 32 (ovN (r 32) (r 3) 5)) 33 (ovN (r 33) (r 4) 5)) 34 (ovN (r 34) (r 5) 5)) 35 (ovN (r 35) (r 6) 5)) 36 (ovN (r 36) (r 7) 5)) 37 (ovN (r 37) (r 8) j))) H → va_D A (wR kB kI o a (va_up (va_up (va_up (va_up z 27 1) 28 (z 0)) 29 (z 1)) 30 (z 10)) g (va_up (va_up (va_up (va_up (va_up (va_up (va_up r 31 (ovN (r 31) (r 2) 5)) 32 (ovN (r 32) (r 3) 5)) 33 (ovN (r 33) (r 4) 5)) 34 (ovN (r 34) (r 5) 5)) 35 (ovN (r 35) (r 6) 5)) 36 (ovN (r 36) (r 7) 5)) 37 (ovN (r 37) (r 8) j))) → va_S A s.heap H locs → ∀ (ls : Array Slot), lv_has ls 2 [(0, .ref o), (1, .int (nI j))] → W p l e (rmO 0 0) s m args below meth c0 H locs 0 0 Q (F0 m 126 ls []) := by
            intro fuel
            induction fuel with
            | zero => intro j hfuel; exact absurd hfuel (Nat.not_lt_zero _)
            | succ fuel ih_lp_4 =>
              intro j hfuel hj H locs hP hD hS ls hl
              refine lv_iload_n (pc := 126) hx hb dX8_image_126 rfl (lv_at hl 1 rfl) ?_
              refine lv_bipush (pc := 127) (v := 12) hx hb dX8_image_127 (by decide) ?_
              refine lv_icmp_ge (pc := 129) (tgt := 150) hx hb dX8_image_129 (by decide) (fun c_5 => ?_) (fun c_5 => ?_)
              · skip
                have c_5n : 12 ≤ j := (nI_leI (a := 12) (b := j) (by omega) (by omega)).mp c_5
                have hws_j : j = 12 := by omega
                rw [hws_j] at hP hD
                refine lv_iconst (pc := 150) (v := 0) hx hb dX8_image_150 (by decide) ?_
                refine lv_istore_n (pc := 151) (lv' := [(1, .int 0), (0, .ref o)]) hx hb dX8_image_151 rfl hl (by decide) rfl (fun ls hl => ?_)
                have lp_6 : ∀ (fuel : Nat) (k : Nat), 6 - k < fuel → (k ≤ 6) → ∀ (H : Heap) (locs : List Loc), va_P D vwCl (wR kB kI o a (va_up (va_up (va_up (va_up z 27 1) 28 (z 0)) 29 (z 1)) 30 (z 10)) g (va_up (va_up (va_up (va_up (va_up (va_up (va_up (va_up (va_up (va_up r 31 (ovN (r 31) (r 2) 5)) 32 (ovN (r 32) (r 3) 5)) 33 (ovN (r 33) (r 4) 5)) 34 (ovN (r 34) (r 5) 5)) 35 (ovN (r 35) (r 6) 5)) 36 (ovN (r 36) (r 7) 5)) 37 (ovN (r 37) (r 8) 12)) 38 (ovN (r 38) (r 11) k)) 39 (ovN (r 39) (r 12) k)) 40 (ovN (r 40) (r 13) k))) H → va_D A (wR kB kI o a (va_up (va_up (va_up (va_up z 27 1) 28 (z 0)) 29 (z 1)) 30 (z 10)) g (va_up (va_up (va_up (va_up (va_up (va_up (va_up (va_up (va_up (va_up r 31 (ovN (r 31) (r 2) 5)) 32 (ovN (r 32) (r 3) 5)) 33 (ovN (r 33) (r 4) 5)) 34 (ovN (r 34) (r 5) 5)) 35 (ovN (r 35) (r 6) 5)) 36 (ovN (r 36) (r 7) 5)) 37 (ovN (r 37) (r 8) 12)) 38 (ovN (r 38) (r 11) k)) 39 (ovN (r 39) (r 12) k)) 40 (ovN (r 40) (r 13) k))) → va_S A s.heap H locs → ∀ (ls : Array Slot), lv_has ls 2 [(0, .ref o), (1, .int (nI k))] → W p l e (rmO 0 0) s m args below meth c0 H locs 0 0 Q (F0 m 152 ls []) := by
                  intro fuel
                  induction fuel with
                  | zero => intro k hfuel; exact absurd hfuel (Nat.not_lt_zero _)
                  | succ fuel ih_lp_6 =>
                    intro k hfuel hk H locs hP hD hS ls hl
                    refine lv_iload_n (pc := 152) hx hb dX8_image_152 rfl (lv_at hl 1 rfl) ?_
                    refine lv_bipush (pc := 153) (v := 6) hx hb dX8_image_153 (by decide) ?_
                    refine lv_icmp_ge (pc := 155) (tgt := 200) hx hb dX8_image_155 (by decide) (fun c_7 => ?_) (fun c_7 => ?_)
                    · skip
                      have c_7n : 6 ≤ k := (nI_leI (a := 6) (b := k) (by omega) (by omega)).mp c_7
                      have hws_k : k = 6 := by omega
                      rw [hws_k] at hP hD
                      refine lv_aload_n (pc := 200) hx hb dX8_image_200 rfl (lv_at hl 0 rfl) ?_
                      refine fget (pc := 201) (v := .int (z 1)) hx hb hts hown hE hP fl_X8_124 0 rfl rfl dX8_image_201 ?_
                      have hfn : R_image z g r n = (z 1, (va_up (va_up (va_up (va_up z 27 1) 28 (z 0)) 29 (z 1)) 30 (z 10)), g, (va_up (va_up (va_up (va_up (va_up (va_up (va_up (va_up (va_up (va_up r 31 (ovN (r 31) (r 2) 5)) 32 (ovN (r 32) (r 3) 5)) 33 (ovN (r 33) (r 4) 5)) 34 (ovN (r 34) (r 5) 5)) 35 (ovN (r 35) (r 6) 5)) 36 (ovN (r 36) (r 7) 5)) 37 (ovN (r 37) (r 8) 12)) 38 (ovN (r 38) (r 11) 6)) 39 (ovN (r 39) (r 12) 6)) 40 (ovN (r 40) (r 13) 6))) := by rw [R_image, if_neg c_1n]
                      rw [hQ]; exact W.iret (pc := 204) hx hb hr (fun t9 ht _ => ⟨⟨retI (by rw [hfn]), by rw [ht, hfn]; exact (show va_P D vwCl (wR kB kI o a (va_up (va_up (va_up (va_up z 27 1) 28 (z 0)) 29 (z 1)) 30 (z 10)) g (va_up (va_up (va_up (va_up (va_up (va_up (va_up (va_up (va_up (va_up r 31 (ovN (r 31) (r 2) 5)) 32 (ovN (r 32) (r 3) 5)) 33 (ovN (r 33) (r 4) 5)) 34 (ovN (r 34) (r 5) 5)) 35 (ovN (r 35) (r 6) 5)) 36 (ovN (r 36) (r 7) 5)) 37 (ovN (r 37) (r 8) 12)) 38 (ovN (r 38) (r 11) 6)) 39 (ovN (r 39) (r 12) 6)) 40 (ovN (r 40) (r 13) 6))) _ from hP)⟩, hS.F ht⟩) hS.2.2 dX8_image_204 hlocks
                    · skip
                      have c_7n : ¬ 6 ≤ k := fun hh => c_7 ((nI_leI (a := 6) (b := k) (by omega) (by omega)).mpr hh)
                      refine lv_aload_n (pc := 158) hx hb dX8_image_158 rfl (lv_at hl 0 rfl) ?_
                      refine fget (pc := 159) (v := .ref (a 38)) hx hb hts hown hE hP fl_X8_74 0 rfl rfl dX8_image_159 ?_
                      refine lv_iload_n (pc := 162) hx hb dX8_image_162 rfl (lv_at hl 1 rfl) ?_
                      refine lv_aload_n (pc := 163) hx hb dX8_image_163 rfl (lv_at hl 0 rfl) ?_
                      refine fget (pc := 164) (v := .ref (a 11)) hx hb hts hown hE hP fl_X8_31 0 rfl rfl dX8_image_164 ?_
                      refine lv_iload_n (pc := 167) hx hb dX8_image_167 rfl (lv_at hl 1 rfl) ?_
                      refine aldN (pc := 168) (f := r 11) hx hb hE hP 8 rfl (k) (by omega) (by omega) dX8_image_168 ?_
                      refine astN (pc := 169) (f := ovN (r 38) (r 11) k) hx hb hE hP hD hS 22 rfl (k) (by omega) (by omega) dX8_image_169 (fun H locs hP hD hS => ?_)
                      have hP : va_P D vwCl (wR kB kI o a (va_up (va_up (va_up (va_up z 27 1) 28 (z 0)) 29 (z 1)) 30 (z 10)) g (va_up (va_up (va_up (va_up (va_up (va_up (va_up (va_up (va_up (va_up r 31 (ovN (r 31) (r 2) 5)) 32 (ovN (r 32) (r 3) 5)) 33 (ovN (r 33) (r 4) 5)) 34 (ovN (r 34) (r 5) 5)) 35 (ovN (r 35) (r 6) 5)) 36 (ovN (r 36) (r 7) 5)) 37 (ovN (r 37) (r 8) 12)) 38 (upd (ovN (r 38) (r 11) k) k ((r 11) k))) 39 (ovN (r 39) (r 12) k)) 40 (ovN (r 40) (r 13) k))) H := hP
                      have hD : va_D A (wR kB kI o a (va_up (va_up (va_up (va_up z 27 1) 28 (z 0)) 29 (z 1)) 30 (z 10)) g (va_up (va_up (va_up (va_up (va_up (va_up (va_up (va_up (va_up (va_up r 31 (ovN (r 31) (r 2) 5)) 32 (ovN (r 32) (r 3) 5)) 33 (ovN (r 33) (r 4) 5)) 34 (ovN (r 34) (r 5) 5)) 35 (ovN (r 35) (r 6) 5)) 36 (ovN (r 36) (r 7) 5)) 37 (ovN (r 37) (r 8) 12)) 38 (upd (ovN (r 38) (r 11) k) k ((r 11) k))) 39 (ovN (r 39) (r 12) k)) 40 (ovN (r 40) (r 13) k))) := hD
                      refine lv_aload_n (pc := 170) hx hb dX8_image_170 rfl (lv_at hl 0 rfl) ?_
                      refine fget (pc := 171) (v := .ref (a 39)) hx hb hts hown hE hP fl_X8_77 0 rfl rfl dX8_image_171 ?_
                      refine lv_iload_n (pc := 174) hx hb dX8_image_174 rfl (lv_at hl 1 rfl) ?_
                      refine lv_aload_n (pc := 175) hx hb dX8_image_175 rfl (lv_at hl 0 rfl) ?_
                      refine fget (pc := 176) (v := .ref (a 12)) hx hb hts hown hE hP fl_X8_34 0 rfl rfl dX8_image_176 ?_
                      refine lv_iload_n (pc := 179) hx hb dX8_image_179 rfl (lv_at hl 1 rfl) ?_
                      refine aldN (pc := 180) (f := r 12) hx hb hE hP 9 rfl (k) (by omega) (by omega) dX8_image_180 ?_
                      refine astN (pc := 181) (f := ovN (r 39) (r 12) k) hx hb hE hP hD hS 23 rfl (k) (by omega) (by omega) dX8_image_181 (fun H locs hP hD hS => ?_)
                      have hP : va_P D vwCl (wR kB kI o a (va_up (va_up (va_up (va_up z 27 1) 28 (z 0)) 29 (z 1)) 30 (z 10)) g (va_up (va_up (va_up (va_up (va_up (va_up (va_up (va_up (va_up (va_up r 31 (ovN (r 31) (r 2) 5)) 32 (ovN (r 32) (r 3) 5)) 33 (ovN (r 33) (r 4) 5)) 34 (ovN (r 34) (r 5) 5)) 35 (ovN (r 35) (r 6) 5)) 36 (ovN (r 36) (r 7) 5)) 37 (ovN (r 37) (r 8) 12)) 38 (upd (ovN (r 38) (r 11) k) k ((r 11) k))) 39 (upd (ovN (r 39) (r 12) k) k ((r 12) k))) 40 (ovN (r 40) (r 13) k))) H := hP
                      have hD : va_D A (wR kB kI o a (va_up (va_up (va_up (va_up z 27 1) 28 (z 0)) 29 (z 1)) 30 (z 10)) g (va_up (va_up (va_up (va_up (va_up (va_up (va_up (va_up (va_up (va_up r 31 (ovN (r 31) (r 2) 5)) 32 (ovN (r 32) (r 3) 5)) 33 (ovN (r 33) (r 4) 5)) 34 (ovN (r 34) (r 5) 5)) 35 (ovN (r 35) (r 6) 5)) 36 (ovN (r 36) (r 7) 5)) 37 (ovN (r 37) (r 8) 12)) 38 (upd (ovN (r 38) (r 11) k) k ((r 11) k))) 39 (upd (ovN (r 39) (r 12) k) k ((r 12) k))) 40 (ovN (r 40) (r 13) k))) := hD
                      refine lv_aload_n (pc := 182) hx hb dX8_image_182 rfl (lv_at hl 0 rfl) ?_
                      refine fget (pc := 183) (v := .ref (a 40)) hx hb hts hown hE hP fl_X8_80 0 rfl rfl dX8_image_183 ?_
                      refine lv_iload_n (pc := 186) hx hb dX8_image_186 rfl (lv_at hl 1 rfl) ?_
                      refine lv_aload_n (pc := 187) hx hb dX8_image_187 rfl (lv_at hl 0 rfl) ?_
                      refine fget (pc := 188) (v := .ref (a 13)) hx hb hts hown hE hP fl_X8_37 0 rfl rfl dX8_image_188 ?_
                      refine lv_iload_n (pc := 191) hx hb dX8_image_191 rfl (lv_at hl 1 rfl) ?_
                      refine aldN (pc := 192) (f := r 13) hx hb hE hP 10 rfl (k) (by omega) (by omega) dX8_image_192 ?_
                      refine astN (pc := 193) (f := ovN (r 40) (r 13) k) hx hb hE hP hD hS 24 rfl (k) (by omega) (by omega) dX8_image_193 (fun H locs hP hD hS => ?_)
                      have hP : va_P D vwCl (wR kB kI o a (va_up (va_up (va_up (va_up z 27 1) 28 (z 0)) 29 (z 1)) 30 (z 10)) g (va_up (va_up (va_up (va_up (va_up (va_up (va_up (va_up (va_up (va_up r 31 (ovN (r 31) (r 2) 5)) 32 (ovN (r 32) (r 3) 5)) 33 (ovN (r 33) (r 4) 5)) 34 (ovN (r 34) (r 5) 5)) 35 (ovN (r 35) (r 6) 5)) 36 (ovN (r 36) (r 7) 5)) 37 (ovN (r 37) (r 8) 12)) 38 (upd (ovN (r 38) (r 11) k) k ((r 11) k))) 39 (upd (ovN (r 39) (r 12) k) k ((r 12) k))) 40 (upd (ovN (r 40) (r 13) k) k ((r 13) k)))) H := hP
                      have hD : va_D A (wR kB kI o a (va_up (va_up (va_up (va_up z 27 1) 28 (z 0)) 29 (z 1)) 30 (z 10)) g (va_up (va_up (va_up (va_up (va_up (va_up (va_up (va_up (va_up (va_up r 31 (ovN (r 31) (r 2) 5)) 32 (ovN (r 32) (r 3) 5)) 33 (ovN (r 33) (r 4) 5)) 34 (ovN (r 34) (r 5) 5)) 35 (ovN (r 35) (r 6) 5)) 36 (ovN (r 36) (r 7) 5)) 37 (ovN (r 37) (r 8) 12)) 38 (upd (ovN (r 38) (r 11) k) k ((r 11) k))) 39 (upd (ovN (r 39) (r 12) k) k ((r 12) k))) 40 (upd (ovN (r 40) (r 13) k) k ((r 13) k)))) := hD
                      refine lv_iinc (pc := 194) (v := nI (k + 1)) (lv' := [(1, .int (nI (k + 1))), (0, .ref o)]) hx hb dX8_image_194 hl (k := 1) rfl (nI_add (k) 1) (by decide) rfl (fun ls hl => ?_)
                      refine lv_goto (pc := 197) (tgt := 152) hx hb dX8_image_197 (by decide) ?_
                      exact ih_lp_6 (k + 1) (by omega) (by omega) _ _ (by rw [← ovN_s (r 38) (r 11), ← ovN_s (r 39) (r 12), ← ovN_s (r 40) (r 13)]; exact hP) (by rw [← ovN_s (r 38) (r 11), ← ovN_s (r 39) (r 12), ← ovN_s (r 40) (r 13)]; exact hD) hS ls (lv_sub hl [1, 0] rfl)
                exact lp_6 _ 0 (Nat.lt_succ_self _) (by omega) _ _ (by rw [ovN_0 (r 38) (r 11), ovN_0 (r 39) (r 12), ovN_0 (r 40) (r 13)]; exact hP) (by rw [ovN_0 (r 38) (r 11), ovN_0 (r 39) (r 12), ovN_0 (r 40) (r 13)]; exact hD) hS ls (lv_sub hl [1, 0] rfl)
              · skip
                have c_5n : ¬ 12 ≤ j := fun hh => c_5 ((nI_leI (a := 12) (b := j) (by omega) (by omega)).mpr hh)
                refine lv_aload_n (pc := 132) hx hb dX8_image_132 rfl (lv_at hl 0 rfl) ?_
                refine fget (pc := 133) (v := .ref (a 37)) hx hb hts hown hE hP fl_X8_71 0 rfl rfl dX8_image_133 ?_
                refine lv_iload_n (pc := 136) hx hb dX8_image_136 rfl (lv_at hl 1 rfl) ?_
                refine lv_aload_n (pc := 137) hx hb dX8_image_137 rfl (lv_at hl 0 rfl) ?_
                refine fget (pc := 138) (v := .ref (a 8)) hx hb hts hown hE hP fl_X8_28 0 rfl rfl dX8_image_138 ?_
                refine lv_iload_n (pc := 141) hx hb dX8_image_141 rfl (lv_at hl 1 rfl) ?_
                refine aldN (pc := 142) (f := r 8) hx hb hE hP 7 rfl (j) (by omega) (by omega) dX8_image_142 ?_
                refine astN (pc := 143) (f := ovN (r 37) (r 8) j) hx hb hE hP hD hS 21 rfl (j) (by omega) (by omega) dX8_image_143 (fun H locs hP hD hS => ?_)
                have hP : va_P D vwCl (wR kB kI o a (va_up (va_up (va_up (va_up z 27 1) 28 (z 0)) 29 (z 1)) 30 (z 10)) g (va_up (va_up (va_up (va_up (va_up (va_up (va_up r 31 (ovN (r 31) (r 2) 5)) 32 (ovN (r 32) (r 3) 5)) 33 (ovN (r 33) (r 4) 5)) 34 (ovN (r 34) (r 5) 5)) 35 (ovN (r 35) (r 6) 5)) 36 (ovN (r 36) (r 7) 5)) 37 (upd (ovN (r 37) (r 8) j) j ((r 8) j)))) H := hP
                have hD : va_D A (wR kB kI o a (va_up (va_up (va_up (va_up z 27 1) 28 (z 0)) 29 (z 1)) 30 (z 10)) g (va_up (va_up (va_up (va_up (va_up (va_up (va_up r 31 (ovN (r 31) (r 2) 5)) 32 (ovN (r 32) (r 3) 5)) 33 (ovN (r 33) (r 4) 5)) 34 (ovN (r 34) (r 5) 5)) 35 (ovN (r 35) (r 6) 5)) 36 (ovN (r 36) (r 7) 5)) 37 (upd (ovN (r 37) (r 8) j) j ((r 8) j)))) := hD
                refine lv_iinc (pc := 144) (v := nI (j + 1)) (lv' := [(1, .int (nI (j + 1))), (0, .ref o)]) hx hb dX8_image_144 hl (k := 1) rfl (nI_add (j) 1) (by decide) rfl (fun ls hl => ?_)
                refine lv_goto (pc := 147) (tgt := 126) hx hb dX8_image_147 (by decide) ?_
                exact ih_lp_4 (j + 1) (by omega) (by omega) _ _ (by rw [← ovN_s (r 37) (r 8)]; exact hP) (by rw [← ovN_s (r 37) (r 8)]; exact hD) hS ls (lv_sub hl [1, 0] rfl)
          exact lp_4 _ 0 (Nat.lt_succ_self _) (by omega) _ _ (by rw [ovN_0 (r 37) (r 8)]; exact hP) (by rw [ovN_0 (r 37) (r 8)]; exact hD) hS ls (lv_sub hl [1, 0] rfl)
        · skip
          have c_3n : ¬ 5 ≤ i := fun hh => c_3 ((nI_leI (a := 5) (b := i) (by omega) (by omega)).mpr hh)
          refine lv_aload_n (pc := 46) hx hb dX8_image_46 rfl (lv_at hl 0 rfl) ?_
          refine fget (pc := 47) (v := .ref (a 31)) hx hb hts hown hE hP fl_X8_53 0 rfl rfl dX8_image_47 ?_
          refine lv_iload_n (pc := 50) hx hb dX8_image_50 rfl (lv_at hl 1 rfl) ?_
          refine lv_aload_n (pc := 51) hx hb dX8_image_51 rfl (lv_at hl 0 rfl) ?_
          refine fget (pc := 52) (v := .ref (a 2)) hx hb hts hown hE hP fl_X8_7 0 rfl rfl dX8_image_52 ?_
          refine lv_iload_n (pc := 55) hx hb dX8_image_55 rfl (lv_at hl 1 rfl) ?_
          refine aldN (pc := 56) (f := r 2) hx hb hE hP 1 rfl (i) (by omega) (by omega) dX8_image_56 ?_
          refine astN (pc := 57) (f := ovN (r 31) (r 2) i) hx hb hE hP hD hS 15 rfl (i) (by omega) (by omega) dX8_image_57 (fun H locs hP hD hS => ?_)
          have hP : va_P D vwCl (wR kB kI o a (va_up (va_up (va_up (va_up z 27 1) 28 (z 0)) 29 (z 1)) 30 (z 10)) g (va_up (va_up (va_up (va_up (va_up (va_up r 31 (upd (ovN (r 31) (r 2) i) i ((r 2) i))) 32 (ovN (r 32) (r 3) i)) 33 (ovN (r 33) (r 4) i)) 34 (ovN (r 34) (r 5) i)) 35 (ovN (r 35) (r 6) i)) 36 (ovN (r 36) (r 7) i))) H := hP
          have hD : va_D A (wR kB kI o a (va_up (va_up (va_up (va_up z 27 1) 28 (z 0)) 29 (z 1)) 30 (z 10)) g (va_up (va_up (va_up (va_up (va_up (va_up r 31 (upd (ovN (r 31) (r 2) i) i ((r 2) i))) 32 (ovN (r 32) (r 3) i)) 33 (ovN (r 33) (r 4) i)) 34 (ovN (r 34) (r 5) i)) 35 (ovN (r 35) (r 6) i)) 36 (ovN (r 36) (r 7) i))) := hD
          refine lv_aload_n (pc := 58) hx hb dX8_image_58 rfl (lv_at hl 0 rfl) ?_
          refine fget (pc := 59) (v := .ref (a 32)) hx hb hts hown hE hP fl_X8_56 0 rfl rfl dX8_image_59 ?_
          refine lv_iload_n (pc := 62) hx hb dX8_image_62 rfl (lv_at hl 1 rfl) ?_
          refine lv_aload_n (pc := 63) hx hb dX8_image_63 rfl (lv_at hl 0 rfl) ?_
          refine fget (pc := 64) (v := .ref (a 3)) hx hb hts hown hE hP fl_X8_13 0 rfl rfl dX8_image_64 ?_
          refine lv_iload_n (pc := 67) hx hb dX8_image_67 rfl (lv_at hl 1 rfl) ?_
          refine aldN (pc := 68) (f := r 3) hx hb hE hP 2 rfl (i) (by omega) (by omega) dX8_image_68 ?_
          refine astN (pc := 69) (f := ovN (r 32) (r 3) i) hx hb hE hP hD hS 16 rfl (i) (by omega) (by omega) dX8_image_69 (fun H locs hP hD hS => ?_)
          have hP : va_P D vwCl (wR kB kI o a (va_up (va_up (va_up (va_up z 27 1) 28 (z 0)) 29 (z 1)) 30 (z 10)) g (va_up (va_up (va_up (va_up (va_up (va_up r 31 (upd (ovN (r 31) (r 2) i) i ((r 2) i))) 32 (upd (ovN (r 32) (r 3) i) i ((r 3) i))) 33 (ovN (r 33) (r 4) i)) 34 (ovN (r 34) (r 5) i)) 35 (ovN (r 35) (r 6) i)) 36 (ovN (r 36) (r 7) i))) H := hP
          have hD : va_D A (wR kB kI o a (va_up (va_up (va_up (va_up z 27 1) 28 (z 0)) 29 (z 1)) 30 (z 10)) g (va_up (va_up (va_up (va_up (va_up (va_up r 31 (upd (ovN (r 31) (r 2) i) i ((r 2) i))) 32 (upd (ovN (r 32) (r 3) i) i ((r 3) i))) 33 (ovN (r 33) (r 4) i)) 34 (ovN (r 34) (r 5) i)) 35 (ovN (r 35) (r 6) i)) 36 (ovN (r 36) (r 7) i))) := hD
          refine lv_aload_n (pc := 70) hx hb dX8_image_70 rfl (lv_at hl 0 rfl) ?_
          refine fget (pc := 71) (v := .ref (a 33)) hx hb hts hown hE hP fl_X8_59 0 rfl rfl dX8_image_71 ?_
          refine lv_iload_n (pc := 74) hx hb dX8_image_74 rfl (lv_at hl 1 rfl) ?_
          refine lv_aload_n (pc := 75) hx hb dX8_image_75 rfl (lv_at hl 0 rfl) ?_
          refine fget (pc := 76) (v := .ref (a 4)) hx hb hts hown hE hP fl_X8_16 0 rfl rfl dX8_image_76 ?_
          refine lv_iload_n (pc := 79) hx hb dX8_image_79 rfl (lv_at hl 1 rfl) ?_
          refine aldN (pc := 80) (f := r 4) hx hb hE hP 3 rfl (i) (by omega) (by omega) dX8_image_80 ?_
          refine astN (pc := 81) (f := ovN (r 33) (r 4) i) hx hb hE hP hD hS 17 rfl (i) (by omega) (by omega) dX8_image_81 (fun H locs hP hD hS => ?_)
          have hP : va_P D vwCl (wR kB kI o a (va_up (va_up (va_up (va_up z 27 1) 28 (z 0)) 29 (z 1)) 30 (z 10)) g (va_up (va_up (va_up (va_up (va_up (va_up r 31 (upd (ovN (r 31) (r 2) i) i ((r 2) i))) 32 (upd (ovN (r 32) (r 3) i) i ((r 3) i))) 33 (upd (ovN (r 33) (r 4) i) i ((r 4) i))) 34 (ovN (r 34) (r 5) i)) 35 (ovN (r 35) (r 6) i)) 36 (ovN (r 36) (r 7) i))) H := hP
          have hD : va_D A (wR kB kI o a (va_up (va_up (va_up (va_up z 27 1) 28 (z 0)) 29 (z 1)) 30 (z 10)) g (va_up (va_up (va_up (va_up (va_up (va_up r 31 (upd (ovN (r 31) (r 2) i) i ((r 2) i))) 32 (upd (ovN (r 32) (r 3) i) i ((r 3) i))) 33 (upd (ovN (r 33) (r 4) i) i ((r 4) i))) 34 (ovN (r 34) (r 5) i)) 35 (ovN (r 35) (r 6) i)) 36 (ovN (r 36) (r 7) i))) := hD
          refine lv_aload_n (pc := 82) hx hb dX8_image_82 rfl (lv_at hl 0 rfl) ?_
          refine fget (pc := 83) (v := .ref (a 34)) hx hb hts hown hE hP fl_X8_62 0 rfl rfl dX8_image_83 ?_
          refine lv_iload_n (pc := 86) hx hb dX8_image_86 rfl (lv_at hl 1 rfl) ?_
          refine lv_aload_n (pc := 87) hx hb dX8_image_87 rfl (lv_at hl 0 rfl) ?_
          refine fget (pc := 88) (v := .ref (a 5)) hx hb hts hown hE hP fl_X8_19 0 rfl rfl dX8_image_88 ?_
          refine lv_iload_n (pc := 91) hx hb dX8_image_91 rfl (lv_at hl 1 rfl) ?_
          refine aldN (pc := 92) (f := r 5) hx hb hE hP 4 rfl (i) (by omega) (by omega) dX8_image_92 ?_
          refine astN (pc := 93) (f := ovN (r 34) (r 5) i) hx hb hE hP hD hS 18 rfl (i) (by omega) (by omega) dX8_image_93 (fun H locs hP hD hS => ?_)
          have hP : va_P D vwCl (wR kB kI o a (va_up (va_up (va_up (va_up z 27 1) 28 (z 0)) 29 (z 1)) 30 (z 10)) g (va_up (va_up (va_up (va_up (va_up (va_up r 31 (upd (ovN (r 31) (r 2) i) i ((r 2) i))) 32 (upd (ovN (r 32) (r 3) i) i ((r 3) i))) 33 (upd (ovN (r 33) (r 4) i) i ((r 4) i))) 34 (upd (ovN (r 34) (r 5) i) i ((r 5) i))) 35 (ovN (r 35) (r 6) i)) 36 (ovN (r 36) (r 7) i))) H := hP
          have hD : va_D A (wR kB kI o a (va_up (va_up (va_up (va_up z 27 1) 28 (z 0)) 29 (z 1)) 30 (z 10)) g (va_up (va_up (va_up (va_up (va_up (va_up r 31 (upd (ovN (r 31) (r 2) i) i ((r 2) i))) 32 (upd (ovN (r 32) (r 3) i) i ((r 3) i))) 33 (upd (ovN (r 33) (r 4) i) i ((r 4) i))) 34 (upd (ovN (r 34) (r 5) i) i ((r 5) i))) 35 (ovN (r 35) (r 6) i)) 36 (ovN (r 36) (r 7) i))) := hD
          refine lv_aload_n (pc := 94) hx hb dX8_image_94 rfl (lv_at hl 0 rfl) ?_
          refine fget (pc := 95) (v := .ref (a 35)) hx hb hts hown hE hP fl_X8_65 0 rfl rfl dX8_image_95 ?_
          refine lv_iload_n (pc := 98) hx hb dX8_image_98 rfl (lv_at hl 1 rfl) ?_
          refine lv_aload_n (pc := 99) hx hb dX8_image_99 rfl (lv_at hl 0 rfl) ?_
          refine fget (pc := 100) (v := .ref (a 6)) hx hb hts hown hE hP fl_X8_22 0 rfl rfl dX8_image_100 ?_
          refine lv_iload_n (pc := 103) hx hb dX8_image_103 rfl (lv_at hl 1 rfl) ?_
          refine aldN (pc := 104) (f := r 6) hx hb hE hP 5 rfl (i) (by omega) (by omega) dX8_image_104 ?_
          refine astN (pc := 105) (f := ovN (r 35) (r 6) i) hx hb hE hP hD hS 19 rfl (i) (by omega) (by omega) dX8_image_105 (fun H locs hP hD hS => ?_)
          have hP : va_P D vwCl (wR kB kI o a (va_up (va_up (va_up (va_up z 27 1) 28 (z 0)) 29 (z 1)) 30 (z 10)) g (va_up (va_up (va_up (va_up (va_up (va_up r 31 (upd (ovN (r 31) (r 2) i) i ((r 2) i))) 32 (upd (ovN (r 32) (r 3) i) i ((r 3) i))) 33 (upd (ovN (r 33) (r 4) i) i ((r 4) i))) 34 (upd (ovN (r 34) (r 5) i) i ((r 5) i))) 35 (upd (ovN (r 35) (r 6) i) i ((r 6) i))) 36 (ovN (r 36) (r 7) i))) H := hP
          have hD : va_D A (wR kB kI o a (va_up (va_up (va_up (va_up z 27 1) 28 (z 0)) 29 (z 1)) 30 (z 10)) g (va_up (va_up (va_up (va_up (va_up (va_up r 31 (upd (ovN (r 31) (r 2) i) i ((r 2) i))) 32 (upd (ovN (r 32) (r 3) i) i ((r 3) i))) 33 (upd (ovN (r 33) (r 4) i) i ((r 4) i))) 34 (upd (ovN (r 34) (r 5) i) i ((r 5) i))) 35 (upd (ovN (r 35) (r 6) i) i ((r 6) i))) 36 (ovN (r 36) (r 7) i))) := hD
          refine lv_aload_n (pc := 106) hx hb dX8_image_106 rfl (lv_at hl 0 rfl) ?_
          refine fget (pc := 107) (v := .ref (a 36)) hx hb hts hown hE hP fl_X8_68 0 rfl rfl dX8_image_107 ?_
          refine lv_iload_n (pc := 110) hx hb dX8_image_110 rfl (lv_at hl 1 rfl) ?_
          refine lv_aload_n (pc := 111) hx hb dX8_image_111 rfl (lv_at hl 0 rfl) ?_
          refine fget (pc := 112) (v := .ref (a 7)) hx hb hts hown hE hP fl_X8_25 0 rfl rfl dX8_image_112 ?_
          refine lv_iload_n (pc := 115) hx hb dX8_image_115 rfl (lv_at hl 1 rfl) ?_
          refine aldN (pc := 116) (f := r 7) hx hb hE hP 6 rfl (i) (by omega) (by omega) dX8_image_116 ?_
          refine astN (pc := 117) (f := ovN (r 36) (r 7) i) hx hb hE hP hD hS 20 rfl (i) (by omega) (by omega) dX8_image_117 (fun H locs hP hD hS => ?_)
          have hP : va_P D vwCl (wR kB kI o a (va_up (va_up (va_up (va_up z 27 1) 28 (z 0)) 29 (z 1)) 30 (z 10)) g (va_up (va_up (va_up (va_up (va_up (va_up r 31 (upd (ovN (r 31) (r 2) i) i ((r 2) i))) 32 (upd (ovN (r 32) (r 3) i) i ((r 3) i))) 33 (upd (ovN (r 33) (r 4) i) i ((r 4) i))) 34 (upd (ovN (r 34) (r 5) i) i ((r 5) i))) 35 (upd (ovN (r 35) (r 6) i) i ((r 6) i))) 36 (upd (ovN (r 36) (r 7) i) i ((r 7) i)))) H := hP
          have hD : va_D A (wR kB kI o a (va_up (va_up (va_up (va_up z 27 1) 28 (z 0)) 29 (z 1)) 30 (z 10)) g (va_up (va_up (va_up (va_up (va_up (va_up r 31 (upd (ovN (r 31) (r 2) i) i ((r 2) i))) 32 (upd (ovN (r 32) (r 3) i) i ((r 3) i))) 33 (upd (ovN (r 33) (r 4) i) i ((r 4) i))) 34 (upd (ovN (r 34) (r 5) i) i ((r 5) i))) 35 (upd (ovN (r 35) (r 6) i) i ((r 6) i))) 36 (upd (ovN (r 36) (r 7) i) i ((r 7) i)))) := hD
          refine lv_iinc (pc := 118) (v := nI (i + 1)) (lv' := [(1, .int (nI (i + 1))), (0, .ref o)]) hx hb dX8_image_118 hl (k := 1) rfl (nI_add (i) 1) (by decide) rfl (fun ls hl => ?_)
          refine lv_goto (pc := 121) (tgt := 41) hx hb dX8_image_121 (by decide) ?_
          exact ih_lp_2 (i + 1) (by omega) (by omega) _ _ (by rw [← ovN_s (r 31) (r 2), ← ovN_s (r 32) (r 3), ← ovN_s (r 33) (r 4), ← ovN_s (r 34) (r 5), ← ovN_s (r 35) (r 6), ← ovN_s (r 36) (r 7)]; exact hP) (by rw [← ovN_s (r 31) (r 2), ← ovN_s (r 32) (r 3), ← ovN_s (r 33) (r 4), ← ovN_s (r 34) (r 5), ← ovN_s (r 35) (r 6), ← ovN_s (r 36) (r 7)]; exact hD) hS ls (lv_sub hl [1, 0] rfl)
    exact lp_2 _ 0 (Nat.lt_succ_self _) (by omega) _ _ (by rw [ovN_0 (r 31) (r 2), ovN_0 (r 32) (r 3), ovN_0 (r 33) (r 4), ovN_0 (r 34) (r 5), ovN_0 (r 35) (r 6), ovN_0 (r 36) (r 7)]; exact hP) (by rw [ovN_0 (r 31) (r 2), ovN_0 (r 32) (r 3), ovN_0 (r 33) (r 4), ovN_0 (r 34) (r 5), ovN_0 (r 35) (r 6), ovN_0 (r 36) (r 7)]; exact hD) hS ls (lv_sub hl [1, 0] rfl)
  · skip
    have c_1n : n = 0 := (nI_eq (a := n) (b := 0) (by omega) (by omega)).mp (hz1.symm.trans c_1)
    refine lv_bipush (pc := 7) (v := (-103)) hx hb dX8_image_7 (by decide) ?_
    have hfn : R_image z g r n = ((-103), z, g, r) := by rw [R_image, if_pos c_1n]
    rw [hQ]; exact W.iret (pc := 9) hx hb hr (fun t9 ht _ => ⟨⟨retI (by rw [hfn]), by rw [ht, hfn]; exact (show va_P D vwCl (wR kB kI o a z g r) _ from hP)⟩, hS.F ht⟩) hS.2.2 dX8_image_9 hlocks
set_option maxRecDepth 100000 in
set_option maxHeartbeats 4000000 in
theorem k_X8_restore {o : Nat} {a : Nat → Nat} {z : Nat → Int32} {g : Nat → Int64} {r : Nat → Nat → Int32} : MW l yX8_restore cX8_restore 2 (some .int) 0 0 D kB kI kT ks sk sv [.ref o] (wR kB kI o a z g r) (some (.int ((R_restore z g r).1))) (wR kB kI o a (R_restore z g r).2.1 (R_restore z g r).2.2.1 (R_restore z g r).2.2.2) := by
  refine MW.go (by decide +kernel) (Nat.le_of_ble_eq_true rfl) ?_
  intro p e s m below meth c0 args Q ls A hQ hx hb hr hml hown hts hlocks hE hP hD hS hl
  have hl : lv_has ls 2 [(0, .ref o)] := hl
  have hown : s.vm.findClass RX8 = some m.cls := hown
  refine lv_aload_n (pc := 0) hx hb dX8_restore_0 rfl (lv_at hl 0 rfl) ?_
  refine fget (pc := 1) (v := .int (z 27)) hx hb hts hown hE hP fl_X8_260 0 rfl rfl dX8_restore_1 ?_
  refine lv_if_eq (pc := 4) (tgt := 18) hx hb dX8_restore_4 (by decide) (fun c_1 => ?_) (fun c_1 => ?_)
  · skip
    refine lv_bipush (pc := 18) (v := (-103)) hx hb dX8_restore_18 (by decide) ?_
    have hfn : R_restore z g r = ((-103), z, g, r) := by rw [R_restore, if_neg (fun q => q.1 c_1)]
    rw [hQ]; exact W.iret (pc := 20) hx hb hr (fun t9 ht _ => ⟨⟨retI (by rw [hfn]), by rw [ht, hfn]; exact (show va_P D vwCl (wR kB kI o a z g r) _ from hP)⟩, hS.F ht⟩) hS.2.2 dX8_restore_20 hlocks
  · skip
    refine lv_aload_n (pc := 7) hx hb dX8_restore_7 rfl (lv_at hl 0 rfl) ?_
    refine fget (pc := 8) (v := .int (z 28)) hx hb hts hown hE hP fl_X8_263 0 rfl rfl dX8_restore_8 ?_
    refine lv_aload_n (pc := 11) hx hb dX8_restore_11 rfl (lv_at hl 0 rfl) ?_
    refine fget (pc := 12) (v := .int (z 0)) hx hb hts hown hE hP fl_X8_127 0 rfl rfl dX8_restore_12 ?_
    refine lv_icmp_eq (pc := 15) (tgt := 21) hx hb dX8_restore_15 (by decide) (fun c_2 => ?_) (fun c_2 => ?_)
    · skip
      refine lv_aload_n (pc := 21) hx hb dX8_restore_21 rfl (lv_at hl 0 rfl) ?_
      refine lv_aload_n (pc := 22) hx hb dX8_restore_22 rfl (lv_at hl 0 rfl) ?_
      refine fget (pc := 23) (v := .int (z 29)) hx hb hts hown hE hP fl_X8_266 0 rfl rfl dX8_restore_23 ?_
      refine fput (pc := 26) (v := .int (z 29)) hx hb hts hown hE hP hD hS fp_X8_124 0 rfl rfl rfl (Nat.le_of_ble_eq_true rfl) dX8_restore_26 (fun H locs hP hD hS => ?_)
      have hP : va_P D vwCl (wR kB kI o a (va_up z 1 (z 29)) g r) H := hP
      have hD : va_D A (wR kB kI o a (va_up z 1 (z 29)) g r) := hD
      refine lv_aload_n (pc := 29) hx hb dX8_restore_29 rfl (lv_at hl 0 rfl) ?_
      refine lv_aload_n (pc := 30) hx hb dX8_restore_30 rfl (lv_at hl 0 rfl) ?_
      refine fget (pc := 31) (v := .int (z 30)) hx hb hts hown hE hP fl_X8_269 0 rfl rfl dX8_restore_31 ?_
      refine fput (pc := 34) (v := .int (z 30)) hx hb hts hown hE hP hD hS fp_X8_130 0 rfl rfl rfl (Nat.le_of_ble_eq_true rfl) dX8_restore_34 (fun H locs hP hD hS => ?_)
      have hP : va_P D vwCl (wR kB kI o a (va_up (va_up z 1 (z 29)) 10 (z 30)) g r) H := hP
      have hD : va_D A (wR kB kI o a (va_up (va_up z 1 (z 29)) 10 (z 30)) g r) := hD
      refine lv_iconst (pc := 37) (v := 0) hx hb dX8_restore_37 (by decide) ?_
      refine lv_istore_n (pc := 38) (lv' := [(1, .int 0), (0, .ref o)]) hx hb dX8_restore_38 rfl hl (by decide) rfl (fun ls hl => ?_)
      have lp_3 : ∀ (fuel : Nat) (i : Nat), 5 - i < fuel → (i ≤ 5) → ∀ (H : Heap) (locs : List Loc), va_P D vwCl (wR kB kI o a (va_up (va_up z 1 (z 29)) 10 (z 30)) g (va_up (va_up (va_up (va_up (va_up (va_up r 2 (ovN (r 2) (r 31) i)) 3 (ovN (r 3) (r 32) i)) 4 (ovN (r 4) (r 33) i)) 5 (ovN (r 5) (r 34) i)) 6 (ovN (r 6) (r 35) i)) 7 (ovN (r 7) (r 36) i))) H → va_D A (wR kB kI o a (va_up (va_up z 1 (z 29)) 10 (z 30)) g (va_up (va_up (va_up (va_up (va_up (va_up r 2 (ovN (r 2) (r 31) i)) 3 (ovN (r 3) (r 32) i)) 4 (ovN (r 4) (r 33) i)) 5 (ovN (r 5) (r 34) i)) 6 (ovN (r 6) (r 35) i)) 7 (ovN (r 7) (r 36) i))) → va_S A s.heap H locs → ∀ (ls : Array Slot), lv_has ls 2 [(0, .ref o), (1, .int (nI i))] → W p l e (rmO 0 0) s m args below meth c0 H locs 0 0 Q (F0 m 39 ls []) := by
        intro fuel
        induction fuel with
        | zero => intro i hfuel; exact absurd hfuel (Nat.not_lt_zero _)
        | succ fuel ih_lp_3 =>
          intro i hfuel hi H locs hP hD hS ls hl
          refine lv_iload_n (pc := 39) hx hb dX8_restore_39 rfl (lv_at hl 1 rfl) ?_
          refine lv_iconst (pc := 40) (v := 5) hx hb dX8_restore_40 (by decide) ?_
          refine lv_icmp_ge (pc := 41) (tgt := 122) hx hb dX8_restore_41 (by decide) (fun c_4 => ?_) (fun c_4 => ?_)
          · skip
            have c_4n : 5 ≤ i := (nI_leI (a := 5) (b := i) (by omega) (by omega)).mp c_4
            have hws_i : i = 5 := by omega
            rw [hws_i] at hP hD
            refine lv_iconst (pc := 122) (v := 0) hx hb dX8_restore_122 (by decide) ?_
            refine lv_istore_n (pc := 123) (lv' := [(1, .int 0), (0, .ref o)]) hx hb dX8_restore_123 rfl hl (by decide) rfl (fun ls hl => ?_)
            have lp_5 : ∀ (fuel : Nat) (j : Nat), 12 - j < fuel → (j ≤ 12) → ∀ (H : Heap) (locs : List Loc), va_P D vwCl (wR kB kI o a (va_up (va_up z 1 (z 29)) 10 (z 30)) g (va_up (va_up (va_up (va_up (va_up (va_up (va_up r 2 (ovN (r 2) (r 31) 5)) 3 (ovN (r 3) (r 32) 5)) 4 (ovN (r 4) (r 33) 5)) 5 (ovN (r 5) (r 34) 5)) 6 (ovN (r 6) (r 35) 5)) 7 (ovN (r 7) (r 36) 5)) 8 (ovN (r 8) (r 37) j))) H → va_D A (wR kB kI o a (va_up (va_up z 1 (z 29)) 10 (z 30)) g (va_up (va_up (va_up (va_up (va_up (va_up (va_up r 2 (ovN (r 2) (r 31) 5)) 3 (ovN (r 3) (r 32) 5)) 4 (ovN (r 4) (r 33) 5)) 5 (ovN (r 5) (r 34) 5)) 6 (ovN (r 6) (r 35) 5)) 7 (ovN (r 7) (r 36) 5)) 8 (ovN (r 8) (r 37) j))) → va_S A s.heap H locs → ∀ (ls : Array Slot), lv_has ls 2 [(0, .ref o), (1, .int (nI j))] → W p l e (rmO 0 0) s m args below meth c0 H locs 0 0 Q (F0 m 124 ls []) := by
              intro fuel
              induction fuel with
              | zero => intro j hfuel; exact absurd hfuel (Nat.not_lt_zero _)
              | succ fuel ih_lp_5 =>
                intro j hfuel hj H locs hP hD hS ls hl
                refine lv_iload_n (pc := 124) hx hb dX8_restore_124 rfl (lv_at hl 1 rfl) ?_
                refine lv_bipush (pc := 125) (v := 12) hx hb dX8_restore_125 (by decide) ?_
                refine lv_icmp_ge (pc := 127) (tgt := 148) hx hb dX8_restore_127 (by decide) (fun c_6 => ?_) (fun c_6 => ?_)
                · skip
                  have c_6n : 12 ≤ j := (nI_leI (a := 12) (b := j) (by omega) (by omega)).mp c_6
                  have hws_j : j = 12 := by omega
                  rw [hws_j] at hP hD
                  refine lv_iconst (pc := 148) (v := 0) hx hb dX8_restore_148 (by decide) ?_
                  refine lv_istore_n (pc := 149) (lv' := [(1, .int 0), (0, .ref o)]) hx hb dX8_restore_149 rfl hl (by decide) rfl (fun ls hl => ?_)
                  have lp_7 : ∀ (fuel : Nat) (k : Nat), 6 - k < fuel → (k ≤ 6) → ∀ (H : Heap) (locs : List Loc), va_P D vwCl (wR kB kI o a (va_up (va_up z 1 (z 29)) 10 (z 30)) g (va_up (va_up (va_up (va_up (va_up (va_up (va_up (va_up (va_up (va_up r 2 (ovN (r 2) (r 31) 5)) 3 (ovN (r 3) (r 32) 5)) 4 (ovN (r 4) (r 33) 5)) 5 (ovN (r 5) (r 34) 5)) 6 (ovN (r 6) (r 35) 5)) 7 (ovN (r 7) (r 36) 5)) 8 (ovN (r 8) (r 37) 12)) 11 (ovN (r 11) (r 38) k)) 12 (ovN (r 12) (r 39) k)) 13 (ovN (r 13) (r 40) k))) H → va_D A (wR kB kI o a (va_up (va_up z 1 (z 29)) 10 (z 30)) g (va_up (va_up (va_up (va_up (va_up (va_up (va_up (va_up (va_up (va_up r 2 (ovN (r 2) (r 31) 5)) 3 (ovN (r 3) (r 32) 5)) 4 (ovN (r 4) (r 33) 5)) 5 (ovN (r 5) (r 34) 5)) 6 (ovN (r 6) (r 35) 5)) 7 (ovN (r 7) (r 36) 5)) 8 (ovN (r 8) (r 37) 12)) 11 (ovN (r 11) (r 38) k)) 12 (ovN (r 12) (r 39) k)) 13 (ovN (r 13) (r 40) k))) → va_S A s.heap H locs → ∀ (ls : Array Slot), lv_has ls 2 [(0, .ref o), (1, .int (nI k))] → W p l e (rmO 0 0) s m args below meth c0 H locs 0 0 Q (F0 m 150 ls []) := by
                    intro fuel
                    induction fuel with
                    | zero => intro k hfuel; exact absurd hfuel (Nat.not_lt_zero _)
                    | succ fuel ih_lp_7 =>
                      intro k hfuel hk H locs hP hD hS ls hl
                      refine lv_iload_n (pc := 150) hx hb dX8_restore_150 rfl (lv_at hl 1 rfl) ?_
                      refine lv_bipush (pc := 151) (v := 6) hx hb dX8_restore_151 (by decide) ?_
                      refine lv_icmp_ge (pc := 153) (tgt := 198) hx hb dX8_restore_153 (by decide) (fun c_8 => ?_) (fun c_8 => ?_)
                      · skip
                        have c_8n : 6 ≤ k := (nI_leI (a := 6) (b := k) (by omega) (by omega)).mp c_8
                        have hws_k : k = 6 := by omega
                        rw [hws_k] at hP hD
                        refine lv_aload_n (pc := 198) hx hb dX8_restore_198 rfl (lv_at hl 0 rfl) ?_
                        refine fget (pc := 199) (v := .int (z 29)) hx hb hts hown hE hP fl_X8_124 0 rfl rfl dX8_restore_199 ?_
                        have hfn : R_restore z g r = (z 29, (va_up (va_up z 1 (z 29)) 10 (z 30)), g, (va_up (va_up (va_up (va_up (va_up (va_up (va_up (va_up (va_up (va_up r 2 (ovN (r 2) (r 31) 5)) 3 (ovN (r 3) (r 32) 5)) 4 (ovN (r 4) (r 33) 5)) 5 (ovN (r 5) (r 34) 5)) 6 (ovN (r 6) (r 35) 5)) 7 (ovN (r 7) (r 36) 5)) 8 (ovN (r 8) (r 37) 12)) 11 (ovN (r 11) (r 38) 6)) 12 (ovN (r 12) (r 39) 6)) 13 (ovN (r 13) (r 40) 6))) := by rw [R_restore, if_pos ⟨c_1, c_2⟩]
                        rw [hQ]; exact W.iret (pc := 202) hx hb hr (fun t9 ht _ => ⟨⟨retI (by rw [hfn]), by rw [ht, hfn]; exact (show va_P D vwCl (wR kB kI o a (va_up (va_up z 1 (z 29)) 10 (z 30)) g (va_up (va_up (va_up (va_up (va_up (va_up (va_up (va_up (va_up (va_up r 2 (ovN (r 2) (r 31) 5)) 3 (ovN (r 3) (r 32) 5)) 4 (ovN (r 4) (r 33) 5)) 5 (ovN (r 5) (r 34) 5)) 6 (ovN (r 6) (r 35) 5)) 7 (ovN (r 7) (r 36) 5)) 8 (ovN (r 8) (r 37) 12)) 11 (ovN (r 11) (r 38) 6)) 12 (ovN (r 12) (r 39) 6)) 13 (ovN (r 13) (r 40) 6))) _ from hP)⟩, hS.F ht⟩) hS.2.2 dX8_restore_202 hlocks
                      · skip
                        have c_8n : ¬ 6 ≤ k := fun hh => c_8 ((nI_leI (a := 6) (b := k) (by omega) (by omega)).mpr hh)
                        refine lv_aload_n (pc := 156) hx hb dX8_restore_156 rfl (lv_at hl 0 rfl) ?_
                        refine fget (pc := 157) (v := .ref (a 11)) hx hb hts hown hE hP fl_X8_31 0 rfl rfl dX8_restore_157 ?_
                        refine lv_iload_n (pc := 160) hx hb dX8_restore_160 rfl (lv_at hl 1 rfl) ?_
                        refine lv_aload_n (pc := 161) hx hb dX8_restore_161 rfl (lv_at hl 0 rfl) ?_
                        refine fget (pc := 162) (v := .ref (a 38)) hx hb hts hown hE hP fl_X8_74 0 rfl rfl dX8_restore_162 ?_
                        refine lv_iload_n (pc := 165) hx hb dX8_restore_165 rfl (lv_at hl 1 rfl) ?_
                        refine aldN (pc := 166) (f := r 38) hx hb hE hP 22 rfl (k) (by omega) (by omega) dX8_restore_166 ?_
                        refine astN (pc := 167) (f := ovN (r 11) (r 38) k) hx hb hE hP hD hS 8 rfl (k) (by omega) (by omega) dX8_restore_167 (fun H locs hP hD hS => ?_)
                        have hP : va_P D vwCl (wR kB kI o a (va_up (va_up z 1 (z 29)) 10 (z 30)) g (va_up (va_up (va_up (va_up (va_up (va_up (va_up (va_up (va_up (va_up r 2 (ovN (r 2) (r 31) 5)) 3 (ovN (r 3) (r 32) 5)) 4 (ovN (r 4) (r 33) 5)) 5 (ovN (r 5) (r 34) 5)) 6 (ovN (r 6) (r 35) 5)) 7 (ovN (r 7) (r 36) 5)) 8 (ovN (r 8) (r 37) 12)) 11 (upd (ovN (r 11) (r 38) k) k ((r 38) k))) 12 (ovN (r 12) (r 39) k)) 13 (ovN (r 13) (r 40) k))) H := hP
                        have hD : va_D A (wR kB kI o a (va_up (va_up z 1 (z 29)) 10 (z 30)) g (va_up (va_up (va_up (va_up (va_up (va_up (va_up (va_up (va_up (va_up r 2 (ovN (r 2) (r 31) 5)) 3 (ovN (r 3) (r 32) 5)) 4 (ovN (r 4) (r 33) 5)) 5 (ovN (r 5) (r 34) 5)) 6 (ovN (r 6) (r 35) 5)) 7 (ovN (r 7) (r 36) 5)) 8 (ovN (r 8) (r 37) 12)) 11 (upd (ovN (r 11) (r 38) k) k ((r 38) k))) 12 (ovN (r 12) (r 39) k)) 13 (ovN (r 13) (r 40) k))) := hD
                        refine lv_aload_n (pc := 168) hx hb dX8_restore_168 rfl (lv_at hl 0 rfl) ?_
                        refine fget (pc := 169) (v := .ref (a 12)) hx hb hts hown hE hP fl_X8_34 0 rfl rfl dX8_restore_169 ?_
                        refine lv_iload_n (pc := 172) hx hb dX8_restore_172 rfl (lv_at hl 1 rfl) ?_
                        refine lv_aload_n (pc := 173) hx hb dX8_restore_173 rfl (lv_at hl 0 rfl) ?_
                        refine fget (pc := 174) (v := .ref (a 39)) hx hb hts hown hE hP fl_X8_77 0 rfl rfl dX8_restore_174 ?_
                        refine lv_iload_n (pc := 177) hx hb dX8_restore_177 rfl (lv_at hl 1 rfl) ?_
                        refine aldN (pc := 178) (f := r 39) hx hb hE hP 23 rfl (k) (by omega) (by omega) dX8_restore_178 ?_
                        refine astN (pc := 179) (f := ovN (r 12) (r 39) k) hx hb hE hP hD hS 9 rfl (k) (by omega) (by omega) dX8_restore_179 (fun H locs hP hD hS => ?_)
                        have hP : va_P D vwCl (wR kB kI o a (va_up (va_up z 1 (z 29)) 10 (z 30)) g (va_up (va_up (va_up (va_up (va_up (va_up (va_up (va_up (va_up (va_up r 2 (ovN (r 2) (r 31) 5)) 3 (ovN (r 3) (r 32) 5)) 4 (ovN (r 4) (r 33) 5)) 5 (ovN (r 5) (r 34) 5)) 6 (ovN (r 6) (r 35) 5)) 7 (ovN (r 7) (r 36) 5)) 8 (ovN (r 8) (r 37) 12)) 11 (upd (ovN (r 11) (r 38) k) k ((r 38) k))) 12 (upd (ovN (r 12) (r 39) k) k ((r 39) k))) 13 (ovN (r 13) (r 40) k))) H := hP
                        have hD : va_D A (wR kB kI o a (va_up (va_up z 1 (z 29)) 10 (z 30)) g (va_up (va_up (va_up (va_up (va_up (va_up (va_up (va_up (va_up (va_up r 2 (ovN (r 2) (r 31) 5)) 3 (ovN (r 3) (r 32) 5)) 4 (ovN (r 4) (r 33) 5)) 5 (ovN (r 5) (r 34) 5)) 6 (ovN (r 6) (r 35) 5)) 7 (ovN (r 7) (r 36) 5)) 8 (ovN (r 8) (r 37) 12)) 11 (upd (ovN (r 11) (r 38) k) k ((r 38) k))) 12 (upd (ovN (r 12) (r 39) k) k ((r 39) k))) 13 (ovN (r 13) (r 40) k))) := hD
                        refine lv_aload_n (pc := 180) hx hb dX8_restore_180 rfl (lv_at hl 0 rfl) ?_
                        refine fget (pc := 181) (v := .ref (a 13)) hx hb hts hown hE hP fl_X8_37 0 rfl rfl dX8_restore_181 ?_
                        refine lv_iload_n (pc := 184) hx hb dX8_restore_184 rfl (lv_at hl 1 rfl) ?_
                        refine lv_aload_n (pc := 185) hx hb dX8_restore_185 rfl (lv_at hl 0 rfl) ?_
                        refine fget (pc := 186) (v := .ref (a 40)) hx hb hts hown hE hP fl_X8_80 0 rfl rfl dX8_restore_186 ?_
                        refine lv_iload_n (pc := 189) hx hb dX8_restore_189 rfl (lv_at hl 1 rfl) ?_
                        refine aldN (pc := 190) (f := r 40) hx hb hE hP 24 rfl (k) (by omega) (by omega) dX8_restore_190 ?_
                        refine astN (pc := 191) (f := ovN (r 13) (r 40) k) hx hb hE hP hD hS 10 rfl (k) (by omega) (by omega) dX8_restore_191 (fun H locs hP hD hS => ?_)
                        have hP : va_P D vwCl (wR kB kI o a (va_up (va_up z 1 (z 29)) 10 (z 30)) g (va_up (va_up (va_up (va_up (va_up (va_up (va_up (va_up (va_up (va_up r 2 (ovN (r 2) (r 31) 5)) 3 (ovN (r 3) (r 32) 5)) 4 (ovN (r 4) (r 33) 5)) 5 (ovN (r 5) (r 34) 5)) 6 (ovN (r 6) (r 35) 5)) 7 (ovN (r 7) (r 36) 5)) 8 (ovN (r 8) (r 37) 12)) 11 (upd (ovN (r 11) (r 38) k) k ((r 38) k))) 12 (upd (ovN (r 12) (r 39) k) k ((r 39) k))) 13 (upd (ovN (r 13) (r 40) k) k ((r 40) k)))) H := hP
                        have hD : va_D A (wR kB kI o a (va_up (va_up z 1 (z 29)) 10 (z 30)) g (va_up (va_up (va_up (va_up (va_up (va_up (va_up (va_up (va_up (va_up r 2 (ovN (r 2) (r 31) 5)) 3 (ovN (r 3) (r 32) 5)) 4 (ovN (r 4) (r 33) 5)) 5 (ovN (r 5) (r 34) 5)) 6 (ovN (r 6) (r 35) 5)) 7 (ovN (r 7) (r 36) 5)) 8 (ovN (r 8) (r 37) 12)) 11 (upd (ovN (r 11) (r 38) k) k ((r 38) k))) 12 (upd (ovN (r 12) (r 39) k) k ((r 39) k))) 13 (upd (ovN (r 13) (r 40) k) k ((r 40) k)))) := hD
                        refine lv_iinc (pc := 192) (v := nI (k + 1)) (lv' := [(1, .int (nI (k + 1))), (0, .ref o)]) hx hb dX8_restore_192 hl (k := 1) rfl (nI_add (k) 1) (by decide) rfl (fun ls hl => ?_)
                        refine lv_goto (pc := 195) (tgt := 150) hx hb dX8_restore_195 (by decide) ?_
                        exact ih_lp_7 (k + 1) (by omega) (by omega) _ _ (by rw [← ovN_s (r 11) (r 38), ← ovN_s (r 12) (r 39), ← ovN_s (r 13) (r 40)]; exact hP) (by rw [← ovN_s (r 11) (r 38), ← ovN_s (r 12) (r 39), ← ovN_s (r 13) (r 40)]; exact hD) hS ls (lv_sub hl [1, 0] rfl)
                  exact lp_7 _ 0 (Nat.lt_succ_self _) (by omega) _ _ (by rw [ovN_0 (r 11) (r 38), ovN_0 (r 12) (r 39), ovN_0 (r 13) (r 40)]; exact hP) (by rw [ovN_0 (r 11) (r 38), ovN_0 (r 12) (r 39), ovN_0 (r 13) (r 40)]; exact hD) hS ls (lv_sub hl [1, 0] rfl)
                · skip
                  have c_6n : ¬ 12 ≤ j := fun hh => c_6 ((nI_leI (a := 12) (b := j) (by omega) (by omega)).mpr hh)
                  refine lv_aload_n (pc := 130) hx hb dX8_restore_130 rfl (lv_at hl 0 rfl) ?_
                  refine fget (pc := 131) (v := .ref (a 8)) hx hb hts hown hE hP fl_X8_28 0 rfl rfl dX8_restore_131 ?_
                  refine lv_iload_n (pc := 134) hx hb dX8_restore_134 rfl (lv_at hl 1 rfl) ?_
                  refine lv_aload_n (pc := 135) hx hb dX8_restore_135 rfl (lv_at hl 0 rfl) ?_
                  refine fget (pc := 136) (v := .ref (a 37)) hx hb hts hown hE hP fl_X8_71 0 rfl rfl dX8_restore_136 ?_
                  refine lv_iload_n (pc := 139) hx hb dX8_restore_139 rfl (lv_at hl 1 rfl) ?_
                  refine aldN (pc := 140) (f := r 37) hx hb hE hP 21 rfl (j) (by omega) (by omega) dX8_restore_140 ?_
                  refine astN (pc := 141) (f := ovN (r 8) (r 37) j) hx hb hE hP hD hS 7 rfl (j) (by omega) (by omega) dX8_restore_141 (fun H locs hP hD hS => ?_)
                  have hP : va_P D vwCl (wR kB kI o a (va_up (va_up z 1 (z 29)) 10 (z 30)) g (va_up (va_up (va_up (va_up (va_up (va_up (va_up r 2 (ovN (r 2) (r 31) 5)) 3 (ovN (r 3) (r 32) 5)) 4 (ovN (r 4) (r 33) 5)) 5 (ovN (r 5) (r 34) 5)) 6 (ovN (r 6) (r 35) 5)) 7 (ovN (r 7) (r 36) 5)) 8 (upd (ovN (r 8) (r 37) j) j ((r 37) j)))) H := hP
                  have hD : va_D A (wR kB kI o a (va_up (va_up z 1 (z 29)) 10 (z 30)) g (va_up (va_up (va_up (va_up (va_up (va_up (va_up r 2 (ovN (r 2) (r 31) 5)) 3 (ovN (r 3) (r 32) 5)) 4 (ovN (r 4) (r 33) 5)) 5 (ovN (r 5) (r 34) 5)) 6 (ovN (r 6) (r 35) 5)) 7 (ovN (r 7) (r 36) 5)) 8 (upd (ovN (r 8) (r 37) j) j ((r 37) j)))) := hD
                  refine lv_iinc (pc := 142) (v := nI (j + 1)) (lv' := [(1, .int (nI (j + 1))), (0, .ref o)]) hx hb dX8_restore_142 hl (k := 1) rfl (nI_add (j) 1) (by decide) rfl (fun ls hl => ?_)
                  refine lv_goto (pc := 145) (tgt := 124) hx hb dX8_restore_145 (by decide) ?_
                  exact ih_lp_5 (j + 1) (by omega) (by omega) _ _ (by rw [← ovN_s (r 8) (r 37)]; exact hP) (by rw [← ovN_s (r 8) (r 37)]; exact hD) hS ls (lv_sub hl [1, 0] rfl)
            exact lp_5 _ 0 (Nat.lt_succ_self _) (by omega) _ _ (by rw [ovN_0 (r 8) (r 37)]; exact hP) (by rw [ovN_0 (r 8) (r 37)]; exact hD) hS ls (lv_sub hl [1, 0] rfl)
          · skip
            have c_4n : ¬ 5 ≤ i := fun hh => c_4 ((nI_leI (a := 5) (b := i) (by omega) (by omega)).mpr hh)
            refine lv_aload_n (pc := 44) hx hb dX8_restore_44 rfl (lv_at hl 0 rfl) ?_
            refine fget (pc := 45) (v := .ref (a 2)) hx hb hts hown hE hP fl_X8_7 0 rfl rfl dX8_restore_45 ?_
            refine lv_iload_n (pc := 48) hx hb dX8_restore_48 rfl (lv_at hl 1 rfl) ?_
            refine lv_aload_n (pc := 49) hx hb dX8_restore_49 rfl (lv_at hl 0 rfl) ?_
            refine fget (pc := 50) (v := .ref (a 31)) hx hb hts hown hE hP fl_X8_53 0 rfl rfl dX8_restore_50 ?_
            refine lv_iload_n (pc := 53) hx hb dX8_restore_53 rfl (lv_at hl 1 rfl) ?_
            refine aldN (pc := 54) (f := r 31) hx hb hE hP 15 rfl (i) (by omega) (by omega) dX8_restore_54 ?_
            refine astN (pc := 55) (f := ovN (r 2) (r 31) i) hx hb hE hP hD hS 1 rfl (i) (by omega) (by omega) dX8_restore_55 (fun H locs hP hD hS => ?_)
            have hP : va_P D vwCl (wR kB kI o a (va_up (va_up z 1 (z 29)) 10 (z 30)) g (va_up (va_up (va_up (va_up (va_up (va_up r 2 (upd (ovN (r 2) (r 31) i) i ((r 31) i))) 3 (ovN (r 3) (r 32) i)) 4 (ovN (r 4) (r 33) i)) 5 (ovN (r 5) (r 34) i)) 6 (ovN (r 6) (r 35) i)) 7 (ovN (r 7) (r 36) i))) H := hP
            have hD : va_D A (wR kB kI o a (va_up (va_up z 1 (z 29)) 10 (z 30)) g (va_up (va_up (va_up (va_up (va_up (va_up r 2 (upd (ovN (r 2) (r 31) i) i ((r 31) i))) 3 (ovN (r 3) (r 32) i)) 4 (ovN (r 4) (r 33) i)) 5 (ovN (r 5) (r 34) i)) 6 (ovN (r 6) (r 35) i)) 7 (ovN (r 7) (r 36) i))) := hD
            refine lv_aload_n (pc := 56) hx hb dX8_restore_56 rfl (lv_at hl 0 rfl) ?_
            refine fget (pc := 57) (v := .ref (a 3)) hx hb hts hown hE hP fl_X8_13 0 rfl rfl dX8_restore_57 ?_
            refine lv_iload_n (pc := 60) hx hb dX8_restore_60 rfl (lv_at hl 1 rfl) ?_
            refine lv_aload_n (pc := 61) hx hb dX8_restore_61 rfl (lv_at hl 0 rfl) ?_
            refine fget (pc := 62) (v := .ref (a 32)) hx hb hts hown hE hP fl_X8_56 0 rfl rfl dX8_restore_62 ?_
            refine lv_iload_n (pc := 65) hx hb dX8_restore_65 rfl (lv_at hl 1 rfl) ?_
            refine aldN (pc := 66) (f := r 32) hx hb hE hP 16 rfl (i) (by omega) (by omega) dX8_restore_66 ?_
            refine astN (pc := 67) (f := ovN (r 3) (r 32) i) hx hb hE hP hD hS 2 rfl (i) (by omega) (by omega) dX8_restore_67 (fun H locs hP hD hS => ?_)
            have hP : va_P D vwCl (wR kB kI o a (va_up (va_up z 1 (z 29)) 10 (z 30)) g (va_up (va_up (va_up (va_up (va_up (va_up r 2 (upd (ovN (r 2) (r 31) i) i ((r 31) i))) 3 (upd (ovN (r 3) (r 32) i) i ((r 32) i))) 4 (ovN (r 4) (r 33) i)) 5 (ovN (r 5) (r 34) i)) 6 (ovN (r 6) (r 35) i)) 7 (ovN (r 7) (r 36) i))) H := hP
            have hD : va_D A (wR kB kI o a (va_up (va_up z 1 (z 29)) 10 (z 30)) g (va_up (va_up (va_up (va_up (va_up (va_up r 2 (upd (ovN (r 2) (r 31) i) i ((r 31) i))) 3 (upd (ovN (r 3) (r 32) i) i ((r 32) i))) 4 (ovN (r 4) (r 33) i)) 5 (ovN (r 5) (r 34) i)) 6 (ovN (r 6) (r 35) i)) 7 (ovN (r 7) (r 36) i))) := hD
            refine lv_aload_n (pc := 68) hx hb dX8_restore_68 rfl (lv_at hl 0 rfl) ?_
            refine fget (pc := 69) (v := .ref (a 4)) hx hb hts hown hE hP fl_X8_16 0 rfl rfl dX8_restore_69 ?_
            refine lv_iload_n (pc := 72) hx hb dX8_restore_72 rfl (lv_at hl 1 rfl) ?_
            refine lv_aload_n (pc := 73) hx hb dX8_restore_73 rfl (lv_at hl 0 rfl) ?_
            refine fget (pc := 74) (v := .ref (a 33)) hx hb hts hown hE hP fl_X8_59 0 rfl rfl dX8_restore_74 ?_
            refine lv_iload_n (pc := 77) hx hb dX8_restore_77 rfl (lv_at hl 1 rfl) ?_
            refine aldN (pc := 78) (f := r 33) hx hb hE hP 17 rfl (i) (by omega) (by omega) dX8_restore_78 ?_
            refine astN (pc := 79) (f := ovN (r 4) (r 33) i) hx hb hE hP hD hS 3 rfl (i) (by omega) (by omega) dX8_restore_79 (fun H locs hP hD hS => ?_)
            have hP : va_P D vwCl (wR kB kI o a (va_up (va_up z 1 (z 29)) 10 (z 30)) g (va_up (va_up (va_up (va_up (va_up (va_up r 2 (upd (ovN (r 2) (r 31) i) i ((r 31) i))) 3 (upd (ovN (r 3) (r 32) i) i ((r 32) i))) 4 (upd (ovN (r 4) (r 33) i) i ((r 33) i))) 5 (ovN (r 5) (r 34) i)) 6 (ovN (r 6) (r 35) i)) 7 (ovN (r 7) (r 36) i))) H := hP
            have hD : va_D A (wR kB kI o a (va_up (va_up z 1 (z 29)) 10 (z 30)) g (va_up (va_up (va_up (va_up (va_up (va_up r 2 (upd (ovN (r 2) (r 31) i) i ((r 31) i))) 3 (upd (ovN (r 3) (r 32) i) i ((r 32) i))) 4 (upd (ovN (r 4) (r 33) i) i ((r 33) i))) 5 (ovN (r 5) (r 34) i)) 6 (ovN (r 6) (r 35) i)) 7 (ovN (r 7) (r 36) i))) := hD
            refine lv_aload_n (pc := 80) hx hb dX8_restore_80 rfl (lv_at hl 0 rfl) ?_
            refine fget (pc := 81) (v := .ref (a 5)) hx hb hts hown hE hP fl_X8_19 0 rfl rfl dX8_restore_81 ?_
            refine lv_iload_n (pc := 84) hx hb dX8_restore_84 rfl (lv_at hl 1 rfl) ?_
            refine lv_aload_n (pc := 85) hx hb dX8_restore_85 rfl (lv_at hl 0 rfl) ?_
            refine fget (pc := 86) (v := .ref (a 34)) hx hb hts hown hE hP fl_X8_62 0 rfl rfl dX8_restore_86 ?_
            refine lv_iload_n (pc := 89) hx hb dX8_restore_89 rfl (lv_at hl 1 rfl) ?_
            refine aldN (pc := 90) (f := r 34) hx hb hE hP 18 rfl (i) (by omega) (by omega) dX8_restore_90 ?_
            refine astN (pc := 91) (f := ovN (r 5) (r 34) i) hx hb hE hP hD hS 4 rfl (i) (by omega) (by omega) dX8_restore_91 (fun H locs hP hD hS => ?_)
            have hP : va_P D vwCl (wR kB kI o a (va_up (va_up z 1 (z 29)) 10 (z 30)) g (va_up (va_up (va_up (va_up (va_up (va_up r 2 (upd (ovN (r 2) (r 31) i) i ((r 31) i))) 3 (upd (ovN (r 3) (r 32) i) i ((r 32) i))) 4 (upd (ovN (r 4) (r 33) i) i ((r 33) i))) 5 (upd (ovN (r 5) (r 34) i) i ((r 34) i))) 6 (ovN (r 6) (r 35) i)) 7 (ovN (r 7) (r 36) i))) H := hP
            have hD : va_D A (wR kB kI o a (va_up (va_up z 1 (z 29)) 10 (z 30)) g (va_up (va_up (va_up (va_up (va_up (va_up r 2 (upd (ovN (r 2) (r 31) i) i ((r 31) i))) 3 (upd (ovN (r 3) (r 32) i) i ((r 32) i))) 4 (upd (ovN (r 4) (r 33) i) i ((r 33) i))) 5 (upd (ovN (r 5) (r 34) i) i ((r 34) i))) 6 (ovN (r 6) (r 35) i)) 7 (ovN (r 7) (r 36) i))) := hD
            refine lv_aload_n (pc := 92) hx hb dX8_restore_92 rfl (lv_at hl 0 rfl) ?_
            refine fget (pc := 93) (v := .ref (a 6)) hx hb hts hown hE hP fl_X8_22 0 rfl rfl dX8_restore_93 ?_
            refine lv_iload_n (pc := 96) hx hb dX8_restore_96 rfl (lv_at hl 1 rfl) ?_
            refine lv_aload_n (pc := 97) hx hb dX8_restore_97 rfl (lv_at hl 0 rfl) ?_
            refine fget (pc := 98) (v := .ref (a 35)) hx hb hts hown hE hP fl_X8_65 0 rfl rfl dX8_restore_98 ?_
            refine lv_iload_n (pc := 101) hx hb dX8_restore_101 rfl (lv_at hl 1 rfl) ?_
            refine aldN (pc := 102) (f := r 35) hx hb hE hP 19 rfl (i) (by omega) (by omega) dX8_restore_102 ?_
            refine astN (pc := 103) (f := ovN (r 6) (r 35) i) hx hb hE hP hD hS 5 rfl (i) (by omega) (by omega) dX8_restore_103 (fun H locs hP hD hS => ?_)
            have hP : va_P D vwCl (wR kB kI o a (va_up (va_up z 1 (z 29)) 10 (z 30)) g (va_up (va_up (va_up (va_up (va_up (va_up r 2 (upd (ovN (r 2) (r 31) i) i ((r 31) i))) 3 (upd (ovN (r 3) (r 32) i) i ((r 32) i))) 4 (upd (ovN (r 4) (r 33) i) i ((r 33) i))) 5 (upd (ovN (r 5) (r 34) i) i ((r 34) i))) 6 (upd (ovN (r 6) (r 35) i) i ((r 35) i))) 7 (ovN (r 7) (r 36) i))) H := hP
            have hD : va_D A (wR kB kI o a (va_up (va_up z 1 (z 29)) 10 (z 30)) g (va_up (va_up (va_up (va_up (va_up (va_up r 2 (upd (ovN (r 2) (r 31) i) i ((r 31) i))) 3 (upd (ovN (r 3) (r 32) i) i ((r 32) i))) 4 (upd (ovN (r 4) (r 33) i) i ((r 33) i))) 5 (upd (ovN (r 5) (r 34) i) i ((r 34) i))) 6 (upd (ovN (r 6) (r 35) i) i ((r 35) i))) 7 (ovN (r 7) (r 36) i))) := hD
            refine lv_aload_n (pc := 104) hx hb dX8_restore_104 rfl (lv_at hl 0 rfl) ?_
            refine fget (pc := 105) (v := .ref (a 7)) hx hb hts hown hE hP fl_X8_25 0 rfl rfl dX8_restore_105 ?_
            refine lv_iload_n (pc := 108) hx hb dX8_restore_108 rfl (lv_at hl 1 rfl) ?_
            refine lv_aload_n (pc := 109) hx hb dX8_restore_109 rfl (lv_at hl 0 rfl) ?_
            refine fget (pc := 110) (v := .ref (a 36)) hx hb hts hown hE hP fl_X8_68 0 rfl rfl dX8_restore_110 ?_
            refine lv_iload_n (pc := 113) hx hb dX8_restore_113 rfl (lv_at hl 1 rfl) ?_
            refine aldN (pc := 114) (f := r 36) hx hb hE hP 20 rfl (i) (by omega) (by omega) dX8_restore_114 ?_
            refine astN (pc := 115) (f := ovN (r 7) (r 36) i) hx hb hE hP hD hS 6 rfl (i) (by omega) (by omega) dX8_restore_115 (fun H locs hP hD hS => ?_)
            have hP : va_P D vwCl (wR kB kI o a (va_up (va_up z 1 (z 29)) 10 (z 30)) g (va_up (va_up (va_up (va_up (va_up (va_up r 2 (upd (ovN (r 2) (r 31) i) i ((r 31) i))) 3 (upd (ovN (r 3) (r 32) i) i ((r 32) i))) 4 (upd (ovN (r 4) (r 33) i) i ((r 33) i))) 5 (upd (ovN (r 5) (r 34) i) i ((r 34) i))) 6 (upd (ovN (r 6) (r 35) i) i ((r 35) i))) 7 (upd (ovN (r 7) (r 36) i) i ((r 36) i)))) H := hP
            have hD : va_D A (wR kB kI o a (va_up (va_up z 1 (z 29)) 10 (z 30)) g (va_up (va_up (va_up (va_up (va_up (va_up r 2 (upd (ovN (r 2) (r 31) i) i ((r 31) i))) 3 (upd (ovN (r 3) (r 32) i) i ((r 32) i))) 4 (upd (ovN (r 4) (r 33) i) i ((r 33) i))) 5 (upd (ovN (r 5) (r 34) i) i ((r 34) i))) 6 (upd (ovN (r 6) (r 35) i) i ((r 35) i))) 7 (upd (ovN (r 7) (r 36) i) i ((r 36) i)))) := hD
            refine lv_iinc (pc := 116) (v := nI (i + 1)) (lv' := [(1, .int (nI (i + 1))), (0, .ref o)]) hx hb dX8_restore_116 hl (k := 1) rfl (nI_add (i) 1) (by decide) rfl (fun ls hl => ?_)
            refine lv_goto (pc := 119) (tgt := 39) hx hb dX8_restore_119 (by decide) ?_
            exact ih_lp_3 (i + 1) (by omega) (by omega) _ _ (by rw [← ovN_s (r 2) (r 31), ← ovN_s (r 3) (r 32), ← ovN_s (r 4) (r 33), ← ovN_s (r 5) (r 34), ← ovN_s (r 6) (r 35), ← ovN_s (r 7) (r 36)]; exact hP) (by rw [← ovN_s (r 2) (r 31), ← ovN_s (r 3) (r 32), ← ovN_s (r 4) (r 33), ← ovN_s (r 5) (r 34), ← ovN_s (r 6) (r 35), ← ovN_s (r 7) (r 36)]; exact hD) hS ls (lv_sub hl [1, 0] rfl)
      exact lp_3 _ 0 (Nat.lt_succ_self _) (by omega) _ _ (by rw [ovN_0 (r 2) (r 31), ovN_0 (r 3) (r 32), ovN_0 (r 4) (r 33), ovN_0 (r 5) (r 34), ovN_0 (r 6) (r 35), ovN_0 (r 7) (r 36)]; exact hP) (by rw [ovN_0 (r 2) (r 31), ovN_0 (r 3) (r 32), ovN_0 (r 4) (r 33), ovN_0 (r 5) (r 34), ovN_0 (r 6) (r 35), ovN_0 (r 7) (r 36)]; exact hD) hS ls (lv_sub hl [1, 0] rfl)
    · skip
      refine lv_bipush (pc := 18) (v := (-103)) hx hb dX8_restore_18 (by decide) ?_
      have hfn : R_restore z g r = ((-103), z, g, r) := by rw [R_restore, if_neg (fun q => c_2 q.2)]
      rw [hQ]; exact W.iret (pc := 20) hx hb hr (fun t9 ht _ => ⟨⟨retI (by rw [hfn]), by rw [ht, hfn]; exact (show va_P D vwCl (wR kB kI o a z g r) _ from hP)⟩, hS.F ht⟩) hS.2.2 dX8_restore_20 hlocks
end
