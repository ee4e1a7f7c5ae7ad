section
variable {l : Launch} {D : va_G} {kB kI kT : ClassId} {ks sk sv : Nat}
set_option maxRecDepth 100000 in
set_option maxHeartbeats 4000000 in
theorem k_X8_findBest {o : Nat} {a : Nat → Nat} {z : Nat → Int32} {g : Nat → Int64} {r : Nat → Nat → Int32} {n : Nat} {dk : Nat} (hok : okP n (r 8)) (hn5 : n ≤ 5) (hz1 : z 1 = nI n) (hz20 : z 20 = nI dk) (hdk : dk ≤ 4) (hD4 : okD dk (r 21)) : MW l yX8_findBest cX8_findBest 5 none 8 173 D kB kI kT ks sk sv [.ref o] (wR kB kI o a z g r) none (wR kB kI o a (va_up (va_up (va_up z 22 ((bstS z r n dk ((n + 1) ^ dk)).1)) 23 ((bstS z r n dk ((n + 1) ^ dk)).2.1)) 24 ((bstS z r n dk ((n + 1) ^ dk)).2.2)) g (va_up r 8 (plw (r 21) n dk (r 8) ((n + 1) ^ dk)))) := by
  refine MW.go (by decide +kernel) (Nat.le_of_ble_eq_true rfl) ?_
  intro p e s m below meth c0 args Q ls A hQ hx hb hr hml hown hts hlocks hE hP hD hS hl
  have hl : lv_has ls 5 [(0, .ref o)] := hl
  have hown : s.vm.findClass RX8 = some m.cls := hown
  refine lv_iconst (pc := 0) (v := 1) hx hb dX8_findBest_0 (by decide) ?_
  refine lv_istore_n (pc := 1) (lv' := [(1, .int 1), (0, .ref o)]) hx hb dX8_findBest_1 rfl hl (by decide) rfl (fun ls hl => ?_)
  refine lv_iconst (pc := 2) (v := 0) hx hb dX8_findBest_2 (by decide) ?_
  refine lv_istore_n (pc := 3) (lv' := [(2, .int 0), (1, .int 1), (0, .ref o)]) hx hb dX8_findBest_3 rfl hl (by decide) rfl (fun ls hl => ?_)
  have lp_1 : ∀ (fuel : Nat) (j : Nat), dk - j < fuel → (j ≤ dk) → ∀ (H : Heap) (locs : List Loc), va_P D vwCl (wR kB kI o a z g r) H → va_D A (wR kB kI o a z g r) → va_S A s.heap H locs → ∀ (ls : Array Slot), lv_has ls 5 [(0, .ref o), (1, .int (nI ((n + 1) ^ j))), (2, .int (nI j))] → W p l e (rmO 8 173) s m args below meth c0 H locs 0 0 Q (F0 m 4 ls []) := by
    intro fuel
    induction fuel with
    | zero => intro j hfuel; exact absurd hfuel (Nat.not_lt_zero _)
    | succ fuel ih_lp_1 =>
      intro j hfuel hj H locs hP hD hS ls hl
      refine lv_iload_n (pc := 4) hx hb dX8_findBest_4 rfl (lv_at hl 2 rfl) ?_
      refine lv_aload_n (pc := 5) hx hb dX8_findBest_5 rfl (lv_at hl 0 rfl) ?_
      refine fget (pc := 6) (v := .int (z 20)) hx hb hts hown hE hP fl_X8_184 0 rfl rfl dX8_findBest_6 ?_
      refine vEq (v := nI dk) hz20 ?_
      refine lv_icmp_ge (pc := 9) (tgt := 27) hx hb dX8_findBest_9 (by decide) (fun c_2 => ?_) (fun c_2 => ?_)
      · skip
        have c_2n : dk ≤ j := (nI_leI (a := dk) (b := j) (by omega) (by omega)).mp c_2
        have hwl := ways_le hn5 hdk
        refine lv_aload_n (pc := 27) hx hb dX8_findBest_27 rfl (lv_at hl 0 rfl) ?_
        refine lv_ldc (pc := 28) (v := 268435456) hx hb hown (hts _ co_X8_187) dX8_findBest_28 ?_
        refine fput (pc := 30) (v := .int 268435456) hx hb hts hown hE hP hD hS fp_X8_188 0 rfl rfl rfl (Nat.le_of_ble_eq_true rfl) dX8_findBest_30 (fun H locs hP hD hS => ?_)
        have hP : va_P D vwCl (wR kB kI o a (va_up z 23 268435456) g r) H := hP
        have hD : va_D A (wR kB kI o a (va_up z 23 268435456) g r) := hD
        refine lv_iconst (pc := 33) (v := 0) hx hb dX8_findBest_33 (by decide) ?_
        refine lv_istore_n (pc := 34) (lv' := [(2, .int 0), (0, .ref o), (1, .int (nI ((n + 1) ^ j)))]) hx hb dX8_findBest_34 rfl hl (by decide) rfl (fun ls hl => ?_)
        have lp_3 : ∀ (fuel : Nat) (w9 : Nat), (n + 1) ^ dk - w9 < fuel → (w9 ≤ (n + 1) ^ dk) → ∀ (H : Heap) (locs : List Loc), va_P D vwCl (wR kB kI o a (va_up (va_up (va_up z 22 ((bstS z r n dk w9).1)) 23 ((bstS z r n dk w9).2.1)) 24 ((bstS z r n dk w9).2.2)) g (va_up r 8 (plw (r 21) n dk (r 8) w9))) H → va_D A (wR kB kI o a (va_up (va_up (va_up z 22 ((bstS z r n dk w9).1)) 23 ((bstS z r n dk w9).2.1)) 24 ((bstS z r n dk w9).2.2)) g (va_up r 8 (plw (r 21) n dk (r 8) w9))) → va_S A s.heap H locs → ∀ (ls : Array Slot), lv_has ls 5 [(0, .ref o), (1, .int (nI ((n + 1) ^ dk))), (2, .int (nI w9))] → W p l e (rmO 8 173) s m args below meth c0 H locs 0 0 Q (F0 m 35 ls []) := by
          intro fuel
          induction fuel with
          | zero => intro w9 hfuel; exact absurd hfuel (Nat.not_lt_zero _)
          | succ fuel ih_lp_3 =>
            intro w9 hfuel hw9 H locs hP hD hS ls hl
            refine lv_iload_n (pc := 35) hx hb dX8_findBest_35 rfl (lv_at hl 2 rfl) ?_
            refine lv_iload_n (pc := 36) hx hb dX8_findBest_36 rfl (lv_at hl 1 rfl) ?_
            refine lv_icmp_ge (pc := 37) (tgt := 103) hx hb dX8_findBest_37 (by decide) (fun c_4 => ?_) (fun c_4 => ?_)
            · skip
              have c_4n : ((n + 1) ^ dk) ≤ w9 := (nI_leI (a := (n + 1) ^ dk) (b := w9) (by omega) (by omega)).mp c_4
              rw [hQ]; exact W.vret (pc := 103) hx hb hr (fun t9 ht _ => ⟨⟨rfl, by rw [ht]; exact by rw [show (n + 1) ^ dk = w9 by omega]; exact hP⟩, hS.F ht⟩) hS.2.2 dX8_findBest_103 hlocks
            · skip
              have c_4n : ¬ ((n + 1) ^ dk) ≤ w9 := fun hh => c_4 ((nI_leI (a := (n + 1) ^ dk) (b := w9) (by omega) (by omega)).mpr hh)
              refine lv_aload_n (pc := 40) hx hb dX8_findBest_40 rfl (lv_at hl 0 rfl) ?_
              refine lv_iload_n (pc := 41) hx hb dX8_findBest_41 rfl (lv_at hl 2 rfl) ?_
              refine wVa (pc := 42) (rest := []) ⟨hx, hb, hml, hown, hts⟩ (k_X8_fillBy (w := w9) (z := (va_up (va_up (va_up z 22 ((bstS z r n dk w9).1)) 23 ((bstS z r n dk w9).2.1)) 24 ((bstS z r n dk w9).2.2))) (g := g) (r := (va_up r 8 (plw (r 21) n dk (r 8) w9))) (hz1 := hz1) (hn5 := hn5) (hz20 := hz20) (hdk := hdk) (hD4 := hD4) (hw := (by omega)) (n := n) (dk := dk)) cw_X8_191 ⟨(Nat.le_of_ble_eq_true rfl), (Nat.le_of_ble_eq_true rfl)⟩ hE hP hD hS rfl rfl rfl rfl rfl hl.1 rfl (Nat.le_of_ble_eq_true rfl) dX8_findBest_42 ⟨Nat.le_refl _, Nat.le_refl _⟩ (fun H locs hP hD hS => ?_)
              have hP : va_P D vwCl (wR kB kI o a (va_up (va_up (va_up z 22 ((bstS z r n dk w9).1)) 23 ((bstS z r n dk w9).2.1)) 24 ((bstS z r n dk w9).2.2)) g (va_up r 8 (fbR ((r 21)) n dk ((plw (r 21) n dk (r 8) w9)) w9))) H := hP
              have hD : va_D A (wR kB kI o a (va_up (va_up (va_up z 22 ((bstS z r n dk w9).1)) 23 ((bstS z r n dk w9).2.1)) 24 ((bstS z r n dk w9).2.2)) g (va_up r 8 (fbR ((r 21)) n dk ((plw (r 21) n dk (r 8) w9)) w9))) := hD
              refine W.eq (g2 := F0 m 45 ls []) rfl ?_
              have hpw : fbR (r 21) n dk (plw (r 21) n dk (r 8) w9) w9 = plw (r 21) n dk (r 8) (w9 + 1) := fbR_plw w9 w9
              rw [hpw] at hP hD
              have hP : va_P D vwCl (wR kB kI o a (va_up (va_up (va_up z 22 ((bstS z r n dk w9).1)) 23 ((bstS z r n dk w9).2.1)) 24 ((bstS z r n dk w9).2.2)) g (va_up r 8 (plw (r 21) n dk (r 8) (w9 + 1)))) H := hP
              have hD : va_D A (wR kB kI o a (va_up (va_up (va_up z 22 ((bstS z r n dk w9).1)) 23 ((bstS z r n dk w9).2.1)) 24 ((bstS z r n dk w9).2.2)) g (va_up r 8 (plw (r 21) n dk (r 8) (w9 + 1)))) := hD
              refine lv_aload_n (pc := 45) hx hb dX8_findBest_45 rfl (lv_at hl 0 rfl) ?_
              refine rV (pc := 46) (rest := []) ⟨hx, hb, hml, hown, hts⟩ (k_X8_lost (z := (va_up (va_up (va_up z 22 ((bstS z r n dk w9).1)) 23 ((bstS z r n dk w9).2.1)) 24 ((bstS z r n dk w9).2.2))) (g := g) (r := (va_up r 8 (plw (r 21) n dk (r 8) (w9 + 1)))) (hok := (okP_plw (dark := r 21) (dk := dk) hok (w9 + 1))) (hn5 := hn5)) cw_X8_195 ⟨(Nat.le_of_ble_eq_true rfl), (Nat.le_of_ble_eq_true rfl)⟩ hE hS hP rfl rfl rfl rfl hl.1 rfl (Nat.le_of_ble_eq_true rfl) dX8_findBest_46 ⟨Nat.le_refl _, Nat.le_refl _⟩ ?_
              refine W.eq (g2 := F0 m 49 ls [.int (12 - nI (nOn ((plw (r 21) n dk (r 8) (w9 + 1))) 12) + nI (cntP (fun j => 0 < brk ((r 2)) ((r 3)) ((r 4)) ((r 5)) ((r 6)) ((plw (r 21) n dk (r 8) (w9 + 1))) j) 12))]) rfl ?_
              refine vEq (v := wLost r n dk w9) rfl ?_
              refine lv_istore_n (pc := 49) (lv' := [(3, .int (wLost r n dk w9)), (0, .ref o), (1, .int (nI ((n + 1) ^ dk))), (2, .int (nI w9))]) hx hb dX8_findBest_49 rfl hl (by decide) rfl (fun ls hl => ?_)
              refine lv_aload_n (pc := 50) hx hb dX8_findBest_50 rfl (lv_at hl 1 rfl) ?_
              refine rV (pc := 51) (rest := []) ⟨hx, hb, hml, hown, hts⟩ (k_X8_earned (z := (va_up (va_up (va_up z 22 ((bstS z r n dk w9).1)) 23 ((bstS z r n dk w9).2.1)) 24 ((bstS z r n dk w9).2.2))) (g := g) (r := (va_up r 8 (plw (r 21) n dk (r 8) (w9 + 1)))) (hok := (okP_plw (dark := r 21) (dk := dk) hok (w9 + 1))) (hn5 := hn5)) cw_X8_198 ⟨(Nat.le_of_ble_eq_true rfl), (Nat.le_of_ble_eq_true rfl)⟩ hE hS hP rfl rfl rfl rfl hl.1 rfl (Nat.le_of_ble_eq_true rfl) dX8_findBest_51 ⟨Nat.le_refl _, Nat.le_refl _⟩ ?_
              refine W.eq (g2 := F0 m 54 ls [.int (sumI (fun j => if brk ((r 2)) ((r 3)) ((r 4)) ((r 5)) ((r 6)) ((plw (r 21) n dk (r 8) (w9 + 1))) j = 0 then sts ((r 2)) ((r 7)) ((plw (r 21) n dk (r 8) (w9 + 1))) j else 0) 12)]) rfl ?_
              refine vEq (v := wErn r n dk w9) rfl ?_
              refine lv_istore (pc := 54) (lv' := [(4, .int (wErn r n dk w9)), (3, .int (wLost r n dk w9)), (0, .ref o), (1, .int (nI ((n + 1) ^ dk))), (2, .int (nI w9))]) hx hb dX8_findBest_54 hl (by decide) rfl (fun ls hl => ?_)
              refine lv_iload_n (pc := 56) hx hb dX8_findBest_56 rfl (lv_at hl 1 rfl) ?_
              refine lv_aload_n (pc := 57) hx hb dX8_findBest_57 rfl (lv_at hl 2 rfl) ?_
              refine fget (pc := 58) (v := .int ((bstS z r n dk w9).2.1)) hx hb hts hown hE hP fl_X8_188 0 rfl rfl dX8_findBest_58 ?_
              refine lv_icmp_lt (pc := 61) (tgt := 81) hx hb dX8_findBest_61 (by decide) (fun c_5 => ?_) (fun c_5 => ?_)
              · skip
                refine lv_aload_n (pc := 81) hx hb dX8_findBest_81 rfl (lv_at hl 2 rfl) ?_
                refine lv_iload_n (pc := 82) hx hb dX8_findBest_82 rfl (lv_at hl 4 rfl) ?_
                refine fput (pc := 83) (v := .int (nI w9)) hx hb hts hown hE hP hD hS fp_X8_204 0 rfl rfl rfl (Nat.le_of_ble_eq_true rfl) dX8_findBest_83 (fun H locs hP hD hS => ?_)
                have hP : va_P D vwCl (wR kB kI o a (va_up (va_up (va_up z 22 (nI w9)) 23 ((bstS z r n dk w9).2.1)) 24 ((bstS z r n dk w9).2.2)) g (va_up r 8 (plw (r 21) n dk (r 8) (w9 + 1)))) H := hP
                have hD : va_D A (wR kB kI o a (va_up (va_up (va_up z 22 (nI w9)) 23 ((bstS z r n dk w9).2.1)) 24 ((bstS z r n dk w9).2.2)) g (va_up r 8 (plw (r 21) n dk (r 8) (w9 + 1)))) := hD
                refine lv_aload_n (pc := 86) hx hb dX8_findBest_86 rfl (lv_at hl 2 rfl) ?_
                refine lv_iload_n (pc := 87) hx hb dX8_findBest_87 rfl (lv_at hl 1 rfl) ?_
                refine fput (pc := 88) (v := .int (wLost r n dk w9)) hx hb hts hown hE hP hD hS fp_X8_188 0 rfl rfl rfl (Nat.le_of_ble_eq_true rfl) dX8_findBest_88 (fun H locs hP hD hS => ?_)
                have hP : va_P D vwCl (wR kB kI o a (va_up (va_up (va_up z 22 (nI w9)) 23 (wLost r n dk w9)) 24 ((bstS z r n dk w9).2.2)) g (va_up r 8 (plw (r 21) n dk (r 8) (w9 + 1)))) H := hP
                have hD : va_D A (wR kB kI o a (va_up (va_up (va_up z 22 (nI w9)) 23 (wLost r n dk w9)) 24 ((bstS z r n dk w9).2.2)) g (va_up r 8 (plw (r 21) n dk (r 8) (w9 + 1)))) := hD
                refine lv_aload_n (pc := 91) hx hb dX8_findBest_91 rfl (lv_at hl 2 rfl) ?_
                refine lv_iload (pc := 92) hx hb dX8_findBest_92 (lv_at hl 0 rfl) ?_
                refine fput (pc := 94) (v := .int (wErn r n dk w9)) hx hb hts hown hE hP hD hS fp_X8_201 0 rfl rfl rfl (Nat.le_of_ble_eq_true rfl) dX8_findBest_94 (fun H locs hP hD hS => ?_)
                have hP : va_P D vwCl (wR kB kI o a (va_up (va_up (va_up z 22 (nI w9)) 23 (wLost r n dk w9)) 24 (wErn r n dk w9)) g (va_up r 8 (plw (r 21) n dk (r 8) (w9 + 1)))) H := hP
                have hD : va_D A (wR kB kI o a (va_up (va_up (va_up z 22 (nI w9)) 23 (wLost r n dk w9)) 24 (wErn r n dk w9)) g (va_up r 8 (plw (r 21) n dk (r 8) (w9 + 1)))) := hD
                refine lv_iinc (pc := 97) (v := nI (w9 + 1)) (lv' := [(2, .int (nI (w9 + 1))), (4, .int (wErn r n dk w9)), (3, .int (wLost r n dk w9)), (0, .ref o), (1, .int (nI ((n + 1) ^ dk)))]) hx hb dX8_findBest_97 hl (k := 4) rfl (nI_add (w9) 1) (by decide) rfl (fun ls hl => ?_)
                refine lv_goto (pc := 100) (tgt := 35) hx hb dX8_findBest_100 (by decide) ?_
                exact ih_lp_3 (w9 + 1) (by omega) (by omega) _ _ (by rw [bstS_t (Or.inl c_5)]; exact hP) (by rw [bstS_t (Or.inl c_5)]; exact hD) hS ls (lv_sub hl [3, 4, 0] rfl)
              · skip
                refine lv_iload_n (pc := 64) hx hb dX8_findBest_64 rfl (lv_at hl 1 rfl) ?_
                refine lv_aload_n (pc := 65) hx hb dX8_findBest_65 rfl (lv_at hl 2 rfl) ?_
                refine fget (pc := 66) (v := .int ((bstS z r n dk w9).2.1)) hx hb hts hown hE hP fl_X8_188 0 rfl rfl dX8_findBest_66 ?_
                refine lv_icmp_ne (pc := 69) (tgt := 97) hx hb dX8_findBest_69 (by decide) (fun c_6 => ?_) (fun c_6 => ?_)
                · skip
                  refine lv_iinc (pc := 97) (v := nI (w9 + 1)) (lv' := [(2, .int (nI (w9 + 1))), (4, .int (wErn r n dk w9)), (3, .int (wLost r n dk w9)), (0, .ref o), (1, .int (nI ((n + 1) ^ dk)))]) hx hb dX8_findBest_97 hl (k := 4) rfl (nI_add (w9) 1) (by decide) rfl (fun ls hl => ?_)
                  refine lv_goto (pc := 100) (tgt := 35) hx hb dX8_findBest_100 (by decide) ?_
                  exact ih_lp_3 (w9 + 1) (by omega) (by omega) _ _ (by rw [bstS_f (fun q => q.elim c_5 (fun q => c_6 q.1))]; exact hP) (by rw [bstS_f (fun q => q.elim c_5 (fun q => c_6 q.1))]; exact hD) hS ls (lv_sub hl [3, 4, 0] rfl)
                · skip
                  refine lv_iload (pc := 72) hx hb dX8_findBest_72 (lv_at hl 0 rfl) ?_
                  refine lv_aload_n (pc := 74) hx hb dX8_findBest_74 rfl (lv_at hl 2 rfl) ?_
                  refine fget (pc := 75) (v := .int ((bstS z r n dk w9).2.2)) hx hb hts hown hE hP fl_X8_201 0 rfl rfl dX8_findBest_75 ?_
                  refine lv_icmp_le (pc := 78) (tgt := 97) hx hb dX8_findBest_78 (by decide) (fun c_7 => ?_) (fun c_7 => ?_)
                  · skip
                    refine lv_iinc (pc := 97) (v := nI (w9 + 1)) (lv' := [(2, .int (nI (w9 + 1))), (4, .int (wErn r n dk w9)), (3, .int (wLost r n dk w9)), (0, .ref o), (1, .int (nI ((n + 1) ^ dk)))]) hx hb dX8_findBest_97 hl (k := 4) rfl (nI_add (w9) 1) (by decide) rfl (fun ls hl => ?_)
                    refine lv_goto (pc := 100) (tgt := 35) hx hb dX8_findBest_100 (by decide) ?_
                    exact ih_lp_3 (w9 + 1) (by omega) (by omega) _ _ (by rw [bstS_f (fun q => q.elim c_5 (fun q => absurd q.2 (Int32.not_lt.mpr c_7)))]; exact hP) (by rw [bstS_f (fun q => q.elim c_5 (fun q => absurd q.2 (Int32.not_lt.mpr c_7)))]; exact hD) hS ls (lv_sub hl [3, 4, 0] rfl)
                  · skip
                    refine lv_aload_n (pc := 81) hx hb dX8_findBest_81 rfl (lv_at hl 2 rfl) ?_
                    refine lv_iload_n (pc := 82) hx hb dX8_findBest_82 rfl (lv_at hl 4 rfl) ?_
                    refine fput (pc := 83) (v := .int (nI w9)) hx hb hts hown hE hP hD hS fp_X8_204 0 rfl rfl rfl (Nat.le_of_ble_eq_true rfl) dX8_findBest_83 (fun H locs hP hD hS => ?_)
                    have hP : va_P D vwCl (wR kB kI o a (va_up (va_up (va_up z 22 (nI w9)) 23 ((bstS z r n dk w9).2.1)) 24 ((bstS z r n dk w9).2.2)) g (va_up r 8 (plw (r 21) n dk (r 8) (w9 + 1)))) H := hP
                    have hD : va_D A (wR kB kI o a (va_up (va_up (va_up z 22 (nI w9)) 23 ((bstS z r n dk w9).2.1)) 24 ((bstS z r n dk w9).2.2)) g (va_up r 8 (plw (r 21) n dk (r 8) (w9 + 1)))) := hD
                    refine lv_aload_n (pc := 86) hx hb dX8_findBest_86 rfl (lv_at hl 2 rfl) ?_
                    refine lv_iload_n (pc := 87) hx hb dX8_findBest_87 rfl (lv_at hl 1 rfl) ?_
                    refine fput (pc := 88) (v := .int (wLost r n dk w9)) hx hb hts hown hE hP hD hS fp_X8_188 0 rfl rfl rfl (Nat.le_of_ble_eq_true rfl) dX8_findBest_88 (fun H locs hP hD hS => ?_)
                    have hP : va_P D vwCl (wR kB kI o a (va_up (va_up (va_up z 22 (nI w9)) 23 (wLost r n dk w9)) 24 ((bstS z r n dk w9).2.2)) g (va_up r 8 (plw (r 21) n dk (r 8) (w9 + 1)))) H := hP
                    have hD : va_D A (wR kB kI o a (va_up (va_up (va_up z 22 (nI w9)) 23 (wLost r n dk w9)) 24 ((bstS z r n dk w9).2.2)) g (va_up r 8 (plw (r 21) n dk (r 8) (w9 + 1)))) := hD
                    refine lv_aload_n (pc := 91) hx hb dX8_findBest_91 rfl (lv_at hl 2 rfl) ?_
                    refine lv_iload (pc := 92) hx hb dX8_findBest_92 (lv_at hl 0 rfl) ?_
                    refine fput (pc := 94) (v := .int (wErn r n dk w9)) hx hb hts hown hE hP hD hS fp_X8_201 0 rfl rfl rfl (Nat.le_of_ble_eq_true rfl) dX8_findBest_94 (fun H locs hP hD hS => ?_)
                    have hP : va_P D vwCl (wR kB kI o a (va_up (va_up (va_up z 22 (nI w9)) 23 (wLost r n dk w9)) 24 (wErn r n dk w9)) g (va_up r 8 (plw (r 21) n dk (r 8) (w9 + 1)))) H := hP
                    have hD : va_D A (wR kB kI o a (va_up (va_up (va_up z 22 (nI w9)) 23 (wLost r n dk w9)) 24 (wErn r n dk w9)) g (va_up r 8 (plw (r 21) n dk (r 8) (w9 + 1)))) := hD
                    refine lv_iinc (pc := 97) (v := nI (w9 + 1)) (lv' := [(2, .int (nI (w9 + 1))), (4, .int (wErn r n dk w9)), (3, .int (wLost r n dk w9)), (0, .ref o), (1, .int (nI ((n + 1) ^ dk)))]) hx hb dX8_findBest_97 hl (k := 4) rfl (nI_add (w9) 1) (by decide) rfl (fun ls hl => ?_)
                    refine lv_goto (pc := 100) (tgt := 35) hx hb dX8_findBest_100 (by decide) ?_
                    exact ih_lp_3 (w9 + 1) (by omega) (by omega) _ _ (by rw [bstS_t (Or.inr ⟨c_6, Int32.not_le.mp c_7⟩)]; exact hP) (by rw [bstS_t (Or.inr ⟨c_6, Int32.not_le.mp c_7⟩)]; exact hD) hS ls (lv_sub hl [3, 4, 0] rfl)
        exact lp_3 _ 0 (Nat.lt_succ_self _) (by omega) _ _ hP hD hS ls (by rw [show dk = j by omega]; exact lv_sub hl [1, 2, 0] rfl)
      · skip
        have c_2n : ¬ dk ≤ j := fun hh => c_2 ((nI_leI (a := dk) (b := j) (by omega) (by omega)).mpr hh)
        refine lv_iload_n (pc := 12) hx hb dX8_findBest_12 rfl (lv_at hl 1 rfl) ?_
        refine lv_aload_n (pc := 13) hx hb dX8_findBest_13 rfl (lv_at hl 0 rfl) ?_
        refine fget (pc := 14) (v := .int (z 1)) hx hb hts hown hE hP fl_X8_124 0 rfl rfl dX8_findBest_14 ?_
        refine vEq (v := nI n) hz1 ?_
        refine lv_iconst (pc := 17) (v := 1) hx hb dX8_findBest_17 (by decide) ?_
        refine iaddV (pc := 18) (v := nI (n + 1)) hx hb dX8_findBest_18 (nI_add (n) (1)) ?_
        refine imulV (pc := 19) (v := nI (((n + 1) ^ j) * (n + 1))) hx hb dX8_findBest_19 (pk_mul ((n + 1) ^ j) (n + 1)) ?_
        refine lv_istore_n (pc := 20) (lv' := [(1, .int (nI (((n + 1) ^ j) * (n + 1)))), (0, .ref o), (2, .int (nI j))]) hx hb dX8_findBest_20 rfl hl (by decide) rfl (fun ls hl => ?_)
        refine lv_iinc (pc := 21) (v := nI (j + 1)) (lv' := [(2, .int (nI (j + 1))), (1, .int (nI (((n + 1) ^ j) * (n + 1)))), (0, .ref o)]) hx hb dX8_findBest_21 hl (k := 2) rfl (nI_add (j) 1) (by decide) rfl (fun ls hl => ?_)
        refine lv_goto (pc := 24) (tgt := 4) hx hb dX8_findBest_24 (by decide) ?_
        exact ih_lp_1 (j + 1) (by omega) (by omega) _ _ hP hD hS ls (by rw [show (nI ((n + 1) ^ (j + 1)) : Int32) = nI (((n + 1) ^ j) * (n + 1)) from (by rw [Nat.pow_succ])]; exact lv_sub hl [2, 1, 0] rfl)
  exact lp_1 _ 0 (Nat.lt_succ_self _) (by omega) _ _ hP hD hS ls (lv_sub hl [2, 1, 0] rfl)
end
