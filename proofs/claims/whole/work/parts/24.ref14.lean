section
variable {l : Launch} {D : va_G} {kB kI kT : ClassId} {ks sk sv : Nat}
set_option maxRecDepth 100000 in
set_option maxHeartbeats 4000000 in
theorem k_X8_draw {o : Nat} {a : Nat → Nat} {z : Nat → Int32} {g : Nat → Int64} {r : Nat → Nat → Int32} (d : Nat) {sd : Nat} (hg25 : g 25 = lN sd) (hsd : sd < 2147483648) (hd : 0 < d) (hd2 : d < 100) : MW l yX8_draw cX8_draw 2 (some .int) 0 0 D kB kI kT ks sk sv [.ref o, .int (nI d)] (wR kB kI o a z g r) (some (.int (nI (nxt sd / 65536 % d)))) (wR kB kI o a z (va_up g 25 (lN (nxt sd))) r) := by
  refine MW.go (by decide +kernel) (Nat.le_of_ble_eq_true rfl) ?_
  intro p e s m below meth c0 args Q ls A hQ hx hb hr hml hown hts hlocks hE hP hD hS hl
  have hl : lv_has ls 2 [(0, .ref o), (1, .int (nI d))] := hl
  have hown : s.vm.findClass RX8 = some m.cls := hown
  refine lv_aload_n (pc := 0) hx hb dX8_draw_0 rfl (lv_at hl 0 rfl) ?_
  refine lv_ldc2 (pc := 1) (v := 1103515245) hx hb hown (hts _ co_X8_242) dX8_draw_1 ?_
  refine lv_aload_n (pc := 4) hx hb dX8_draw_4 rfl (lv_at hl 0 rfl) ?_
  refine fget (pc := 5) (v := .long (g 25)) hx hb hts hown hE hP fl_X8_244 0 rfl rfl dX8_draw_5 ?_
  refine vEqL (v := lN sd) hg25 ?_
  refine lv_lmul (pc := 8) hx hb dX8_draw_8 ?_
  refine vEqL (v := lN (1103515245 * sd)) (lN_mul 1103515245 sd) ?_
  refine lv_ldc2 (pc := 9) (v := 12345) hx hb hown (hts _ co_X8_248) dX8_draw_9 ?_
  refine lv_ladd (pc := 12) hx hb dX8_draw_12 ?_
  refine vEqL (v := lN (1103515245 * sd + 12345)) (lN_add (1103515245 * sd) 12345) ?_
  refine lv_ldc2 (pc := 13) (v := 2147483647) hx hb hown (hts _ co_X8_250) dX8_draw_13 ?_
  refine lv_land (pc := 16) hx hb dX8_draw_16 ?_
  refine vEqL (v := lN (nxt sd)) (mask31 _) ?_
  refine fput (pc := 17) (v := .long (lN (nxt sd))) hx hb hts hown hE hP hD hS fp_X8_244 0 rfl rfl rfl (Nat.le_of_ble_eq_true rfl) dX8_draw_17 (fun H locs hP hD hS => ?_)
  have hP : va_P D vwCl (wR kB kI o a z (va_up g 25 (lN (nxt sd))) r) H := hP
  have hD : va_D A (wR kB kI o a z (va_up g 25 (lN (nxt sd))) r) := hD
  refine lv_aload_n (pc := 20) hx hb dX8_draw_20 rfl (lv_at hl 0 rfl) ?_
  refine fget (pc := 21) (v := .long (lN (nxt sd))) hx hb hts hown hE hP fl_X8_244 0 rfl rfl dX8_draw_21 ?_
  refine lv_ldc2 (pc := 24) (v := 65536) hx hb hown (hts _ co_X8_252) dX8_draw_24 ?_
  refine lv_ldiv (pc := 27) hx hb dX8_draw_27 (by decide) ?_
  refine vEqL (v := lN (nxt sd / 65536)) (pk_lDiv (a := nxt sd) (b := 65536) (by have := nxt_lt sd; omega) (by omega) (by omega)) ?_
  refine lv_iload_n (pc := 28) hx hb dX8_draw_28 rfl (lv_at hl 1 rfl) ?_
  refine lv_i2l (pc := 29) (v := lN d) hx hb dX8_draw_29 (nI_l (by omega)) ?_
  refine lv_lrem (pc := 30) hx hb dX8_draw_30 (fun q => by have h9 := (pk_lEQ (a := d) (b := 0) (by omega) (by omega)).mp q; omega) ?_
  refine vEqL (v := lN (nxt sd / 65536 % d)) (pk_lRem (by have := nxt_lt sd; omega) (by omega) (by omega)) ?_
  refine lv_l2i (pc := 31) (v := nI (nxt sd / 65536 % d)) hx hb dX8_draw_31 (lN_i _) ?_
  rw [hQ]; exact W.iret (pc := 32) hx hb hr (fun t9 ht _ => ⟨⟨retI (rfl), by rw [ht]; exact hP⟩, hS.F ht⟩) hS.2.2 dX8_draw_32 hlocks
set_option maxRecDepth 100000 in
set_option maxHeartbeats 4000000 in
theorem k_X8_drawnNow {o : Nat} {a : Nat → Nat} {z : Nat → Int32} {g : Nat → Int64} {r : Nat → Nat → Int32} (tm : Nat) (sd : Nat) (what : Int32) {n : Nat} (hz1 : z 1 = nI n) (hn5 : n ≤ 5) (htm : tm ≤ 20) (hsd : sd < 2147483648) : MW l yX8_drawnNow cX8_drawnNow 8 (some .int) 7 153 D kB kI kT ks sk sv [.ref o, .int (nI tm), .int (nI sd), .int what] (wR kB kI o a z g r) (some (.int ((R_drawnNow z g r n tm sd what).1))) (wR kB kI o a (R_drawnNow z g r n tm sd what).2.1 (R_drawnNow z g r n tm sd what).2.2.1 (R_drawnNow z g r n tm sd what).2.2.2) := by
  refine MW.go (by decide +kernel) (Nat.le_of_ble_eq_true rfl) ?_
  intro p e s m below meth c0 args Q ls A hQ hx hb hr hml hown hts hlocks hE hP hD hS hl
  have hl : lv_has ls 8 [(0, .ref o), (1, .int (nI tm)), (2, .int (nI sd)), (3, .int what)] := hl
  have hown : s.vm.findClass RX8 = some m.cls := hown
  refine lv_iconst (pc := 0) (v := 0) hx hb dX8_drawnNow_0 (by decide) ?_
  refine lv_istore (pc := 1) (lv' := [(4, .int 0), (0, .ref o), (1, .int (nI tm)), (2, .int (nI sd)), (3, .int what)]) hx hb dX8_drawnNow_1 hl (by decide) rfl (fun ls hl => ?_)
  have lp_1 : ∀ (fuel : Nat) (i : Nat), 12 - i < fuel → (i ≤ 12) → ∀ (H : Heap) (locs : List Loc), va_P D vwCl (wR kB kI o a z g (va_up r 26 (ovN (r 26) (r 8) i))) H → va_D A (wR kB kI o a z g (va_up r 26 (ovN (r 26) (r 8) i))) → va_S A s.heap H locs → ∀ (ls : Array Slot), lv_has ls 8 [(0, .ref o), (1, .int (nI tm)), (2, .int (nI sd)), (3, .int what), (4, .int (nI i))] → W p l e (rmO 7 153) s m args below meth c0 H locs 0 0 Q (F0 m 3 ls []) := by
    intro fuel
    induction fuel with
    | zero => intro i hfuel; exact absurd hfuel (Nat.not_lt_zero _)
    | succ fuel ih_lp_1 =>
      intro i hfuel hi H locs hP hD hS ls hl
      refine lv_iload (pc := 3) hx hb dX8_drawnNow_3 (lv_at hl 4 rfl) ?_
      refine lv_bipush (pc := 5) (v := 12) hx hb dX8_drawnNow_5 (by decide) ?_
      refine lv_icmp_ge (pc := 7) (tgt := 30) hx hb dX8_drawnNow_7 (by decide) (fun c_2 => ?_) (fun c_2 => ?_)
      · skip
        have c_2n : 12 ≤ i := (nI_leI (a := 12) (b := i) (by omega) (by omega)).mp c_2
        have hws_i : i = 12 := by omega
        rw [hws_i] at hP hD
        refine lv_aload_n (pc := 30) hx hb dX8_drawnNow_30 rfl (lv_at hl 0 rfl) ?_
        refine lv_iload_n (pc := 31) hx hb dX8_drawnNow_31 rfl (lv_at hl 2 rfl) ?_
        refine lv_i2l (pc := 32) (v := lN sd) hx hb dX8_drawnNow_32 (nI_l (by omega)) ?_
        refine fput (pc := 33) (v := .long (lN sd)) hx hb hts hown hE hP hD hS fp_X8_244 0 rfl rfl rfl (Nat.le_of_ble_eq_true rfl) dX8_drawnNow_33 (fun H locs hP hD hS => ?_)
        have hP : va_P D vwCl (wR kB kI o a z (va_up g 25 (lN sd)) (va_up r 26 (ovN (r 26) (r 8) 12))) H := hP
        have hD : va_D A (wR kB kI o a z (va_up g 25 (lN sd)) (va_up r 26 (ovN (r 26) (r 8) 12))) := hD
        refine lv_iconst (pc := 36) (v := 0) hx hb dX8_drawnNow_36 (by decide) ?_
        refine lv_istore (pc := 37) (lv' := [(4, .int 0), (0, .ref o), (1, .int (nI tm)), (2, .int (nI sd)), (3, .int what)]) hx hb dX8_drawnNow_37 hl (by decide) rfl (fun ls hl => ?_)
        refine lv_iconst (pc := 39) (v := 0) hx hb dX8_drawnNow_39 (by decide) ?_
        refine lv_istore (pc := 40) (lv' := [(5, .int 0), (4, .int 0), (0, .ref o), (1, .int (nI tm)), (2, .int (nI sd)), (3, .int what)]) hx hb dX8_drawnNow_40 hl (by decide) rfl (fun ls hl => ?_)
        refine lv_iconst (pc := 42) (v := 0) hx hb dX8_drawnNow_42 (by decide) ?_
        refine lv_istore (pc := 43) (lv' := [(6, .int 0), (5, .int 0), (4, .int 0), (0, .ref o), (1, .int (nI tm)), (2, .int (nI sd)), (3, .int what)]) hx hb dX8_drawnNow_43 hl (by decide) rfl (fun ls hl => ?_)
        have lp_3 : ∀ (fuel : Nat) (k : Nat), tm - k < fuel → (k ≤ tm) → ∀ (H : Heap) (locs : List Loc), va_P D vwCl (wR kB kI o a z (va_up g 25 (lN (itN (12 * k) sd))) (va_up (va_up r 8 (dpS n sd (r 8) k)) 26 (ovN (r 26) (r 8) 12))) H → va_D A (wR kB kI o a z (va_up g 25 (lN (itN (12 * k) sd))) (va_up (va_up r 8 (dpS n sd (r 8) k)) 26 (ovN (r 26) (r 8) 12))) → va_S A s.heap H locs → ∀ (ls : Array Slot), lv_has ls 8 [(0, .ref o), (1, .int (nI tm)), (2, .int (nI sd)), (3, .int what), (4, .int (nI (dBr r n sd k))), (5, .int (dEr r n sd k)), (6, .int (nI k))] → W p l e (rmO 7 153) s m args below meth c0 H locs 0 0 Q (F0 m 45 ls []) := by
          intro fuel
          induction fuel with
          | zero => intro k hfuel; exact absurd hfuel (Nat.not_lt_zero _)
          | succ fuel ih_lp_3 =>
            intro k hfuel hk H locs hP hD hS ls hl
            refine lv_iload (pc := 45) hx hb dX8_drawnNow_45 (lv_at hl 6 rfl) ?_
            refine lv_iload_n (pc := 47) hx hb dX8_drawnNow_47 rfl (lv_at hl 1 rfl) ?_
            refine lv_icmp_ge (pc := 48) (tgt := 110) hx hb dX8_drawnNow_48 (by decide) (fun c_4 => ?_) (fun c_4 => ?_)
            · skip
              have c_4n : tm ≤ k := (nI_leI (a := tm) (b := k) (by omega) (by omega)).mp c_4
              have hktm : k = tm := by omega
              rw [hktm] at hP hD
              have hP : va_P D vwCl (wR kB kI o a z (va_up g 25 (lN (itN (12 * tm) sd))) (va_up (va_up r 8 (dpS n sd (r 8) tm)) 26 (ovN (r 26) (r 8) 12))) H := hP
              have hD : va_D A (wR kB kI o a z (va_up g 25 (lN (itN (12 * tm) sd))) (va_up (va_up r 8 (dpS n sd (r 8) tm)) 26 (ovN (r 26) (r 8) 12))) := hD
              refine lv_iconst (pc := 110) (v := 0) hx hb dX8_drawnNow_110 (by decide) ?_
              refine lv_istore (pc := 111) (lv' := [(6, .int 0), (0, .ref o), (1, .int (nI tm)), (2, .int (nI sd)), (3, .int what), (4, .int (nI (dBr r n sd k))), (5, .int (dEr r n sd k))]) hx hb dX8_drawnNow_111 hl (by decide) rfl (fun ls hl => ?_)
              have lp_5 : ∀ (fuel : Nat) (j : Nat), 12 - j < fuel → (j ≤ 12) → ∀ (H : Heap) (locs : List Loc), va_P D vwCl (wR kB kI o a z (va_up g 25 (lN (itN (12 * tm) sd))) (va_up (va_up r 8 (ovN (dpS n sd (r 8) tm) (ovN (r 26) (r 8) 12) j)) 26 (ovN (r 26) (r 8) 12))) H → va_D A (wR kB kI o a z (va_up g 25 (lN (itN (12 * tm) sd))) (va_up (va_up r 8 (ovN (dpS n sd (r 8) tm) (ovN (r 26) (r 8) 12) j)) 26 (ovN (r 26) (r 8) 12))) → va_S A s.heap H locs → ∀ (ls : Array Slot), lv_has ls 8 [(0, .ref o), (1, .int (nI tm)), (2, .int (nI sd)), (3, .int what), (4, .int (nI (dBr r n sd tm))), (5, .int (dEr r n sd tm)), (6, .int (nI j))] → W p l e (rmO 7 153) s m args below meth c0 H locs 0 0 Q (F0 m 113 ls []) := by
                intro fuel
                induction fuel with
                | zero => intro j hfuel; exact absurd hfuel (Nat.not_lt_zero _)
                | succ fuel ih_lp_5 =>
                  intro j hfuel hj H locs hP hD hS ls hl
                  refine lv_iload (pc := 113) hx hb dX8_drawnNow_113 (lv_at hl 6 rfl) ?_
                  refine lv_bipush (pc := 115) (v := 12) hx hb dX8_drawnNow_115 (by decide) ?_
                  refine lv_icmp_ge (pc := 117) (tgt := 140) hx hb dX8_drawnNow_117 (by decide) (fun c_6 => ?_) (fun c_6 => ?_)
                  · skip
                    have c_6n : 12 ≤ j := (nI_leI (a := 12) (b := j) (by omega) (by omega)).mp c_6
                    have hws_j : j = 12 := by omega
                    rw [hws_j] at hP hD
                    refine lv_iload_n (pc := 140) hx hb dX8_drawnNow_140 rfl (lv_at hl 3 rfl) ?_
                    refine lv_if_ne (pc := 141) (tgt := 149) hx hb dX8_drawnNow_141 (by decide) (fun c_7 => ?_) (fun c_7 => ?_)
                    · skip
                      refine lv_iload_n (pc := 149) hx hb dX8_drawnNow_149 rfl (lv_at hl 3 rfl) ?_
                      refine lv_iconst (pc := 150) (v := 1) hx hb dX8_drawnNow_150 (by decide) ?_
                      refine lv_icmp_ne (pc := 151) (tgt := 159) hx hb dX8_drawnNow_151 (by decide) (fun c_8 => ?_) (fun c_8 => ?_)
                      · skip
                        refine lv_aload_n (pc := 159) hx hb dX8_drawnNow_159 rfl (lv_at hl 0 rfl) ?_
                        refine fget (pc := 160) (v := .long (lN (itN (12 * tm) sd))) hx hb hts hown hE hP fl_X8_244 0 rfl rfl dX8_drawnNow_160 ?_
                        refine vEqL (v := lN (itN (12 * tm) sd)) rfl ?_
                        refine lv_l2i (pc := 163) (v := nI (itN (12 * tm) sd)) hx hb dX8_drawnNow_163 (lN_i _) ?_
                        have hfn : R_drawnNow z g r n tm sd what = (nI (itN (12 * tm) sd), z, (va_up g 25 (lN (itN (12 * tm) sd))), (va_up (va_up r 8 (ovN (dpS n sd (r 8) tm) (ovN (r 26) (r 8) 12) 12)) 26 (ovN (r 26) (r 8) 12))) := by rw [R_drawnNow, if_neg c_7, if_neg c_8, ovN_back, va_up_same]
                        rw [hQ]; exact W.iret (pc := 164) hx hb hr (fun t9 ht _ => ⟨⟨retI (by rw [hfn]), by rw [ht, hfn]; exact (show va_P D vwCl (wR kB kI o a z (va_up g 25 (lN (itN (12 * tm) sd))) (va_up (va_up r 8 (ovN (dpS n sd (r 8) tm) (ovN (r 26) (r 8) 12) 12)) 26 (ovN (r 26) (r 8) 12))) _ from hP)⟩, hS.F ht⟩) hS.2.2 dX8_drawnNow_164 hlocks
                      · skip
                        refine lv_iload (pc := 154) hx hb dX8_drawnNow_154 (lv_at hl 5 rfl) ?_
                        refine lv_goto (pc := 156) (tgt := 164) hx hb dX8_drawnNow_156 (by decide) ?_
                        have hfn : R_drawnNow z g r n tm sd what = (dEr r n sd tm, z, (va_up g 25 (lN (itN (12 * tm) sd))), (va_up (va_up r 8 (ovN (dpS n sd (r 8) tm) (ovN (r 26) (r 8) 12) 12)) 26 (ovN (r 26) (r 8) 12))) := by rw [R_drawnNow, if_neg c_7, if_pos c_8, ovN_back, va_up_same]
                        rw [hQ]; exact W.iret (pc := 164) hx hb hr (fun t9 ht _ => ⟨⟨retI (by rw [hfn]), by rw [ht, hfn]; exact (show va_P D vwCl (wR kB kI o a z (va_up g 25 (lN (itN (12 * tm) sd))) (va_up (va_up r 8 (ovN (dpS n sd (r 8) tm) (ovN (r 26) (r 8) 12) 12)) 26 (ovN (r 26) (r 8) 12))) _ from hP)⟩, hS.F ht⟩) hS.2.2 dX8_drawnNow_164 hlocks
                    · skip
                      refine lv_iload (pc := 144) hx hb dX8_drawnNow_144 (lv_at hl 4 rfl) ?_
                      refine lv_goto (pc := 146) (tgt := 164) hx hb dX8_drawnNow_146 (by decide) ?_
                      have hfn : R_drawnNow z g r n tm sd what = (nI (dBr r n sd tm), z, (va_up g 25 (lN (itN (12 * tm) sd))), (va_up (va_up r 8 (ovN (dpS n sd (r 8) tm) (ovN (r 26) (r 8) 12) 12)) 26 (ovN (r 26) (r 8) 12))) := by rw [R_drawnNow, if_pos c_7, ovN_back, va_up_same]
                      rw [hQ]; exact W.iret (pc := 164) hx hb hr (fun t9 ht _ => ⟨⟨retI (by rw [hfn]), by rw [ht, hfn]; exact (show va_P D vwCl (wR kB kI o a z (va_up g 25 (lN (itN (12 * tm) sd))) (va_up (va_up r 8 (ovN (dpS n sd (r 8) tm) (ovN (r 26) (r 8) 12) 12)) 26 (ovN (r 26) (r 8) 12))) _ from hP)⟩, hS.F ht⟩) hS.2.2 dX8_drawnNow_164 hlocks
                  · skip
                    have c_6n : ¬ 12 ≤ j := fun hh => c_6 ((nI_leI (a := 12) (b := j) (by omega) (by omega)).mpr hh)
                    refine lv_aload_n (pc := 120) hx hb dX8_drawnNow_120 rfl (lv_at hl 0 rfl) ?_
                    refine fget (pc := 121) (v := .ref (a 8)) hx hb hts hown hE hP fl_X8_28 0 rfl rfl dX8_drawnNow_121 ?_
                    refine lv_iload (pc := 124) hx hb dX8_drawnNow_124 (lv_at hl 6 rfl) ?_
                    refine lv_aload_n (pc := 126) hx hb dX8_drawnNow_126 rfl (lv_at hl 0 rfl) ?_
                    refine fget (pc := 127) (v := .ref (a 26)) hx hb hts hown hE hP fl_X8_50 0 rfl rfl dX8_drawnNow_127 ?_
                    refine lv_iload (pc := 130) hx hb dX8_drawnNow_130 (lv_at hl 6 rfl) ?_
                    refine aldN (pc := 132) (f := ovN (r 26) (r 8) 12) hx hb hE hP 14 rfl (j) (by omega) (by omega) dX8_drawnNow_132 ?_
                    refine astN (pc := 133) (f := ovN (dpS n sd (r 8) tm) (ovN (r 26) (r 8) 12) j) hx hb hE hP hD hS 7 rfl (j) (by omega) (by omega) dX8_drawnNow_133 (fun H locs hP hD hS => ?_)
                    have hP : va_P D vwCl (wR kB kI o a z (va_up g 25 (lN (itN (12 * tm) sd))) (va_up (va_up r 8 (upd (ovN (dpS n sd (r 8) tm) (ovN (r 26) (r 8) 12) j) j ((ovN (r 26) (r 8) 12) j))) 26 (ovN (r 26) (r 8) 12))) H := hP
                    have hD : va_D A (wR kB kI o a z (va_up g 25 (lN (itN (12 * tm) sd))) (va_up (va_up r 8 (upd (ovN (dpS n sd (r 8) tm) (ovN (r 26) (r 8) 12) j) j ((ovN (r 26) (r 8) 12) j))) 26 (ovN (r 26) (r 8) 12))) := hD
                    refine lv_iinc (pc := 134) (v := nI (j + 1)) (lv' := [(6, .int (nI (j + 1))), (0, .ref o), (1, .int (nI tm)), (2, .int (nI sd)), (3, .int what), (4, .int (nI (dBr r n sd tm))), (5, .int (dEr r n sd tm))]) hx hb dX8_drawnNow_134 hl (k := 6) rfl (nI_add (j) 1) (by decide) rfl (fun ls hl => ?_)
                    refine lv_goto (pc := 137) (tgt := 113) hx hb dX8_drawnNow_137 (by decide) ?_
                    exact ih_lp_5 (j + 1) (by omega) (by omega) _ _ (by rw [← ovN_s]; exact hP) (by rw [← ovN_s]; exact hD) hS ls (lv_sub hl [1, 2, 3, 4, 5, 6, 0] rfl)
              exact lp_5 _ 0 (Nat.lt_succ_self _) (by omega) _ _ (by rw [ovN_0]; exact hP) (by rw [ovN_0]; exact hD) hS ls (by have q9 := lv_sub hl [1, 2, 3, 4, 5, 6, 0] rfl; rw [show k = tm by omega] at q9; exact q9)
            · skip
              have c_4n : ¬ tm ≤ k := fun hh => c_4 ((nI_leI (a := tm) (b := k) (by omega) (by omega)).mpr hh)
              refine lv_iconst (pc := 51) (v := 0) hx hb dX8_drawnNow_51 (by decide) ?_
              refine lv_istore (pc := 52) (lv' := [(7, .int 0), (0, .ref o), (1, .int (nI tm)), (2, .int (nI sd)), (3, .int what), (4, .int (nI (dBr r n sd k))), (5, .int (dEr r n sd k)), (6, .int (nI k))]) hx hb dX8_drawnNow_52 hl (by decide) rfl (fun ls hl => ?_)
              have lp_9 : ∀ (fuel : Nat) (i : Nat), 12 - i < fuel → (i ≤ 12) → ∀ (H : Heap) (locs : List Loc), va_P D vwCl (wR kB kI o a z (va_up g 25 (lN (itN (12 * k + i) sd))) (va_up (va_up r 8 (ovN (dpS n sd (r 8) k) (dpl n (itN (12 * k) sd)) i)) 26 (ovN (r 26) (r 8) 12))) H → va_D A (wR kB kI o a z (va_up g 25 (lN (itN (12 * k + i) sd))) (va_up (va_up r 8 (ovN (dpS n sd (r 8) k) (dpl n (itN (12 * k) sd)) i)) 26 (ovN (r 26) (r 8) 12))) → va_S A s.heap H locs → ∀ (ls : Array Slot), lv_has ls 8 [(0, .ref o), (1, .int (nI tm)), (2, .int (nI sd)), (3, .int what), (4, .int (nI (dBr r n sd k))), (5, .int (dEr r n sd k)), (6, .int (nI k)), (7, .int (nI i))] → W p l e (rmO 7 153) s m args below meth c0 H locs 0 0 Q (F0 m 54 ls []) := by
                intro fuel
                induction fuel with
                | zero => intro i hfuel; exact absurd hfuel (Nat.not_lt_zero _)
                | succ fuel ih_lp_9 =>
                  intro i hfuel hi H locs hP hD hS ls hl
                  refine lv_iload (pc := 54) hx hb dX8_drawnNow_54 (lv_at hl 7 rfl) ?_
                  refine lv_bipush (pc := 56) (v := 12) hx hb dX8_drawnNow_56 (by decide) ?_
                  refine lv_icmp_ge (pc := 58) (tgt := 86) hx hb dX8_drawnNow_58 (by decide) (fun c_10 => ?_) (fun c_10 => ?_)
                  · skip
                    have c_10n : 12 ≤ i := (nI_leI (a := 12) (b := i) (by omega) (by omega)).mp c_10
                    have hi12 : i = 12 := by omega
                    rw [hi12, ovN_dpS] at hP hD
                    have hP : va_P D vwCl (wR kB kI o a z (va_up g 25 (lN (itN (12 * k + 12) sd))) (va_up (va_up r 8 (ovN (r 8) (dpl n (itN (12 * k) sd)) 12)) 26 (ovN (r 26) (r 8) 12))) H := hP
                    have hD : va_D A (wR kB kI o a z (va_up g 25 (lN (itN (12 * k + 12) sd))) (va_up (va_up r 8 (ovN (r 8) (dpl n (itN (12 * k) sd)) 12)) 26 (ovN (r 26) (r 8) 12))) := hD
                    refine lv_iload (pc := 86) hx hb dX8_drawnNow_86 (lv_at hl 4 rfl) ?_
                    refine lv_aload_n (pc := 88) hx hb dX8_drawnNow_88 rfl (lv_at hl 0 rfl) ?_
                    refine rV (pc := 89) (rest := [.int (nI (dBr r n sd k))]) ⟨hx, hb, hml, hown, hts⟩ (k_X8_breaks (z := z) (g := (va_up g 25 (lN (itN (12 * k + 12) sd)))) (r := (va_up (va_up r 8 (ovN (r 8) (dpl n (itN (12 * k) sd)) 12)) 26 (ovN (r 26) (r 8) 12))) (hok := okP_dpl) (hn5 := hn5)) cw_X8_166 ⟨(Nat.le_of_ble_eq_true rfl), (Nat.le_of_ble_eq_true rfl)⟩ hE hS hP rfl rfl rfl rfl hl.1 rfl (Nat.le_of_ble_eq_true rfl) dX8_drawnNow_89 ⟨Nat.le_refl _, Nat.le_refl _⟩ ?_
                    refine W.eq (g2 := F0 m 92 ls [.int (nI (cntP (fun j => 0 < brk ((r 2)) ((r 3)) ((r 4)) ((r 5)) ((r 6)) ((ovN (r 8) (dpl n (itN (12 * k) sd)) 12)) j) 12)), .int (nI (dBr r n sd k))]) rfl ?_
                    refine vEq (v := nI (brkN (dR r n sd k))) rfl ?_
                    refine iaddV (pc := 92) (v := nI (dBr r n sd k + (brkN (dR r n sd k)))) hx hb dX8_drawnNow_92 (nI_add (dBr r n sd k) (brkN (dR r n sd k))) ?_
                    refine lv_istore (pc := 93) (lv' := [(4, .int (nI (dBr r n sd k + (brkN (dR r n sd k))))), (0, .ref o), (1, .int (nI tm)), (2, .int (nI sd)), (3, .int what), (5, .int (dEr r n sd k)), (6, .int (nI k)), (7, .int (nI i))]) hx hb dX8_drawnNow_93 hl (by decide) rfl (fun ls hl => ?_)
                    refine lv_iload (pc := 95) hx hb dX8_drawnNow_95 (lv_at hl 5 rfl) ?_
                    refine lv_aload_n (pc := 97) hx hb dX8_drawnNow_97 rfl (lv_at hl 1 rfl) ?_
                    refine rV (pc := 98) (rest := [.int (dEr r n sd k)]) ⟨hx, hb, hml, hown, hts⟩ (k_X8_earned (z := z) (g := (va_up g 25 (lN (itN (12 * k + 12) sd)))) (r := (va_up (va_up r 8 (ovN (r 8) (dpl n (itN (12 * k) sd)) 12)) 26 (ovN (r 26) (r 8) 12))) (hok := okP_dpl) (hn5 := hn5)) cw_X8_198 ⟨(Nat.le_of_ble_eq_true rfl), (Nat.le_of_ble_eq_true rfl)⟩ hE hS hP rfl rfl rfl rfl hl.1 rfl (Nat.le_of_ble_eq_true rfl) dX8_drawnNow_98 ⟨Nat.le_refl _, Nat.le_refl _⟩ ?_
                    refine W.eq (g2 := F0 m 101 ls [.int (sumI (fun j => if brk ((r 2)) ((r 3)) ((r 4)) ((r 5)) ((r 6)) ((ovN (r 8) (dpl n (itN (12 * k) sd)) 12)) j = 0 then sts ((r 2)) ((r 7)) ((ovN (r 8) (dpl n (itN (12 * k) sd)) 12)) j else 0) 12), .int (dEr r n sd k)]) rfl ?_
                    refine vEq (v := ernS (dR r n sd k)) rfl ?_
                    refine lv_iadd (pc := 101) hx hb dX8_drawnNow_101 ?_
                    refine lv_istore (pc := 102) (lv' := [(5, .int ((dEr r n sd k) + (ernS (dR r n sd k)))), (4, .int (nI (dBr r n sd k + (brkN (dR r n sd k))))), (0, .ref o), (1, .int (nI tm)), (2, .int (nI sd)), (3, .int what), (6, .int (nI k)), (7, .int (nI i))]) hx hb dX8_drawnNow_102 hl (by decide) rfl (fun ls hl => ?_)
                    refine lv_iinc (pc := 104) (v := nI (k + 1)) (lv' := [(6, .int (nI (k + 1))), (5, .int ((dEr r n sd k) + (ernS (dR r n sd k)))), (4, .int (nI (dBr r n sd k + (brkN (dR r n sd k))))), (0, .ref o), (1, .int (nI tm)), (2, .int (nI sd)), (3, .int what), (7, .int (nI i))]) hx hb dX8_drawnNow_104 hl (k := 6) rfl (nI_add (k) 1) (by decide) rfl (fun ls hl => ?_)
                    refine lv_goto (pc := 107) (tgt := 45) hx hb dX8_drawnNow_107 (by decide) ?_
                    exact ih_lp_3 (k + 1) (by omega) (by omega) _ _ (by rw [show 12 * (k + 1) = 12 * k + 12 by omega]; exact hP) (by rw [show 12 * (k + 1) = 12 * k + 12 by omega]; exact hD) hS ls (by rw [show (nI (dBr r n sd (k + 1)) : Int32) = nI (dBr r n sd k + (brkN (dR r n sd k))) from (rfl), show (dEr r n sd (k + 1) : Int32) = (dEr r n sd k) + (ernS (dR r n sd k)) from (rfl)]; exact lv_sub hl [3, 4, 5, 6, 2, 1, 0] rfl)
                  · skip
                    have c_10n : ¬ 12 ≤ i := fun hh => c_10 ((nI_leI (a := 12) (b := i) (by omega) (by omega)).mpr hh)
                    refine lv_aload_n (pc := 61) hx hb dX8_drawnNow_61 rfl (lv_at hl 0 rfl) ?_
                    refine fget (pc := 62) (v := .ref (a 8)) hx hb hts hown hE hP fl_X8_28 0 rfl rfl dX8_drawnNow_62 ?_
                    refine lv_iload (pc := 65) hx hb dX8_drawnNow_65 (lv_at hl 7 rfl) ?_
                    refine lv_aload_n (pc := 67) hx hb dX8_drawnNow_67 rfl (lv_at hl 0 rfl) ?_
                    refine lv_aload_n (pc := 68) hx hb dX8_drawnNow_68 rfl (lv_at hl 0 rfl) ?_
                    refine fget (pc := 69) (v := .int (z 1)) hx hb hts hown hE hP fl_X8_124 0 rfl rfl dX8_drawnNow_69 ?_
                    refine vEq (v := nI n) hz1 ?_
                    refine lv_iconst (pc := 72) (v := 1) hx hb dX8_drawnNow_72 (by decide) ?_
                    refine iaddV (pc := 73) (v := nI (n + 1)) hx hb dX8_drawnNow_73 (nI_add (n) (1)) ?_
                    refine wVa (pc := 74) (rest := [.int (nI i), .ref (a 8)]) ⟨hx, hb, hml, hown, hts⟩ (k_X8_draw (d := n + 1) (z := z) (g := (va_up g 25 (lN (itN (12 * k + i) sd)))) (r := (va_up (va_up r 8 (ovN (dpS n sd (r 8) k) (dpl n (itN (12 * k) sd)) i)) 26 (ovN (r 26) (r 8) 12))) (hg25 := rfl) (hsd := (itN_lt hsd _)) (hd := (by omega)) (hd2 := (by omega)) (sd := itN (12 * k + i) sd)) cw_X8_254 ⟨(Nat.le_of_ble_eq_true rfl), (Nat.le_of_ble_eq_true rfl)⟩ hE hP hD hS rfl rfl rfl rfl rfl hl.1 rfl (Nat.le_of_ble_eq_true rfl) dX8_drawnNow_74 ⟨Nat.le_refl _, Nat.le_refl _⟩ (fun H locs hP hD hS => ?_)
                    have hP : va_P D vwCl (wR kB kI o a z (va_up g 25 (lN (nxt (itN (12 * k + i) sd)))) (va_up (va_up r 8 (ovN (dpS n sd (r 8) k) (dpl n (itN (12 * k) sd)) i)) 26 (ovN (r 26) (r 8) 12))) H := hP
                    have hD : va_D A (wR kB kI o a z (va_up g 25 (lN (nxt (itN (12 * k + i) sd)))) (va_up (va_up r 8 (ovN (dpS n sd (r 8) k) (dpl n (itN (12 * k) sd)) i)) 26 (ovN (r 26) (r 8) 12))) := hD
                    refine W.eq (g2 := F0 m 77 ls [.int (nI (nxt (itN (12 * k + i) sd) / 65536 % (n + 1))), .int (nI i), .ref (a 8)]) rfl ?_
                    refine lv_iconst (pc := 77) (v := 1) hx hb dX8_drawnNow_77 (by decide) ?_
                    refine isubV (pc := 78) (v := nI (nxt (itN (12 * k + i) sd) / 65536 % (n + 1)) - 1) hx hb dX8_drawnNow_78 rfl ?_
                    refine astN (pc := 79) (f := ovN (dpS n sd (r 8) k) (dpl n (itN (12 * k) sd)) i) hx hb hE hP hD hS 7 rfl (i) (by omega) (by omega) dX8_drawnNow_79 (fun H locs hP hD hS => ?_)
                    have hP : va_P D vwCl (wR kB kI o a z (va_up g 25 (lN (nxt (itN (12 * k + i) sd)))) (va_up (va_up r 8 (upd (ovN (dpS n sd (r 8) k) (dpl n (itN (12 * k) sd)) i) i (nI (nxt (itN (12 * k + i) sd) / 65536 % (n + 1)) - 1))) 26 (ovN (r 26) (r 8) 12))) H := hP
                    have hD : va_D A (wR kB kI o a z (va_up g 25 (lN (nxt (itN (12 * k + i) sd)))) (va_up (va_up r 8 (upd (ovN (dpS n sd (r 8) k) (dpl n (itN (12 * k) sd)) i) i (nI (nxt (itN (12 * k + i) sd) / 65536 % (n + 1)) - 1))) 26 (ovN (r 26) (r 8) 12))) := hD
                    refine lv_iinc (pc := 80) (v := nI (i + 1)) (lv' := [(7, .int (nI (i + 1))), (0, .ref o), (1, .int (nI tm)), (2, .int (nI sd)), (3, .int what), (4, .int (nI (dBr r n sd k))), (5, .int (dEr r n sd k)), (6, .int (nI k))]) hx hb dX8_drawnNow_80 hl (k := 7) rfl (nI_add (i) 1) (by decide) rfl (fun ls hl => ?_)
                    refine lv_goto (pc := 83) (tgt := 54) hx hb dX8_drawnNow_83 (by decide) ?_
                    exact ih_lp_9 (i + 1) (by omega) (by omega) _ _ (by rw [← ovN_sv _ _ _ (show nI (nxt (itN (12 * k + i) sd) / 65536 % (n + 1)) - 1 = dpl n (itN (12 * k) sd) i by rw [dpl, itN_add]; rfl)]; exact hP) (by rw [← ovN_sv _ _ _ (show nI (nxt (itN (12 * k + i) sd) / 65536 % (n + 1)) - 1 = dpl n (itN (12 * k) sd) i by rw [dpl, itN_add]; rfl)]; exact hD) hS ls (lv_sub hl [1, 2, 3, 4, 5, 6, 7, 0] rfl)
              exact lp_9 _ 0 (Nat.lt_succ_self _) (by omega) _ _ (by rw [ovN_0]; exact hP) (by rw [ovN_0]; exact hD) hS ls (lv_sub hl [1, 2, 3, 4, 5, 6, 7, 0] rfl)
        exact lp_3 _ 0 (Nat.lt_succ_self _) (by omega) _ _ hP hD hS ls (lv_sub hl [3, 4, 5, 6, 2, 1, 0] rfl)
      · skip
        have c_2n : ¬ 12 ≤ i := fun hh => c_2 ((nI_leI (a := 12) (b := i) (by omega) (by omega)).mpr hh)
        refine lv_aload_n (pc := 10) hx hb dX8_drawnNow_10 rfl (lv_at hl 0 rfl) ?_
        refine fget (pc := 11) (v := .ref (a 26)) hx hb hts hown hE hP fl_X8_50 0 rfl rfl dX8_drawnNow_11 ?_
        refine lv_iload (pc := 14) hx hb dX8_drawnNow_14 (lv_at hl 4 rfl) ?_
        refine lv_aload_n (pc := 16) hx hb dX8_drawnNow_16 rfl (lv_at hl 0 rfl) ?_
        refine fget (pc := 17) (v := .ref (a 8)) hx hb hts hown hE hP fl_X8_28 0 rfl rfl dX8_drawnNow_17 ?_
        refine lv_iload (pc := 20) hx hb dX8_drawnNow_20 (lv_at hl 4 rfl) ?_
        refine aldN (pc := 22) (f := r 8) hx hb hE hP 7 rfl (i) (by omega) (by omega) dX8_drawnNow_22 ?_
        refine astN (pc := 23) (f := ovN (r 26) (r 8) i) hx hb hE hP hD hS 14 rfl (i) (by omega) (by omega) dX8_drawnNow_23 (fun H locs hP hD hS => ?_)
        have hP : va_P D vwCl (wR kB kI o a z g (va_up r 26 (upd (ovN (r 26) (r 8) i) i ((r 8) i)))) H := hP
        have hD : va_D A (wR kB kI o a z g (va_up r 26 (upd (ovN (r 26) (r 8) i) i ((r 8) i)))) := hD
        refine lv_iinc (pc := 24) (v := nI (i + 1)) (lv' := [(4, .int (nI (i + 1))), (0, .ref o), (1, .int (nI tm)), (2, .int (nI sd)), (3, .int what)]) hx hb dX8_drawnNow_24 hl (k := 4) rfl (nI_add (i) 1) (by decide) rfl (fun ls hl => ?_)
        refine lv_goto (pc := 27) (tgt := 3) hx hb dX8_drawnNow_27 (by decide) ?_
        exact ih_lp_1 (i + 1) (by omega) (by omega) _ _ (by rw [← ovN_s]; exact hP) (by rw [← ovN_s]; exact hD) hS ls (lv_sub hl [1, 2, 3, 4, 0] rfl)
  exact lp_1 _ 0 (Nat.lt_succ_self _) (by omega) _ _ (by rw [ovN_0, va_up_same]; exact hP) (by rw [ovN_0, va_up_same]; exact hD) hS ls (lv_sub hl [1, 2, 3, 4, 0] rfl)
set_option maxRecDepth 100000 in
set_option maxHeartbeats 4000000 in
theorem k_X8_drawn {o : Nat} {a : Nat → Nat} {z : Nat → Int32} {g : Nat → Int64} {r : Nat → Nat → Int32} (times : Int32) (seed : Int32) (what : Int32) {n : Nat} (hz1 : z 1 = nI n) (hn5 : n ≤ 5) : MW l yX8_drawn cX8_drawn 4 (some .int) 8 180 D kB kI kT ks sk sv [.ref o, .int times, .int seed, .int what] (wR kB kI o a z g r) (some (.int ((R_drawn z g r n times seed what).1))) (wR kB kI o a (R_drawn z g r n times seed what).2.1 (R_drawn z g r n times seed what).2.2.1 (R_drawn z g r n times seed what).2.2.2) := by
  refine MW.go (by decide +kernel) (Nat.le_of_ble_eq_true rfl) ?_
  intro p e s m below meth c0 args Q ls A hQ hx hb hr hml hown hts hlocks hE hP hD hS hl
  have hl : lv_has ls 4 [(0, .ref o), (1, .int times), (2, .int seed), (3, .int what)] := hl
  have hown : s.vm.findClass RX8 = some m.cls := hown
  refine lv_iload_n (pc := 0) hx hb dX8_drawn_0 rfl (lv_at hl 1 rfl) ?_
  refine lv_iconst (pc := 1) (v := 1) hx hb dX8_drawn_1 (by decide) ?_
  refine lv_bipush (pc := 2) (v := 20) hx hb dX8_drawn_2 (by decide) ?_
  refine rS (pc := 4) (rest := []) ⟨hx, hb, hml, hown, hts⟩ (k_X8_within (v := times) (lo := 1) (hi := 20)) cw_X8_86 ⟨(Nat.le_of_ble_eq_true rfl), (Nat.le_of_ble_eq_true rfl)⟩ hE hS wc0 rfl hl.1 rfl (Nat.le_of_ble_eq_true rfl) dX8_drawn_4 ⟨Nat.le_refl _, Nat.le_refl _⟩ ?_
  refine W.eq (g2 := F0 m 7 ls [.int (bi (inR times 1 20))]) rfl ?_
  refine bif_eq (pc := 7) (tgt := 23) hx hb dX8_drawn_7 (by decide) (fun c_1 => ?_) (fun c_1 => ?_)
  · skip
    refine lv_bipush (pc := 23) (v := (-102)) hx hb dX8_drawn_23 (by decide) ?_
    have hfn : R_drawn z g r n times seed what = ((-102), z, g, r) := by rw [R_drawn, if_neg (fun q => c_1 q.1)]
    rw [hQ]; exact W.iret (pc := 25) hx hb hr (fun t9 ht _ => ⟨⟨retI (by rw [hfn]), by rw [ht, hfn]; exact (show va_P D vwCl (wR kB kI o a z g r) _ from hP)⟩, hS.F ht⟩) hS.2.2 dX8_drawn_25 hlocks
  · skip
    refine lv_iload_n (pc := 10) hx hb dX8_drawn_10 rfl (lv_at hl 2 rfl) ?_
    refine lv_if_lt (pc := 11) (tgt := 23) hx hb dX8_drawn_11 (by decide) (fun c_2 => ?_) (fun c_2 => ?_)
    · skip
      refine lv_bipush (pc := 23) (v := (-102)) hx hb dX8_drawn_23 (by decide) ?_
      have hfn : R_drawn z g r n times seed what = ((-102), z, g, r) := by rw [R_drawn, if_neg (fun q => q.2.1 c_2)]
      rw [hQ]; exact W.iret (pc := 25) hx hb hr (fun t9 ht _ => ⟨⟨retI (by rw [hfn]), by rw [ht, hfn]; exact (show va_P D vwCl (wR kB kI o a z g r) _ from hP)⟩, hS.F ht⟩) hS.2.2 dX8_drawn_25 hlocks
    · skip
      refine lv_iload_n (pc := 14) hx hb dX8_drawn_14 rfl (lv_at hl 3 rfl) ?_
      refine lv_iconst (pc := 15) (v := 0) hx hb dX8_drawn_15 (by decide) ?_
      refine lv_iconst (pc := 16) (v := 2) hx hb dX8_drawn_16 (by decide) ?_
      refine rS (pc := 17) (rest := []) ⟨hx, hb, hml, hown, hts⟩ (k_X8_within (v := what) (lo := 0) (hi := 2)) cw_X8_86 ⟨(Nat.le_of_ble_eq_true rfl), (Nat.le_of_ble_eq_true rfl)⟩ hE hS wc0 rfl hl.1 rfl (Nat.le_of_ble_eq_true rfl) dX8_drawn_17 ⟨Nat.le_refl _, Nat.le_refl _⟩ ?_
      refine W.eq (g2 := F0 m 20 ls [.int (bi (inR what 0 2))]) rfl ?_
      refine bif_ne (pc := 20) (tgt := 26) hx hb dX8_drawn_20 (by decide) (fun c_3 => ?_) (fun c_3 => ?_)
      · skip
        refine lv_aload_n (pc := 26) hx hb dX8_drawn_26 rfl (lv_at hl 0 rfl) ?_
        refine fget (pc := 27) (v := .int (z 1)) hx hb hts hown hE hP fl_X8_124 0 rfl rfl dX8_drawn_27 ?_
        refine vEq (v := nI n) hz1 ?_
        refine lv_if_ne (pc := 30) (tgt := 38) hx hb dX8_drawn_30 (by decide) (fun c_4 => ?_) (fun c_4 => ?_)
        · skip
          have c_4n : ¬ n = 0 := fun hh => c_4 ((nI_eq (a := n) (b := 0) (by omega) (by omega)).mpr hh)
          obtain ⟨i, hi1, hi2, hxt⟩ := inR_nat3 c_1
          obtain ⟨j, hj, hxs⟩ := nI_of c_2
          refine lv_aload_n (pc := 38) hx hb dX8_drawn_38 rfl (lv_at hl 0 rfl) ?_
          refine lv_iload_n (pc := 39) hx hb dX8_drawn_39 rfl (lv_at hl 1 rfl) ?_
          refine vEq (v := nI i) hxt ?_
          refine lv_iload_n (pc := 40) hx hb dX8_drawn_40 rfl (lv_at hl 2 rfl) ?_
          refine vEq (v := nI j) hxs ?_
          refine lv_iload_n (pc := 41) hx hb dX8_drawn_41 rfl (lv_at hl 3 rfl) ?_
          refine wVa (pc := 42) (rest := []) ⟨hx, hb, hml, hown, hts⟩ (k_X8_drawnNow (tm := i) (sd := j) (what := what) (z := z) (g := g) (r := r) (hz1 := hz1) (hn5 := hn5) (htm := (by omega)) (hsd := (by omega)) (n := n)) cw_X8_257 ⟨(Nat.le_of_ble_eq_true rfl), (Nat.le_of_ble_eq_true rfl)⟩ hE hP hD hS rfl rfl rfl rfl rfl hl.1 rfl (Nat.le_of_ble_eq_true rfl) dX8_drawn_42 ⟨Nat.le_refl _, Nat.le_refl _⟩ (fun H locs hP hD hS => ?_)
          have hP : va_P D vwCl (wR kB kI o a (R_drawnNow z g r n i j what).2.1 (R_drawnNow z g r n i j what).2.2.1 (R_drawnNow z g r n i j what).2.2.2) H := hP
          have hD : va_D A (wR kB kI o a (R_drawnNow z g r n i j what).2.1 (R_drawnNow z g r n i j what).2.2.1 (R_drawnNow z g r n i j what).2.2.2) := hD
          refine W.eq (g2 := F0 m 45 ls [.int ((R_drawnNow z g r n i j what).1)]) rfl ?_
          have hfn : R_drawn z g r n times seed what = ((R_drawnNow z g r n i j what).1, (R_drawnNow z g r n i j what).2.1, (R_drawnNow z g r n i j what).2.2.1, (R_drawnNow z g r n i j what).2.2.2) := by rw [R_drawn, if_pos ⟨c_1, c_2, c_3⟩, if_neg c_4n, hxt, hxs, ix_nI (j := i) (by omega), ix_nI (j := j) (by omega)]
          rw [hQ]; exact W.iret (pc := 45) hx hb hr (fun t9 ht _ => ⟨⟨retI (by rw [hfn]), by rw [ht, hfn]; exact (show va_P D vwCl (wR kB kI o a (R_drawnNow z g r n i j what).2.1 (R_drawnNow z g r n i j what).2.2.1 (R_drawnNow z g r n i j what).2.2.2) _ from hP)⟩, hS.F ht⟩) hS.2.2 dX8_drawn_45 hlocks
        · skip
          have c_4n : n = 0 := (nI_eq (a := n) (b := 0) (by omega) (by omega)).mp c_4
          refine lv_bipush (pc := 33) (v := (-103)) hx hb dX8_drawn_33 (by decide) ?_
          refine lv_goto (pc := 35) (tgt := 45) hx hb dX8_drawn_35 (by decide) ?_
          have hfn : R_drawn z g r n times seed what = ((-103), z, g, r) := by rw [R_drawn, if_pos ⟨c_1, c_2, c_3⟩, if_pos c_4n]
          rw [hQ]; exact W.iret (pc := 45) hx hb hr (fun t9 ht _ => ⟨⟨retI (by rw [hfn]), by rw [ht, hfn]; exact (show va_P D vwCl (wR kB kI o a z g r) _ from hP)⟩, hS.F ht⟩) hS.2.2 dX8_drawn_45 hlocks
      · skip
        refine lv_bipush (pc := 23) (v := (-102)) hx hb dX8_drawn_23 (by decide) ?_
        have hfn : R_drawn z g r n times seed what = ((-102), z, g, r) := by rw [R_drawn, if_neg (fun q => c_3 q.2.2)]
        rw [hQ]; exact W.iret (pc := 25) hx hb hr (fun t9 ht _ => ⟨⟨retI (by rw [hfn]), by rw [ht, hfn]; exact (show va_P D vwCl (wR kB kI o a z g r) _ from hP)⟩, hS.F ht⟩) hS.2.2 dX8_drawn_25 hlocks
end
