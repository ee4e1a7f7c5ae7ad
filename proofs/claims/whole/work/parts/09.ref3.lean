section
variable {l : Launch} {D : va_G} {kB kI kT : ClassId} {ks sk sv : Nat}
set_option maxRecDepth 100000 in
set_option maxHeartbeats 4000000 in
theorem k_X8_sortsOf {o : Nat} {a : Nat → Nat} {z : Nat → Int32} {g : Nat → Int64} {r : Nat → Nat → Int32} (t : Int32) {sn : Nat} (hz10 : z 10 = nI sn) (hsn : sn ≤ 6) : MR l yX8_sortsOf cX8_sortsOf 6 (some .int) 1 21 D kB kI kT ks sk sv [.ref o, .int t] (wR kB kI o a z g r) (some (.int (sortsS (r 11) (r 12) (r 13) sn t 5))) := by
  refine MR.go (by decide +kernel) (Nat.le_of_ble_eq_true rfl) ?_
  intro p e s m below meth c0 args Q ls hQ hx hb hr hml hown hts hlocks hE hP hS hl
  have hl : lv_has ls 6 [(0, .ref o), (1, .int t)] := hl
  have hown : s.vm.findClass RX8 = some m.cls := hown
  refine lv_iconst (pc := 0) (v := 0) hx hb dX8_sortsOf_0 (by decide) ?_
  refine lv_istore_n (pc := 1) (lv' := [(2, .int 0), (0, .ref o), (1, .int t)]) hx hb dX8_sortsOf_1 rfl hl (by decide) rfl (fun ls hl => ?_)
  refine lv_iconst (pc := 2) (v := 0) hx hb dX8_sortsOf_2 (by decide) ?_
  refine lv_istore_n (pc := 3) (lv' := [(3, .int 0), (2, .int 0), (0, .ref o), (1, .int t)]) hx hb dX8_sortsOf_3 rfl hl (by decide) rfl (fun ls hl => ?_)
  have lp_1 : ∀ (fuel : Nat) (kind : Nat), 5 - kind < fuel → (kind ≤ 5) → ∀ (ls : Array Slot), lv_has ls 6 [(0, .ref o), (1, .int t), (2, .int (sortsS (r 11) (r 12) (r 13) sn t kind)), (3, .int (nI kind))] → W p l e (rmO 1 21) s m args below meth c0 s.heap [] 0 0 Q (F0 m 4 ls []) := by
    intro fuel
    induction fuel with
    | zero => intro kind hfuel; exact absurd hfuel (Nat.not_lt_zero _)
    | succ fuel ih_lp_1 =>
      intro kind hfuel hkind ls hl
      refine lv_iload_n (pc := 4) hx hb dX8_sortsOf_4 rfl (lv_at hl 3 rfl) ?_
      refine lv_iconst (pc := 5) (v := 4) hx hb dX8_sortsOf_5 (by decide) ?_
      refine lv_icmp_gt (pc := 6) (tgt := 104) hx hb dX8_sortsOf_6 (by decide) (fun c_2 => ?_) (fun c_2 => ?_)
      · skip
        have c_2n : 4 < kind := (nI_ltI (a := 4) (b := kind) (by omega) (by omega)).mp c_2
        refine lv_iload_n (pc := 104) hx hb dX8_sortsOf_104 rfl (lv_at hl 2 rfl) ?_
        rw [hQ]; exact W.iret (pc := 105) hx hb hr (fun t9 ht _ => ⟨retI (by rw [show kind = 5 by omega]), ht⟩) (fun _ h => nomatch h) dX8_sortsOf_105 hlocks
      · skip
        have c_2n : ¬ 4 < kind := fun hh => c_2 ((nI_ltI (a := 4) (b := kind) (by omega) (by omega)).mpr hh)
        refine lv_iconst (pc := 9) (v := 1) hx hb dX8_sortsOf_9 (by decide) ?_
        refine lv_istore (pc := 10) (lv' := [(4, .int 1), (0, .ref o), (1, .int t), (2, .int (sortsS (r 11) (r 12) (r 13) sn t kind)), (3, .int (nI kind))]) hx hb dX8_sortsOf_10 hl (by decide) rfl (fun ls hl => ?_)
        refine lv_iconst (pc := 12) (v := 0) hx hb dX8_sortsOf_12 (by decide) ?_
        refine lv_istore (pc := 13) (lv' := [(5, .int 0), (4, .int 1), (0, .ref o), (1, .int t), (2, .int (sortsS (r 11) (r 12) (r 13) sn t kind)), (3, .int (nI kind))]) hx hb dX8_sortsOf_13 hl (by decide) rfl (fun ls hl => ?_)
        have lp_3 : ∀ (fuel : Nat) (k : Nat), sn - k < fuel → (k ≤ sn) → ∀ (ls : Array Slot), lv_has ls 6 [(0, .ref o), (1, .int t), (2, .int (sortsS (r 11) (r 12) (r 13) sn t kind)), (3, .int (nI kind)), (4, .int (bi (allB (seenOk (r 11) (r 12) (r 13) t (nI kind)) k = true))), (5, .int (nI k))] → W p l e (rmO 1 21) s m args below meth c0 s.heap [] 0 0 Q (F0 m 15 ls []) := by
          intro fuel
          induction fuel with
          | zero => intro k hfuel; exact absurd hfuel (Nat.not_lt_zero _)
          | succ fuel ih_lp_3 =>
            intro k hfuel hk ls hl
            refine lv_iload (pc := 15) hx hb dX8_sortsOf_15 (lv_at hl 5 rfl) ?_
            refine lv_aload_n (pc := 17) hx hb dX8_sortsOf_17 rfl (lv_at hl 0 rfl) ?_
            refine fget (pc := 18) (v := .int (z 10)) hx hb hts hown hE hP fl_X8_130 0 rfl rfl dX8_sortsOf_18 ?_
            refine vEq (v := nI sn) hz10 ?_
            refine lv_icmp_ge (pc := 21) (tgt := 83) hx hb dX8_sortsOf_21 (by decide) (fun c_4 => ?_) (fun c_4 => ?_)
            · skip
              have c_4n : sn ≤ k := (nI_leI (a := sn) (b := k) (by omega) (by omega)).mp c_4
              have hks : k = sn := by omega
              refine lv_iload_n (pc := 83) hx hb dX8_sortsOf_83 rfl (lv_at hl 2 rfl) ?_
              refine lv_iload (pc := 84) hx hb dX8_sortsOf_84 (lv_at hl 4 rfl) ?_
              refine bif_eq (pc := 86) (tgt := 95) hx hb dX8_sortsOf_86 (by decide) (fun c_5 => ?_) (fun c_5 => ?_)
              · skip
                refine lv_iconst (pc := 95) (v := 0) hx hb dX8_sortsOf_95 (by decide) ?_
                refine lv_ior (pc := 96) hx hb dX8_sortsOf_96 ?_
                refine lv_istore_n (pc := 97) (lv' := [(2, .int ((sortsS (r 11) (r 12) (r 13) sn t kind) ||| 0)), (0, .ref o), (1, .int t), (3, .int (nI kind)), (4, .int (bi (allB (seenOk (r 11) (r 12) (r 13) t (nI kind)) k = true))), (5, .int (nI k))]) hx hb dX8_sortsOf_97 rfl hl (by decide) rfl (fun ls hl => ?_)
                refine lv_iinc (pc := 98) (v := nI (kind + 1)) (lv' := [(3, .int (nI (kind + 1))), (2, .int ((sortsS (r 11) (r 12) (r 13) sn t kind) ||| 0)), (0, .ref o), (1, .int t), (4, .int (bi (allB (seenOk (r 11) (r 12) (r 13) t (nI kind)) k = true))), (5, .int (nI k))]) hx hb dX8_sortsOf_98 hl (k := 3) rfl (nI_add (kind) 1) (by decide) rfl (fun ls hl => ?_)
                refine lv_goto (pc := 101) (tgt := 4) hx hb dX8_sortsOf_101 (by decide) ?_
                exact ih_lp_1 (kind + 1) (by omega) (by omega) ls (by rw [show (sortsS (r 11) (r 12) (r 13) sn t (kind + 1) : Int32) = (sortsS (r 11) (r 12) (r 13) sn t kind) ||| 0 from (by simp [sortsS, orI, ← hks, c_2, c_4, c_5])]; exact lv_sub hl [2, 3, 1, 0] rfl)
              · skip
                refine lv_iconst (pc := 89) (v := 1) hx hb dX8_sortsOf_89 (by decide) ?_
                refine lv_iload_n (pc := 90) hx hb dX8_sortsOf_90 rfl (lv_at hl 3 rfl) ?_
                refine lv_ishl (pc := 91) hx hb dX8_sortsOf_91 ?_
                refine lv_goto (pc := 92) (tgt := 96) hx hb dX8_sortsOf_92 (by decide) ?_
                refine lv_ior (pc := 96) hx hb dX8_sortsOf_96 ?_
                refine lv_istore_n (pc := 97) (lv' := [(2, .int ((sortsS (r 11) (r 12) (r 13) sn t kind) ||| (1 <<< ((nI kind) &&& 31)))), (0, .ref o), (1, .int t), (3, .int (nI kind)), (4, .int (bi (allB (seenOk (r 11) (r 12) (r 13) t (nI kind)) k = true))), (5, .int (nI k))]) hx hb dX8_sortsOf_97 rfl hl (by decide) rfl (fun ls hl => ?_)
                refine lv_iinc (pc := 98) (v := nI (kind + 1)) (lv' := [(3, .int (nI (kind + 1))), (2, .int ((sortsS (r 11) (r 12) (r 13) sn t kind) ||| (1 <<< ((nI kind) &&& 31)))), (0, .ref o), (1, .int t), (4, .int (bi (allB (seenOk (r 11) (r 12) (r 13) t (nI kind)) k = true))), (5, .int (nI k))]) hx hb dX8_sortsOf_98 hl (k := 3) rfl (nI_add (kind) 1) (by decide) rfl (fun ls hl => ?_)
                refine lv_goto (pc := 101) (tgt := 4) hx hb dX8_sortsOf_101 (by decide) ?_
                exact ih_lp_1 (kind + 1) (by omega) (by omega) ls (by rw [show (sortsS (r 11) (r 12) (r 13) sn t (kind + 1) : Int32) = (sortsS (r 11) (r 12) (r 13) sn t kind) ||| (1 <<< ((nI kind) &&& 31)) from (by simp [sortsS, orI, ← hks, c_2, c_4, c_5])]; exact lv_sub hl [2, 3, 1, 0] rfl)
            · skip
              have c_4n : ¬ sn ≤ k := fun hh => c_4 ((nI_leI (a := sn) (b := k) (by omega) (by omega)).mpr hh)
              refine lv_iload (pc := 24) hx hb dX8_sortsOf_24 (lv_at hl 4 rfl) ?_
              refine bif_eq (pc := 26) (tgt := 74) hx hb dX8_sortsOf_26 (by decide) (fun c_6 => ?_) (fun c_6 => ?_)
              · skip
                refine lv_iconst (pc := 74) (v := 0) hx hb dX8_sortsOf_74 (by decide) ?_
                refine lv_istore (pc := 75) (lv' := [(4, .int 0), (0, .ref o), (1, .int t), (2, .int (sortsS (r 11) (r 12) (r 13) sn t kind)), (3, .int (nI kind)), (5, .int (nI k))]) hx hb dX8_sortsOf_75 hl (by decide) rfl (fun ls hl => ?_)
                refine lv_iinc (pc := 77) (v := nI (k + 1)) (lv' := [(5, .int (nI (k + 1))), (4, .int 0), (0, .ref o), (1, .int t), (2, .int (sortsS (r 11) (r 12) (r 13) sn t kind)), (3, .int (nI kind))]) hx hb dX8_sortsOf_77 hl (k := 5) rfl (nI_add (k) 1) (by decide) rfl (fun ls hl => ?_)
                refine lv_goto (pc := 80) (tgt := 15) hx hb dX8_sortsOf_80 (by decide) ?_
                exact ih_lp_3 (k + 1) (by omega) (by omega) ls (by rw [show (bi (allB (seenOk (r 11) (r 12) (r 13) t (nI kind)) (k + 1) = true) : Int32) = 0 from (by simp_all [allB, seenOk, bi])]; exact lv_sub hl [2, 3, 4, 5, 1, 0] rfl)
              · skip
                refine lv_aload_n (pc := 29) hx hb dX8_sortsOf_29 rfl (lv_at hl 0 rfl) ?_
                refine fget (pc := 30) (v := .ref (a 11)) hx hb hts hown hE hP fl_X8_31 0 rfl rfl dX8_sortsOf_30 ?_
                refine lv_iload (pc := 33) hx hb dX8_sortsOf_33 (lv_at hl 5 rfl) ?_
                refine aldN (pc := 35) (f := r 11) hx hb hE hP 8 rfl (k) (by omega) (by omega) dX8_sortsOf_35 ?_
                refine lv_iload_n (pc := 36) hx hb dX8_sortsOf_36 rfl (lv_at hl 1 rfl) ?_
                refine lv_icmp_ne (pc := 37) (tgt := 70) hx hb dX8_sortsOf_37 (by decide) (fun c_7 => ?_) (fun c_7 => ?_)
                · skip
                  refine lv_iconst (pc := 70) (v := 1) hx hb dX8_sortsOf_70 (by decide) ?_
                  refine lv_goto (pc := 71) (tgt := 75) hx hb dX8_sortsOf_71 (by decide) ?_
                  refine lv_istore (pc := 75) (lv' := [(4, .int 1), (0, .ref o), (1, .int t), (2, .int (sortsS (r 11) (r 12) (r 13) sn t kind)), (3, .int (nI kind)), (5, .int (nI k))]) hx hb dX8_sortsOf_75 hl (by decide) rfl (fun ls hl => ?_)
                  refine lv_iinc (pc := 77) (v := nI (k + 1)) (lv' := [(5, .int (nI (k + 1))), (4, .int 1), (0, .ref o), (1, .int t), (2, .int (sortsS (r 11) (r 12) (r 13) sn t kind)), (3, .int (nI kind))]) hx hb dX8_sortsOf_77 hl (k := 5) rfl (nI_add (k) 1) (by decide) rfl (fun ls hl => ?_)
                  refine lv_goto (pc := 80) (tgt := 15) hx hb dX8_sortsOf_80 (by decide) ?_
                  exact ih_lp_3 (k + 1) (by omega) (by omega) ls (by rw [show (bi (allB (seenOk (r 11) (r 12) (r 13) t (nI kind)) (k + 1) = true) : Int32) = 1 from (by simp_all [allB, seenOk, bi])]; exact lv_sub hl [2, 3, 4, 5, 1, 0] rfl)
                · skip
                  refine lv_iload_n (pc := 40) hx hb dX8_sortsOf_40 rfl (lv_at hl 3 rfl) ?_
                  refine lv_aload_n (pc := 41) hx hb dX8_sortsOf_41 rfl (lv_at hl 0 rfl) ?_
                  refine fget (pc := 42) (v := .ref (a 12)) hx hb hts hown hE hP fl_X8_34 0 rfl rfl dX8_sortsOf_42 ?_
                  refine lv_iload (pc := 45) hx hb dX8_sortsOf_45 (lv_at hl 5 rfl) ?_
                  refine aldN (pc := 47) (f := r 12) hx hb hE hP 9 rfl (k) (by omega) (by omega) dX8_sortsOf_47 ?_
                  refine rS (pc := 48) (rest := []) ⟨hx, hb, hml, hown, hts⟩ (k_X8_could (k := nI kind) (w := (r 12) k)) cw_X8_233 ⟨(Nat.le_of_ble_eq_true rfl), (Nat.le_of_ble_eq_true rfl)⟩ hE hS wc0 rfl hl.1 rfl (Nat.le_of_ble_eq_true rfl) dX8_sortsOf_48 ⟨Nat.le_refl _, Nat.le_refl _⟩ ?_
                  refine W.eq (g2 := F0 m 51 ls [.int (bi (couldB (nI kind) ((r 12) k) = true))]) rfl ?_
                  refine lv_aload_n (pc := 51) hx hb dX8_sortsOf_51 rfl (lv_at hl 0 rfl) ?_
                  refine fget (pc := 52) (v := .ref (a 13)) hx hb hts hown hE hP fl_X8_37 0 rfl rfl dX8_sortsOf_52 ?_
                  refine lv_iload (pc := 55) hx hb dX8_sortsOf_55 (lv_at hl 5 rfl) ?_
                  refine aldN (pc := 57) (f := r 13) hx hb hE hP 10 rfl (k) (by omega) (by omega) dX8_sortsOf_57 ?_
                  refine lv_iconst (pc := 58) (v := 1) hx hb dX8_sortsOf_58 (by decide) ?_
                  refine lv_icmp_ne (pc := 59) (tgt := 66) hx hb dX8_sortsOf_59 (by decide) (fun c_8 => ?_) (fun c_8 => ?_)
                  · skip
                    refine lv_iconst (pc := 66) (v := 0) hx hb dX8_sortsOf_66 (by decide) ?_
                    refine lv_icmp_ne (pc := 67) (tgt := 74) hx hb dX8_sortsOf_67 (by decide) (fun c_9 => ?_) (fun c_9 => ?_)
                    · skip
                      refine lv_iconst (pc := 74) (v := 0) hx hb dX8_sortsOf_74 (by decide) ?_
                      refine lv_istore (pc := 75) (lv' := [(4, .int 0), (0, .ref o), (1, .int t), (2, .int (sortsS (r 11) (r 12) (r 13) sn t kind)), (3, .int (nI kind)), (5, .int (nI k))]) hx hb dX8_sortsOf_75 hl (by decide) rfl (fun ls hl => ?_)
                      refine lv_iinc (pc := 77) (v := nI (k + 1)) (lv' := [(5, .int (nI (k + 1))), (4, .int 0), (0, .ref o), (1, .int t), (2, .int (sortsS (r 11) (r 12) (r 13) sn t kind)), (3, .int (nI kind))]) hx hb dX8_sortsOf_77 hl (k := 5) rfl (nI_add (k) 1) (by decide) rfl (fun ls hl => ?_)
                      refine lv_goto (pc := 80) (tgt := 15) hx hb dX8_sortsOf_80 (by decide) ?_
                      exact ih_lp_3 (k + 1) (by omega) (by omega) ls (by rw [show (bi (allB (seenOk (r 11) (r 12) (r 13) t (nI kind)) (k + 1) = true) : Int32) = 0 from (by simp_all [allB, seenOk, bi])]; exact lv_sub hl [2, 3, 4, 5, 1, 0] rfl)
                    · skip
                      refine lv_iconst (pc := 70) (v := 1) hx hb dX8_sortsOf_70 (by decide) ?_
                      refine lv_goto (pc := 71) (tgt := 75) hx hb dX8_sortsOf_71 (by decide) ?_
                      refine lv_istore (pc := 75) (lv' := [(4, .int 1), (0, .ref o), (1, .int t), (2, .int (sortsS (r 11) (r 12) (r 13) sn t kind)), (3, .int (nI kind)), (5, .int (nI k))]) hx hb dX8_sortsOf_75 hl (by decide) rfl (fun ls hl => ?_)
                      refine lv_iinc (pc := 77) (v := nI (k + 1)) (lv' := [(5, .int (nI (k + 1))), (4, .int 1), (0, .ref o), (1, .int t), (2, .int (sortsS (r 11) (r 12) (r 13) sn t kind)), (3, .int (nI kind))]) hx hb dX8_sortsOf_77 hl (k := 5) rfl (nI_add (k) 1) (by decide) rfl (fun ls hl => ?_)
                      refine lv_goto (pc := 80) (tgt := 15) hx hb dX8_sortsOf_80 (by decide) ?_
                      exact ih_lp_3 (k + 1) (by omega) (by omega) ls (by rw [show (bi (allB (seenOk (r 11) (r 12) (r 13) t (nI kind)) (k + 1) = true) : Int32) = 1 from (by simp_all [allB, seenOk, bi])]; exact lv_sub hl [2, 3, 4, 5, 1, 0] rfl)
                  · skip
                    refine lv_iconst (pc := 62) (v := 1) hx hb dX8_sortsOf_62 (by decide) ?_
                    refine lv_goto (pc := 63) (tgt := 67) hx hb dX8_sortsOf_63 (by decide) ?_
                    refine lv_icmp_ne (pc := 67) (tgt := 74) hx hb dX8_sortsOf_67 (by decide) (fun c_10 => ?_) (fun c_10 => ?_)
                    · skip
                      refine lv_iconst (pc := 74) (v := 0) hx hb dX8_sortsOf_74 (by decide) ?_
                      refine lv_istore (pc := 75) (lv' := [(4, .int 0), (0, .ref o), (1, .int t), (2, .int (sortsS (r 11) (r 12) (r 13) sn t kind)), (3, .int (nI kind)), (5, .int (nI k))]) hx hb dX8_sortsOf_75 hl (by decide) rfl (fun ls hl => ?_)
                      refine lv_iinc (pc := 77) (v := nI (k + 1)) (lv' := [(5, .int (nI (k + 1))), (4, .int 0), (0, .ref o), (1, .int t), (2, .int (sortsS (r 11) (r 12) (r 13) sn t kind)), (3, .int (nI kind))]) hx hb dX8_sortsOf_77 hl (k := 5) rfl (nI_add (k) 1) (by decide) rfl (fun ls hl => ?_)
                      refine lv_goto (pc := 80) (tgt := 15) hx hb dX8_sortsOf_80 (by decide) ?_
                      exact ih_lp_3 (k + 1) (by omega) (by omega) ls (by rw [show (bi (allB (seenOk (r 11) (r 12) (r 13) t (nI kind)) (k + 1) = true) : Int32) = 0 from (by simp_all [allB, seenOk, bi])]; exact lv_sub hl [2, 3, 4, 5, 1, 0] rfl)
                    · skip
                      refine lv_iconst (pc := 70) (v := 1) hx hb dX8_sortsOf_70 (by decide) ?_
                      refine lv_goto (pc := 71) (tgt := 75) hx hb dX8_sortsOf_71 (by decide) ?_
                      refine lv_istore (pc := 75) (lv' := [(4, .int 1), (0, .ref o), (1, .int t), (2, .int (sortsS (r 11) (r 12) (r 13) sn t kind)), (3, .int (nI kind)), (5, .int (nI k))]) hx hb dX8_sortsOf_75 hl (by decide) rfl (fun ls hl => ?_)
                      refine lv_iinc (pc := 77) (v := nI (k + 1)) (lv' := [(5, .int (nI (k + 1))), (4, .int 1), (0, .ref o), (1, .int t), (2, .int (sortsS (r 11) (r 12) (r 13) sn t kind)), (3, .int (nI kind))]) hx hb dX8_sortsOf_77 hl (k := 5) rfl (nI_add (k) 1) (by decide) rfl (fun ls hl => ?_)
                      refine lv_goto (pc := 80) (tgt := 15) hx hb dX8_sortsOf_80 (by decide) ?_
                      exact ih_lp_3 (k + 1) (by omega) (by omega) ls (by rw [show (bi (allB (seenOk (r 11) (r 12) (r 13) t (nI kind)) (k + 1) = true) : Int32) = 1 from (by simp_all [allB, seenOk, bi])]; exact lv_sub hl [2, 3, 4, 5, 1, 0] rfl)
        exact lp_3 _ 0 (Nat.lt_succ_self _) (by omega) ls (lv_sub hl [2, 3, 4, 5, 1, 0] rfl)
  exact lp_1 _ 0 (Nat.lt_succ_self _) (by omega) ls (lv_sub hl [2, 3, 1, 0] rfl)
set_option maxRecDepth 100000 in
set_option maxHeartbeats 4000000 in
theorem k_X8_askOf {o : Nat} {a : Nat → Nat} {z : Nat → Int32} {g : Nat → Int64} {r : Nat → Nat → Int32} (t : Int32) {sn : Nat} (hz10 : z 10 = nI sn) (hsn : sn ≤ 6) : MR l yX8_askOf cX8_askOf 9 (some .int) 2 46 D kB kI kT ks sk sv [.ref o, .int t] (wR kB kI o a z g r) (some (.int (askS (sortsS (r 11) (r 12) (r 13) sn t 5)))) := by
  refine MR.go (by decide +kernel) (Nat.le_of_ble_eq_true rfl) ?_
  intro p e s m below meth c0 args Q ls hQ hx hb hr hml hown hts hlocks hE hP hS hl
  have hl : lv_has ls 9 [(0, .ref o), (1, .int t)] := hl
  have hown : s.vm.findClass RX8 = some m.cls := hown
  refine lv_aload_n (pc := 0) hx hb dX8_askOf_0 rfl (lv_at hl 0 rfl) ?_
  refine lv_iload_n (pc := 1) hx hb dX8_askOf_1 rfl (lv_at hl 1 rfl) ?_
  refine rV (pc := 2) (rest := []) ⟨hx, hb, hml, hown, hts⟩ (k_X8_sortsOf (t := t) (z := z) (g := g) (r := r) (hz10 := (by first | assumption | omega)) (hsn := (by first | assumption | omega))) cw_X8_172 ⟨(Nat.le_of_ble_eq_true rfl), (Nat.le_of_ble_eq_true rfl)⟩ hE hS hP rfl rfl rfl rfl hl.1 rfl (Nat.le_of_ble_eq_true rfl) dX8_askOf_2 ⟨Nat.le_refl _, Nat.le_refl _⟩ ?_
  refine W.eq (g2 := F0 m 5 ls [.int (sortsS ((r 11)) ((r 12)) ((r 13)) sn t 5)]) rfl ?_
  refine lv_topi (fun bits hbits => ?_)
  refine lv_istore_n (pc := 5) (lv' := [(2, .int bits), (0, .ref o), (1, .int t)]) hx hb dX8_askOf_5 rfl hl (by decide) rfl (fun ls hl => ?_)
  refine lv_iconst (pc := 6) (v := (-1)) hx hb dX8_askOf_6 (by decide) ?_
  refine lv_istore_n (pc := 7) (lv' := [(3, .int (-1)), (2, .int bits), (0, .ref o), (1, .int t)]) hx hb dX8_askOf_7 rfl hl (by decide) rfl (fun ls hl => ?_)
  refine lv_ldc (pc := 8) (v := 268435456) hx hb hown (hts _ co_X8_187) dX8_askOf_8 ?_
  refine lv_istore (pc := 10) (lv' := [(4, .int 268435456), (3, .int (-1)), (2, .int bits), (0, .ref o), (1, .int t)]) hx hb dX8_askOf_10 hl (by decide) rfl (fun ls hl => ?_)
  refine lv_iconst (pc := 12) (v := 0) hx hb dX8_askOf_12 (by decide) ?_
  refine lv_istore (pc := 13) (lv' := [(5, .int 0), (4, .int 268435456), (3, .int (-1)), (2, .int bits), (0, .ref o), (1, .int t)]) hx hb dX8_askOf_13 hl (by decide) rfl (fun ls hl => ?_)
  have lp_1 : ∀ (fuel : Nat) (w : Nat), 4 - w < fuel → (w ≤ 4) → (bits = 0 → w = 0) → ∀ (ls : Array Slot), lv_has ls 9 [(0, .ref o), (1, .int t), (2, .int bits), (3, .int ((askL bits w).1)), (4, .int ((askL bits w).2)), (5, .int (nI w))] → W p l e (rmO 2 46) s m args below meth c0 s.heap [] 0 0 Q (F0 m 15 ls []) := by
    intro fuel
    induction fuel with
    | zero => intro w hfuel; exact absurd hfuel (Nat.not_lt_zero _)
    | succ fuel ih_lp_1 =>
      intro w hfuel hw hb0 ls hl
      refine lv_iload (pc := 15) hx hb dX8_askOf_15 (lv_at hl 5 rfl) ?_
      refine lv_iconst (pc := 17) (v := 4) hx hb dX8_askOf_17 (by decide) ?_
      refine lv_icmp_ge (pc := 18) (tgt := 133) hx hb dX8_askOf_18 (by decide) (fun c_2 => ?_) (fun c_2 => ?_)
      · skip
        have c_2n : 4 ≤ w := (nI_leI (a := 4) (b := w) (by omega) (by omega)).mp c_2
        refine lv_iload_n (pc := 133) hx hb dX8_askOf_133 rfl (lv_at hl 3 rfl) ?_
        rw [hQ]; exact W.iret (pc := 134) hx hb hr (fun t9 ht _ => ⟨retI (by rw [← hbits, askS, if_neg (fun q => by have := hb0 q; omega), show w = 4 by omega]), ht⟩) (fun _ h => nomatch h) dX8_askOf_134 hlocks
      · skip
        have c_2n : ¬ 4 ≤ w := fun hh => c_2 ((nI_leI (a := 4) (b := w) (by omega) (by omega)).mpr hh)
        refine lv_iload_n (pc := 21) hx hb dX8_askOf_21 rfl (lv_at hl 2 rfl) ?_
        refine lv_if_eq (pc := 22) (tgt := 133) hx hb dX8_askOf_22 (by decide) (fun c_3 => ?_) (fun c_3 => ?_)
        · skip
          refine lv_iload_n (pc := 133) hx hb dX8_askOf_133 rfl (lv_at hl 3 rfl) ?_
          rw [hQ]; exact W.iret (pc := 134) hx hb hr (fun t9 ht _ => ⟨retI (by rw [← hbits, askS, if_pos c_3, hb0 c_3]; rfl), ht⟩) (fun _ h => nomatch h) dX8_askOf_134 hlocks
        · skip
          refine lv_iconst (pc := 25) (v := 0) hx hb dX8_askOf_25 (by decide) ?_
          refine lv_istore (pc := 26) (lv' := [(6, .int 0), (0, .ref o), (1, .int t), (2, .int bits), (3, .int ((askL bits w).1)), (4, .int ((askL bits w).2)), (5, .int (nI w))]) hx hb dX8_askOf_26 hl (by decide) rfl (fun ls hl => ?_)
          refine lv_iconst (pc := 28) (v := 0) hx hb dX8_askOf_28 (by decide) ?_
          refine lv_istore (pc := 29) (lv' := [(7, .int 0), (6, .int 0), (0, .ref o), (1, .int t), (2, .int bits), (3, .int ((askL bits w).1)), (4, .int ((askL bits w).2)), (5, .int (nI w))]) hx hb dX8_askOf_29 hl (by decide) rfl (fun ls hl => ?_)
          have lp_4 : ∀ (fuel : Nat) (kd : Nat), 5 - kd < fuel → (kd ≤ 5) → ∀ (ls : Array Slot), lv_has ls 9 [(0, .ref o), (1, .int t), (2, .int bits), (3, .int ((askL bits w).1)), (4, .int ((askL bits w).2)), (5, .int (nI w)), (6, .int (nI (yesN bits w kd))), (7, .int (nI kd))] → W p l e (rmO 2 46) s m args below meth c0 s.heap [] 0 0 Q (F0 m 31 ls []) := by
            intro fuel
            induction fuel with
            | zero => intro kd hfuel; exact absurd hfuel (Nat.not_lt_zero _)
            | succ fuel ih_lp_4 =>
              intro kd hfuel hkd ls hl
              refine lv_iload (pc := 31) hx hb dX8_askOf_31 (lv_at hl 7 rfl) ?_
              refine lv_iconst (pc := 33) (v := 4) hx hb dX8_askOf_33 (by decide) ?_
              refine lv_icmp_gt (pc := 34) (tgt := 72) hx hb dX8_askOf_34 (by decide) (fun c_5 => ?_) (fun c_5 => ?_)
              · skip
                have c_5n : 4 < kd := (nI_ltI (a := 4) (b := kd) (by omega) (by omega)).mp c_5
                refine lv_iload_n (pc := 72) hx hb dX8_askOf_72 rfl (lv_at hl 2 rfl) ?_
                refine rS (pc := 73) (rest := []) ⟨hx, hb, hml, hown, hts⟩ (k_X8_size (bits := bits)) cw_X8_239 ⟨(Nat.le_of_ble_eq_true rfl), (Nat.le_of_ble_eq_true rfl)⟩ hE hS wc0 rfl hl.1 rfl (Nat.le_of_ble_eq_true rfl) dX8_askOf_73 ⟨Nat.le_refl _, Nat.le_refl _⟩ ?_
                refine W.eq (g2 := F0 m 76 ls [.int (sizeI bits 16)]) rfl ?_
                refine lv_iload (pc := 76) hx hb dX8_askOf_76 (lv_at hl 6 rfl) ?_
                refine lv_isub (pc := 78) hx hb dX8_askOf_78 ?_
                refine lv_istore (pc := 79) (lv' := [(7, .int ((sizeI bits 16) - (nI (yesN bits w kd)))), (0, .ref o), (1, .int t), (2, .int bits), (3, .int ((askL bits w).1)), (4, .int ((askL bits w).2)), (5, .int (nI w)), (6, .int (nI (yesN bits w kd)))]) hx hb dX8_askOf_79 hl (by decide) rfl (fun ls hl => ?_)
                refine lv_iload (pc := 81) hx hb dX8_askOf_81 (lv_at hl 7 rfl) ?_
                refine lv_iload (pc := 83) hx hb dX8_askOf_83 (lv_at hl 0 rfl) ?_
                refine lv_icmp_le (pc := 85) (tgt := 93) hx hb dX8_askOf_85 (by decide) (fun c_6 => ?_) (fun c_6 => ?_)
                · skip
                  refine lv_iload (pc := 93) hx hb dX8_askOf_93 (lv_at hl 0 rfl) ?_
                  refine lv_istore (pc := 95) (lv' := [(8, .int ((sizeI bits 16) - (nI (yesN bits w kd)))), (7, .int ((sizeI bits 16) - (nI (yesN bits w kd)))), (0, .ref o), (1, .int t), (2, .int bits), (3, .int ((askL bits w).1)), (4, .int ((askL bits w).2)), (5, .int (nI w)), (6, .int (nI (yesN bits w kd)))]) hx hb dX8_askOf_95 hl (by decide) rfl (fun ls hl => ?_)
                  refine lv_iload (pc := 97) hx hb dX8_askOf_97 (lv_at hl 0 rfl) ?_
                  refine lv_iload (pc := 99) hx hb dX8_askOf_99 (lv_at hl 6 rfl) ?_
                  refine lv_icmp_ge (pc := 101) (tgt := 109) hx hb dX8_askOf_101 (by decide) (fun c_7 => ?_) (fun c_7 => ?_)
                  · skip
                    refine lv_iload_n (pc := 109) hx hb dX8_askOf_109 rfl (lv_at hl 5 rfl) ?_
                    refine lv_istore_n (pc := 110) (lv' := [(3, .int ((askL bits w).1)), (8, .int ((sizeI bits 16) - (nI (yesN bits w kd)))), (7, .int ((sizeI bits 16) - (nI (yesN bits w kd)))), (0, .ref o), (1, .int t), (2, .int bits), (4, .int ((askL bits w).2)), (5, .int (nI w)), (6, .int (nI (yesN bits w kd)))]) hx hb dX8_askOf_110 rfl hl (by decide) rfl (fun ls hl => ?_)
                    refine lv_iload (pc := 111) hx hb dX8_askOf_111 (lv_at hl 1 rfl) ?_
                    refine lv_iload (pc := 113) hx hb dX8_askOf_113 (lv_at hl 6 rfl) ?_
                    refine lv_icmp_ge (pc := 115) (tgt := 123) hx hb dX8_askOf_115 (by decide) (fun c_8 => ?_) (fun c_8 => ?_)
                    · skip
                      refine lv_iload (pc := 123) hx hb dX8_askOf_123 (lv_at hl 6 rfl) ?_
                      refine lv_istore (pc := 125) (lv' := [(4, .int ((askL bits w).2)), (3, .int ((askL bits w).1)), (8, .int ((sizeI bits 16) - (nI (yesN bits w kd)))), (7, .int ((sizeI bits 16) - (nI (yesN bits w kd)))), (0, .ref o), (1, .int t), (2, .int bits), (5, .int (nI w)), (6, .int (nI (yesN bits w kd)))]) hx hb dX8_askOf_125 hl (by decide) rfl (fun ls hl => ?_)
                      refine lv_iinc (pc := 127) (v := nI (w + 1)) (lv' := [(5, .int (nI (w + 1))), (4, .int ((askL bits w).2)), (3, .int ((askL bits w).1)), (8, .int ((sizeI bits 16) - (nI (yesN bits w kd)))), (7, .int ((sizeI bits 16) - (nI (yesN bits w kd)))), (0, .ref o), (1, .int t), (2, .int bits), (6, .int (nI (yesN bits w kd)))]) hx hb dX8_askOf_127 hl (k := 7) rfl (nI_add (w) 1) (by decide) rfl (fun ls hl => ?_)
                      refine lv_goto (pc := 130) (tgt := 15) hx hb dX8_askOf_130 (by decide) ?_
                      exact ih_lp_1 (w + 1) (by omega) (by omega) (fun q => absurd q c_3) ls (by rw [show ((askL bits (w + 1)).1 : Int32) = (askL bits w).1 from (by obtain rfl : kd = 5 := (by omega); simp [askL, worstI, c_2, c_3, c_5, c_6, c_7, c_8]), show ((askL bits (w + 1)).2 : Int32) = (askL bits w).2 from (by obtain rfl : kd = 5 := (by omega); simp [askL, worstI, c_2, c_3, c_5, c_6, c_7, c_8])]; exact lv_sub hl [5, 6, 7, 2, 1, 0] rfl)
                    · exact absurd c_7 c_8
                  · skip
                    refine lv_iload (pc := 104) hx hb dX8_askOf_104 (lv_at hl 7 rfl) ?_
                    refine lv_goto (pc := 106) (tgt := 110) hx hb dX8_askOf_106 (by decide) ?_
                    refine lv_istore_n (pc := 110) (lv' := [(3, .int (nI w)), (8, .int ((sizeI bits 16) - (nI (yesN bits w kd)))), (7, .int ((sizeI bits 16) - (nI (yesN bits w kd)))), (0, .ref o), (1, .int t), (2, .int bits), (4, .int ((askL bits w).2)), (5, .int (nI w)), (6, .int (nI (yesN bits w kd)))]) hx hb dX8_askOf_110 rfl hl (by decide) rfl (fun ls hl => ?_)
                    refine lv_iload (pc := 111) hx hb dX8_askOf_111 (lv_at hl 1 rfl) ?_
                    refine lv_iload (pc := 113) hx hb dX8_askOf_113 (lv_at hl 6 rfl) ?_
                    refine lv_icmp_ge (pc := 115) (tgt := 123) hx hb dX8_askOf_115 (by decide) (fun c_9 => ?_) (fun c_9 => ?_)
                    · exact absurd c_9 c_7
                    · skip
                      refine lv_iload (pc := 118) hx hb dX8_askOf_118 (lv_at hl 1 rfl) ?_
                      refine lv_goto (pc := 120) (tgt := 125) hx hb dX8_askOf_120 (by decide) ?_
                      refine lv_istore (pc := 125) (lv' := [(4, .int ((sizeI bits 16) - (nI (yesN bits w kd)))), (3, .int (nI w)), (8, .int ((sizeI bits 16) - (nI (yesN bits w kd)))), (7, .int ((sizeI bits 16) - (nI (yesN bits w kd)))), (0, .ref o), (1, .int t), (2, .int bits), (5, .int (nI w)), (6, .int (nI (yesN bits w kd)))]) hx hb dX8_askOf_125 hl (by decide) rfl (fun ls hl => ?_)
                      refine lv_iinc (pc := 127) (v := nI (w + 1)) (lv' := [(5, .int (nI (w + 1))), (4, .int ((sizeI bits 16) - (nI (yesN bits w kd)))), (3, .int (nI w)), (8, .int ((sizeI bits 16) - (nI (yesN bits w kd)))), (7, .int ((sizeI bits 16) - (nI (yesN bits w kd)))), (0, .ref o), (1, .int t), (2, .int bits), (6, .int (nI (yesN bits w kd)))]) hx hb dX8_askOf_127 hl (k := 7) rfl (nI_add (w) 1) (by decide) rfl (fun ls hl => ?_)
                      refine lv_goto (pc := 130) (tgt := 15) hx hb dX8_askOf_130 (by decide) ?_
                      exact ih_lp_1 (w + 1) (by omega) (by omega) (fun q => absurd q c_3) ls (by rw [show ((askL bits (w + 1)).1 : Int32) = nI w from (by obtain rfl : kd = 5 := (by omega); simp [askL, worstI, c_2, c_3, c_5, c_6, c_7, c_9]), show ((askL bits (w + 1)).2 : Int32) = (sizeI bits 16) - (nI (yesN bits w kd)) from (by obtain rfl : kd = 5 := (by omega); simp [askL, worstI, c_2, c_3, c_5, c_6, c_7, c_9])]; exact lv_sub hl [5, 6, 7, 2, 1, 0] rfl)
                · skip
                  refine lv_iload (pc := 88) hx hb dX8_askOf_88 (lv_at hl 7 rfl) ?_
                  refine lv_goto (pc := 90) (tgt := 95) hx hb dX8_askOf_90 (by decide) ?_
                  refine lv_istore (pc := 95) (lv' := [(8, .int (nI (yesN bits w kd))), (7, .int ((sizeI bits 16) - (nI (yesN bits w kd)))), (0, .ref o), (1, .int t), (2, .int bits), (3, .int ((askL bits w).1)), (4, .int ((askL bits w).2)), (5, .int (nI w)), (6, .int (nI (yesN bits w kd)))]) hx hb dX8_askOf_95 hl (by decide) rfl (fun ls hl => ?_)
                  refine lv_iload (pc := 97) hx hb dX8_askOf_97 (lv_at hl 0 rfl) ?_
                  refine lv_iload (pc := 99) hx hb dX8_askOf_99 (lv_at hl 6 rfl) ?_
                  refine lv_icmp_ge (pc := 101) (tgt := 109) hx hb dX8_askOf_101 (by decide) (fun c_10 => ?_) (fun c_10 => ?_)
                  · skip
                    refine lv_iload_n (pc := 109) hx hb dX8_askOf_109 rfl (lv_at hl 5 rfl) ?_
                    refine lv_istore_n (pc := 110) (lv' := [(3, .int ((askL bits w).1)), (8, .int (nI (yesN bits w kd))), (7, .int ((sizeI bits 16) - (nI (yesN bits w kd)))), (0, .ref o), (1, .int t), (2, .int bits), (4, .int ((askL bits w).2)), (5, .int (nI w)), (6, .int (nI (yesN bits w kd)))]) hx hb dX8_askOf_110 rfl hl (by decide) rfl (fun ls hl => ?_)
                    refine lv_iload (pc := 111) hx hb dX8_askOf_111 (lv_at hl 1 rfl) ?_
                    refine lv_iload (pc := 113) hx hb dX8_askOf_113 (lv_at hl 6 rfl) ?_
                    refine lv_icmp_ge (pc := 115) (tgt := 123) hx hb dX8_askOf_115 (by decide) (fun c_11 => ?_) (fun c_11 => ?_)
                    · skip
                      refine lv_iload (pc := 123) hx hb dX8_askOf_123 (lv_at hl 6 rfl) ?_
                      refine lv_istore (pc := 125) (lv' := [(4, .int ((askL bits w).2)), (3, .int ((askL bits w).1)), (8, .int (nI (yesN bits w kd))), (7, .int ((sizeI bits 16) - (nI (yesN bits w kd)))), (0, .ref o), (1, .int t), (2, .int bits), (5, .int (nI w)), (6, .int (nI (yesN bits w kd)))]) hx hb dX8_askOf_125 hl (by decide) rfl (fun ls hl => ?_)
                      refine lv_iinc (pc := 127) (v := nI (w + 1)) (lv' := [(5, .int (nI (w + 1))), (4, .int ((askL bits w).2)), (3, .int ((askL bits w).1)), (8, .int (nI (yesN bits w kd))), (7, .int ((sizeI bits 16) - (nI (yesN bits w kd)))), (0, .ref o), (1, .int t), (2, .int bits), (6, .int (nI (yesN bits w kd)))]) hx hb dX8_askOf_127 hl (k := 7) rfl (nI_add (w) 1) (by decide) rfl (fun ls hl => ?_)
                      refine lv_goto (pc := 130) (tgt := 15) hx hb dX8_askOf_130 (by decide) ?_
                      exact ih_lp_1 (w + 1) (by omega) (by omega) (fun q => absurd q c_3) ls (by rw [show ((askL bits (w + 1)).1 : Int32) = (askL bits w).1 from (by obtain rfl : kd = 5 := (by omega); simp [askL, worstI, c_2, c_3, c_5, c_6, c_10, c_11]), show ((askL bits (w + 1)).2 : Int32) = (askL bits w).2 from (by obtain rfl : kd = 5 := (by omega); simp [askL, worstI, c_2, c_3, c_5, c_6, c_10, c_11])]; exact lv_sub hl [5, 6, 7, 2, 1, 0] rfl)
                    · exact absurd c_10 c_11
                  · skip
                    refine lv_iload (pc := 104) hx hb dX8_askOf_104 (lv_at hl 7 rfl) ?_
                    refine lv_goto (pc := 106) (tgt := 110) hx hb dX8_askOf_106 (by decide) ?_
                    refine lv_istore_n (pc := 110) (lv' := [(3, .int (nI w)), (8, .int (nI (yesN bits w kd))), (7, .int ((sizeI bits 16) - (nI (yesN bits w kd)))), (0, .ref o), (1, .int t), (2, .int bits), (4, .int ((askL bits w).2)), (5, .int (nI w)), (6, .int (nI (yesN bits w kd)))]) hx hb dX8_askOf_110 rfl hl (by decide) rfl (fun ls hl => ?_)
                    refine lv_iload (pc := 111) hx hb dX8_askOf_111 (lv_at hl 1 rfl) ?_
                    refine lv_iload (pc := 113) hx hb dX8_askOf_113 (lv_at hl 6 rfl) ?_
                    refine lv_icmp_ge (pc := 115) (tgt := 123) hx hb dX8_askOf_115 (by decide) (fun c_12 => ?_) (fun c_12 => ?_)
                    · exact absurd c_12 c_10
                    · skip
                      refine lv_iload (pc := 118) hx hb dX8_askOf_118 (lv_at hl 1 rfl) ?_
                      refine lv_goto (pc := 120) (tgt := 125) hx hb dX8_askOf_120 (by decide) ?_
                      refine lv_istore (pc := 125) (lv' := [(4, .int (nI (yesN bits w kd))), (3, .int (nI w)), (8, .int (nI (yesN bits w kd))), (7, .int ((sizeI bits 16) - (nI (yesN bits w kd)))), (0, .ref o), (1, .int t), (2, .int bits), (5, .int (nI w)), (6, .int (nI (yesN bits w kd)))]) hx hb dX8_askOf_125 hl (by decide) rfl (fun ls hl => ?_)
                      refine lv_iinc (pc := 127) (v := nI (w + 1)) (lv' := [(5, .int (nI (w + 1))), (4, .int (nI (yesN bits w kd))), (3, .int (nI w)), (8, .int (nI (yesN bits w kd))), (7, .int ((sizeI bits 16) - (nI (yesN bits w kd)))), (0, .ref o), (1, .int t), (2, .int bits), (6, .int (nI (yesN bits w kd)))]) hx hb dX8_askOf_127 hl (k := 7) rfl (nI_add (w) 1) (by decide) rfl (fun ls hl => ?_)
                      refine lv_goto (pc := 130) (tgt := 15) hx hb dX8_askOf_130 (by decide) ?_
                      exact ih_lp_1 (w + 1) (by omega) (by omega) (fun q => absurd q c_3) ls (by rw [show ((askL bits (w + 1)).1 : Int32) = nI w from (by obtain rfl : kd = 5 := (by omega); simp [askL, worstI, c_2, c_3, c_5, c_6, c_10, c_12]), show ((askL bits (w + 1)).2 : Int32) = nI (yesN bits w kd) from (by obtain rfl : kd = 5 := (by omega); simp [askL, worstI, c_2, c_3, c_5, c_6, c_10, c_12])]; exact lv_sub hl [5, 6, 7, 2, 1, 0] rfl)
              · skip
                have c_5n : ¬ 4 < kd := fun hh => c_5 ((nI_ltI (a := 4) (b := kd) (by omega) (by omega)).mpr hh)
                refine lv_iload (pc := 37) hx hb dX8_askOf_37 (lv_at hl 6 rfl) ?_
                refine lv_iload_n (pc := 39) hx hb dX8_askOf_39 rfl (lv_at hl 2 rfl) ?_
                refine lv_iload (pc := 40) hx hb dX8_askOf_40 (lv_at hl 7 rfl) ?_
                refine rS (pc := 42) (rest := [.int (nI (yesN bits w kd))]) ⟨hx, hb, hml, hown, hts⟩ (k_X8_isIn (set := bits) (k := nI kd)) cw_X8_236 ⟨(Nat.le_of_ble_eq_true rfl), (Nat.le_of_ble_eq_true rfl)⟩ hE hS wc0 rfl hl.1 rfl (Nat.le_of_ble_eq_true rfl) dX8_askOf_42 ⟨Nat.le_refl _, Nat.le_refl _⟩ ?_
                refine W.eq (g2 := F0 m 45 ls [.int (bi (isInP bits (nI kd))), .int (nI (yesN bits w kd))]) rfl ?_
                refine bif_eq (pc := 45) (tgt := 62) hx hb dX8_askOf_45 (by decide) (fun c_13 => ?_) (fun c_13 => ?_)
                · skip
                  refine lv_iconst (pc := 62) (v := 0) hx hb dX8_askOf_62 (by decide) ?_
                  refine iaddV (pc := 63) (v := nI (yesN bits w kd + 0)) hx hb dX8_askOf_63 (nI_add (yesN bits w kd) (0)) ?_
                  refine lv_istore (pc := 64) (lv' := [(6, .int (nI (yesN bits w kd + 0))), (0, .ref o), (1, .int t), (2, .int bits), (3, .int ((askL bits w).1)), (4, .int ((askL bits w).2)), (5, .int (nI w)), (7, .int (nI kd))]) hx hb dX8_askOf_64 hl (by decide) rfl (fun ls hl => ?_)
                  refine lv_iinc (pc := 66) (v := nI (kd + 1)) (lv' := [(7, .int (nI (kd + 1))), (6, .int (nI (yesN bits w kd + 0))), (0, .ref o), (1, .int t), (2, .int bits), (3, .int ((askL bits w).1)), (4, .int ((askL bits w).2)), (5, .int (nI w))]) hx hb dX8_askOf_66 hl (k := 7) rfl (nI_add (kd) 1) (by decide) rfl (fun ls hl => ?_)
                  refine lv_goto (pc := 69) (tgt := 31) hx hb dX8_askOf_69 (by decide) ?_
                  exact ih_lp_4 (kd + 1) (by omega) (by omega) ls (by rw [show (nI (yesN bits w (kd + 1)) : Int32) = nI (yesN bits w kd + 0) from (by rw [yesN, cntP_f (fun q => c_13 q.1)]; rfl)]; exact lv_sub hl [2, 3, 4, 5, 6, 7, 1, 0] rfl)
                · skip
                  refine lv_iload (pc := 48) hx hb dX8_askOf_48 (lv_at hl 7 rfl) ?_
                  refine lv_iload (pc := 50) hx hb dX8_askOf_50 (lv_at hl 5 rfl) ?_
                  refine rS (pc := 52) (rest := [.int (nI (yesN bits w kd))]) ⟨hx, hb, hml, hown, hts⟩ (k_X8_could (k := nI kd) (w := nI w)) cw_X8_233 ⟨(Nat.le_of_ble_eq_true rfl), (Nat.le_of_ble_eq_true rfl)⟩ hE hS wc0 rfl hl.1 rfl (Nat.le_of_ble_eq_true rfl) dX8_askOf_52 ⟨Nat.le_refl _, Nat.le_refl _⟩ ?_
                  refine W.eq (g2 := F0 m 55 ls [.int (bi (couldB (nI kd) (nI w) = true)), .int (nI (yesN bits w kd))]) rfl ?_
                  refine bif_eq (pc := 55) (tgt := 62) hx hb dX8_askOf_55 (by decide) (fun c_14 => ?_) (fun c_14 => ?_)
                  · skip
                    refine lv_iconst (pc := 62) (v := 0) hx hb dX8_askOf_62 (by decide) ?_
                    refine iaddV (pc := 63) (v := nI (yesN bits w kd + 0)) hx hb dX8_askOf_63 (nI_add (yesN bits w kd) (0)) ?_
                    refine lv_istore (pc := 64) (lv' := [(6, .int (nI (yesN bits w kd + 0))), (0, .ref o), (1, .int t), (2, .int bits), (3, .int ((askL bits w).1)), (4, .int ((askL bits w).2)), (5, .int (nI w)), (7, .int (nI kd))]) hx hb dX8_askOf_64 hl (by decide) rfl (fun ls hl => ?_)
                    refine lv_iinc (pc := 66) (v := nI (kd + 1)) (lv' := [(7, .int (nI (kd + 1))), (6, .int (nI (yesN bits w kd + 0))), (0, .ref o), (1, .int t), (2, .int bits), (3, .int ((askL bits w).1)), (4, .int ((askL bits w).2)), (5, .int (nI w))]) hx hb dX8_askOf_66 hl (k := 7) rfl (nI_add (kd) 1) (by decide) rfl (fun ls hl => ?_)
                    refine lv_goto (pc := 69) (tgt := 31) hx hb dX8_askOf_69 (by decide) ?_
                    exact ih_lp_4 (kd + 1) (by omega) (by omega) ls (by rw [show (nI (yesN bits w (kd + 1)) : Int32) = nI (yesN bits w kd + 0) from (by rw [yesN, cntP_f (fun q => c_14 q.2)]; rfl)]; exact lv_sub hl [2, 3, 4, 5, 6, 7, 1, 0] rfl)
                  · skip
                    refine lv_iconst (pc := 58) (v := 1) hx hb dX8_askOf_58 (by decide) ?_
                    refine lv_goto (pc := 59) (tgt := 63) hx hb dX8_askOf_59 (by decide) ?_
                    refine iaddV (pc := 63) (v := nI (yesN bits w kd + 1)) hx hb dX8_askOf_63 (nI_add (yesN bits w kd) (1)) ?_
                    refine lv_istore (pc := 64) (lv' := [(6, .int (nI (yesN bits w kd + 1))), (0, .ref o), (1, .int t), (2, .int bits), (3, .int ((askL bits w).1)), (4, .int ((askL bits w).2)), (5, .int (nI w)), (7, .int (nI kd))]) hx hb dX8_askOf_64 hl (by decide) rfl (fun ls hl => ?_)
                    refine lv_iinc (pc := 66) (v := nI (kd + 1)) (lv' := [(7, .int (nI (kd + 1))), (6, .int (nI (yesN bits w kd + 1))), (0, .ref o), (1, .int t), (2, .int bits), (3, .int ((askL bits w).1)), (4, .int ((askL bits w).2)), (5, .int (nI w))]) hx hb dX8_askOf_66 hl (k := 7) rfl (nI_add (kd) 1) (by decide) rfl (fun ls hl => ?_)
                    refine lv_goto (pc := 69) (tgt := 31) hx hb dX8_askOf_69 (by decide) ?_
                    exact ih_lp_4 (kd + 1) (by omega) (by omega) ls (by rw [show (nI (yesN bits w (kd + 1)) : Int32) = nI (yesN bits w kd + 1) from (by rw [yesN, cntP_t ⟨c_13, c_14⟩]; rfl)]; exact lv_sub hl [2, 3, 4, 5, 6, 7, 1, 0] rfl)
          exact lp_4 _ 0 (Nat.lt_succ_self _) (by omega) ls (lv_sub hl [2, 3, 4, 5, 6, 7, 1, 0] rfl)
  exact lp_1 _ 0 (Nat.lt_succ_self _) (by omega) (fun _ => rfl) ls (lv_sub hl [4, 5, 3, 2, 1, 0] rfl)
set_option maxRecDepth 100000 in
set_option maxHeartbeats 4000000 in
theorem k_X8_titleNow {o : Nat} {a : Nat → Nat} {z : Nat → Int32} {g : Nat → Int64} {r : Nat → Nat → Int32} (k : Nat) (what : Int32) {sn : Nat} (hz10 : z 10 = nI sn) (hsn : sn ≤ 6) (hk : k < 5) : MR l yX8_titleNow cX8_titleNow 3 (some .int) 3 74 D kB kI kT ks sk sv [.ref o, .int (nI k), .int what] (wR kB kI o a z g r) (some (.int (titleS r sn k what))) := by
  refine MR.go (by decide +kernel) (Nat.le_of_ble_eq_true rfl) ?_
  intro p e s m below meth c0 args Q ls hQ hx hb hr hml hown hts hlocks hE hP hS hl
  have hl : lv_has ls 3 [(0, .ref o), (1, .int (nI k)), (2, .int what)] := hl
  have hown : s.vm.findClass RX8 = some m.cls := hown
  refine lv_iload_n (pc := 0) hx hb dX8_titleNow_0 rfl (lv_at hl 2 rfl) ?_
  by_cases c_1 : what = 0
  · skip
    refine lv_tableIn (pc := 1) (off := 47) (tgt := 48) hx hb dX8_titleNow_1 (by rw [c_1]; decide) (by rw [c_1]; decide) (by rw [c_1]; try rfl) (by decide) ?_
    refine lv_aload_n (pc := 48) hx hb dX8_titleNow_48 rfl (lv_at hl 0 rfl) ?_
    refine fget (pc := 49) (v := .ref (a 2)) hx hb hts hown hE hP fl_X8_7 0 rfl rfl dX8_titleNow_49 ?_
    refine lv_iload_n (pc := 52) hx hb dX8_titleNow_52 rfl (lv_at hl 1 rfl) ?_
    refine aldN (pc := 53) (f := r 2) hx hb hE hP 1 rfl (k) (by omega) (by omega) dX8_titleNow_53 ?_
    rw [hQ]; exact W.iret (pc := 54) hx hb hr (fun t9 ht _ => ⟨retI (by simp [titleS, c_1]), ht⟩) (fun _ h => nomatch h) dX8_titleNow_54 hlocks
  by_cases c_2 : what = 1
  · skip
    refine lv_tableIn (pc := 1) (off := 54) (tgt := 55) hx hb dX8_titleNow_1 (by rw [c_2]; decide) (by rw [c_2]; decide) (by rw [c_2]; try rfl) (by decide) ?_
    refine lv_aload_n (pc := 55) hx hb dX8_titleNow_55 rfl (lv_at hl 0 rfl) ?_
    refine fget (pc := 56) (v := .ref (a 3)) hx hb hts hown hE hP fl_X8_13 0 rfl rfl dX8_titleNow_56 ?_
    refine lv_iload_n (pc := 59) hx hb dX8_titleNow_59 rfl (lv_at hl 1 rfl) ?_
    refine aldN (pc := 60) (f := r 3) hx hb hE hP 2 rfl (k) (by omega) (by omega) dX8_titleNow_60 ?_
    rw [hQ]; exact W.iret (pc := 61) hx hb hr (fun t9 ht _ => ⟨retI (by simp [titleS, c_1, c_2]), ht⟩) (fun _ h => nomatch h) dX8_titleNow_61 hlocks
  by_cases c_3 : what = 2
  · skip
    refine lv_tableIn (pc := 1) (off := 61) (tgt := 62) hx hb dX8_titleNow_1 (by rw [c_3]; decide) (by rw [c_3]; decide) (by rw [c_3]; try rfl) (by decide) ?_
    refine lv_aload_n (pc := 62) hx hb dX8_titleNow_62 rfl (lv_at hl 0 rfl) ?_
    refine fget (pc := 63) (v := .ref (a 4)) hx hb hts hown hE hP fl_X8_16 0 rfl rfl dX8_titleNow_63 ?_
    refine lv_iload_n (pc := 66) hx hb dX8_titleNow_66 rfl (lv_at hl 1 rfl) ?_
    refine aldN (pc := 67) (f := r 4) hx hb hE hP 3 rfl (k) (by omega) (by omega) dX8_titleNow_67 ?_
    rw [hQ]; exact W.iret (pc := 68) hx hb hr (fun t9 ht _ => ⟨retI (by simp [titleS, c_1, c_2, c_3]), ht⟩) (fun _ h => nomatch h) dX8_titleNow_68 hlocks
  by_cases c_4 : what = 3
  · skip
    refine lv_tableIn (pc := 1) (off := 68) (tgt := 69) hx hb dX8_titleNow_1 (by rw [c_4]; decide) (by rw [c_4]; decide) (by rw [c_4]; try rfl) (by decide) ?_
    refine lv_aload_n (pc := 69) hx hb dX8_titleNow_69 rfl (lv_at hl 0 rfl) ?_
    refine fget (pc := 70) (v := .ref (a 5)) hx hb hts hown hE hP fl_X8_19 0 rfl rfl dX8_titleNow_70 ?_
    refine lv_iload_n (pc := 73) hx hb dX8_titleNow_73 rfl (lv_at hl 1 rfl) ?_
    refine aldN (pc := 74) (f := r 5) hx hb hE hP 4 rfl (k) (by omega) (by omega) dX8_titleNow_74 ?_
    rw [hQ]; exact W.iret (pc := 75) hx hb hr (fun t9 ht _ => ⟨retI (by simp [titleS, c_1, c_2, c_3, c_4]), ht⟩) (fun _ h => nomatch h) dX8_titleNow_75 hlocks
  by_cases c_5 : what = 4
  · skip
    refine lv_tableIn (pc := 1) (off := 75) (tgt := 76) hx hb dX8_titleNow_1 (by rw [c_5]; decide) (by rw [c_5]; decide) (by rw [c_5]; try rfl) (by decide) ?_
    refine lv_aload_n (pc := 76) hx hb dX8_titleNow_76 rfl (lv_at hl 0 rfl) ?_
    refine fget (pc := 77) (v := .ref (a 6)) hx hb hts hown hE hP fl_X8_22 0 rfl rfl dX8_titleNow_77 ?_
    refine lv_iload_n (pc := 80) hx hb dX8_titleNow_80 rfl (lv_at hl 1 rfl) ?_
    refine aldN (pc := 81) (f := r 6) hx hb hE hP 5 rfl (k) (by omega) (by omega) dX8_titleNow_81 ?_
    rw [hQ]; exact W.iret (pc := 82) hx hb hr (fun t9 ht _ => ⟨retI (by simp [titleS, c_1, c_2, c_3, c_4, c_5]), ht⟩) (fun _ h => nomatch h) dX8_titleNow_82 hlocks
  by_cases c_6 : what = 5
  · skip
    refine lv_tableIn (pc := 1) (off := 82) (tgt := 83) hx hb dX8_titleNow_1 (by rw [c_6]; decide) (by rw [c_6]; decide) (by rw [c_6]; try rfl) (by decide) ?_
    refine lv_aload_n (pc := 83) hx hb dX8_titleNow_83 rfl (lv_at hl 0 rfl) ?_
    refine fget (pc := 84) (v := .ref (a 7)) hx hb hts hown hE hP fl_X8_25 0 rfl rfl dX8_titleNow_84 ?_
    refine lv_iload_n (pc := 87) hx hb dX8_titleNow_87 rfl (lv_at hl 1 rfl) ?_
    refine aldN (pc := 88) (f := r 7) hx hb hE hP 6 rfl (k) (by omega) (by omega) dX8_titleNow_88 ?_
    rw [hQ]; exact W.iret (pc := 89) hx hb hr (fun t9 ht _ => ⟨retI (by simp [titleS, c_1, c_2, c_3, c_4, c_5, c_6]), ht⟩) (fun _ h => nomatch h) dX8_titleNow_89 hlocks
  by_cases c_7 : what = 6
  · skip
    refine lv_tableIn (pc := 1) (off := 89) (tgt := 90) hx hb dX8_titleNow_1 (by rw [c_7]; decide) (by rw [c_7]; decide) (by rw [c_7]; try rfl) (by decide) ?_
    refine lv_aload_n (pc := 90) hx hb dX8_titleNow_90 rfl (lv_at hl 0 rfl) ?_
    refine lv_iload_n (pc := 91) hx hb dX8_titleNow_91 rfl (lv_at hl 1 rfl) ?_
    refine lv_bipush (pc := 92) (v := 12) hx hb dX8_titleNow_92 (by decide) ?_
    refine rV (pc := 94) (rest := []) ⟨hx, hb, hml, hown, hts⟩ (k_X8_nightsOf (t := nI k) (b := 12) (z := z) (g := g) (r := r) (hb12 := (by first | assumption | omega))) cw_X8_153 ⟨(Nat.le_of_ble_eq_true rfl), (Nat.le_of_ble_eq_true rfl)⟩ hE hS hP rfl rfl rfl rfl hl.1 rfl (Nat.le_of_ble_eq_true rfl) dX8_titleNow_94 ⟨Nat.le_refl _, Nat.le_refl _⟩ ?_
    refine W.eq (g2 := F0 m 97 ls [.int (nI (nOf ((r 8)) (nI k) 12))]) rfl ?_
    rw [hQ]; exact W.iret (pc := 97) hx hb hr (fun t9 ht _ => ⟨retI (by simp [titleS, c_1, c_2, c_3, c_4, c_5, c_6, c_7]), ht⟩) (fun _ h => nomatch h) dX8_titleNow_97 hlocks
  by_cases c_8 : what = 7
  · skip
    refine lv_tableIn (pc := 1) (off := 97) (tgt := 98) hx hb dX8_titleNow_1 (by rw [c_8]; decide) (by rw [c_8]; decide) (by rw [c_8]; try rfl) (by decide) ?_
    refine lv_aload_n (pc := 98) hx hb dX8_titleNow_98 rfl (lv_at hl 0 rfl) ?_
    refine lv_iload_n (pc := 99) hx hb dX8_titleNow_99 rfl (lv_at hl 1 rfl) ?_
    refine rV (pc := 100) (rest := []) ⟨hx, hb, hml, hown, hts⟩ (k_X8_sortsOf (t := nI k) (z := z) (g := g) (r := r) (hz10 := (by first | assumption | omega)) (hsn := (by first | assumption | omega))) cw_X8_172 ⟨(Nat.le_of_ble_eq_true rfl), (Nat.le_of_ble_eq_true rfl)⟩ hE hS hP rfl rfl rfl rfl hl.1 rfl (Nat.le_of_ble_eq_true rfl) dX8_titleNow_100 ⟨Nat.le_refl _, Nat.le_refl _⟩ ?_
    refine W.eq (g2 := F0 m 103 ls [.int (sortsS ((r 11)) ((r 12)) ((r 13)) sn (nI k) 5)]) rfl ?_
    rw [hQ]; exact W.iret (pc := 103) hx hb hr (fun t9 ht _ => ⟨retI (by simp [titleS, c_1, c_2, c_3, c_4, c_5, c_6, c_7, c_8]), ht⟩) (fun _ h => nomatch h) dX8_titleNow_103 hlocks
  refine lv_tableOut (pc := 1) (tgt := 104) hx hb dX8_titleNow_1 (by (have q0 : ¬ what.toInt = 0 := fun q => c_1 (Int32.toInt_inj.mp (q.trans rfl)); have q1 : ¬ what.toInt = 1 := fun q => c_2 (Int32.toInt_inj.mp (q.trans rfl)); have q2 : ¬ what.toInt = 2 := fun q => c_3 (Int32.toInt_inj.mp (q.trans rfl)); have q3 : ¬ what.toInt = 3 := fun q => c_4 (Int32.toInt_inj.mp (q.trans rfl)); have q4 : ¬ what.toInt = 4 := fun q => c_5 (Int32.toInt_inj.mp (q.trans rfl)); have q5 : ¬ what.toInt = 5 := fun q => c_6 (Int32.toInt_inj.mp (q.trans rfl)); have q6 : ¬ what.toInt = 6 := fun q => c_7 (Int32.toInt_inj.mp (q.trans rfl)); have q7 : ¬ what.toInt = 7 := fun q => c_8 (Int32.toInt_inj.mp (q.trans rfl)); omega)) (by decide) ?_
  refine lv_aload_n (pc := 104) hx hb dX8_titleNow_104 rfl (lv_at hl 0 rfl) ?_
  refine lv_iload_n (pc := 105) hx hb dX8_titleNow_105 rfl (lv_at hl 1 rfl) ?_
  refine rV (pc := 106) (rest := []) ⟨hx, hb, hml, hown, hts⟩ (k_X8_askOf (t := nI k) (z := z) (g := g) (r := r) (hz10 := (by first | assumption | omega)) (hsn := (by first | assumption | omega))) cw_X8_175 ⟨(Nat.le_of_ble_eq_true rfl), (Nat.le_of_ble_eq_true rfl)⟩ hE hS hP rfl rfl rfl rfl hl.1 rfl (Nat.le_of_ble_eq_true rfl) dX8_titleNow_106 ⟨Nat.le_refl _, Nat.le_refl _⟩ ?_
  refine W.eq (g2 := F0 m 109 ls [.int (askS (sortsS ((r 11)) ((r 12)) ((r 13)) sn (nI k) 5))]) rfl ?_
  rw [hQ]; exact W.iret (pc := 109) hx hb hr (fun t9 ht _ => ⟨retI (by simp [titleS, c_1, c_2, c_3, c_4, c_5, c_6, c_7, c_8]), ht⟩) (fun _ h => nomatch h) dX8_titleNow_109 hlocks
set_option maxRecDepth 100000 in
set_option maxHeartbeats 4000000 in
theorem k_X8_title {o : Nat} {a : Nat → Nat} {z : Nat → Int32} {g : Nat → Int64} {r : Nat → Nat → Int32} (t : Int32) (what : Int32) {n : Nat} {sn : Nat} (hz1 : z 1 = nI n) (hn5 : n ≤ 5) (hz10 : z 10 = nI sn) (hsn : sn ≤ 6) : MR l yX8_title cX8_title 3 (some .int) 4 96 D kB kI kT ks sk sv [.ref o, .int t, .int what] (wR kB kI o a z g r) (some (.int (titS z r sn t what))) := by
  refine MR.go (by decide +kernel) (Nat.le_of_ble_eq_true rfl) ?_
  intro p e s m below meth c0 args Q ls hQ hx hb hr hml hown hts hlocks hE hP hS hl
  have hl : lv_has ls 3 [(0, .ref o), (1, .int t), (2, .int what)] := hl
  have hown : s.vm.findClass RX8 = some m.cls := hown
  refine lv_aload_n (pc := 0) hx hb dX8_title_0 rfl (lv_at hl 0 rfl) ?_
  refine lv_iload_n (pc := 1) hx hb dX8_title_1 rfl (lv_at hl 1 rfl) ?_
  refine rV (pc := 2) (rest := []) ⟨hx, hb, hml, hown, hts⟩ (k_X8_isTitle (t := t) (z := z) (g := g) (r := r)) cw_X8_133 ⟨(Nat.le_of_ble_eq_true rfl), (Nat.le_of_ble_eq_true rfl)⟩ hE hS hP rfl rfl rfl rfl hl.1 rfl (Nat.le_of_ble_eq_true rfl) dX8_title_2 ⟨Nat.le_refl _, Nat.le_refl _⟩ ?_
  refine W.eq (g2 := F0 m 5 ls [.int (bi (inR t 0 ((z 1) - 1)))]) rfl ?_
  refine bif_ne (pc := 5) (tgt := 13) hx hb dX8_title_5 (by decide) (fun c_1 => ?_) (fun c_1 => ?_)
  · skip
    obtain ⟨k, hk, hkt⟩ := isT_nat hz1 hn5 c_1
    refine lv_iload_n (pc := 13) hx hb dX8_title_13 rfl (lv_at hl 2 rfl) ?_
    refine lv_iconst (pc := 14) (v := 0) hx hb dX8_title_14 (by decide) ?_
    refine lv_bipush (pc := 15) (v := 8) hx hb dX8_title_15 (by decide) ?_
    refine rS (pc := 17) (rest := []) ⟨hx, hb, hml, hown, hts⟩ (k_X8_within (v := what) (lo := 0) (hi := 8)) cw_X8_86 ⟨(Nat.le_of_ble_eq_true rfl), (Nat.le_of_ble_eq_true rfl)⟩ hE hS wc0 rfl hl.1 rfl (Nat.le_of_ble_eq_true rfl) dX8_title_17 ⟨Nat.le_refl _, Nat.le_refl _⟩ ?_
    refine W.eq (g2 := F0 m 20 ls [.int (bi (inR what 0 8))]) rfl ?_
    refine bif_eq (pc := 20) (tgt := 32) hx hb dX8_title_20 (by decide) (fun c_2 => ?_) (fun c_2 => ?_)
    · skip
      refine lv_bipush (pc := 32) (v := (-102)) hx hb dX8_title_32 (by decide) ?_
      rw [hQ]; exact W.iret (pc := 34) hx hb hr (fun t9 ht _ => ⟨retI (by rw [titS, if_pos c_1, if_neg c_2]), ht⟩) (fun _ h => nomatch h) dX8_title_34 hlocks
    · skip
      refine lv_aload_n (pc := 23) hx hb dX8_title_23 rfl (lv_at hl 0 rfl) ?_
      refine lv_iload_n (pc := 24) hx hb dX8_title_24 rfl (lv_at hl 1 rfl) ?_
      refine vEq (v := nI k) hkt ?_
      refine lv_iload_n (pc := 25) hx hb dX8_title_25 rfl (lv_at hl 2 rfl) ?_
      refine rV (pc := 26) (rest := []) ⟨hx, hb, hml, hown, hts⟩ (k_X8_titleNow (k := k) (what := what) (z := z) (g := g) (r := r) (hz10 := (by first | assumption | omega)) (hsn := (by first | assumption | omega)) (hk := (by first | assumption | omega))) cw_X8_178 ⟨(Nat.le_of_ble_eq_true rfl), (Nat.le_of_ble_eq_true rfl)⟩ hE hS hP rfl rfl rfl rfl hl.1 rfl (Nat.le_of_ble_eq_true rfl) dX8_title_26 ⟨Nat.le_refl _, Nat.le_refl _⟩ ?_
      refine W.eq (g2 := F0 m 29 ls [.int (titleS r sn k what)]) rfl ?_
      refine lv_goto (pc := 29) (tgt := 34) hx hb dX8_title_29 (by decide) ?_
      rw [hQ]; exact W.iret (pc := 34) hx hb hr (fun t9 ht _ => ⟨retI (by rw [titS, if_pos c_1, if_pos c_2, hkt, ix_nI (by omega)]), ht⟩) (fun _ h => nomatch h) dX8_title_34 hlocks
  · skip
    refine lv_bipush (pc := 8) (v := (-101)) hx hb dX8_title_8 (by decide) ?_
    refine lv_goto (pc := 10) (tgt := 34) hx hb dX8_title_10 (by decide) ?_
    rw [hQ]; exact W.iret (pc := 34) hx hb hr (fun t9 ht _ => ⟨retI (by rw [titS, if_neg c_1]), ht⟩) (fun _ h => nomatch h) dX8_title_34 hlocks
set_option maxRecDepth 100000 in
set_option maxHeartbeats 4000000 in
theorem k_X8_as {o : Nat} {a : Nat → Nat} {z : Nat → Int32} {g : Nat → Int64} {r : Nat → Nat → Int32} (t : Int32) (kind : Int32) {n : Nat} (hz1 : z 1 = nI n) (hn5 : n ≤ 5) : MR l yX8_as cX8_as 4 (some .int) 2 43 D kB kI kT ks sk sv [.ref o, .int t, .int kind] (wR kB kI o a z g r) (some (.int (asS z r t kind))) := by
  refine MR.go (by decide +kernel) (Nat.le_of_ble_eq_true rfl) ?_
  intro p e s m below meth c0 args Q ls hQ hx hb hr hml hown hts hlocks hE hP hS hl
  have hl : lv_has ls 4 [(0, .ref o), (1, .int t), (2, .int kind)] := hl
  have hown : s.vm.findClass RX8 = some m.cls := hown
  refine lv_aload_n (pc := 0) hx hb dX8_as_0 rfl (lv_at hl 0 rfl) ?_
  refine lv_iload_n (pc := 1) hx hb dX8_as_1 rfl (lv_at hl 1 rfl) ?_
  refine rV (pc := 2) (rest := []) ⟨hx, hb, hml, hown, hts⟩ (k_X8_isTitle (t := t) (z := z) (g := g) (r := r)) cw_X8_133 ⟨(Nat.le_of_ble_eq_true rfl), (Nat.le_of_ble_eq_true rfl)⟩ hE hS hP rfl rfl rfl rfl hl.1 rfl (Nat.le_of_ble_eq_true rfl) dX8_as_2 ⟨Nat.le_refl _, Nat.le_refl _⟩ ?_
  refine W.eq (g2 := F0 m 5 ls [.int (bi (inR t 0 ((z 1) - 1)))]) rfl ?_
  refine bif_ne (pc := 5) (tgt := 11) hx hb dX8_as_5 (by decide) (fun c_1 => ?_) (fun c_1 => ?_)
  · skip
    obtain ⟨k, hk, hkt⟩ := isT_nat hz1 hn5 c_1
    refine lv_iload_n (pc := 11) hx hb dX8_as_11 rfl (lv_at hl 2 rfl) ?_
    refine lv_iconst (pc := 12) (v := 0) hx hb dX8_as_12 (by decide) ?_
    refine lv_iconst (pc := 13) (v := 4) hx hb dX8_as_13 (by decide) ?_
    refine rS (pc := 14) (rest := []) ⟨hx, hb, hml, hown, hts⟩ (k_X8_within (v := kind) (lo := 0) (hi := 4)) cw_X8_86 ⟨(Nat.le_of_ble_eq_true rfl), (Nat.le_of_ble_eq_true rfl)⟩ hE hS wc0 rfl hl.1 rfl (Nat.le_of_ble_eq_true rfl) dX8_as_14 ⟨Nat.le_refl _, Nat.le_refl _⟩ ?_
    refine W.eq (g2 := F0 m 17 ls [.int (bi (inR kind 0 4))]) rfl ?_
    refine bif_ne (pc := 17) (tgt := 23) hx hb dX8_as_17 (by decide) (fun c_2 => ?_) (fun c_2 => ?_)
    · skip
      refine lv_aload_n (pc := 23) hx hb dX8_as_23 rfl (lv_at hl 0 rfl) ?_
      refine fget (pc := 24) (v := .ref (a 2)) hx hb hts hown hE hP fl_X8_7 0 rfl rfl dX8_as_24 ?_
      refine lv_iload_n (pc := 27) hx hb dX8_as_27 rfl (lv_at hl 1 rfl) ?_
      refine vEq (v := nI k) hkt ?_
      refine aldN (pc := 28) (f := r 2) hx hb hE hP 1 rfl (k) (by omega) (by omega) dX8_as_28 ?_
      refine lv_istore_n (pc := 29) (lv' := [(3, .int ((r 2) k)), (0, .ref o), (1, .int t), (2, .int kind)]) hx hb dX8_as_29 rfl hl (by decide) rfl (fun ls hl => ?_)
      refine lv_iload_n (pc := 30) hx hb dX8_as_30 rfl (lv_at hl 3 rfl) ?_
      refine lv_if_eq (pc := 31) (tgt := 49) hx hb dX8_as_31 (by decide) (fun c_3 => ?_) (fun c_3 => ?_)
      · skip
        refine lv_iload_n (pc := 49) hx hb dX8_as_49 rfl (lv_at hl 2 rfl) ?_
        refine vEq (v := nI k) hkt ?_
        refine lv_goto (pc := 50) (tgt := 54) hx hb dX8_as_50 (by decide) ?_
        rw [hQ]; exact W.iret (pc := 54) hx hb hr (fun t9 ht _ => ⟨retI (by rw [asS, if_pos c_1, if_pos c_2, hkt, ix_nI (by omega)]; simp_all), ht⟩) (fun _ h => nomatch h) dX8_as_54 hlocks
      · skip
        refine lv_iload_n (pc := 34) hx hb dX8_as_34 rfl (lv_at hl 0 rfl) ?_
        refine lv_iload_n (pc := 35) hx hb dX8_as_35 rfl (lv_at hl 3 rfl) ?_
        refine lv_icmp_eq (pc := 36) (tgt := 49) hx hb dX8_as_36 (by decide) (fun c_4 => ?_) (fun c_4 => ?_)
        · skip
          refine lv_iload_n (pc := 49) hx hb dX8_as_49 rfl (lv_at hl 2 rfl) ?_
          refine vEq (v := nI k) hkt ?_
          refine lv_goto (pc := 50) (tgt := 54) hx hb dX8_as_50 (by decide) ?_
          rw [hQ]; exact W.iret (pc := 54) hx hb hr (fun t9 ht _ => ⟨retI (by rw [asS, if_pos c_1, if_pos c_2, hkt, ix_nI (by omega)]; simp_all), ht⟩) (fun _ h => nomatch h) dX8_as_54 hlocks
        · skip
          refine lv_iload_n (pc := 39) hx hb dX8_as_39 rfl (lv_at hl 3 rfl) ?_
          refine lv_iconst (pc := 40) (v := 1) hx hb dX8_as_40 (by decide) ?_
          refine lv_icmp_ne (pc := 41) (tgt := 53) hx hb dX8_as_41 (by decide) (fun c_5 => ?_) (fun c_5 => ?_)
          · skip
            refine lv_iconst (pc := 53) (v := (-1)) hx hb dX8_as_53 (by decide) ?_
            rw [hQ]; exact W.iret (pc := 54) hx hb hr (fun t9 ht _ => ⟨retI (by rw [asS, if_pos c_1, if_pos c_2, hkt, ix_nI (by omega)]; simp_all), ht⟩) (fun _ h => nomatch h) dX8_as_54 hlocks
          · skip
            refine lv_iload_n (pc := 44) hx hb dX8_as_44 rfl (lv_at hl 0 rfl) ?_
            refine lv_iconst (pc := 45) (v := 2) hx hb dX8_as_45 (by decide) ?_
            refine lv_icmp_ne (pc := 46) (tgt := 53) hx hb dX8_as_46 (by decide) (fun c_6 => ?_) (fun c_6 => ?_)
            · skip
              refine lv_iconst (pc := 53) (v := (-1)) hx hb dX8_as_53 (by decide) ?_
              rw [hQ]; exact W.iret (pc := 54) hx hb hr (fun t9 ht _ => ⟨retI (by rw [asS, if_pos c_1, if_pos c_2, hkt, ix_nI (by omega)]; simp_all), ht⟩) (fun _ h => nomatch h) dX8_as_54 hlocks
            · skip
              refine lv_iload_n (pc := 49) hx hb dX8_as_49 rfl (lv_at hl 2 rfl) ?_
              refine vEq (v := nI k) hkt ?_
              refine lv_goto (pc := 50) (tgt := 54) hx hb dX8_as_50 (by decide) ?_
              rw [hQ]; exact W.iret (pc := 54) hx hb hr (fun t9 ht _ => ⟨retI (by rw [asS, if_pos c_1, if_pos c_2, hkt, ix_nI (by omega)]; simp_all), ht⟩) (fun _ h => nomatch h) dX8_as_54 hlocks
    · skip
      refine lv_bipush (pc := 20) (v := (-102)) hx hb dX8_as_20 (by decide) ?_
      rw [hQ]; exact W.iret (pc := 22) hx hb hr (fun t9 ht _ => ⟨retI (by rw [asS, if_pos c_1, if_neg c_2]), ht⟩) (fun _ h => nomatch h) dX8_as_22 hlocks
  · skip
    refine lv_bipush (pc := 8) (v := (-101)) hx hb dX8_as_8 (by decide) ?_
    rw [hQ]; exact W.iret (pc := 10) hx hb hr (fun t9 ht _ => ⟨retI (by rw [asS, if_neg c_1]), ht⟩) (fun _ h => nomatch h) dX8_as_10 hlocks
set_option maxRecDepth 100000 in
set_option maxHeartbeats 4000000 in
theorem k_X8_nightNow {o : Nat} {a : Nat → Nat} {z : Nat → Int32} {g : Nat → Int64} {r : Nat → Nat → Int32} (i : Nat) (what : Int32) {n : Nat} (hok : okP n (r 8)) (hn5 : n ≤ 5) (hi : i < 12) : MR l yX8_nightNow cX8_nightNow 3 (some .int) 6 131 D kB kI kT ks sk sv [.ref o, .int (nI i), .int what] (wR kB kI o a z g r) (some (.int (nightS r i what))) := by
  refine MR.go (by decide +kernel) (Nat.le_of_ble_eq_true rfl) ?_
  intro p e s m below meth c0 args Q ls hQ hx hb hr hml hown hts hlocks hE hP hS hl
  have hl : lv_has ls 3 [(0, .ref o), (1, .int (nI i)), (2, .int what)] := hl
  have hown : s.vm.findClass RX8 = some m.cls := hown
  refine lv_iload_n (pc := 0) hx hb dX8_nightNow_0 rfl (lv_at hl 2 rfl) ?_
  refine lv_if_ne (pc := 1) (tgt := 13) hx hb dX8_nightNow_1 (by decide) (fun c_1 => ?_) (fun c_1 => ?_)
  · skip
    refine lv_iload_n (pc := 13) hx hb dX8_nightNow_13 rfl (lv_at hl 2 rfl) ?_
    refine lv_iconst (pc := 14) (v := 1) hx hb dX8_nightNow_14 (by decide) ?_
    refine lv_icmp_ne (pc := 15) (tgt := 26) hx hb dX8_nightNow_15 (by decide) (fun c_2 => ?_) (fun c_2 => ?_)
    · skip
      refine lv_aload_n (pc := 26) hx hb dX8_nightNow_26 rfl (lv_at hl 0 rfl) ?_
      refine lv_iload_n (pc := 27) hx hb dX8_nightNow_27 rfl (lv_at hl 1 rfl) ?_
      refine rV (pc := 28) (rest := []) ⟨hx, hb, hml, hown, hts⟩ (k_X8_seatsAt (i := i) (z := z) (g := g) (r := r) (hok := (by first | assumption | omega)) (hn5 := (by first | assumption | omega)) (hi := (by first | assumption | omega))) cw_X8_169 ⟨(Nat.le_of_ble_eq_true rfl), (Nat.le_of_ble_eq_true rfl)⟩ hE hS hP rfl rfl rfl rfl hl.1 rfl (Nat.le_of_ble_eq_true rfl) dX8_nightNow_28 ⟨Nat.le_refl _, Nat.le_refl _⟩ ?_
      refine W.eq (g2 := F0 m 31 ls [.int (sts ((r 2)) ((r 7)) ((r 8)) i)]) rfl ?_
      rw [hQ]; exact W.iret (pc := 31) hx hb hr (fun t9 ht _ => ⟨retI (by simp [nightS, c_1, c_2]), ht⟩) (fun _ h => nomatch h) dX8_nightNow_31 hlocks
    · skip
      refine lv_aload_n (pc := 18) hx hb dX8_nightNow_18 rfl (lv_at hl 0 rfl) ?_
      refine lv_iload_n (pc := 19) hx hb dX8_nightNow_19 rfl (lv_at hl 1 rfl) ?_
      refine rV (pc := 20) (rest := []) ⟨hx, hb, hml, hown, hts⟩ (k_X8_breaksAt (i := i) (z := z) (g := g) (r := r) (hok := (by first | assumption | omega)) (hn5 := (by first | assumption | omega)) (hi := (by first | assumption | omega))) cw_X8_163 ⟨(Nat.le_of_ble_eq_true rfl), (Nat.le_of_ble_eq_true rfl)⟩ hE hS hP rfl rfl rfl rfl hl.1 rfl (Nat.le_of_ble_eq_true rfl) dX8_nightNow_20 ⟨Nat.le_refl _, Nat.le_refl _⟩ ?_
      refine W.eq (g2 := F0 m 23 ls [.int (brk ((r 2)) ((r 3)) ((r 4)) ((r 5)) ((r 6)) ((r 8)) i)]) rfl ?_
      refine lv_goto (pc := 23) (tgt := 31) hx hb dX8_nightNow_23 (by decide) ?_
      rw [hQ]; exact W.iret (pc := 31) hx hb hr (fun t9 ht _ => ⟨retI (by simp [nightS, c_1, c_2]), ht⟩) (fun _ h => nomatch h) dX8_nightNow_31 hlocks
  · skip
    refine lv_aload_n (pc := 4) hx hb dX8_nightNow_4 rfl (lv_at hl 0 rfl) ?_
    refine fget (pc := 5) (v := .ref (a 8)) hx hb hts hown hE hP fl_X8_28 0 rfl rfl dX8_nightNow_5 ?_
    refine lv_iload_n (pc := 8) hx hb dX8_nightNow_8 rfl (lv_at hl 1 rfl) ?_
    refine aldN (pc := 9) (f := r 8) hx hb hE hP 7 rfl (i) (by omega) (by omega) dX8_nightNow_9 ?_
    refine lv_goto (pc := 10) (tgt := 31) hx hb dX8_nightNow_10 (by decide) ?_
    rw [hQ]; exact W.iret (pc := 31) hx hb hr (fun t9 ht _ => ⟨retI (by simp [nightS, c_1]), ht⟩) (fun _ h => nomatch h) dX8_nightNow_31 hlocks
set_option maxRecDepth 100000 in
set_option maxHeartbeats 4000000 in
theorem k_X8_night {o : Nat} {a : Nat → Nat} {z : Nat → Int32} {g : Nat → Int64} {r : Nat → Nat → Int32} (x : Int32) (what : Int32) {n : Nat} (hok : okP n (r 8)) (hn5 : n ≤ 5) (hz1 : z 1 = nI n) : MR l yX8_night cX8_night 3 (some .int) 7 153 D kB kI kT ks sk sv [.ref o, .int x, .int what] (wR kB kI o a z g r) (some (.int (nigS z r x what))) := by
  refine MR.go (by decide +kernel) (Nat.le_of_ble_eq_true rfl) ?_
  intro p e s m below meth c0 args Q ls hQ hx hb hr hml hown hts hlocks hE hP hS hl
  have hl : lv_has ls 3 [(0, .ref o), (1, .int x), (2, .int what)] := hl
  have hown : s.vm.findClass RX8 = some m.cls := hown
  refine lv_iload_n (pc := 0) hx hb dX8_night_0 rfl (lv_at hl 1 rfl) ?_
  refine rS (pc := 1) (rest := []) ⟨hx, hb, hml, hown, hts⟩ (k_X8_isNight (n := x)) cw_X8_140 ⟨(Nat.le_of_ble_eq_true rfl), (Nat.le_of_ble_eq_true rfl)⟩ hE hS wc0 rfl hl.1 rfl (Nat.le_of_ble_eq_true rfl) dX8_night_1 ⟨Nat.le_refl _, Nat.le_refl _⟩ ?_
  refine W.eq (g2 := F0 m 4 ls [.int (bi (inR x 0 11))]) rfl ?_
  refine bif_eq (pc := 4) (tgt := 14) hx hb dX8_night_4 (by decide) (fun c_1 => ?_) (fun c_1 => ?_)
  · skip
    refine lv_bipush (pc := 14) (v := (-101)) hx hb dX8_night_14 (by decide) ?_
    rw [hQ]; exact W.iret (pc := 16) hx hb hr (fun t9 ht _ => ⟨retI (by rw [nigS, if_neg (fun q => c_1 q.1)]), ht⟩) (fun _ h => nomatch h) dX8_night_16 hlocks
  · skip
    obtain ⟨i, hi, hxi⟩ := inR_nat c_1
    refine lv_aload_n (pc := 7) hx hb dX8_night_7 rfl (lv_at hl 0 rfl) ?_
    refine fget (pc := 8) (v := .int (z 1)) hx hb hts hown hE hP fl_X8_124 0 rfl rfl dX8_night_8 ?_
    refine vEq (v := nI n) hz1 ?_
    refine lv_if_ne (pc := 11) (tgt := 17) hx hb dX8_night_11 (by decide) (fun c_2 => ?_) (fun c_2 => ?_)
    · skip
      have c_2n : ¬ n = 0 := fun hh => c_2 ((nI_eq (a := n) (b := 0) (by omega) (by omega)).mpr hh)
      refine lv_iload_n (pc := 17) hx hb dX8_night_17 rfl (lv_at hl 2 rfl) ?_
      refine lv_iconst (pc := 18) (v := 0) hx hb dX8_night_18 (by decide) ?_
      refine lv_iconst (pc := 19) (v := 2) hx hb dX8_night_19 (by decide) ?_
      refine rS (pc := 20) (rest := []) ⟨hx, hb, hml, hown, hts⟩ (k_X8_within (v := what) (lo := 0) (hi := 2)) cw_X8_86 ⟨(Nat.le_of_ble_eq_true rfl), (Nat.le_of_ble_eq_true rfl)⟩ hE hS wc0 rfl hl.1 rfl (Nat.le_of_ble_eq_true rfl) dX8_night_20 ⟨Nat.le_refl _, Nat.le_refl _⟩ ?_
      refine W.eq (g2 := F0 m 23 ls [.int (bi (inR what 0 2))]) rfl ?_
      refine bif_eq (pc := 23) (tgt := 35) hx hb dX8_night_23 (by decide) (fun c_3 => ?_) (fun c_3 => ?_)
      · skip
        refine lv_bipush (pc := 35) (v := (-102)) hx hb dX8_night_35 (by decide) ?_
        rw [hQ]; exact W.iret (pc := 37) hx hb hr (fun t9 ht _ => ⟨retI (by rw [nigS, if_pos ⟨c_1, fun q => c_2n ((nI_eq (a := n) (b := 0) (by omega) (by omega)).mp (hz1.symm.trans q))⟩, if_neg c_3]), ht⟩) (fun _ h => nomatch h) dX8_night_37 hlocks
      · skip
        refine lv_aload_n (pc := 26) hx hb dX8_night_26 rfl (lv_at hl 0 rfl) ?_
        refine lv_iload_n (pc := 27) hx hb dX8_night_27 rfl (lv_at hl 1 rfl) ?_
        refine vEq (v := nI i) hxi ?_
        refine lv_iload_n (pc := 28) hx hb dX8_night_28 rfl (lv_at hl 2 rfl) ?_
        refine rV (pc := 29) (rest := []) ⟨hx, hb, hml, hown, hts⟩ (k_X8_nightNow (i := i) (what := what) (z := z) (g := g) (r := r) (hok := (by first | assumption | omega)) (hn5 := (by first | assumption | omega)) (hi := (by first | assumption | omega))) cw_X8_181 ⟨(Nat.le_of_ble_eq_true rfl), (Nat.le_of_ble_eq_true rfl)⟩ hE hS hP rfl rfl rfl rfl hl.1 rfl (Nat.le_of_ble_eq_true rfl) dX8_night_29 ⟨Nat.le_refl _, Nat.le_refl _⟩ ?_
        refine W.eq (g2 := F0 m 32 ls [.int (nightS r i what)]) rfl ?_
        refine lv_goto (pc := 32) (tgt := 37) hx hb dX8_night_32 (by decide) ?_
        rw [hQ]; exact W.iret (pc := 37) hx hb hr (fun t9 ht _ => ⟨retI (by rw [nigS, if_pos ⟨c_1, fun q => c_2n ((nI_eq (a := n) (b := 0) (by omega) (by omega)).mp (hz1.symm.trans q))⟩, if_pos c_3, hxi, ix_nI (by omega)]), ht⟩) (fun _ h => nomatch h) dX8_night_37 hlocks
    · skip
      have c_2n : n = 0 := (nI_eq (a := n) (b := 0) (by omega) (by omega)).mp c_2
      refine lv_bipush (pc := 14) (v := (-101)) hx hb dX8_night_14 (by decide) ?_
      rw [hQ]; exact W.iret (pc := 16) hx hb hr (fun t9 ht _ => ⟨retI (by rw [nigS, if_neg (fun q => q.2 (by rw [hz1, c_2n]; rfl))]), ht⟩) (fun _ h => nomatch h) dX8_night_16 hlocks
set_option maxRecDepth 100000 in
set_option maxHeartbeats 4000000 in
theorem k_X8_darkOnes {o : Nat} {a : Nat → Nat} {z : Nat → Int32} {g : Nat → Int64} {r : Nat → Nat → Int32} (f : Nat) (t : Nat) (hft : f ≤ t) (ht : t < 12) : MR l yX8_darkOnes cX8_darkOnes 5 (some .int) 0 0 D kB kI kT ks sk sv [.ref o, .int (nI f), .int (nI t)] (wR kB kI o a z g r) (some (.int (nI (dkN (r 8) f (t + 1 - f))))) := by
  refine MR.go (by decide +kernel) (Nat.le_of_ble_eq_true rfl) ?_
  intro p e s m below meth c0 args Q ls hQ hx hb hr hml hown hts hlocks hE hP hS hl
  have hl : lv_has ls 5 [(0, .ref o), (1, .int (nI f)), (2, .int (nI t))] := hl
  have hown : s.vm.findClass RX8 = some m.cls := hown
  refine lv_iconst (pc := 0) (v := 0) hx hb dX8_darkOnes_0 (by decide) ?_
  refine lv_istore_n (pc := 1) (lv' := [(3, .int 0), (0, .ref o), (1, .int (nI f)), (2, .int (nI t))]) hx hb dX8_darkOnes_1 rfl hl (by decide) rfl (fun ls hl => ?_)
  refine lv_iload_n (pc := 2) hx hb dX8_darkOnes_2 rfl (lv_at hl 2 rfl) ?_
  refine lv_istore (pc := 3) (lv' := [(4, .int (nI f)), (3, .int 0), (0, .ref o), (1, .int (nI f)), (2, .int (nI t))]) hx hb dX8_darkOnes_3 hl (by decide) rfl (fun ls hl => ?_)
  have lp_1 : ∀ (fuel : Nat) (j : Nat), t + 1 - f - j < fuel → (f + j ≤ t + 1) → ∀ (ls : Array Slot), lv_has ls 5 [(0, .ref o), (1, .int (nI f)), (2, .int (nI t)), (3, .int (nI (dkN (r 8) f j))), (4, .int (nI (f + j)))] → W p l e (rmO 0 0) s m args below meth c0 s.heap [] 0 0 Q (F0 m 5 ls []) := by
    intro fuel
    induction fuel with
    | zero => intro j hfuel; exact absurd hfuel (Nat.not_lt_zero _)
    | succ fuel ih_lp_1 =>
      intro j hfuel hj ls hl
      refine lv_iload (pc := 5) hx hb dX8_darkOnes_5 (lv_at hl 4 rfl) ?_
      refine lv_iload_n (pc := 7) hx hb dX8_darkOnes_7 rfl (lv_at hl 2 rfl) ?_
      refine lv_icmp_gt (pc := 8) (tgt := 36) hx hb dX8_darkOnes_8 (by decide) (fun c_2 => ?_) (fun c_2 => ?_)
      · skip
        have c_2n : t < (f + j) := (nI_ltI (a := t) (b := f + j) (by omega) (by omega)).mp c_2
        refine lv_iload_n (pc := 36) hx hb dX8_darkOnes_36 rfl (lv_at hl 3 rfl) ?_
        rw [hQ]; exact W.iret (pc := 37) hx hb hr (fun t9 ht _ => ⟨retI (by rw [show j = t + 1 - f by omega]), ht⟩) (fun _ h => nomatch h) dX8_darkOnes_37 hlocks
      · skip
        have c_2n : ¬ t < (f + j) := fun hh => c_2 ((nI_ltI (a := t) (b := f + j) (by omega) (by omega)).mpr hh)
        refine lv_iload_n (pc := 11) hx hb dX8_darkOnes_11 rfl (lv_at hl 3 rfl) ?_
        refine lv_aload_n (pc := 12) hx hb dX8_darkOnes_12 rfl (lv_at hl 0 rfl) ?_
        refine fget (pc := 13) (v := .ref (a 8)) hx hb hts hown hE hP fl_X8_28 0 rfl rfl dX8_darkOnes_13 ?_
        refine lv_iload (pc := 16) hx hb dX8_darkOnes_16 (lv_at hl 4 rfl) ?_
        refine aldN (pc := 18) (f := r 8) hx hb hE hP 7 rfl (f + j) (by omega) (by omega) dX8_darkOnes_18 ?_
        refine lv_iconst (pc := 19) (v := (-1)) hx hb dX8_darkOnes_19 (by decide) ?_
        refine lv_icmp_ne (pc := 20) (tgt := 27) hx hb dX8_darkOnes_20 (by decide) (fun c_3 => ?_) (fun c_3 => ?_)
        · skip
          refine lv_iconst (pc := 27) (v := 0) hx hb dX8_darkOnes_27 (by decide) ?_
          refine iaddV (pc := 28) (v := nI (dkN (r 8) f j + 0)) hx hb dX8_darkOnes_28 (nI_add (dkN (r 8) f j) (0)) ?_
          refine lv_istore_n (pc := 29) (lv' := [(3, .int (nI (dkN (r 8) f j + 0))), (0, .ref o), (1, .int (nI f)), (2, .int (nI t)), (4, .int (nI (f + j)))]) hx hb dX8_darkOnes_29 rfl hl (by decide) rfl (fun ls hl => ?_)
          refine lv_iinc (pc := 30) (v := nI (f + j + 1)) (lv' := [(4, .int (nI (f + j + 1))), (3, .int (nI (dkN (r 8) f j + 0))), (0, .ref o), (1, .int (nI f)), (2, .int (nI t))]) hx hb dX8_darkOnes_30 hl (k := 4) rfl (nI_add (f + j) 1) (by decide) rfl (fun ls hl => ?_)
          refine lv_goto (pc := 33) (tgt := 5) hx hb dX8_darkOnes_33 (by decide) ?_
          exact ih_lp_1 (j + 1) (by omega) (by omega) ls (by rw [show (nI (dkN (r 8) f (j + 1)) : Int32) = nI (dkN (r 8) f j + 0) from (by simp [dkN, cntP, c_2, c_3])]; exact lv_sub hl [2, 3, 4, 1, 0] rfl)
        · skip
          refine lv_iconst (pc := 23) (v := 1) hx hb dX8_darkOnes_23 (by decide) ?_
          refine lv_goto (pc := 24) (tgt := 28) hx hb dX8_darkOnes_24 (by decide) ?_
          refine iaddV (pc := 28) (v := nI (dkN (r 8) f j + 1)) hx hb dX8_darkOnes_28 (nI_add (dkN (r 8) f j) (1)) ?_
          refine lv_istore_n (pc := 29) (lv' := [(3, .int (nI (dkN (r 8) f j + 1))), (0, .ref o), (1, .int (nI f)), (2, .int (nI t)), (4, .int (nI (f + j)))]) hx hb dX8_darkOnes_29 rfl hl (by decide) rfl (fun ls hl => ?_)
          refine lv_iinc (pc := 30) (v := nI (f + j + 1)) (lv' := [(4, .int (nI (f + j + 1))), (3, .int (nI (dkN (r 8) f j + 1))), (0, .ref o), (1, .int (nI f)), (2, .int (nI t))]) hx hb dX8_darkOnes_30 hl (k := 4) rfl (nI_add (f + j) 1) (by decide) rfl (fun ls hl => ?_)
          refine lv_goto (pc := 33) (tgt := 5) hx hb dX8_darkOnes_33 (by decide) ?_
          exact ih_lp_1 (j + 1) (by omega) (by omega) ls (by rw [show (nI (dkN (r 8) f (j + 1)) : Int32) = nI (dkN (r 8) f j + 1) from (by simp [dkN, cntP, c_2, c_3])]; exact lv_sub hl [2, 3, 4, 1, 0] rfl)
  exact lp_1 _ 0 (Nat.lt_succ_self _) (by omega) ls (lv_sub hl [2, 3, 4, 1, 0] rfl)
set_option maxRecDepth 100000 in
set_option maxHeartbeats 4000000 in
theorem k_X8_seatsOf {o : Nat} {a : Nat → Nat} {z : Nat → Int32} {g : Nat → Int64} {r : Nat → Nat → Int32} (t : Int32) {n : Nat} (hok : okP n (r 8)) (hn5 : n ≤ 5) : MR l yX8_seatsOf cX8_seatsOf 4 (some .int) 6 131 D kB kI kT ks sk sv [.ref o, .int t] (wR kB kI o a z g r) (some (.int (seatS r t 12))) := by
  refine MR.go (by decide +kernel) (Nat.le_of_ble_eq_true rfl) ?_
  intro p e s m below meth c0 args Q ls hQ hx hb hr hml hown hts hlocks hE hP hS hl
  have hl : lv_has ls 4 [(0, .ref o), (1, .int t)] := hl
  have hown : s.vm.findClass RX8 = some m.cls := hown
  refine lv_iconst (pc := 0) (v := 0) hx hb dX8_seatsOf_0 (by decide) ?_
  refine lv_istore_n (pc := 1) (lv' := [(2, .int 0), (0, .ref o), (1, .int t)]) hx hb dX8_seatsOf_1 rfl hl (by decide) rfl (fun ls hl => ?_)
  refine lv_iconst (pc := 2) (v := 0) hx hb dX8_seatsOf_2 (by decide) ?_
  refine lv_istore_n (pc := 3) (lv' := [(3, .int 0), (2, .int 0), (0, .ref o), (1, .int t)]) hx hb dX8_seatsOf_3 rfl hl (by decide) rfl (fun ls hl => ?_)
  have lp_1 : ∀ (fuel : Nat) (i : Nat), 12 - i < fuel → (i ≤ 12) → ∀ (ls : Array Slot), lv_has ls 4 [(0, .ref o), (1, .int t), (2, .int (seatS r t i)), (3, .int (nI i))] → W p l e (rmO 6 131) s m args below meth c0 s.heap [] 0 0 Q (F0 m 4 ls []) := by
    intro fuel
    induction fuel with
    | zero => intro i hfuel; exact absurd hfuel (Nat.not_lt_zero _)
    | succ fuel ih_lp_1 =>
      intro i hfuel hi ls hl
      refine lv_iload_n (pc := 4) hx hb dX8_seatsOf_4 rfl (lv_at hl 3 rfl) ?_
      refine lv_bipush (pc := 5) (v := 12) hx hb dX8_seatsOf_5 (by decide) ?_
      refine lv_icmp_ge (pc := 7) (tgt := 46) hx hb dX8_seatsOf_7 (by decide) (fun c_2 => ?_) (fun c_2 => ?_)
      · skip
        have c_2n : 12 ≤ i := (nI_leI (a := 12) (b := i) (by omega) (by omega)).mp c_2
        refine lv_iload_n (pc := 46) hx hb dX8_seatsOf_46 rfl (lv_at hl 2 rfl) ?_
        rw [hQ]; exact W.iret (pc := 47) hx hb hr (fun t9 ht _ => ⟨retI (by rw [show i = 12 by omega]), ht⟩) (fun _ h => nomatch h) dX8_seatsOf_47 hlocks
      · skip
        have c_2n : ¬ 12 ≤ i := fun hh => c_2 ((nI_leI (a := 12) (b := i) (by omega) (by omega)).mpr hh)
        refine lv_iload_n (pc := 10) hx hb dX8_seatsOf_10 rfl (lv_at hl 2 rfl) ?_
        refine lv_aload_n (pc := 11) hx hb dX8_seatsOf_11 rfl (lv_at hl 0 rfl) ?_
        refine fget (pc := 12) (v := .ref (a 8)) hx hb hts hown hE hP fl_X8_28 0 rfl rfl dX8_seatsOf_12 ?_
        refine lv_iload_n (pc := 15) hx hb dX8_seatsOf_15 rfl (lv_at hl 3 rfl) ?_
        refine aldN (pc := 16) (f := r 8) hx hb hE hP 7 rfl (i) (by omega) (by omega) dX8_seatsOf_16 ?_
        refine lv_iload_n (pc := 17) hx hb dX8_seatsOf_17 rfl (lv_at hl 1 rfl) ?_
        refine lv_icmp_ne (pc := 18) (tgt := 37) hx hb dX8_seatsOf_18 (by decide) (fun c_3 => ?_) (fun c_3 => ?_)
        · skip
          refine lv_iconst (pc := 37) (v := 0) hx hb dX8_seatsOf_37 (by decide) ?_
          refine lv_iadd (pc := 38) hx hb dX8_seatsOf_38 ?_
          refine lv_istore_n (pc := 39) (lv' := [(2, .int ((seatS r t i) + 0)), (0, .ref o), (1, .int t), (3, .int (nI i))]) hx hb dX8_seatsOf_39 rfl hl (by decide) rfl (fun ls hl => ?_)
          refine lv_iinc (pc := 40) (v := nI (i + 1)) (lv' := [(3, .int (nI (i + 1))), (2, .int ((seatS r t i) + 0)), (0, .ref o), (1, .int t)]) hx hb dX8_seatsOf_40 hl (k := 3) rfl (nI_add (i) 1) (by decide) rfl (fun ls hl => ?_)
          refine lv_goto (pc := 43) (tgt := 4) hx hb dX8_seatsOf_43 (by decide) ?_
          exact ih_lp_1 (i + 1) (by omega) (by omega) ls (by rw [show (seatS r t (i + 1) : Int32) = (seatS r t i) + 0 from (by simp [seatS, sumI, c_2, c_3])]; exact lv_sub hl [2, 3, 1, 0] rfl)
        · skip
          refine lv_aload_n (pc := 21) hx hb dX8_seatsOf_21 rfl (lv_at hl 0 rfl) ?_
          refine lv_iload_n (pc := 22) hx hb dX8_seatsOf_22 rfl (lv_at hl 3 rfl) ?_
          refine rV (pc := 23) (rest := [.int (seatS r t i)]) ⟨hx, hb, hml, hown, hts⟩ (k_X8_breaksAt (i := i) (z := z) (g := g) (r := r) (hok := (by first | assumption | omega)) (hn5 := (by first | assumption | omega)) (hi := (by omega))) cw_X8_163 ⟨(Nat.le_of_ble_eq_true rfl), (Nat.le_of_ble_eq_true rfl)⟩ hE hS hP rfl rfl rfl rfl hl.1 rfl (Nat.le_of_ble_eq_true rfl) dX8_seatsOf_23 ⟨Nat.le_refl _, Nat.le_refl _⟩ ?_
          refine W.eq (g2 := F0 m 26 ls [.int (brk ((r 2)) ((r 3)) ((r 4)) ((r 5)) ((r 6)) ((r 8)) i), .int (seatS r t i)]) rfl ?_
          refine lv_if_ne (pc := 26) (tgt := 37) hx hb dX8_seatsOf_26 (by decide) (fun c_4 => ?_) (fun c_4 => ?_)
          · skip
            refine lv_iconst (pc := 37) (v := 0) hx hb dX8_seatsOf_37 (by decide) ?_
            refine lv_iadd (pc := 38) hx hb dX8_seatsOf_38 ?_
            refine lv_istore_n (pc := 39) (lv' := [(2, .int ((seatS r t i) + 0)), (0, .ref o), (1, .int t), (3, .int (nI i))]) hx hb dX8_seatsOf_39 rfl hl (by decide) rfl (fun ls hl => ?_)
            refine lv_iinc (pc := 40) (v := nI (i + 1)) (lv' := [(3, .int (nI (i + 1))), (2, .int ((seatS r t i) + 0)), (0, .ref o), (1, .int t)]) hx hb dX8_seatsOf_40 hl (k := 3) rfl (nI_add (i) 1) (by decide) rfl (fun ls hl => ?_)
            refine lv_goto (pc := 43) (tgt := 4) hx hb dX8_seatsOf_43 (by decide) ?_
            exact ih_lp_1 (i + 1) (by omega) (by omega) ls (by rw [show (seatS r t (i + 1) : Int32) = (seatS r t i) + 0 from (by simp [seatS, sumI, c_2, c_3, c_4])]; exact lv_sub hl [2, 3, 1, 0] rfl)
          · skip
            refine lv_aload_n (pc := 29) hx hb dX8_seatsOf_29 rfl (lv_at hl 0 rfl) ?_
            refine lv_iload_n (pc := 30) hx hb dX8_seatsOf_30 rfl (lv_at hl 3 rfl) ?_
            refine rV (pc := 31) (rest := [.int (seatS r t i)]) ⟨hx, hb, hml, hown, hts⟩ (k_X8_seatsAt (i := i) (z := z) (g := g) (r := r) (hok := (by first | assumption | omega)) (hn5 := (by first | assumption | omega)) (hi := (by omega))) cw_X8_169 ⟨(Nat.le_of_ble_eq_true rfl), (Nat.le_of_ble_eq_true rfl)⟩ hE hS hP rfl rfl rfl rfl hl.1 rfl (Nat.le_of_ble_eq_true rfl) dX8_seatsOf_31 ⟨Nat.le_refl _, Nat.le_refl _⟩ ?_
            refine W.eq (g2 := F0 m 34 ls [.int (sts ((r 2)) ((r 7)) ((r 8)) i), .int (seatS r t i)]) rfl ?_
            refine lv_goto (pc := 34) (tgt := 38) hx hb dX8_seatsOf_34 (by decide) ?_
            refine lv_iadd (pc := 38) hx hb dX8_seatsOf_38 ?_
            refine lv_istore_n (pc := 39) (lv' := [(2, .int ((seatS r t i) + (sts ((r 2)) ((r 7)) ((r 8)) i))), (0, .ref o), (1, .int t), (3, .int (nI i))]) hx hb dX8_seatsOf_39 rfl hl (by decide) rfl (fun ls hl => ?_)
            refine lv_iinc (pc := 40) (v := nI (i + 1)) (lv' := [(3, .int (nI (i + 1))), (2, .int ((seatS r t i) + (sts ((r 2)) ((r 7)) ((r 8)) i))), (0, .ref o), (1, .int t)]) hx hb dX8_seatsOf_40 hl (k := 3) rfl (nI_add (i) 1) (by decide) rfl (fun ls hl => ?_)
            refine lv_goto (pc := 43) (tgt := 4) hx hb dX8_seatsOf_43 (by decide) ?_
            exact ih_lp_1 (i + 1) (by omega) (by omega) ls (by rw [show (seatS r t (i + 1) : Int32) = (seatS r t i) + (sts ((r 2)) ((r 7)) ((r 8)) i) from (by simp [seatS, sumI, c_2, c_3, c_4])]; exact lv_sub hl [2, 3, 1, 0] rfl)
  exact lp_1 _ 0 (Nat.lt_succ_self _) (by omega) ls (lv_sub hl [2, 3, 1, 0] rfl)
set_option maxRecDepth 100000 in
set_option maxHeartbeats 4000000 in
theorem k_X8_isAhead {o : Nat} {a : Nat → Nat} {z : Nat → Int32} {g : Nat → Int64} {r : Nat → Nat → Int32} (one : Int32) (other : Int32) {n : Nat} (hok : okP n (r 8)) (hn5 : n ≤ 5) : MR l yX8_isAhead cX8_isAhead 5 (some .boolean) 7 154 D kB kI kT ks sk sv [.ref o, .int one, .int other] (wR kB kI o a z g r) (some (.int (bi (aheadB r one other = true)))) := by
  refine MR.go (by decide +kernel) (Nat.le_of_ble_eq_true rfl) ?_
  intro p e s m below meth c0 args Q ls hQ hx hb hr hml hown hts hlocks hE hP hS hl
  have hl : lv_has ls 5 [(0, .ref o), (1, .int one), (2, .int other)] := hl
  have hown : s.vm.findClass RX8 = some m.cls := hown
  refine lv_aload_n (pc := 0) hx hb dX8_isAhead_0 rfl (lv_at hl 0 rfl) ?_
  refine lv_iload_n (pc := 1) hx hb dX8_isAhead_1 rfl (lv_at hl 1 rfl) ?_
  refine lv_bipush (pc := 2) (v := 12) hx hb dX8_isAhead_2 (by decide) ?_
  refine rV (pc := 4) (rest := []) ⟨hx, hb, hml, hown, hts⟩ (k_X8_nightsOf (t := one) (b := 12) (z := z) (g := g) (r := r) (hb12 := (by first | assumption | omega))) cw_X8_153 ⟨(Nat.le_of_ble_eq_true rfl), (Nat.le_of_ble_eq_true rfl)⟩ hE hS hP rfl rfl rfl rfl hl.1 rfl (Nat.le_of_ble_eq_true rfl) dX8_isAhead_4 ⟨Nat.le_refl _, Nat.le_refl _⟩ ?_
  refine W.eq (g2 := F0 m 7 ls [.int (nI (nOf ((r 8)) one 12))]) rfl ?_
  refine lv_aload_n (pc := 7) hx hb dX8_isAhead_7 rfl (lv_at hl 0 rfl) ?_
  refine lv_iload_n (pc := 8) hx hb dX8_isAhead_8 rfl (lv_at hl 2 rfl) ?_
  refine lv_bipush (pc := 9) (v := 12) hx hb dX8_isAhead_9 (by decide) ?_
  refine rV (pc := 11) (rest := [.int (nI (nOf ((r 8)) one 12))]) ⟨hx, hb, hml, hown, hts⟩ (k_X8_nightsOf (t := other) (b := 12) (z := z) (g := g) (r := r) (hb12 := (by first | assumption | omega))) cw_X8_153 ⟨(Nat.le_of_ble_eq_true rfl), (Nat.le_of_ble_eq_true rfl)⟩ hE hS hP rfl rfl rfl rfl hl.1 rfl (Nat.le_of_ble_eq_true rfl) dX8_isAhead_11 ⟨Nat.le_refl _, Nat.le_refl _⟩ ?_
  refine W.eq (g2 := F0 m 14 ls [.int (nI (nOf ((r 8)) other 12)), .int (nI (nOf ((r 8)) one 12))]) rfl ?_
  refine isubV (pc := 14) (v := (nI (nOf ((r 8)) one 12)) - (nI (nOf ((r 8)) other 12))) hx hb dX8_isAhead_14 rfl ?_
  refine lv_istore_n (pc := 15) (lv' := [(3, .int ((nI (nOf ((r 8)) one 12)) - (nI (nOf ((r 8)) other 12)))), (0, .ref o), (1, .int one), (2, .int other)]) hx hb dX8_isAhead_15 rfl hl (by decide) rfl (fun ls hl => ?_)
  refine lv_aload_n (pc := 16) hx hb dX8_isAhead_16 rfl (lv_at hl 1 rfl) ?_
  refine lv_iload_n (pc := 17) hx hb dX8_isAhead_17 rfl (lv_at hl 2 rfl) ?_
  refine rV (pc := 18) (rest := []) ⟨hx, hb, hml, hown, hts⟩ (k_X8_seatsOf (t := one) (z := z) (g := g) (r := r) (hok := (by first | assumption | omega)) (hn5 := (by first | assumption | omega))) cw_X8_224 ⟨(Nat.le_of_ble_eq_true rfl), (Nat.le_of_ble_eq_true rfl)⟩ hE hS hP rfl rfl rfl rfl hl.1 rfl (Nat.le_of_ble_eq_true rfl) dX8_isAhead_18 ⟨Nat.le_refl _, Nat.le_refl _⟩ ?_
  refine W.eq (g2 := F0 m 21 ls [.int (seatS r one 12)]) rfl ?_
  refine lv_aload_n (pc := 21) hx hb dX8_isAhead_21 rfl (lv_at hl 1 rfl) ?_
  refine lv_iload_n (pc := 22) hx hb dX8_isAhead_22 rfl (lv_at hl 3 rfl) ?_
  refine rV (pc := 23) (rest := [.int (seatS r one 12)]) ⟨hx, hb, hml, hown, hts⟩ (k_X8_seatsOf (t := other) (z := z) (g := g) (r := r) (hok := (by first | assumption | omega)) (hn5 := (by first | assumption | omega))) cw_X8_224 ⟨(Nat.le_of_ble_eq_true rfl), (Nat.le_of_ble_eq_true rfl)⟩ hE hS hP rfl rfl rfl rfl hl.1 rfl (Nat.le_of_ble_eq_true rfl) dX8_isAhead_23 ⟨Nat.le_refl _, Nat.le_refl _⟩ ?_
  refine W.eq (g2 := F0 m 26 ls [.int (seatS r other 12), .int (seatS r one 12)]) rfl ?_
  refine lv_isub (pc := 26) hx hb dX8_isAhead_26 ?_
  refine lv_istore (pc := 27) (lv' := [(4, .int ((seatS r one 12) - (seatS r other 12))), (3, .int ((nI (nOf ((r 8)) one 12)) - (nI (nOf ((r 8)) other 12)))), (0, .ref o), (1, .int one), (2, .int other)]) hx hb dX8_isAhead_27 hl (by decide) rfl (fun ls hl => ?_)
  refine lv_iload_n (pc := 29) hx hb dX8_isAhead_29 rfl (lv_at hl 1 rfl) ?_
  refine lv_if_eq (pc := 30) (tgt := 45) hx hb dX8_isAhead_30 (by decide) (fun c_1 => ?_) (fun c_1 => ?_)
  · skip
    refine lv_iload (pc := 45) hx hb dX8_isAhead_45 (lv_at hl 0 rfl) ?_
    refine lv_if_eq (pc := 47) (tgt := 63) hx hb dX8_isAhead_47 (by decide) (fun c_2 => ?_) (fun c_2 => ?_)
    · skip
      refine lv_iload_n (pc := 63) hx hb dX8_isAhead_63 rfl (lv_at hl 3 rfl) ?_
      refine lv_iload_n (pc := 64) hx hb dX8_isAhead_64 rfl (lv_at hl 4 rfl) ?_
      refine lv_icmp_ge (pc := 65) (tgt := 72) hx hb dX8_isAhead_65 (by decide) (fun c_3 => ?_) (fun c_3 => ?_)
      · skip
        refine lv_iconst (pc := 72) (v := 0) hx hb dX8_isAhead_72 (by decide) ?_
        rw [hQ]; exact W.zret (pc := 73) hx hb hr rfl (fun t9 ht _ => ⟨retI (bi_f (by simp [aheadB, ahdB, c_1, c_2, c_3])), ht⟩) (fun _ h => nomatch h) dX8_isAhead_73 hlocks
      · skip
        refine lv_iconst (pc := 68) (v := 1) hx hb dX8_isAhead_68 (by decide) ?_
        refine lv_goto (pc := 69) (tgt := 73) hx hb dX8_isAhead_69 (by decide) ?_
        rw [hQ]; exact W.zret (pc := 73) hx hb hr rfl (fun t9 ht _ => ⟨retI (bi_t (by simp [aheadB, ahdB, c_1, c_2, Int32.not_le.mp c_3])), ht⟩) (fun _ h => nomatch h) dX8_isAhead_73 hlocks
    · skip
      refine lv_iload (pc := 50) hx hb dX8_isAhead_50 (lv_at hl 0 rfl) ?_
      refine lv_if_le (pc := 52) (tgt := 59) hx hb dX8_isAhead_52 (by decide) (fun c_4 => ?_) (fun c_4 => ?_)
      · skip
        refine lv_iconst (pc := 59) (v := 0) hx hb dX8_isAhead_59 (by decide) ?_
        refine lv_goto (pc := 60) (tgt := 73) hx hb dX8_isAhead_60 (by decide) ?_
        rw [hQ]; exact W.zret (pc := 73) hx hb hr rfl (fun t9 ht _ => ⟨retI (bi_f (by simp [aheadB, ahdB, c_1, c_2, c_4])), ht⟩) (fun _ h => nomatch h) dX8_isAhead_73 hlocks
      · skip
        refine lv_iconst (pc := 55) (v := 1) hx hb dX8_isAhead_55 (by decide) ?_
        refine lv_goto (pc := 56) (tgt := 73) hx hb dX8_isAhead_56 (by decide) ?_
        rw [hQ]; exact W.zret (pc := 73) hx hb hr rfl (fun t9 ht _ => ⟨retI (bi_t (by simp [aheadB, ahdB, c_1, c_2, Int32.not_le.mp c_4])), ht⟩) (fun _ h => nomatch h) dX8_isAhead_73 hlocks
  · skip
    refine lv_iload_n (pc := 33) hx hb dX8_isAhead_33 rfl (lv_at hl 1 rfl) ?_
    refine lv_if_le (pc := 34) (tgt := 41) hx hb dX8_isAhead_34 (by decide) (fun c_5 => ?_) (fun c_5 => ?_)
    · skip
      refine lv_iconst (pc := 41) (v := 0) hx hb dX8_isAhead_41 (by decide) ?_
      refine lv_goto (pc := 42) (tgt := 73) hx hb dX8_isAhead_42 (by decide) ?_
      rw [hQ]; exact W.zret (pc := 73) hx hb hr rfl (fun t9 ht _ => ⟨retI (bi_f (by simp [aheadB, ahdB, c_1, c_5])), ht⟩) (fun _ h => nomatch h) dX8_isAhead_73 hlocks
    · skip
      refine lv_iconst (pc := 37) (v := 1) hx hb dX8_isAhead_37 (by decide) ?_
      refine lv_goto (pc := 38) (tgt := 73) hx hb dX8_isAhead_38 (by decide) ?_
      rw [hQ]; exact W.zret (pc := 73) hx hb hr rfl (fun t9 ht _ => ⟨retI (bi_t (by simp [aheadB, ahdB, c_1, Int32.not_le.mp c_5])), ht⟩) (fun _ h => nomatch h) dX8_isAhead_73 hlocks
set_option maxRecDepth 100000 in
set_option maxHeartbeats 4000000 in
theorem k_X8_rankNow {o : Nat} {a : Nat → Nat} {z : Nat → Int32} {g : Nat → Int64} {r : Nat → Nat → Int32} (place : Int32) {n : Nat} (hok : okP n (r 8)) (hn5 : n ≤ 5) (hz1 : z 1 = nI n) : MR l yX8_rankNow cX8_rankNow 5 (some .int) 8 178 D kB kI kT ks sk sv [.ref o, .int place] (wR kB kI o a z g r) (some (.int (rankS r n place))) := by
  refine MR.go (by decide +kernel) (Nat.le_of_ble_eq_true rfl) ?_
  intro p e s m below meth c0 args Q ls hQ hx hb hr hml hown hts hlocks hE hP hS hl
  have hl : lv_has ls 5 [(0, .ref o), (1, .int place)] := hl
  have hown : s.vm.findClass RX8 = some m.cls := hown
  refine lv_iconst (pc := 0) (v := 0) hx hb dX8_rankNow_0 (by decide) ?_
  refine lv_istore_n (pc := 1) (lv' := [(2, .int 0), (0, .ref o), (1, .int place)]) hx hb dX8_rankNow_1 rfl hl (by decide) rfl (fun ls hl => ?_)
  have lp_1 : ∀ (fuel : Nat) (k : Nat), n - k < fuel → (k ≤ n) → (rankS r n place = rankF (fun q => aheadN r q n) place n (n - k)) → ∀ (ls : Array Slot), lv_has ls 5 [(0, .ref o), (1, .int place), (2, .int (nI k))] → W p l e (rmO 8 178) s m args below meth c0 s.heap [] 0 0 Q (F0 m 2 ls []) := by
    intro fuel
    induction fuel with
    | zero => intro k hfuel; exact absurd hfuel (Nat.not_lt_zero _)
    | succ fuel ih_lp_1 =>
      intro k hfuel hk hR ls hl
      refine lv_iload_n (pc := 2) hx hb dX8_rankNow_2 rfl (lv_at hl 2 rfl) ?_
      refine lv_aload_n (pc := 3) hx hb dX8_rankNow_3 rfl (lv_at hl 0 rfl) ?_
      refine fget (pc := 4) (v := .int (z 1)) hx hb hts hown hE hP fl_X8_124 0 rfl rfl dX8_rankNow_4 ?_
      refine vEq (v := nI n) hz1 ?_
      refine lv_icmp_ge (pc := 7) (tgt := 67) hx hb dX8_rankNow_7 (by decide) (fun c_2 => ?_) (fun c_2 => ?_)
      · skip
        have c_2n : n ≤ k := (nI_leI (a := n) (b := k) (by omega) (by omega)).mp c_2
        refine lv_bipush (pc := 67) (v := (-101)) hx hb dX8_rankNow_67 (by decide) ?_
        rw [hQ]; exact W.iret (pc := 69) hx hb hr (fun t9 ht _ => ⟨retI (by rw [hR, show n - k = 0 by omega]; rfl), ht⟩) (fun _ h => nomatch h) dX8_rankNow_69 hlocks
      · skip
        have c_2n : ¬ n ≤ k := fun hh => c_2 ((nI_leI (a := n) (b := k) (by omega) (by omega)).mpr hh)
        refine lv_iconst (pc := 10) (v := 0) hx hb dX8_rankNow_10 (by decide) ?_
        refine lv_istore_n (pc := 11) (lv' := [(3, .int 0), (0, .ref o), (1, .int place), (2, .int (nI k))]) hx hb dX8_rankNow_11 rfl hl (by decide) rfl (fun ls hl => ?_)
        refine lv_iconst (pc := 12) (v := 0) hx hb dX8_rankNow_12 (by decide) ?_
        refine lv_istore (pc := 13) (lv' := [(4, .int 0), (3, .int 0), (0, .ref o), (1, .int place), (2, .int (nI k))]) hx hb dX8_rankNow_13 hl (by decide) rfl (fun ls hl => ?_)
        have lp_3 : ∀ (fuel : Nat) (e9 : Nat), n - e9 < fuel → (e9 ≤ n) → ∀ (ls : Array Slot), lv_has ls 5 [(0, .ref o), (1, .int place), (2, .int (nI k)), (3, .int (nI (aheadN r k e9))), (4, .int (nI e9))] → W p l e (rmO 8 178) s m args below meth c0 s.heap [] 0 0 Q (F0 m 15 ls []) := by
          intro fuel
          induction fuel with
          | zero => intro e9 hfuel; exact absurd hfuel (Nat.not_lt_zero _)
          | succ fuel ih_lp_3 =>
            intro e9 hfuel he ls hl
            refine lv_iload (pc := 15) hx hb dX8_rankNow_15 (lv_at hl 4 rfl) ?_
            refine lv_aload_n (pc := 17) hx hb dX8_rankNow_17 rfl (lv_at hl 0 rfl) ?_
            refine fget (pc := 18) (v := .int (z 1)) hx hb hts hown hE hP fl_X8_124 0 rfl rfl dX8_rankNow_18 ?_
            refine vEq (v := nI n) hz1 ?_
            refine lv_icmp_ge (pc := 21) (tgt := 54) hx hb dX8_rankNow_21 (by decide) (fun c_4 => ?_) (fun c_4 => ?_)
            · skip
              have c_4n : n ≤ e9 := (nI_leI (a := n) (b := e9) (by omega) (by omega)).mp c_4
              refine lv_iload_n (pc := 54) hx hb dX8_rankNow_54 rfl (lv_at hl 3 rfl) ?_
              refine lv_iload_n (pc := 55) hx hb dX8_rankNow_55 rfl (lv_at hl 1 rfl) ?_
              refine lv_icmp_ne (pc := 56) (tgt := 61) hx hb dX8_rankNow_56 (by decide) (fun c_5 => ?_) (fun c_5 => ?_)
              · skip
                refine lv_iinc (pc := 61) (v := nI (k + 1)) (lv' := [(2, .int (nI (k + 1))), (0, .ref o), (1, .int place), (3, .int (nI (aheadN r k e9))), (4, .int (nI e9))]) hx hb dX8_rankNow_61 hl (k := 2) rfl (nI_add (k) 1) (by decide) rfl (fun ls hl => ?_)
                refine lv_goto (pc := 64) (tgt := 2) hx hb dX8_rankNow_64 (by decide) ?_
                exact ih_lp_1 (k + 1) (by omega) (by omega) (by rw [hR, show n - k = (n - (k + 1)) + 1 by omega, rankF, show n - (n - (k + 1) + 1) = k by omega, if_neg (by obtain rfl : e9 = n := (by omega); exact c_5)]) ls (lv_sub hl [1, 2, 0] rfl)
              · skip
                refine lv_iload_n (pc := 59) hx hb dX8_rankNow_59 rfl (lv_at hl 2 rfl) ?_
                rw [hQ]; exact W.iret (pc := 60) hx hb hr (fun t9 ht _ => ⟨retI (by rw [hR, show n - k = (n - (k + 1)) + 1 by omega, rankF, show n - (n - (k + 1) + 1) = k by omega, if_pos (by obtain rfl : e9 = n := (by omega); exact c_5)]), ht⟩) (fun _ h => nomatch h) dX8_rankNow_60 hlocks
            · skip
              have c_4n : ¬ n ≤ e9 := fun hh => c_4 ((nI_leI (a := n) (b := e9) (by omega) (by omega)).mpr hh)
              refine lv_iload_n (pc := 24) hx hb dX8_rankNow_24 rfl (lv_at hl 3 rfl) ?_
              refine lv_iload (pc := 25) hx hb dX8_rankNow_25 (lv_at hl 4 rfl) ?_
              refine lv_iload_n (pc := 27) hx hb dX8_rankNow_27 rfl (lv_at hl 2 rfl) ?_
              refine lv_icmp_eq (pc := 28) (tgt := 45) hx hb dX8_rankNow_28 (by decide) (fun c_6 => ?_) (fun c_6 => ?_)
              · skip
                have c_6n : e9 = k := (nI_eq (a := e9) (b := k) (by omega) (by omega)).mp c_6
                refine lv_iconst (pc := 45) (v := 0) hx hb dX8_rankNow_45 (by decide) ?_
                refine iaddV (pc := 46) (v := nI (aheadN r k e9 + 0)) hx hb dX8_rankNow_46 (nI_add (aheadN r k e9) (0)) ?_
                refine lv_istore_n (pc := 47) (lv' := [(3, .int (nI (aheadN r k e9 + 0))), (0, .ref o), (1, .int place), (2, .int (nI k)), (4, .int (nI e9))]) hx hb dX8_rankNow_47 rfl hl (by decide) rfl (fun ls hl => ?_)
                refine lv_iinc (pc := 48) (v := nI (e9 + 1)) (lv' := [(4, .int (nI (e9 + 1))), (3, .int (nI (aheadN r k e9 + 0))), (0, .ref o), (1, .int place), (2, .int (nI k))]) hx hb dX8_rankNow_48 hl (k := 4) rfl (nI_add (e9) 1) (by decide) rfl (fun ls hl => ?_)
                refine lv_goto (pc := 51) (tgt := 15) hx hb dX8_rankNow_51 (by decide) ?_
                exact ih_lp_3 (e9 + 1) (by omega) (by omega) ls (by rw [show (nI (aheadN r k (e9 + 1)) : Int32) = nI (aheadN r k e9 + 0) from (by simp [aheadN, cntP, c_2, c_6n])]; exact lv_sub hl [2, 3, 4, 1, 0] rfl)
              · skip
                have c_6n : ¬ e9 = k := fun hh => c_6 ((nI_eq (a := e9) (b := k) (by omega) (by omega)).mpr hh)
                refine lv_aload_n (pc := 31) hx hb dX8_rankNow_31 rfl (lv_at hl 0 rfl) ?_
                refine lv_iload (pc := 32) hx hb dX8_rankNow_32 (lv_at hl 4 rfl) ?_
                refine lv_iload_n (pc := 34) hx hb dX8_rankNow_34 rfl (lv_at hl 2 rfl) ?_
                refine rV (pc := 35) (rest := [.int (nI (aheadN r k e9))]) ⟨hx, hb, hml, hown, hts⟩ (k_X8_isAhead (one := nI e9) (other := nI k) (z := z) (g := g) (r := r) (hok := (by first | assumption | omega)) (hn5 := (by first | assumption | omega))) cw_X8_227 ⟨(Nat.le_of_ble_eq_true rfl), (Nat.le_of_ble_eq_true rfl)⟩ hE hS hP rfl rfl rfl rfl hl.1 rfl (Nat.le_of_ble_eq_true rfl) dX8_rankNow_35 ⟨Nat.le_refl _, Nat.le_refl _⟩ ?_
                refine W.eq (g2 := F0 m 38 ls [.int (bi (aheadB r (nI e9) (nI k) = true)), .int (nI (aheadN r k e9))]) rfl ?_
                refine bif_eq (pc := 38) (tgt := 45) hx hb dX8_rankNow_38 (by decide) (fun c_7 => ?_) (fun c_7 => ?_)
                · skip
                  refine lv_iconst (pc := 45) (v := 0) hx hb dX8_rankNow_45 (by decide) ?_
                  refine iaddV (pc := 46) (v := nI (aheadN r k e9 + 0)) hx hb dX8_rankNow_46 (nI_add (aheadN r k e9) (0)) ?_
                  refine lv_istore_n (pc := 47) (lv' := [(3, .int (nI (aheadN r k e9 + 0))), (0, .ref o), (1, .int place), (2, .int (nI k)), (4, .int (nI e9))]) hx hb dX8_rankNow_47 rfl hl (by decide) rfl (fun ls hl => ?_)
                  refine lv_iinc (pc := 48) (v := nI (e9 + 1)) (lv' := [(4, .int (nI (e9 + 1))), (3, .int (nI (aheadN r k e9 + 0))), (0, .ref o), (1, .int place), (2, .int (nI k))]) hx hb dX8_rankNow_48 hl (k := 4) rfl (nI_add (e9) 1) (by decide) rfl (fun ls hl => ?_)
                  refine lv_goto (pc := 51) (tgt := 15) hx hb dX8_rankNow_51 (by decide) ?_
                  exact ih_lp_3 (e9 + 1) (by omega) (by omega) ls (by rw [show (nI (aheadN r k (e9 + 1)) : Int32) = nI (aheadN r k e9 + 0) from (by simp [aheadN, cntP, c_2, c_6n, c_7])]; exact lv_sub hl [2, 3, 4, 1, 0] rfl)
                · skip
                  refine lv_iconst (pc := 41) (v := 1) hx hb dX8_rankNow_41 (by decide) ?_
                  refine lv_goto (pc := 42) (tgt := 46) hx hb dX8_rankNow_42 (by decide) ?_
                  refine iaddV (pc := 46) (v := nI (aheadN r k e9 + 1)) hx hb dX8_rankNow_46 (nI_add (aheadN r k e9) (1)) ?_
                  refine lv_istore_n (pc := 47) (lv' := [(3, .int (nI (aheadN r k e9 + 1))), (0, .ref o), (1, .int place), (2, .int (nI k)), (4, .int (nI e9))]) hx hb dX8_rankNow_47 rfl hl (by decide) rfl (fun ls hl => ?_)
                  refine lv_iinc (pc := 48) (v := nI (e9 + 1)) (lv' := [(4, .int (nI (e9 + 1))), (3, .int (nI (aheadN r k e9 + 1))), (0, .ref o), (1, .int place), (2, .int (nI k))]) hx hb dX8_rankNow_48 hl (k := 4) rfl (nI_add (e9) 1) (by decide) rfl (fun ls hl => ?_)
                  refine lv_goto (pc := 51) (tgt := 15) hx hb dX8_rankNow_51 (by decide) ?_
                  exact ih_lp_3 (e9 + 1) (by omega) (by omega) ls (by rw [show (nI (aheadN r k (e9 + 1)) : Int32) = nI (aheadN r k e9 + 1) from (by simp [aheadN, cntP, c_2, c_6n, c_7])]; exact lv_sub hl [2, 3, 4, 1, 0] rfl)
        exact lp_3 _ 0 (Nat.lt_succ_self _) (by omega) ls (lv_sub hl [2, 3, 4, 1, 0] rfl)
  exact lp_1 _ 0 (Nat.lt_succ_self _) (by omega) rfl ls (lv_sub hl [1, 2, 0] rfl)
set_option maxRecDepth 100000 in
set_option maxHeartbeats 4000000 in
theorem k_X8_rank {o : Nat} {a : Nat → Nat} {z : Nat → Int32} {g : Nat → Int64} {r : Nat → Nat → Int32} (place : Int32) {n : Nat} (hok : okP n (r 8)) (hn5 : n ≤ 5) (hz1 : z 1 = nI n) : MR l yX8_rank cX8_rank 2 (some .int) 9 202 D kB kI kT ks sk sv [.ref o, .int place] (wR kB kI o a z g r) (some (.int (rankS r n place))) := by
  refine MR.go (by decide +kernel) (Nat.le_of_ble_eq_true rfl) ?_
  intro p e s m below meth c0 args Q ls hQ hx hb hr hml hown hts hlocks hE hP hS hl
  have hl : lv_has ls 2 [(0, .ref o), (1, .int place)] := hl
  have hown : s.vm.findClass RX8 = some m.cls := hown
  refine lv_aload_n (pc := 0) hx hb dX8_rank_0 rfl (lv_at hl 0 rfl) ?_
  refine lv_iload_n (pc := 1) hx hb dX8_rank_1 rfl (lv_at hl 1 rfl) ?_
  refine rV (pc := 2) (rest := []) ⟨hx, hb, hml, hown, hts⟩ (k_X8_rankNow (place := place) (z := z) (g := g) (r := r) (hok := (by first | assumption | omega)) (hn5 := (by first | assumption | omega)) (hz1 := (by first | assumption | omega))) cw_X8_230 ⟨(Nat.le_of_ble_eq_true rfl), (Nat.le_of_ble_eq_true rfl)⟩ hE hS hP rfl rfl rfl rfl hl.1 rfl (Nat.le_of_ble_eq_true rfl) dX8_rank_2 ⟨Nat.le_refl _, Nat.le_refl _⟩ ?_
  refine W.eq (g2 := F0 m 5 ls [.int (rankS r n place)]) rfl ?_
  rw [hQ]; exact W.iret (pc := 5) hx hb hr (fun t9 ht _ => ⟨retI (rfl), ht⟩) (fun _ h => nomatch h) dX8_rank_5 hlocks
set_option maxRecDepth 100000 in
set_option maxHeartbeats 4000000 in
theorem k_X8_unlike {o : Nat} {a : Nat → Nat} {z : Nat → Int32} {g : Nat → Int64} {r : Nat → Nat → Int32} {n : Nat} (hz1 : z 1 = nI n) (hn5 : n ≤ 5) : MR l yX8_unlike cX8_unlike 3 (some .int) 1 24 D kB kI kT ks sk sv [.ref o] (wR kB kI o a z g r) (some (.int (nI (unlN (r 8) n)))) := by
  refine MR.go (by decide +kernel) (Nat.le_of_ble_eq_true rfl) ?_
  intro p e s m below meth c0 args Q ls hQ hx hb hr hml hown hts hlocks hE hP hS hl
  have hl : lv_has ls 3 [(0, .ref o)] := hl
  have hown : s.vm.findClass RX8 = some m.cls := hown
  refine lv_iconst (pc := 0) (v := 0) hx hb dX8_unlike_0 (by decide) ?_
  refine lv_istore_n (pc := 1) (lv' := [(1, .int 0), (0, .ref o)]) hx hb dX8_unlike_1 rfl hl (by decide) rfl (fun ls hl => ?_)
  refine lv_iconst (pc := 2) (v := 0) hx hb dX8_unlike_2 (by decide) ?_
  refine lv_istore_n (pc := 3) (lv' := [(2, .int 0), (1, .int 0), (0, .ref o)]) hx hb dX8_unlike_3 rfl hl (by decide) rfl (fun ls hl => ?_)
  have lp_1 : ∀ (fuel : Nat) (k : Nat), n - k < fuel → (k ≤ n) → ∀ (ls : Array Slot), lv_has ls 3 [(0, .ref o), (1, .int (nI (unlN (r 8) k))), (2, .int (nI k))] → W p l e (rmO 1 24) s m args below meth c0 s.heap [] 0 0 Q (F0 m 4 ls []) := by
    intro fuel
    induction fuel with
    | zero => intro k hfuel; exact absurd hfuel (Nat.not_lt_zero _)
    | succ fuel ih_lp_1 =>
      intro k hfuel hk ls hl
      refine lv_iload_n (pc := 4) hx hb dX8_unlike_4 rfl (lv_at hl 2 rfl) ?_
      refine lv_aload_n (pc := 5) hx hb dX8_unlike_5 rfl (lv_at hl 0 rfl) ?_
      refine fget (pc := 6) (v := .int (z 1)) hx hb hts hown hE hP fl_X8_124 0 rfl rfl dX8_unlike_6 ?_
      refine vEq (v := nI n) hz1 ?_
      refine lv_icmp_ge (pc := 9) (tgt := 36) hx hb dX8_unlike_9 (by decide) (fun c_2 => ?_) (fun c_2 => ?_)
      · skip
        have c_2n : n ≤ k := (nI_leI (a := n) (b := k) (by omega) (by omega)).mp c_2
        refine lv_iload_n (pc := 36) hx hb dX8_unlike_36 rfl (lv_at hl 1 rfl) ?_
        rw [hQ]; exact W.iret (pc := 37) hx hb hr (fun t9 ht _ => ⟨retI (by rw [show k = n by omega]), ht⟩) (fun _ h => nomatch h) dX8_unlike_37 hlocks
      · skip
        have c_2n : ¬ n ≤ k := fun hh => c_2 ((nI_leI (a := n) (b := k) (by omega) (by omega)).mpr hh)
        refine lv_iload_n (pc := 12) hx hb dX8_unlike_12 rfl (lv_at hl 1 rfl) ?_
        refine lv_aload_n (pc := 13) hx hb dX8_unlike_13 rfl (lv_at hl 0 rfl) ?_
        refine lv_iload_n (pc := 14) hx hb dX8_unlike_14 rfl (lv_at hl 2 rfl) ?_
        refine lv_bipush (pc := 15) (v := 12) hx hb dX8_unlike_15 (by decide) ?_
        refine rV (pc := 17) (rest := [.int (nI (unlN (r 8) k))]) ⟨hx, hb, hml, hown, hts⟩ (k_X8_nightsOf (t := nI k) (b := 12) (z := z) (g := g) (r := r) (hb12 := (by omega))) cw_X8_153 ⟨(Nat.le_of_ble_eq_true rfl), (Nat.le_of_ble_eq_true rfl)⟩ hE hS hP rfl rfl rfl rfl hl.1 rfl (Nat.le_of_ble_eq_true rfl) dX8_unlike_17 ⟨Nat.le_refl _, Nat.le_refl _⟩ ?_
        refine W.eq (g2 := F0 m 20 ls [.int (nI (nOf ((r 8)) (nI k) 12)), .int (nI (unlN (r 8) k))]) rfl ?_
        have hnb : nOf (r 8) (nI k) 12 ≤ 12 := cntP_le _ _
        refine lv_if_le (pc := 20) (tgt := 27) hx hb dX8_unlike_20 (by decide) (fun c_3 => ?_) (fun c_3 => ?_)
        · skip
          have c_3n : (nOf ((r 8)) (nI k) 12) ≤ 0 := (nI_leI (a := nOf ((r 8)) (nI k) 12) (b := 0) (by omega) (by omega)).mp c_3
          refine lv_iconst (pc := 27) (v := 0) hx hb dX8_unlike_27 (by decide) ?_
          refine iaddV (pc := 28) (v := nI (unlN (r 8) k + 0)) hx hb dX8_unlike_28 (nI_add (unlN (r 8) k) (0)) ?_
          refine lv_istore_n (pc := 29) (lv' := [(1, .int (nI (unlN (r 8) k + 0))), (0, .ref o), (2, .int (nI k))]) hx hb dX8_unlike_29 rfl hl (by decide) rfl (fun ls hl => ?_)
          refine lv_iinc (pc := 30) (v := nI (k + 1)) (lv' := [(2, .int (nI (k + 1))), (1, .int (nI (unlN (r 8) k + 0))), (0, .ref o)]) hx hb dX8_unlike_30 hl (k := 2) rfl (nI_add (k) 1) (by decide) rfl (fun ls hl => ?_)
          refine lv_goto (pc := 33) (tgt := 4) hx hb dX8_unlike_33 (by decide) ?_
          exact ih_lp_1 (k + 1) (by omega) (by omega) ls (by rw [show (nI (unlN (r 8) (k + 1)) : Int32) = nI (unlN (r 8) k + 0) from (by rw [unlN, cntP_f (by omega)]; rfl)]; exact lv_sub hl [2, 1, 0] rfl)
        · skip
          have c_3n : ¬ (nOf ((r 8)) (nI k) 12) ≤ 0 := fun hh => c_3 ((nI_leI (a := nOf ((r 8)) (nI k) 12) (b := 0) (by omega) (by omega)).mpr hh)
          refine lv_iconst (pc := 23) (v := 1) hx hb dX8_unlike_23 (by decide) ?_
          refine lv_goto (pc := 24) (tgt := 28) hx hb dX8_unlike_24 (by decide) ?_
          refine iaddV (pc := 28) (v := nI (unlN (r 8) k + 1)) hx hb dX8_unlike_28 (nI_add (unlN (r 8) k) (1)) ?_
          refine lv_istore_n (pc := 29) (lv' := [(1, .int (nI (unlN (r 8) k + 1))), (0, .ref o), (2, .int (nI k))]) hx hb dX8_unlike_29 rfl hl (by decide) rfl (fun ls hl => ?_)
          refine lv_iinc (pc := 30) (v := nI (k + 1)) (lv' := [(2, .int (nI (k + 1))), (1, .int (nI (unlN (r 8) k + 1))), (0, .ref o)]) hx hb dX8_unlike_30 hl (k := 2) rfl (nI_add (k) 1) (by decide) rfl (fun ls hl => ?_)
          refine lv_goto (pc := 33) (tgt := 4) hx hb dX8_unlike_33 (by decide) ?_
          exact ih_lp_1 (k + 1) (by omega) (by omega) ls (by rw [show (nI (unlN (r 8) (k + 1)) : Int32) = nI (unlN (r 8) k + 1) from (by rw [unlN, cntP_t (by omega)]; rfl)]; exact lv_sub hl [2, 1, 0] rfl)
  exact lp_1 _ 0 (Nat.lt_succ_self _) (by omega) ls (lv_sub hl [2, 1, 0] rfl)
set_option maxRecDepth 100000 in
set_option maxHeartbeats 4000000 in
theorem k_X8_howMany {o : Nat} {a : Nat → Nat} {z : Nat → Int32} {g : Nat → Int64} {r : Nat → Nat → Int32} (what : Int32) {n : Nat} (hok : okP n (r 8)) (hn5 : n ≤ 5) (hz1 : z 1 = nI n) : MR l yX8_howMany cX8_howMany 2 (some .int) 8 173 D kB kI kT ks sk sv [.ref o, .int what] (wR kB kI o a z g r) (some (.int (howS z r n what))) := by
  refine MR.go (by decide +kernel) (Nat.le_of_ble_eq_true rfl) ?_
  intro p e s m below meth c0 args Q ls hQ hx hb hr hml hown hts hlocks hE hP hS hl
  have hl : lv_has ls 2 [(0, .ref o), (1, .int what)] := hl
  have hown : s.vm.findClass RX8 = some m.cls := hown
  refine lv_iload_n (pc := 0) hx hb dX8_howMany_0 rfl (lv_at hl 1 rfl) ?_
  by_cases c_1 : what = 0
  · skip
    refine lv_tableIn (pc := 1) (off := 55) (tgt := 56) hx hb dX8_howMany_1 (by rw [c_1]; decide) (by rw [c_1]; decide) (by rw [c_1]; try rfl) (by decide) ?_
    refine lv_aload_n (pc := 56) hx hb dX8_howMany_56 rfl (lv_at hl 0 rfl) ?_
    refine fget (pc := 57) (v := .int (z 1)) hx hb hts hown hE hP fl_X8_124 0 rfl rfl dX8_howMany_57 ?_
    rw [hQ]; exact W.iret (pc := 60) hx hb hr (fun t9 ht _ => ⟨retI (by simp [howS, brkN, lostS, ernS, c_1]), ht⟩) (fun _ h => nomatch h) dX8_howMany_60 hlocks
  by_cases c_2 : what = 1
  · skip
    refine lv_tableIn (pc := 1) (off := 60) (tgt := 61) hx hb dX8_howMany_1 (by rw [c_2]; decide) (by rw [c_2]; decide) (by rw [c_2]; try rfl) (by decide) ?_
    refine lv_aload_n (pc := 61) hx hb dX8_howMany_61 rfl (lv_at hl 0 rfl) ?_
    refine rV (pc := 62) (rest := []) ⟨hx, hb, hml, hown, hts⟩ (k_X8_nightsOn (z := z) (g := g) (r := r)) cw_X8_137 ⟨(Nat.le_of_ble_eq_true rfl), (Nat.le_of_ble_eq_true rfl)⟩ hE hS hP rfl rfl rfl rfl hl.1 rfl (Nat.le_of_ble_eq_true rfl) dX8_howMany_62 ⟨Nat.le_refl _, Nat.le_refl _⟩ ?_
    refine W.eq (g2 := F0 m 65 ls [.int (nI (nOn ((r 8)) 12))]) rfl ?_
    rw [hQ]; exact W.iret (pc := 65) hx hb hr (fun t9 ht _ => ⟨retI (by simp [howS, brkN, lostS, ernS, c_1, c_2]), ht⟩) (fun _ h => nomatch h) dX8_howMany_65 hlocks
  by_cases c_3 : what = 2
  · skip
    refine lv_tableIn (pc := 1) (off := 65) (tgt := 66) hx hb dX8_howMany_1 (by rw [c_3]; decide) (by rw [c_3]; decide) (by rw [c_3]; try rfl) (by decide) ?_
    refine lv_aload_n (pc := 66) hx hb dX8_howMany_66 rfl (lv_at hl 0 rfl) ?_
    refine rV (pc := 67) (rest := []) ⟨hx, hb, hml, hown, hts⟩ (k_X8_breaks (z := z) (g := g) (r := r) (hok := (by first | assumption | omega)) (hn5 := (by first | assumption | omega))) cw_X8_166 ⟨(Nat.le_of_ble_eq_true rfl), (Nat.le_of_ble_eq_true rfl)⟩ hE hS hP rfl rfl rfl rfl hl.1 rfl (Nat.le_of_ble_eq_true rfl) dX8_howMany_67 ⟨Nat.le_refl _, Nat.le_refl _⟩ ?_
    refine W.eq (g2 := F0 m 70 ls [.int (nI (cntP (fun j => 0 < brk ((r 2)) ((r 3)) ((r 4)) ((r 5)) ((r 6)) ((r 8)) j) 12))]) rfl ?_
    rw [hQ]; exact W.iret (pc := 70) hx hb hr (fun t9 ht _ => ⟨retI (by simp [howS, brkN, lostS, ernS, c_1, c_2, c_3]), ht⟩) (fun _ h => nomatch h) dX8_howMany_70 hlocks
  by_cases c_4 : what = 3
  · skip
    refine lv_tableIn (pc := 1) (off := 70) (tgt := 71) hx hb dX8_howMany_1 (by rw [c_4]; decide) (by rw [c_4]; decide) (by rw [c_4]; try rfl) (by decide) ?_
    refine lv_aload_n (pc := 71) hx hb dX8_howMany_71 rfl (lv_at hl 0 rfl) ?_
    refine rV (pc := 72) (rest := []) ⟨hx, hb, hml, hown, hts⟩ (k_X8_lost (z := z) (g := g) (r := r) (hok := (by first | assumption | omega)) (hn5 := (by first | assumption | omega))) cw_X8_195 ⟨(Nat.le_of_ble_eq_true rfl), (Nat.le_of_ble_eq_true rfl)⟩ hE hS hP rfl rfl rfl rfl hl.1 rfl (Nat.le_of_ble_eq_true rfl) dX8_howMany_72 ⟨Nat.le_refl _, Nat.le_refl _⟩ ?_
    refine W.eq (g2 := F0 m 75 ls [.int (12 - nI (nOn ((r 8)) 12) + nI (cntP (fun j => 0 < brk ((r 2)) ((r 3)) ((r 4)) ((r 5)) ((r 6)) ((r 8)) j) 12))]) rfl ?_
    rw [hQ]; exact W.iret (pc := 75) hx hb hr (fun t9 ht _ => ⟨retI (by simp [howS, brkN, lostS, ernS, c_1, c_2, c_3, c_4]), ht⟩) (fun _ h => nomatch h) dX8_howMany_75 hlocks
  by_cases c_5 : what = 4
  · skip
    refine lv_tableIn (pc := 1) (off := 75) (tgt := 76) hx hb dX8_howMany_1 (by rw [c_5]; decide) (by rw [c_5]; decide) (by rw [c_5]; try rfl) (by decide) ?_
    refine lv_aload_n (pc := 76) hx hb dX8_howMany_76 rfl (lv_at hl 0 rfl) ?_
    refine rV (pc := 77) (rest := []) ⟨hx, hb, hml, hown, hts⟩ (k_X8_earned (z := z) (g := g) (r := r) (hok := (by first | assumption | omega)) (hn5 := (by first | assumption | omega))) cw_X8_198 ⟨(Nat.le_of_ble_eq_true rfl), (Nat.le_of_ble_eq_true rfl)⟩ hE hS hP rfl rfl rfl rfl hl.1 rfl (Nat.le_of_ble_eq_true rfl) dX8_howMany_77 ⟨Nat.le_refl _, Nat.le_refl _⟩ ?_
    refine W.eq (g2 := F0 m 80 ls [.int (sumI (fun j => if brk ((r 2)) ((r 3)) ((r 4)) ((r 5)) ((r 6)) ((r 8)) j = 0 then sts ((r 2)) ((r 7)) ((r 8)) j else 0) 12)]) rfl ?_
    rw [hQ]; exact W.iret (pc := 80) hx hb hr (fun t9 ht _ => ⟨retI (by simp [howS, brkN, lostS, ernS, c_1, c_2, c_3, c_4, c_5]), ht⟩) (fun _ h => nomatch h) dX8_howMany_80 hlocks
  by_cases c_6 : what = 5
  · skip
    refine lv_tableIn (pc := 1) (off := 80) (tgt := 81) hx hb dX8_howMany_1 (by rw [c_6]; decide) (by rw [c_6]; decide) (by rw [c_6]; try rfl) (by decide) ?_
    refine lv_aload_n (pc := 81) hx hb dX8_howMany_81 rfl (lv_at hl 0 rfl) ?_
    refine rV (pc := 82) (rest := []) ⟨hx, hb, hml, hown, hts⟩ (k_X8_unlike (z := z) (g := g) (r := r) (hz1 := (by first | assumption | omega)) (hn5 := (by first | assumption | omega))) cw_X8_272 ⟨(Nat.le_of_ble_eq_true rfl), (Nat.le_of_ble_eq_true rfl)⟩ hE hS hP rfl rfl rfl rfl hl.1 rfl (Nat.le_of_ble_eq_true rfl) dX8_howMany_82 ⟨Nat.le_refl _, Nat.le_refl _⟩ ?_
    refine W.eq (g2 := F0 m 85 ls [.int (nI (unlN ((r 8)) n))]) rfl ?_
    rw [hQ]; exact W.iret (pc := 85) hx hb hr (fun t9 ht _ => ⟨retI (by simp [howS, brkN, lostS, ernS, c_1, c_2, c_3, c_4, c_5, c_6]), ht⟩) (fun _ h => nomatch h) dX8_howMany_85 hlocks
  by_cases c_7 : what = 6
  · skip
    refine lv_tableIn (pc := 1) (off := 85) (tgt := 86) hx hb dX8_howMany_1 (by rw [c_7]; decide) (by rw [c_7]; decide) (by rw [c_7]; try rfl) (by decide) ?_
    refine lv_aload_n (pc := 86) hx hb dX8_howMany_86 rfl (lv_at hl 0 rfl) ?_
    refine fget (pc := 87) (v := .int (z 10)) hx hb hts hown hE hP fl_X8_130 0 rfl rfl dX8_howMany_87 ?_
    rw [hQ]; exact W.iret (pc := 90) hx hb hr (fun t9 ht _ => ⟨retI (by simp [howS, brkN, lostS, ernS, c_1, c_2, c_3, c_4, c_5, c_6, c_7]), ht⟩) (fun _ h => nomatch h) dX8_howMany_90 hlocks
  by_cases c_8 : what = 7
  · skip
    refine lv_tableIn (pc := 1) (off := 90) (tgt := 91) hx hb dX8_howMany_1 (by rw [c_8]; decide) (by rw [c_8]; decide) (by rw [c_8]; try rfl) (by decide) ?_
    refine lv_aload_n (pc := 91) hx hb dX8_howMany_91 rfl (lv_at hl 0 rfl) ?_
    refine fget (pc := 92) (v := .int (z 14)) hx hb hts hown hE hP fl_X8_90 0 rfl rfl dX8_howMany_92 ?_
    rw [hQ]; exact W.iret (pc := 95) hx hb hr (fun t9 ht _ => ⟨retI (by simp [howS, brkN, lostS, ernS, c_1, c_2, c_3, c_4, c_5, c_6, c_7, c_8]), ht⟩) (fun _ h => nomatch h) dX8_howMany_95 hlocks
  by_cases c_9 : what = 8
  · skip
    refine lv_tableIn (pc := 1) (off := 95) (tgt := 96) hx hb dX8_howMany_1 (by rw [c_9]; decide) (by rw [c_9]; decide) (by rw [c_9]; try rfl) (by decide) ?_
    refine lv_aload_n (pc := 96) hx hb dX8_howMany_96 rfl (lv_at hl 0 rfl) ?_
    refine fget (pc := 97) (v := .int (z 0)) hx hb hts hown hE hP fl_X8_127 0 rfl rfl dX8_howMany_97 ?_
    rw [hQ]; exact W.iret (pc := 100) hx hb hr (fun t9 ht _ => ⟨retI (by simp [howS, brkN, lostS, ernS, c_1, c_2, c_3, c_4, c_5, c_6, c_7, c_8, c_9]), ht⟩) (fun _ h => nomatch h) dX8_howMany_100 hlocks
  by_cases c_10 : what = 9
  · skip
    refine lv_tableIn (pc := 1) (off := 100) (tgt := 101) hx hb dX8_howMany_1 (by rw [c_10]; decide) (by rw [c_10]; decide) (by rw [c_10]; try rfl) (by decide) ?_
    refine lv_aload_n (pc := 101) hx hb dX8_howMany_101 rfl (lv_at hl 0 rfl) ?_
    refine fget (pc := 102) (v := .int (z 9)) hx hb hts hown hE hP fl_X8_207 0 rfl rfl dX8_howMany_102 ?_
    rw [hQ]; exact W.iret (pc := 105) hx hb hr (fun t9 ht _ => ⟨retI (by simp [howS, brkN, lostS, ernS, c_1, c_2, c_3, c_4, c_5, c_6, c_7, c_8, c_9, c_10]), ht⟩) (fun _ h => nomatch h) dX8_howMany_105 hlocks
  refine lv_tableOut (pc := 1) (tgt := 106) hx hb dX8_howMany_1 (by (have q0 : ¬ what.toInt = 0 := fun q => c_1 (Int32.toInt_inj.mp (q.trans rfl)); have q1 : ¬ what.toInt = 1 := fun q => c_2 (Int32.toInt_inj.mp (q.trans rfl)); have q2 : ¬ what.toInt = 2 := fun q => c_3 (Int32.toInt_inj.mp (q.trans rfl)); have q3 : ¬ what.toInt = 3 := fun q => c_4 (Int32.toInt_inj.mp (q.trans rfl)); have q4 : ¬ what.toInt = 4 := fun q => c_5 (Int32.toInt_inj.mp (q.trans rfl)); have q5 : ¬ what.toInt = 5 := fun q => c_6 (Int32.toInt_inj.mp (q.trans rfl)); have q6 : ¬ what.toInt = 6 := fun q => c_7 (Int32.toInt_inj.mp (q.trans rfl)); have q7 : ¬ what.toInt = 7 := fun q => c_8 (Int32.toInt_inj.mp (q.trans rfl)); have q8 : ¬ what.toInt = 8 := fun q => c_9 (Int32.toInt_inj.mp (q.trans rfl)); have q9 : ¬ what.toInt = 9 := fun q => c_10 (Int32.toInt_inj.mp (q.trans rfl)); omega)) (by decide) ?_
  refine lv_bipush (pc := 106) (v := (-102)) hx hb dX8_howMany_106 (by decide) ?_
  rw [hQ]; exact W.iret (pc := 108) hx hb hr (fun t9 ht _ => ⟨retI (by simp [howS, brkN, lostS, ernS, c_1, c_2, c_3, c_4, c_5, c_6, c_7, c_8, c_9, c_10]), ht⟩) (fun _ h => nomatch h) dX8_howMany_108 hlocks
set_option maxRecDepth 100000 in
set_option maxHeartbeats 4000000 in
theorem k_X8_count {o : Nat} {a : Nat → Nat} {z : Nat → Int32} {g : Nat → Int64} {r : Nat → Nat → Int32} (what : Int32) {n : Nat} (hok : okP n (r 8)) (hn5 : n ≤ 5) (hz1 : z 1 = nI n) : MR l yX8_count cX8_count 2 (some .int) 9 194 D kB kI kT ks sk sv [.ref o, .int what] (wR kB kI o a z g r) (some (.int (howS z r n what))) := by
  refine MR.go (by decide +kernel) (Nat.le_of_ble_eq_true rfl) ?_
  intro p e s m below meth c0 args Q ls hQ hx hb hr hml hown hts hlocks hE hP hS hl
  have hl : lv_has ls 2 [(0, .ref o), (1, .int what)] := hl
  have hown : s.vm.findClass RX8 = some m.cls := hown
  refine lv_aload_n (pc := 0) hx hb dX8_count_0 rfl (lv_at hl 0 rfl) ?_
  refine lv_iload_n (pc := 1) hx hb dX8_count_1 rfl (lv_at hl 1 rfl) ?_
  refine rV (pc := 2) (rest := []) ⟨hx, hb, hml, hown, hts⟩ (k_X8_howMany (what := what) (z := z) (g := g) (r := r) (hok := (by first | assumption | omega)) (hn5 := (by first | assumption | omega)) (hz1 := (by first | assumption | omega))) cw_X8_275 ⟨(Nat.le_of_ble_eq_true rfl), (Nat.le_of_ble_eq_true rfl)⟩ hE hS hP rfl rfl rfl rfl hl.1 rfl (Nat.le_of_ble_eq_true rfl) dX8_count_2 ⟨Nat.le_refl _, Nat.le_refl _⟩ ?_
  refine W.eq (g2 := F0 m 5 ls [.int (howS z r n what)]) rfl ?_
  rw [hQ]; exact W.iret (pc := 5) hx hb hr (fun t9 ht _ => ⟨retI (rfl), ht⟩) (fun _ h => nomatch h) dX8_count_5 hlocks
end
