section
variable {l : Launch} {D : va_G} {kB kI kT : ClassId} {ks sk sv : Nat}
set_option maxRecDepth 100000 in
set_option maxHeartbeats 4000000 in
theorem k_X8_readTitle {o : Nat} {a : Nat → Nat} {z : Nat → Int32} {g : Nat → Int64} {r : Nat → Nat → Int32} (k : Nat) {pn : Nat} {nt : Nat} (hz14 : z 14 = nI pn) (hpn : pn ≤ 40) (hz18 : z 18 = nI nt) (hnt : nt < 5) (hk : k ≤ 100) : MW l yX8_readTitle cX8_readTitle 4 (some .int) 1 22 D kB kI kT ks sk sv [.ref o, .int (nI k)] (wR kB kI o a z g r) (some (.int ((R_readTitle z g r pn nt k).1))) (wR kB kI o a (R_readTitle z g r pn nt k).2.1 (R_readTitle z g r pn nt k).2.2.1 (R_readTitle z g r pn nt k).2.2.2) := by
  refine MW.go (by decide +kernel) (Nat.le_of_ble_eq_true rfl) ?_
  intro p e s m below meth c0 args Q ls A hQ hx hb hr hml hown hts hlocks hE hP hD hS hl
  have hl : lv_has ls 4 [(0, .ref o), (1, .int (nI k))] := hl
  have hown : s.vm.findClass RX8 = some m.cls := hown
  refine lv_aload_n (pc := 0) hx hb dX8_readTitle_0 rfl (lv_at hl 0 rfl) ?_
  refine fget (pc := 1) (v := .ref (a 19)) hx hb hts hown hE hP fl_X8_44 0 rfl rfl dX8_readTitle_1 ?_
  refine lv_bipush (pc := 4) (v := 6) hx hb dX8_readTitle_4 (by decide) ?_
  refine lv_aload_n (pc := 6) hx hb dX8_readTitle_6 rfl (lv_at hl 0 rfl) ?_
  refine fget (pc := 7) (v := .int (z 18)) hx hb hts hown hE hP fl_X8_94 0 rfl rfl dX8_readTitle_7 ?_
  refine vEq (v := nI nt) hz18 ?_
  refine imulV (pc := 10) (v := nI (6 * nt)) hx hb dX8_readTitle_10 (pk_mul (6) (nt)) ?_
  refine lv_aload_n (pc := 11) hx hb dX8_readTitle_11 rfl (lv_at hl 0 rfl) ?_
  refine lv_iload_n (pc := 12) hx hb dX8_readTitle_12 rfl (lv_at hl 1 rfl) ?_
  refine rV (pc := 13) (rest := [.int (nI (6 * nt)), .ref (a 19)]) ⟨hx, hb, hml, hown, hts⟩ (k_X8_at (k := k) (z := z) (g := g) (r := r) (hz14 := (by first | assumption | omega)) (hpn := (by first | assumption | omega)) (hk := (by omega))) cw_X8_97 ⟨(Nat.le_of_ble_eq_true rfl), (Nat.le_of_ble_eq_true rfl)⟩ hE hS hP rfl rfl rfl rfl hl.1 rfl (Nat.le_of_ble_eq_true rfl) dX8_readTitle_13 ⟨Nat.le_refl _, Nat.le_refl _⟩ ?_
  refine W.eq (g2 := F0 m 16 ls [.int (atP ((r 15)) pn k), .int (nI (6 * nt)), .ref (a 19)]) rfl ?_
  refine rS (pc := 16) (rest := [.int (nI (6 * nt)), .ref (a 19)]) ⟨hx, hb, hml, hown, hts⟩ (k_X8_kindBy (c := atP ((r 15)) pn k)) cw_X8_101 ⟨(Nat.le_of_ble_eq_true rfl), (Nat.le_of_ble_eq_true rfl)⟩ hE hS wc0 rfl hl.1 rfl (Nat.le_of_ble_eq_true rfl) dX8_readTitle_16 ⟨Nat.le_refl _, Nat.le_refl _⟩ ?_
  refine W.eq (g2 := F0 m 19 ls [.int (kindBy (atP ((r 15)) pn k)), .int (nI (6 * nt)), .ref (a 19)]) rfl ?_
  refine astN (pc := 19) (f := r 19) hx hb hE hP hD hS 12 rfl (6 * nt) (by omega) (by omega) dX8_readTitle_19 (fun H locs hP hD hS => ?_)
  have hP : va_P D vwCl (wR kB kI o a z g (va_up r 19 (upd (r 19) (6 * nt) (kindBy (atP ((r 15)) pn k))))) H := hP
  have hD : va_D A (wR kB kI o a z g (va_up r 19 (upd (r 19) (6 * nt) (kindBy (atP ((r 15)) pn k))))) := hD
  refine lv_aload_n (pc := 20) hx hb dX8_readTitle_20 rfl (lv_at hl 0 rfl) ?_
  refine fget (pc := 21) (v := .ref (a 19)) hx hb hts hown hE hP fl_X8_44 0 rfl rfl dX8_readTitle_21 ?_
  refine lv_bipush (pc := 24) (v := 6) hx hb dX8_readTitle_24 (by decide) ?_
  refine lv_aload_n (pc := 26) hx hb dX8_readTitle_26 rfl (lv_at hl 0 rfl) ?_
  refine fget (pc := 27) (v := .int (z 18)) hx hb hts hown hE hP fl_X8_94 0 rfl rfl dX8_readTitle_27 ?_
  refine vEq (v := nI nt) hz18 ?_
  refine imulV (pc := 30) (v := nI (6 * nt)) hx hb dX8_readTitle_30 (pk_mul (6) (nt)) ?_
  refine aldN (pc := 31) (f := upd (r 19) (6 * nt) (kindBy (atP ((r 15)) pn k))) hx hb hE hP 12 rfl (6 * nt) (by omega) (by omega) dX8_readTitle_31 ?_
  refine vEq (v := kindBy (atP (r 15) pn k)) pk_us ?_
  refine lv_iconst (pc := 32) (v := (-1)) hx hb dX8_readTitle_32 (by decide) ?_
  refine lv_icmp_ne (pc := 33) (tgt := 43) hx hb dX8_readTitle_33 (by decide) (fun c_1 => ?_) (fun c_1 => ?_)
  · skip
    refine lv_iconst (pc := 43) (v := 1) hx hb dX8_readTitle_43 (by decide) ?_
    refine lv_istore_n (pc := 44) (lv' := [(2, .int 1), (0, .ref o), (1, .int (nI k))]) hx hb dX8_readTitle_44 rfl hl (by decide) rfl (fun ls hl => ?_)
    have lp_2 : ∀ (fuel : Nat) (u : Nat), 5 - u < fuel → (u ≤ 5) → (rdT (r 15) pn k nt (r 19) = rdR (r 15) pn k nt (r 19) (5 - u)) → ∀ (H : Heap) (locs : List Loc), va_P D vwCl (wR kB kI o a z g (va_up r 19 (rdS (r 15) pn k nt (r 19) u))) H → va_D A (wR kB kI o a z g (va_up r 19 (rdS (r 15) pn k nt (r 19) u))) → va_S A s.heap H locs → ∀ (ls : Array Slot), lv_has ls 4 [(0, .ref o), (1, .int (nI k)), (2, .int (nI (u + 1)))] → W p l e (rmO 1 22) s m args below meth c0 H locs 0 0 Q (F0 m 45 ls []) := by
      intro fuel
      induction fuel with
      | zero => intro u hfuel; exact absurd hfuel (Nat.not_lt_zero _)
      | succ fuel ih_lp_2 =>
        intro u hfuel hu hR H locs hP hD hS ls hl
        refine lv_iload_n (pc := 45) hx hb dX8_readTitle_45 rfl (lv_at hl 2 rfl) ?_
        refine lv_bipush (pc := 46) (v := 6) hx hb dX8_readTitle_46 (by decide) ?_
        refine lv_icmp_ge (pc := 48) (tgt := 125) hx hb dX8_readTitle_48 (by decide) (fun c_3 => ?_) (fun c_3 => ?_)
        · skip
          have c_3n : 6 ≤ (u + 1) := (nI_leI (a := 6) (b := u + 1) (by omega) (by omega)).mp c_3
          have hws_u : u = 5 := by omega
          rw [hws_u] at hP hD
          refine lv_aload_n (pc := 125) hx hb dX8_readTitle_125 rfl (lv_at hl 0 rfl) ?_
          refine lv_dup (pc := 126) hx hb dX8_readTitle_126 rfl ?_
          refine fget (pc := 127) (v := .int (z 18)) hx hb hts hown hE hP fl_X8_94 0 rfl rfl dX8_readTitle_127 ?_
          refine vEq (v := nI nt) hz18 ?_
          refine lv_iconst (pc := 130) (v := 1) hx hb dX8_readTitle_130 (by decide) ?_
          refine iaddV (pc := 131) (v := nI (nt + 1)) hx hb dX8_readTitle_131 (nI_add (nt) (1)) ?_
          refine fput (pc := 132) (v := .int (nI (nt + 1))) hx hb hts hown hE hP hD hS fp_X8_94 0 rfl rfl rfl (Nat.le_of_ble_eq_true rfl) dX8_readTitle_132 (fun H locs hP hD hS => ?_)
          have hP : va_P D vwCl (wR kB kI o a (va_up z 18 (nI (nt + 1))) g (va_up r 19 (rdS (r 15) pn k nt (r 19) 5))) H := hP
          have hD : va_D A (wR kB kI o a (va_up z 18 (nI (nt + 1))) g (va_up r 19 (rdS (r 15) pn k nt (r 19) 5))) := hD
          refine lv_iload_n (pc := 135) hx hb dX8_readTitle_135 rfl (lv_at hl 1 rfl) ?_
          refine lv_bipush (pc := 136) (v := 6) hx hb dX8_readTitle_136 (by decide) ?_
          refine iaddV (pc := 138) (v := nI (k + 6)) hx hb dX8_readTitle_138 (nI_add (k) (6)) ?_
          have hfn : R_readTitle z g r pn nt k = (nI (k + 6), (va_up z 18 (nI (nt + 1))), g, (va_up r 19 (rdS (r 15) pn k nt (r 19) 5))) := by rw [R_readTitle, hR, show 5 - u = 0 by omega, rdR]; rfl
          rw [hQ]; exact W.iret (pc := 139) hx hb hr (fun t9 ht _ => ⟨⟨retI (by rw [hfn]), by rw [ht, hfn]; exact (show va_P D vwCl (wR kB kI o a (va_up z 18 (nI (nt + 1))) g (va_up r 19 (rdS (r 15) pn k nt (r 19) 5))) _ from hP)⟩, hS.F ht⟩) hS.2.2 dX8_readTitle_139 hlocks
        · skip
          have c_3n : ¬ 6 ≤ (u + 1) := fun hh => c_3 ((nI_leI (a := 6) (b := u + 1) (by omega) (by omega)).mpr hh)
          refine lv_aload_n (pc := 51) hx hb dX8_readTitle_51 rfl (lv_at hl 0 rfl) ?_
          refine lv_iload_n (pc := 52) hx hb dX8_readTitle_52 rfl (lv_at hl 1 rfl) ?_
          refine lv_iload_n (pc := 53) hx hb dX8_readTitle_53 rfl (lv_at hl 2 rfl) ?_
          refine iaddV (pc := 54) (v := nI (k + (u + 1))) hx hb dX8_readTitle_54 (nI_add (k) (u + 1)) ?_
          refine rV (pc := 55) (rest := []) ⟨hx, hb, hml, hown, hts⟩ (k_X8_at (k := k + (u + 1)) (z := z) (g := g) (r := (va_up r 19 (rdS (r 15) pn k nt (r 19) u))) (hz14 := (by first | assumption | omega)) (hpn := (by first | assumption | omega)) (hk := (by omega))) cw_X8_97 ⟨(Nat.le_of_ble_eq_true rfl), (Nat.le_of_ble_eq_true rfl)⟩ hE hS hP rfl rfl rfl rfl hl.1 rfl (Nat.le_of_ble_eq_true rfl) dX8_readTitle_55 ⟨Nat.le_refl _, Nat.le_refl _⟩ ?_
          refine W.eq (g2 := F0 m 58 ls [.int (atP ((r 15)) pn (k + (u + 1)))]) rfl ?_
          refine lv_istore_n (pc := 58) (lv' := [(3, .int (atP ((r 15)) pn (k + (u + 1)))), (0, .ref o), (1, .int (nI k)), (2, .int (nI (u + 1)))]) hx hb dX8_readTitle_58 rfl hl (by decide) rfl (fun ls hl => ?_)
          refine lv_iload_n (pc := 59) hx hb dX8_readTitle_59 rfl (lv_at hl 0 rfl) ?_
          refine lv_aload_n (pc := 60) hx hb dX8_readTitle_60 rfl (lv_at hl 1 rfl) ?_
          refine lv_iload_n (pc := 61) hx hb dX8_readTitle_61 rfl (lv_at hl 3 rfl) ?_
          refine rV (pc := 62) (rest := [.int (atP ((r 15)) pn (k + (u + 1)))]) ⟨hx, hb, hml, hown, hts⟩ (k_X8_least (x := nI (u + 1)) (z := z) (g := g) (r := (va_up r 19 (rdS (r 15) pn k nt (r 19) u))) (hz18 := (by first | assumption | omega)) (hnt := (by first | assumption | omega))) cw_X8_108 ⟨(Nat.le_of_ble_eq_true rfl), (Nat.le_of_ble_eq_true rfl)⟩ hE hS hP rfl rfl rfl rfl hl.1 rfl (Nat.le_of_ble_eq_true rfl) dX8_readTitle_62 ⟨Nat.le_refl _, Nat.le_refl _⟩ ?_
          refine W.eq (g2 := F0 m 65 ls [.int (leastP ((rdS (r 15) pn k nt (r 19) u)) nt (nI (u + 1))), .int (atP ((r 15)) pn (k + (u + 1)))]) rfl ?_
          refine lv_iload_n (pc := 65) hx hb dX8_readTitle_65 rfl (lv_at hl 3 rfl) ?_
          refine rS (pc := 66) (rest := [.int (leastP ((rdS (r 15) pn k nt (r 19) u)) nt (nI (u + 1))), .int (atP ((r 15)) pn (k + (u + 1)))]) ⟨hx, hb, hml, hown, hts⟩ (k_X8_most (x := nI (u + 1))) cw_X8_111 ⟨(Nat.le_of_ble_eq_true rfl), (Nat.le_of_ble_eq_true rfl)⟩ hE hS wc0 rfl hl.1 rfl (Nat.le_of_ble_eq_true rfl) dX8_readTitle_66 ⟨Nat.le_refl _, Nat.le_refl _⟩ ?_
          refine W.eq (g2 := F0 m 69 ls [.int (mostP (nI (u + 1))), .int (leastP ((rdS (r 15) pn k nt (r 19) u)) nt (nI (u + 1))), .int (atP ((r 15)) pn (k + (u + 1)))]) rfl ?_
          refine rS (pc := 69) (rest := []) ⟨hx, hb, hml, hown, hts⟩ (k_X8_within (v := atP ((r 15)) pn (k + (u + 1))) (lo := leastP ((rdS (r 15) pn k nt (r 19) u)) nt (nI (u + 1))) (hi := mostP (nI (u + 1)))) cw_X8_86 ⟨(Nat.le_of_ble_eq_true rfl), (Nat.le_of_ble_eq_true rfl)⟩ hE hS wc0 rfl hl.1 rfl (Nat.le_of_ble_eq_true rfl) dX8_readTitle_69 ⟨Nat.le_refl _, Nat.le_refl _⟩ ?_
          refine W.eq (g2 := F0 m 72 ls [.int (bi (inR (atP ((r 15)) pn (k + (u + 1))) (leastP ((rdS (r 15) pn k nt (r 19) u)) nt (nI (u + 1))) (mostP (nI (u + 1)))))]) rfl ?_
          refine bif_ne (pc := 72) (tgt := 84) hx hb dX8_readTitle_72 (by decide) (fun c_4 => ?_) (fun c_4 => ?_)
          · skip
            refine lv_aload_n (pc := 84) hx hb dX8_readTitle_84 rfl (lv_at hl 1 rfl) ?_
            refine fget (pc := 85) (v := .ref (a 19)) hx hb hts hown hE hP fl_X8_44 0 rfl rfl dX8_readTitle_85 ?_
            refine lv_bipush (pc := 88) (v := 6) hx hb dX8_readTitle_88 (by decide) ?_
            refine lv_aload_n (pc := 90) hx hb dX8_readTitle_90 rfl (lv_at hl 1 rfl) ?_
            refine fget (pc := 91) (v := .int (z 18)) hx hb hts hown hE hP fl_X8_94 0 rfl rfl dX8_readTitle_91 ?_
            refine vEq (v := nI nt) hz18 ?_
            refine imulV (pc := 94) (v := nI (6 * nt)) hx hb dX8_readTitle_94 (pk_mul (6) (nt)) ?_
            refine lv_iload_n (pc := 95) hx hb dX8_readTitle_95 rfl (lv_at hl 3 rfl) ?_
            refine iaddV (pc := 96) (v := nI (6 * nt + (u + 1))) hx hb dX8_readTitle_96 (nI_add (6 * nt) (u + 1)) ?_
            refine lv_iload_n (pc := 97) hx hb dX8_readTitle_97 rfl (lv_at hl 3 rfl) ?_
            refine lv_iconst (pc := 98) (v := 3) hx hb dX8_readTitle_98 (by decide) ?_
            refine lv_icmp_eq (pc := 99) (tgt := 107) hx hb dX8_readTitle_99 (by decide) (fun c_5 => ?_) (fun c_5 => ?_)
            · skip
              have c_5n : (u + 1) = 3 := (nI_eq (a := u + 1) (b := 3) (by omega) (by omega)).mp c_5
              refine lv_iload_n (pc := 107) hx hb dX8_readTitle_107 rfl (lv_at hl 0 rfl) ?_
              refine lv_bipush (pc := 108) (v := 97) hx hb dX8_readTitle_108 (by decide) ?_
              refine lv_isub (pc := 110) hx hb dX8_readTitle_110 ?_
              refine lv_goto (pc := 111) (tgt := 118) hx hb dX8_readTitle_111 (by decide) ?_
              refine astN (pc := 118) (f := rdS (r 15) pn k nt (r 19) u) hx hb hE hP hD hS 12 rfl (6 * nt + (u + 1)) (by omega) (by omega) dX8_readTitle_118 (fun H locs hP hD hS => ?_)
              have hP : va_P D vwCl (wR kB kI o a z g (va_up r 19 (upd (rdS (r 15) pn k nt (r 19) u) (6 * nt + (u + 1)) ((atP ((r 15)) pn (k + (u + 1))) - 97)))) H := hP
              have hD : va_D A (wR kB kI o a z g (va_up r 19 (upd (rdS (r 15) pn k nt (r 19) u) (6 * nt + (u + 1)) ((atP ((r 15)) pn (k + (u + 1))) - 97)))) := hD
              refine lv_iinc (pc := 119) (v := nI (u + 1 + 1)) (lv' := [(2, .int (nI (u + 1 + 1))), (3, .int (atP ((r 15)) pn (k + (u + 1)))), (0, .ref o), (1, .int (nI k))]) hx hb dX8_readTitle_119 hl (k := 3) rfl (nI_add (u + 1) 1) (by decide) rfl (fun ls hl => ?_)
              refine lv_goto (pc := 122) (tgt := 45) hx hb dX8_readTitle_122 (by decide) ?_
              exact ih_lp_2 (u + 1) (by omega) (by omega) (by rw [hR, show 5 - u = (4 - u) + 1 by omega, rdR, show 5 - (4 - u + 1) = u by omega, if_pos c_4, show 5 - (u + 1) = 4 - u by omega]) _ _ (by rw [rdS, rdV, if_pos (Or.inl c_5n)]; exact hP) (by rw [rdS, rdV, if_pos (Or.inl c_5n)]; exact hD) hS ls (lv_sub hl [2, 3, 0] rfl)
            · skip
              have c_5n : ¬ (u + 1) = 3 := fun hh => c_5 ((nI_eq (a := u + 1) (b := 3) (by omega) (by omega)).mpr hh)
              refine lv_iload_n (pc := 102) hx hb dX8_readTitle_102 rfl (lv_at hl 3 rfl) ?_
              refine lv_iconst (pc := 103) (v := 4) hx hb dX8_readTitle_103 (by decide) ?_
              refine lv_icmp_ne (pc := 104) (tgt := 114) hx hb dX8_readTitle_104 (by decide) (fun c_6 => ?_) (fun c_6 => ?_)
              · skip
                have c_6n : ¬ (u + 1) = 4 := fun hh => c_6 ((nI_eq (a := u + 1) (b := 4) (by omega) (by omega)).mpr hh)
                refine lv_iload_n (pc := 114) hx hb dX8_readTitle_114 rfl (lv_at hl 0 rfl) ?_
                refine lv_bipush (pc := 115) (v := 48) hx hb dX8_readTitle_115 (by decide) ?_
                refine lv_isub (pc := 117) hx hb dX8_readTitle_117 ?_
                refine astN (pc := 118) (f := rdS (r 15) pn k nt (r 19) u) hx hb hE hP hD hS 12 rfl (6 * nt + (u + 1)) (by omega) (by omega) dX8_readTitle_118 (fun H locs hP hD hS => ?_)
                have hP : va_P D vwCl (wR kB kI o a z g (va_up r 19 (upd (rdS (r 15) pn k nt (r 19) u) (6 * nt + (u + 1)) ((atP ((r 15)) pn (k + (u + 1))) - 48)))) H := hP
                have hD : va_D A (wR kB kI o a z g (va_up r 19 (upd (rdS (r 15) pn k nt (r 19) u) (6 * nt + (u + 1)) ((atP ((r 15)) pn (k + (u + 1))) - 48)))) := hD
                refine lv_iinc (pc := 119) (v := nI (u + 1 + 1)) (lv' := [(2, .int (nI (u + 1 + 1))), (3, .int (atP ((r 15)) pn (k + (u + 1)))), (0, .ref o), (1, .int (nI k))]) hx hb dX8_readTitle_119 hl (k := 3) rfl (nI_add (u + 1) 1) (by decide) rfl (fun ls hl => ?_)
                refine lv_goto (pc := 122) (tgt := 45) hx hb dX8_readTitle_122 (by decide) ?_
                exact ih_lp_2 (u + 1) (by omega) (by omega) (by rw [hR, show 5 - u = (4 - u) + 1 by omega, rdR, show 5 - (4 - u + 1) = u by omega, if_pos c_4, show 5 - (u + 1) = 4 - u by omega]) _ _ (by rw [rdS, rdV, if_neg (fun q => q.elim c_5n c_6n)]; exact hP) (by rw [rdS, rdV, if_neg (fun q => q.elim c_5n c_6n)]; exact hD) hS ls (lv_sub hl [2, 3, 0] rfl)
              · skip
                have c_6n : (u + 1) = 4 := (nI_eq (a := u + 1) (b := 4) (by omega) (by omega)).mp c_6
                refine lv_iload_n (pc := 107) hx hb dX8_readTitle_107 rfl (lv_at hl 0 rfl) ?_
                refine lv_bipush (pc := 108) (v := 97) hx hb dX8_readTitle_108 (by decide) ?_
                refine lv_isub (pc := 110) hx hb dX8_readTitle_110 ?_
                refine lv_goto (pc := 111) (tgt := 118) hx hb dX8_readTitle_111 (by decide) ?_
                refine astN (pc := 118) (f := rdS (r 15) pn k nt (r 19) u) hx hb hE hP hD hS 12 rfl (6 * nt + (u + 1)) (by omega) (by omega) dX8_readTitle_118 (fun H locs hP hD hS => ?_)
                have hP : va_P D vwCl (wR kB kI o a z g (va_up r 19 (upd (rdS (r 15) pn k nt (r 19) u) (6 * nt + (u + 1)) ((atP ((r 15)) pn (k + (u + 1))) - 97)))) H := hP
                have hD : va_D A (wR kB kI o a z g (va_up r 19 (upd (rdS (r 15) pn k nt (r 19) u) (6 * nt + (u + 1)) ((atP ((r 15)) pn (k + (u + 1))) - 97)))) := hD
                refine lv_iinc (pc := 119) (v := nI (u + 1 + 1)) (lv' := [(2, .int (nI (u + 1 + 1))), (3, .int (atP ((r 15)) pn (k + (u + 1)))), (0, .ref o), (1, .int (nI k))]) hx hb dX8_readTitle_119 hl (k := 3) rfl (nI_add (u + 1) 1) (by decide) rfl (fun ls hl => ?_)
                refine lv_goto (pc := 122) (tgt := 45) hx hb dX8_readTitle_122 (by decide) ?_
                exact ih_lp_2 (u + 1) (by omega) (by omega) (by rw [hR, show 5 - u = (4 - u) + 1 by omega, rdR, show 5 - (4 - u + 1) = u by omega, if_pos c_4, show 5 - (u + 1) = 4 - u by omega]) _ _ (by rw [rdS, rdV, if_pos (Or.inr c_6n)]; exact hP) (by rw [rdS, rdV, if_pos (Or.inr c_6n)]; exact hD) hS ls (lv_sub hl [2, 3, 0] rfl)
          · skip
            refine lv_aload_n (pc := 75) hx hb dX8_readTitle_75 rfl (lv_at hl 1 rfl) ?_
            refine lv_iconst (pc := 76) (v := 1) hx hb dX8_readTitle_76 (by decide) ?_
            refine fput (pc := 77) (v := .int 1) hx hb hts hown hE hP hD hS fp_X8_104 0 rfl rfl rfl (Nat.le_of_ble_eq_true rfl) dX8_readTitle_77 (fun H locs hP hD hS => ?_)
            have hP : va_P D vwCl (wR kB kI o a (va_up z 17 1) g (va_up r 19 (rdS (r 15) pn k nt (r 19) u))) H := hP
            have hD : va_D A (wR kB kI o a (va_up z 17 1) g (va_up r 19 (rdS (r 15) pn k nt (r 19) u))) := hD
            refine lv_iload_n (pc := 80) hx hb dX8_readTitle_80 rfl (lv_at hl 2 rfl) ?_
            refine lv_iload_n (pc := 81) hx hb dX8_readTitle_81 rfl (lv_at hl 3 rfl) ?_
            refine iaddV (pc := 82) (v := nI (k + (u + 1))) hx hb dX8_readTitle_82 (nI_add (k) (u + 1)) ?_
            have hfn : R_readTitle z g r pn nt k = (nI (k + (u + 1)), (va_up z 17 1), g, (va_up r 19 (rdS (r 15) pn k nt (r 19) u))) := by rw [R_readTitle, hR, show 5 - u = (4 - u) + 1 by omega, rdR, show 5 - (4 - u + 1) = u by omega, if_neg c_4]; rfl
            rw [hQ]; exact W.iret (pc := 83) hx hb hr (fun t9 ht _ => ⟨⟨retI (by rw [hfn]), by rw [ht, hfn]; exact (show va_P D vwCl (wR kB kI o a (va_up z 17 1) g (va_up r 19 (rdS (r 15) pn k nt (r 19) u))) _ from hP)⟩, hS.F ht⟩) hS.2.2 dX8_readTitle_83 hlocks
    exact lp_2 _ 0 (Nat.lt_succ_self _) (by omega) (by rw [rdT, if_neg c_1]) _ _ hP hD hS ls (lv_sub hl [1, 2, 0] rfl)
  · skip
    refine lv_aload_n (pc := 36) hx hb dX8_readTitle_36 rfl (lv_at hl 0 rfl) ?_
    refine lv_iconst (pc := 37) (v := 1) hx hb dX8_readTitle_37 (by decide) ?_
    refine fput (pc := 38) (v := .int 1) hx hb hts hown hE hP hD hS fp_X8_104 0 rfl rfl rfl (Nat.le_of_ble_eq_true rfl) dX8_readTitle_38 (fun H locs hP hD hS => ?_)
    have hP : va_P D vwCl (wR kB kI o a (va_up z 17 1) g (va_up r 19 (upd (r 19) (6 * nt) (kindBy (atP ((r 15)) pn k))))) H := hP
    have hD : va_D A (wR kB kI o a (va_up z 17 1) g (va_up r 19 (upd (r 19) (6 * nt) (kindBy (atP ((r 15)) pn k))))) := hD
    refine lv_iload_n (pc := 41) hx hb dX8_readTitle_41 rfl (lv_at hl 1 rfl) ?_
    have hfn : R_readTitle z g r pn nt k = (nI k, (va_up z 17 1), g, (va_up r 19 (upd (r 19) (6 * nt) (kindBy (atP ((r 15)) pn k))))) := by rw [R_readTitle, rdT, if_pos c_1]; rfl
    rw [hQ]; exact W.iret (pc := 42) hx hb hr (fun t9 ht _ => ⟨⟨retI (by rw [hfn]), by rw [ht, hfn]; exact (show va_P D vwCl (wR kB kI o a (va_up z 17 1) g (va_up r 19 (upd (r 19) (6 * nt) (kindBy (atP ((r 15)) pn k))))) _ from hP)⟩, hS.F ht⟩) hS.2.2 dX8_readTitle_42 hlocks
end
