section
variable {l : Launch} {D : va_G} {kB kI kT : ClassId} {ks sk sv : Nat}
set_option maxRecDepth 100000 in
set_option maxHeartbeats 4000000 in
theorem k_X8_play {o : Nat} {a : Nat → Nat} {z : Nat → Int32} {g : Nat → Int64} {r : Nat → Nat → Int32} (x : Int32) (t : Int32) {n : Nat} (hok : okP n (r 8)) (hn5 : n ≤ 5) (hz1 : z 1 = nI n) : MW l yX8_play cX8_play 3 (some .int) 7 153 D kB kI kT ks sk sv [.ref o, .int x, .int t] (wR kB kI o a z g r) (some (.int ((R_play z g r n x t).1))) (wR kB kI o a (R_play z g r n x t).2.1 (R_play z g r n x t).2.2.1 (R_play z g r n x t).2.2.2) := by
  refine MW.go (by decide +kernel) (Nat.le_of_ble_eq_true rfl) ?_
  intro p e s m below meth c0 args Q ls A hQ hx hb hr hml hown hts hlocks hE hP hD hS hl
  have hl : lv_has ls 3 [(0, .ref o), (1, .int x), (2, .int t)] := hl
  have hown : s.vm.findClass RX8 = some m.cls := hown
  refine lv_iload_n (pc := 0) hx hb dX8_play_0 rfl (lv_at hl 1 rfl) ?_
  refine rS (pc := 1) (rest := []) ⟨hx, hb, hml, hown, hts⟩ (k_X8_isNight (n := x)) cw_X8_140 ⟨(Nat.le_of_ble_eq_true rfl), (Nat.le_of_ble_eq_true rfl)⟩ hE hS wc0 rfl hl.1 rfl (Nat.le_of_ble_eq_true rfl) dX8_play_1 ⟨Nat.le_refl _, Nat.le_refl _⟩ ?_
  refine W.eq (g2 := F0 m 4 ls [.int (bi (inR x 0 11))]) rfl ?_
  refine bif_eq (pc := 4) (tgt := 27) hx hb dX8_play_4 (by decide) (fun c_1 => ?_) (fun c_1 => ?_)
  · skip
    refine lv_bipush (pc := 27) (v := (-101)) hx hb dX8_play_27 (by decide) ?_
    have hfn : R_play z g r n x t = ((-101), z, g, r) := by rw [R_play, if_neg (fun q => c_1 q.1)]
    rw [hQ]; exact W.iret (pc := 29) hx hb hr (fun t9 ht _ => ⟨⟨retI (by rw [hfn]), by rw [ht, hfn]; exact (show va_P D vwCl (wR kB kI o a z g r) _ from hP)⟩, hS.F ht⟩) hS.2.2 dX8_play_29 hlocks
  · skip
    obtain ⟨i, hi, hxi⟩ := inR_nat c_1
    refine lv_aload_n (pc := 7) hx hb dX8_play_7 rfl (lv_at hl 0 rfl) ?_
    refine fget (pc := 8) (v := .int (z 1)) hx hb hts hown hE hP fl_X8_124 0 rfl rfl dX8_play_8 ?_
    refine vEq (v := nI n) hz1 ?_
    refine lv_if_eq (pc := 11) (tgt := 27) hx hb dX8_play_11 (by decide) (fun c_2 => ?_) (fun c_2 => ?_)
    · skip
      have c_2n : n = 0 := (nI_eq (a := n) (b := 0) (by omega) (by omega)).mp c_2
      refine lv_bipush (pc := 27) (v := (-101)) hx hb dX8_play_27 (by decide) ?_
      have hfn : R_play z g r n x t = ((-101), z, g, r) := by rw [R_play, if_neg (fun q => q.2.1 c_2n)]
      rw [hQ]; exact W.iret (pc := 29) hx hb hr (fun t9 ht _ => ⟨⟨retI (by rw [hfn]), by rw [ht, hfn]; exact (show va_P D vwCl (wR kB kI o a z g r) _ from hP)⟩, hS.F ht⟩) hS.2.2 dX8_play_29 hlocks
    · skip
      have c_2n : ¬ n = 0 := fun hh => c_2 ((nI_eq (a := n) (b := 0) (by omega) (by omega)).mpr hh)
      refine lv_iload_n (pc := 14) hx hb dX8_play_14 rfl (lv_at hl 2 rfl) ?_
      refine lv_iconst (pc := 15) (v := (-1)) hx hb dX8_play_15 (by decide) ?_
      refine lv_icmp_eq (pc := 16) (tgt := 30) hx hb dX8_play_16 (by decide) (fun c_3 => ?_) (fun c_3 => ?_)
      · skip
        refine lv_aload_n (pc := 30) hx hb dX8_play_30 rfl (lv_at hl 0 rfl) ?_
        refine fget (pc := 31) (v := .ref (a 8)) hx hb hts hown hE hP fl_X8_28 0 rfl rfl dX8_play_31 ?_
        refine lv_iload_n (pc := 34) hx hb dX8_play_34 rfl (lv_at hl 1 rfl) ?_
        refine vEq (v := nI i) hxi ?_
        refine lv_iload_n (pc := 35) hx hb dX8_play_35 rfl (lv_at hl 2 rfl) ?_
        refine astN (pc := 36) (f := r 8) hx hb hE hP hD hS 7 rfl (i) (by omega) (by omega) dX8_play_36 (fun H locs hP hD hS => ?_)
        have hP : va_P D vwCl (wR kB kI o a z g (va_up r 8 (upd (r 8) i t))) H := hP
        have hD : va_D A (wR kB kI o a z g (va_up r 8 (upd (r 8) i t))) := hD
        refine lv_aload_n (pc := 37) hx hb dX8_play_37 rfl (lv_at hl 0 rfl) ?_
        refine rV (pc := 38) (rest := []) ⟨hx, hb, hml, hown, hts⟩ (k_X8_breaks (z := z) (g := g) (r := (va_up r 8 (upd (r 8) i t))) (hok := (okP_upd hok (Or.inl c_3))) (hn5 := hn5)) cw_X8_166 ⟨(Nat.le_of_ble_eq_true rfl), (Nat.le_of_ble_eq_true rfl)⟩ hE hS hP rfl rfl rfl rfl hl.1 rfl (Nat.le_of_ble_eq_true rfl) dX8_play_38 ⟨Nat.le_refl _, Nat.le_refl _⟩ ?_
        refine W.eq (g2 := F0 m 41 ls [.int (nI (cntP (fun j => 0 < brk ((r 2)) ((r 3)) ((r 4)) ((r 5)) ((r 6)) ((upd (r 8) i t)) j) 12))]) rfl ?_
        have hfn : R_play z g r n x t = (nI (cntP (fun j => 0 < brk ((r 2)) ((r 3)) ((r 4)) ((r 5)) ((r 6)) ((upd (r 8) i t)) j) 12), z, g, (va_up r 8 (upd (r 8) i t))) := by rw [R_play, if_pos ⟨c_1, c_2n, Or.inl c_3⟩, hxi, ix_nI (by omega)]; rfl
        rw [hQ]; exact W.iret (pc := 41) hx hb hr (fun t9 ht _ => ⟨⟨retI (by rw [hfn]), by rw [ht, hfn]; exact (show va_P D vwCl (wR kB kI o a z g (va_up r 8 (upd (r 8) i t))) _ from hP)⟩, hS.F ht⟩) hS.2.2 dX8_play_41 hlocks
      · skip
        refine lv_aload_n (pc := 19) hx hb dX8_play_19 rfl (lv_at hl 0 rfl) ?_
        refine lv_iload_n (pc := 20) hx hb dX8_play_20 rfl (lv_at hl 2 rfl) ?_
        refine rV (pc := 21) (rest := []) ⟨hx, hb, hml, hown, hts⟩ (k_X8_isTitle (t := t) (z := z) (g := g) (r := r)) cw_X8_133 ⟨(Nat.le_of_ble_eq_true rfl), (Nat.le_of_ble_eq_true rfl)⟩ hE hS hP rfl rfl rfl rfl hl.1 rfl (Nat.le_of_ble_eq_true rfl) dX8_play_21 ⟨Nat.le_refl _, Nat.le_refl _⟩ ?_
        refine W.eq (g2 := F0 m 24 ls [.int (bi (inR t 0 ((z 1) - 1)))]) rfl ?_
        refine bif_ne (pc := 24) (tgt := 30) hx hb dX8_play_24 (by decide) (fun c_4 => ?_) (fun c_4 => ?_)
        · skip
          refine lv_aload_n (pc := 30) hx hb dX8_play_30 rfl (lv_at hl 0 rfl) ?_
          refine fget (pc := 31) (v := .ref (a 8)) hx hb hts hown hE hP fl_X8_28 0 rfl rfl dX8_play_31 ?_
          refine lv_iload_n (pc := 34) hx hb dX8_play_34 rfl (lv_at hl 1 rfl) ?_
          refine vEq (v := nI i) hxi ?_
          refine lv_iload_n (pc := 35) hx hb dX8_play_35 rfl (lv_at hl 2 rfl) ?_
          refine astN (pc := 36) (f := r 8) hx hb hE hP hD hS 7 rfl (i) (by omega) (by omega) dX8_play_36 (fun H locs hP hD hS => ?_)
          have hP : va_P D vwCl (wR kB kI o a z g (va_up r 8 (upd (r 8) i t))) H := hP
          have hD : va_D A (wR kB kI o a z g (va_up r 8 (upd (r 8) i t))) := hD
          refine lv_aload_n (pc := 37) hx hb dX8_play_37 rfl (lv_at hl 0 rfl) ?_
          refine rV (pc := 38) (rest := []) ⟨hx, hb, hml, hown, hts⟩ (k_X8_breaks (z := z) (g := g) (r := (va_up r 8 (upd (r 8) i t))) (hok := (okP_upd hok (Or.inr (isT_nat hz1 hn5 c_4)))) (hn5 := hn5)) cw_X8_166 ⟨(Nat.le_of_ble_eq_true rfl), (Nat.le_of_ble_eq_true rfl)⟩ hE hS hP rfl rfl rfl rfl hl.1 rfl (Nat.le_of_ble_eq_true rfl) dX8_play_38 ⟨Nat.le_refl _, Nat.le_refl _⟩ ?_
          refine W.eq (g2 := F0 m 41 ls [.int (nI (cntP (fun j => 0 < brk ((r 2)) ((r 3)) ((r 4)) ((r 5)) ((r 6)) ((upd (r 8) i t)) j) 12))]) rfl ?_
          have hfn : R_play z g r n x t = (nI (cntP (fun j => 0 < brk ((r 2)) ((r 3)) ((r 4)) ((r 5)) ((r 6)) ((upd (r 8) i t)) j) 12), z, g, (va_up r 8 (upd (r 8) i t))) := by rw [R_play, if_pos ⟨c_1, c_2n, Or.inr c_4⟩, hxi, ix_nI (by omega)]; rfl
          rw [hQ]; exact W.iret (pc := 41) hx hb hr (fun t9 ht _ => ⟨⟨retI (by rw [hfn]), by rw [ht, hfn]; exact (show va_P D vwCl (wR kB kI o a z g (va_up r 8 (upd (r 8) i t))) _ from hP)⟩, hS.F ht⟩) hS.2.2 dX8_play_41 hlocks
        · skip
          refine lv_bipush (pc := 27) (v := (-101)) hx hb dX8_play_27 (by decide) ?_
          have hfn : R_play z g r n x t = ((-101), z, g, r) := by rw [R_play, if_neg (fun q => q.2.2.elim c_3 c_4)]
          rw [hQ]; exact W.iret (pc := 29) hx hb hr (fun t9 ht _ => ⟨⟨retI (by rw [hfn]), by rw [ht, hfn]; exact (show va_P D vwCl (wR kB kI o a z g r) _ from hP)⟩, hS.F ht⟩) hS.2.2 dX8_play_29 hlocks
set_option maxRecDepth 100000 in
set_option maxHeartbeats 4000000 in
theorem k_X8_add {o : Nat} {a : Nat → Nat} {z : Nat → Int32} {g : Nat → Int64} {r : Nat → Nat → Int32} (kind : Int32) (set : Int32) (cast : Int32) {n : Nat} (hz1 : z 1 = nI n) (hn5 : n ≤ 5) : MW l yX8_add cX8_add 4 (some .int) 1 22 D kB kI kT ks sk sv [.ref o, .int kind, .int set, .int cast] (wR kB kI o a z g r) (some (.int ((R_add z g r n kind set cast).1))) (wR kB kI o a (R_add z g r n kind set cast).2.1 (R_add z g r n kind set cast).2.2.1 (R_add z g r n kind set cast).2.2.2) := by
  refine MW.go (by decide +kernel) (Nat.le_of_ble_eq_true rfl) ?_
  intro p e s m below meth c0 args Q ls A hQ hx hb hr hml hown hts hlocks hE hP hD hS hl
  have hl : lv_has ls 4 [(0, .ref o), (1, .int kind), (2, .int set), (3, .int cast)] := hl
  have hown : s.vm.findClass RX8 = some m.cls := hown
  refine lv_iload_n (pc := 0) hx hb dX8_add_0 rfl (lv_at hl 1 rfl) ?_
  refine lv_iconst (pc := 1) (v := 0) hx hb dX8_add_1 (by decide) ?_
  refine lv_iconst (pc := 2) (v := 4) hx hb dX8_add_2 (by decide) ?_
  refine rS (pc := 3) (rest := []) ⟨hx, hb, hml, hown, hts⟩ (k_X8_within (v := kind) (lo := 0) (hi := 4)) cw_X8_86 ⟨(Nat.le_of_ble_eq_true rfl), (Nat.le_of_ble_eq_true rfl)⟩ hE hS wc0 rfl hl.1 rfl (Nat.le_of_ble_eq_true rfl) dX8_add_3 ⟨Nat.le_refl _, Nat.le_refl _⟩ ?_
  refine W.eq (g2 := F0 m 6 ls [.int (bi (inR kind 0 4))]) rfl ?_
  refine bif_eq (pc := 6) (tgt := 27) hx hb dX8_add_6 (by decide) (fun c_1 => ?_) (fun c_1 => ?_)
  · skip
    refine lv_bipush (pc := 27) (v := (-102)) hx hb dX8_add_27 (by decide) ?_
    have hfn : R_add z g r n kind set cast = ((-102), z, g, r) := by rw [R_add, if_neg (fun q => c_1 q.1)]
    rw [hQ]; exact W.iret (pc := 29) hx hb hr (fun t9 ht _ => ⟨⟨retI (by rw [hfn]), by rw [ht, hfn]; exact (show va_P D vwCl (wR kB kI o a z g r) _ from hP)⟩, hS.F ht⟩) hS.2.2 dX8_add_29 hlocks
  · skip
    refine lv_iload_n (pc := 9) hx hb dX8_add_9 rfl (lv_at hl 2 rfl) ?_
    refine lv_iconst (pc := 10) (v := 0) hx hb dX8_add_10 (by decide) ?_
    refine lv_iconst (pc := 11) (v := 4) hx hb dX8_add_11 (by decide) ?_
    refine rS (pc := 12) (rest := []) ⟨hx, hb, hml, hown, hts⟩ (k_X8_within (v := set) (lo := 0) (hi := 4)) cw_X8_86 ⟨(Nat.le_of_ble_eq_true rfl), (Nat.le_of_ble_eq_true rfl)⟩ hE hS wc0 rfl hl.1 rfl (Nat.le_of_ble_eq_true rfl) dX8_add_12 ⟨Nat.le_refl _, Nat.le_refl _⟩ ?_
    refine W.eq (g2 := F0 m 15 ls [.int (bi (inR set 0 4))]) rfl ?_
    refine bif_eq (pc := 15) (tgt := 27) hx hb dX8_add_15 (by decide) (fun c_2 => ?_) (fun c_2 => ?_)
    · skip
      refine lv_bipush (pc := 27) (v := (-102)) hx hb dX8_add_27 (by decide) ?_
      have hfn : R_add z g r n kind set cast = ((-102), z, g, r) := by rw [R_add, if_neg (fun q => c_2 q.2.1)]
      rw [hQ]; exact W.iret (pc := 29) hx hb hr (fun t9 ht _ => ⟨⟨retI (by rw [hfn]), by rw [ht, hfn]; exact (show va_P D vwCl (wR kB kI o a z g r) _ from hP)⟩, hS.F ht⟩) hS.2.2 dX8_add_29 hlocks
    · skip
      refine lv_iload_n (pc := 18) hx hb dX8_add_18 rfl (lv_at hl 3 rfl) ?_
      refine lv_iconst (pc := 19) (v := 0) hx hb dX8_add_19 (by decide) ?_
      refine lv_iconst (pc := 20) (v := 4) hx hb dX8_add_20 (by decide) ?_
      refine rS (pc := 21) (rest := []) ⟨hx, hb, hml, hown, hts⟩ (k_X8_within (v := cast) (lo := 0) (hi := 4)) cw_X8_86 ⟨(Nat.le_of_ble_eq_true rfl), (Nat.le_of_ble_eq_true rfl)⟩ hE hS wc0 rfl hl.1 rfl (Nat.le_of_ble_eq_true rfl) dX8_add_21 ⟨Nat.le_refl _, Nat.le_refl _⟩ ?_
      refine W.eq (g2 := F0 m 24 ls [.int (bi (inR cast 0 4))]) rfl ?_
      refine bif_ne (pc := 24) (tgt := 30) hx hb dX8_add_24 (by decide) (fun c_3 => ?_) (fun c_3 => ?_)
      · skip
        refine lv_aload_n (pc := 30) hx hb dX8_add_30 rfl (lv_at hl 0 rfl) ?_
        refine fget (pc := 31) (v := .int (z 1)) hx hb hts hown hE hP fl_X8_124 0 rfl rfl dX8_add_31 ?_
        refine vEq (v := nI n) hz1 ?_
        refine lv_if_ne (pc := 34) (tgt := 40) hx hb dX8_add_34 (by decide) (fun c_4 => ?_) (fun c_4 => ?_)
        · skip
          have c_4n : ¬ n = 0 := fun hh => c_4 ((nI_eq (a := n) (b := 0) (by omega) (by omega)).mpr hh)
          refine lv_aload_n (pc := 40) hx hb dX8_add_40 rfl (lv_at hl 0 rfl) ?_
          refine fget (pc := 41) (v := .int (z 1)) hx hb hts hown hE hP fl_X8_124 0 rfl rfl dX8_add_41 ?_
          refine vEq (v := nI n) hz1 ?_
          refine lv_iconst (pc := 44) (v := 5) hx hb dX8_add_44 (by decide) ?_
          refine lv_icmp_ne (pc := 45) (tgt := 51) hx hb dX8_add_45 (by decide) (fun c_5 => ?_) (fun c_5 => ?_)
          · skip
            have c_5n : ¬ n = 5 := fun hh => c_5 ((nI_eq (a := n) (b := 5) (by omega) (by omega)).mpr hh)
            refine lv_aload_n (pc := 51) hx hb dX8_add_51 rfl (lv_at hl 0 rfl) ?_
            refine fget (pc := 52) (v := .ref (a 2)) hx hb hts hown hE hP fl_X8_7 0 rfl rfl dX8_add_52 ?_
            refine lv_aload_n (pc := 55) hx hb dX8_add_55 rfl (lv_at hl 0 rfl) ?_
            refine fget (pc := 56) (v := .int (z 1)) hx hb hts hown hE hP fl_X8_124 0 rfl rfl dX8_add_56 ?_
            refine vEq (v := nI n) hz1 ?_
            refine lv_iload_n (pc := 59) hx hb dX8_add_59 rfl (lv_at hl 1 rfl) ?_
            refine astN (pc := 60) (f := r 2) hx hb hE hP hD hS 1 rfl (n) (by omega) (by omega) dX8_add_60 (fun H locs hP hD hS => ?_)
            have hP : va_P D vwCl (wR kB kI o a z g (va_up r 2 (upd (r 2) n kind))) H := hP
            have hD : va_D A (wR kB kI o a z g (va_up r 2 (upd (r 2) n kind))) := hD
            refine lv_aload_n (pc := 61) hx hb dX8_add_61 rfl (lv_at hl 0 rfl) ?_
            refine fget (pc := 62) (v := .ref (a 3)) hx hb hts hown hE hP fl_X8_13 0 rfl rfl dX8_add_62 ?_
            refine lv_aload_n (pc := 65) hx hb dX8_add_65 rfl (lv_at hl 0 rfl) ?_
            refine fget (pc := 66) (v := .int (z 1)) hx hb hts hown hE hP fl_X8_124 0 rfl rfl dX8_add_66 ?_
            refine vEq (v := nI n) hz1 ?_
            refine lv_iload_n (pc := 69) hx hb dX8_add_69 rfl (lv_at hl 2 rfl) ?_
            refine astN (pc := 70) (f := r 3) hx hb hE hP hD hS 2 rfl (n) (by omega) (by omega) dX8_add_70 (fun H locs hP hD hS => ?_)
            have hP : va_P D vwCl (wR kB kI o a z g (va_up (va_up r 2 (upd (r 2) n kind)) 3 (upd (r 3) n set))) H := hP
            have hD : va_D A (wR kB kI o a z g (va_up (va_up r 2 (upd (r 2) n kind)) 3 (upd (r 3) n set))) := hD
            refine lv_aload_n (pc := 71) hx hb dX8_add_71 rfl (lv_at hl 0 rfl) ?_
            refine fget (pc := 72) (v := .ref (a 4)) hx hb hts hown hE hP fl_X8_16 0 rfl rfl dX8_add_72 ?_
            refine lv_aload_n (pc := 75) hx hb dX8_add_75 rfl (lv_at hl 0 rfl) ?_
            refine fget (pc := 76) (v := .int (z 1)) hx hb hts hown hE hP fl_X8_124 0 rfl rfl dX8_add_76 ?_
            refine vEq (v := nI n) hz1 ?_
            refine lv_iload_n (pc := 79) hx hb dX8_add_79 rfl (lv_at hl 3 rfl) ?_
            refine astN (pc := 80) (f := r 4) hx hb hE hP hD hS 3 rfl (n) (by omega) (by omega) dX8_add_80 (fun H locs hP hD hS => ?_)
            have hP : va_P D vwCl (wR kB kI o a z g (va_up (va_up (va_up r 2 (upd (r 2) n kind)) 3 (upd (r 3) n set)) 4 (upd (r 4) n cast))) H := hP
            have hD : va_D A (wR kB kI o a z g (va_up (va_up (va_up r 2 (upd (r 2) n kind)) 3 (upd (r 3) n set)) 4 (upd (r 4) n cast))) := hD
            refine lv_aload_n (pc := 81) hx hb dX8_add_81 rfl (lv_at hl 0 rfl) ?_
            refine fget (pc := 82) (v := .ref (a 5)) hx hb hts hown hE hP fl_X8_19 0 rfl rfl dX8_add_82 ?_
            refine lv_aload_n (pc := 85) hx hb dX8_add_85 rfl (lv_at hl 0 rfl) ?_
            refine fget (pc := 86) (v := .int (z 1)) hx hb hts hown hE hP fl_X8_124 0 rfl rfl dX8_add_86 ?_
            refine vEq (v := nI n) hz1 ?_
            refine lv_iconst (pc := 89) (v := 0) hx hb dX8_add_89 (by decide) ?_
            refine astN (pc := 90) (f := r 5) hx hb hE hP hD hS 4 rfl (n) (by omega) (by omega) dX8_add_90 (fun H locs hP hD hS => ?_)
            have hP : va_P D vwCl (wR kB kI o a z g (va_up (va_up (va_up (va_up r 2 (upd (r 2) n kind)) 3 (upd (r 3) n set)) 4 (upd (r 4) n cast)) 5 (upd (r 5) n 0))) H := hP
            have hD : va_D A (wR kB kI o a z g (va_up (va_up (va_up (va_up r 2 (upd (r 2) n kind)) 3 (upd (r 3) n set)) 4 (upd (r 4) n cast)) 5 (upd (r 5) n 0))) := hD
            refine lv_aload_n (pc := 91) hx hb dX8_add_91 rfl (lv_at hl 0 rfl) ?_
            refine fget (pc := 92) (v := .ref (a 6)) hx hb hts hown hE hP fl_X8_22 0 rfl rfl dX8_add_92 ?_
            refine lv_aload_n (pc := 95) hx hb dX8_add_95 rfl (lv_at hl 0 rfl) ?_
            refine fget (pc := 96) (v := .int (z 1)) hx hb hts hown hE hP fl_X8_124 0 rfl rfl dX8_add_96 ?_
            refine vEq (v := nI n) hz1 ?_
            refine lv_bipush (pc := 99) (v := 11) hx hb dX8_add_99 (by decide) ?_
            refine astN (pc := 101) (f := r 6) hx hb hE hP hD hS 5 rfl (n) (by omega) (by omega) dX8_add_101 (fun H locs hP hD hS => ?_)
            have hP : va_P D vwCl (wR kB kI o a z g (va_up (va_up (va_up (va_up (va_up r 2 (upd (r 2) n kind)) 3 (upd (r 3) n set)) 4 (upd (r 4) n cast)) 5 (upd (r 5) n 0)) 6 (upd (r 6) n 11))) H := hP
            have hD : va_D A (wR kB kI o a z g (va_up (va_up (va_up (va_up (va_up r 2 (upd (r 2) n kind)) 3 (upd (r 3) n set)) 4 (upd (r 4) n cast)) 5 (upd (r 5) n 0)) 6 (upd (r 6) n 11))) := hD
            refine lv_aload_n (pc := 102) hx hb dX8_add_102 rfl (lv_at hl 0 rfl) ?_
            refine fget (pc := 103) (v := .ref (a 7)) hx hb hts hown hE hP fl_X8_25 0 rfl rfl dX8_add_103 ?_
            refine lv_aload_n (pc := 106) hx hb dX8_add_106 rfl (lv_at hl 0 rfl) ?_
            refine fget (pc := 107) (v := .int (z 1)) hx hb hts hown hE hP fl_X8_124 0 rfl rfl dX8_add_107 ?_
            refine vEq (v := nI n) hz1 ?_
            refine lv_iconst (pc := 110) (v := 5) hx hb dX8_add_110 (by decide) ?_
            refine astN (pc := 111) (f := r 7) hx hb hE hP hD hS 6 rfl (n) (by omega) (by omega) dX8_add_111 (fun H locs hP hD hS => ?_)
            have hP : va_P D vwCl (wR kB kI o a z g (va_up (va_up (va_up (va_up (va_up (va_up r 2 (upd (r 2) n kind)) 3 (upd (r 3) n set)) 4 (upd (r 4) n cast)) 5 (upd (r 5) n 0)) 6 (upd (r 6) n 11)) 7 (upd (r 7) n 5))) H := hP
            have hD : va_D A (wR kB kI o a z g (va_up (va_up (va_up (va_up (va_up (va_up r 2 (upd (r 2) n kind)) 3 (upd (r 3) n set)) 4 (upd (r 4) n cast)) 5 (upd (r 5) n 0)) 6 (upd (r 6) n 11)) 7 (upd (r 7) n 5))) := hD
            refine lv_aload_n (pc := 112) hx hb dX8_add_112 rfl (lv_at hl 0 rfl) ?_
            refine lv_dup (pc := 113) hx hb dX8_add_113 rfl ?_
            refine fget (pc := 114) (v := .int (z 1)) hx hb hts hown hE hP fl_X8_124 0 rfl rfl dX8_add_114 ?_
            refine vEq (v := nI n) hz1 ?_
            refine lv_iconst (pc := 117) (v := 1) hx hb dX8_add_117 (by decide) ?_
            refine iaddV (pc := 118) (v := nI (n + 1)) hx hb dX8_add_118 (nI_add (n) (1)) ?_
            refine fput (pc := 119) (v := .int (nI (n + 1))) hx hb hts hown hE hP hD hS fp_X8_124 0 rfl rfl rfl (Nat.le_of_ble_eq_true rfl) dX8_add_119 (fun H locs hP hD hS => ?_)
            have hP : va_P D vwCl (wR kB kI o a (va_up z 1 (nI (n + 1))) g (va_up (va_up (va_up (va_up (va_up (va_up r 2 (upd (r 2) n kind)) 3 (upd (r 3) n set)) 4 (upd (r 4) n cast)) 5 (upd (r 5) n 0)) 6 (upd (r 6) n 11)) 7 (upd (r 7) n 5))) H := hP
            have hD : va_D A (wR kB kI o a (va_up z 1 (nI (n + 1))) g (va_up (va_up (va_up (va_up (va_up (va_up r 2 (upd (r 2) n kind)) 3 (upd (r 3) n set)) 4 (upd (r 4) n cast)) 5 (upd (r 5) n 0)) 6 (upd (r 6) n 11)) 7 (upd (r 7) n 5))) := hD
            refine lv_aload_n (pc := 122) hx hb dX8_add_122 rfl (lv_at hl 0 rfl) ?_
            refine fget (pc := 123) (v := .int (nI (n + 1))) hx hb hts hown hE hP fl_X8_124 0 rfl rfl dX8_add_123 ?_
            refine lv_iconst (pc := 126) (v := 1) hx hb dX8_add_126 (by decide) ?_
            refine isubV (pc := 127) (v := nI n) hx hb dX8_add_127 (nI_pred n) ?_
            have hfn : R_add z g r n kind set cast = (nI n, (va_up z 1 (nI (n + 1))), g, (va_up (va_up (va_up (va_up (va_up (va_up r 2 (upd (r 2) n kind)) 3 (upd (r 3) n set)) 4 (upd (r 4) n cast)) 5 (upd (r 5) n 0)) 6 (upd (r 6) n 11)) 7 (upd (r 7) n 5))) := by rw [R_add, if_pos ⟨c_1, c_2, c_3⟩, if_neg c_4n, if_neg c_5n]
            rw [hQ]; exact W.iret (pc := 128) hx hb hr (fun t9 ht _ => ⟨⟨retI (by rw [hfn]), by rw [ht, hfn]; exact (show va_P D vwCl (wR kB kI o a (va_up z 1 (nI (n + 1))) g (va_up (va_up (va_up (va_up (va_up (va_up r 2 (upd (r 2) n kind)) 3 (upd (r 3) n set)) 4 (upd (r 4) n cast)) 5 (upd (r 5) n 0)) 6 (upd (r 6) n 11)) 7 (upd (r 7) n 5))) _ from hP)⟩, hS.F ht⟩) hS.2.2 dX8_add_128 hlocks
          · skip
            have c_5n : n = 5 := (nI_eq (a := n) (b := 5) (by omega) (by omega)).mp c_5
            refine lv_bipush (pc := 48) (v := (-104)) hx hb dX8_add_48 (by decide) ?_
            have hfn : R_add z g r n kind set cast = ((-104), z, g, r) := by rw [R_add, if_pos ⟨c_1, c_2, c_3⟩, if_neg c_4n, if_pos c_5n]
            rw [hQ]; exact W.iret (pc := 50) hx hb hr (fun t9 ht _ => ⟨⟨retI (by rw [hfn]), by rw [ht, hfn]; exact (show va_P D vwCl (wR kB kI o a z g r) _ from hP)⟩, hS.F ht⟩) hS.2.2 dX8_add_50 hlocks
        · skip
          have c_4n : n = 0 := (nI_eq (a := n) (b := 0) (by omega) (by omega)).mp c_4
          refine lv_bipush (pc := 37) (v := (-103)) hx hb dX8_add_37 (by decide) ?_
          have hfn : R_add z g r n kind set cast = ((-103), z, g, r) := by rw [R_add, if_pos ⟨c_1, c_2, c_3⟩, if_pos c_4n]
          rw [hQ]; exact W.iret (pc := 39) hx hb hr (fun t9 ht _ => ⟨⟨retI (by rw [hfn]), by rw [ht, hfn]; exact (show va_P D vwCl (wR kB kI o a z g r) _ from hP)⟩, hS.F ht⟩) hS.2.2 dX8_add_39 hlocks
      · skip
        refine lv_bipush (pc := 27) (v := (-102)) hx hb dX8_add_27 (by decide) ?_
        have hfn : R_add z g r n kind set cast = ((-102), z, g, r) := by rw [R_add, if_neg (fun q => c_3 q.2.2)]
        rw [hQ]; exact W.iret (pc := 29) hx hb hr (fun t9 ht _ => ⟨⟨retI (by rw [hfn]), by rw [ht, hfn]; exact (show va_P D vwCl (wR kB kI o a z g r) _ from hP)⟩, hS.F ht⟩) hS.2.2 dX8_add_29 hlocks
set_option maxRecDepth 100000 in
set_option maxHeartbeats 4000000 in
theorem k_X8_rights {o : Nat} {a : Nat → Nat} {z : Nat → Int32} {g : Nat → Int64} {r : Nat → Nat → Int32} (t : Int32) (fi : Int32) (la : Int32) {n : Nat} (hok : okP n (r 8)) (hn5 : n ≤ 5) (hz1 : z 1 = nI n) : MW l yX8_rights cX8_rights 4 (some .int) 7 153 D kB kI kT ks sk sv [.ref o, .int t, .int fi, .int la] (wR kB kI o a z g r) (some (.int ((R_rights z g r t fi la).1))) (wR kB kI o a (R_rights z g r t fi la).2.1 (R_rights z g r t fi la).2.2.1 (R_rights z g r t fi la).2.2.2) := by
  refine MW.go (by decide +kernel) (Nat.le_of_ble_eq_true rfl) ?_
  intro p e s m below meth c0 args Q ls A hQ hx hb hr hml hown hts hlocks hE hP hD hS hl
  have hl : lv_has ls 4 [(0, .ref o), (1, .int t), (2, .int fi), (3, .int la)] := hl
  have hown : s.vm.findClass RX8 = some m.cls := hown
  refine lv_aload_n (pc := 0) hx hb dX8_rights_0 rfl (lv_at hl 0 rfl) ?_
  refine lv_iload_n (pc := 1) hx hb dX8_rights_1 rfl (lv_at hl 1 rfl) ?_
  refine rV (pc := 2) (rest := []) ⟨hx, hb, hml, hown, hts⟩ (k_X8_isTitle (t := t) (z := z) (g := g) (r := r)) cw_X8_133 ⟨(Nat.le_of_ble_eq_true rfl), (Nat.le_of_ble_eq_true rfl)⟩ hE hS hP rfl rfl rfl rfl hl.1 rfl (Nat.le_of_ble_eq_true rfl) dX8_rights_2 ⟨Nat.le_refl _, Nat.le_refl _⟩ ?_
  refine W.eq (g2 := F0 m 5 ls [.int (bi (inR t 0 ((z 1) - 1)))]) rfl ?_
  refine bif_ne (pc := 5) (tgt := 11) hx hb dX8_rights_5 (by decide) (fun c_1 => ?_) (fun c_1 => ?_)
  · skip
    obtain ⟨k, hk, hkt⟩ := isT_nat hz1 hn5 c_1
    refine lv_iload_n (pc := 11) hx hb dX8_rights_11 rfl (lv_at hl 2 rfl) ?_
    refine rS (pc := 12) (rest := []) ⟨hx, hb, hml, hown, hts⟩ (k_X8_isNight (n := fi)) cw_X8_140 ⟨(Nat.le_of_ble_eq_true rfl), (Nat.le_of_ble_eq_true rfl)⟩ hE hS wc0 rfl hl.1 rfl (Nat.le_of_ble_eq_true rfl) dX8_rights_12 ⟨Nat.le_refl _, Nat.le_refl _⟩ ?_
    refine W.eq (g2 := F0 m 15 ls [.int (bi (inR fi 0 11))]) rfl ?_
    refine bif_eq (pc := 15) (tgt := 28) hx hb dX8_rights_15 (by decide) (fun c_2 => ?_) (fun c_2 => ?_)
    · skip
      refine lv_bipush (pc := 28) (v := (-102)) hx hb dX8_rights_28 (by decide) ?_
      have hfn : R_rights z g r t fi la = ((-102), z, g, r) := by rw [R_rights, if_pos c_1, if_neg (fun q => c_2 q.1)]
      rw [hQ]; exact W.iret (pc := 30) hx hb hr (fun t9 ht _ => ⟨⟨retI (by rw [hfn]), by rw [ht, hfn]; exact (show va_P D vwCl (wR kB kI o a z g r) _ from hP)⟩, hS.F ht⟩) hS.2.2 dX8_rights_30 hlocks
    · skip
      refine lv_iload_n (pc := 18) hx hb dX8_rights_18 rfl (lv_at hl 3 rfl) ?_
      refine lv_iload_n (pc := 19) hx hb dX8_rights_19 rfl (lv_at hl 2 rfl) ?_
      refine lv_bipush (pc := 20) (v := 11) hx hb dX8_rights_20 (by decide) ?_
      refine rS (pc := 22) (rest := []) ⟨hx, hb, hml, hown, hts⟩ (k_X8_within (v := la) (lo := fi) (hi := 11)) cw_X8_86 ⟨(Nat.le_of_ble_eq_true rfl), (Nat.le_of_ble_eq_true rfl)⟩ hE hS wc0 rfl hl.1 rfl (Nat.le_of_ble_eq_true rfl) dX8_rights_22 ⟨Nat.le_refl _, Nat.le_refl _⟩ ?_
      refine W.eq (g2 := F0 m 25 ls [.int (bi (inR la fi 11))]) rfl ?_
      refine bif_ne (pc := 25) (tgt := 31) hx hb dX8_rights_25 (by decide) (fun c_3 => ?_) (fun c_3 => ?_)
      · skip
        refine lv_aload_n (pc := 31) hx hb dX8_rights_31 rfl (lv_at hl 0 rfl) ?_
        refine fget (pc := 32) (v := .ref (a 5)) hx hb hts hown hE hP fl_X8_19 0 rfl rfl dX8_rights_32 ?_
        refine lv_iload_n (pc := 35) hx hb dX8_rights_35 rfl (lv_at hl 1 rfl) ?_
        refine vEq (v := nI k) hkt ?_
        refine lv_iload_n (pc := 36) hx hb dX8_rights_36 rfl (lv_at hl 2 rfl) ?_
        refine astN (pc := 37) (f := r 5) hx hb hE hP hD hS 4 rfl (k) (by omega) (by omega) dX8_rights_37 (fun H locs hP hD hS => ?_)
        have hP : va_P D vwCl (wR kB kI o a z g (va_up r 5 (upd (r 5) k fi))) H := hP
        have hD : va_D A (wR kB kI o a z g (va_up r 5 (upd (r 5) k fi))) := hD
        refine lv_aload_n (pc := 38) hx hb dX8_rights_38 rfl (lv_at hl 0 rfl) ?_
        refine fget (pc := 39) (v := .ref (a 6)) hx hb hts hown hE hP fl_X8_22 0 rfl rfl dX8_rights_39 ?_
        refine lv_iload_n (pc := 42) hx hb dX8_rights_42 rfl (lv_at hl 1 rfl) ?_
        refine vEq (v := nI k) hkt ?_
        refine lv_iload_n (pc := 43) hx hb dX8_rights_43 rfl (lv_at hl 3 rfl) ?_
        refine astN (pc := 44) (f := r 6) hx hb hE hP hD hS 5 rfl (k) (by omega) (by omega) dX8_rights_44 (fun H locs hP hD hS => ?_)
        have hP : va_P D vwCl (wR kB kI o a z g (va_up (va_up r 5 (upd (r 5) k fi)) 6 (upd (r 6) k la))) H := hP
        have hD : va_D A (wR kB kI o a z g (va_up (va_up r 5 (upd (r 5) k fi)) 6 (upd (r 6) k la))) := hD
        refine lv_aload_n (pc := 45) hx hb dX8_rights_45 rfl (lv_at hl 0 rfl) ?_
        refine rV (pc := 46) (rest := []) ⟨hx, hb, hml, hown, hts⟩ (k_X8_breaks (z := z) (g := g) (r := (va_up (va_up r 5 (upd (r 5) k fi)) 6 (upd (r 6) k la))) (hok := hok) (hn5 := hn5)) cw_X8_166 ⟨(Nat.le_of_ble_eq_true rfl), (Nat.le_of_ble_eq_true rfl)⟩ hE hS hP rfl rfl rfl rfl hl.1 rfl (Nat.le_of_ble_eq_true rfl) dX8_rights_46 ⟨Nat.le_refl _, Nat.le_refl _⟩ ?_
        refine W.eq (g2 := F0 m 49 ls [.int (nI (cntP (fun j => 0 < brk ((r 2)) ((r 3)) ((r 4)) ((upd (r 5) k fi)) ((upd (r 6) k la)) ((r 8)) j) 12))]) rfl ?_
        have hfn : R_rights z g r t fi la = (nI (cntP (fun j => 0 < brk ((r 2)) ((r 3)) ((r 4)) ((upd (r 5) k fi)) ((upd (r 6) k la)) ((r 8)) j) 12), z, g, (va_up (va_up r 5 (upd (r 5) k fi)) 6 (upd (r 6) k la))) := by rw [R_rights, if_pos c_1, if_pos ⟨c_2, c_3⟩, hkt, ix_nI (by omega)]; rfl
        rw [hQ]; exact W.iret (pc := 49) hx hb hr (fun t9 ht _ => ⟨⟨retI (by rw [hfn]), by rw [ht, hfn]; exact (show va_P D vwCl (wR kB kI o a z g (va_up (va_up r 5 (upd (r 5) k fi)) 6 (upd (r 6) k la))) _ from hP)⟩, hS.F ht⟩) hS.2.2 dX8_rights_49 hlocks
      · skip
        refine lv_bipush (pc := 28) (v := (-102)) hx hb dX8_rights_28 (by decide) ?_
        have hfn : R_rights z g r t fi la = ((-102), z, g, r) := by rw [R_rights, if_pos c_1, if_neg (fun q => c_3 q.2)]
        rw [hQ]; exact W.iret (pc := 30) hx hb hr (fun t9 ht _ => ⟨⟨retI (by rw [hfn]), by rw [ht, hfn]; exact (show va_P D vwCl (wR kB kI o a z g r) _ from hP)⟩, hS.F ht⟩) hS.2.2 dX8_rights_30 hlocks
  · skip
    refine lv_bipush (pc := 8) (v := (-101)) hx hb dX8_rights_8 (by decide) ?_
    have hfn : R_rights z g r t fi la = ((-101), z, g, r) := by rw [R_rights, if_neg c_1]
    rw [hQ]; exact W.iret (pc := 10) hx hb hr (fun t9 ht _ => ⟨⟨retI (by rw [hfn]), by rw [ht, hfn]; exact (show va_P D vwCl (wR kB kI o a z g r) _ from hP)⟩, hS.F ht⟩) hS.2.2 dX8_rights_10 hlocks
set_option maxRecDepth 100000 in
set_option maxHeartbeats 4000000 in
theorem k_X8_be {o : Nat} {a : Nat → Nat} {z : Nat → Int32} {g : Nat → Int64} {r : Nat → Nat → Int32} (t : Int32) (kind : Int32) {n : Nat} (hz1 : z 1 = nI n) (hn5 : n ≤ 5) : MW l yX8_be cX8_be 4 (some .int) 2 43 D kB kI kT ks sk sv [.ref o, .int t, .int kind] (wR kB kI o a z g r) (some (.int ((R_be z g r t kind).1))) (wR kB kI o a (R_be z g r t kind).2.1 (R_be z g r t kind).2.2.1 (R_be z g r t kind).2.2.2) := by
  refine MW.go (by decide +kernel) (Nat.le_of_ble_eq_true rfl) ?_
  intro p e s m below meth c0 args Q ls A hQ hx hb hr hml hown hts hlocks hE hP hD hS hl
  have hl : lv_has ls 4 [(0, .ref o), (1, .int t), (2, .int kind)] := hl
  have hown : s.vm.findClass RX8 = some m.cls := hown
  refine lv_aload_n (pc := 0) hx hb dX8_be_0 rfl (lv_at hl 0 rfl) ?_
  refine lv_iload_n (pc := 1) hx hb dX8_be_1 rfl (lv_at hl 1 rfl) ?_
  refine rV (pc := 2) (rest := []) ⟨hx, hb, hml, hown, hts⟩ (k_X8_isTitle (t := t) (z := z) (g := g) (r := r)) cw_X8_133 ⟨(Nat.le_of_ble_eq_true rfl), (Nat.le_of_ble_eq_true rfl)⟩ hE hS hP rfl rfl rfl rfl hl.1 rfl (Nat.le_of_ble_eq_true rfl) dX8_be_2 ⟨Nat.le_refl _, Nat.le_refl _⟩ ?_
  refine W.eq (g2 := F0 m 5 ls [.int (bi (inR t 0 ((z 1) - 1)))]) rfl ?_
  refine bif_ne (pc := 5) (tgt := 11) hx hb dX8_be_5 (by decide) (fun c_1 => ?_) (fun c_1 => ?_)
  · skip
    obtain ⟨k, hk, hkt⟩ := isT_nat hz1 hn5 c_1
    refine lv_iload_n (pc := 11) hx hb dX8_be_11 rfl (lv_at hl 2 rfl) ?_
    refine lv_iconst (pc := 12) (v := 0) hx hb dX8_be_12 (by decide) ?_
    refine lv_iconst (pc := 13) (v := 4) hx hb dX8_be_13 (by decide) ?_
    refine rS (pc := 14) (rest := []) ⟨hx, hb, hml, hown, hts⟩ (k_X8_within (v := kind) (lo := 0) (hi := 4)) cw_X8_86 ⟨(Nat.le_of_ble_eq_true rfl), (Nat.le_of_ble_eq_true rfl)⟩ hE hS wc0 rfl hl.1 rfl (Nat.le_of_ble_eq_true rfl) dX8_be_14 ⟨Nat.le_refl _, Nat.le_refl _⟩ ?_
    refine W.eq (g2 := F0 m 17 ls [.int (bi (inR kind 0 4))]) rfl ?_
    refine bif_ne (pc := 17) (tgt := 23) hx hb dX8_be_17 (by decide) (fun c_2 => ?_) (fun c_2 => ?_)
    · skip
      refine lv_aload_n (pc := 23) hx hb dX8_be_23 rfl (lv_at hl 0 rfl) ?_
      refine fget (pc := 24) (v := .ref (a 2)) hx hb hts hown hE hP fl_X8_7 0 rfl rfl dX8_be_24 ?_
      refine lv_iload_n (pc := 27) hx hb dX8_be_27 rfl (lv_at hl 1 rfl) ?_
      refine vEq (v := nI k) hkt ?_
      refine aldN (pc := 28) (f := r 2) hx hb hE hP 1 rfl (k) (by omega) (by omega) dX8_be_28 ?_
      refine lv_istore_n (pc := 29) (lv' := [(3, .int ((r 2) k)), (0, .ref o), (1, .int t), (2, .int kind)]) hx hb dX8_be_29 rfl hl (by decide) rfl (fun ls hl => ?_)
      refine lv_aload_n (pc := 30) hx hb dX8_be_30 rfl (lv_at hl 1 rfl) ?_
      refine fget (pc := 31) (v := .ref (a 2)) hx hb hts hown hE hP fl_X8_7 0 rfl rfl dX8_be_31 ?_
      refine lv_iload_n (pc := 34) hx hb dX8_be_34 rfl (lv_at hl 2 rfl) ?_
      refine vEq (v := nI k) hkt ?_
      refine lv_iload_n (pc := 35) hx hb dX8_be_35 rfl (lv_at hl 3 rfl) ?_
      refine astN (pc := 36) (f := r 2) hx hb hE hP hD hS 1 rfl (k) (by omega) (by omega) dX8_be_36 (fun H locs hP hD hS => ?_)
      have hP : va_P D vwCl (wR kB kI o a z g (va_up r 2 (upd (r 2) k kind))) H := hP
      have hD : va_D A (wR kB kI o a z g (va_up r 2 (upd (r 2) k kind))) := hD
      refine lv_iload_n (pc := 37) hx hb dX8_be_37 rfl (lv_at hl 0 rfl) ?_
      have hfn : R_be z g r t kind = ((r 2) k, z, g, (va_up r 2 (upd (r 2) k kind))) := by rw [R_be, if_pos c_1, if_pos c_2, hkt, ix_nI (by omega)]
      rw [hQ]; exact W.iret (pc := 38) hx hb hr (fun t9 ht _ => ⟨⟨retI (by rw [hfn]), by rw [ht, hfn]; exact (show va_P D vwCl (wR kB kI o a z g (va_up r 2 (upd (r 2) k kind))) _ from hP)⟩, hS.F ht⟩) hS.2.2 dX8_be_38 hlocks
    · skip
      refine lv_bipush (pc := 20) (v := (-102)) hx hb dX8_be_20 (by decide) ?_
      have hfn : R_be z g r t kind = ((-102), z, g, r) := by rw [R_be, if_pos c_1, if_neg c_2]
      rw [hQ]; exact W.iret (pc := 22) hx hb hr (fun t9 ht _ => ⟨⟨retI (by rw [hfn]), by rw [ht, hfn]; exact (show va_P D vwCl (wR kB kI o a z g r) _ from hP)⟩, hS.F ht⟩) hS.2.2 dX8_be_22 hlocks
  · skip
    refine lv_bipush (pc := 8) (v := (-101)) hx hb dX8_be_8 (by decide) ?_
    have hfn : R_be z g r t kind = ((-101), z, g, r) := by rw [R_be, if_neg c_1]
    rw [hQ]; exact W.iret (pc := 10) hx hb hr (fun t9 ht _ => ⟨⟨retI (by rw [hfn]), by rw [ht, hfn]; exact (show va_P D vwCl (wR kB kI o a z g r) _ from hP)⟩, hS.F ht⟩) hS.2.2 dX8_be_10 hlocks
set_option maxRecDepth 100000 in
set_option maxHeartbeats 4000000 in
theorem k_X8_see {o : Nat} {a : Nat → Nat} {z : Nat → Int32} {g : Nat → Int64} {r : Nat → Nat → Int32} (t : Int32) (what : Int32) (could : Int32) {n : Nat} {sn : Nat} (hz1 : z 1 = nI n) (hn5 : n ≤ 5) (hz10 : z 10 = nI sn) (hsn : sn ≤ 6) : MW l yX8_see cX8_see 4 (some .int) 2 43 D kB kI kT ks sk sv [.ref o, .int t, .int what, .int could] (wR kB kI o a z g r) (some (.int ((R_see z g r sn t what could).1))) (wR kB kI o a (R_see z g r sn t what could).2.1 (R_see z g r sn t what could).2.2.1 (R_see z g r sn t what could).2.2.2) := by
  refine MW.go (by decide +kernel) (Nat.le_of_ble_eq_true rfl) ?_
  intro p e s m below meth c0 args Q ls A hQ hx hb hr hml hown hts hlocks hE hP hD hS hl
  have hl : lv_has ls 4 [(0, .ref o), (1, .int t), (2, .int what), (3, .int could)] := hl
  have hown : s.vm.findClass RX8 = some m.cls := hown
  refine lv_aload_n (pc := 0) hx hb dX8_see_0 rfl (lv_at hl 0 rfl) ?_
  refine lv_iload_n (pc := 1) hx hb dX8_see_1 rfl (lv_at hl 1 rfl) ?_
  refine rV (pc := 2) (rest := []) ⟨hx, hb, hml, hown, hts⟩ (k_X8_isTitle (t := t) (z := z) (g := g) (r := r)) cw_X8_133 ⟨(Nat.le_of_ble_eq_true rfl), (Nat.le_of_ble_eq_true rfl)⟩ hE hS hP rfl rfl rfl rfl hl.1 rfl (Nat.le_of_ble_eq_true rfl) dX8_see_2 ⟨Nat.le_refl _, Nat.le_refl _⟩ ?_
  refine W.eq (g2 := F0 m 5 ls [.int (bi (inR t 0 ((z 1) - 1)))]) rfl ?_
  refine bif_ne (pc := 5) (tgt := 11) hx hb dX8_see_5 (by decide) (fun c_1 => ?_) (fun c_1 => ?_)
  · skip
    obtain ⟨k, hk, hkt⟩ := isT_nat hz1 hn5 c_1
    refine lv_iload_n (pc := 11) hx hb dX8_see_11 rfl (lv_at hl 2 rfl) ?_
    refine lv_iconst (pc := 12) (v := 0) hx hb dX8_see_12 (by decide) ?_
    refine lv_iconst (pc := 13) (v := 3) hx hb dX8_see_13 (by decide) ?_
    refine rS (pc := 14) (rest := []) ⟨hx, hb, hml, hown, hts⟩ (k_X8_within (v := what) (lo := 0) (hi := 3)) cw_X8_86 ⟨(Nat.le_of_ble_eq_true rfl), (Nat.le_of_ble_eq_true rfl)⟩ hE hS wc0 rfl hl.1 rfl (Nat.le_of_ble_eq_true rfl) dX8_see_14 ⟨Nat.le_refl _, Nat.le_refl _⟩ ?_
    refine W.eq (g2 := F0 m 17 ls [.int (bi (inR what 0 3))]) rfl ?_
    refine bif_ne (pc := 17) (tgt := 23) hx hb dX8_see_17 (by decide) (fun c_2 => ?_) (fun c_2 => ?_)
    · skip
      refine lv_aload_n (pc := 23) hx hb dX8_see_23 rfl (lv_at hl 0 rfl) ?_
      refine fget (pc := 24) (v := .int (z 10)) hx hb hts hown hE hP fl_X8_130 0 rfl rfl dX8_see_24 ?_
      refine vEq (v := nI sn) hz10 ?_
      refine lv_bipush (pc := 27) (v := 6) hx hb dX8_see_27 (by decide) ?_
      refine lv_icmp_ne (pc := 29) (tgt := 35) hx hb dX8_see_29 (by decide) (fun c_3 => ?_) (fun c_3 => ?_)
      · skip
        have c_3n : ¬ sn = 6 := fun hh => c_3 ((nI_eq (a := sn) (b := 6) (by omega) (by omega)).mpr hh)
        refine lv_aload_n (pc := 35) hx hb dX8_see_35 rfl (lv_at hl 0 rfl) ?_
        refine fget (pc := 36) (v := .ref (a 11)) hx hb hts hown hE hP fl_X8_31 0 rfl rfl dX8_see_36 ?_
        refine lv_aload_n (pc := 39) hx hb dX8_see_39 rfl (lv_at hl 0 rfl) ?_
        refine fget (pc := 40) (v := .int (z 10)) hx hb hts hown hE hP fl_X8_130 0 rfl rfl dX8_see_40 ?_
        refine vEq (v := nI sn) hz10 ?_
        refine lv_iload_n (pc := 43) hx hb dX8_see_43 rfl (lv_at hl 1 rfl) ?_
        refine vEq (v := nI k) hkt ?_
        refine astN (pc := 44) (f := r 11) hx hb hE hP hD hS 8 rfl (sn) (by omega) (by omega) dX8_see_44 (fun H locs hP hD hS => ?_)
        have hP : va_P D vwCl (wR kB kI o a z g (va_up r 11 (upd (r 11) sn (nI k)))) H := hP
        have hD : va_D A (wR kB kI o a z g (va_up r 11 (upd (r 11) sn (nI k)))) := hD
        refine lv_aload_n (pc := 45) hx hb dX8_see_45 rfl (lv_at hl 0 rfl) ?_
        refine fget (pc := 46) (v := .ref (a 12)) hx hb hts hown hE hP fl_X8_34 0 rfl rfl dX8_see_46 ?_
        refine lv_aload_n (pc := 49) hx hb dX8_see_49 rfl (lv_at hl 0 rfl) ?_
        refine fget (pc := 50) (v := .int (z 10)) hx hb hts hown hE hP fl_X8_130 0 rfl rfl dX8_see_50 ?_
        refine vEq (v := nI sn) hz10 ?_
        refine lv_iload_n (pc := 53) hx hb dX8_see_53 rfl (lv_at hl 2 rfl) ?_
        refine astN (pc := 54) (f := r 12) hx hb hE hP hD hS 9 rfl (sn) (by omega) (by omega) dX8_see_54 (fun H locs hP hD hS => ?_)
        have hP : va_P D vwCl (wR kB kI o a z g (va_up (va_up r 11 (upd (r 11) sn (nI k))) 12 (upd (r 12) sn what))) H := hP
        have hD : va_D A (wR kB kI o a z g (va_up (va_up r 11 (upd (r 11) sn (nI k))) 12 (upd (r 12) sn what))) := hD
        refine lv_aload_n (pc := 55) hx hb dX8_see_55 rfl (lv_at hl 0 rfl) ?_
        refine fget (pc := 56) (v := .ref (a 13)) hx hb hts hown hE hP fl_X8_37 0 rfl rfl dX8_see_56 ?_
        refine lv_aload_n (pc := 59) hx hb dX8_see_59 rfl (lv_at hl 0 rfl) ?_
        refine fget (pc := 60) (v := .int (z 10)) hx hb hts hown hE hP fl_X8_130 0 rfl rfl dX8_see_60 ?_
        refine vEq (v := nI sn) hz10 ?_
        refine lv_iload_n (pc := 63) hx hb dX8_see_63 rfl (lv_at hl 3 rfl) ?_
        refine lv_if_eq (pc := 64) (tgt := 71) hx hb dX8_see_64 (by decide) (fun c_4 => ?_) (fun c_4 => ?_)
        · skip
          refine lv_iconst (pc := 71) (v := 0) hx hb dX8_see_71 (by decide) ?_
          refine astN (pc := 72) (f := r 13) hx hb hE hP hD hS 10 rfl (sn) (by omega) (by omega) dX8_see_72 (fun H locs hP hD hS => ?_)
          have hP : va_P D vwCl (wR kB kI o a z g (va_up (va_up (va_up r 11 (upd (r 11) sn (nI k))) 12 (upd (r 12) sn what)) 13 (upd (r 13) sn 0))) H := hP
          have hD : va_D A (wR kB kI o a z g (va_up (va_up (va_up r 11 (upd (r 11) sn (nI k))) 12 (upd (r 12) sn what)) 13 (upd (r 13) sn 0))) := hD
          refine lv_aload_n (pc := 73) hx hb dX8_see_73 rfl (lv_at hl 0 rfl) ?_
          refine lv_dup (pc := 74) hx hb dX8_see_74 rfl ?_
          refine fget (pc := 75) (v := .int (z 10)) hx hb hts hown hE hP fl_X8_130 0 rfl rfl dX8_see_75 ?_
          refine vEq (v := nI sn) hz10 ?_
          refine lv_iconst (pc := 78) (v := 1) hx hb dX8_see_78 (by decide) ?_
          refine iaddV (pc := 79) (v := nI (sn + 1)) hx hb dX8_see_79 (nI_add (sn) (1)) ?_
          refine fput (pc := 80) (v := .int (nI (sn + 1))) hx hb hts hown hE hP hD hS fp_X8_130 0 rfl rfl rfl (Nat.le_of_ble_eq_true rfl) dX8_see_80 (fun H locs hP hD hS => ?_)
          have hP : va_P D vwCl (wR kB kI o a (va_up z 10 (nI (sn + 1))) g (va_up (va_up (va_up r 11 (upd (r 11) sn (nI k))) 12 (upd (r 12) sn what)) 13 (upd (r 13) sn 0))) H := hP
          have hD : va_D A (wR kB kI o a (va_up z 10 (nI (sn + 1))) g (va_up (va_up (va_up r 11 (upd (r 11) sn (nI k))) 12 (upd (r 12) sn what)) 13 (upd (r 13) sn 0))) := hD
          refine lv_aload_n (pc := 83) hx hb dX8_see_83 rfl (lv_at hl 0 rfl) ?_
          refine fget (pc := 84) (v := .int (nI (sn + 1))) hx hb hts hown hE hP fl_X8_130 0 rfl rfl dX8_see_84 ?_
          have hfn : R_see z g r sn t what could = (nI (sn + 1), (va_up z 10 (nI (sn + 1))), g, (va_up (va_up (va_up r 11 (upd (r 11) sn (nI k))) 12 (upd (r 12) sn what)) 13 (upd (r 13) sn 0))) := by rw [R_see, if_pos c_1, if_pos c_2, if_neg c_3n, if_pos c_4, ← hkt]
          rw [hQ]; exact W.iret (pc := 87) hx hb hr (fun t9 ht _ => ⟨⟨retI (by rw [hfn]), by rw [ht, hfn]; exact (show va_P D vwCl (wR kB kI o a (va_up z 10 (nI (sn + 1))) g (va_up (va_up (va_up r 11 (upd (r 11) sn (nI k))) 12 (upd (r 12) sn what)) 13 (upd (r 13) sn 0))) _ from hP)⟩, hS.F ht⟩) hS.2.2 dX8_see_87 hlocks
        · skip
          refine lv_iconst (pc := 67) (v := 1) hx hb dX8_see_67 (by decide) ?_
          refine lv_goto (pc := 68) (tgt := 72) hx hb dX8_see_68 (by decide) ?_
          refine astN (pc := 72) (f := r 13) hx hb hE hP hD hS 10 rfl (sn) (by omega) (by omega) dX8_see_72 (fun H locs hP hD hS => ?_)
          have hP : va_P D vwCl (wR kB kI o a z g (va_up (va_up (va_up r 11 (upd (r 11) sn (nI k))) 12 (upd (r 12) sn what)) 13 (upd (r 13) sn 1))) H := hP
          have hD : va_D A (wR kB kI o a z g (va_up (va_up (va_up r 11 (upd (r 11) sn (nI k))) 12 (upd (r 12) sn what)) 13 (upd (r 13) sn 1))) := hD
          refine lv_aload_n (pc := 73) hx hb dX8_see_73 rfl (lv_at hl 0 rfl) ?_
          refine lv_dup (pc := 74) hx hb dX8_see_74 rfl ?_
          refine fget (pc := 75) (v := .int (z 10)) hx hb hts hown hE hP fl_X8_130 0 rfl rfl dX8_see_75 ?_
          refine vEq (v := nI sn) hz10 ?_
          refine lv_iconst (pc := 78) (v := 1) hx hb dX8_see_78 (by decide) ?_
          refine iaddV (pc := 79) (v := nI (sn + 1)) hx hb dX8_see_79 (nI_add (sn) (1)) ?_
          refine fput (pc := 80) (v := .int (nI (sn + 1))) hx hb hts hown hE hP hD hS fp_X8_130 0 rfl rfl rfl (Nat.le_of_ble_eq_true rfl) dX8_see_80 (fun H locs hP hD hS => ?_)
          have hP : va_P D vwCl (wR kB kI o a (va_up z 10 (nI (sn + 1))) g (va_up (va_up (va_up r 11 (upd (r 11) sn (nI k))) 12 (upd (r 12) sn what)) 13 (upd (r 13) sn 1))) H := hP
          have hD : va_D A (wR kB kI o a (va_up z 10 (nI (sn + 1))) g (va_up (va_up (va_up r 11 (upd (r 11) sn (nI k))) 12 (upd (r 12) sn what)) 13 (upd (r 13) sn 1))) := hD
          refine lv_aload_n (pc := 83) hx hb dX8_see_83 rfl (lv_at hl 0 rfl) ?_
          refine fget (pc := 84) (v := .int (nI (sn + 1))) hx hb hts hown hE hP fl_X8_130 0 rfl rfl dX8_see_84 ?_
          have hfn : R_see z g r sn t what could = (nI (sn + 1), (va_up z 10 (nI (sn + 1))), g, (va_up (va_up (va_up r 11 (upd (r 11) sn (nI k))) 12 (upd (r 12) sn what)) 13 (upd (r 13) sn 1))) := by rw [R_see, if_pos c_1, if_pos c_2, if_neg c_3n, if_neg c_4, ← hkt]
          rw [hQ]; exact W.iret (pc := 87) hx hb hr (fun t9 ht _ => ⟨⟨retI (by rw [hfn]), by rw [ht, hfn]; exact (show va_P D vwCl (wR kB kI o a (va_up z 10 (nI (sn + 1))) g (va_up (va_up (va_up r 11 (upd (r 11) sn (nI k))) 12 (upd (r 12) sn what)) 13 (upd (r 13) sn 1))) _ from hP)⟩, hS.F ht⟩) hS.2.2 dX8_see_87 hlocks
      · skip
        have c_3n : sn = 6 := (nI_eq (a := sn) (b := 6) (by omega) (by omega)).mp c_3
        refine lv_bipush (pc := 32) (v := (-104)) hx hb dX8_see_32 (by decide) ?_
        have hfn : R_see z g r sn t what could = ((-104), z, g, r) := by rw [R_see, if_pos c_1, if_pos c_2, if_pos c_3n]
        rw [hQ]; exact W.iret (pc := 34) hx hb hr (fun t9 ht _ => ⟨⟨retI (by rw [hfn]), by rw [ht, hfn]; exact (show va_P D vwCl (wR kB kI o a z g r) _ from hP)⟩, hS.F ht⟩) hS.2.2 dX8_see_34 hlocks
    · skip
      refine lv_bipush (pc := 20) (v := (-102)) hx hb dX8_see_20 (by decide) ?_
      have hfn : R_see z g r sn t what could = ((-102), z, g, r) := by rw [R_see, if_pos c_1, if_neg c_2]
      rw [hQ]; exact W.iret (pc := 22) hx hb hr (fun t9 ht _ => ⟨⟨retI (by rw [hfn]), by rw [ht, hfn]; exact (show va_P D vwCl (wR kB kI o a z g r) _ from hP)⟩, hS.F ht⟩) hS.2.2 dX8_see_22 hlocks
  · skip
    refine lv_bipush (pc := 8) (v := (-101)) hx hb dX8_see_8 (by decide) ?_
    have hfn : R_see z g r sn t what could = ((-101), z, g, r) := by rw [R_see, if_neg c_1]
    rw [hQ]; exact W.iret (pc := 10) hx hb hr (fun t9 ht _ => ⟨⟨retI (by rw [hfn]), by rw [ht, hfn]; exact (show va_P D vwCl (wR kB kI o a z g r) _ from hP)⟩, hS.F ht⟩) hS.2.2 dX8_see_10 hlocks
set_option maxRecDepth 100000 in
set_option maxHeartbeats 4000000 in
theorem k_X8_delay {o : Nat} {a : Nat → Nat} {z : Nat → Int32} {g : Nat → Int64} {r : Nat → Nat → Int32} (b : Int32) {n : Nat} (hz1 : z 1 = nI n) (hn5 : n ≤ 5) : MW l yX8_delay cX8_delay 3 (some .int) 3 63 D kB kI kT ks sk sv [.ref o, .int b] (wR kB kI o a z g r) (some (.int ((R_delay z g r n b).1))) (wR kB kI o a (R_delay z g r n b).2.1 (R_delay z g r n b).2.2.1 (R_delay z g r n b).2.2.2) := by
  refine MW.go (by decide +kernel) (Nat.le_of_ble_eq_true rfl) ?_
  intro p e s m below meth c0 args Q ls A hQ hx hb hr hml hown hts hlocks hE hP hD hS hl
  have hl : lv_has ls 3 [(0, .ref o), (1, .int b)] := hl
  have hown : s.vm.findClass RX8 = some m.cls := hown
  refine lv_iload_n (pc := 0) hx hb dX8_delay_0 rfl (lv_at hl 1 rfl) ?_
  refine lv_iconst (pc := 1) (v := 1) hx hb dX8_delay_1 (by decide) ?_
  refine lv_bipush (pc := 2) (v := 11) hx hb dX8_delay_2 (by decide) ?_
  refine rS (pc := 4) (rest := []) ⟨hx, hb, hml, hown, hts⟩ (k_X8_within (v := b) (lo := 1) (hi := 11)) cw_X8_86 ⟨(Nat.le_of_ble_eq_true rfl), (Nat.le_of_ble_eq_true rfl)⟩ hE hS wc0 rfl hl.1 rfl (Nat.le_of_ble_eq_true rfl) dX8_delay_4 ⟨Nat.le_refl _, Nat.le_refl _⟩ ?_
  refine W.eq (g2 := F0 m 7 ls [.int (bi (inR b 1 11))]) rfl ?_
  refine bif_ne (pc := 7) (tgt := 13) hx hb dX8_delay_7 (by decide) (fun c_1 => ?_) (fun c_1 => ?_)
  · skip
    refine lv_aload_n (pc := 13) hx hb dX8_delay_13 rfl (lv_at hl 0 rfl) ?_
    refine fget (pc := 14) (v := .int (z 1)) hx hb hts hown hE hP fl_X8_124 0 rfl rfl dX8_delay_14 ?_
    refine vEq (v := nI n) hz1 ?_
    refine lv_if_ne (pc := 17) (tgt := 23) hx hb dX8_delay_17 (by decide) (fun c_2 => ?_) (fun c_2 => ?_)
    · skip
      have c_2n : ¬ n = 0 := fun hh => c_2 ((nI_eq (a := n) (b := 0) (by omega) (by omega)).mpr hh)
      refine lv_bipush (pc := 23) (v := 11) hx hb dX8_delay_23 (by decide) ?_
      refine lv_istore_n (pc := 25) (lv' := [(2, .int 11), (0, .ref o), (1, .int b)]) hx hb dX8_delay_25 rfl hl (by decide) rfl (fun ls hl => ?_)
      have lp_3 : ∀ (fuel : Nat) (m9 : Nat), m9 < fuel → (m9 ≤ 12) → ∀ (H : Heap) (locs : List Loc), va_P D vwCl (wR kB kI o a z g (va_up r 8 (shN (r 8) b m9))) H → va_D A (wR kB kI o a z g (va_up r 8 (shN (r 8) b m9))) → va_S A s.heap H locs → ∀ (ls : Array Slot), lv_has ls 3 [(0, .ref o), (1, .int b), (2, .int (nI m9 - 1))] → W p l e (rmO 3 63) s m args below meth c0 H locs 0 0 Q (F0 m 26 ls []) := by
        intro fuel
        induction fuel with
        | zero => intro m9 hfuel; exact absurd hfuel (Nat.not_lt_zero _)
        | succ fuel ih_lp_3 =>
          intro m9 hfuel hm H locs hP hD hS ls hl
          refine lv_iload_n (pc := 26) hx hb dX8_delay_26 rfl (lv_at hl 2 rfl) ?_
          refine lv_if_lt (pc := 27) (tgt := 49) hx hb dX8_delay_27 (by decide) (fun c_4 => ?_) (fun c_4 => ?_)
          · skip
            have hm0 : m9 = 0 := (pm_lt (by omega)).mp c_4
            rw [hm0] at hP hD
            refine lv_aload_n (pc := 49) hx hb dX8_delay_49 rfl (lv_at hl 0 rfl) ?_
            refine rV (pc := 50) (rest := []) ⟨hx, hb, hml, hown, hts⟩ (k_X8_nightsOn (z := z) (g := g) (r := (va_up r 8 (shN (r 8) b 0)))) cw_X8_137 ⟨(Nat.le_of_ble_eq_true rfl), (Nat.le_of_ble_eq_true rfl)⟩ hE hS hP rfl rfl rfl rfl hl.1 rfl (Nat.le_of_ble_eq_true rfl) dX8_delay_50 ⟨Nat.le_refl _, Nat.le_refl _⟩ ?_
            refine W.eq (g2 := F0 m 53 ls [.int (nI (nOn ((shN (r 8) b 0)) 12))]) rfl ?_
            have hfn : R_delay z g r n b = (nI (nOn ((shN (r 8) b 0)) 12), z, g, (va_up r 8 (shN (r 8) b 0))) := by rw [R_delay, if_pos c_1, if_neg c_2n]
            rw [hQ]; exact W.iret (pc := 53) hx hb hr (fun t9 ht _ => ⟨⟨retI (by rw [hfn]), by rw [ht, hfn]; exact (show va_P D vwCl (wR kB kI o a z g (va_up r 8 (shN (r 8) b 0))) _ from hP)⟩, hS.F ht⟩) hS.2.2 dX8_delay_53 hlocks
          · skip
            have hm1 : 0 < m9 := Nat.pos_of_ne_zero (fun q => c_4 ((pm_lt (by omega)).mpr q))
            have hpm : nI m9 - 1 = nI (m9 - 1) := pm_eq hm1
            refine lv_aload_n (pc := 30) hx hb dX8_delay_30 rfl (lv_at hl 0 rfl) ?_
            refine fget (pc := 31) (v := .ref (a 8)) hx hb hts hown hE hP fl_X8_28 0 rfl rfl dX8_delay_31 ?_
            refine lv_iload_n (pc := 34) hx hb dX8_delay_34 rfl (lv_at hl 2 rfl) ?_
            refine vEq (v := nI (m9 - 1)) hpm ?_
            refine lv_aload_n (pc := 35) hx hb dX8_delay_35 rfl (lv_at hl 0 rfl) ?_
            refine lv_iload_n (pc := 36) hx hb dX8_delay_36 rfl (lv_at hl 2 rfl) ?_
            refine vEq (v := nI (m9 - 1)) hpm ?_
            refine lv_iload_n (pc := 37) hx hb dX8_delay_37 rfl (lv_at hl 1 rfl) ?_
            refine lv_isub (pc := 38) hx hb dX8_delay_38 ?_
            refine rV (pc := 39) (rest := [.int (nI (m9 - 1)), .ref (a 8)]) ⟨hx, hb, hml, hown, hts⟩ (k_X8_on (n := (nI (m9 - 1)) - b) (z := z) (g := g) (r := (va_up r 8 (shN (r 8) b m9)))) cw_X8_143 ⟨(Nat.le_of_ble_eq_true rfl), (Nat.le_of_ble_eq_true rfl)⟩ hE hS hP rfl rfl rfl rfl hl.1 rfl (Nat.le_of_ble_eq_true rfl) dX8_delay_39 ⟨Nat.le_refl _, Nat.le_refl _⟩ ?_
            refine W.eq (g2 := F0 m 42 ls [.int (rOn ((shN (r 8) b m9)) ((nI (m9 - 1)) - b)), .int (nI (m9 - 1)), .ref (a 8)]) rfl ?_
            refine astN (pc := 42) (f := shN (r 8) b m9) hx hb hE hP hD hS 7 rfl (m9 - 1) (by omega) (by omega) dX8_delay_42 (fun H locs hP hD hS => ?_)
            have hP : va_P D vwCl (wR kB kI o a z g (va_up r 8 (upd (shN (r 8) b m9) (m9 - 1) (rOn ((shN (r 8) b m9)) ((nI (m9 - 1)) - b))))) H := hP
            have hD : va_D A (wR kB kI o a z g (va_up r 8 (upd (shN (r 8) b m9) (m9 - 1) (rOn ((shN (r 8) b m9)) ((nI (m9 - 1)) - b))))) := hD
            refine lv_iinc (pc := 43) (v := nI (m9 - 1) - 1) (lv' := [(2, .int (nI (m9 - 1) - 1)), (0, .ref o), (1, .int b)]) hx hb dX8_delay_43 hl (k := 2) rfl (by rw [hpm]; exact dec1 _) (by decide) rfl (fun ls hl => ?_)
            refine lv_goto (pc := 46) (tgt := 26) hx hb dX8_delay_46 (by decide) ?_
            exact ih_lp_3 (m9 - 1) (by omega) (by omega) _ _ (by rw [← sh_step c_1 hm1 hm]; exact hP) (by rw [← sh_step c_1 hm1 hm]; exact hD) hS ls (lv_sub hl [1, 2, 0] rfl)
      exact lp_3 _ 12 (Nat.lt_succ_self _) (by omega) _ _ (by rw [sh_0, va_up_same]; exact hP) (by rw [sh_0, va_up_same]; exact hD) hS ls (by rw [show (nI 12 - 1 : Int32) = 11 from (by decide)]; exact lv_sub hl [1, 2, 0] rfl)
    · skip
      have c_2n : n = 0 := (nI_eq (a := n) (b := 0) (by omega) (by omega)).mp c_2
      refine lv_bipush (pc := 20) (v := (-103)) hx hb dX8_delay_20 (by decide) ?_
      have hfn : R_delay z g r n b = ((-103), z, g, r) := by rw [R_delay, if_pos c_1, if_pos c_2n]
      rw [hQ]; exact W.iret (pc := 22) hx hb hr (fun t9 ht _ => ⟨⟨retI (by rw [hfn]), by rw [ht, hfn]; exact (show va_P D vwCl (wR kB kI o a z g r) _ from hP)⟩, hS.F ht⟩) hS.2.2 dX8_delay_22 hlocks
  · skip
    refine lv_bipush (pc := 10) (v := (-102)) hx hb dX8_delay_10 (by decide) ?_
    have hfn : R_delay z g r n b = ((-102), z, g, r) := by rw [R_delay, if_neg c_1]
    rw [hQ]; exact W.iret (pc := 12) hx hb hr (fun t9 ht _ => ⟨⟨retI (by rw [hfn]), by rw [ht, hfn]; exact (show va_P D vwCl (wR kB kI o a z g r) _ from hP)⟩, hS.F ht⟩) hS.2.2 dX8_delay_12 hlocks
end
