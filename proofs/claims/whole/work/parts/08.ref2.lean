section
variable {l : Launch} {D : va_G} {kB kI kT : ClassId} {ks sk sv : Nat}
set_option maxRecDepth 100000 in
set_option maxHeartbeats 4000000 in
theorem k_X8_isIn (set : Int32) (k : Int32) : MR l yX8_isIn cX8_isIn 2 (some .boolean) 0 0 D kB kI kT ks sk sv [.int set, .int k] ([]) (some (.int (bi (isInP set k)))) := by
  refine MR.go (by decide +kernel) (Nat.le_of_ble_eq_true rfl) ?_
  intro p e s m below meth c0 args Q ls hQ hx hb hr hml hown hts hlocks hE hP hS hl
  have hl : lv_has ls 2 [(0, .int set), (1, .int k)] := hl
  have hown : s.vm.findClass RX8 = some m.cls := hown
  refine lv_iload_n (pc := 0) hx hb dX8_isIn_0 rfl (lv_at hl 0 rfl) ?_
  refine lv_iload_n (pc := 1) hx hb dX8_isIn_1 rfl (lv_at hl 1 rfl) ?_
  refine lv_ishr (pc := 2) hx hb dX8_isIn_2 ?_
  refine lv_iconst (pc := 3) (v := 1) hx hb dX8_isIn_3 (by decide) ?_
  refine lv_iand (pc := 4) hx hb dX8_isIn_4 ?_
  refine lv_iconst (pc := 5) (v := 1) hx hb dX8_isIn_5 (by decide) ?_
  refine lv_icmp_ne (pc := 6) (tgt := 13) hx hb dX8_isIn_6 (by decide) (fun c_1 => ?_) (fun c_1 => ?_)
  · skip
    refine lv_iconst (pc := 13) (v := 0) hx hb dX8_isIn_13 (by decide) ?_
    rw [hQ]; exact W.zret (pc := 14) hx hb hr rfl (fun t9 ht _ => ⟨retI (bi_f c_1), ht⟩) (fun _ h => nomatch h) dX8_isIn_14 hlocks
  · skip
    refine lv_iconst (pc := 9) (v := 1) hx hb dX8_isIn_9 (by decide) ?_
    refine lv_goto (pc := 10) (tgt := 14) hx hb dX8_isIn_10 (by decide) ?_
    rw [hQ]; exact W.zret (pc := 14) hx hb hr rfl (fun t9 ht _ => ⟨retI (bi_t c_1), ht⟩) (fun _ h => nomatch h) dX8_isIn_14 hlocks
set_option maxRecDepth 100000 in
set_option maxHeartbeats 4000000 in
theorem k_X8_size (bits : Int32) : MR l yX8_size cX8_size 3 (some .int) 0 0 D kB kI kT ks sk sv [.int bits] ([]) (some (.int (sizeI bits 16))) := by
  refine MR.go (by decide +kernel) (Nat.le_of_ble_eq_true rfl) ?_
  intro p e s m below meth c0 args Q ls hQ hx hb hr hml hown hts hlocks hE hP hS hl
  have hl : lv_has ls 3 [(0, .int bits)] := hl
  have hown : s.vm.findClass RX8 = some m.cls := hown
  refine lv_iconst (pc := 0) (v := 0) hx hb dX8_size_0 (by decide) ?_
  refine lv_istore_n (pc := 1) (lv' := [(1, .int 0), (0, .int bits)]) hx hb dX8_size_1 rfl hl (by decide) rfl (fun ls hl => ?_)
  refine lv_iconst (pc := 2) (v := 0) hx hb dX8_size_2 (by decide) ?_
  refine lv_istore_n (pc := 3) (lv' := [(2, .int 0), (1, .int 0), (0, .int bits)]) hx hb dX8_size_3 rfl hl (by decide) rfl (fun ls hl => ?_)
  have lp_1 : ∀ (fuel : Nat) (i : Nat), 16 - i < fuel → (i ≤ 16) → ∀ (ls : Array Slot), lv_has ls 3 [(0, .int bits), (1, .int (sizeI bits i)), (2, .int (nI i))] → W p l e (rmO 0 0) s m args below meth c0 s.heap [] 0 0 Q (F0 m 4 ls []) := by
    intro fuel
    induction fuel with
    | zero => intro i hfuel; exact absurd hfuel (Nat.not_lt_zero _)
    | succ fuel ih_lp_1 =>
      intro i hfuel hi ls hl
      refine lv_iload_n (pc := 4) hx hb dX8_size_4 rfl (lv_at hl 2 rfl) ?_
      refine lv_bipush (pc := 5) (v := 16) hx hb dX8_size_5 (by decide) ?_
      refine lv_icmp_ge (pc := 7) (tgt := 24) hx hb dX8_size_7 (by decide) (fun c_2 => ?_) (fun c_2 => ?_)
      · skip
        have c_2n : 16 ≤ i := (nI_leI (a := 16) (b := i) (by omega) (by omega)).mp c_2
        refine lv_iload_n (pc := 24) hx hb dX8_size_24 rfl (lv_at hl 1 rfl) ?_
        rw [hQ]; exact W.iret (pc := 25) hx hb hr (fun t9 ht _ => ⟨retI (by rw [show i = 16 by omega]), ht⟩) (fun _ h => nomatch h) dX8_size_25 hlocks
      · skip
        have c_2n : ¬ 16 ≤ i := fun hh => c_2 ((nI_leI (a := 16) (b := i) (by omega) (by omega)).mpr hh)
        refine lv_iload_n (pc := 10) hx hb dX8_size_10 rfl (lv_at hl 1 rfl) ?_
        refine lv_iload_n (pc := 11) hx hb dX8_size_11 rfl (lv_at hl 0 rfl) ?_
        refine lv_iload_n (pc := 12) hx hb dX8_size_12 rfl (lv_at hl 2 rfl) ?_
        refine lv_ishr (pc := 13) hx hb dX8_size_13 ?_
        refine lv_iconst (pc := 14) (v := 1) hx hb dX8_size_14 (by decide) ?_
        refine lv_iand (pc := 15) hx hb dX8_size_15 ?_
        refine lv_iadd (pc := 16) hx hb dX8_size_16 ?_
        refine lv_istore_n (pc := 17) (lv' := [(1, .int ((sizeI bits i) + ((bits >>> ((nI i) &&& 31)) &&& 1))), (0, .int bits), (2, .int (nI i))]) hx hb dX8_size_17 rfl hl (by decide) rfl (fun ls hl => ?_)
        refine lv_iinc (pc := 18) (v := nI (i + 1)) (lv' := [(2, .int (nI (i + 1))), (1, .int ((sizeI bits i) + ((bits >>> ((nI i) &&& 31)) &&& 1))), (0, .int bits)]) hx hb dX8_size_18 hl (k := 2) rfl (nI_add (i) 1) (by decide) rfl (fun ls hl => ?_)
        refine lv_goto (pc := 21) (tgt := 4) hx hb dX8_size_21 (by decide) ?_
        exact ih_lp_1 (i + 1) (by omega) (by omega) ls (by rw [show (sizeI bits (i + 1) : Int32) = (sizeI bits i) + ((bits >>> ((nI i) &&& 31)) &&& 1) from (rfl)]; exact lv_sub hl [2, 1, 0] rfl)
  exact lp_1 _ 0 (Nat.lt_succ_self _) (by omega) ls (lv_sub hl [2, 1, 0] rfl)
set_option maxRecDepth 100000 in
set_option maxHeartbeats 4000000 in
theorem k_X8_kindBy (c : Int32) : MR l yX8_kindBy cX8_kindBy 1 (some .int) 0 0 D kB kI kT ks sk sv [.int c] ([]) (some (.int (kindBy c))) := by
  refine MR.go (by decide +kernel) (Nat.le_of_ble_eq_true rfl) ?_
  intro p e s m below meth c0 args Q ls hQ hx hb hr hml hown hts hlocks hE hP hS hl
  have hl : lv_has ls 1 [(0, .int c)] := hl
  have hown : s.vm.findClass RX8 = some m.cls := hown
  refine lv_iload_n (pc := 0) hx hb dX8_kindBy_0 rfl (lv_at hl 0 rfl) ?_
  by_cases c_1 : c = 100
  · skip
    refine lv_lookup (pc := 1) (off := 59) (tgt := 60) hx hb dX8_kindBy_1 (by decide) (by rw [c_1]; try rfl) (by decide) ?_
    refine lv_iconst (pc := 60) (v := 4) hx hb dX8_kindBy_60 (by decide) ?_
    rw [hQ]; exact W.iret (pc := 61) hx hb hr (fun t9 ht _ => ⟨retI (by simp [kindBy, c_1]), ht⟩) (fun _ h => nomatch h) dX8_kindBy_61 hlocks
  by_cases c_2 : c = 102
  · skip
    refine lv_lookup (pc := 1) (off := 55) (tgt := 56) hx hb dX8_kindBy_1 (by decide) (by rw [c_2]; try rfl) (by decide) ?_
    refine lv_iconst (pc := 56) (v := 2) hx hb dX8_kindBy_56 (by decide) ?_
    rw [hQ]; exact W.iret (pc := 57) hx hb hr (fun t9 ht _ => ⟨retI (by simp [kindBy, c_1, c_2]), ht⟩) (fun _ h => nomatch h) dX8_kindBy_57 hlocks
  by_cases c_3 : c = 103
  · skip
    refine lv_lookup (pc := 1) (off := 53) (tgt := 54) hx hb dX8_kindBy_1 (by decide) (by rw [c_3]; try rfl) (by decide) ?_
    refine lv_iconst (pc := 54) (v := 1) hx hb dX8_kindBy_54 (by decide) ?_
    rw [hQ]; exact W.iret (pc := 55) hx hb hr (fun t9 ht _ => ⟨retI (by simp [kindBy, c_1, c_2, c_3]), ht⟩) (fun _ h => nomatch h) dX8_kindBy_55 hlocks
  by_cases c_4 : c = 114
  · skip
    refine lv_lookup (pc := 1) (off := 57) (tgt := 58) hx hb dX8_kindBy_1 (by decide) (by rw [c_4]; try rfl) (by decide) ?_
    refine lv_iconst (pc := 58) (v := 3) hx hb dX8_kindBy_58 (by decide) ?_
    rw [hQ]; exact W.iret (pc := 59) hx hb hr (fun t9 ht _ => ⟨retI (by simp [kindBy, c_1, c_2, c_3, c_4]), ht⟩) (fun _ h => nomatch h) dX8_kindBy_59 hlocks
  by_cases c_5 : c = 116
  · skip
    refine lv_lookup (pc := 1) (off := 51) (tgt := 52) hx hb dX8_kindBy_1 (by decide) (by rw [c_5]; try rfl) (by decide) ?_
    refine lv_iconst (pc := 52) (v := 0) hx hb dX8_kindBy_52 (by decide) ?_
    rw [hQ]; exact W.iret (pc := 53) hx hb hr (fun t9 ht _ => ⟨retI (by simp [kindBy, c_1, c_2, c_3, c_4, c_5]), ht⟩) (fun _ h => nomatch h) dX8_kindBy_53 hlocks
  refine lv_lookup (pc := 1) (off := 61) (tgt := 62) hx hb dX8_kindBy_1 (by decide) (by show Op.lookupswitch.offset [(100, 59), (102, 55), (103, 53), (114, 57), (116, 51)] 61 (c).toInt = 61; rw [lv_osw (a := 100) c_1 (by decide), lv_osw (a := 102) c_2 (by decide), lv_osw (a := 103) c_3 (by decide), lv_osw (a := 114) c_4 (by decide), lv_osw (a := 116) c_5 (by decide)]; try rfl) (by decide) ?_
  refine lv_iconst (pc := 62) (v := (-1)) hx hb dX8_kindBy_62 (by decide) ?_
  rw [hQ]; exact W.iret (pc := 63) hx hb hr (fun t9 ht _ => ⟨retI (by simp [kindBy, c_1, c_2, c_3, c_4, c_5]), ht⟩) (fun _ h => nomatch h) dX8_kindBy_63 hlocks
set_option maxRecDepth 100000 in
set_option maxHeartbeats 4000000 in
theorem k_X8_at {o : Nat} {a : Nat → Nat} {z : Nat → Int32} {g : Nat → Int64} {r : Nat → Nat → Int32} (k : Nat) {pn : Nat} (hz14 : z 14 = nI pn) (hpn : pn ≤ 40) (hk : k < 2147483648) : MR l yX8_at cX8_at 2 (some .int) 0 0 D kB kI kT ks sk sv [.ref o, .int (nI k)] (wR kB kI o a z g r) (some (.int (atP (r 15) pn k))) := by
  refine MR.go (by decide +kernel) (Nat.le_of_ble_eq_true rfl) ?_
  intro p e s m below meth c0 args Q ls hQ hx hb hr hml hown hts hlocks hE hP hS hl
  have hl : lv_has ls 2 [(0, .ref o), (1, .int (nI k))] := hl
  have hown : s.vm.findClass RX8 = some m.cls := hown
  refine lv_iload_n (pc := 0) hx hb dX8_at_0 rfl (lv_at hl 1 rfl) ?_
  refine lv_aload_n (pc := 1) hx hb dX8_at_1 rfl (lv_at hl 0 rfl) ?_
  refine fget (pc := 2) (v := .int (z 14)) hx hb hts hown hE hP fl_X8_90 0 rfl rfl dX8_at_2 ?_
  refine vEq (v := nI pn) hz14 ?_
  refine lv_icmp_ge (pc := 5) (tgt := 17) hx hb dX8_at_5 (by decide) (fun c_1 => ?_) (fun c_1 => ?_)
  · skip
    have c_1n : pn ≤ k := (nI_leI (a := pn) (b := k) (by omega) (by omega)).mp c_1
    refine lv_iconst (pc := 17) (v := 0) hx hb dX8_at_17 (by decide) ?_
    rw [hQ]; exact W.iret (pc := 18) hx hb hr (fun t9 ht _ => ⟨retI (by simp [atP]; omega), ht⟩) (fun _ h => nomatch h) dX8_at_18 hlocks
  · skip
    have c_1n : ¬ pn ≤ k := fun hh => c_1 ((nI_leI (a := pn) (b := k) (by omega) (by omega)).mpr hh)
    refine lv_aload_n (pc := 8) hx hb dX8_at_8 rfl (lv_at hl 0 rfl) ?_
    refine fget (pc := 9) (v := .ref (a 15)) hx hb hts hown hE hP fl_X8_40 0 rfl rfl dX8_at_9 ?_
    refine lv_iload_n (pc := 12) hx hb dX8_at_12 rfl (lv_at hl 1 rfl) ?_
    refine aldB (pc := 13) (f := r 15) hx hb hE hP 11 rfl (k) (by omega) (by omega) dX8_at_13 ?_
    refine lv_goto (pc := 14) (tgt := 18) hx hb dX8_at_14 (by decide) ?_
    rw [hQ]; exact W.iret (pc := 18) hx hb hr (fun t9 ht _ => ⟨retI (by simp [atP]; omega), ht⟩) (fun _ h => nomatch h) dX8_at_18 hlocks
set_option maxRecDepth 100000 in
set_option maxHeartbeats 4000000 in
theorem k_X8_least {o : Nat} {a : Nat → Nat} {z : Nat → Int32} {g : Nat → Int64} {r : Nat → Nat → Int32} (x : Int32) {nt : Nat} (hz18 : z 18 = nI nt) (hnt : nt < 5) : MR l yX8_least cX8_least 2 (some .int) 0 0 D kB kI kT ks sk sv [.ref o, .int x] (wR kB kI o a z g r) (some (.int (leastP (r 19) nt x))) := by
  refine MR.go (by decide +kernel) (Nat.le_of_ble_eq_true rfl) ?_
  intro p e s m below meth c0 args Q ls hQ hx hb hr hml hown hts hlocks hE hP hS hl
  have hl : lv_has ls 2 [(0, .ref o), (1, .int x)] := hl
  have hown : s.vm.findClass RX8 = some m.cls := hown
  refine lv_iload_n (pc := 0) hx hb dX8_least_0 rfl (lv_at hl 1 rfl) ?_
  by_cases c_1 : x = 1
  · skip
    refine lv_tableIn (pc := 1) (off := 31) (tgt := 32) hx hb dX8_least_1 (by rw [c_1]; decide) (by rw [c_1]; decide) (by rw [c_1]; try rfl) (by decide) ?_
    refine lv_bipush (pc := 32) (v := 48) hx hb dX8_least_32 (by decide) ?_
    rw [hQ]; exact W.iret (pc := 34) hx hb hr (fun t9 ht _ => ⟨retI (by simp [leastP, c_1]), ht⟩) (fun _ h => nomatch h) dX8_least_34 hlocks
  by_cases c_2 : x = 2
  · skip
    refine lv_tableIn (pc := 1) (off := 31) (tgt := 32) hx hb dX8_least_1 (by rw [c_2]; decide) (by rw [c_2]; decide) (by rw [c_2]; try rfl) (by decide) ?_
    refine lv_bipush (pc := 32) (v := 48) hx hb dX8_least_32 (by decide) ?_
    rw [hQ]; exact W.iret (pc := 34) hx hb hr (fun t9 ht _ => ⟨retI (by simp [leastP, c_1, c_2]), ht⟩) (fun _ h => nomatch h) dX8_least_34 hlocks
  by_cases c_3 : x = 3
  · skip
    refine lv_tableIn (pc := 1) (off := 34) (tgt := 35) hx hb dX8_least_1 (by rw [c_3]; decide) (by rw [c_3]; decide) (by rw [c_3]; try rfl) (by decide) ?_
    refine lv_bipush (pc := 35) (v := 97) hx hb dX8_least_35 (by decide) ?_
    rw [hQ]; exact W.iret (pc := 37) hx hb hr (fun t9 ht _ => ⟨retI (by simp [leastP, c_1, c_2, c_3]), ht⟩) (fun _ h => nomatch h) dX8_least_37 hlocks
  by_cases c_4 : x = 4
  · skip
    refine lv_tableIn (pc := 1) (off := 37) (tgt := 38) hx hb dX8_least_1 (by rw [c_4]; decide) (by rw [c_4]; decide) (by rw [c_4]; try rfl) (by decide) ?_
    refine lv_bipush (pc := 38) (v := 97) hx hb dX8_least_38 (by decide) ?_
    refine lv_aload_n (pc := 40) hx hb dX8_least_40 rfl (lv_at hl 0 rfl) ?_
    refine fget (pc := 41) (v := .ref (a 19)) hx hb hts hown hE hP fl_X8_44 0 rfl rfl dX8_least_41 ?_
    refine lv_bipush (pc := 44) (v := 6) hx hb dX8_least_44 (by decide) ?_
    refine lv_aload_n (pc := 46) hx hb dX8_least_46 rfl (lv_at hl 0 rfl) ?_
    refine fget (pc := 47) (v := .int (z 18)) hx hb hts hown hE hP fl_X8_94 0 rfl rfl dX8_least_47 ?_
    refine vEq (v := nI nt) hz18 ?_
    refine imulV (pc := 50) (v := nI (6 * nt)) hx hb dX8_least_50 (pk_mul (6) (nt)) ?_
    refine lv_iconst (pc := 51) (v := 3) hx hb dX8_least_51 (by decide) ?_
    refine iaddV (pc := 52) (v := nI (6 * nt + 3)) hx hb dX8_least_52 (nI_add (6 * nt) (3)) ?_
    refine aldN (pc := 53) (f := r 19) hx hb hE hP 12 rfl (6 * nt + 3) (by omega) (by omega) dX8_least_53 ?_
    refine lv_iadd (pc := 54) hx hb dX8_least_54 ?_
    rw [hQ]; exact W.iret (pc := 55) hx hb hr (fun t9 ht _ => ⟨retI (by simp [leastP, c_1, c_2, c_3, c_4]), ht⟩) (fun _ h => nomatch h) dX8_least_55 hlocks
  refine lv_tableOut (pc := 1) (tgt := 56) hx hb dX8_least_1 (by (have q0 : ¬ x.toInt = 1 := fun q => c_1 (Int32.toInt_inj.mp (q.trans rfl)); have q1 : ¬ x.toInt = 2 := fun q => c_2 (Int32.toInt_inj.mp (q.trans rfl)); have q2 : ¬ x.toInt = 3 := fun q => c_3 (Int32.toInt_inj.mp (q.trans rfl)); have q3 : ¬ x.toInt = 4 := fun q => c_4 (Int32.toInt_inj.mp (q.trans rfl)); omega)) (by decide) ?_
  refine lv_bipush (pc := 56) (v := 49) hx hb dX8_least_56 (by decide) ?_
  rw [hQ]; exact W.iret (pc := 58) hx hb hr (fun t9 ht _ => ⟨retI (by simp [leastP, c_1, c_2, c_3, c_4]), ht⟩) (fun _ h => nomatch h) dX8_least_58 hlocks
set_option maxRecDepth 100000 in
set_option maxHeartbeats 4000000 in
theorem k_X8_most (x : Int32) : MR l yX8_most cX8_most 1 (some .int) 0 0 D kB kI kT ks sk sv [.int x] ([]) (some (.int (mostP x))) := by
  refine MR.go (by decide +kernel) (Nat.le_of_ble_eq_true rfl) ?_
  intro p e s m below meth c0 args Q ls hQ hx hb hr hml hown hts hlocks hE hP hS hl
  have hl : lv_has ls 1 [(0, .int x)] := hl
  have hown : s.vm.findClass RX8 = some m.cls := hown
  refine lv_iload_n (pc := 0) hx hb dX8_most_0 rfl (lv_at hl 0 rfl) ?_
  refine lv_iconst (pc := 1) (v := 3) hx hb dX8_most_1 (by decide) ?_
  refine lv_icmp_ge (pc := 2) (tgt := 10) hx hb dX8_most_2 (by decide) (fun c_1 => ?_) (fun c_1 => ?_)
  · skip
    refine lv_iload_n (pc := 10) hx hb dX8_most_10 rfl (lv_at hl 0 rfl) ?_
    refine lv_iconst (pc := 11) (v := 5) hx hb dX8_most_11 (by decide) ?_
    refine lv_icmp_ge (pc := 12) (tgt := 20) hx hb dX8_most_12 (by decide) (fun c_2 => ?_) (fun c_2 => ?_)
    · skip
      refine lv_bipush (pc := 20) (v := 57) hx hb dX8_most_20 (by decide) ?_
      rw [hQ]; exact W.iret (pc := 22) hx hb hr (fun t9 ht _ => ⟨retI (by simp [mostP, c_1, c_2]), ht⟩) (fun _ h => nomatch h) dX8_most_22 hlocks
    · skip
      refine lv_bipush (pc := 15) (v := 108) hx hb dX8_most_15 (by decide) ?_
      refine lv_goto (pc := 17) (tgt := 22) hx hb dX8_most_17 (by decide) ?_
      rw [hQ]; exact W.iret (pc := 22) hx hb hr (fun t9 ht _ => ⟨retI (by simp [mostP, c_1, c_2]), ht⟩) (fun _ h => nomatch h) dX8_most_22 hlocks
  · skip
    refine lv_bipush (pc := 5) (v := 52) hx hb dX8_most_5 (by decide) ?_
    refine lv_goto (pc := 7) (tgt := 22) hx hb dX8_most_7 (by decide) ?_
    rw [hQ]; exact W.iret (pc := 22) hx hb hr (fun t9 ht _ => ⟨retI (by simp [mostP, c_1]), ht⟩) (fun _ h => nomatch h) dX8_most_22 hlocks
set_option maxRecDepth 100000 in
set_option maxHeartbeats 4000000 in
theorem k_X8_could (k : Int32) (w : Int32) : MR l yX8_could cX8_could 2 (some .boolean) 0 0 D kB kI kT ks sk sv [.int k, .int w] ([]) (some (.int (bi (couldB k w = true)))) := by
  refine MR.go (by decide +kernel) (Nat.le_of_ble_eq_true rfl) ?_
  intro p e s m below meth c0 args Q ls hQ hx hb hr hml hown hts hlocks hE hP hS hl
  have hl : lv_has ls 2 [(0, .int k), (1, .int w)] := hl
  have hown : s.vm.findClass RX8 = some m.cls := hown
  refine lv_iload_n (pc := 0) hx hb dX8_could_0 rfl (lv_at hl 1 rfl) ?_
  by_cases c_1 : w = 0
  · skip
    refine lv_tableIn (pc := 1) (off := 27) (tgt := 28) hx hb dX8_could_1 (by rw [c_1]; decide) (by rw [c_1]; decide) (by rw [c_1]; try rfl) (by decide) ?_
    refine lv_iload_n (pc := 28) hx hb dX8_could_28 rfl (lv_at hl 0 rfl) ?_
    refine lv_iconst (pc := 29) (v := 1) hx hb dX8_could_29 (by decide) ?_
    refine lv_icmp_eq (pc := 30) (tgt := 42) hx hb dX8_could_30 (by decide) (fun c_2 => ?_) (fun c_2 => ?_)
    · skip
      refine lv_iconst (pc := 42) (v := 0) hx hb dX8_could_42 (by decide) ?_
      rw [hQ]; exact W.zret (pc := 43) hx hb hr rfl (fun t9 ht _ => ⟨retI (bi_f (by simp [couldB, c_1, c_2])), ht⟩) (fun _ h => nomatch h) dX8_could_43 hlocks
    · skip
      refine lv_iload_n (pc := 33) hx hb dX8_could_33 rfl (lv_at hl 0 rfl) ?_
      refine lv_iconst (pc := 34) (v := 2) hx hb dX8_could_34 (by decide) ?_
      refine lv_icmp_eq (pc := 35) (tgt := 42) hx hb dX8_could_35 (by decide) (fun c_3 => ?_) (fun c_3 => ?_)
      · skip
        refine lv_iconst (pc := 42) (v := 0) hx hb dX8_could_42 (by decide) ?_
        rw [hQ]; exact W.zret (pc := 43) hx hb hr rfl (fun t9 ht _ => ⟨retI (bi_f (by simp [couldB, c_1, c_2, c_3])), ht⟩) (fun _ h => nomatch h) dX8_could_43 hlocks
      · skip
        refine lv_iconst (pc := 38) (v := 1) hx hb dX8_could_38 (by decide) ?_
        refine lv_goto (pc := 39) (tgt := 43) hx hb dX8_could_39 (by decide) ?_
        rw [hQ]; exact W.zret (pc := 43) hx hb hr rfl (fun t9 ht _ => ⟨retI (bi_t (by simp [couldB, c_1, c_2, c_3])), ht⟩) (fun _ h => nomatch h) dX8_could_43 hlocks
  by_cases c_4 : w = 1
  · skip
    refine lv_tableIn (pc := 1) (off := 43) (tgt := 44) hx hb dX8_could_1 (by rw [c_4]; decide) (by rw [c_4]; decide) (by rw [c_4]; try rfl) (by decide) ?_
    refine lv_iload_n (pc := 44) hx hb dX8_could_44 rfl (lv_at hl 0 rfl) ?_
    refine lv_iconst (pc := 45) (v := 3) hx hb dX8_could_45 (by decide) ?_
    refine lv_icmp_eq (pc := 46) (tgt := 53) hx hb dX8_could_46 (by decide) (fun c_5 => ?_) (fun c_5 => ?_)
    · skip
      refine lv_iconst (pc := 53) (v := 0) hx hb dX8_could_53 (by decide) ?_
      rw [hQ]; exact W.zret (pc := 54) hx hb hr rfl (fun t9 ht _ => ⟨retI (bi_f (by simp [couldB, c_1, c_4, c_5])), ht⟩) (fun _ h => nomatch h) dX8_could_54 hlocks
    · skip
      refine lv_iconst (pc := 49) (v := 1) hx hb dX8_could_49 (by decide) ?_
      refine lv_goto (pc := 50) (tgt := 54) hx hb dX8_could_50 (by decide) ?_
      rw [hQ]; exact W.zret (pc := 54) hx hb hr rfl (fun t9 ht _ => ⟨retI (bi_t (by simp [couldB, c_1, c_4, c_5])), ht⟩) (fun _ h => nomatch h) dX8_could_54 hlocks
  by_cases c_6 : w = 2
  · skip
    refine lv_tableIn (pc := 1) (off := 54) (tgt := 55) hx hb dX8_could_1 (by rw [c_6]; decide) (by rw [c_6]; decide) (by rw [c_6]; try rfl) (by decide) ?_
    refine lv_iload_n (pc := 55) hx hb dX8_could_55 rfl (lv_at hl 0 rfl) ?_
    refine lv_iconst (pc := 56) (v := 1) hx hb dX8_could_56 (by decide) ?_
    refine lv_icmp_eq (pc := 57) (tgt := 65) hx hb dX8_could_57 (by decide) (fun c_7 => ?_) (fun c_7 => ?_)
    · skip
      refine lv_iconst (pc := 65) (v := 1) hx hb dX8_could_65 (by decide) ?_
      refine lv_goto (pc := 66) (tgt := 70) hx hb dX8_could_66 (by decide) ?_
      rw [hQ]; exact W.zret (pc := 70) hx hb hr rfl (fun t9 ht _ => ⟨retI (bi_t (by simp [couldB, c_1, c_4, c_6, c_7])), ht⟩) (fun _ h => nomatch h) dX8_could_70 hlocks
    · skip
      refine lv_iload_n (pc := 60) hx hb dX8_could_60 rfl (lv_at hl 0 rfl) ?_
      refine lv_iconst (pc := 61) (v := 2) hx hb dX8_could_61 (by decide) ?_
      refine lv_icmp_ne (pc := 62) (tgt := 69) hx hb dX8_could_62 (by decide) (fun c_8 => ?_) (fun c_8 => ?_)
      · skip
        refine lv_iconst (pc := 69) (v := 0) hx hb dX8_could_69 (by decide) ?_
        rw [hQ]; exact W.zret (pc := 70) hx hb hr rfl (fun t9 ht _ => ⟨retI (bi_f (by simp [couldB, c_1, c_4, c_6, c_7, c_8])), ht⟩) (fun _ h => nomatch h) dX8_could_70 hlocks
      · skip
        refine lv_iconst (pc := 65) (v := 1) hx hb dX8_could_65 (by decide) ?_
        refine lv_goto (pc := 66) (tgt := 70) hx hb dX8_could_66 (by decide) ?_
        rw [hQ]; exact W.zret (pc := 70) hx hb hr rfl (fun t9 ht _ => ⟨retI (bi_t (by simp [couldB, c_1, c_4, c_6, c_7, c_8])), ht⟩) (fun _ h => nomatch h) dX8_could_70 hlocks
  refine lv_tableOut (pc := 1) (tgt := 71) hx hb dX8_could_1 (by (have q0 : ¬ w.toInt = 0 := fun q => c_1 (Int32.toInt_inj.mp (q.trans rfl)); have q1 : ¬ w.toInt = 1 := fun q => c_4 (Int32.toInt_inj.mp (q.trans rfl)); have q2 : ¬ w.toInt = 2 := fun q => c_6 (Int32.toInt_inj.mp (q.trans rfl)); omega)) (by decide) ?_
  refine lv_iload_n (pc := 71) hx hb dX8_could_71 rfl (lv_at hl 0 rfl) ?_
  refine lv_iconst (pc := 72) (v := 4) hx hb dX8_could_72 (by decide) ?_
  refine lv_icmp_ne (pc := 73) (tgt := 80) hx hb dX8_could_73 (by decide) (fun c_9 => ?_) (fun c_9 => ?_)
  · skip
    refine lv_iconst (pc := 80) (v := 0) hx hb dX8_could_80 (by decide) ?_
    rw [hQ]; exact W.zret (pc := 81) hx hb hr rfl (fun t9 ht _ => ⟨retI (bi_f (by simp [couldB, c_1, c_4, c_6, c_9])), ht⟩) (fun _ h => nomatch h) dX8_could_81 hlocks
  · skip
    refine lv_iconst (pc := 76) (v := 1) hx hb dX8_could_76 (by decide) ?_
    refine lv_goto (pc := 77) (tgt := 81) hx hb dX8_could_77 (by decide) ?_
    rw [hQ]; exact W.zret (pc := 81) hx hb hr rfl (fun t9 ht _ => ⟨retI (bi_t (by simp [couldB, c_1, c_4, c_6, c_9])), ht⟩) (fun _ h => nomatch h) dX8_could_81 hlocks
end
