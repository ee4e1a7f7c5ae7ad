section
variable {l : Launch} {D : va_G} {kB kI kT : ClassId} {ks sk sv : Nat}
set_option maxRecDepth 100000 in
set_option maxHeartbeats 4000000 in
theorem k_X8_within (v : Int32) (lo : Int32) (hi : Int32) : MR l yX8_within cX8_within 3 (some .boolean) 0 0 D kB kI kT ks sk sv [.int v, .int lo, .int hi] ([]) (some (.int (bi (inR v lo hi)))) := by
  refine MR.go (by decide +kernel) (Nat.le_of_ble_eq_true rfl) ?_
  intro p e s m below meth c0 args Q ls hQ hx hb hr hml hown hts hlocks hE hP hS hl
  have hl : lv_has ls 3 [(0, .int v), (1, .int lo), (2, .int hi)] := hl
  have hown : s.vm.findClass RX8 = some m.cls := hown
  refine lv_iload_n (pc := 0) hx hb dX8_within_0 rfl (lv_at hl 0 rfl) ?_
  refine lv_iload_n (pc := 1) hx hb dX8_within_1 rfl (lv_at hl 1 rfl) ?_
  refine lv_icmp_lt (pc := 2) (tgt := 14) hx hb dX8_within_2 (by decide) (fun c_1 => ?_) (fun c_1 => ?_)
  · skip
    refine lv_iconst (pc := 14) (v := 0) hx hb dX8_within_14 (by decide) ?_
    rw [hQ]; exact W.zret (pc := 15) hx hb hr rfl (fun t ht _ => ⟨retI (bi_f (fun q => absurd c_1 (Int32.not_lt.mpr q.1))), ht⟩) (fun _ h => nomatch h) dX8_within_15 hlocks
  · skip
    refine lv_iload_n (pc := 5) hx hb dX8_within_5 rfl (lv_at hl 0 rfl) ?_
    refine lv_iload_n (pc := 6) hx hb dX8_within_6 rfl (lv_at hl 2 rfl) ?_
    refine lv_icmp_gt (pc := 7) (tgt := 14) hx hb dX8_within_7 (by decide) (fun c_2 => ?_) (fun c_2 => ?_)
    · skip
      refine lv_iconst (pc := 14) (v := 0) hx hb dX8_within_14 (by decide) ?_
      rw [hQ]; exact W.zret (pc := 15) hx hb hr rfl (fun t ht _ => ⟨retI (bi_f (fun q => absurd c_2 (Int32.not_lt.mpr q.2))), ht⟩) (fun _ h => nomatch h) dX8_within_15 hlocks
    · skip
      refine lv_iconst (pc := 10) (v := 1) hx hb dX8_within_10 (by decide) ?_
      refine lv_goto (pc := 11) (tgt := 15) hx hb dX8_within_11 (by decide) ?_
      rw [hQ]; exact W.zret (pc := 15) hx hb hr rfl (fun t ht _ => ⟨retI (bi_t ⟨Int32.not_lt.mp c_1, Int32.not_lt.mp c_2⟩), ht⟩) (fun _ h => nomatch h) dX8_within_15 hlocks
set_option maxRecDepth 100000 in
set_option maxHeartbeats 4000000 in
theorem k_X8_isNight (n : Int32) : MR l yX8_isNight cX8_isNight 1 (some .boolean) 1 22 D kB kI kT ks sk sv [.int n] ([]) (some (.int (bi (inR n 0 11)))) := by
  refine MR.go (by decide +kernel) (Nat.le_of_ble_eq_true rfl) ?_
  intro p e s m below meth c0 args Q ls hQ hx hb hr hml hown hts hlocks hE hP hS hl
  have hl : lv_has ls 1 [(0, .int n)] := hl
  have hown : s.vm.findClass RX8 = some m.cls := hown
  refine lv_iload_n (pc := 0) hx hb dX8_isNight_0 rfl (lv_at hl 0 rfl) ?_
  refine lv_iconst (pc := 1) (v := 0) hx hb dX8_isNight_1 (by decide) ?_
  refine lv_bipush (pc := 2) (v := 11) hx hb dX8_isNight_2 (by decide) ?_
  refine rS (pc := 4) (rest := []) ⟨hx, hb, hml, hown, hts⟩ (k_X8_within (v := n) (lo := 0) (hi := 11)) cw_X8_86 ⟨(Nat.le_of_ble_eq_true rfl), (Nat.le_of_ble_eq_true rfl)⟩ hE hS wc0 rfl hl.1 rfl (Nat.le_of_ble_eq_true rfl) dX8_isNight_4 ⟨Nat.le_refl _, Nat.le_refl _⟩ ?_
  refine W.eq (g2 := F0 m 7 ls [.int (bi (inR n 0 11))]) rfl ?_
  rw [hQ]; exact W.zret (pc := 7) hx hb hr narrow_bi (fun t ht _ => ⟨retI (rfl), ht⟩) (fun _ h => nomatch h) dX8_isNight_7 hlocks
set_option maxRecDepth 100000 in
set_option maxHeartbeats 4000000 in
theorem k_X8_isGala {o : Nat} {a : Nat → Nat} {z : Nat → Int32} {g : Nat → Int64} {r : Nat → Nat → Int32} (t : Int32) (ht : vp_in t 5) : MR l yX8_isGala cX8_isGala 2 (some .boolean) 0 0 D kB kI kT ks sk sv [.ref o, .int t] (wR kB kI o a z g r) (some (.int (bi (isG (r 2 (ix t)))))) := by
  refine MR.go (by decide +kernel) (Nat.le_of_ble_eq_true rfl) ?_
  intro p e s m below meth c0 args Q ls hQ hx hb hr hml hown hts hlocks hE hP hS hl
  have hl : lv_has ls 2 [(0, .ref o), (1, .int t)] := hl
  have hown : s.vm.findClass RX8 = some m.cls := hown
  refine lv_aload_n (pc := 0) hx hb dX8_isGala_0 rfl (lv_at hl 0 rfl) ?_
  refine fget (pc := 1) (v := .ref (a 2)) hx hb hts hown hE hP fl_X8_7 0 rfl rfl dX8_isGala_1 ?_
  refine lv_iload_n (pc := 4) hx hb dX8_isGala_4 rfl (lv_at hl 1 rfl) ?_
  refine aldX (pc := 5) hx hb hE hP 1 rfl ht dX8_isGala_5 ?_
  refine lv_iconst (pc := 6) (v := 1) hx hb dX8_isGala_6 (by decide) ?_
  refine lv_icmp_eq (pc := 7) (tgt := 20) hx hb dX8_isGala_7 (by decide) (fun c_1 => ?_) (fun c_1 => ?_)
  · skip
    refine lv_iconst (pc := 20) (v := 1) hx hb dX8_isGala_20 (by decide) ?_
    refine lv_goto (pc := 21) (tgt := 25) hx hb dX8_isGala_21 (by decide) ?_
    rw [hQ]; exact W.zret (pc := 25) hx hb hr rfl (fun t ht _ => ⟨retI (by simp_all [bi]), ht⟩) (fun _ h => nomatch h) dX8_isGala_25 hlocks
  · skip
    refine lv_aload_n (pc := 10) hx hb dX8_isGala_10 rfl (lv_at hl 0 rfl) ?_
    refine fget (pc := 11) (v := .ref (a 2)) hx hb hts hown hE hP fl_X8_7 0 rfl rfl dX8_isGala_11 ?_
    refine lv_iload_n (pc := 14) hx hb dX8_isGala_14 rfl (lv_at hl 1 rfl) ?_
    refine aldX (pc := 15) hx hb hE hP 1 rfl ht dX8_isGala_15 ?_
    refine lv_iconst (pc := 16) (v := 2) hx hb dX8_isGala_16 (by decide) ?_
    refine lv_icmp_ne (pc := 17) (tgt := 24) hx hb dX8_isGala_17 (by decide) (fun c_2 => ?_) (fun c_2 => ?_)
    · skip
      refine lv_iconst (pc := 24) (v := 0) hx hb dX8_isGala_24 (by decide) ?_
      rw [hQ]; exact W.zret (pc := 25) hx hb hr rfl (fun t ht _ => ⟨retI (by simp_all [bi]), ht⟩) (fun _ h => nomatch h) dX8_isGala_25 hlocks
    · skip
      refine lv_iconst (pc := 20) (v := 1) hx hb dX8_isGala_20 (by decide) ?_
      refine lv_goto (pc := 21) (tgt := 25) hx hb dX8_isGala_21 (by decide) ?_
      rw [hQ]; exact W.zret (pc := 25) hx hb hr rfl (fun t ht _ => ⟨retI (by simp_all [bi]), ht⟩) (fun _ h => nomatch h) dX8_isGala_25 hlocks
set_option maxRecDepth 100000 in
set_option maxHeartbeats 4000000 in
theorem k_X8_on {o : Nat} {a : Nat → Nat} {z : Nat → Int32} {g : Nat → Int64} {r : Nat → Nat → Int32} (n : Int32) : MR l yX8_on cX8_on 2 (some .int) 2 42 D kB kI kT ks sk sv [.ref o, .int n] (wR kB kI o a z g r) (some (.int (rOn (r 8) n))) := by
  refine MR.go (by decide +kernel) (Nat.le_of_ble_eq_true rfl) ?_
  intro p e s m below meth c0 args Q ls hQ hx hb hr hml hown hts hlocks hE hP hS hl
  have hl : lv_has ls 2 [(0, .ref o), (1, .int n)] := hl
  have hown : s.vm.findClass RX8 = some m.cls := hown
  refine lv_iload_n (pc := 0) hx hb dX8_on_0 rfl (lv_at hl 1 rfl) ?_
  refine rS (pc := 1) (rest := []) ⟨hx, hb, hml, hown, hts⟩ (k_X8_isNight (n := n)) cw_X8_140 ⟨(Nat.le_of_ble_eq_true rfl), (Nat.le_of_ble_eq_true rfl)⟩ hE hS wc0 rfl hl.1 rfl (Nat.le_of_ble_eq_true rfl) dX8_on_1 ⟨Nat.le_refl _, Nat.le_refl _⟩ ?_
  refine W.eq (g2 := F0 m 4 ls [.int (bi (inR n 0 11))]) rfl ?_
  refine bif_eq (pc := 4) (tgt := 16) hx hb dX8_on_4 (by decide) (fun c_1 => ?_) (fun c_1 => ?_)
  · skip
    refine lv_iconst (pc := 16) (v := (-1)) hx hb dX8_on_16 (by decide) ?_
    rw [hQ]; exact W.iret (pc := 17) hx hb hr (fun t ht _ => ⟨retI (by simp [rOn, c_1]), ht⟩) (fun _ h => nomatch h) dX8_on_17 hlocks
  · skip
    refine lv_aload_n (pc := 7) hx hb dX8_on_7 rfl (lv_at hl 0 rfl) ?_
    refine fget (pc := 8) (v := .ref (a 8)) hx hb hts hown hE hP fl_X8_28 0 rfl rfl dX8_on_8 ?_
    refine lv_iload_n (pc := 11) hx hb dX8_on_11 rfl (lv_at hl 1 rfl) ?_
    refine aldX (pc := 12) hx hb hE hP 7 rfl (by rcases c_1 with ⟨q1, q2⟩; obtain ⟨j, hj, rfl⟩ := nI_of2 (M := 11) (n := 11) rfl (Int32.not_lt.mpr q1) q2; exact vp_in_nI (by omega) (by omega)) dX8_on_12 ?_
    refine lv_goto (pc := 13) (tgt := 17) hx hb dX8_on_13 (by decide) ?_
    rw [hQ]; exact W.iret (pc := 17) hx hb hr (fun t ht _ => ⟨retI (by simp [rOn, c_1]), ht⟩) (fun _ h => nomatch h) dX8_on_17 hlocks
set_option maxRecDepth 100000 in
set_option maxHeartbeats 4000000 in
theorem k_X8_nightsOn {o : Nat} {a : Nat → Nat} {z : Nat → Int32} {g : Nat → Int64} {r : Nat → Nat → Int32} : MR l yX8_nightsOn cX8_nightsOn 3 (some .int) 0 0 D kB kI kT ks sk sv [.ref o] (wR kB kI o a z g r) (some (.int (nI (nOn (r 8) 12)))) := by
  refine MR.go (by decide +kernel) (Nat.le_of_ble_eq_true rfl) ?_
  intro p e s m below meth c0 args Q ls hQ hx hb hr hml hown hts hlocks hE hP hS hl
  have hl : lv_has ls 3 [(0, .ref o)] := hl
  have hown : s.vm.findClass RX8 = some m.cls := hown
  refine lv_iconst (pc := 0) (v := 0) hx hb dX8_nightsOn_0 (by decide) ?_
  refine lv_istore_n (pc := 1) (lv' := [(1, .int 0), (0, .ref o)]) hx hb dX8_nightsOn_1 rfl hl (by decide) rfl (fun ls hl => ?_)
  refine lv_iconst (pc := 2) (v := 0) hx hb dX8_nightsOn_2 (by decide) ?_
  refine lv_istore_n (pc := 3) (lv' := [(2, .int 0), (1, .int 0), (0, .ref o)]) hx hb dX8_nightsOn_3 rfl hl (by decide) rfl (fun ls hl => ?_)
  have lp_1 : ∀ (fuel : Nat) (i : Nat), 12 - i < fuel → i ≤ 12 → ∀ (ls : Array Slot), lv_has ls 3 [(0, .ref o), (1, .int (nI (nOn (r 8) i))), (2, .int (nI i))] → W p l e (rmO 0 0) s m args below meth c0 s.heap [] 0 0 Q (F0 m 4 ls []) := by
    intro fuel
    induction fuel with
    | zero => intro i hfuel; exact absurd hfuel (Nat.not_lt_zero _)
    | succ fuel ih_lp_1 =>
      intro i hfuel hi ls hl
      refine lv_iload_n (pc := 4) hx hb dX8_nightsOn_4 rfl (lv_at hl 2 rfl) ?_
      refine lv_bipush (pc := 5) (v := 12) hx hb dX8_nightsOn_5 (by decide) ?_
      refine lv_icmp_ge (pc := 7) (tgt := 34) hx hb dX8_nightsOn_7 (by decide) (fun c_2 => ?_) (fun c_2 => ?_)
      · skip
        have c_2n : 12 ≤ i := (nI_leI (a := 12) (b := i) (by omega) (by omega)).mp c_2
        refine lv_iload_n (pc := 34) hx hb dX8_nightsOn_34 rfl (lv_at hl 1 rfl) ?_
        rw [hQ]; exact W.iret (pc := 35) hx hb hr (fun t ht _ => ⟨retI (by rw [show i = 12 by omega]), ht⟩) (fun _ h => nomatch h) dX8_nightsOn_35 hlocks
      · skip
        have c_2n : ¬ 12 ≤ i := fun hh => c_2 ((nI_leI (a := 12) (b := i) (by omega) (by omega)).mpr hh)
        refine lv_iload_n (pc := 10) hx hb dX8_nightsOn_10 rfl (lv_at hl 1 rfl) ?_
        refine lv_aload_n (pc := 11) hx hb dX8_nightsOn_11 rfl (lv_at hl 0 rfl) ?_
        refine fget (pc := 12) (v := .ref (a 8)) hx hb hts hown hE hP fl_X8_28 0 rfl rfl dX8_nightsOn_12 ?_
        refine lv_iload_n (pc := 15) hx hb dX8_nightsOn_15 rfl (lv_at hl 2 rfl) ?_
        refine aldN (pc := 16) hx hb hE hP 7 rfl (i) (by omega) (by omega) dX8_nightsOn_16 ?_
        refine lv_iconst (pc := 17) (v := (-1)) hx hb dX8_nightsOn_17 (by decide) ?_
        refine lv_icmp_ne (pc := 18) (tgt := 25) hx hb dX8_nightsOn_18 (by decide) (fun c_3 => ?_) (fun c_3 => ?_)
        · skip
          refine lv_iconst (pc := 25) (v := 1) hx hb dX8_nightsOn_25 (by decide) ?_
          refine iaddV (pc := 26) (v := nI (nOn (r 8) i + 1)) hx hb dX8_nightsOn_26 (nI_add (nOn (r 8) i) (1)) ?_
          refine lv_istore_n (pc := 27) (lv' := [(1, .int (nI (nOn (r 8) i + 1))), (0, .ref o), (2, .int (nI i))]) hx hb dX8_nightsOn_27 rfl hl (by decide) rfl (fun ls hl => ?_)
          refine lv_iinc (pc := 28) (v := nI (i + 1)) (lv' := [(2, .int (nI (i + 1))), (1, .int (nI (nOn (r 8) i + 1))), (0, .ref o)]) hx hb dX8_nightsOn_28 hl (k := 2) rfl (nI_add (i) 1) (by decide) rfl (fun ls hl => ?_)
          refine lv_goto (pc := 31) (tgt := 4) hx hb dX8_nightsOn_31 (by decide) ?_
          exact ih_lp_1 (i + 1) (by omega) (by omega) ls (by rw [show (nI (nOn (r 8) (i + 1)) : Int32) = nI (nOn (r 8) i + 1) from (by simp [nOn, cntP, c_2, c_3])]; exact lv_sub hl [2, 1, 0] rfl)
        · skip
          refine lv_iconst (pc := 21) (v := 0) hx hb dX8_nightsOn_21 (by decide) ?_
          refine lv_goto (pc := 22) (tgt := 26) hx hb dX8_nightsOn_22 (by decide) ?_
          refine iaddV (pc := 26) (v := nI (nOn (r 8) i + 0)) hx hb dX8_nightsOn_26 (nI_add (nOn (r 8) i) (0)) ?_
          refine lv_istore_n (pc := 27) (lv' := [(1, .int (nI (nOn (r 8) i + 0))), (0, .ref o), (2, .int (nI i))]) hx hb dX8_nightsOn_27 rfl hl (by decide) rfl (fun ls hl => ?_)
          refine lv_iinc (pc := 28) (v := nI (i + 1)) (lv' := [(2, .int (nI (i + 1))), (1, .int (nI (nOn (r 8) i + 0))), (0, .ref o)]) hx hb dX8_nightsOn_28 hl (k := 2) rfl (nI_add (i) 1) (by decide) rfl (fun ls hl => ?_)
          refine lv_goto (pc := 31) (tgt := 4) hx hb dX8_nightsOn_31 (by decide) ?_
          exact ih_lp_1 (i + 1) (by omega) (by omega) ls (by rw [show (nI (nOn (r 8) (i + 1)) : Int32) = nI (nOn (r 8) i + 0) from (by simp [nOn, cntP, c_2, c_3])]; exact lv_sub hl [2, 1, 0] rfl)
  exact lp_1 _ 0 (Nat.lt_succ_self _) (by omega) ls (lv_sub hl [2, 1, 0] rfl)
set_option maxRecDepth 100000 in
set_option maxHeartbeats 4000000 in
theorem k_X8_nightsOf {o : Nat} {a : Nat → Nat} {z : Nat → Int32} {g : Nat → Int64} {r : Nat → Nat → Int32} (t : Int32) (b : Nat) (hb12 : b ≤ 12) : MR l yX8_nightsOf cX8_nightsOf 5 (some .int) 0 0 D kB kI kT ks sk sv [.ref o, .int t, .int (nI b)] (wR kB kI o a z g r) (some (.int (nI (nOf (r 8) t b)))) := by
  refine MR.go (by decide +kernel) (Nat.le_of_ble_eq_true rfl) ?_
  intro p e s m below meth c0 args Q ls hQ hx hb hr hml hown hts hlocks hE hP hS hl
  have hl : lv_has ls 5 [(0, .ref o), (1, .int t), (2, .int (nI b))] := hl
  have hown : s.vm.findClass RX8 = some m.cls := hown
  refine lv_iconst (pc := 0) (v := 0) hx hb dX8_nightsOf_0 (by decide) ?_
  refine lv_istore_n (pc := 1) (lv' := [(3, .int 0), (0, .ref o), (1, .int t), (2, .int (nI b))]) hx hb dX8_nightsOf_1 rfl hl (by decide) rfl (fun ls hl => ?_)
  refine lv_iconst (pc := 2) (v := 0) hx hb dX8_nightsOf_2 (by decide) ?_
  refine lv_istore (pc := 3) (lv' := [(4, .int 0), (3, .int 0), (0, .ref o), (1, .int t), (2, .int (nI b))]) hx hb dX8_nightsOf_3 hl (by decide) rfl (fun ls hl => ?_)
  have lp_1 : ∀ (fuel : Nat) (i : Nat), b - i < fuel → i ≤ b → ∀ (ls : Array Slot), lv_has ls 5 [(0, .ref o), (1, .int t), (2, .int (nI b)), (3, .int (nI (nOf (r 8) t i))), (4, .int (nI i))] → W p l e (rmO 0 0) s m args below meth c0 s.heap [] 0 0 Q (F0 m 5 ls []) := by
    intro fuel
    induction fuel with
    | zero => intro i hfuel; exact absurd hfuel (Nat.not_lt_zero _)
    | succ fuel ih_lp_1 =>
      intro i hfuel hi ls hl
      refine lv_iload (pc := 5) hx hb dX8_nightsOf_5 (lv_at hl 4 rfl) ?_
      refine lv_iload_n (pc := 7) hx hb dX8_nightsOf_7 rfl (lv_at hl 2 rfl) ?_
      refine lv_icmp_ge (pc := 8) (tgt := 36) hx hb dX8_nightsOf_8 (by decide) (fun c_2 => ?_) (fun c_2 => ?_)
      · skip
        have c_2n : b ≤ i := (nI_leI (a := b) (b := i) (by omega) (by omega)).mp c_2
        refine lv_iload_n (pc := 36) hx hb dX8_nightsOf_36 rfl (lv_at hl 3 rfl) ?_
        rw [hQ]; exact W.iret (pc := 37) hx hb hr (fun t ht _ => ⟨retI (by rw [show i = b by omega]), ht⟩) (fun _ h => nomatch h) dX8_nightsOf_37 hlocks
      · skip
        have c_2n : ¬ b ≤ i := fun hh => c_2 ((nI_leI (a := b) (b := i) (by omega) (by omega)).mpr hh)
        refine lv_iload_n (pc := 11) hx hb dX8_nightsOf_11 rfl (lv_at hl 3 rfl) ?_
        refine lv_aload_n (pc := 12) hx hb dX8_nightsOf_12 rfl (lv_at hl 0 rfl) ?_
        refine fget (pc := 13) (v := .ref (a 8)) hx hb hts hown hE hP fl_X8_28 0 rfl rfl dX8_nightsOf_13 ?_
        refine lv_iload (pc := 16) hx hb dX8_nightsOf_16 (lv_at hl 4 rfl) ?_
        refine aldN (pc := 18) hx hb hE hP 7 rfl (i) (by omega) (by omega) dX8_nightsOf_18 ?_
        refine lv_iload_n (pc := 19) hx hb dX8_nightsOf_19 rfl (lv_at hl 1 rfl) ?_
        refine lv_icmp_ne (pc := 20) (tgt := 27) hx hb dX8_nightsOf_20 (by decide) (fun c_3 => ?_) (fun c_3 => ?_)
        · skip
          refine lv_iconst (pc := 27) (v := 0) hx hb dX8_nightsOf_27 (by decide) ?_
          refine iaddV (pc := 28) (v := nI (nOf (r 8) t i + 0)) hx hb dX8_nightsOf_28 (nI_add (nOf (r 8) t i) (0)) ?_
          refine lv_istore_n (pc := 29) (lv' := [(3, .int (nI (nOf (r 8) t i + 0))), (0, .ref o), (1, .int t), (2, .int (nI b)), (4, .int (nI i))]) hx hb dX8_nightsOf_29 rfl hl (by decide) rfl (fun ls hl => ?_)
          refine lv_iinc (pc := 30) (v := nI (i + 1)) (lv' := [(4, .int (nI (i + 1))), (3, .int (nI (nOf (r 8) t i + 0))), (0, .ref o), (1, .int t), (2, .int (nI b))]) hx hb dX8_nightsOf_30 hl (k := 4) rfl (nI_add (i) 1) (by decide) rfl (fun ls hl => ?_)
          refine lv_goto (pc := 33) (tgt := 5) hx hb dX8_nightsOf_33 (by decide) ?_
          exact ih_lp_1 (i + 1) (by omega) (by omega) ls (by rw [show (nI (nOf (r 8) t (i + 1)) : Int32) = nI (nOf (r 8) t i + 0) from (by simp [nOf, cntP, c_2, c_3])]; exact lv_sub hl [2, 3, 4, 1, 0] rfl)
        · skip
          refine lv_iconst (pc := 23) (v := 1) hx hb dX8_nightsOf_23 (by decide) ?_
          refine lv_goto (pc := 24) (tgt := 28) hx hb dX8_nightsOf_24 (by decide) ?_
          refine iaddV (pc := 28) (v := nI (nOf (r 8) t i + 1)) hx hb dX8_nightsOf_28 (nI_add (nOf (r 8) t i) (1)) ?_
          refine lv_istore_n (pc := 29) (lv' := [(3, .int (nI (nOf (r 8) t i + 1))), (0, .ref o), (1, .int t), (2, .int (nI b)), (4, .int (nI i))]) hx hb dX8_nightsOf_29 rfl hl (by decide) rfl (fun ls hl => ?_)
          refine lv_iinc (pc := 30) (v := nI (i + 1)) (lv' := [(4, .int (nI (i + 1))), (3, .int (nI (nOf (r 8) t i + 1))), (0, .ref o), (1, .int t), (2, .int (nI b))]) hx hb dX8_nightsOf_30 hl (k := 4) rfl (nI_add (i) 1) (by decide) rfl (fun ls hl => ?_)
          refine lv_goto (pc := 33) (tgt := 5) hx hb dX8_nightsOf_33 (by decide) ?_
          exact ih_lp_1 (i + 1) (by omega) (by omega) ls (by rw [show (nI (nOf (r 8) t (i + 1)) : Int32) = nI (nOf (r 8) t i + 1) from (by simp [nOf, cntP, c_2, c_3])]; exact lv_sub hl [2, 3, 4, 1, 0] rfl)
  exact lp_1 _ 0 (Nat.lt_succ_self _) (by omega) ls (lv_sub hl [2, 3, 4, 1, 0] rfl)
set_option maxRecDepth 100000 in
set_option maxHeartbeats 4000000 in
theorem k_X8_hasCast {o : Nat} {a : Nat → Nat} {z : Nat → Int32} {g : Nat → Int64} {r : Nat → Nat → Int32} (x : Int32) (cast : Int32) {n : Nat} (hok : okP n (r 8)) (hn5 : n ≤ 5) : MR l yX8_hasCast cX8_hasCast 3 (some .boolean) 3 63 D kB kI kT ks sk sv [.ref o, .int x, .int cast] (wR kB kI o a z g r) (some (.int (bi (hasC (r 4) (r 8) x cast)))) := by
  refine MR.go (by decide +kernel) (Nat.le_of_ble_eq_true rfl) ?_
  intro p e s m below meth c0 args Q ls hQ hx hb hr hml hown hts hlocks hE hP hS hl
  have hl : lv_has ls 3 [(0, .ref o), (1, .int x), (2, .int cast)] := hl
  have hown : s.vm.findClass RX8 = some m.cls := hown
  refine lv_aload_n (pc := 0) hx hb dX8_hasCast_0 rfl (lv_at hl 0 rfl) ?_
  refine lv_iload_n (pc := 1) hx hb dX8_hasCast_1 rfl (lv_at hl 1 rfl) ?_
  refine rV (pc := 2) (rest := []) ⟨hx, hb, hml, hown, hts⟩ (k_X8_on (n := x)) cw_X8_143 ⟨(Nat.le_of_ble_eq_true rfl), (Nat.le_of_ble_eq_true rfl)⟩ hE hS hP rfl rfl rfl rfl hl.1 rfl (Nat.le_of_ble_eq_true rfl) dX8_hasCast_2 ⟨Nat.le_refl _, Nat.le_refl _⟩ ?_
  refine W.eq (g2 := F0 m 5 ls [.int (rOn ((r 8)) x)]) rfl ?_
  refine lv_iconst (pc := 5) (v := (-1)) hx hb dX8_hasCast_5 (by decide) ?_
  refine lv_icmp_eq (pc := 6) (tgt := 27) hx hb dX8_hasCast_6 (by decide) (fun c_1 => ?_) (fun c_1 => ?_)
  · skip
    refine lv_iconst (pc := 27) (v := 0) hx hb dX8_hasCast_27 (by decide) ?_
    rw [hQ]; exact W.zret (pc := 28) hx hb hr rfl (fun t ht _ => ⟨retI (bi_f (fun q => q.1 c_1)), ht⟩) (fun _ h => nomatch h) dX8_hasCast_28 hlocks
  · skip
    refine lv_aload_n (pc := 9) hx hb dX8_hasCast_9 rfl (lv_at hl 0 rfl) ?_
    refine fget (pc := 10) (v := .ref (a 4)) hx hb hts hown hE hP fl_X8_16 0 rfl rfl dX8_hasCast_10 ?_
    refine lv_aload_n (pc := 13) hx hb dX8_hasCast_13 rfl (lv_at hl 0 rfl) ?_
    refine lv_iload_n (pc := 14) hx hb dX8_hasCast_14 rfl (lv_at hl 1 rfl) ?_
    refine rV (pc := 15) (rest := [.ref (a 4)]) ⟨hx, hb, hml, hown, hts⟩ (k_X8_on (n := x)) cw_X8_143 ⟨(Nat.le_of_ble_eq_true rfl), (Nat.le_of_ble_eq_true rfl)⟩ hE hS hP rfl rfl rfl rfl hl.1 rfl (Nat.le_of_ble_eq_true rfl) dX8_hasCast_15 ⟨Nat.le_refl _, Nat.le_refl _⟩ ?_
    refine W.eq (g2 := F0 m 18 ls [.int (rOn ((r 8)) x), .ref (a 4)]) rfl ?_
    refine aldX (pc := 18) hx hb hE hP 3 rfl (rOn_in hok hn5 c_1) dX8_hasCast_18 ?_
    refine lv_iload_n (pc := 19) hx hb dX8_hasCast_19 rfl (lv_at hl 2 rfl) ?_
    refine lv_icmp_ne (pc := 20) (tgt := 27) hx hb dX8_hasCast_20 (by decide) (fun c_2 => ?_) (fun c_2 => ?_)
    · skip
      refine lv_iconst (pc := 27) (v := 0) hx hb dX8_hasCast_27 (by decide) ?_
      rw [hQ]; exact W.zret (pc := 28) hx hb hr rfl (fun t ht _ => ⟨retI (bi_f (fun q => c_2 q.2)), ht⟩) (fun _ h => nomatch h) dX8_hasCast_28 hlocks
    · skip
      refine lv_iconst (pc := 23) (v := 1) hx hb dX8_hasCast_23 (by decide) ?_
      refine lv_goto (pc := 24) (tgt := 28) hx hb dX8_hasCast_24 (by decide) ?_
      rw [hQ]; exact W.zret (pc := 28) hx hb hr rfl (fun t ht _ => ⟨retI (bi_t ⟨c_1, c_2⟩), ht⟩) (fun _ h => nomatch h) dX8_hasCast_28 hlocks
set_option maxRecDepth 100000 in
set_option maxHeartbeats 4000000 in
theorem k_X8_isCastBehind {o : Nat} {a : Nat → Nat} {z : Nat → Int32} {g : Nat → Int64} {r : Nat → Nat → Int32} (i : Nat) (cast : Int32) {n : Nat} (hok : okP n (r 8)) (hn5 : n ≤ 5) (hi : i < 12) : MR l yX8_isCastBehind cX8_isCastBehind 5 (some .boolean) 4 85 D kB kI kT ks sk sv [.ref o, .int (nI i), .int cast] (wR kB kI o a z g r) (some (.int (bi (cBeh (r 4) (r 8) i cast (11 - i) = true)))) := by
  refine MR.go (by decide +kernel) (Nat.le_of_ble_eq_true rfl) ?_
  intro p e s m below meth c0 args Q ls hQ hx hb hr hml hown hts hlocks hE hP hS hl
  have hl : lv_has ls 5 [(0, .ref o), (1, .int (nI i)), (2, .int cast)] := hl
  have hown : s.vm.findClass RX8 = some m.cls := hown
  refine lv_iconst (pc := 0) (v := 0) hx hb dX8_isCastBehind_0 (by decide) ?_
  refine lv_istore_n (pc := 1) (lv' := [(3, .int 0), (0, .ref o), (1, .int (nI i)), (2, .int cast)]) hx hb dX8_isCastBehind_1 rfl hl (by decide) rfl (fun ls hl => ?_)
  refine lv_iload_n (pc := 2) hx hb dX8_isCastBehind_2 rfl (lv_at hl 2 rfl) ?_
  refine lv_iconst (pc := 3) (v := 1) hx hb dX8_isCastBehind_3 (by decide) ?_
  refine iaddV (pc := 4) (v := nI (i + 1)) hx hb dX8_isCastBehind_4 (nI_add (i) (1)) ?_
  refine lv_istore (pc := 5) (lv' := [(4, .int (nI (i + 1))), (3, .int 0), (0, .ref o), (1, .int (nI i)), (2, .int cast)]) hx hb dX8_isCastBehind_5 hl (by decide) rfl (fun ls hl => ?_)
  have lp_1 : ∀ (fuel : Nat) (j : Nat), 12 - (i + 1 + j) < fuel → i + 1 + j ≤ 12 → ∀ (ls : Array Slot), lv_has ls 5 [(0, .ref o), (1, .int (nI i)), (2, .int cast), (3, .int (bi (cBeh (r 4) (r 8) i cast j = true))), (4, .int (nI (i + 1 + j)))] → W p l e (rmO 4 85) s m args below meth c0 s.heap [] 0 0 Q (F0 m 7 ls []) := by
    intro fuel
    induction fuel with
    | zero => intro j hfuel; exact absurd hfuel (Nat.not_lt_zero _)
    | succ fuel ih_lp_1 =>
      intro j hfuel hj ls hl
      refine lv_iload (pc := 7) hx hb dX8_isCastBehind_7 (lv_at hl 4 rfl) ?_
      refine lv_bipush (pc := 9) (v := 12) hx hb dX8_isCastBehind_9 (by decide) ?_
      refine lv_icmp_ge (pc := 11) (tgt := 40) hx hb dX8_isCastBehind_11 (by decide) (fun c_2 => ?_) (fun c_2 => ?_)
      · skip
        have c_2n : 12 ≤ (i + 1 + j) := (nI_leI (a := 12) (b := i + 1 + j) (by omega) (by omega)).mp c_2
        refine lv_iload_n (pc := 40) hx hb dX8_isCastBehind_40 rfl (lv_at hl 3 rfl) ?_
        rw [hQ]; exact W.zret (pc := 41) hx hb hr narrow_bi (fun t ht _ => ⟨retI (by rw [show j = 11 - i by omega]), ht⟩) (fun _ h => nomatch h) dX8_isCastBehind_41 hlocks
      · skip
        have c_2n : ¬ 12 ≤ (i + 1 + j) := fun hh => c_2 ((nI_leI (a := 12) (b := i + 1 + j) (by omega) (by omega)).mpr hh)
        refine lv_iload_n (pc := 14) hx hb dX8_isCastBehind_14 rfl (lv_at hl 3 rfl) ?_
        refine bif_ne (pc := 15) (tgt := 28) hx hb dX8_isCastBehind_15 (by decide) (fun c_3 => ?_) (fun c_3 => ?_)
        · skip
          refine lv_iconst (pc := 28) (v := 1) hx hb dX8_isCastBehind_28 (by decide) ?_
          refine lv_goto (pc := 29) (tgt := 33) hx hb dX8_isCastBehind_29 (by decide) ?_
          refine lv_istore_n (pc := 33) (lv' := [(3, .int 1), (0, .ref o), (1, .int (nI i)), (2, .int cast), (4, .int (nI (i + 1 + j)))]) hx hb dX8_isCastBehind_33 rfl hl (by decide) rfl (fun ls hl => ?_)
          refine lv_iinc (pc := 34) (v := nI (i + 1 + j + 1)) (lv' := [(4, .int (nI (i + 1 + j + 1))), (3, .int 1), (0, .ref o), (1, .int (nI i)), (2, .int cast)]) hx hb dX8_isCastBehind_34 hl (k := 4) rfl (nI_add (i + 1 + j) 1) (by decide) rfl (fun ls hl => ?_)
          refine lv_goto (pc := 37) (tgt := 7) hx hb dX8_isCastBehind_37 (by decide) ?_
          exact ih_lp_1 (j + 1) (by omega) (by omega) ls (by rw [show (bi (cBeh (r 4) (r 8) i cast (j + 1) = true) : Int32) = 1 from (by simp_all [cBeh, anyB, bi])]; exact lv_sub hl [2, 3, 4, 1, 0] rfl)
        · skip
          refine lv_aload_n (pc := 18) hx hb dX8_isCastBehind_18 rfl (lv_at hl 0 rfl) ?_
          refine lv_iload (pc := 19) hx hb dX8_isCastBehind_19 (lv_at hl 4 rfl) ?_
          refine lv_iload_n (pc := 21) hx hb dX8_isCastBehind_21 rfl (lv_at hl 2 rfl) ?_
          refine rV (pc := 22) (rest := []) ⟨hx, hb, hml, hown, hts⟩ (k_X8_hasCast (x := nI (i + 1 + j)) (cast := cast) (hok := (by first | assumption | omega)) (hn5 := (by first | assumption | omega))) cw_X8_146 ⟨(Nat.le_of_ble_eq_true rfl), (Nat.le_of_ble_eq_true rfl)⟩ hE hS hP rfl rfl rfl rfl hl.1 rfl (Nat.le_of_ble_eq_true rfl) dX8_isCastBehind_22 ⟨Nat.le_refl _, Nat.le_refl _⟩ ?_
          refine W.eq (g2 := F0 m 25 ls [.int (bi (hasC ((r 4)) ((r 8)) (nI (i + 1 + j)) cast))]) rfl ?_
          refine bif_eq (pc := 25) (tgt := 32) hx hb dX8_isCastBehind_25 (by decide) (fun c_4 => ?_) (fun c_4 => ?_)
          · skip
            refine lv_iconst (pc := 32) (v := 0) hx hb dX8_isCastBehind_32 (by decide) ?_
            refine lv_istore_n (pc := 33) (lv' := [(3, .int 0), (0, .ref o), (1, .int (nI i)), (2, .int cast), (4, .int (nI (i + 1 + j)))]) hx hb dX8_isCastBehind_33 rfl hl (by decide) rfl (fun ls hl => ?_)
            refine lv_iinc (pc := 34) (v := nI (i + 1 + j + 1)) (lv' := [(4, .int (nI (i + 1 + j + 1))), (3, .int 0), (0, .ref o), (1, .int (nI i)), (2, .int cast)]) hx hb dX8_isCastBehind_34 hl (k := 4) rfl (nI_add (i + 1 + j) 1) (by decide) rfl (fun ls hl => ?_)
            refine lv_goto (pc := 37) (tgt := 7) hx hb dX8_isCastBehind_37 (by decide) ?_
            exact ih_lp_1 (j + 1) (by omega) (by omega) ls (by rw [show (bi (cBeh (r 4) (r 8) i cast (j + 1) = true) : Int32) = 0 from (by simp_all [cBeh, anyB, bi])]; exact lv_sub hl [2, 3, 4, 1, 0] rfl)
          · skip
            refine lv_iconst (pc := 28) (v := 1) hx hb dX8_isCastBehind_28 (by decide) ?_
            refine lv_goto (pc := 29) (tgt := 33) hx hb dX8_isCastBehind_29 (by decide) ?_
            refine lv_istore_n (pc := 33) (lv' := [(3, .int 1), (0, .ref o), (1, .int (nI i)), (2, .int cast), (4, .int (nI (i + 1 + j)))]) hx hb dX8_isCastBehind_33 rfl hl (by decide) rfl (fun ls hl => ?_)
            refine lv_iinc (pc := 34) (v := nI (i + 1 + j + 1)) (lv' := [(4, .int (nI (i + 1 + j + 1))), (3, .int 1), (0, .ref o), (1, .int (nI i)), (2, .int cast)]) hx hb dX8_isCastBehind_34 hl (k := 4) rfl (nI_add (i + 1 + j) 1) (by decide) rfl (fun ls hl => ?_)
            refine lv_goto (pc := 37) (tgt := 7) hx hb dX8_isCastBehind_37 (by decide) ?_
            exact ih_lp_1 (j + 1) (by omega) (by omega) ls (by rw [show (bi (cBeh (r 4) (r 8) i cast (j + 1) = true) : Int32) = 1 from (by simp_all [cBeh, anyB, bi])]; exact lv_sub hl [2, 3, 4, 1, 0] rfl)
  exact lp_1 _ 0 (Nat.lt_succ_self _) (by omega) ls (lv_sub hl [2, 3, 4, 1, 0] rfl)
set_option maxRecDepth 100000 in
set_option maxHeartbeats 4000000 in
theorem k_X8_breaksAt {o : Nat} {a : Nat → Nat} {z : Nat → Int32} {g : Nat → Int64} {r : Nat → Nat → Int32} (i : Nat) {n : Nat} (hok : okP n (r 8)) (hn5 : n ≤ 5) (hi : i < 12) : MR l yX8_breaksAt cX8_breaksAt 3 (some .int) 5 109 D kB kI kT ks sk sv [.ref o, .int (nI i)] (wR kB kI o a z g r) (some (.int (brk (r 2) (r 3) (r 4) (r 5) (r 6) (r 8) i))) := by
  refine MR.go (by decide +kernel) (Nat.le_of_ble_eq_true rfl) ?_
  intro p e s m below meth c0 args Q ls hQ hx hb hr hml hown hts hlocks hE hP hS hl
  have hl : lv_has ls 3 [(0, .ref o), (1, .int (nI i))] := hl
  have hown : s.vm.findClass RX8 = some m.cls := hown
  refine lv_aload_n (pc := 0) hx hb dX8_breaksAt_0 rfl (lv_at hl 0 rfl) ?_
  refine fget (pc := 1) (v := .ref (a 8)) hx hb hts hown hE hP fl_X8_28 0 rfl rfl dX8_breaksAt_1 ?_
  refine lv_iload_n (pc := 4) hx hb dX8_breaksAt_4 rfl (lv_at hl 1 rfl) ?_
  refine aldN (pc := 5) hx hb hE hP 7 rfl (i) (by omega) (by omega) dX8_breaksAt_5 ?_
  refine lv_istore_n (pc := 6) (lv' := [(2, .int ((r 8) i)), (0, .ref o), (1, .int (nI i))]) hx hb dX8_breaksAt_6 rfl hl (by decide) rfl (fun ls hl => ?_)
  refine lv_iload_n (pc := 7) hx hb dX8_breaksAt_7 rfl (lv_at hl 0 rfl) ?_
  refine lv_iconst (pc := 8) (v := (-1)) hx hb dX8_breaksAt_8 (by decide) ?_
  refine lv_icmp_ne (pc := 9) (tgt := 14) hx hb dX8_breaksAt_9 (by decide) (fun c_1 => ?_) (fun c_1 => ?_)
  · skip
    refine lv_iload_n (pc := 14) hx hb dX8_breaksAt_14 rfl (lv_at hl 2 rfl) ?_
    refine lv_aload_n (pc := 15) hx hb dX8_breaksAt_15 rfl (lv_at hl 1 rfl) ?_
    refine fget (pc := 16) (v := .ref (a 5)) hx hb hts hown hE hP fl_X8_19 0 rfl rfl dX8_breaksAt_16 ?_
    refine lv_iload_n (pc := 19) hx hb dX8_breaksAt_19 rfl (lv_at hl 0 rfl) ?_
    refine aldX (pc := 20) hx hb hE hP 4 rfl (okP_in hok hn5 hi c_1) dX8_breaksAt_20 ?_
    refine lv_aload_n (pc := 21) hx hb dX8_breaksAt_21 rfl (lv_at hl 1 rfl) ?_
    refine fget (pc := 22) (v := .ref (a 6)) hx hb hts hown hE hP fl_X8_22 0 rfl rfl dX8_breaksAt_22 ?_
    refine lv_iload_n (pc := 25) hx hb dX8_breaksAt_25 rfl (lv_at hl 0 rfl) ?_
    refine aldX (pc := 26) hx hb hE hP 5 rfl (okP_in hok hn5 hi c_1) dX8_breaksAt_26 ?_
    refine rS (pc := 27) (rest := []) ⟨hx, hb, hml, hown, hts⟩ (k_X8_within (v := nI i) (lo := (r 5) (ix ((r 8) i))) (hi := (r 6) (ix ((r 8) i)))) cw_X8_86 ⟨(Nat.le_of_ble_eq_true rfl), (Nat.le_of_ble_eq_true rfl)⟩ hE hS wc0 rfl hl.1 rfl (Nat.le_of_ble_eq_true rfl) dX8_breaksAt_27 ⟨Nat.le_refl _, Nat.le_refl _⟩ ?_
    refine W.eq (g2 := F0 m 30 ls [.int (bi (inR (nI i) ((r 5) (ix ((r 8) i))) ((r 6) (ix ((r 8) i)))))]) rfl ?_
    refine bif_ne (pc := 30) (tgt := 35) hx hb dX8_breaksAt_30 (by decide) (fun c_2 => ?_) (fun c_2 => ?_)
    · skip
      have jn_3 : ¬ (¬ rOn (r 8) (nI i - 1) = -1 ∧ ¬ r 3 (ix (rOn (r 8) (nI i - 1))) = r 3 (ix (r 8 i))) → W p l e (rmO 5 109) s m args below meth c0 s.heap [] 0 0 Q (F0 m 69 ls []) := by
        intro cj_4
        have jn_5 : ¬ (hasC (r 4) (r 8) (nI i - 1) (r 4 (ix (r 8 i))) ∧ hasC (r 4) (r 8) (nI i - 2) (r 4 (ix (r 8 i)))) → W p l e (rmO 5 109) s m args below meth c0 s.heap [] 0 0 Q (F0 m 103 ls []) := by
          intro cj_6
          have jn_7 : ¬ (isG (r 2 (ix (r 8 i))) ∧ 0 < nOf (r 8) (r 8 i) i) → W p l e (rmO 5 109) s m args below meth c0 s.heap [] 0 0 Q (F0 m 122 ls []) := by
            intro cj_8
            have jn_9 : ¬ (r 2 (ix (r 8 i)) = 2 ∧ cBeh (r 4) (r 8) i (r 4 (ix (r 8 i))) (11 - i) = true) → W p l e (rmO 5 109) s m args below meth c0 s.heap [] 0 0 Q (F0 m 148 ls []) := by
              intro cj_10
              refine lv_aload_n (pc := 148) hx hb dX8_breaksAt_148 rfl (lv_at hl 1 rfl) ?_
              refine fget (pc := 149) (v := .ref (a 2)) hx hb hts hown hE hP fl_X8_7 0 rfl rfl dX8_breaksAt_149 ?_
              refine lv_iload_n (pc := 152) hx hb dX8_breaksAt_152 rfl (lv_at hl 0 rfl) ?_
              refine aldX (pc := 153) hx hb hE hP 1 rfl (okP_in hok hn5 hi c_1) dX8_breaksAt_153 ?_
              refine lv_iconst (pc := 154) (v := 3) hx hb dX8_breaksAt_154 (by decide) ?_
              refine lv_icmp_ne (pc := 155) (tgt := 185) hx hb dX8_breaksAt_155 (by decide) (fun c_11 => ?_) (fun c_11 => ?_)
              · skip
                refine lv_iconst (pc := 185) (v := 0) hx hb dX8_breaksAt_185 (by decide) ?_
                rw [hQ]; exact W.iret (pc := 186) hx hb hr (fun t ht _ => ⟨retI (by unfold brk; rw [if_neg c_1, if_neg (fun q => q c_2), if_neg cj_4, if_neg cj_6, if_neg cj_8, if_neg cj_10, if_neg (by simp_all)]), ht⟩) (fun _ h => nomatch h) dX8_breaksAt_186 hlocks
              · skip
                refine lv_aload_n (pc := 158) hx hb dX8_breaksAt_158 rfl (lv_at hl 1 rfl) ?_
                refine lv_iload_n (pc := 159) hx hb dX8_breaksAt_159 rfl (lv_at hl 2 rfl) ?_
                refine lv_iconst (pc := 160) (v := 1) hx hb dX8_breaksAt_160 (by decide) ?_
                refine lv_isub (pc := 161) hx hb dX8_breaksAt_161 ?_
                refine rV (pc := 162) (rest := []) ⟨hx, hb, hml, hown, hts⟩ (k_X8_on (n := (nI i) - 1)) cw_X8_143 ⟨(Nat.le_of_ble_eq_true rfl), (Nat.le_of_ble_eq_true rfl)⟩ hE hS hP rfl rfl rfl rfl hl.1 rfl (Nat.le_of_ble_eq_true rfl) dX8_breaksAt_162 ⟨Nat.le_refl _, Nat.le_refl _⟩ ?_
                refine W.eq (g2 := F0 m 165 ls [.int (rOn ((r 8)) ((nI i) - 1))]) rfl ?_
                refine lv_iload_n (pc := 165) hx hb dX8_breaksAt_165 rfl (lv_at hl 0 rfl) ?_
                refine lv_icmp_eq (pc := 166) (tgt := 185) hx hb dX8_breaksAt_166 (by decide) (fun c_12 => ?_) (fun c_12 => ?_)
                · skip
                  refine lv_iconst (pc := 185) (v := 0) hx hb dX8_breaksAt_185 (by decide) ?_
                  rw [hQ]; exact W.iret (pc := 186) hx hb hr (fun t ht _ => ⟨retI (by unfold brk; rw [if_neg c_1, if_neg (fun q => q c_2), if_neg cj_4, if_neg cj_6, if_neg cj_8, if_neg cj_10, if_neg (by simp_all)]), ht⟩) (fun _ h => nomatch h) dX8_breaksAt_186 hlocks
                · skip
                  refine lv_aload_n (pc := 169) hx hb dX8_breaksAt_169 rfl (lv_at hl 1 rfl) ?_
                  refine lv_iload_n (pc := 170) hx hb dX8_breaksAt_170 rfl (lv_at hl 2 rfl) ?_
                  refine lv_iconst (pc := 171) (v := 1) hx hb dX8_breaksAt_171 (by decide) ?_
                  refine iaddV (pc := 172) (v := nI (i + 1)) hx hb dX8_breaksAt_172 (nI_add (i) (1)) ?_
                  refine rV (pc := 173) (rest := []) ⟨hx, hb, hml, hown, hts⟩ (k_X8_on (n := nI (i + 1))) cw_X8_143 ⟨(Nat.le_of_ble_eq_true rfl), (Nat.le_of_ble_eq_true rfl)⟩ hE hS hP rfl rfl rfl rfl hl.1 rfl (Nat.le_of_ble_eq_true rfl) dX8_breaksAt_173 ⟨Nat.le_refl _, Nat.le_refl _⟩ ?_
                  refine W.eq (g2 := F0 m 176 ls [.int (rOn ((r 8)) (nI (i + 1)))]) rfl ?_
                  refine lv_iload_n (pc := 176) hx hb dX8_breaksAt_176 rfl (lv_at hl 0 rfl) ?_
                  refine lv_icmp_eq (pc := 177) (tgt := 185) hx hb dX8_breaksAt_177 (by decide) (fun c_13 => ?_) (fun c_13 => ?_)
                  · skip
                    refine lv_iconst (pc := 185) (v := 0) hx hb dX8_breaksAt_185 (by decide) ?_
                    rw [hQ]; exact W.iret (pc := 186) hx hb hr (fun t ht _ => ⟨retI (by unfold brk; rw [if_neg c_1, if_neg (fun q => q c_2), if_neg cj_4, if_neg cj_6, if_neg cj_8, if_neg cj_10, if_neg (by simp_all)]), ht⟩) (fun _ h => nomatch h) dX8_breaksAt_186 hlocks
                  · skip
                    refine lv_bipush (pc := 180) (v := 6) hx hb dX8_breaksAt_180 (by decide) ?_
                    refine lv_goto (pc := 182) (tgt := 186) hx hb dX8_breaksAt_182 (by decide) ?_
                    rw [hQ]; exact W.iret (pc := 186) hx hb hr (fun t ht _ => ⟨retI (by unfold brk; rw [if_neg c_1, if_neg (fun q => q c_2), if_neg cj_4, if_neg cj_6, if_neg cj_8, if_neg cj_10, if_pos ⟨c_11, c_12, c_13⟩]), ht⟩) (fun _ h => nomatch h) dX8_breaksAt_186 hlocks
            refine lv_aload_n (pc := 122) hx hb dX8_breaksAt_122 rfl (lv_at hl 1 rfl) ?_
            refine fget (pc := 123) (v := .ref (a 2)) hx hb hts hown hE hP fl_X8_7 0 rfl rfl dX8_breaksAt_123 ?_
            refine lv_iload_n (pc := 126) hx hb dX8_breaksAt_126 rfl (lv_at hl 0 rfl) ?_
            refine aldX (pc := 127) hx hb hE hP 1 rfl (okP_in hok hn5 hi c_1) dX8_breaksAt_127 ?_
            refine lv_iconst (pc := 128) (v := 2) hx hb dX8_breaksAt_128 (by decide) ?_
            refine lv_icmp_ne (pc := 129) (tgt := 148) hx hb dX8_breaksAt_129 (by decide) (fun c_14 => ?_) (fun c_14 => ?_)
            · skip
              exact jn_9 (fun q => c_14 q.1)
            · skip
              refine lv_aload_n (pc := 132) hx hb dX8_breaksAt_132 rfl (lv_at hl 1 rfl) ?_
              refine lv_iload_n (pc := 133) hx hb dX8_breaksAt_133 rfl (lv_at hl 2 rfl) ?_
              refine lv_aload_n (pc := 134) hx hb dX8_breaksAt_134 rfl (lv_at hl 1 rfl) ?_
              refine fget (pc := 135) (v := .ref (a 4)) hx hb hts hown hE hP fl_X8_16 0 rfl rfl dX8_breaksAt_135 ?_
              refine lv_iload_n (pc := 138) hx hb dX8_breaksAt_138 rfl (lv_at hl 0 rfl) ?_
              refine aldX (pc := 139) hx hb hE hP 3 rfl (okP_in hok hn5 hi c_1) dX8_breaksAt_139 ?_
              refine rV (pc := 140) (rest := []) ⟨hx, hb, hml, hown, hts⟩ (k_X8_isCastBehind (i := i) (cast := (r 4) (ix ((r 8) i))) (hok := (by first | assumption | omega)) (hn5 := (by first | assumption | omega)) (hi := (by first | assumption | omega))) cw_X8_157 ⟨(Nat.le_of_ble_eq_true rfl), (Nat.le_of_ble_eq_true rfl)⟩ hE hS hP rfl rfl rfl rfl hl.1 rfl (Nat.le_of_ble_eq_true rfl) dX8_breaksAt_140 ⟨Nat.le_refl _, Nat.le_refl _⟩ ?_
              refine W.eq (g2 := F0 m 143 ls [.int (bi (cBeh ((r 4)) ((r 8)) i ((r 4) (ix ((r 8) i))) (11 - i) = true))]) rfl ?_
              refine bif_eq (pc := 143) (tgt := 148) hx hb dX8_breaksAt_143 (by decide) (fun c_15 => ?_) (fun c_15 => ?_)
              · skip
                exact jn_9 (fun q => c_15 q.2)
              · skip
                refine lv_iconst (pc := 146) (v := 5) hx hb dX8_breaksAt_146 (by decide) ?_
                rw [hQ]; exact W.iret (pc := 147) hx hb hr (fun t ht _ => ⟨retI (by unfold brk; rw [if_neg c_1, if_neg (fun q => q c_2), if_neg cj_4, if_neg cj_6, if_neg cj_8, if_pos ⟨c_14, c_15⟩]), ht⟩) (fun _ h => nomatch h) dX8_breaksAt_147 hlocks
          refine lv_aload_n (pc := 103) hx hb dX8_breaksAt_103 rfl (lv_at hl 1 rfl) ?_
          refine lv_iload_n (pc := 104) hx hb dX8_breaksAt_104 rfl (lv_at hl 0 rfl) ?_
          refine rV (pc := 105) (rest := []) ⟨hx, hb, hml, hown, hts⟩ (k_X8_isGala (t := (r 8) i) (ht := okP_in hok hn5 hi c_1)) cw_X8_150 ⟨(Nat.le_of_ble_eq_true rfl), (Nat.le_of_ble_eq_true rfl)⟩ hE hS hP rfl rfl rfl rfl hl.1 rfl (Nat.le_of_ble_eq_true rfl) dX8_breaksAt_105 ⟨Nat.le_refl _, Nat.le_refl _⟩ ?_
          refine W.eq (g2 := F0 m 108 ls [.int (bi (isG ((r 2) (ix ((r 8) i)))))]) rfl ?_
          refine bif_eq (pc := 108) (tgt := 122) hx hb dX8_breaksAt_108 (by decide) (fun c_16 => ?_) (fun c_16 => ?_)
          · skip
            exact jn_7 (fun q => c_16 q.1)
          · skip
            refine lv_aload_n (pc := 111) hx hb dX8_breaksAt_111 rfl (lv_at hl 1 rfl) ?_
            refine lv_iload_n (pc := 112) hx hb dX8_breaksAt_112 rfl (lv_at hl 0 rfl) ?_
            refine lv_iload_n (pc := 113) hx hb dX8_breaksAt_113 rfl (lv_at hl 2 rfl) ?_
            refine rV (pc := 114) (rest := []) ⟨hx, hb, hml, hown, hts⟩ (k_X8_nightsOf (t := (r 8) i) (b := i) (hb12 := (by omega))) cw_X8_153 ⟨(Nat.le_of_ble_eq_true rfl), (Nat.le_of_ble_eq_true rfl)⟩ hE hS hP rfl rfl rfl rfl hl.1 rfl (Nat.le_of_ble_eq_true rfl) dX8_breaksAt_114 ⟨Nat.le_refl _, Nat.le_refl _⟩ ?_
            refine W.eq (g2 := F0 m 117 ls [.int (nI (nOf ((r 8)) ((r 8) i) i))]) rfl ?_
            have hnb : nOf (r 8) (r 8 i) i ≤ i := cntP_le _ _
            refine lv_if_le (pc := 117) (tgt := 122) hx hb dX8_breaksAt_117 (by decide) (fun c_17 => ?_) (fun c_17 => ?_)
            · skip
              have c_17n : (nOf ((r 8)) ((r 8) i) i) ≤ 0 := (nI_leI (a := nOf ((r 8)) ((r 8) i) i) (b := 0) (by omega) (by omega)).mp c_17
              exact jn_7 (fun q => (Nat.not_lt.mpr c_17n) q.2)
            · skip
              have c_17n : ¬ (nOf ((r 8)) ((r 8) i) i) ≤ 0 := fun hh => c_17 ((nI_leI (a := nOf ((r 8)) ((r 8) i) i) (b := 0) (by omega) (by omega)).mpr hh)
              refine lv_iconst (pc := 120) (v := 4) hx hb dX8_breaksAt_120 (by decide) ?_
              rw [hQ]; exact W.iret (pc := 121) hx hb hr (fun t ht _ => ⟨retI (by unfold brk; rw [if_neg c_1, if_neg (fun q => q c_2), if_neg cj_4, if_neg cj_6, if_pos ⟨c_16, Nat.lt_of_not_le c_17n⟩]), ht⟩) (fun _ h => nomatch h) dX8_breaksAt_121 hlocks
        refine lv_aload_n (pc := 69) hx hb dX8_breaksAt_69 rfl (lv_at hl 1 rfl) ?_
        refine lv_iload_n (pc := 70) hx hb dX8_breaksAt_70 rfl (lv_at hl 2 rfl) ?_
        refine lv_iconst (pc := 71) (v := 1) hx hb dX8_breaksAt_71 (by decide) ?_
        refine lv_isub (pc := 72) hx hb dX8_breaksAt_72 ?_
        refine lv_aload_n (pc := 73) hx hb dX8_breaksAt_73 rfl (lv_at hl 1 rfl) ?_
        refine fget (pc := 74) (v := .ref (a 4)) hx hb hts hown hE hP fl_X8_16 0 rfl rfl dX8_breaksAt_74 ?_
        refine lv_iload_n (pc := 77) hx hb dX8_breaksAt_77 rfl (lv_at hl 0 rfl) ?_
        refine aldX (pc := 78) hx hb hE hP 3 rfl (okP_in hok hn5 hi c_1) dX8_breaksAt_78 ?_
        refine rV (pc := 79) (rest := []) ⟨hx, hb, hml, hown, hts⟩ (k_X8_hasCast (x := (nI i) - 1) (cast := (r 4) (ix ((r 8) i))) (hok := (by first | assumption | omega)) (hn5 := (by first | assumption | omega))) cw_X8_146 ⟨(Nat.le_of_ble_eq_true rfl), (Nat.le_of_ble_eq_true rfl)⟩ hE hS hP rfl rfl rfl rfl hl.1 rfl (Nat.le_of_ble_eq_true rfl) dX8_breaksAt_79 ⟨Nat.le_refl _, Nat.le_refl _⟩ ?_
        refine W.eq (g2 := F0 m 82 ls [.int (bi (hasC ((r 4)) ((r 8)) ((nI i) - 1) ((r 4) (ix ((r 8) i)))))]) rfl ?_
        refine bif_eq (pc := 82) (tgt := 103) hx hb dX8_breaksAt_82 (by decide) (fun c_18 => ?_) (fun c_18 => ?_)
        · skip
          exact jn_5 (fun q => c_18 q.1)
        · skip
          refine lv_aload_n (pc := 85) hx hb dX8_breaksAt_85 rfl (lv_at hl 1 rfl) ?_
          refine lv_iload_n (pc := 86) hx hb dX8_breaksAt_86 rfl (lv_at hl 2 rfl) ?_
          refine lv_iconst (pc := 87) (v := 2) hx hb dX8_breaksAt_87 (by decide) ?_
          refine lv_isub (pc := 88) hx hb dX8_breaksAt_88 ?_
          refine lv_aload_n (pc := 89) hx hb dX8_breaksAt_89 rfl (lv_at hl 1 rfl) ?_
          refine fget (pc := 90) (v := .ref (a 4)) hx hb hts hown hE hP fl_X8_16 0 rfl rfl dX8_breaksAt_90 ?_
          refine lv_iload_n (pc := 93) hx hb dX8_breaksAt_93 rfl (lv_at hl 0 rfl) ?_
          refine aldX (pc := 94) hx hb hE hP 3 rfl (okP_in hok hn5 hi c_1) dX8_breaksAt_94 ?_
          refine rV (pc := 95) (rest := []) ⟨hx, hb, hml, hown, hts⟩ (k_X8_hasCast (x := (nI i) - 2) (cast := (r 4) (ix ((r 8) i))) (hok := (by first | assumption | omega)) (hn5 := (by first | assumption | omega))) cw_X8_146 ⟨(Nat.le_of_ble_eq_true rfl), (Nat.le_of_ble_eq_true rfl)⟩ hE hS hP rfl rfl rfl rfl hl.1 rfl (Nat.le_of_ble_eq_true rfl) dX8_breaksAt_95 ⟨Nat.le_refl _, Nat.le_refl _⟩ ?_
          refine W.eq (g2 := F0 m 98 ls [.int (bi (hasC ((r 4)) ((r 8)) ((nI i) - 2) ((r 4) (ix ((r 8) i)))))]) rfl ?_
          refine bif_eq (pc := 98) (tgt := 103) hx hb dX8_breaksAt_98 (by decide) (fun c_19 => ?_) (fun c_19 => ?_)
          · skip
            exact jn_5 (fun q => c_19 q.2)
          · skip
            refine lv_iconst (pc := 101) (v := 3) hx hb dX8_breaksAt_101 (by decide) ?_
            rw [hQ]; exact W.iret (pc := 102) hx hb hr (fun t ht _ => ⟨retI (by unfold brk; rw [if_neg c_1, if_neg (fun q => q c_2), if_neg cj_4, if_pos ⟨c_18, c_19⟩]), ht⟩) (fun _ h => nomatch h) dX8_breaksAt_102 hlocks
      refine lv_aload_n (pc := 35) hx hb dX8_breaksAt_35 rfl (lv_at hl 1 rfl) ?_
      refine lv_iload_n (pc := 36) hx hb dX8_breaksAt_36 rfl (lv_at hl 2 rfl) ?_
      refine lv_iconst (pc := 37) (v := 1) hx hb dX8_breaksAt_37 (by decide) ?_
      refine lv_isub (pc := 38) hx hb dX8_breaksAt_38 ?_
      refine rV (pc := 39) (rest := []) ⟨hx, hb, hml, hown, hts⟩ (k_X8_on (n := (nI i) - 1)) cw_X8_143 ⟨(Nat.le_of_ble_eq_true rfl), (Nat.le_of_ble_eq_true rfl)⟩ hE hS hP rfl rfl rfl rfl hl.1 rfl (Nat.le_of_ble_eq_true rfl) dX8_breaksAt_39 ⟨Nat.le_refl _, Nat.le_refl _⟩ ?_
      refine W.eq (g2 := F0 m 42 ls [.int (rOn ((r 8)) ((nI i) - 1))]) rfl ?_
      refine lv_iconst (pc := 42) (v := (-1)) hx hb dX8_breaksAt_42 (by decide) ?_
      refine lv_icmp_eq (pc := 43) (tgt := 69) hx hb dX8_breaksAt_43 (by decide) (fun c_20 => ?_) (fun c_20 => ?_)
      · skip
        exact jn_3 (fun q => q.1 c_20)
      · skip
        refine lv_aload_n (pc := 46) hx hb dX8_breaksAt_46 rfl (lv_at hl 1 rfl) ?_
        refine fget (pc := 47) (v := .ref (a 3)) hx hb hts hown hE hP fl_X8_13 0 rfl rfl dX8_breaksAt_47 ?_
        refine lv_aload_n (pc := 50) hx hb dX8_breaksAt_50 rfl (lv_at hl 1 rfl) ?_
        refine lv_iload_n (pc := 51) hx hb dX8_breaksAt_51 rfl (lv_at hl 2 rfl) ?_
        refine lv_iconst (pc := 52) (v := 1) hx hb dX8_breaksAt_52 (by decide) ?_
        refine lv_isub (pc := 53) hx hb dX8_breaksAt_53 ?_
        refine rV (pc := 54) (rest := [.ref (a 3)]) ⟨hx, hb, hml, hown, hts⟩ (k_X8_on (n := (nI i) - 1)) cw_X8_143 ⟨(Nat.le_of_ble_eq_true rfl), (Nat.le_of_ble_eq_true rfl)⟩ hE hS hP rfl rfl rfl rfl hl.1 rfl (Nat.le_of_ble_eq_true rfl) dX8_breaksAt_54 ⟨Nat.le_refl _, Nat.le_refl _⟩ ?_
        refine W.eq (g2 := F0 m 57 ls [.int (rOn ((r 8)) ((nI i) - 1)), .ref (a 3)]) rfl ?_
        refine aldX (pc := 57) hx hb hE hP 2 rfl (rOn_in hok hn5 c_20) dX8_breaksAt_57 ?_
        refine lv_aload_n (pc := 58) hx hb dX8_breaksAt_58 rfl (lv_at hl 1 rfl) ?_
        refine fget (pc := 59) (v := .ref (a 3)) hx hb hts hown hE hP fl_X8_13 0 rfl rfl dX8_breaksAt_59 ?_
        refine lv_iload_n (pc := 62) hx hb dX8_breaksAt_62 rfl (lv_at hl 0 rfl) ?_
        refine aldX (pc := 63) hx hb hE hP 2 rfl (okP_in hok hn5 hi c_1) dX8_breaksAt_63 ?_
        refine lv_icmp_eq (pc := 64) (tgt := 69) hx hb dX8_breaksAt_64 (by decide) (fun c_21 => ?_) (fun c_21 => ?_)
        · skip
          exact jn_3 (fun q => q.2 c_21)
        · skip
          refine lv_iconst (pc := 67) (v := 2) hx hb dX8_breaksAt_67 (by decide) ?_
          rw [hQ]; exact W.iret (pc := 68) hx hb hr (fun t ht _ => ⟨retI (by unfold brk; rw [if_neg c_1, if_neg (fun q => q c_2), if_pos ⟨c_20, c_21⟩]), ht⟩) (fun _ h => nomatch h) dX8_breaksAt_68 hlocks
    · skip
      refine lv_iconst (pc := 33) (v := 1) hx hb dX8_breaksAt_33 (by decide) ?_
      rw [hQ]; exact W.iret (pc := 34) hx hb hr (fun t ht _ => ⟨retI (by unfold brk; rw [if_neg c_1, if_pos c_2]), ht⟩) (fun _ h => nomatch h) dX8_breaksAt_34 hlocks
  · skip
    refine lv_iconst (pc := 12) (v := 0) hx hb dX8_breaksAt_12 (by decide) ?_
    rw [hQ]; exact W.iret (pc := 13) hx hb hr (fun t ht _ => ⟨retI (by unfold brk; rw [if_pos c_1]), ht⟩) (fun _ h => nomatch h) dX8_breaksAt_13 hlocks
set_option maxRecDepth 100000 in
set_option maxHeartbeats 4000000 in
theorem k_X8_draws {o : Nat} {a : Nat → Nat} {z : Nat → Int32} {g : Nat → Int64} {r : Nat → Nat → Int32} (x : Int32) (t : Int32) {n : Nat} (hok : okP n (r 8)) (hn5 : n ≤ 5) : MR l yX8_draws cX8_draws 3 (some .boolean) 3 63 D kB kI kT ks sk sv [.ref o, .int x, .int t] (wR kB kI o a z g r) (some (.int (bi (draws (r 2) (r 8) x t)))) := by
  refine MR.go (by decide +kernel) (Nat.le_of_ble_eq_true rfl) ?_
  intro p e s m below meth c0 args Q ls hQ hx hb hr hml hown hts hlocks hE hP hS hl
  have hl : lv_has ls 3 [(0, .ref o), (1, .int x), (2, .int t)] := hl
  have hown : s.vm.findClass RX8 = some m.cls := hown
  refine lv_aload_n (pc := 0) hx hb dX8_draws_0 rfl (lv_at hl 0 rfl) ?_
  refine lv_iload_n (pc := 1) hx hb dX8_draws_1 rfl (lv_at hl 1 rfl) ?_
  refine rV (pc := 2) (rest := []) ⟨hx, hb, hml, hown, hts⟩ (k_X8_on (n := x)) cw_X8_143 ⟨(Nat.le_of_ble_eq_true rfl), (Nat.le_of_ble_eq_true rfl)⟩ hE hS hP rfl rfl rfl rfl hl.1 rfl (Nat.le_of_ble_eq_true rfl) dX8_draws_2 ⟨Nat.le_refl _, Nat.le_refl _⟩ ?_
  refine W.eq (g2 := F0 m 5 ls [.int (rOn ((r 8)) x)]) rfl ?_
  refine lv_iconst (pc := 5) (v := (-1)) hx hb dX8_draws_5 (by decide) ?_
  refine lv_icmp_eq (pc := 6) (tgt := 36) hx hb dX8_draws_6 (by decide) (fun c_1 => ?_) (fun c_1 => ?_)
  · skip
    refine lv_iconst (pc := 36) (v := 0) hx hb dX8_draws_36 (by decide) ?_
    rw [hQ]; exact W.zret (pc := 37) hx hb hr rfl (fun t ht _ => ⟨retI (bi_f (fun q => q.1 c_1)), ht⟩) (fun _ h => nomatch h) dX8_draws_37 hlocks
  · skip
    refine lv_aload_n (pc := 9) hx hb dX8_draws_9 rfl (lv_at hl 0 rfl) ?_
    refine lv_iload_n (pc := 10) hx hb dX8_draws_10 rfl (lv_at hl 1 rfl) ?_
    refine rV (pc := 11) (rest := []) ⟨hx, hb, hml, hown, hts⟩ (k_X8_on (n := x)) cw_X8_143 ⟨(Nat.le_of_ble_eq_true rfl), (Nat.le_of_ble_eq_true rfl)⟩ hE hS hP rfl rfl rfl rfl hl.1 rfl (Nat.le_of_ble_eq_true rfl) dX8_draws_11 ⟨Nat.le_refl _, Nat.le_refl _⟩ ?_
    refine W.eq (g2 := F0 m 14 ls [.int (rOn ((r 8)) x)]) rfl ?_
    refine lv_iload_n (pc := 14) hx hb dX8_draws_14 rfl (lv_at hl 2 rfl) ?_
    refine lv_icmp_eq (pc := 15) (tgt := 36) hx hb dX8_draws_15 (by decide) (fun c_2 => ?_) (fun c_2 => ?_)
    · skip
      refine lv_iconst (pc := 36) (v := 0) hx hb dX8_draws_36 (by decide) ?_
      rw [hQ]; exact W.zret (pc := 37) hx hb hr rfl (fun t ht _ => ⟨retI (bi_f (fun q => q.2.1 c_2)), ht⟩) (fun _ h => nomatch h) dX8_draws_37 hlocks
    · skip
      refine lv_aload_n (pc := 18) hx hb dX8_draws_18 rfl (lv_at hl 0 rfl) ?_
      refine fget (pc := 19) (v := .ref (a 2)) hx hb hts hown hE hP fl_X8_7 0 rfl rfl dX8_draws_19 ?_
      refine lv_aload_n (pc := 22) hx hb dX8_draws_22 rfl (lv_at hl 0 rfl) ?_
      refine lv_iload_n (pc := 23) hx hb dX8_draws_23 rfl (lv_at hl 1 rfl) ?_
      refine rV (pc := 24) (rest := [.ref (a 2)]) ⟨hx, hb, hml, hown, hts⟩ (k_X8_on (n := x)) cw_X8_143 ⟨(Nat.le_of_ble_eq_true rfl), (Nat.le_of_ble_eq_true rfl)⟩ hE hS hP rfl rfl rfl rfl hl.1 rfl (Nat.le_of_ble_eq_true rfl) dX8_draws_24 ⟨Nat.le_refl _, Nat.le_refl _⟩ ?_
      refine W.eq (g2 := F0 m 27 ls [.int (rOn ((r 8)) x), .ref (a 2)]) rfl ?_
      refine aldX (pc := 27) hx hb hE hP 1 rfl (rOn_in hok hn5 c_1) dX8_draws_27 ?_
      refine lv_iconst (pc := 28) (v := 4) hx hb dX8_draws_28 (by decide) ?_
      refine lv_icmp_ne (pc := 29) (tgt := 36) hx hb dX8_draws_29 (by decide) (fun c_3 => ?_) (fun c_3 => ?_)
      · skip
        refine lv_iconst (pc := 36) (v := 0) hx hb dX8_draws_36 (by decide) ?_
        rw [hQ]; exact W.zret (pc := 37) hx hb hr rfl (fun t ht _ => ⟨retI (bi_f (fun q => c_3 q.2.2)), ht⟩) (fun _ h => nomatch h) dX8_draws_37 hlocks
      · skip
        refine lv_iconst (pc := 32) (v := 1) hx hb dX8_draws_32 (by decide) ?_
        refine lv_goto (pc := 33) (tgt := 37) hx hb dX8_draws_33 (by decide) ?_
        rw [hQ]; exact W.zret (pc := 37) hx hb hr rfl (fun t ht _ => ⟨retI (bi_t ⟨c_1, c_2, c_3⟩), ht⟩) (fun _ h => nomatch h) dX8_draws_37 hlocks
set_option maxRecDepth 100000 in
set_option maxHeartbeats 4000000 in
theorem k_X8_seatsAt {o : Nat} {a : Nat → Nat} {z : Nat → Int32} {g : Nat → Int64} {r : Nat → Nat → Int32} (i : Nat) {n : Nat} (hok : okP n (r 8)) (hn5 : n ≤ 5) (hi : i < 12) : MR l yX8_seatsAt cX8_seatsAt 6 (some .int) 4 85 D kB kI kT ks sk sv [.ref o, .int (nI i)] (wR kB kI o a z g r) (some (.int (sts (r 2) (r 7) (r 8) i))) := by
  refine MR.go (by decide +kernel) (Nat.le_of_ble_eq_true rfl) ?_
  intro p e s m below meth c0 args Q ls hQ hx hb hr hml hown hts hlocks hE hP hS hl
  have hl : lv_has ls 6 [(0, .ref o), (1, .int (nI i))] := hl
  have hown : s.vm.findClass RX8 = some m.cls := hown
  refine lv_aload_n (pc := 0) hx hb dX8_seatsAt_0 rfl (lv_at hl 0 rfl) ?_
  refine fget (pc := 1) (v := .ref (a 8)) hx hb hts hown hE hP fl_X8_28 0 rfl rfl dX8_seatsAt_1 ?_
  refine lv_iload_n (pc := 4) hx hb dX8_seatsAt_4 rfl (lv_at hl 1 rfl) ?_
  refine aldN (pc := 5) hx hb hE hP 7 rfl (i) (by omega) (by omega) dX8_seatsAt_5 ?_
  refine lv_istore_n (pc := 6) (lv' := [(2, .int ((r 8) i)), (0, .ref o), (1, .int (nI i))]) hx hb dX8_seatsAt_6 rfl hl (by decide) rfl (fun ls hl => ?_)
  refine lv_iload_n (pc := 7) hx hb dX8_seatsAt_7 rfl (lv_at hl 0 rfl) ?_
  refine lv_iconst (pc := 8) (v := (-1)) hx hb dX8_seatsAt_8 (by decide) ?_
  refine lv_icmp_ne (pc := 9) (tgt := 14) hx hb dX8_seatsAt_9 (by decide) (fun c_1 => ?_) (fun c_1 => ?_)
  · skip
    refine lv_bipush (pc := 14) (v := 100) hx hb dX8_seatsAt_14 (by decide) ?_
    refine lv_aload_n (pc := 16) hx hb dX8_seatsAt_16 rfl (lv_at hl 1 rfl) ?_
    refine fget (pc := 17) (v := .ref (a 7)) hx hb hts hown hE hP fl_X8_25 0 rfl rfl dX8_seatsAt_17 ?_
    refine lv_iload_n (pc := 20) hx hb dX8_seatsAt_20 rfl (lv_at hl 0 rfl) ?_
    refine aldX (pc := 21) hx hb hE hP 6 rfl (okP_in hok hn5 hi c_1) dX8_seatsAt_21 ?_
    refine lv_imul (pc := 22) hx hb dX8_seatsAt_22 ?_
    refine lv_istore_n (pc := 23) (lv' := [(3, .int (100 * ((r 7) (ix ((r 8) i))))), (2, .int ((r 8) i)), (0, .ref o), (1, .int (nI i))]) hx hb dX8_seatsAt_23 rfl hl (by decide) rfl (fun ls hl => ?_)
    refine lv_aload_n (pc := 24) hx hb dX8_seatsAt_24 rfl (lv_at hl 2 rfl) ?_
    refine lv_iload_n (pc := 25) hx hb dX8_seatsAt_25 rfl (lv_at hl 1 rfl) ?_
    refine lv_iload_n (pc := 26) hx hb dX8_seatsAt_26 rfl (lv_at hl 3 rfl) ?_
    refine rV (pc := 27) (rest := []) ⟨hx, hb, hml, hown, hts⟩ (k_X8_nightsOf (t := (r 8) i) (b := i) (hb12 := (by omega))) cw_X8_153 ⟨(Nat.le_of_ble_eq_true rfl), (Nat.le_of_ble_eq_true rfl)⟩ hE hS hP rfl rfl rfl rfl hl.1 rfl (Nat.le_of_ble_eq_true rfl) dX8_seatsAt_27 ⟨Nat.le_refl _, Nat.le_refl _⟩ ?_
    refine W.eq (g2 := F0 m 30 ls [.int (nI (nOf ((r 8)) ((r 8) i) i))]) rfl ?_
    have hnb : nOf (r 8) (r 8 i) i ≤ i := cntP_le _ _
    refine lv_istore (pc := 30) (lv' := [(4, .int (nI (nOf ((r 8)) ((r 8) i) i))), (3, .int (100 * ((r 7) (ix ((r 8) i))))), (2, .int ((r 8) i)), (0, .ref o), (1, .int (nI i))]) hx hb dX8_seatsAt_30 hl (by decide) rfl (fun ls hl => ?_)
    refine lv_iconst (pc := 32) (v := 0) hx hb dX8_seatsAt_32 (by decide) ?_
    refine lv_istore (pc := 33) (lv' := [(5, .int 0), (4, .int (nI (nOf ((r 8)) ((r 8) i) i))), (3, .int (100 * ((r 7) (ix ((r 8) i))))), (2, .int ((r 8) i)), (0, .ref o), (1, .int (nI i))]) hx hb dX8_seatsAt_33 hl (by decide) rfl (fun ls hl => ?_)
    have lp_2 : ∀ (fuel : Nat) (k : Nat), 3 - k < fuel → k ≤ 3 → k ≤ nOf (r 8) (r 8 i) i → ∀ (ls : Array Slot), lv_has ls 6 [(0, .ref o), (1, .int (nI i)), (2, .int (r 8 i)), (3, .int (fade (100 * r 7 (ix (r 8 i))) k)), (4, .int (nI (nOf (r 8) (r 8 i) i))), (5, .int (nI k))] → W p l e (rmO 4 85) s m args below meth c0 s.heap [] 0 0 Q (F0 m 35 ls []) := by
      intro fuel
      induction fuel with
      | zero => intro k hfuel; exact absurd hfuel (Nat.not_lt_zero _)
      | succ fuel ih_lp_2 =>
        intro k hfuel hk hk2 ls hl
        refine lv_iload (pc := 35) hx hb dX8_seatsAt_35 (lv_at hl 5 rfl) ?_
        refine lv_iload (pc := 37) hx hb dX8_seatsAt_37 (lv_at hl 4 rfl) ?_
        refine lv_icmp_ge (pc := 39) (tgt := 62) hx hb dX8_seatsAt_39 (by decide) (fun c_3 => ?_) (fun c_3 => ?_)
        · skip
          have c_3n : (nOf (r 8) (r 8 i) i) ≤ k := (nI_leI (a := nOf (r 8) (r 8 i) i) (b := k) (by omega) (by omega)).mp c_3
          have hk3 : min (nOf (r 8) (r 8 i) i) 3 = k := by omega
          refine lv_aload_n (pc := 62) hx hb dX8_seatsAt_62 rfl (lv_at hl 0 rfl) ?_
          refine lv_iload_n (pc := 63) hx hb dX8_seatsAt_63 rfl (lv_at hl 2 rfl) ?_
          refine rV (pc := 64) (rest := []) ⟨hx, hb, hml, hown, hts⟩ (k_X8_isGala (t := r 8 i) (ht := okP_in hok hn5 hi c_1)) cw_X8_150 ⟨(Nat.le_of_ble_eq_true rfl), (Nat.le_of_ble_eq_true rfl)⟩ hE hS hP rfl rfl rfl rfl hl.1 rfl (Nat.le_of_ble_eq_true rfl) dX8_seatsAt_64 ⟨Nat.le_refl _, Nat.le_refl _⟩ ?_
          refine W.eq (g2 := F0 m 67 ls [.int (bi (isG ((r 2) (ix (r 8 i)))))]) rfl ?_
          refine bif_eq (pc := 67) (tgt := 78) hx hb dX8_seatsAt_67 (by decide) (fun c_4 => ?_) (fun c_4 => ?_)
          · skip
            refine lv_iload_n (pc := 78) hx hb dX8_seatsAt_78 rfl (lv_at hl 3 rfl) ?_
            refine lv_istore_n (pc := 79) (lv' := [(3, .int (fade (100 * r 7 (ix (r 8 i))) k)), (0, .ref o), (1, .int (nI i)), (2, .int (r 8 i)), (4, .int (nI (nOf (r 8) (r 8 i) i))), (5, .int (nI k))]) hx hb dX8_seatsAt_79 rfl hl (by decide) rfl (fun ls hl => ?_)
            refine lv_aload_n (pc := 80) hx hb dX8_seatsAt_80 rfl (lv_at hl 1 rfl) ?_
            refine lv_iload_n (pc := 81) hx hb dX8_seatsAt_81 rfl (lv_at hl 2 rfl) ?_
            refine lv_iconst (pc := 82) (v := 1) hx hb dX8_seatsAt_82 (by decide) ?_
            refine lv_isub (pc := 83) hx hb dX8_seatsAt_83 ?_
            refine lv_iload_n (pc := 84) hx hb dX8_seatsAt_84 rfl (lv_at hl 3 rfl) ?_
            refine rV (pc := 85) (rest := []) ⟨hx, hb, hml, hown, hts⟩ (k_X8_draws (x := (nI i) - 1) (t := r 8 i) (hok := (by first | assumption | omega)) (hn5 := (by first | assumption | omega))) cw_X8_160 ⟨(Nat.le_of_ble_eq_true rfl), (Nat.le_of_ble_eq_true rfl)⟩ hE hS hP rfl rfl rfl rfl hl.1 rfl (Nat.le_of_ble_eq_true rfl) dX8_seatsAt_85 ⟨Nat.le_refl _, Nat.le_refl _⟩ ?_
            refine W.eq (g2 := F0 m 88 ls [.int (bi (draws ((r 2)) ((r 8)) ((nI i) - 1) (r 8 i)))]) rfl ?_
            refine bif_ne (pc := 88) (tgt := 102) hx hb dX8_seatsAt_88 (by decide) (fun c_5 => ?_) (fun c_5 => ?_)
            · skip
              refine lv_iload_n (pc := 102) hx hb dX8_seatsAt_102 rfl (lv_at hl 0 rfl) ?_
              refine lv_bipush (pc := 103) (v := 50) hx hb dX8_seatsAt_103 (by decide) ?_
              refine lv_iadd (pc := 105) hx hb dX8_seatsAt_105 ?_
              refine lv_goto (pc := 106) (tgt := 110) hx hb dX8_seatsAt_106 (by decide) ?_
              rw [hQ]; exact W.iret (pc := 110) hx hb hr (fun t ht _ => ⟨retI (by unfold sts; rw [hk3, if_neg c_1, if_pos (Or.inl c_5), if_neg c_4]), ht⟩) (fun _ h => nomatch h) dX8_seatsAt_110 hlocks
            · skip
              refine lv_aload_n (pc := 91) hx hb dX8_seatsAt_91 rfl (lv_at hl 1 rfl) ?_
              refine lv_iload_n (pc := 92) hx hb dX8_seatsAt_92 rfl (lv_at hl 2 rfl) ?_
              refine lv_iconst (pc := 93) (v := 1) hx hb dX8_seatsAt_93 (by decide) ?_
              refine iaddV (pc := 94) (v := nI (i + 1)) hx hb dX8_seatsAt_94 (nI_add (i) (1)) ?_
              refine lv_iload_n (pc := 95) hx hb dX8_seatsAt_95 rfl (lv_at hl 3 rfl) ?_
              refine rV (pc := 96) (rest := []) ⟨hx, hb, hml, hown, hts⟩ (k_X8_draws (x := nI (i + 1)) (t := r 8 i) (hok := (by first | assumption | omega)) (hn5 := (by first | assumption | omega))) cw_X8_160 ⟨(Nat.le_of_ble_eq_true rfl), (Nat.le_of_ble_eq_true rfl)⟩ hE hS hP rfl rfl rfl rfl hl.1 rfl (Nat.le_of_ble_eq_true rfl) dX8_seatsAt_96 ⟨Nat.le_refl _, Nat.le_refl _⟩ ?_
              refine W.eq (g2 := F0 m 99 ls [.int (bi (draws ((r 2)) ((r 8)) (nI (i + 1)) (r 8 i)))]) rfl ?_
              refine bif_eq (pc := 99) (tgt := 109) hx hb dX8_seatsAt_99 (by decide) (fun c_6 => ?_) (fun c_6 => ?_)
              · skip
                refine lv_iload_n (pc := 109) hx hb dX8_seatsAt_109 rfl (lv_at hl 0 rfl) ?_
                rw [hQ]; exact W.iret (pc := 110) hx hb hr (fun t ht _ => ⟨retI (by unfold sts; rw [hk3, if_neg c_1, if_neg (fun q => q.elim c_5 c_6), if_neg c_4]), ht⟩) (fun _ h => nomatch h) dX8_seatsAt_110 hlocks
              · skip
                refine lv_iload_n (pc := 102) hx hb dX8_seatsAt_102 rfl (lv_at hl 0 rfl) ?_
                refine lv_bipush (pc := 103) (v := 50) hx hb dX8_seatsAt_103 (by decide) ?_
                refine lv_iadd (pc := 105) hx hb dX8_seatsAt_105 ?_
                refine lv_goto (pc := 106) (tgt := 110) hx hb dX8_seatsAt_106 (by decide) ?_
                rw [hQ]; exact W.iret (pc := 110) hx hb hr (fun t ht _ => ⟨retI (by unfold sts; rw [hk3, if_neg c_1, if_pos (Or.inr c_6), if_neg c_4]), ht⟩) (fun _ h => nomatch h) dX8_seatsAt_110 hlocks
          · skip
            refine lv_iconst (pc := 70) (v := 3) hx hb dX8_seatsAt_70 (by decide) ?_
            refine lv_iload_n (pc := 71) hx hb dX8_seatsAt_71 rfl (lv_at hl 3 rfl) ?_
            refine lv_imul (pc := 72) hx hb dX8_seatsAt_72 ?_
            refine lv_iconst (pc := 73) (v := 2) hx hb dX8_seatsAt_73 (by decide) ?_
            refine lv_idiv (pc := 74) hx hb dX8_seatsAt_74 (by decide) ?_
            refine lv_goto (pc := 75) (tgt := 79) hx hb dX8_seatsAt_75 (by decide) ?_
            refine lv_istore_n (pc := 79) (lv' := [(3, .int ((3 * (fade (100 * r 7 (ix (r 8 i))) k)) / 2)), (0, .ref o), (1, .int (nI i)), (2, .int (r 8 i)), (4, .int (nI (nOf (r 8) (r 8 i) i))), (5, .int (nI k))]) hx hb dX8_seatsAt_79 rfl hl (by decide) rfl (fun ls hl => ?_)
            refine lv_aload_n (pc := 80) hx hb dX8_seatsAt_80 rfl (lv_at hl 1 rfl) ?_
            refine lv_iload_n (pc := 81) hx hb dX8_seatsAt_81 rfl (lv_at hl 2 rfl) ?_
            refine lv_iconst (pc := 82) (v := 1) hx hb dX8_seatsAt_82 (by decide) ?_
            refine lv_isub (pc := 83) hx hb dX8_seatsAt_83 ?_
            refine lv_iload_n (pc := 84) hx hb dX8_seatsAt_84 rfl (lv_at hl 3 rfl) ?_
            refine rV (pc := 85) (rest := []) ⟨hx, hb, hml, hown, hts⟩ (k_X8_draws (x := (nI i) - 1) (t := r 8 i) (hok := (by first | assumption | omega)) (hn5 := (by first | assumption | omega))) cw_X8_160 ⟨(Nat.le_of_ble_eq_true rfl), (Nat.le_of_ble_eq_true rfl)⟩ hE hS hP rfl rfl rfl rfl hl.1 rfl (Nat.le_of_ble_eq_true rfl) dX8_seatsAt_85 ⟨Nat.le_refl _, Nat.le_refl _⟩ ?_
            refine W.eq (g2 := F0 m 88 ls [.int (bi (draws ((r 2)) ((r 8)) ((nI i) - 1) (r 8 i)))]) rfl ?_
            refine bif_ne (pc := 88) (tgt := 102) hx hb dX8_seatsAt_88 (by decide) (fun c_7 => ?_) (fun c_7 => ?_)
            · skip
              refine lv_iload_n (pc := 102) hx hb dX8_seatsAt_102 rfl (lv_at hl 0 rfl) ?_
              refine lv_bipush (pc := 103) (v := 50) hx hb dX8_seatsAt_103 (by decide) ?_
              refine lv_iadd (pc := 105) hx hb dX8_seatsAt_105 ?_
              refine lv_goto (pc := 106) (tgt := 110) hx hb dX8_seatsAt_106 (by decide) ?_
              rw [hQ]; exact W.iret (pc := 110) hx hb hr (fun t ht _ => ⟨retI (by unfold sts; rw [hk3, if_neg c_1, if_pos (Or.inl c_7), if_pos c_4]), ht⟩) (fun _ h => nomatch h) dX8_seatsAt_110 hlocks
            · skip
              refine lv_aload_n (pc := 91) hx hb dX8_seatsAt_91 rfl (lv_at hl 1 rfl) ?_
              refine lv_iload_n (pc := 92) hx hb dX8_seatsAt_92 rfl (lv_at hl 2 rfl) ?_
              refine lv_iconst (pc := 93) (v := 1) hx hb dX8_seatsAt_93 (by decide) ?_
              refine iaddV (pc := 94) (v := nI (i + 1)) hx hb dX8_seatsAt_94 (nI_add (i) (1)) ?_
              refine lv_iload_n (pc := 95) hx hb dX8_seatsAt_95 rfl (lv_at hl 3 rfl) ?_
              refine rV (pc := 96) (rest := []) ⟨hx, hb, hml, hown, hts⟩ (k_X8_draws (x := nI (i + 1)) (t := r 8 i) (hok := (by first | assumption | omega)) (hn5 := (by first | assumption | omega))) cw_X8_160 ⟨(Nat.le_of_ble_eq_true rfl), (Nat.le_of_ble_eq_true rfl)⟩ hE hS hP rfl rfl rfl rfl hl.1 rfl (Nat.le_of_ble_eq_true rfl) dX8_seatsAt_96 ⟨Nat.le_refl _, Nat.le_refl _⟩ ?_
              refine W.eq (g2 := F0 m 99 ls [.int (bi (draws ((r 2)) ((r 8)) (nI (i + 1)) (r 8 i)))]) rfl ?_
              refine bif_eq (pc := 99) (tgt := 109) hx hb dX8_seatsAt_99 (by decide) (fun c_8 => ?_) (fun c_8 => ?_)
              · skip
                refine lv_iload_n (pc := 109) hx hb dX8_seatsAt_109 rfl (lv_at hl 0 rfl) ?_
                rw [hQ]; exact W.iret (pc := 110) hx hb hr (fun t ht _ => ⟨retI (by unfold sts; rw [hk3, if_neg c_1, if_neg (fun q => q.elim c_7 c_8), if_pos c_4]), ht⟩) (fun _ h => nomatch h) dX8_seatsAt_110 hlocks
              · skip
                refine lv_iload_n (pc := 102) hx hb dX8_seatsAt_102 rfl (lv_at hl 0 rfl) ?_
                refine lv_bipush (pc := 103) (v := 50) hx hb dX8_seatsAt_103 (by decide) ?_
                refine lv_iadd (pc := 105) hx hb dX8_seatsAt_105 ?_
                refine lv_goto (pc := 106) (tgt := 110) hx hb dX8_seatsAt_106 (by decide) ?_
                rw [hQ]; exact W.iret (pc := 110) hx hb hr (fun t ht _ => ⟨retI (by unfold sts; rw [hk3, if_neg c_1, if_pos (Or.inr c_8), if_pos c_4]), ht⟩) (fun _ h => nomatch h) dX8_seatsAt_110 hlocks
        · skip
          have c_3n : ¬ (nOf (r 8) (r 8 i) i) ≤ k := fun hh => c_3 ((nI_leI (a := nOf (r 8) (r 8 i) i) (b := k) (by omega) (by omega)).mpr hh)
          refine lv_iload (pc := 42) hx hb dX8_seatsAt_42 (lv_at hl 5 rfl) ?_
          refine lv_iconst (pc := 44) (v := 3) hx hb dX8_seatsAt_44 (by decide) ?_
          refine lv_icmp_ge (pc := 45) (tgt := 62) hx hb dX8_seatsAt_45 (by decide) (fun c_9 => ?_) (fun c_9 => ?_)
          · skip
            have c_9n : 3 ≤ k := (nI_leI (a := 3) (b := k) (by omega) (by omega)).mp c_9
            have hk3 : min (nOf (r 8) (r 8 i) i) 3 = k := by omega
            refine lv_aload_n (pc := 62) hx hb dX8_seatsAt_62 rfl (lv_at hl 0 rfl) ?_
            refine lv_iload_n (pc := 63) hx hb dX8_seatsAt_63 rfl (lv_at hl 2 rfl) ?_
            refine rV (pc := 64) (rest := []) ⟨hx, hb, hml, hown, hts⟩ (k_X8_isGala (t := r 8 i) (ht := okP_in hok hn5 hi c_1)) cw_X8_150 ⟨(Nat.le_of_ble_eq_true rfl), (Nat.le_of_ble_eq_true rfl)⟩ hE hS hP rfl rfl rfl rfl hl.1 rfl (Nat.le_of_ble_eq_true rfl) dX8_seatsAt_64 ⟨Nat.le_refl _, Nat.le_refl _⟩ ?_
            refine W.eq (g2 := F0 m 67 ls [.int (bi (isG ((r 2) (ix (r 8 i)))))]) rfl ?_
            refine bif_eq (pc := 67) (tgt := 78) hx hb dX8_seatsAt_67 (by decide) (fun c_10 => ?_) (fun c_10 => ?_)
            · skip
              refine lv_iload_n (pc := 78) hx hb dX8_seatsAt_78 rfl (lv_at hl 3 rfl) ?_
              refine lv_istore_n (pc := 79) (lv' := [(3, .int (fade (100 * r 7 (ix (r 8 i))) k)), (0, .ref o), (1, .int (nI i)), (2, .int (r 8 i)), (4, .int (nI (nOf (r 8) (r 8 i) i))), (5, .int (nI k))]) hx hb dX8_seatsAt_79 rfl hl (by decide) rfl (fun ls hl => ?_)
              refine lv_aload_n (pc := 80) hx hb dX8_seatsAt_80 rfl (lv_at hl 1 rfl) ?_
              refine lv_iload_n (pc := 81) hx hb dX8_seatsAt_81 rfl (lv_at hl 2 rfl) ?_
              refine lv_iconst (pc := 82) (v := 1) hx hb dX8_seatsAt_82 (by decide) ?_
              refine lv_isub (pc := 83) hx hb dX8_seatsAt_83 ?_
              refine lv_iload_n (pc := 84) hx hb dX8_seatsAt_84 rfl (lv_at hl 3 rfl) ?_
              refine rV (pc := 85) (rest := []) ⟨hx, hb, hml, hown, hts⟩ (k_X8_draws (x := (nI i) - 1) (t := r 8 i) (hok := (by first | assumption | omega)) (hn5 := (by first | assumption | omega))) cw_X8_160 ⟨(Nat.le_of_ble_eq_true rfl), (Nat.le_of_ble_eq_true rfl)⟩ hE hS hP rfl rfl rfl rfl hl.1 rfl (Nat.le_of_ble_eq_true rfl) dX8_seatsAt_85 ⟨Nat.le_refl _, Nat.le_refl _⟩ ?_
              refine W.eq (g2 := F0 m 88 ls [.int (bi (draws ((r 2)) ((r 8)) ((nI i) - 1) (r 8 i)))]) rfl ?_
              refine bif_ne (pc := 88) (tgt := 102) hx hb dX8_seatsAt_88 (by decide) (fun c_11 => ?_) (fun c_11 => ?_)
              · skip
                refine lv_iload_n (pc := 102) hx hb dX8_seatsAt_102 rfl (lv_at hl 0 rfl) ?_
                refine lv_bipush (pc := 103) (v := 50) hx hb dX8_seatsAt_103 (by decide) ?_
                refine lv_iadd (pc := 105) hx hb dX8_seatsAt_105 ?_
                refine lv_goto (pc := 106) (tgt := 110) hx hb dX8_seatsAt_106 (by decide) ?_
                rw [hQ]; exact W.iret (pc := 110) hx hb hr (fun t ht _ => ⟨retI (by unfold sts; rw [hk3, if_neg c_1, if_pos (Or.inl c_11), if_neg c_10]), ht⟩) (fun _ h => nomatch h) dX8_seatsAt_110 hlocks
              · skip
                refine lv_aload_n (pc := 91) hx hb dX8_seatsAt_91 rfl (lv_at hl 1 rfl) ?_
                refine lv_iload_n (pc := 92) hx hb dX8_seatsAt_92 rfl (lv_at hl 2 rfl) ?_
                refine lv_iconst (pc := 93) (v := 1) hx hb dX8_seatsAt_93 (by decide) ?_
                refine iaddV (pc := 94) (v := nI (i + 1)) hx hb dX8_seatsAt_94 (nI_add (i) (1)) ?_
                refine lv_iload_n (pc := 95) hx hb dX8_seatsAt_95 rfl (lv_at hl 3 rfl) ?_
                refine rV (pc := 96) (rest := []) ⟨hx, hb, hml, hown, hts⟩ (k_X8_draws (x := nI (i + 1)) (t := r 8 i) (hok := (by first | assumption | omega)) (hn5 := (by first | assumption | omega))) cw_X8_160 ⟨(Nat.le_of_ble_eq_true rfl), (Nat.le_of_ble_eq_true rfl)⟩ hE hS hP rfl rfl rfl rfl hl.1 rfl (Nat.le_of_ble_eq_true rfl) dX8_seatsAt_96 ⟨Nat.le_refl _, Nat.le_refl _⟩ ?_
                refine W.eq (g2 := F0 m 99 ls [.int (bi (draws ((r 2)) ((r 8)) (nI (i + 1)) (r 8 i)))]) rfl ?_
                refine bif_eq (pc := 99) (tgt := 109) hx hb dX8_seatsAt_99 (by decide) (fun c_12 => ?_) (fun c_12 => ?_)
                · skip
                  refine lv_iload_n (pc := 109) hx hb dX8_seatsAt_109 rfl (lv_at hl 0 rfl) ?_
                  rw [hQ]; exact W.iret (pc := 110) hx hb hr (fun t ht _ => ⟨retI (by unfold sts; rw [hk3, if_neg c_1, if_neg (fun q => q.elim c_11 c_12), if_neg c_10]), ht⟩) (fun _ h => nomatch h) dX8_seatsAt_110 hlocks
                · skip
                  refine lv_iload_n (pc := 102) hx hb dX8_seatsAt_102 rfl (lv_at hl 0 rfl) ?_
                  refine lv_bipush (pc := 103) (v := 50) hx hb dX8_seatsAt_103 (by decide) ?_
                  refine lv_iadd (pc := 105) hx hb dX8_seatsAt_105 ?_
                  refine lv_goto (pc := 106) (tgt := 110) hx hb dX8_seatsAt_106 (by decide) ?_
                  rw [hQ]; exact W.iret (pc := 110) hx hb hr (fun t ht _ => ⟨retI (by unfold sts; rw [hk3, if_neg c_1, if_pos (Or.inr c_12), if_neg c_10]), ht⟩) (fun _ h => nomatch h) dX8_seatsAt_110 hlocks
            · skip
              refine lv_iconst (pc := 70) (v := 3) hx hb dX8_seatsAt_70 (by decide) ?_
              refine lv_iload_n (pc := 71) hx hb dX8_seatsAt_71 rfl (lv_at hl 3 rfl) ?_
              refine lv_imul (pc := 72) hx hb dX8_seatsAt_72 ?_
              refine lv_iconst (pc := 73) (v := 2) hx hb dX8_seatsAt_73 (by decide) ?_
              refine lv_idiv (pc := 74) hx hb dX8_seatsAt_74 (by decide) ?_
              refine lv_goto (pc := 75) (tgt := 79) hx hb dX8_seatsAt_75 (by decide) ?_
              refine lv_istore_n (pc := 79) (lv' := [(3, .int ((3 * (fade (100 * r 7 (ix (r 8 i))) k)) / 2)), (0, .ref o), (1, .int (nI i)), (2, .int (r 8 i)), (4, .int (nI (nOf (r 8) (r 8 i) i))), (5, .int (nI k))]) hx hb dX8_seatsAt_79 rfl hl (by decide) rfl (fun ls hl => ?_)
              refine lv_aload_n (pc := 80) hx hb dX8_seatsAt_80 rfl (lv_at hl 1 rfl) ?_
              refine lv_iload_n (pc := 81) hx hb dX8_seatsAt_81 rfl (lv_at hl 2 rfl) ?_
              refine lv_iconst (pc := 82) (v := 1) hx hb dX8_seatsAt_82 (by decide) ?_
              refine lv_isub (pc := 83) hx hb dX8_seatsAt_83 ?_
              refine lv_iload_n (pc := 84) hx hb dX8_seatsAt_84 rfl (lv_at hl 3 rfl) ?_
              refine rV (pc := 85) (rest := []) ⟨hx, hb, hml, hown, hts⟩ (k_X8_draws (x := (nI i) - 1) (t := r 8 i) (hok := (by first | assumption | omega)) (hn5 := (by first | assumption | omega))) cw_X8_160 ⟨(Nat.le_of_ble_eq_true rfl), (Nat.le_of_ble_eq_true rfl)⟩ hE hS hP rfl rfl rfl rfl hl.1 rfl (Nat.le_of_ble_eq_true rfl) dX8_seatsAt_85 ⟨Nat.le_refl _, Nat.le_refl _⟩ ?_
              refine W.eq (g2 := F0 m 88 ls [.int (bi (draws ((r 2)) ((r 8)) ((nI i) - 1) (r 8 i)))]) rfl ?_
              refine bif_ne (pc := 88) (tgt := 102) hx hb dX8_seatsAt_88 (by decide) (fun c_13 => ?_) (fun c_13 => ?_)
              · skip
                refine lv_iload_n (pc := 102) hx hb dX8_seatsAt_102 rfl (lv_at hl 0 rfl) ?_
                refine lv_bipush (pc := 103) (v := 50) hx hb dX8_seatsAt_103 (by decide) ?_
                refine lv_iadd (pc := 105) hx hb dX8_seatsAt_105 ?_
                refine lv_goto (pc := 106) (tgt := 110) hx hb dX8_seatsAt_106 (by decide) ?_
                rw [hQ]; exact W.iret (pc := 110) hx hb hr (fun t ht _ => ⟨retI (by unfold sts; rw [hk3, if_neg c_1, if_pos (Or.inl c_13), if_pos c_10]), ht⟩) (fun _ h => nomatch h) dX8_seatsAt_110 hlocks
              · skip
                refine lv_aload_n (pc := 91) hx hb dX8_seatsAt_91 rfl (lv_at hl 1 rfl) ?_
                refine lv_iload_n (pc := 92) hx hb dX8_seatsAt_92 rfl (lv_at hl 2 rfl) ?_
                refine lv_iconst (pc := 93) (v := 1) hx hb dX8_seatsAt_93 (by decide) ?_
                refine iaddV (pc := 94) (v := nI (i + 1)) hx hb dX8_seatsAt_94 (nI_add (i) (1)) ?_
                refine lv_iload_n (pc := 95) hx hb dX8_seatsAt_95 rfl (lv_at hl 3 rfl) ?_
                refine rV (pc := 96) (rest := []) ⟨hx, hb, hml, hown, hts⟩ (k_X8_draws (x := nI (i + 1)) (t := r 8 i) (hok := (by first | assumption | omega)) (hn5 := (by first | assumption | omega))) cw_X8_160 ⟨(Nat.le_of_ble_eq_true rfl), (Nat.le_of_ble_eq_true rfl)⟩ hE hS hP rfl rfl rfl rfl hl.1 rfl (Nat.le_of_ble_eq_true rfl) dX8_seatsAt_96 ⟨Nat.le_refl _, Nat.le_refl _⟩ ?_
                refine W.eq (g2 := F0 m 99 ls [.int (bi (draws ((r 2)) ((r 8)) (nI (i + 1)) (r 8 i)))]) rfl ?_
                refine bif_eq (pc := 99) (tgt := 109) hx hb dX8_seatsAt_99 (by decide) (fun c_14 => ?_) (fun c_14 => ?_)
                · skip
                  refine lv_iload_n (pc := 109) hx hb dX8_seatsAt_109 rfl (lv_at hl 0 rfl) ?_
                  rw [hQ]; exact W.iret (pc := 110) hx hb hr (fun t ht _ => ⟨retI (by unfold sts; rw [hk3, if_neg c_1, if_neg (fun q => q.elim c_13 c_14), if_pos c_10]), ht⟩) (fun _ h => nomatch h) dX8_seatsAt_110 hlocks
                · skip
                  refine lv_iload_n (pc := 102) hx hb dX8_seatsAt_102 rfl (lv_at hl 0 rfl) ?_
                  refine lv_bipush (pc := 103) (v := 50) hx hb dX8_seatsAt_103 (by decide) ?_
                  refine lv_iadd (pc := 105) hx hb dX8_seatsAt_105 ?_
                  refine lv_goto (pc := 106) (tgt := 110) hx hb dX8_seatsAt_106 (by decide) ?_
                  rw [hQ]; exact W.iret (pc := 110) hx hb hr (fun t ht _ => ⟨retI (by unfold sts; rw [hk3, if_neg c_1, if_pos (Or.inr c_14), if_pos c_10]), ht⟩) (fun _ h => nomatch h) dX8_seatsAt_110 hlocks
          · skip
            have c_9n : ¬ 3 ≤ k := fun hh => c_9 ((nI_leI (a := 3) (b := k) (by omega) (by omega)).mpr hh)
            refine lv_iload_n (pc := 48) hx hb dX8_seatsAt_48 rfl (lv_at hl 3 rfl) ?_
            refine lv_bipush (pc := 49) (v := 70) hx hb dX8_seatsAt_49 (by decide) ?_
            refine lv_imul (pc := 51) hx hb dX8_seatsAt_51 ?_
            refine lv_bipush (pc := 52) (v := 100) hx hb dX8_seatsAt_52 (by decide) ?_
            refine lv_idiv (pc := 54) hx hb dX8_seatsAt_54 (by decide) ?_
            refine lv_istore_n (pc := 55) (lv' := [(3, .int (((fade (100 * r 7 (ix (r 8 i))) k) * 70) / 100)), (0, .ref o), (1, .int (nI i)), (2, .int (r 8 i)), (4, .int (nI (nOf (r 8) (r 8 i) i))), (5, .int (nI k))]) hx hb dX8_seatsAt_55 rfl hl (by decide) rfl (fun ls hl => ?_)
            refine lv_iinc (pc := 56) (v := nI (k + 1)) (lv' := [(5, .int (nI (k + 1))), (3, .int (((fade (100 * r 7 (ix (r 8 i))) k) * 70) / 100)), (0, .ref o), (1, .int (nI i)), (2, .int (r 8 i)), (4, .int (nI (nOf (r 8) (r 8 i) i)))]) hx hb dX8_seatsAt_56 hl (k := 5) rfl (nI_add (k) 1) (by decide) rfl (fun ls hl => ?_)
            refine lv_goto (pc := 59) (tgt := 35) hx hb dX8_seatsAt_59 (by decide) ?_
            exact ih_lp_2 (k + 1) (by omega) (by omega) (by omega) ls (by rw [show (fade (100 * r 7 (ix (r 8 i))) (k + 1) : Int32) = ((fade (100 * r 7 (ix (r 8 i))) k) * 70) / 100 from (rfl)]; exact lv_sub hl [2, 3, 4, 1, 5, 0] rfl)
    exact lp_2 _ 0 (Nat.lt_succ_self _) (by omega) (by omega) ls (lv_sub hl [4, 5, 3, 2, 1, 0] rfl)
  · skip
    refine lv_iconst (pc := 12) (v := 0) hx hb dX8_seatsAt_12 (by decide) ?_
    rw [hQ]; exact W.iret (pc := 13) hx hb hr (fun t ht _ => ⟨retI (by unfold sts; rw [if_pos c_1]), ht⟩) (fun _ h => nomatch h) dX8_seatsAt_13 hlocks
set_option maxRecDepth 100000 in
set_option maxHeartbeats 4000000 in
theorem k_X8_breaks {o : Nat} {a : Nat → Nat} {z : Nat → Int32} {g : Nat → Int64} {r : Nat → Nat → Int32} {n : Nat} (hok : okP n (r 8)) (hn5 : n ≤ 5) : MR l yX8_breaks cX8_breaks 3 (some .int) 6 131 D kB kI kT ks sk sv [.ref o] (wR kB kI o a z g r) (some (.int (nI (cntP (fun j => 0 < brk (r 2) (r 3) (r 4) (r 5) (r 6) (r 8) j) 12)))) := by
  refine MR.go (by decide +kernel) (Nat.le_of_ble_eq_true rfl) ?_
  intro p e s m below meth c0 args Q ls hQ hx hb hr hml hown hts hlocks hE hP hS hl
  have hl : lv_has ls 3 [(0, .ref o)] := hl
  have hown : s.vm.findClass RX8 = some m.cls := hown
  refine lv_iconst (pc := 0) (v := 0) hx hb dX8_breaks_0 (by decide) ?_
  refine lv_istore_n (pc := 1) (lv' := [(1, .int 0), (0, .ref o)]) hx hb dX8_breaks_1 rfl hl (by decide) rfl (fun ls hl => ?_)
  refine lv_iconst (pc := 2) (v := 0) hx hb dX8_breaks_2 (by decide) ?_
  refine lv_istore_n (pc := 3) (lv' := [(2, .int 0), (1, .int 0), (0, .ref o)]) hx hb dX8_breaks_3 rfl hl (by decide) rfl (fun ls hl => ?_)
  have lp_1 : ∀ (fuel : Nat) (i : Nat), 12 - i < fuel → i ≤ 12 → ∀ (ls : Array Slot), lv_has ls 3 [(0, .ref o), (1, .int (nI (cntP (fun j => 0 < brk (r 2) (r 3) (r 4) (r 5) (r 6) (r 8) j) i))), (2, .int (nI i))] → W p l e (rmO 6 131) s m args below meth c0 s.heap [] 0 0 Q (F0 m 4 ls []) := by
    intro fuel
    induction fuel with
    | zero => intro i hfuel; exact absurd hfuel (Nat.not_lt_zero _)
    | succ fuel ih_lp_1 =>
      intro i hfuel hi ls hl
      refine lv_iload_n (pc := 4) hx hb dX8_breaks_4 rfl (lv_at hl 2 rfl) ?_
      refine lv_bipush (pc := 5) (v := 12) hx hb dX8_breaks_5 (by decide) ?_
      refine lv_icmp_ge (pc := 7) (tgt := 32) hx hb dX8_breaks_7 (by decide) (fun c_2 => ?_) (fun c_2 => ?_)
      · skip
        have c_2n : 12 ≤ i := (nI_leI (a := 12) (b := i) (by omega) (by omega)).mp c_2
        refine lv_iload_n (pc := 32) hx hb dX8_breaks_32 rfl (lv_at hl 1 rfl) ?_
        rw [hQ]; exact W.iret (pc := 33) hx hb hr (fun t ht _ => ⟨retI (by rw [show i = 12 by omega]), ht⟩) (fun _ h => nomatch h) dX8_breaks_33 hlocks
      · skip
        have c_2n : ¬ 12 ≤ i := fun hh => c_2 ((nI_leI (a := 12) (b := i) (by omega) (by omega)).mpr hh)
        refine lv_iload_n (pc := 10) hx hb dX8_breaks_10 rfl (lv_at hl 1 rfl) ?_
        refine lv_aload_n (pc := 11) hx hb dX8_breaks_11 rfl (lv_at hl 0 rfl) ?_
        refine lv_iload_n (pc := 12) hx hb dX8_breaks_12 rfl (lv_at hl 2 rfl) ?_
        refine rV (pc := 13) (rest := [.int (nI (cntP (fun j => 0 < brk (r 2) (r 3) (r 4) (r 5) (r 6) (r 8) j) i))]) ⟨hx, hb, hml, hown, hts⟩ (k_X8_breaksAt (i := i) (hok := (by first | assumption | omega)) (hn5 := (by first | assumption | omega)) (hi := (by omega))) cw_X8_163 ⟨(Nat.le_of_ble_eq_true rfl), (Nat.le_of_ble_eq_true rfl)⟩ hE hS hP rfl rfl rfl rfl hl.1 rfl (Nat.le_of_ble_eq_true rfl) dX8_breaks_13 ⟨Nat.le_refl _, Nat.le_refl _⟩ ?_
        refine W.eq (g2 := F0 m 16 ls [.int (brk ((r 2)) ((r 3)) ((r 4)) ((r 5)) ((r 6)) ((r 8)) i), .int (nI (cntP (fun j => 0 < brk (r 2) (r 3) (r 4) (r 5) (r 6) (r 8) j) i))]) rfl ?_
        refine lv_if_le (pc := 16) (tgt := 23) hx hb dX8_breaks_16 (by decide) (fun c_3 => ?_) (fun c_3 => ?_)
        · skip
          refine lv_iconst (pc := 23) (v := 0) hx hb dX8_breaks_23 (by decide) ?_
          refine iaddV (pc := 24) (v := nI (cntP (fun j => 0 < brk (r 2) (r 3) (r 4) (r 5) (r 6) (r 8) j) i + 0)) hx hb dX8_breaks_24 (nI_add (cntP (fun j => 0 < brk (r 2) (r 3) (r 4) (r 5) (r 6) (r 8) j) i) (0)) ?_
          refine lv_istore_n (pc := 25) (lv' := [(1, .int (nI (cntP (fun j => 0 < brk (r 2) (r 3) (r 4) (r 5) (r 6) (r 8) j) i + 0))), (0, .ref o), (2, .int (nI i))]) hx hb dX8_breaks_25 rfl hl (by decide) rfl (fun ls hl => ?_)
          refine lv_iinc (pc := 26) (v := nI (i + 1)) (lv' := [(2, .int (nI (i + 1))), (1, .int (nI (cntP (fun j => 0 < brk (r 2) (r 3) (r 4) (r 5) (r 6) (r 8) j) i + 0))), (0, .ref o)]) hx hb dX8_breaks_26 hl (k := 2) rfl (nI_add (i) 1) (by decide) rfl (fun ls hl => ?_)
          refine lv_goto (pc := 29) (tgt := 4) hx hb dX8_breaks_29 (by decide) ?_
          exact ih_lp_1 (i + 1) (by omega) (by omega) ls (by rw [show (nI (cntP (fun j => 0 < brk (r 2) (r 3) (r 4) (r 5) (r 6) (r 8) j) (i + 1)) : Int32) = nI (cntP (fun j => 0 < brk (r 2) (r 3) (r 4) (r 5) (r 6) (r 8) j) i + 0) from (by rw [cntP_f (Int32.not_lt.mpr c_3)]; rfl)]; exact lv_sub hl [2, 1, 0] rfl)
        · skip
          refine lv_iconst (pc := 19) (v := 1) hx hb dX8_breaks_19 (by decide) ?_
          refine lv_goto (pc := 20) (tgt := 24) hx hb dX8_breaks_20 (by decide) ?_
          refine iaddV (pc := 24) (v := nI (cntP (fun j => 0 < brk (r 2) (r 3) (r 4) (r 5) (r 6) (r 8) j) i + 1)) hx hb dX8_breaks_24 (nI_add (cntP (fun j => 0 < brk (r 2) (r 3) (r 4) (r 5) (r 6) (r 8) j) i) (1)) ?_
          refine lv_istore_n (pc := 25) (lv' := [(1, .int (nI (cntP (fun j => 0 < brk (r 2) (r 3) (r 4) (r 5) (r 6) (r 8) j) i + 1))), (0, .ref o), (2, .int (nI i))]) hx hb dX8_breaks_25 rfl hl (by decide) rfl (fun ls hl => ?_)
          refine lv_iinc (pc := 26) (v := nI (i + 1)) (lv' := [(2, .int (nI (i + 1))), (1, .int (nI (cntP (fun j => 0 < brk (r 2) (r 3) (r 4) (r 5) (r 6) (r 8) j) i + 1))), (0, .ref o)]) hx hb dX8_breaks_26 hl (k := 2) rfl (nI_add (i) 1) (by decide) rfl (fun ls hl => ?_)
          refine lv_goto (pc := 29) (tgt := 4) hx hb dX8_breaks_29 (by decide) ?_
          exact ih_lp_1 (i + 1) (by omega) (by omega) ls (by rw [show (nI (cntP (fun j => 0 < brk (r 2) (r 3) (r 4) (r 5) (r 6) (r 8) j) (i + 1)) : Int32) = nI (cntP (fun j => 0 < brk (r 2) (r 3) (r 4) (r 5) (r 6) (r 8) j) i + 1) from (by rw [cntP_t (Int32.not_le.mp c_3)])]; exact lv_sub hl [2, 1, 0] rfl)
  exact lp_1 _ 0 (Nat.lt_succ_self _) (by omega) ls (lv_sub hl [2, 1, 0] rfl)
set_option maxRecDepth 100000 in
set_option maxHeartbeats 4000000 in
theorem k_X8_earned {o : Nat} {a : Nat → Nat} {z : Nat → Int32} {g : Nat → Int64} {r : Nat → Nat → Int32} {n : Nat} (hok : okP n (r 8)) (hn5 : n ≤ 5) : MR l yX8_earned cX8_earned 3 (some .int) 6 131 D kB kI kT ks sk sv [.ref o] (wR kB kI o a z g r) (some (.int (sumI (fun j => if brk (r 2) (r 3) (r 4) (r 5) (r 6) (r 8) j = 0 then sts (r 2) (r 7) (r 8) j else 0) 12))) := by
  refine MR.go (by decide +kernel) (Nat.le_of_ble_eq_true rfl) ?_
  intro p e s m below meth c0 args Q ls hQ hx hb hr hml hown hts hlocks hE hP hS hl
  have hl : lv_has ls 3 [(0, .ref o)] := hl
  have hown : s.vm.findClass RX8 = some m.cls := hown
  refine lv_iconst (pc := 0) (v := 0) hx hb dX8_earned_0 (by decide) ?_
  refine lv_istore_n (pc := 1) (lv' := [(1, .int 0), (0, .ref o)]) hx hb dX8_earned_1 rfl hl (by decide) rfl (fun ls hl => ?_)
  refine lv_iconst (pc := 2) (v := 0) hx hb dX8_earned_2 (by decide) ?_
  refine lv_istore_n (pc := 3) (lv' := [(2, .int 0), (1, .int 0), (0, .ref o)]) hx hb dX8_earned_3 rfl hl (by decide) rfl (fun ls hl => ?_)
  have lp_1 : ∀ (fuel : Nat) (i : Nat), 12 - i < fuel → i ≤ 12 → ∀ (ls : Array Slot), lv_has ls 3 [(0, .ref o), (1, .int (sumI (fun j => if brk (r 2) (r 3) (r 4) (r 5) (r 6) (r 8) j = 0 then sts (r 2) (r 7) (r 8) j else 0) i)), (2, .int (nI i))] → W p l e (rmO 6 131) s m args below meth c0 s.heap [] 0 0 Q (F0 m 4 ls []) := by
    intro fuel
    induction fuel with
    | zero => intro i hfuel; exact absurd hfuel (Nat.not_lt_zero _)
    | succ fuel ih_lp_1 =>
      intro i hfuel hi ls hl
      refine lv_iload_n (pc := 4) hx hb dX8_earned_4 rfl (lv_at hl 2 rfl) ?_
      refine lv_bipush (pc := 5) (v := 12) hx hb dX8_earned_5 (by decide) ?_
      refine lv_icmp_ge (pc := 7) (tgt := 36) hx hb dX8_earned_7 (by decide) (fun c_2 => ?_) (fun c_2 => ?_)
      · skip
        have c_2n : 12 ≤ i := (nI_leI (a := 12) (b := i) (by omega) (by omega)).mp c_2
        refine lv_iload_n (pc := 36) hx hb dX8_earned_36 rfl (lv_at hl 1 rfl) ?_
        rw [hQ]; exact W.iret (pc := 37) hx hb hr (fun t ht _ => ⟨retI (by rw [show i = 12 by omega]), ht⟩) (fun _ h => nomatch h) dX8_earned_37 hlocks
      · skip
        have c_2n : ¬ 12 ≤ i := fun hh => c_2 ((nI_leI (a := 12) (b := i) (by omega) (by omega)).mpr hh)
        refine lv_iload_n (pc := 10) hx hb dX8_earned_10 rfl (lv_at hl 1 rfl) ?_
        refine lv_aload_n (pc := 11) hx hb dX8_earned_11 rfl (lv_at hl 0 rfl) ?_
        refine lv_iload_n (pc := 12) hx hb dX8_earned_12 rfl (lv_at hl 2 rfl) ?_
        refine rV (pc := 13) (rest := [.int (sumI (fun j => if brk (r 2) (r 3) (r 4) (r 5) (r 6) (r 8) j = 0 then sts (r 2) (r 7) (r 8) j else 0) i)]) ⟨hx, hb, hml, hown, hts⟩ (k_X8_breaksAt (i := i) (hok := (by first | assumption | omega)) (hn5 := (by first | assumption | omega)) (hi := (by omega))) cw_X8_163 ⟨(Nat.le_of_ble_eq_true rfl), (Nat.le_of_ble_eq_true rfl)⟩ hE hS hP rfl rfl rfl rfl hl.1 rfl (Nat.le_of_ble_eq_true rfl) dX8_earned_13 ⟨Nat.le_refl _, Nat.le_refl _⟩ ?_
        refine W.eq (g2 := F0 m 16 ls [.int (brk ((r 2)) ((r 3)) ((r 4)) ((r 5)) ((r 6)) ((r 8)) i), .int (sumI (fun j => if brk (r 2) (r 3) (r 4) (r 5) (r 6) (r 8) j = 0 then sts (r 2) (r 7) (r 8) j else 0) i)]) rfl ?_
        refine lv_if_ne (pc := 16) (tgt := 27) hx hb dX8_earned_16 (by decide) (fun c_3 => ?_) (fun c_3 => ?_)
        · skip
          refine lv_iconst (pc := 27) (v := 0) hx hb dX8_earned_27 (by decide) ?_
          refine lv_iadd (pc := 28) hx hb dX8_earned_28 ?_
          refine lv_istore_n (pc := 29) (lv' := [(1, .int ((sumI (fun j => if brk (r 2) (r 3) (r 4) (r 5) (r 6) (r 8) j = 0 then sts (r 2) (r 7) (r 8) j else 0) i) + 0)), (0, .ref o), (2, .int (nI i))]) hx hb dX8_earned_29 rfl hl (by decide) rfl (fun ls hl => ?_)
          refine lv_iinc (pc := 30) (v := nI (i + 1)) (lv' := [(2, .int (nI (i + 1))), (1, .int ((sumI (fun j => if brk (r 2) (r 3) (r 4) (r 5) (r 6) (r 8) j = 0 then sts (r 2) (r 7) (r 8) j else 0) i) + 0)), (0, .ref o)]) hx hb dX8_earned_30 hl (k := 2) rfl (nI_add (i) 1) (by decide) rfl (fun ls hl => ?_)
          refine lv_goto (pc := 33) (tgt := 4) hx hb dX8_earned_33 (by decide) ?_
          exact ih_lp_1 (i + 1) (by omega) (by omega) ls (by rw [show (sumI (fun j => if brk (r 2) (r 3) (r 4) (r 5) (r 6) (r 8) j = 0 then sts (r 2) (r 7) (r 8) j else 0) (i + 1) : Int32) = (sumI (fun j => if brk (r 2) (r 3) (r 4) (r 5) (r 6) (r 8) j = 0 then sts (r 2) (r 7) (r 8) j else 0) i) + 0 from (by rw [sumI]; simp [c_2, c_3])]; exact lv_sub hl [2, 1, 0] rfl)
        · skip
          refine lv_aload_n (pc := 19) hx hb dX8_earned_19 rfl (lv_at hl 0 rfl) ?_
          refine lv_iload_n (pc := 20) hx hb dX8_earned_20 rfl (lv_at hl 2 rfl) ?_
          refine rV (pc := 21) (rest := [.int (sumI (fun j => if brk (r 2) (r 3) (r 4) (r 5) (r 6) (r 8) j = 0 then sts (r 2) (r 7) (r 8) j else 0) i)]) ⟨hx, hb, hml, hown, hts⟩ (k_X8_seatsAt (i := i) (hok := (by first | assumption | omega)) (hn5 := (by first | assumption | omega)) (hi := (by omega))) cw_X8_169 ⟨(Nat.le_of_ble_eq_true rfl), (Nat.le_of_ble_eq_true rfl)⟩ hE hS hP rfl rfl rfl rfl hl.1 rfl (Nat.le_of_ble_eq_true rfl) dX8_earned_21 ⟨Nat.le_refl _, Nat.le_refl _⟩ ?_
          refine W.eq (g2 := F0 m 24 ls [.int (sts ((r 2)) ((r 7)) ((r 8)) i), .int (sumI (fun j => if brk (r 2) (r 3) (r 4) (r 5) (r 6) (r 8) j = 0 then sts (r 2) (r 7) (r 8) j else 0) i)]) rfl ?_
          refine lv_goto (pc := 24) (tgt := 28) hx hb dX8_earned_24 (by decide) ?_
          refine lv_iadd (pc := 28) hx hb dX8_earned_28 ?_
          refine lv_istore_n (pc := 29) (lv' := [(1, .int ((sumI (fun j => if brk (r 2) (r 3) (r 4) (r 5) (r 6) (r 8) j = 0 then sts (r 2) (r 7) (r 8) j else 0) i) + (sts ((r 2)) ((r 7)) ((r 8)) i))), (0, .ref o), (2, .int (nI i))]) hx hb dX8_earned_29 rfl hl (by decide) rfl (fun ls hl => ?_)
          refine lv_iinc (pc := 30) (v := nI (i + 1)) (lv' := [(2, .int (nI (i + 1))), (1, .int ((sumI (fun j => if brk (r 2) (r 3) (r 4) (r 5) (r 6) (r 8) j = 0 then sts (r 2) (r 7) (r 8) j else 0) i) + (sts ((r 2)) ((r 7)) ((r 8)) i))), (0, .ref o)]) hx hb dX8_earned_30 hl (k := 2) rfl (nI_add (i) 1) (by decide) rfl (fun ls hl => ?_)
          refine lv_goto (pc := 33) (tgt := 4) hx hb dX8_earned_33 (by decide) ?_
          exact ih_lp_1 (i + 1) (by omega) (by omega) ls (by rw [show (sumI (fun j => if brk (r 2) (r 3) (r 4) (r 5) (r 6) (r 8) j = 0 then sts (r 2) (r 7) (r 8) j else 0) (i + 1) : Int32) = (sumI (fun j => if brk (r 2) (r 3) (r 4) (r 5) (r 6) (r 8) j = 0 then sts (r 2) (r 7) (r 8) j else 0) i) + (sts ((r 2)) ((r 7)) ((r 8)) i) from (by rw [sumI]; simp [c_2, c_3])]; exact lv_sub hl [2, 1, 0] rfl)
  exact lp_1 _ 0 (Nat.lt_succ_self _) (by omega) ls (lv_sub hl [2, 1, 0] rfl)
set_option maxRecDepth 100000 in
set_option maxHeartbeats 4000000 in
theorem k_X8_lost {o : Nat} {a : Nat → Nat} {z : Nat → Int32} {g : Nat → Int64} {r : Nat → Nat → Int32} {n : Nat} (hok : okP n (r 8)) (hn5 : n ≤ 5) : MR l yX8_lost cX8_lost 1 (some .int) 7 153 D kB kI kT ks sk sv [.ref o] (wR kB kI o a z g r) (some (.int (12 - nI (nOn (r 8) 12) + nI (cntP (fun j => 0 < brk (r 2) (r 3) (r 4) (r 5) (r 6) (r 8) j) 12)))) := by
  refine MR.go (by decide +kernel) (Nat.le_of_ble_eq_true rfl) ?_
  intro p e s m below meth c0 args Q ls hQ hx hb hr hml hown hts hlocks hE hP hS hl
  have hl : lv_has ls 1 [(0, .ref o)] := hl
  have hown : s.vm.findClass RX8 = some m.cls := hown
  refine lv_bipush (pc := 0) (v := 12) hx hb dX8_lost_0 (by decide) ?_
  refine lv_aload_n (pc := 2) hx hb dX8_lost_2 rfl (lv_at hl 0 rfl) ?_
  refine rV (pc := 3) (rest := [.int 12]) ⟨hx, hb, hml, hown, hts⟩ (k_X8_nightsOn ) cw_X8_137 ⟨(Nat.le_of_ble_eq_true rfl), (Nat.le_of_ble_eq_true rfl)⟩ hE hS hP rfl rfl rfl rfl hl.1 rfl (Nat.le_of_ble_eq_true rfl) dX8_lost_3 ⟨Nat.le_refl _, Nat.le_refl _⟩ ?_
  refine W.eq (g2 := F0 m 6 ls [.int (nI (nOn ((r 8)) 12)), .int 12]) rfl ?_
  refine lv_isub (pc := 6) hx hb dX8_lost_6 ?_
  refine lv_aload_n (pc := 7) hx hb dX8_lost_7 rfl (lv_at hl 0 rfl) ?_
  refine rV (pc := 8) (rest := [.int (12 - (nI (nOn ((r 8)) 12)))]) ⟨hx, hb, hml, hown, hts⟩ (k_X8_breaks (hok := (by first | assumption | omega)) (hn5 := (by first | assumption | omega))) cw_X8_166 ⟨(Nat.le_of_ble_eq_true rfl), (Nat.le_of_ble_eq_true rfl)⟩ hE hS hP rfl rfl rfl rfl hl.1 rfl (Nat.le_of_ble_eq_true rfl) dX8_lost_8 ⟨Nat.le_refl _, Nat.le_refl _⟩ ?_
  refine W.eq (g2 := F0 m 11 ls [.int (nI (cntP (fun j => 0 < brk ((r 2)) ((r 3)) ((r 4)) ((r 5)) ((r 6)) ((r 8)) j) 12)), .int (12 - (nI (nOn ((r 8)) 12)))]) rfl ?_
  refine lv_iadd (pc := 11) hx hb dX8_lost_11 ?_
  rw [hQ]; exact W.iret (pc := 12) hx hb hr (fun t ht _ => ⟨retI (rfl), ht⟩) (fun _ h => nomatch h) dX8_lost_12 hlocks
set_option maxRecDepth 100000 in
set_option maxHeartbeats 4000000 in
theorem k_X8_isTitle {o : Nat} {a : Nat → Nat} {z : Nat → Int32} {g : Nat → Int64} {r : Nat → Nat → Int32} (t : Int32) : MR l yX8_isTitle cX8_isTitle 2 (some .boolean) 1 22 D kB kI kT ks sk sv [.ref o, .int t] (wR kB kI o a z g r) (some (.int (bi (inR t 0 (z 1 - 1))))) := by
  refine MR.go (by decide +kernel) (Nat.le_of_ble_eq_true rfl) ?_
  intro p e s m below meth c0 args Q ls hQ hx hb hr hml hown hts hlocks hE hP hS hl
  have hl : lv_has ls 2 [(0, .ref o), (1, .int t)] := hl
  have hown : s.vm.findClass RX8 = some m.cls := hown
  refine lv_iload_n (pc := 0) hx hb dX8_isTitle_0 rfl (lv_at hl 1 rfl) ?_
  refine lv_iconst (pc := 1) (v := 0) hx hb dX8_isTitle_1 (by decide) ?_
  refine lv_aload_n (pc := 2) hx hb dX8_isTitle_2 rfl (lv_at hl 0 rfl) ?_
  refine fget (pc := 3) (v := .int (z 1)) hx hb hts hown hE hP fl_X8_124 0 rfl rfl dX8_isTitle_3 ?_
  refine lv_iconst (pc := 6) (v := 1) hx hb dX8_isTitle_6 (by decide) ?_
  refine lv_isub (pc := 7) hx hb dX8_isTitle_7 ?_
  refine rS (pc := 8) (rest := []) ⟨hx, hb, hml, hown, hts⟩ (k_X8_within (v := t) (lo := 0) (hi := (z 1) - 1)) cw_X8_86 ⟨(Nat.le_of_ble_eq_true rfl), (Nat.le_of_ble_eq_true rfl)⟩ hE hS wc0 rfl hl.1 rfl (Nat.le_of_ble_eq_true rfl) dX8_isTitle_8 ⟨Nat.le_refl _, Nat.le_refl _⟩ ?_
  refine W.eq (g2 := F0 m 11 ls [.int (bi (inR t 0 ((z 1) - 1)))]) rfl ?_
  rw [hQ]; exact W.zret (pc := 11) hx hb hr narrow_bi (fun t ht _ => ⟨retI (rfl), ht⟩) (fun _ h => nomatch h) dX8_isTitle_11 hlocks
end
