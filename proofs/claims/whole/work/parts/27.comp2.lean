section
variable {l : Launch} {D : va_G} {kB kI kT : ClassId} {ks sk sv : Nat}
set_option maxRecDepth 100000 in
set_option maxHeartbeats 4000000 in
theorem k_J7_fill {aa : Nat} {NN : Nat} {af : Nat → Int32} (v : Int32) (hNN : NN < 1000) : MW l yJ7_fill_53178 cJ7_fill_53178 4 none 0 0 D kB kI kT ks sk sv [.ref aa, .int v] (wAr kI aa NN af) none (wAr kI aa NN (ovN af (fun _ => v) NN)) := by
  refine MW.go (by decide +kernel) (Nat.le_of_ble_eq_true rfl) ?_
  intro p e s m below meth c0 args Q ls A hQ hx hb hr hml hown hts hlocks hE hP hD hS hl
  have hl : lv_has ls 4 [(0, .ref aa), (1, .int v)] := hl
  have hown : s.vm.findClass RJ7 = some m.cls := hown
  refine lv_iconst (pc := 0) (v := 0) hx hb dJ7_fill_53178_0 (by decide) ?_
  refine lv_istore_n (pc := 1) (lv' := [(2, .int 0), (0, .ref aa), (1, .int v)]) hx hb dJ7_fill_53178_1 rfl hl (by decide) rfl (fun ls hl => ?_)
  refine lv_aload_n (pc := 2) hx hb dJ7_fill_53178_2 rfl (lv_at hl 1 rfl) ?_
  refine va_alen (pc := 3) (v := (nI NN)) hx hb hE.1 hP 0 0 rfl rfl rfl dJ7_fill_53178_3 ?_
  refine lv_istore_n (pc := 4) (lv' := [(3, .int (nI NN)), (2, .int 0), (0, .ref aa), (1, .int v)]) hx hb dJ7_fill_53178_4 rfl hl (by decide) rfl (fun ls hl => ?_)
  have lp_1 : ∀ (fuel : Nat) (i : Nat), NN - i < fuel → (i ≤ NN) → ∀ (H : Heap) (locs : List Loc), va_P D vwCl (wAr kI aa NN (ovN af (fun _ => v) i)) H → va_D A (wAr kI aa NN (ovN af (fun _ => v) i)) → va_S A s.heap H locs → ∀ (ls : Array Slot), lv_has ls 4 [(0, .ref aa), (1, .int v), (2, .int (nI i)), (3, .int (nI NN))] → W p l e (rmO 0 0) s m args below meth c0 H locs 0 0 Q (F0 m 5 ls []) := by
    intro fuel
    induction fuel with
    | zero => intro i hfuel; exact absurd hfuel (Nat.not_lt_zero _)
    | succ fuel ih_lp_1 =>
      intro i hfuel hi H locs hP hD hS ls hl
      refine lv_iload_n (pc := 5) hx hb dJ7_fill_53178_5 rfl (lv_at hl 2 rfl) ?_
      refine lv_iload_n (pc := 6) hx hb dJ7_fill_53178_6 rfl (lv_at hl 3 rfl) ?_
      refine lv_icmp_ge (pc := 7) (tgt := 20) hx hb dJ7_fill_53178_7 (by decide) (fun c_2 => ?_) (fun c_2 => ?_)
      · skip
        have c_2n : NN ≤ i := (nI_leI (a := NN) (b := i) (by omega) (by omega)).mp c_2
        rw [hQ]; exact W.vret (pc := 20) hx hb hr (fun t9 ht _ => ⟨⟨rfl, by rw [ht]; exact (by have e9 : i = NN := (by omega); rw [e9] at hP; exact hP)⟩, hS.F ht⟩) hS.2.2 dJ7_fill_53178_20 hlocks
      · skip
        have c_2n : ¬ NN ≤ i := fun hh => c_2 ((nI_leI (a := NN) (b := i) (by omega) (by omega)).mpr hh)
        refine lv_aload_n (pc := 10) hx hb dJ7_fill_53178_10 rfl (lv_at hl 0 rfl) ?_
        refine lv_iload_n (pc := 11) hx hb dJ7_fill_53178_11 rfl (lv_at hl 2 rfl) ?_
        refine lv_iload_n (pc := 12) hx hb dJ7_fill_53178_12 rfl (lv_at hl 1 rfl) ?_
        refine astN (pc := 13) (f := ovN af (fun _ => v) i) hx hb hE hP hD hS 0 rfl (i) (by omega) (by omega) dJ7_fill_53178_13 (fun H locs hP hD hS => ?_)
        have hP : va_P D vwCl (wAr kI aa NN (upd (ovN af (fun _ => v) i) i v)) H := hP
        have hD : va_D A (wAr kI aa NN (upd (ovN af (fun _ => v) i) i v)) := hD
        refine lv_iinc (pc := 14) (v := nI (i + 1)) (lv' := [(2, .int (nI (i + 1))), (0, .ref aa), (1, .int v), (3, .int (nI NN))]) hx hb dJ7_fill_53178_14 hl (k := 2) rfl (nI_add (i) 1) (by decide) rfl (fun ls hl => ?_)
        refine lv_goto (pc := 17) (tgt := 5) hx hb dJ7_fill_53178_17 (by decide) ?_
        exact ih_lp_1 (i + 1) (by omega) (by omega) _ _ (by rw [← ovN_s]; exact hP) (by rw [← ovN_s]; exact hD) hS ls (lv_sub hl [1, 2, 0, 3] rfl)
  exact lp_1 _ 0 (Nat.lt_succ_self _) (by omega) _ _ (by rw [ovN_0]; exact hP) (by rw [ovN_0]; exact hD) hS ls (lv_sub hl [2, 3, 1, 0] rfl)
set_option maxRecDepth 100000 in
set_option maxHeartbeats 4000000 in
theorem k_X5_isOf {ta : Nat} {f0 : Int32} {f1 : Int32} {f2 : Int32} {f3 : Int32} {f4 : Int32} {f5 : Int32} (asked : Int32) : MR l yX5_isOf cX5_isOf 2 (some .boolean) 0 0 D kB kI kT ks sk sv [.ref ta, .int asked] (wTi ta f0 f1 f2 f3 f4 f5) (some (.int (bi (isOfP f0 asked)))) := by
  refine MR.go (by decide +kernel) (Nat.le_of_ble_eq_true rfl) ?_
  intro p e s m below meth c0 args Q ls hQ hx hb hr hml hown hts hlocks hE hP hS hl
  have hl : lv_has ls 2 [(0, .ref ta), (1, .int asked)] := hl
  have hown : s.vm.findClass RX5 = some m.cls := hown
  refine lv_iload_n (pc := 0) hx hb dX5_isOf_0 rfl (lv_at hl 1 rfl) ?_
  refine lv_if_eq (pc := 1) (tgt := 25) hx hb dX5_isOf_1 (by decide) (fun c_1 => ?_) (fun c_1 => ?_)
  · skip
    refine lv_iconst (pc := 25) (v := 1) hx hb dX5_isOf_25 (by decide) ?_
    refine lv_goto (pc := 26) (tgt := 30) hx hb dX5_isOf_26 (by decide) ?_
    rw [hQ]; exact W.zret (pc := 30) hx hb hr rfl (fun t9 ht _ => ⟨retI (bi_t (by simp [isOfP, c_1])), ht⟩) (fun _ h => nomatch h) dX5_isOf_30 hlocks
  · skip
    refine lv_iload_n (pc := 4) hx hb dX5_isOf_4 rfl (lv_at hl 1 rfl) ?_
    refine lv_aload_n (pc := 5) hx hb dX5_isOf_5 rfl (lv_at hl 0 rfl) ?_
    refine fget (pc := 6) (v := .int f0) hx hb hts hown hE hP fl_X5_9 0 rfl rfl dX5_isOf_6 ?_
    refine lv_icmp_eq (pc := 9) (tgt := 25) hx hb dX5_isOf_9 (by decide) (fun c_2 => ?_) (fun c_2 => ?_)
    · skip
      refine lv_iconst (pc := 25) (v := 1) hx hb dX5_isOf_25 (by decide) ?_
      refine lv_goto (pc := 26) (tgt := 30) hx hb dX5_isOf_26 (by decide) ?_
      rw [hQ]; exact W.zret (pc := 30) hx hb hr rfl (fun t9 ht _ => ⟨retI (bi_t (by simp [isOfP, c_1, c_2])), ht⟩) (fun _ h => nomatch h) dX5_isOf_30 hlocks
    · skip
      refine lv_iload_n (pc := 12) hx hb dX5_isOf_12 rfl (lv_at hl 1 rfl) ?_
      refine lv_iconst (pc := 13) (v := 1) hx hb dX5_isOf_13 (by decide) ?_
      refine lv_icmp_ne (pc := 14) (tgt := 29) hx hb dX5_isOf_14 (by decide) (fun c_3 => ?_) (fun c_3 => ?_)
      · skip
        refine lv_iconst (pc := 29) (v := 0) hx hb dX5_isOf_29 (by decide) ?_
        rw [hQ]; exact W.zret (pc := 30) hx hb hr rfl (fun t9 ht _ => ⟨retI (bi_f (by simp [isOfP]; simp_all)), ht⟩) (fun _ h => nomatch h) dX5_isOf_30 hlocks
      · skip
        refine lv_aload_n (pc := 17) hx hb dX5_isOf_17 rfl (lv_at hl 0 rfl) ?_
        refine fget (pc := 18) (v := .int f0) hx hb hts hown hE hP fl_X5_9 0 rfl rfl dX5_isOf_18 ?_
        refine lv_iconst (pc := 21) (v := 2) hx hb dX5_isOf_21 (by decide) ?_
        refine lv_icmp_ne (pc := 22) (tgt := 29) hx hb dX5_isOf_22 (by decide) (fun c_4 => ?_) (fun c_4 => ?_)
        · skip
          refine lv_iconst (pc := 29) (v := 0) hx hb dX5_isOf_29 (by decide) ?_
          rw [hQ]; exact W.zret (pc := 30) hx hb hr rfl (fun t9 ht _ => ⟨retI (bi_f (by simp [isOfP]; simp_all)), ht⟩) (fun _ h => nomatch h) dX5_isOf_30 hlocks
        · skip
          refine lv_iconst (pc := 25) (v := 1) hx hb dX5_isOf_25 (by decide) ?_
          refine lv_goto (pc := 26) (tgt := 30) hx hb dX5_isOf_26 (by decide) ?_
          rw [hQ]; exact W.zret (pc := 30) hx hb hr rfl (fun t9 ht _ => ⟨retI (bi_t (by simp [isOfP, c_1, c_2, c_3, c_4])), ht⟩) (fun _ h => nomatch h) dX5_isOf_30 hlocks
set_option maxRecDepth 100000 in
set_option maxHeartbeats 4000000 in
theorem k_X6_has {x : Nat → Nat} {n : Int32} {c : Nat → Nat → Int32} (t : Int32) : MR l yX6_has cX6_has 2 (some .boolean) 0 0 D kB kI kT ks sk sv [.ref (x 7), .int t] (wTs kT x n c) (some (.int (bi (¬ t < 0 ∧ ¬ n ≤ t)))) := by
  refine MR.go (by decide +kernel) (Nat.le_of_ble_eq_true rfl) ?_
  intro p e s m below meth c0 args Q ls hQ hx hb hr hml hown hts hlocks hE hP hS hl
  have hl : lv_has ls 2 [(0, .ref (x 7)), (1, .int t)] := hl
  have hown : s.vm.findClass RX6 = some m.cls := hown
  refine lv_iload_n (pc := 0) hx hb dX6_has_0 rfl (lv_at hl 1 rfl) ?_
  refine lv_if_lt (pc := 1) (tgt := 16) hx hb dX6_has_1 (by decide) (fun c_1 => ?_) (fun c_1 => ?_)
  · skip
    refine lv_iconst (pc := 16) (v := 0) hx hb dX6_has_16 (by decide) ?_
    rw [hQ]; exact W.zret (pc := 17) hx hb hr rfl (fun t9 ht _ => ⟨retI (bi_f (fun q => q.1 c_1)), ht⟩) (fun _ h => nomatch h) dX6_has_17 hlocks
  · skip
    refine lv_iload_n (pc := 4) hx hb dX6_has_4 rfl (lv_at hl 1 rfl) ?_
    refine lv_aload_n (pc := 5) hx hb dX6_has_5 rfl (lv_at hl 0 rfl) ?_
    refine fget (pc := 6) (v := .int n) hx hb hts hown hE hP fl_X6_18 0 rfl rfl dX6_has_6 ?_
    refine lv_icmp_ge (pc := 9) (tgt := 16) hx hb dX6_has_9 (by decide) (fun c_2 => ?_) (fun c_2 => ?_)
    · skip
      refine lv_iconst (pc := 16) (v := 0) hx hb dX6_has_16 (by decide) ?_
      rw [hQ]; exact W.zret (pc := 17) hx hb hr rfl (fun t9 ht _ => ⟨retI (bi_f (fun q => q.2 c_2)), ht⟩) (fun _ h => nomatch h) dX6_has_17 hlocks
    · skip
      refine lv_iconst (pc := 12) (v := 1) hx hb dX6_has_12 (by decide) ?_
      refine lv_goto (pc := 13) (tgt := 17) hx hb dX6_has_13 (by decide) ?_
      rw [hQ]; exact W.zret (pc := 17) hx hb hr rfl (fun t9 ht _ => ⟨retI (bi_t ⟨c_1, c_2⟩), ht⟩) (fun _ h => nomatch h) dX6_has_17 hlocks
set_option maxRecDepth 100000 in
set_option maxHeartbeats 4000000 in
theorem k_X6_at {x : Nat → Nat} {n : Int32} {c : Nat → Nat → Int32} (k : Nat) (hk5 : k < 5) : MR l yX6_at cX6_at 2 (some (.object "PlaySeason$Title")) 0 0 D kB kI kT ks sk sv [.ref (x 7), .int (nI k)] (wTs kT x n c) (some (.ref (x (9 + k)))) := by
  refine MR.go (by decide +kernel) (Nat.le_of_ble_eq_true rfl) ?_
  intro p e s m below meth c0 args Q ls hQ hx hb hr hml hown hts hlocks hE hP hS hl
  have hl : lv_has ls 2 [(0, .ref (x 7)), (1, .int (nI k))] := hl
  have hown : s.vm.findClass RX6 = some m.cls := hown
  refine lv_aload_n (pc := 0) hx hb dX6_at_0 rfl (lv_at hl 0 rfl) ?_
  refine fget (pc := 1) (v := .ref (x 8)) hx hb hts hown hE hP fl_X6_11 0 rfl rfl dX6_at_1 ?_
  refine lv_iload_n (pc := 4) hx hb dX6_at_4 rfl (lv_at hl 1 rfl) ?_
  refine aldR (pc := 5) (v := x (9 + k)) hx hb hE hP 1 rfl (k) ⟨by omega, by omega⟩ rfl dX6_at_5 ?_
  rw [hQ]; exact W.aret (pc := 6) hx hb hr (Or.inl ⟨_, rfl⟩) (Or.inr ⟨_, rfl⟩) (fun t9 ht _ => ⟨retA (rfl), ht⟩) (fun _ h => nomatch h) dX6_at_6 hlocks
end
