section
variable {l : Launch} {D : va_G} {kB kI kT : ClassId} {ks sk sv : Nat}
set_option maxRecDepth 100000 in
set_option maxHeartbeats 4000000 in
theorem k_X5_init {o : Nat} {sz : Nat} : MC l yX5_init cX5_init 1 1 12 0 0 D kB kI kT ks sk sv sz [.ref o] [(o, .inr (5, [.int 0, .int 0, .int 0, .int 0, .int 0, .int 0]))] (fun w1 => w1 = [(o, .inr (5, [.int 0, .int 0, .int 0, .int 0, .int 0, .int 0]))]) := by
  refine MC.go (by decide +kernel) rfl (Nat.le_of_ble_eq_true rfl) ?_
  intro p e s m below meth c0 args Q ls A hQ hx hb hr hml hown hts hlocks hmn hA hAO hE hP hD hS hl
  have hl : lv_has ls 1 [(0, .ref o)] := hl
  have hown : s.vm.findClass RX5 = some m.cls := hown
  refine lv_aload_n (pc := 0) hx hb dX5_init_0 rfl (lv_at hl 0 rfl) ?_
  refine objI (pc := 1) hx hb hml hts hown oi_X5 oi_i oi_c hl.1 (Nat.le_of_ble_eq_true rfl) (Nat.le_of_ble_eq_true rfl) dX5_init_1 ?_
  rw [hQ]; exact W.vret (pc := 4) hx hb hr (fun t9 ht _ => ⟨⟨_, rfl, rfl, by rw [ht]; exact hP, hD⟩, hS.F ht⟩) hS.2.2 dX5_init_4 hlocks
set_option maxRecDepth 100000 in
set_option maxHeartbeats 4000000 in
theorem k_X0_init {o : Nat} {sz : Nat} : MC l yX0_init cX0_init 1 1 12 1 40 D kB kI kT ks sk sv sz [.ref o] [(o, .inr (0, [.null, .int 0]))] (fun w1 => ∃ (q1 : Nat), w1 = [(o, .inr (0, [.ref q1, .int 0])), (q1, .inl (kI, 40, .inl (fun _ => 0)))]) := by
  refine MC.go (by decide +kernel) rfl (Nat.le_of_ble_eq_true rfl) ?_
  intro p e s m below meth c0 args Q ls A hQ hx hb hr hml hown hts hlocks hmn hA hAO hE hP hD hS hl
  have hl : lv_has ls 1 [(0, .ref o)] := hl
  have hown : s.vm.findClass RX0 = some m.cls := hown
  refine lv_aload_n (pc := 0) hx hb dX0_init_0 rfl (lv_at hl 0 rfl) ?_
  refine objI (pc := 1) hx hb hml hts hown oi_X0 oi_i oi_c hl.1 (Nat.le_of_ble_eq_true rfl) (Nat.le_of_ble_eq_true rfl) dX0_init_1 ?_
  refine lv_aload_n (pc := 4) hx hb dX0_init_4 rfl (lv_at hl 0 rfl) ?_
  refine lv_bipush (pc := 5) (v := 40) hx hb dX0_init_5 (by decide) ?_
  refine newI (pc := 7) hx hb hts aw_int hE hP hD hS hA 40 (by decide) (by decide) (Nat.le_of_ble_eq_true rfl) (Nat.le_of_ble_eq_true rfl) (Nat.le_of_ble_eq_true rfl) dX0_init_7 (fun q1 H hP hD hS => ?_)
  have hP : va_P D vwCl [(o, .inr (0, [.null, .int 0])), (q1, .inl (kI, 40, .inl (fun _ => 0)))] H := hP
  have hD : va_D A [(o, .inr (0, [.null, .int 0])), (q1, .inl (kI, 40, .inl (fun _ => 0)))] := hD
  refine W.widen (k := 1) (n := 40) (Nat.le_of_ble_eq_true rfl) (Nat.le_of_ble_eq_true rfl) ?_
  refine W.eq (g2 := F0 m 9 ls [.ref q1, .ref o]) rfl ?_
  refine fputF (pc := 9) (v := .ref q1) hx hb hts hown hmn hE hP hD hS pf_X0_11 0 rfl rfl rfl (Nat.le_of_ble_eq_true rfl) dX0_init_9 (fun H locs hP hD hS => ?_)
  have hP : va_P D vwCl [(o, .inr (0, [.ref q1, .int 0])), (q1, .inl (kI, 40, .inl (fun _ => 0)))] H := hP
  have hD : va_D A [(o, .inr (0, [.ref q1, .int 0])), (q1, .inl (kI, 40, .inl (fun _ => 0)))] := hD
  refine W.eq (g2 := F0 m 12 ls []) rfl ?_
  rw [hQ]; exact W.vret (pc := 12) hx hb hr (fun t9 ht _ => ⟨⟨_, rfl, ⟨q1, rfl⟩, by rw [ht]; exact hP, hD⟩, hS.F ht⟩) hS.2.2 dX0_init_12 hlocks
set_option maxRecDepth 100000 in
set_option maxHeartbeats 4000000 in
theorem k_X4_init {o : Nat} {sz : Nat} : MC l yX4_init cX4_init 1 1 12 2 12 D kB kI kT ks sk sv sz [.ref o] [(o, .inr (4, [.null, .null, .int 0]))] (fun w1 => ∃ (q1 q2 : Nat), w1 = [(o, .inr (4, [.ref q1, .ref q2, .int 0])), (q1, .inl (kI, 6, .inl (fun _ => 0))), (q2, .inl (kI, 6, .inl (fun _ => 0)))]) := by
  refine MC.go (by decide +kernel) rfl (Nat.le_of_ble_eq_true rfl) ?_
  intro p e s m below meth c0 args Q ls A hQ hx hb hr hml hown hts hlocks hmn hA hAO hE hP hD hS hl
  have hl : lv_has ls 1 [(0, .ref o)] := hl
  have hown : s.vm.findClass RX4 = some m.cls := hown
  refine lv_aload_n (pc := 0) hx hb dX4_init_0 rfl (lv_at hl 0 rfl) ?_
  refine objI (pc := 1) hx hb hml hts hown oi_X4 oi_i oi_c hl.1 (Nat.le_of_ble_eq_true rfl) (Nat.le_of_ble_eq_true rfl) dX4_init_1 ?_
  refine lv_aload_n (pc := 4) hx hb dX4_init_4 rfl (lv_at hl 0 rfl) ?_
  refine lv_bipush (pc := 5) (v := 6) hx hb dX4_init_5 (by decide) ?_
  refine newI (pc := 7) hx hb hts aw_int hE hP hD hS hA 6 (by decide) (by decide) (Nat.le_of_ble_eq_true rfl) (Nat.le_of_ble_eq_true rfl) (Nat.le_of_ble_eq_true rfl) dX4_init_7 (fun q1 H hP hD hS => ?_)
  have hP : va_P D vwCl [(o, .inr (4, [.null, .null, .int 0])), (q1, .inl (kI, 6, .inl (fun _ => 0)))] H := hP
  have hD : va_D A [(o, .inr (4, [.null, .null, .int 0])), (q1, .inl (kI, 6, .inl (fun _ => 0)))] := hD
  refine W.widen (k := 1) (n := 6) (Nat.le_of_ble_eq_true rfl) (Nat.le_of_ble_eq_true rfl) ?_
  refine W.eq (g2 := F0 m 9 ls [.ref q1, .ref o]) rfl ?_
  refine fputF (pc := 9) (v := .ref q1) hx hb hts hown hmn hE hP hD hS pf_X4_9 0 rfl rfl rfl (Nat.le_of_ble_eq_true rfl) dX4_init_9 (fun H locs hP hD hS => ?_)
  have hP : va_P D vwCl [(o, .inr (4, [.ref q1, .null, .int 0])), (q1, .inl (kI, 6, .inl (fun _ => 0)))] H := hP
  have hD : va_D A [(o, .inr (4, [.ref q1, .null, .int 0])), (q1, .inl (kI, 6, .inl (fun _ => 0)))] := hD
  refine W.eq (g2 := F0 m 12 ls []) rfl ?_
  refine lv_aload_n (pc := 12) hx hb dX4_init_12 rfl (lv_at hl 0 rfl) ?_
  refine lv_bipush (pc := 13) (v := 6) hx hb dX4_init_13 (by decide) ?_
  refine newI (pc := 15) hx hb hts aw_int hE hP hD hS hA 6 (by decide) (by decide) (Nat.le_of_ble_eq_true rfl) (Nat.le_of_ble_eq_true rfl) (Nat.le_of_ble_eq_true rfl) dX4_init_15 (fun q2 H hP hD hS => ?_)
  have hP : va_P D vwCl [(o, .inr (4, [.ref q1, .null, .int 0])), (q1, .inl (kI, 6, .inl (fun _ => 0))), (q2, .inl (kI, 6, .inl (fun _ => 0)))] H := hP
  have hD : va_D A [(o, .inr (4, [.ref q1, .null, .int 0])), (q1, .inl (kI, 6, .inl (fun _ => 0))), (q2, .inl (kI, 6, .inl (fun _ => 0)))] := hD
  refine W.widen (k := 2) (n := 12) (Nat.le_of_ble_eq_true rfl) (Nat.le_of_ble_eq_true rfl) ?_
  refine W.eq (g2 := F0 m 17 ls [.ref q2, .ref o]) rfl ?_
  refine fputF (pc := 17) (v := .ref q2) hx hb hts hown hmn hE hP hD hS pf_X4_15 0 rfl rfl rfl (Nat.le_of_ble_eq_true rfl) dX4_init_17 (fun H locs hP hD hS => ?_)
  have hP : va_P D vwCl [(o, .inr (4, [.ref q1, .ref q2, .int 0])), (q1, .inl (kI, 6, .inl (fun _ => 0))), (q2, .inl (kI, 6, .inl (fun _ => 0)))] H := hP
  have hD : va_D A [(o, .inr (4, [.ref q1, .ref q2, .int 0])), (q1, .inl (kI, 6, .inl (fun _ => 0))), (q2, .inl (kI, 6, .inl (fun _ => 0)))] := hD
  refine W.eq (g2 := F0 m 20 ls []) rfl ?_
  rw [hQ]; exact W.vret (pc := 20) hx hb hr (fun t9 ht _ => ⟨⟨_, rfl, ⟨q1, q2, rfl⟩, by rw [ht]; exact hP, hD⟩, hS.F ht⟩) hS.2.2 dX4_init_20 hlocks
set_option maxRecDepth 100000 in
set_option maxHeartbeats 4000000 in
theorem k_X1_init {o : Nat} {t1 : Nat} {sz : Nat} : MC l yX1_init cX1_init 2 1 23 6 51 D kB kI kT ks sk sv sz [.ref o, .ref t1] [(o, .inr (1, [.null, .null, .null, .null, .null, .null, .null, .int 0, .int 0, .int 0]))] (fun w1 => ∃ (q1 q2 q3 q4 q5 q6 : Nat), w1 = [(o, .inr (1, [.ref t1, .ref q1, .ref q2, .ref q3, .ref q4, .ref q5, .ref q6, .int 0, .int 12, .int 0])), (q1, .inl (kI, 12, .inl (ovN (fun _ => 0) (fun _ => (-1)) 12))), (q2, .inl (kI, 12, .inl (fun _ => 0))), (q3, .inl (kI, 12, .inl (fun _ => 0))), (q4, .inl (kI, 5, .inl (fun _ => 0))), (q5, .inl (kI, 5, .inl (fun _ => 0))), (q6, .inl (kI, 5, .inl (fun _ => 0)))]) := by
  refine MC.go (by decide +kernel) rfl (Nat.le_of_ble_eq_true rfl) ?_
  intro p e s m below meth c0 args Q ls A hQ hx hb hr hml hown hts hlocks hmn hA hAO hE hP hD hS hl
  have hl : lv_has ls 2 [(0, .ref o), (1, .ref t1)] := hl
  have hown : s.vm.findClass RX1 = some m.cls := hown
  refine lv_aload_n (pc := 0) hx hb dX1_init_0 rfl (lv_at hl 0 rfl) ?_
  refine objI (pc := 1) hx hb hml hts hown oi_X1 oi_i oi_c hl.1 (Nat.le_of_ble_eq_true rfl) (Nat.le_of_ble_eq_true rfl) dX1_init_1 ?_
  refine lv_aload_n (pc := 4) hx hb dX1_init_4 rfl (lv_at hl 0 rfl) ?_
  refine lv_bipush (pc := 5) (v := 12) hx hb dX1_init_5 (by decide) ?_
  refine newI (pc := 7) hx hb hts aw_int hE hP hD hS hA 12 (by decide) (by decide) (Nat.le_of_ble_eq_true rfl) (Nat.le_of_ble_eq_true rfl) (Nat.le_of_ble_eq_true rfl) dX1_init_7 (fun q1 H hP hD hS => ?_)
  have hP : va_P D vwCl [(o, .inr (1, [.null, .null, .null, .null, .null, .null, .null, .int 0, .int 0, .int 0])), (q1, .inl (kI, 12, .inl (fun _ => 0)))] H := hP
  have hD : va_D A [(o, .inr (1, [.null, .null, .null, .null, .null, .null, .null, .int 0, .int 0, .int 0])), (q1, .inl (kI, 12, .inl (fun _ => 0)))] := hD
  refine W.widen (k := 1) (n := 12) (Nat.le_of_ble_eq_true rfl) (Nat.le_of_ble_eq_true rfl) ?_
  refine W.eq (g2 := F0 m 9 ls [.ref q1, .ref o]) rfl ?_
  refine fputF (pc := 9) (v := .ref q1) hx hb hts hown hmn hE hP hD hS pf_X1_9 0 rfl rfl rfl (Nat.le_of_ble_eq_true rfl) dX1_init_9 (fun H locs hP hD hS => ?_)
  have hP : va_P D vwCl [(o, .inr (1, [.null, .ref q1, .null, .null, .null, .null, .null, .int 0, .int 0, .int 0])), (q1, .inl (kI, 12, .inl (fun _ => 0)))] H := hP
  have hD : va_D A [(o, .inr (1, [.null, .ref q1, .null, .null, .null, .null, .null, .int 0, .int 0, .int 0])), (q1, .inl (kI, 12, .inl (fun _ => 0)))] := hD
  refine W.eq (g2 := F0 m 12 ls []) rfl ?_
  refine lv_aload_n (pc := 12) hx hb dX1_init_12 rfl (lv_at hl 0 rfl) ?_
  refine lv_bipush (pc := 13) (v := 12) hx hb dX1_init_13 (by decide) ?_
  refine newI (pc := 15) hx hb hts aw_int hE hP hD hS hA 12 (by decide) (by decide) (Nat.le_of_ble_eq_true rfl) (Nat.le_of_ble_eq_true rfl) (Nat.le_of_ble_eq_true rfl) dX1_init_15 (fun q2 H hP hD hS => ?_)
  have hP : va_P D vwCl [(o, .inr (1, [.null, .ref q1, .null, .null, .null, .null, .null, .int 0, .int 0, .int 0])), (q1, .inl (kI, 12, .inl (fun _ => 0))), (q2, .inl (kI, 12, .inl (fun _ => 0)))] H := hP
  have hD : va_D A [(o, .inr (1, [.null, .ref q1, .null, .null, .null, .null, .null, .int 0, .int 0, .int 0])), (q1, .inl (kI, 12, .inl (fun _ => 0))), (q2, .inl (kI, 12, .inl (fun _ => 0)))] := hD
  refine W.widen (k := 2) (n := 24) (Nat.le_of_ble_eq_true rfl) (Nat.le_of_ble_eq_true rfl) ?_
  refine W.eq (g2 := F0 m 17 ls [.ref q2, .ref o]) rfl ?_
  refine fputF (pc := 17) (v := .ref q2) hx hb hts hown hmn hE hP hD hS pf_X1_15 0 rfl rfl rfl (Nat.le_of_ble_eq_true rfl) dX1_init_17 (fun H locs hP hD hS => ?_)
  have hP : va_P D vwCl [(o, .inr (1, [.null, .ref q1, .ref q2, .null, .null, .null, .null, .int 0, .int 0, .int 0])), (q1, .inl (kI, 12, .inl (fun _ => 0))), (q2, .inl (kI, 12, .inl (fun _ => 0)))] H := hP
  have hD : va_D A [(o, .inr (1, [.null, .ref q1, .ref q2, .null, .null, .null, .null, .int 0, .int 0, .int 0])), (q1, .inl (kI, 12, .inl (fun _ => 0))), (q2, .inl (kI, 12, .inl (fun _ => 0)))] := hD
  refine W.eq (g2 := F0 m 20 ls []) rfl ?_
  refine lv_aload_n (pc := 20) hx hb dX1_init_20 rfl (lv_at hl 0 rfl) ?_
  refine lv_bipush (pc := 21) (v := 12) hx hb dX1_init_21 (by decide) ?_
  refine newI (pc := 23) hx hb hts aw_int hE hP hD hS hA 12 (by decide) (by decide) (Nat.le_of_ble_eq_true rfl) (Nat.le_of_ble_eq_true rfl) (Nat.le_of_ble_eq_true rfl) dX1_init_23 (fun q3 H hP hD hS => ?_)
  have hP : va_P D vwCl [(o, .inr (1, [.null, .ref q1, .ref q2, .null, .null, .null, .null, .int 0, .int 0, .int 0])), (q1, .inl (kI, 12, .inl (fun _ => 0))), (q2, .inl (kI, 12, .inl (fun _ => 0))), (q3, .inl (kI, 12, .inl (fun _ => 0)))] H := hP
  have hD : va_D A [(o, .inr (1, [.null, .ref q1, .ref q2, .null, .null, .null, .null, .int 0, .int 0, .int 0])), (q1, .inl (kI, 12, .inl (fun _ => 0))), (q2, .inl (kI, 12, .inl (fun _ => 0))), (q3, .inl (kI, 12, .inl (fun _ => 0)))] := hD
  refine W.widen (k := 3) (n := 36) (Nat.le_of_ble_eq_true rfl) (Nat.le_of_ble_eq_true rfl) ?_
  refine W.eq (g2 := F0 m 25 ls [.ref q3, .ref o]) rfl ?_
  refine fputF (pc := 25) (v := .ref q3) hx hb hts hown hmn hE hP hD hS pf_X1_18 0 rfl rfl rfl (Nat.le_of_ble_eq_true rfl) dX1_init_25 (fun H locs hP hD hS => ?_)
  have hP : va_P D vwCl [(o, .inr (1, [.null, .ref q1, .ref q2, .ref q3, .null, .null, .null, .int 0, .int 0, .int 0])), (q1, .inl (kI, 12, .inl (fun _ => 0))), (q2, .inl (kI, 12, .inl (fun _ => 0))), (q3, .inl (kI, 12, .inl (fun _ => 0)))] H := hP
  have hD : va_D A [(o, .inr (1, [.null, .ref q1, .ref q2, .ref q3, .null, .null, .null, .int 0, .int 0, .int 0])), (q1, .inl (kI, 12, .inl (fun _ => 0))), (q2, .inl (kI, 12, .inl (fun _ => 0))), (q3, .inl (kI, 12, .inl (fun _ => 0)))] := hD
  refine W.eq (g2 := F0 m 28 ls []) rfl ?_
  refine lv_aload_n (pc := 28) hx hb dX1_init_28 rfl (lv_at hl 0 rfl) ?_
  refine lv_iconst (pc := 29) (v := 5) hx hb dX1_init_29 (by decide) ?_
  refine newI (pc := 30) hx hb hts aw_int hE hP hD hS hA 5 (by decide) (by decide) (Nat.le_of_ble_eq_true rfl) (Nat.le_of_ble_eq_true rfl) (Nat.le_of_ble_eq_true rfl) dX1_init_30 (fun q4 H hP hD hS => ?_)
  have hP : va_P D vwCl [(o, .inr (1, [.null, .ref q1, .ref q2, .ref q3, .null, .null, .null, .int 0, .int 0, .int 0])), (q1, .inl (kI, 12, .inl (fun _ => 0))), (q2, .inl (kI, 12, .inl (fun _ => 0))), (q3, .inl (kI, 12, .inl (fun _ => 0))), (q4, .inl (kI, 5, .inl (fun _ => 0)))] H := hP
  have hD : va_D A [(o, .inr (1, [.null, .ref q1, .ref q2, .ref q3, .null, .null, .null, .int 0, .int 0, .int 0])), (q1, .inl (kI, 12, .inl (fun _ => 0))), (q2, .inl (kI, 12, .inl (fun _ => 0))), (q3, .inl (kI, 12, .inl (fun _ => 0))), (q4, .inl (kI, 5, .inl (fun _ => 0)))] := hD
  refine W.widen (k := 4) (n := 41) (Nat.le_of_ble_eq_true rfl) (Nat.le_of_ble_eq_true rfl) ?_
  refine W.eq (g2 := F0 m 32 ls [.ref q4, .ref o]) rfl ?_
  refine fputF (pc := 32) (v := .ref q4) hx hb hts hown hmn hE hP hD hS pf_X1_21 0 rfl rfl rfl (Nat.le_of_ble_eq_true rfl) dX1_init_32 (fun H locs hP hD hS => ?_)
  have hP : va_P D vwCl [(o, .inr (1, [.null, .ref q1, .ref q2, .ref q3, .ref q4, .null, .null, .int 0, .int 0, .int 0])), (q1, .inl (kI, 12, .inl (fun _ => 0))), (q2, .inl (kI, 12, .inl (fun _ => 0))), (q3, .inl (kI, 12, .inl (fun _ => 0))), (q4, .inl (kI, 5, .inl (fun _ => 0)))] H := hP
  have hD : va_D A [(o, .inr (1, [.null, .ref q1, .ref q2, .ref q3, .ref q4, .null, .null, .int 0, .int 0, .int 0])), (q1, .inl (kI, 12, .inl (fun _ => 0))), (q2, .inl (kI, 12, .inl (fun _ => 0))), (q3, .inl (kI, 12, .inl (fun _ => 0))), (q4, .inl (kI, 5, .inl (fun _ => 0)))] := hD
  refine W.eq (g2 := F0 m 35 ls []) rfl ?_
  refine lv_aload_n (pc := 35) hx hb dX1_init_35 rfl (lv_at hl 0 rfl) ?_
  refine lv_iconst (pc := 36) (v := 5) hx hb dX1_init_36 (by decide) ?_
  refine newI (pc := 37) hx hb hts aw_int hE hP hD hS hA 5 (by decide) (by decide) (Nat.le_of_ble_eq_true rfl) (Nat.le_of_ble_eq_true rfl) (Nat.le_of_ble_eq_true rfl) dX1_init_37 (fun q5 H hP hD hS => ?_)
  have hP : va_P D vwCl [(o, .inr (1, [.null, .ref q1, .ref q2, .ref q3, .ref q4, .null, .null, .int 0, .int 0, .int 0])), (q1, .inl (kI, 12, .inl (fun _ => 0))), (q2, .inl (kI, 12, .inl (fun _ => 0))), (q3, .inl (kI, 12, .inl (fun _ => 0))), (q4, .inl (kI, 5, .inl (fun _ => 0))), (q5, .inl (kI, 5, .inl (fun _ => 0)))] H := hP
  have hD : va_D A [(o, .inr (1, [.null, .ref q1, .ref q2, .ref q3, .ref q4, .null, .null, .int 0, .int 0, .int 0])), (q1, .inl (kI, 12, .inl (fun _ => 0))), (q2, .inl (kI, 12, .inl (fun _ => 0))), (q3, .inl (kI, 12, .inl (fun _ => 0))), (q4, .inl (kI, 5, .inl (fun _ => 0))), (q5, .inl (kI, 5, .inl (fun _ => 0)))] := hD
  refine W.widen (k := 5) (n := 46) (Nat.le_of_ble_eq_true rfl) (Nat.le_of_ble_eq_true rfl) ?_
  refine W.eq (g2 := F0 m 39 ls [.ref q5, .ref o]) rfl ?_
  refine fputF (pc := 39) (v := .ref q5) hx hb hts hown hmn hE hP hD hS pf_X1_24 0 rfl rfl rfl (Nat.le_of_ble_eq_true rfl) dX1_init_39 (fun H locs hP hD hS => ?_)
  have hP : va_P D vwCl [(o, .inr (1, [.null, .ref q1, .ref q2, .ref q3, .ref q4, .ref q5, .null, .int 0, .int 0, .int 0])), (q1, .inl (kI, 12, .inl (fun _ => 0))), (q2, .inl (kI, 12, .inl (fun _ => 0))), (q3, .inl (kI, 12, .inl (fun _ => 0))), (q4, .inl (kI, 5, .inl (fun _ => 0))), (q5, .inl (kI, 5, .inl (fun _ => 0)))] H := hP
  have hD : va_D A [(o, .inr (1, [.null, .ref q1, .ref q2, .ref q3, .ref q4, .ref q5, .null, .int 0, .int 0, .int 0])), (q1, .inl (kI, 12, .inl (fun _ => 0))), (q2, .inl (kI, 12, .inl (fun _ => 0))), (q3, .inl (kI, 12, .inl (fun _ => 0))), (q4, .inl (kI, 5, .inl (fun _ => 0))), (q5, .inl (kI, 5, .inl (fun _ => 0)))] := hD
  refine W.eq (g2 := F0 m 42 ls []) rfl ?_
  refine lv_aload_n (pc := 42) hx hb dX1_init_42 rfl (lv_at hl 0 rfl) ?_
  refine lv_iconst (pc := 43) (v := 5) hx hb dX1_init_43 (by decide) ?_
  refine newI (pc := 44) hx hb hts aw_int hE hP hD hS hA 5 (by decide) (by decide) (Nat.le_of_ble_eq_true rfl) (Nat.le_of_ble_eq_true rfl) (Nat.le_of_ble_eq_true rfl) dX1_init_44 (fun q6 H hP hD hS => ?_)
  have hP : va_P D vwCl [(o, .inr (1, [.null, .ref q1, .ref q2, .ref q3, .ref q4, .ref q5, .null, .int 0, .int 0, .int 0])), (q1, .inl (kI, 12, .inl (fun _ => 0))), (q2, .inl (kI, 12, .inl (fun _ => 0))), (q3, .inl (kI, 12, .inl (fun _ => 0))), (q4, .inl (kI, 5, .inl (fun _ => 0))), (q5, .inl (kI, 5, .inl (fun _ => 0))), (q6, .inl (kI, 5, .inl (fun _ => 0)))] H := hP
  have hD : va_D A [(o, .inr (1, [.null, .ref q1, .ref q2, .ref q3, .ref q4, .ref q5, .null, .int 0, .int 0, .int 0])), (q1, .inl (kI, 12, .inl (fun _ => 0))), (q2, .inl (kI, 12, .inl (fun _ => 0))), (q3, .inl (kI, 12, .inl (fun _ => 0))), (q4, .inl (kI, 5, .inl (fun _ => 0))), (q5, .inl (kI, 5, .inl (fun _ => 0))), (q6, .inl (kI, 5, .inl (fun _ => 0)))] := hD
  refine W.widen (k := 6) (n := 51) (Nat.le_of_ble_eq_true rfl) (Nat.le_of_ble_eq_true rfl) ?_
  refine W.eq (g2 := F0 m 46 ls [.ref q6, .ref o]) rfl ?_
  refine fputF (pc := 46) (v := .ref q6) hx hb hts hown hmn hE hP hD hS pf_X1_27 0 rfl rfl rfl (Nat.le_of_ble_eq_true rfl) dX1_init_46 (fun H locs hP hD hS => ?_)
  have hP : va_P D vwCl [(o, .inr (1, [.null, .ref q1, .ref q2, .ref q3, .ref q4, .ref q5, .ref q6, .int 0, .int 0, .int 0])), (q1, .inl (kI, 12, .inl (fun _ => 0))), (q2, .inl (kI, 12, .inl (fun _ => 0))), (q3, .inl (kI, 12, .inl (fun _ => 0))), (q4, .inl (kI, 5, .inl (fun _ => 0))), (q5, .inl (kI, 5, .inl (fun _ => 0))), (q6, .inl (kI, 5, .inl (fun _ => 0)))] H := hP
  have hD : va_D A [(o, .inr (1, [.null, .ref q1, .ref q2, .ref q3, .ref q4, .ref q5, .ref q6, .int 0, .int 0, .int 0])), (q1, .inl (kI, 12, .inl (fun _ => 0))), (q2, .inl (kI, 12, .inl (fun _ => 0))), (q3, .inl (kI, 12, .inl (fun _ => 0))), (q4, .inl (kI, 5, .inl (fun _ => 0))), (q5, .inl (kI, 5, .inl (fun _ => 0))), (q6, .inl (kI, 5, .inl (fun _ => 0)))] := hD
  refine W.eq (g2 := F0 m 49 ls []) rfl ?_
  refine lv_aload_n (pc := 49) hx hb dX1_init_49 rfl (lv_at hl 0 rfl) ?_
  refine lv_aload_n (pc := 50) hx hb dX1_init_50 rfl (lv_at hl 1 rfl) ?_
  refine fputF (pc := 51) (v := .ref t1) hx hb hts hown hmn hE hP hD hS pf_X1_30 0 rfl rfl rfl (Nat.le_of_ble_eq_true rfl) dX1_init_51 (fun H locs hP hD hS => ?_)
  have hP : va_P D vwCl [(o, .inr (1, [.ref t1, .ref q1, .ref q2, .ref q3, .ref q4, .ref q5, .ref q6, .int 0, .int 0, .int 0])), (q1, .inl (kI, 12, .inl (fun _ => 0))), (q2, .inl (kI, 12, .inl (fun _ => 0))), (q3, .inl (kI, 12, .inl (fun _ => 0))), (q4, .inl (kI, 5, .inl (fun _ => 0))), (q5, .inl (kI, 5, .inl (fun _ => 0))), (q6, .inl (kI, 5, .inl (fun _ => 0)))] H := hP
  have hD : va_D A [(o, .inr (1, [.ref t1, .ref q1, .ref q2, .ref q3, .ref q4, .ref q5, .ref q6, .int 0, .int 0, .int 0])), (q1, .inl (kI, 12, .inl (fun _ => 0))), (q2, .inl (kI, 12, .inl (fun _ => 0))), (q3, .inl (kI, 12, .inl (fun _ => 0))), (q4, .inl (kI, 5, .inl (fun _ => 0))), (q5, .inl (kI, 5, .inl (fun _ => 0))), (q6, .inl (kI, 5, .inl (fun _ => 0)))] := hD
  refine W.eq (g2 := F0 m 54 ls []) rfl ?_
  refine lv_aload_n (pc := 54) hx hb dX1_init_54 rfl (lv_at hl 0 rfl) ?_
  refine fget (pc := 55) (v := .ref q1) hx hb hts hown hE hP fl_X1_9 0 rfl rfl dX1_init_55 ?_
  refine lv_iconst (pc := 58) (v := (-1)) hx hb dX1_init_58 (by decide) ?_
  refine wS (pc := 59) (rest := []) ⟨hx, hb, hml, hown, hts⟩ (k_J7_fill (v := (-1)) (aa := q1) (NN := 12) (af := (fun _ => 0)) (hNN := (by omega))) cw_X1_34 ⟨(Nat.le_of_ble_eq_true rfl), (Nat.le_of_ble_eq_true rfl)⟩ hE hP hD hS [1] (by decide) rfl rfl rfl hl.1 rfl (Nat.le_of_ble_eq_true rfl) dX1_init_59 ⟨(Nat.le_of_ble_eq_true rfl), (Nat.le_of_ble_eq_true rfl)⟩ (fun H locs hP hD hS => ?_)
  have hP : va_P D vwCl [(o, .inr (1, [.ref t1, .ref q1, .ref q2, .ref q3, .ref q4, .ref q5, .ref q6, .int 0, .int 0, .int 0])), (q1, .inl (kI, 12, .inl (ovN (fun _ => 0) (fun _ => (-1)) 12))), (q2, .inl (kI, 12, .inl (fun _ => 0))), (q3, .inl (kI, 12, .inl (fun _ => 0))), (q4, .inl (kI, 5, .inl (fun _ => 0))), (q5, .inl (kI, 5, .inl (fun _ => 0))), (q6, .inl (kI, 5, .inl (fun _ => 0)))] H := hP
  have hD : va_D A [(o, .inr (1, [.ref t1, .ref q1, .ref q2, .ref q3, .ref q4, .ref q5, .ref q6, .int 0, .int 0, .int 0])), (q1, .inl (kI, 12, .inl (ovN (fun _ => 0) (fun _ => (-1)) 12))), (q2, .inl (kI, 12, .inl (fun _ => 0))), (q3, .inl (kI, 12, .inl (fun _ => 0))), (q4, .inl (kI, 5, .inl (fun _ => 0))), (q5, .inl (kI, 5, .inl (fun _ => 0))), (q6, .inl (kI, 5, .inl (fun _ => 0)))] := hD
  refine W.eq (g2 := F0 m 62 ls []) rfl ?_
  refine lv_aload_n (pc := 62) hx hb dX1_init_62 rfl (lv_at hl 0 rfl) ?_
  refine lv_bipush (pc := 63) (v := 12) hx hb dX1_init_63 (by decide) ?_
  refine fput (pc := 65) (v := .int 12) hx hb hts hown hE hP hD hS fp_X1_40 0 rfl rfl rfl (Nat.le_of_ble_eq_true rfl) dX1_init_65 (fun H locs hP hD hS => ?_)
  have hP : va_P D vwCl [(o, .inr (1, [.ref t1, .ref q1, .ref q2, .ref q3, .ref q4, .ref q5, .ref q6, .int 0, .int 12, .int 0])), (q1, .inl (kI, 12, .inl (ovN (fun _ => 0) (fun _ => (-1)) 12))), (q2, .inl (kI, 12, .inl (fun _ => 0))), (q3, .inl (kI, 12, .inl (fun _ => 0))), (q4, .inl (kI, 5, .inl (fun _ => 0))), (q5, .inl (kI, 5, .inl (fun _ => 0))), (q6, .inl (kI, 5, .inl (fun _ => 0)))] H := hP
  have hD : va_D A [(o, .inr (1, [.ref t1, .ref q1, .ref q2, .ref q3, .ref q4, .ref q5, .ref q6, .int 0, .int 12, .int 0])), (q1, .inl (kI, 12, .inl (ovN (fun _ => 0) (fun _ => (-1)) 12))), (q2, .inl (kI, 12, .inl (fun _ => 0))), (q3, .inl (kI, 12, .inl (fun _ => 0))), (q4, .inl (kI, 5, .inl (fun _ => 0))), (q5, .inl (kI, 5, .inl (fun _ => 0))), (q6, .inl (kI, 5, .inl (fun _ => 0)))] := hD
  refine W.eq (g2 := F0 m 68 ls []) rfl ?_
  rw [hQ]; exact W.vret (pc := 68) hx hb hr (fun t9 ht _ => ⟨⟨_, rfl, ⟨q1, q2, q3, q4, q5, q6, rfl⟩, by rw [ht]; exact hP, hD⟩, hS.F ht⟩) hS.2.2 dX1_init_68 hlocks
set_option maxRecDepth 100000 in
set_option maxHeartbeats 4000000 in
theorem k_X2_init {o : Nat} {t1 : Nat} {p1 : Nat} {sz : Nat} : MC l yX2_init cX2_init 3 1 12 2 16 D kB kI kT ks sk sv sz [.ref o, .ref t1, .ref p1] [(o, .inr (2, [.null, .null, .null, .null, .int 0, .int 0, .int 0]))] (fun w1 => ∃ (q1 q2 : Nat), w1 = [(o, .inr (2, [.ref t1, .ref p1, .ref q1, .ref q2, .int 0, .int 0, .int 0])), (q1, .inl (kI, 4, .inl (fun _ => 0))), (q2, .inl (kI, 12, .inl (fun _ => 0)))]) := by
  refine MC.go (by decide +kernel) rfl (Nat.le_of_ble_eq_true rfl) ?_
  intro p e s m below meth c0 args Q ls A hQ hx hb hr hml hown hts hlocks hmn hA hAO hE hP hD hS hl
  have hl : lv_has ls 3 [(0, .ref o), (1, .ref t1), (2, .ref p1)] := hl
  have hown : s.vm.findClass RX2 = some m.cls := hown
  refine lv_aload_n (pc := 0) hx hb dX2_init_0 rfl (lv_at hl 0 rfl) ?_
  refine objI (pc := 1) hx hb hml hts hown oi_X2 oi_i oi_c hl.1 (Nat.le_of_ble_eq_true rfl) (Nat.le_of_ble_eq_true rfl) dX2_init_1 ?_
  refine lv_aload_n (pc := 4) hx hb dX2_init_4 rfl (lv_at hl 0 rfl) ?_
  refine lv_iconst (pc := 5) (v := 4) hx hb dX2_init_5 (by decide) ?_
  refine newI (pc := 6) hx hb hts aw_int hE hP hD hS hA 4 (by decide) (by decide) (Nat.le_of_ble_eq_true rfl) (Nat.le_of_ble_eq_true rfl) (Nat.le_of_ble_eq_true rfl) dX2_init_6 (fun q1 H hP hD hS => ?_)
  have hP : va_P D vwCl [(o, .inr (2, [.null, .null, .null, .null, .int 0, .int 0, .int 0])), (q1, .inl (kI, 4, .inl (fun _ => 0)))] H := hP
  have hD : va_D A [(o, .inr (2, [.null, .null, .null, .null, .int 0, .int 0, .int 0])), (q1, .inl (kI, 4, .inl (fun _ => 0)))] := hD
  refine W.widen (k := 1) (n := 4) (Nat.le_of_ble_eq_true rfl) (Nat.le_of_ble_eq_true rfl) ?_
  refine W.eq (g2 := F0 m 8 ls [.ref q1, .ref o]) rfl ?_
  refine fputF (pc := 8) (v := .ref q1) hx hb hts hown hmn hE hP hD hS pf_X2_9 0 rfl rfl rfl (Nat.le_of_ble_eq_true rfl) dX2_init_8 (fun H locs hP hD hS => ?_)
  have hP : va_P D vwCl [(o, .inr (2, [.null, .null, .ref q1, .null, .int 0, .int 0, .int 0])), (q1, .inl (kI, 4, .inl (fun _ => 0)))] H := hP
  have hD : va_D A [(o, .inr (2, [.null, .null, .ref q1, .null, .int 0, .int 0, .int 0])), (q1, .inl (kI, 4, .inl (fun _ => 0)))] := hD
  refine W.eq (g2 := F0 m 11 ls []) rfl ?_
  refine lv_aload_n (pc := 11) hx hb dX2_init_11 rfl (lv_at hl 0 rfl) ?_
  refine lv_bipush (pc := 12) (v := 12) hx hb dX2_init_12 (by decide) ?_
  refine newI (pc := 14) hx hb hts aw_int hE hP hD hS hA 12 (by decide) (by decide) (Nat.le_of_ble_eq_true rfl) (Nat.le_of_ble_eq_true rfl) (Nat.le_of_ble_eq_true rfl) dX2_init_14 (fun q2 H hP hD hS => ?_)
  have hP : va_P D vwCl [(o, .inr (2, [.null, .null, .ref q1, .null, .int 0, .int 0, .int 0])), (q1, .inl (kI, 4, .inl (fun _ => 0))), (q2, .inl (kI, 12, .inl (fun _ => 0)))] H := hP
  have hD : va_D A [(o, .inr (2, [.null, .null, .ref q1, .null, .int 0, .int 0, .int 0])), (q1, .inl (kI, 4, .inl (fun _ => 0))), (q2, .inl (kI, 12, .inl (fun _ => 0)))] := hD
  refine W.widen (k := 2) (n := 16) (Nat.le_of_ble_eq_true rfl) (Nat.le_of_ble_eq_true rfl) ?_
  refine W.eq (g2 := F0 m 16 ls [.ref q2, .ref o]) rfl ?_
  refine fputF (pc := 16) (v := .ref q2) hx hb hts hown hmn hE hP hD hS pf_X2_15 0 rfl rfl rfl (Nat.le_of_ble_eq_true rfl) dX2_init_16 (fun H locs hP hD hS => ?_)
  have hP : va_P D vwCl [(o, .inr (2, [.null, .null, .ref q1, .ref q2, .int 0, .int 0, .int 0])), (q1, .inl (kI, 4, .inl (fun _ => 0))), (q2, .inl (kI, 12, .inl (fun _ => 0)))] H := hP
  have hD : va_D A [(o, .inr (2, [.null, .null, .ref q1, .ref q2, .int 0, .int 0, .int 0])), (q1, .inl (kI, 4, .inl (fun _ => 0))), (q2, .inl (kI, 12, .inl (fun _ => 0)))] := hD
  refine W.eq (g2 := F0 m 19 ls []) rfl ?_
  refine lv_aload_n (pc := 19) hx hb dX2_init_19 rfl (lv_at hl 0 rfl) ?_
  refine lv_aload_n (pc := 20) hx hb dX2_init_20 rfl (lv_at hl 1 rfl) ?_
  refine fputF (pc := 21) (v := .ref t1) hx hb hts hown hmn hE hP hD hS pf_X2_18 0 rfl rfl rfl (Nat.le_of_ble_eq_true rfl) dX2_init_21 (fun H locs hP hD hS => ?_)
  have hP : va_P D vwCl [(o, .inr (2, [.ref t1, .null, .ref q1, .ref q2, .int 0, .int 0, .int 0])), (q1, .inl (kI, 4, .inl (fun _ => 0))), (q2, .inl (kI, 12, .inl (fun _ => 0)))] H := hP
  have hD : va_D A [(o, .inr (2, [.ref t1, .null, .ref q1, .ref q2, .int 0, .int 0, .int 0])), (q1, .inl (kI, 4, .inl (fun _ => 0))), (q2, .inl (kI, 12, .inl (fun _ => 0)))] := hD
  refine W.eq (g2 := F0 m 24 ls []) rfl ?_
  refine lv_aload_n (pc := 24) hx hb dX2_init_24 rfl (lv_at hl 0 rfl) ?_
  refine lv_aload_n (pc := 25) hx hb dX2_init_25 rfl (lv_at hl 2 rfl) ?_
  refine fputF (pc := 26) (v := .ref p1) hx hb hts hown hmn hE hP hD hS pf_X2_22 0 rfl rfl rfl (Nat.le_of_ble_eq_true rfl) dX2_init_26 (fun H locs hP hD hS => ?_)
  have hP : va_P D vwCl [(o, .inr (2, [.ref t1, .ref p1, .ref q1, .ref q2, .int 0, .int 0, .int 0])), (q1, .inl (kI, 4, .inl (fun _ => 0))), (q2, .inl (kI, 12, .inl (fun _ => 0)))] H := hP
  have hD : va_D A [(o, .inr (2, [.ref t1, .ref p1, .ref q1, .ref q2, .int 0, .int 0, .int 0])), (q1, .inl (kI, 4, .inl (fun _ => 0))), (q2, .inl (kI, 12, .inl (fun _ => 0)))] := hD
  refine W.eq (g2 := F0 m 29 ls []) rfl ?_
  rw [hQ]; exact W.vret (pc := 29) hx hb hr (fun t9 ht _ => ⟨⟨_, rfl, ⟨q1, q2, rfl⟩, by rw [ht]; exact hP, hD⟩, hS.F ht⟩) hS.2.2 dX2_init_29 hlocks
set_option maxRecDepth 100000 in
set_option maxHeartbeats 4000000 in
theorem k_X6_init {o : Nat} {sz : Nat} : MC l yX6_init cX6_init 2 2 32 6 35 D kB kI kT ks sk sv sz [.ref o] [(o, .inr (6, [.null, .int 0]))] (fun w1 => ∃ (q1 q2 q3 q4 q5 q6 : Nat), w1 = [(o, .inr (6, [.ref q1, .int 0])), (q1, .inl (kT, 5, .inr (.inr (.inr (.inr (fun k => some (adF [q2, q3, q4, q5, q6] k))))))), (q2, .inr (5, [.int 0, .int 0, .int 0, .int 0, .int 0, .int 0])), (q3, .inr (5, [.int 0, .int 0, .int 0, .int 0, .int 0, .int 0])), (q4, .inr (5, [.int 0, .int 0, .int 0, .int 0, .int 0, .int 0])), (q5, .inr (5, [.int 0, .int 0, .int 0, .int 0, .int 0, .int 0])), (q6, .inr (5, [.int 0, .int 0, .int 0, .int 0, .int 0, .int 0]))]) := by
  refine MC.go (by decide +kernel) rfl (Nat.le_of_ble_eq_true rfl) ?_
  intro p e s m below meth c0 args Q ls A hQ hx hb hr hml hown hts hlocks hmn hA hAO hE hP hD hS hl
  have hl : lv_has ls 2 [(0, .ref o)] := hl
  have hown : s.vm.findClass RX6 = some m.cls := hown
  refine lv_aload_n (pc := 0) hx hb dX6_init_0 rfl (lv_at hl 0 rfl) ?_
  refine objI (pc := 1) hx hb hml hts hown oi_X6 oi_i oi_c hl.1 (Nat.le_of_ble_eq_true rfl) (Nat.le_of_ble_eq_true rfl) dX6_init_1 ?_
  refine lv_aload_n (pc := 4) hx hb dX6_init_4 rfl (lv_at hl 0 rfl) ?_
  refine lv_iconst (pc := 5) (v := 5) hx hb dX6_init_5 (by decide) ?_
  refine newT (pc := 6) hx hb hts hown cl_T hAO hE hP hD hS hA 5 (by decide) (by decide) (Nat.le_of_ble_eq_true rfl) (Nat.le_of_ble_eq_true rfl) (Nat.le_of_ble_eq_true rfl) dX6_init_6 (fun q1 H hP hD hS => ?_)
  have hP : va_P D vwCl [(o, .inr (6, [.null, .int 0])), (q1, .inl (kT, 5, .inr (.inr (.inr (.inr (fun _ => none))))))] H := hP
  have hD : va_D A [(o, .inr (6, [.null, .int 0])), (q1, .inl (kT, 5, .inr (.inr (.inr (.inr (fun _ => none))))))] := hD
  refine W.widen (k := 1) (n := 5) (Nat.le_of_ble_eq_true rfl) (Nat.le_of_ble_eq_true rfl) ?_
  refine fputF (pc := 9) (v := .ref q1) hx hb hts hown hmn hE hP hD hS pf_X6_11 0 rfl rfl rfl (Nat.le_of_ble_eq_true rfl) dX6_init_9 (fun H locs hP hD hS => ?_)
  have hP : va_P D vwCl [(o, .inr (6, [.ref q1, .int 0])), (q1, .inl (kT, 5, .inr (.inr (.inr (.inr (fun _ => none))))))] H := hP
  have hD : va_D A [(o, .inr (6, [.ref q1, .int 0])), (q1, .inl (kT, 5, .inr (.inr (.inr (.inr (fun _ => none))))))] := hD
  refine W.eq (g2 := F0 m 12 ls []) rfl ?_
  refine lv_iconst (pc := 12) (v := 0) hx hb dX6_init_12 (by decide) ?_
  refine lv_istore_n (pc := 13) (lv' := [(1, .int 0), (0, .ref o)]) hx hb dX6_init_13 rfl hl (by decide) rfl (fun ls hl => ?_)
  refine lv_iload_n (pc := 14) hx hb dX6_init_14 rfl (lv_at hl 0 rfl) ?_
  refine lv_iconst (pc := 15) (v := 5) hx hb dX6_init_15 (by decide) ?_
  refine lv_icmp_ge (pc := 16) (tgt := 38) hx hb dX6_init_16 (by decide) (fun q9 => absurd q9 (by decide)) (fun _ => ?_)
  refine lv_aload_n (pc := 19) hx hb dX6_init_19 rfl (lv_at hl 1 rfl) ?_
  refine fget (pc := 20) (v := .ref q1) hx hb hts hown hE hP fl_X6_11 0 rfl rfl dX6_init_20 ?_
  refine lv_iload_n (pc := 23) hx hb dX6_init_23 rfl (lv_at hl 0 rfl) ?_
  refine newC (pc := 24) hx hb hts hown nw_X6_9 hE hP hD hS hA (Nat.le_of_ble_eq_true rfl) (Nat.le_of_ble_eq_true rfl) dX6_init_24 (fun q2 H hP hD hS => ?_)
  have hP : va_P D vwCl [(o, .inr (6, [.ref q1, .int 0])), (q1, .inl (kT, 5, .inr (.inr (.inr (.inr (fun _ => none)))))), (q2, .inr (5, [.int 0, .int 0, .int 0, .int 0, .int 0, .int 0]))] H := hP
  have hD : va_D A [(o, .inr (6, [.ref q1, .int 0])), (q1, .inl (kT, 5, .inr (.inr (.inr (.inr (fun _ => none)))))), (q2, .inr (5, [.int 0, .int 0, .int 0, .int 0, .int 0, .int 0]))] := hD
  refine W.widen (k := 2) (n := 11) (Nat.le_of_ble_eq_true rfl) (Nat.le_of_ble_eq_true rfl) ?_
  refine lv_dup (pc := 27) hx hb dX6_init_27 rfl ?_
  refine cIN (pc := 28) (As := []) (rest := [.ref q2, .int 0, .ref q1]) (wr := [(o, .inr (6, [.ref q1, .int 0])), (q1, .inl (kT, 5, .inr (.inr (.inr (.inr (fun _ => none))))))]) ⟨hx, hb, hml, hown, hts⟩ (k_X5_init (o := q2)) ci_X6_17 ⟨(Nat.le_of_ble_eq_true rfl), (Nat.le_of_ble_eq_true rfl)⟩ hE hAO hP hD hS hA [2] [0, 1] rfl rfl rfl rfl (by decide) rfl hl.1 rfl (Nat.le_of_ble_eq_true rfl) dX6_init_28 ⟨(Nat.le_of_ble_eq_true rfl), (Nat.le_of_ble_eq_true rfl)⟩ (fun w1 H locs hpost hP hD hS => ?_)
  subst hpost
  have hP : va_P D vwCl [(o, .inr (6, [.ref q1, .int 0])), (q1, .inl (kT, 5, .inr (.inr (.inr (.inr (fun _ => none)))))), (q2, .inr (5, [.int 0, .int 0, .int 0, .int 0, .int 0, .int 0]))] H := hP
  have hD : va_D A [(o, .inr (6, [.ref q1, .int 0])), (q1, .inl (kT, 5, .inr (.inr (.inr (.inr (fun _ => none)))))), (q2, .inr (5, [.int 0, .int 0, .int 0, .int 0, .int 0, .int 0]))] := hD
  refine W.widen (k := 2) (n := 11) (Nat.le_of_ble_eq_true rfl) (Nat.le_of_ble_eq_true rfl) ?_
  refine W.eq (g2 := F0 m 31 ls [.ref q2, .int 0, .ref q1]) rfl ?_
  refine va_astq (pc := 31) hx hb hE.1 hP hD hS 1 2 2 5 (r := (RX5, TX5, 6)) rfl rfl rfl rfl (by unfold vp_in; decide) dX6_init_31 (fun H locs hP hD hS => ?_)
  rw [show Int32.toNatClampNeg 0 = 0 from by decide] at hP hD
  have hP : va_P D vwCl [(o, .inr (6, [.ref q1, .int 0])), (q1, .inl (kT, 5, .inr (.inr (.inr (.inr (va_up (fun _ => none) 0 (some q2))))))), (q2, .inr (5, [.int 0, .int 0, .int 0, .int 0, .int 0, .int 0]))] H := hP
  have hD : va_D A [(o, .inr (6, [.ref q1, .int 0])), (q1, .inl (kT, 5, .inr (.inr (.inr (.inr (va_up (fun _ => none) 0 (some q2))))))), (q2, .inr (5, [.int 0, .int 0, .int 0, .int 0, .int 0, .int 0]))] := hD
  refine W.eq (g2 := F0 m 32 ls []) rfl ?_
  refine lv_iinc (pc := 32) (v := 1) (lv' := [(1, .int 1), (0, .ref o)]) hx hb dX6_init_32 hl (k := 0) rfl (by decide) (by decide) rfl (fun ls hl => ?_)
  refine lv_goto (pc := 35) (tgt := 14) hx hb dX6_init_35 (by decide) ?_
  refine lv_iload_n (pc := 14) hx hb dX6_init_14 rfl (lv_at hl 0 rfl) ?_
  refine lv_iconst (pc := 15) (v := 5) hx hb dX6_init_15 (by decide) ?_
  refine lv_icmp_ge (pc := 16) (tgt := 38) hx hb dX6_init_16 (by decide) (fun q9 => absurd q9 (by decide)) (fun _ => ?_)
  refine lv_aload_n (pc := 19) hx hb dX6_init_19 rfl (lv_at hl 1 rfl) ?_
  refine fget (pc := 20) (v := .ref q1) hx hb hts hown hE hP fl_X6_11 0 rfl rfl dX6_init_20 ?_
  refine lv_iload_n (pc := 23) hx hb dX6_init_23 rfl (lv_at hl 0 rfl) ?_
  refine newC (pc := 24) hx hb hts hown nw_X6_9 hE hP hD hS hA (Nat.le_of_ble_eq_true rfl) (Nat.le_of_ble_eq_true rfl) dX6_init_24 (fun q3 H hP hD hS => ?_)
  have hP : va_P D vwCl [(o, .inr (6, [.ref q1, .int 0])), (q1, .inl (kT, 5, .inr (.inr (.inr (.inr (va_up (fun _ => none) 0 (some q2))))))), (q2, .inr (5, [.int 0, .int 0, .int 0, .int 0, .int 0, .int 0])), (q3, .inr (5, [.int 0, .int 0, .int 0, .int 0, .int 0, .int 0]))] H := hP
  have hD : va_D A [(o, .inr (6, [.ref q1, .int 0])), (q1, .inl (kT, 5, .inr (.inr (.inr (.inr (va_up (fun _ => none) 0 (some q2))))))), (q2, .inr (5, [.int 0, .int 0, .int 0, .int 0, .int 0, .int 0])), (q3, .inr (5, [.int 0, .int 0, .int 0, .int 0, .int 0, .int 0]))] := hD
  refine W.widen (k := 3) (n := 17) (Nat.le_of_ble_eq_true rfl) (Nat.le_of_ble_eq_true rfl) ?_
  refine lv_dup (pc := 27) hx hb dX6_init_27 rfl ?_
  refine cIN (pc := 28) (As := []) (rest := [.ref q3, .int 1, .ref q1]) (wr := [(o, .inr (6, [.ref q1, .int 0])), (q1, .inl (kT, 5, .inr (.inr (.inr (.inr (va_up (fun _ => none) 0 (some q2))))))), (q2, .inr (5, [.int 0, .int 0, .int 0, .int 0, .int 0, .int 0]))]) ⟨hx, hb, hml, hown, hts⟩ (k_X5_init (o := q3)) ci_X6_17 ⟨(Nat.le_of_ble_eq_true rfl), (Nat.le_of_ble_eq_true rfl)⟩ hE hAO hP hD hS hA [3] [0, 1, 2] rfl rfl rfl rfl (by decide) rfl hl.1 rfl (Nat.le_of_ble_eq_true rfl) dX6_init_28 ⟨(Nat.le_of_ble_eq_true rfl), (Nat.le_of_ble_eq_true rfl)⟩ (fun w1 H locs hpost hP hD hS => ?_)
  subst hpost
  have hP : va_P D vwCl [(o, .inr (6, [.ref q1, .int 0])), (q1, .inl (kT, 5, .inr (.inr (.inr (.inr (va_up (fun _ => none) 0 (some q2))))))), (q2, .inr (5, [.int 0, .int 0, .int 0, .int 0, .int 0, .int 0])), (q3, .inr (5, [.int 0, .int 0, .int 0, .int 0, .int 0, .int 0]))] H := hP
  have hD : va_D A [(o, .inr (6, [.ref q1, .int 0])), (q1, .inl (kT, 5, .inr (.inr (.inr (.inr (va_up (fun _ => none) 0 (some q2))))))), (q2, .inr (5, [.int 0, .int 0, .int 0, .int 0, .int 0, .int 0])), (q3, .inr (5, [.int 0, .int 0, .int 0, .int 0, .int 0, .int 0]))] := hD
  refine W.widen (k := 3) (n := 17) (Nat.le_of_ble_eq_true rfl) (Nat.le_of_ble_eq_true rfl) ?_
  refine W.eq (g2 := F0 m 31 ls [.ref q3, .int 1, .ref q1]) rfl ?_
  refine va_astq (pc := 31) hx hb hE.1 hP hD hS 1 2 3 5 (r := (RX5, TX5, 6)) rfl rfl rfl rfl (by unfold vp_in; decide) dX6_init_31 (fun H locs hP hD hS => ?_)
  rw [show Int32.toNatClampNeg 1 = 1 from by decide] at hP hD
  have hP : va_P D vwCl [(o, .inr (6, [.ref q1, .int 0])), (q1, .inl (kT, 5, .inr (.inr (.inr (.inr (va_up (va_up (fun _ => none) 0 (some q2)) 1 (some q3))))))), (q2, .inr (5, [.int 0, .int 0, .int 0, .int 0, .int 0, .int 0])), (q3, .inr (5, [.int 0, .int 0, .int 0, .int 0, .int 0, .int 0]))] H := hP
  have hD : va_D A [(o, .inr (6, [.ref q1, .int 0])), (q1, .inl (kT, 5, .inr (.inr (.inr (.inr (va_up (va_up (fun _ => none) 0 (some q2)) 1 (some q3))))))), (q2, .inr (5, [.int 0, .int 0, .int 0, .int 0, .int 0, .int 0])), (q3, .inr (5, [.int 0, .int 0, .int 0, .int 0, .int 0, .int 0]))] := hD
  refine W.eq (g2 := F0 m 32 ls []) rfl ?_
  refine lv_iinc (pc := 32) (v := 2) (lv' := [(1, .int 2), (0, .ref o)]) hx hb dX6_init_32 hl (k := 0) rfl (by decide) (by decide) rfl (fun ls hl => ?_)
  refine lv_goto (pc := 35) (tgt := 14) hx hb dX6_init_35 (by decide) ?_
  refine lv_iload_n (pc := 14) hx hb dX6_init_14 rfl (lv_at hl 0 rfl) ?_
  refine lv_iconst (pc := 15) (v := 5) hx hb dX6_init_15 (by decide) ?_
  refine lv_icmp_ge (pc := 16) (tgt := 38) hx hb dX6_init_16 (by decide) (fun q9 => absurd q9 (by decide)) (fun _ => ?_)
  refine lv_aload_n (pc := 19) hx hb dX6_init_19 rfl (lv_at hl 1 rfl) ?_
  refine fget (pc := 20) (v := .ref q1) hx hb hts hown hE hP fl_X6_11 0 rfl rfl dX6_init_20 ?_
  refine lv_iload_n (pc := 23) hx hb dX6_init_23 rfl (lv_at hl 0 rfl) ?_
  refine newC (pc := 24) hx hb hts hown nw_X6_9 hE hP hD hS hA (Nat.le_of_ble_eq_true rfl) (Nat.le_of_ble_eq_true rfl) dX6_init_24 (fun q4 H hP hD hS => ?_)
  have hP : va_P D vwCl [(o, .inr (6, [.ref q1, .int 0])), (q1, .inl (kT, 5, .inr (.inr (.inr (.inr (va_up (va_up (fun _ => none) 0 (some q2)) 1 (some q3))))))), (q2, .inr (5, [.int 0, .int 0, .int 0, .int 0, .int 0, .int 0])), (q3, .inr (5, [.int 0, .int 0, .int 0, .int 0, .int 0, .int 0])), (q4, .inr (5, [.int 0, .int 0, .int 0, .int 0, .int 0, .int 0]))] H := hP
  have hD : va_D A [(o, .inr (6, [.ref q1, .int 0])), (q1, .inl (kT, 5, .inr (.inr (.inr (.inr (va_up (va_up (fun _ => none) 0 (some q2)) 1 (some q3))))))), (q2, .inr (5, [.int 0, .int 0, .int 0, .int 0, .int 0, .int 0])), (q3, .inr (5, [.int 0, .int 0, .int 0, .int 0, .int 0, .int 0])), (q4, .inr (5, [.int 0, .int 0, .int 0, .int 0, .int 0, .int 0]))] := hD
  refine W.widen (k := 4) (n := 23) (Nat.le_of_ble_eq_true rfl) (Nat.le_of_ble_eq_true rfl) ?_
  refine lv_dup (pc := 27) hx hb dX6_init_27 rfl ?_
  refine cIN (pc := 28) (As := []) (rest := [.ref q4, .int 2, .ref q1]) (wr := [(o, .inr (6, [.ref q1, .int 0])), (q1, .inl (kT, 5, .inr (.inr (.inr (.inr (va_up (va_up (fun _ => none) 0 (some q2)) 1 (some q3))))))), (q2, .inr (5, [.int 0, .int 0, .int 0, .int 0, .int 0, .int 0])), (q3, .inr (5, [.int 0, .int 0, .int 0, .int 0, .int 0, .int 0]))]) ⟨hx, hb, hml, hown, hts⟩ (k_X5_init (o := q4)) ci_X6_17 ⟨(Nat.le_of_ble_eq_true rfl), (Nat.le_of_ble_eq_true rfl)⟩ hE hAO hP hD hS hA [4] [0, 1, 2, 3] rfl rfl rfl rfl (by decide) rfl hl.1 rfl (Nat.le_of_ble_eq_true rfl) dX6_init_28 ⟨(Nat.le_of_ble_eq_true rfl), (Nat.le_of_ble_eq_true rfl)⟩ (fun w1 H locs hpost hP hD hS => ?_)
  subst hpost
  have hP : va_P D vwCl [(o, .inr (6, [.ref q1, .int 0])), (q1, .inl (kT, 5, .inr (.inr (.inr (.inr (va_up (va_up (fun _ => none) 0 (some q2)) 1 (some q3))))))), (q2, .inr (5, [.int 0, .int 0, .int 0, .int 0, .int 0, .int 0])), (q3, .inr (5, [.int 0, .int 0, .int 0, .int 0, .int 0, .int 0])), (q4, .inr (5, [.int 0, .int 0, .int 0, .int 0, .int 0, .int 0]))] H := hP
  have hD : va_D A [(o, .inr (6, [.ref q1, .int 0])), (q1, .inl (kT, 5, .inr (.inr (.inr (.inr (va_up (va_up (fun _ => none) 0 (some q2)) 1 (some q3))))))), (q2, .inr (5, [.int 0, .int 0, .int 0, .int 0, .int 0, .int 0])), (q3, .inr (5, [.int 0, .int 0, .int 0, .int 0, .int 0, .int 0])), (q4, .inr (5, [.int 0, .int 0, .int 0, .int 0, .int 0, .int 0]))] := hD
  refine W.widen (k := 4) (n := 23) (Nat.le_of_ble_eq_true rfl) (Nat.le_of_ble_eq_true rfl) ?_
  refine W.eq (g2 := F0 m 31 ls [.ref q4, .int 2, .ref q1]) rfl ?_
  refine va_astq (pc := 31) hx hb hE.1 hP hD hS 1 2 4 5 (r := (RX5, TX5, 6)) rfl rfl rfl rfl (by unfold vp_in; decide) dX6_init_31 (fun H locs hP hD hS => ?_)
  rw [show Int32.toNatClampNeg 2 = 2 from by decide] at hP hD
  have hP : va_P D vwCl [(o, .inr (6, [.ref q1, .int 0])), (q1, .inl (kT, 5, .inr (.inr (.inr (.inr (va_up (va_up (va_up (fun _ => none) 0 (some q2)) 1 (some q3)) 2 (some q4))))))), (q2, .inr (5, [.int 0, .int 0, .int 0, .int 0, .int 0, .int 0])), (q3, .inr (5, [.int 0, .int 0, .int 0, .int 0, .int 0, .int 0])), (q4, .inr (5, [.int 0, .int 0, .int 0, .int 0, .int 0, .int 0]))] H := hP
  have hD : va_D A [(o, .inr (6, [.ref q1, .int 0])), (q1, .inl (kT, 5, .inr (.inr (.inr (.inr (va_up (va_up (va_up (fun _ => none) 0 (some q2)) 1 (some q3)) 2 (some q4))))))), (q2, .inr (5, [.int 0, .int 0, .int 0, .int 0, .int 0, .int 0])), (q3, .inr (5, [.int 0, .int 0, .int 0, .int 0, .int 0, .int 0])), (q4, .inr (5, [.int 0, .int 0, .int 0, .int 0, .int 0, .int 0]))] := hD
  refine W.eq (g2 := F0 m 32 ls []) rfl ?_
  refine lv_iinc (pc := 32) (v := 3) (lv' := [(1, .int 3), (0, .ref o)]) hx hb dX6_init_32 hl (k := 0) rfl (by decide) (by decide) rfl (fun ls hl => ?_)
  refine lv_goto (pc := 35) (tgt := 14) hx hb dX6_init_35 (by decide) ?_
  refine lv_iload_n (pc := 14) hx hb dX6_init_14 rfl (lv_at hl 0 rfl) ?_
  refine lv_iconst (pc := 15) (v := 5) hx hb dX6_init_15 (by decide) ?_
  refine lv_icmp_ge (pc := 16) (tgt := 38) hx hb dX6_init_16 (by decide) (fun q9 => absurd q9 (by decide)) (fun _ => ?_)
  refine lv_aload_n (pc := 19) hx hb dX6_init_19 rfl (lv_at hl 1 rfl) ?_
  refine fget (pc := 20) (v := .ref q1) hx hb hts hown hE hP fl_X6_11 0 rfl rfl dX6_init_20 ?_
  refine lv_iload_n (pc := 23) hx hb dX6_init_23 rfl (lv_at hl 0 rfl) ?_
  refine newC (pc := 24) hx hb hts hown nw_X6_9 hE hP hD hS hA (Nat.le_of_ble_eq_true rfl) (Nat.le_of_ble_eq_true rfl) dX6_init_24 (fun q5 H hP hD hS => ?_)
  have hP : va_P D vwCl [(o, .inr (6, [.ref q1, .int 0])), (q1, .inl (kT, 5, .inr (.inr (.inr (.inr (va_up (va_up (va_up (fun _ => none) 0 (some q2)) 1 (some q3)) 2 (some q4))))))), (q2, .inr (5, [.int 0, .int 0, .int 0, .int 0, .int 0, .int 0])), (q3, .inr (5, [.int 0, .int 0, .int 0, .int 0, .int 0, .int 0])), (q4, .inr (5, [.int 0, .int 0, .int 0, .int 0, .int 0, .int 0])), (q5, .inr (5, [.int 0, .int 0, .int 0, .int 0, .int 0, .int 0]))] H := hP
  have hD : va_D A [(o, .inr (6, [.ref q1, .int 0])), (q1, .inl (kT, 5, .inr (.inr (.inr (.inr (va_up (va_up (va_up (fun _ => none) 0 (some q2)) 1 (some q3)) 2 (some q4))))))), (q2, .inr (5, [.int 0, .int 0, .int 0, .int 0, .int 0, .int 0])), (q3, .inr (5, [.int 0, .int 0, .int 0, .int 0, .int 0, .int 0])), (q4, .inr (5, [.int 0, .int 0, .int 0, .int 0, .int 0, .int 0])), (q5, .inr (5, [.int 0, .int 0, .int 0, .int 0, .int 0, .int 0]))] := hD
  refine W.widen (k := 5) (n := 29) (Nat.le_of_ble_eq_true rfl) (Nat.le_of_ble_eq_true rfl) ?_
  refine lv_dup (pc := 27) hx hb dX6_init_27 rfl ?_
  refine cIN (pc := 28) (As := []) (rest := [.ref q5, .int 3, .ref q1]) (wr := [(o, .inr (6, [.ref q1, .int 0])), (q1, .inl (kT, 5, .inr (.inr (.inr (.inr (va_up (va_up (va_up (fun _ => none) 0 (some q2)) 1 (some q3)) 2 (some q4))))))), (q2, .inr (5, [.int 0, .int 0, .int 0, .int 0, .int 0, .int 0])), (q3, .inr (5, [.int 0, .int 0, .int 0, .int 0, .int 0, .int 0])), (q4, .inr (5, [.int 0, .int 0, .int 0, .int 0, .int 0, .int 0]))]) ⟨hx, hb, hml, hown, hts⟩ (k_X5_init (o := q5)) ci_X6_17 ⟨(Nat.le_of_ble_eq_true rfl), (Nat.le_of_ble_eq_true rfl)⟩ hE hAO hP hD hS hA [5] [0, 1, 2, 3, 4] rfl rfl rfl rfl (by decide) rfl hl.1 rfl (Nat.le_of_ble_eq_true rfl) dX6_init_28 ⟨(Nat.le_of_ble_eq_true rfl), (Nat.le_of_ble_eq_true rfl)⟩ (fun w1 H locs hpost hP hD hS => ?_)
  subst hpost
  have hP : va_P D vwCl [(o, .inr (6, [.ref q1, .int 0])), (q1, .inl (kT, 5, .inr (.inr (.inr (.inr (va_up (va_up (va_up (fun _ => none) 0 (some q2)) 1 (some q3)) 2 (some q4))))))), (q2, .inr (5, [.int 0, .int 0, .int 0, .int 0, .int 0, .int 0])), (q3, .inr (5, [.int 0, .int 0, .int 0, .int 0, .int 0, .int 0])), (q4, .inr (5, [.int 0, .int 0, .int 0, .int 0, .int 0, .int 0])), (q5, .inr (5, [.int 0, .int 0, .int 0, .int 0, .int 0, .int 0]))] H := hP
  have hD : va_D A [(o, .inr (6, [.ref q1, .int 0])), (q1, .inl (kT, 5, .inr (.inr (.inr (.inr (va_up (va_up (va_up (fun _ => none) 0 (some q2)) 1 (some q3)) 2 (some q4))))))), (q2, .inr (5, [.int 0, .int 0, .int 0, .int 0, .int 0, .int 0])), (q3, .inr (5, [.int 0, .int 0, .int 0, .int 0, .int 0, .int 0])), (q4, .inr (5, [.int 0, .int 0, .int 0, .int 0, .int 0, .int 0])), (q5, .inr (5, [.int 0, .int 0, .int 0, .int 0, .int 0, .int 0]))] := hD
  refine W.widen (k := 5) (n := 29) (Nat.le_of_ble_eq_true rfl) (Nat.le_of_ble_eq_true rfl) ?_
  refine W.eq (g2 := F0 m 31 ls [.ref q5, .int 3, .ref q1]) rfl ?_
  refine va_astq (pc := 31) hx hb hE.1 hP hD hS 1 2 5 5 (r := (RX5, TX5, 6)) rfl rfl rfl rfl (by unfold vp_in; decide) dX6_init_31 (fun H locs hP hD hS => ?_)
  rw [show Int32.toNatClampNeg 3 = 3 from by decide] at hP hD
  have hP : va_P D vwCl [(o, .inr (6, [.ref q1, .int 0])), (q1, .inl (kT, 5, .inr (.inr (.inr (.inr (va_up (va_up (va_up (va_up (fun _ => none) 0 (some q2)) 1 (some q3)) 2 (some q4)) 3 (some q5))))))), (q2, .inr (5, [.int 0, .int 0, .int 0, .int 0, .int 0, .int 0])), (q3, .inr (5, [.int 0, .int 0, .int 0, .int 0, .int 0, .int 0])), (q4, .inr (5, [.int 0, .int 0, .int 0, .int 0, .int 0, .int 0])), (q5, .inr (5, [.int 0, .int 0, .int 0, .int 0, .int 0, .int 0]))] H := hP
  have hD : va_D A [(o, .inr (6, [.ref q1, .int 0])), (q1, .inl (kT, 5, .inr (.inr (.inr (.inr (va_up (va_up (va_up (va_up (fun _ => none) 0 (some q2)) 1 (some q3)) 2 (some q4)) 3 (some q5))))))), (q2, .inr (5, [.int 0, .int 0, .int 0, .int 0, .int 0, .int 0])), (q3, .inr (5, [.int 0, .int 0, .int 0, .int 0, .int 0, .int 0])), (q4, .inr (5, [.int 0, .int 0, .int 0, .int 0, .int 0, .int 0])), (q5, .inr (5, [.int 0, .int 0, .int 0, .int 0, .int 0, .int 0]))] := hD
  refine W.eq (g2 := F0 m 32 ls []) rfl ?_
  refine lv_iinc (pc := 32) (v := 4) (lv' := [(1, .int 4), (0, .ref o)]) hx hb dX6_init_32 hl (k := 0) rfl (by decide) (by decide) rfl (fun ls hl => ?_)
  refine lv_goto (pc := 35) (tgt := 14) hx hb dX6_init_35 (by decide) ?_
  refine lv_iload_n (pc := 14) hx hb dX6_init_14 rfl (lv_at hl 0 rfl) ?_
  refine lv_iconst (pc := 15) (v := 5) hx hb dX6_init_15 (by decide) ?_
  refine lv_icmp_ge (pc := 16) (tgt := 38) hx hb dX6_init_16 (by decide) (fun q9 => absurd q9 (by decide)) (fun _ => ?_)
  refine lv_aload_n (pc := 19) hx hb dX6_init_19 rfl (lv_at hl 1 rfl) ?_
  refine fget (pc := 20) (v := .ref q1) hx hb hts hown hE hP fl_X6_11 0 rfl rfl dX6_init_20 ?_
  refine lv_iload_n (pc := 23) hx hb dX6_init_23 rfl (lv_at hl 0 rfl) ?_
  refine newC (pc := 24) hx hb hts hown nw_X6_9 hE hP hD hS hA (Nat.le_of_ble_eq_true rfl) (Nat.le_of_ble_eq_true rfl) dX6_init_24 (fun q6 H hP hD hS => ?_)
  have hP : va_P D vwCl [(o, .inr (6, [.ref q1, .int 0])), (q1, .inl (kT, 5, .inr (.inr (.inr (.inr (va_up (va_up (va_up (va_up (fun _ => none) 0 (some q2)) 1 (some q3)) 2 (some q4)) 3 (some q5))))))), (q2, .inr (5, [.int 0, .int 0, .int 0, .int 0, .int 0, .int 0])), (q3, .inr (5, [.int 0, .int 0, .int 0, .int 0, .int 0, .int 0])), (q4, .inr (5, [.int 0, .int 0, .int 0, .int 0, .int 0, .int 0])), (q5, .inr (5, [.int 0, .int 0, .int 0, .int 0, .int 0, .int 0])), (q6, .inr (5, [.int 0, .int 0, .int 0, .int 0, .int 0, .int 0]))] H := hP
  have hD : va_D A [(o, .inr (6, [.ref q1, .int 0])), (q1, .inl (kT, 5, .inr (.inr (.inr (.inr (va_up (va_up (va_up (va_up (fun _ => none) 0 (some q2)) 1 (some q3)) 2 (some q4)) 3 (some q5))))))), (q2, .inr (5, [.int 0, .int 0, .int 0, .int 0, .int 0, .int 0])), (q3, .inr (5, [.int 0, .int 0, .int 0, .int 0, .int 0, .int 0])), (q4, .inr (5, [.int 0, .int 0, .int 0, .int 0, .int 0, .int 0])), (q5, .inr (5, [.int 0, .int 0, .int 0, .int 0, .int 0, .int 0])), (q6, .inr (5, [.int 0, .int 0, .int 0, .int 0, .int 0, .int 0]))] := hD
  refine W.widen (k := 6) (n := 35) (Nat.le_of_ble_eq_true rfl) (Nat.le_of_ble_eq_true rfl) ?_
  refine lv_dup (pc := 27) hx hb dX6_init_27 rfl ?_
  refine cIN (pc := 28) (As := []) (rest := [.ref q6, .int 4, .ref q1]) (wr := [(o, .inr (6, [.ref q1, .int 0])), (q1, .inl (kT, 5, .inr (.inr (.inr (.inr (va_up (va_up (va_up (va_up (fun _ => none) 0 (some q2)) 1 (some q3)) 2 (some q4)) 3 (some q5))))))), (q2, .inr (5, [.int 0, .int 0, .int 0, .int 0, .int 0, .int 0])), (q3, .inr (5, [.int 0, .int 0, .int 0, .int 0, .int 0, .int 0])), (q4, .inr (5, [.int 0, .int 0, .int 0, .int 0, .int 0, .int 0])), (q5, .inr (5, [.int 0, .int 0, .int 0, .int 0, .int 0, .int 0]))]) ⟨hx, hb, hml, hown, hts⟩ (k_X5_init (o := q6)) ci_X6_17 ⟨(Nat.le_of_ble_eq_true rfl), (Nat.le_of_ble_eq_true rfl)⟩ hE hAO hP hD hS hA [6] [0, 1, 2, 3, 4, 5] rfl rfl rfl rfl (by decide) rfl hl.1 rfl (Nat.le_of_ble_eq_true rfl) dX6_init_28 ⟨(Nat.le_of_ble_eq_true rfl), (Nat.le_of_ble_eq_true rfl)⟩ (fun w1 H locs hpost hP hD hS => ?_)
  subst hpost
  have hP : va_P D vwCl [(o, .inr (6, [.ref q1, .int 0])), (q1, .inl (kT, 5, .inr (.inr (.inr (.inr (va_up (va_up (va_up (va_up (fun _ => none) 0 (some q2)) 1 (some q3)) 2 (some q4)) 3 (some q5))))))), (q2, .inr (5, [.int 0, .int 0, .int 0, .int 0, .int 0, .int 0])), (q3, .inr (5, [.int 0, .int 0, .int 0, .int 0, .int 0, .int 0])), (q4, .inr (5, [.int 0, .int 0, .int 0, .int 0, .int 0, .int 0])), (q5, .inr (5, [.int 0, .int 0, .int 0, .int 0, .int 0, .int 0])), (q6, .inr (5, [.int 0, .int 0, .int 0, .int 0, .int 0, .int 0]))] H := hP
  have hD : va_D A [(o, .inr (6, [.ref q1, .int 0])), (q1, .inl (kT, 5, .inr (.inr (.inr (.inr (va_up (va_up (va_up (va_up (fun _ => none) 0 (some q2)) 1 (some q3)) 2 (some q4)) 3 (some q5))))))), (q2, .inr (5, [.int 0, .int 0, .int 0, .int 0, .int 0, .int 0])), (q3, .inr (5, [.int 0, .int 0, .int 0, .int 0, .int 0, .int 0])), (q4, .inr (5, [.int 0, .int 0, .int 0, .int 0, .int 0, .int 0])), (q5, .inr (5, [.int 0, .int 0, .int 0, .int 0, .int 0, .int 0])), (q6, .inr (5, [.int 0, .int 0, .int 0, .int 0, .int 0, .int 0]))] := hD
  refine W.widen (k := 6) (n := 35) (Nat.le_of_ble_eq_true rfl) (Nat.le_of_ble_eq_true rfl) ?_
  refine W.eq (g2 := F0 m 31 ls [.ref q6, .int 4, .ref q1]) rfl ?_
  refine va_astq (pc := 31) hx hb hE.1 hP hD hS 1 2 6 5 (r := (RX5, TX5, 6)) rfl rfl rfl rfl (by unfold vp_in; decide) dX6_init_31 (fun H locs hP hD hS => ?_)
  rw [show Int32.toNatClampNeg 4 = 4 from by decide] at hP hD
  have hP : va_P D vwCl [(o, .inr (6, [.ref q1, .int 0])), (q1, .inl (kT, 5, .inr (.inr (.inr (.inr (va_up (va_up (va_up (va_up (va_up (fun _ => none) 0 (some q2)) 1 (some q3)) 2 (some q4)) 3 (some q5)) 4 (some q6))))))), (q2, .inr (5, [.int 0, .int 0, .int 0, .int 0, .int 0, .int 0])), (q3, .inr (5, [.int 0, .int 0, .int 0, .int 0, .int 0, .int 0])), (q4, .inr (5, [.int 0, .int 0, .int 0, .int 0, .int 0, .int 0])), (q5, .inr (5, [.int 0, .int 0, .int 0, .int 0, .int 0, .int 0])), (q6, .inr (5, [.int 0, .int 0, .int 0, .int 0, .int 0, .int 0]))] H := hP
  have hD : va_D A [(o, .inr (6, [.ref q1, .int 0])), (q1, .inl (kT, 5, .inr (.inr (.inr (.inr (va_up (va_up (va_up (va_up (va_up (fun _ => none) 0 (some q2)) 1 (some q3)) 2 (some q4)) 3 (some q5)) 4 (some q6))))))), (q2, .inr (5, [.int 0, .int 0, .int 0, .int 0, .int 0, .int 0])), (q3, .inr (5, [.int 0, .int 0, .int 0, .int 0, .int 0, .int 0])), (q4, .inr (5, [.int 0, .int 0, .int 0, .int 0, .int 0, .int 0])), (q5, .inr (5, [.int 0, .int 0, .int 0, .int 0, .int 0, .int 0])), (q6, .inr (5, [.int 0, .int 0, .int 0, .int 0, .int 0, .int 0]))] := hD
  refine W.eq (g2 := F0 m 32 ls []) rfl ?_
  refine lv_iinc (pc := 32) (v := 5) (lv' := [(1, .int 5), (0, .ref o)]) hx hb dX6_init_32 hl (k := 0) rfl (by decide) (by decide) rfl (fun ls hl => ?_)
  refine lv_goto (pc := 35) (tgt := 14) hx hb dX6_init_35 (by decide) ?_
  refine lv_iload_n (pc := 14) hx hb dX6_init_14 rfl (lv_at hl 0 rfl) ?_
  refine lv_iconst (pc := 15) (v := 5) hx hb dX6_init_15 (by decide) ?_
  refine lv_icmp_ge (pc := 16) (tgt := 38) hx hb dX6_init_16 (by decide) (fun _ => ?_) (fun q9 => absurd (by decide) q9)
  have hP := refs_cg hP 1 (fun k => some (adF [q2, q3, q4, q5, q6] k)) rfl (fun j hj => by
    match j, hj with
    | 0, _ => rfl
    | 1, _ => rfl
    | 2, _ => rfl
    | 3, _ => rfl
    | 4, _ => rfl)
  have hP : va_P D vwCl [(o, .inr (6, [.ref q1, .int 0])), (q1, .inl (kT, 5, .inr (.inr (.inr (.inr (fun k => some (adF [q2, q3, q4, q5, q6] k))))))), (q2, .inr (5, [.int 0, .int 0, .int 0, .int 0, .int 0, .int 0])), (q3, .inr (5, [.int 0, .int 0, .int 0, .int 0, .int 0, .int 0])), (q4, .inr (5, [.int 0, .int 0, .int 0, .int 0, .int 0, .int 0])), (q5, .inr (5, [.int 0, .int 0, .int 0, .int 0, .int 0, .int 0])), (q6, .inr (5, [.int 0, .int 0, .int 0, .int 0, .int 0, .int 0]))] H := hP
  have hD : va_D A [(o, .inr (6, [.ref q1, .int 0])), (q1, .inl (kT, 5, .inr (.inr (.inr (.inr (fun k => some (adF [q2, q3, q4, q5, q6] k))))))), (q2, .inr (5, [.int 0, .int 0, .int 0, .int 0, .int 0, .int 0])), (q3, .inr (5, [.int 0, .int 0, .int 0, .int 0, .int 0, .int 0])), (q4, .inr (5, [.int 0, .int 0, .int 0, .int 0, .int 0, .int 0])), (q5, .inr (5, [.int 0, .int 0, .int 0, .int 0, .int 0, .int 0])), (q6, .inr (5, [.int 0, .int 0, .int 0, .int 0, .int 0, .int 0]))] := by refine D_map ?_ hD; rfl
  rw [hQ]; exact W.vret (pc := 38) hx hb hr (fun t9 ht _ => ⟨⟨_, rfl, ⟨q1, q2, q3, q4, q5, q6, rfl⟩, by rw [ht]; exact hP, hD⟩, hS.F ht⟩) hS.2.2 dX6_init_38 hlocks
end
