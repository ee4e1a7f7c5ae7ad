set_option maxRecDepth 100000 in
set_option maxHeartbeats 4000000 in
theorem law_letter {l : Launch} {D : va_G} {kB kI kT : ClassId} {ks sk sv : Nat} {p : Program} {e : Env} {s : State} {m : MethodId} {below : List Frame} {meth : Method} {c : Code} {H : Heap} {locs : List Loc} {cells slots : Nat} {Q : State → Prop} {bs L : Nat} {xs : Nat → Int32} {A : Nat → Prop} {b x y pa : Nat → Nat} {o : Nat} {a : Nat → Nat} {j : Nat} {ls : Array Slot}
    (C : LC p s m c D kB kI kT ks sk sv bs L xs A) (hj : 4 * j + 3 < L) (hcs : cells + 0 ≤ room_1.cells ∧ slots + 0 ≤ room_1.slots) (hl : lv_has ls 4 [(0, .ref bs), (1, .ref (b 30)), (2, .ref o), (3, .int (nI (4 * j)))]) (h : LI D kB kI kT b x y pa o a A j H) (hS : va_S A s.heap H locs)
    (kk : ∀ (H1 : Heap) (locs1 : List Loc), LI D kB kI kT b x y pa o a A (j + 1) H1 → va_S A s.heap H1 locs1 → W p l e room_1 s m #[Value.ref bs] below meth c H1 locs1 cells slots Q (F0 m 729 ls [])) : W p l e room_1 s m #[Value.ref bs] below meth c H locs cells slots Q (F0 m 136 ls []) := by
  obtain ⟨hx, hb, hml, hown, hts, hE, hX, hbl, hbA, hL⟩ := C
  obtain ⟨z, gg, r, hPb, n, sn, pn, h9, bt, g, cd, so, sq, q, c1, v, c2, v2, d, u, hPa, hd, hI⟩ := h
  obtain ⟨hz1, hn5, hok, hz10, hsn, hz14, hpn, hpg⟩ := inv_ref hI
  refine lv_aload_n (pc := 136) hx hb dL_law_136 rfl (lv_at hl 1 rfl) ?_
  refine lv_aload_n (pc := 137) hx hb dL_law_137 rfl (lv_at hl 0 rfl) ?_
  refine lv_iload_n (pc := 138) hx hb dL_law_138 rfl (lv_at hl 3 rfl) ?_
  refine lv_iconst (pc := 139) (v := 1) hx hb dL_law_139 (by decide) ?_
  refine iaddV (pc := 140) (v := nI (4 * j + 1)) hx hb dL_law_140 (nI_add (4 * j) 1) ?_
  refine sldN (pc := 141) (j := 4 * j + 1) hx hb hX hbl hbA hS (by omega) hL dL_law_141 ?_
  refine lA (pc := 142) (rest := []) (As := [.int (xs (4 * j + 1))]) (RF := R_letter z gg r pn (xs (4 * j + 1))) ⟨hx, hb, hml, hown, hts⟩ (k_X7_letter_s (code := xs (4 * j + 1)) hI (by omega)) cw_L_13 ⟨(Nat.le_of_ble_eq_true rfl), (Nat.le_of_ble_eq_true rfl)⟩ hE hPa hPb hd hS rfl rfl hl.1 rfl (Nat.le_of_ble_eq_true rfl) dL_law_142 hcs (fun H locs hC hPb hS => ?_)
  refine W.eq (g2 := F0 m 145 ls [.int (R_letter z gg r pn (xs (4 * j + 1))).1]) rfl ?_
  refine lv_aload_n (pc := 145) hx hb dL_law_145 rfl (lv_at hl 2 rfl) ?_
  refine lv_aload_n (pc := 146) hx hb dL_law_146 rfl (lv_at hl 0 rfl) ?_
  refine lv_iload_n (pc := 147) hx hb dL_law_147 rfl (lv_at hl 3 rfl) ?_
  refine lv_iconst (pc := 148) (v := 1) hx hb dL_law_148 (by decide) ?_
  refine iaddV (pc := 149) (v := nI (4 * j + 1)) hx hb dL_law_149 (nI_add (4 * j) 1) ?_
  refine sldN (pc := 150) (j := 4 * j + 1) hx hb hX hbl hbA hS (by omega) hL dL_law_150 ?_
  refine lB (pc := 151) (rest := [.int (R_letter z gg r pn (xs (4 * j + 1))).1]) (As := [.int (xs (4 * j + 1))]) ⟨hx, hb, hml, hown, hts⟩ (k_X8_letter (code := xs (4 * j + 1)) (pn := pn) (hz14 := hz14) (hpn := hpn)) cw_L_17 ⟨(Nat.le_of_ble_eq_true rfl), (Nat.le_of_ble_eq_true rfl)⟩ hE hC hPb hS rfl rfl hl.1 rfl (Nat.le_of_ble_eq_true rfl) dL_law_151 hcs (fun H locs hC hPb hS => ?_)
  refine lv_icmp_eq (pc := 154) (tgt := 729) hx hb dL_law_154 (by decide) (fun _ => ?_) (fun q9 => absurd rfl q9)
  exact kk _ _ ⟨_, _, _, hPb, hC⟩ hS

set_option maxRecDepth 100000 in
set_option maxHeartbeats 4000000 in
theorem law_blank {l : Launch} {D : va_G} {kB kI kT : ClassId} {ks sk sv : Nat} {p : Program} {e : Env} {s : State} {m : MethodId} {below : List Frame} {meth : Method} {c : Code} {H : Heap} {locs : List Loc} {cells slots : Nat} {Q : State → Prop} {bs L : Nat} {xs : Nat → Int32} {A : Nat → Prop} {b x y pa : Nat → Nat} {o : Nat} {a : Nat → Nat} {j : Nat} {ls : Array Slot}
    (C : LC p s m c D kB kI kT ks sk sv bs L xs A) (hj : 4 * j + 3 < L) (hcs : cells + 0 ≤ room_1.cells ∧ slots + 0 ≤ room_1.slots) (hl : lv_has ls 4 [(0, .ref bs), (1, .ref (b 30)), (2, .ref o), (3, .int (nI (4 * j)))]) (h : LI D kB kI kT b x y pa o a A j H) (hS : va_S A s.heap H locs)
    (kk : ∀ (H1 : Heap) (locs1 : List Loc), LI D kB kI kT b x y pa o a A (j + 1) H1 → va_S A s.heap H1 locs1 → W p l e room_1 s m #[Value.ref bs] below meth c H1 locs1 cells slots Q (F0 m 729 ls [])) : W p l e room_1 s m #[Value.ref bs] below meth c H locs cells slots Q (F0 m 159 ls []) := by
  obtain ⟨hx, hb, hml, hown, hts, hE, hX, hbl, hbA, hL⟩ := C
  obtain ⟨z, gg, r, hPb, n, sn, pn, h9, bt, g, cd, so, sq, q, c1, v, c2, v2, d, u, hPa, hd, hI⟩ := h
  obtain ⟨hz1, hn5, hok, hz10, hsn, hz14, hpn, hpg⟩ := inv_ref hI
  refine lv_aload_n (pc := 159) hx hb dL_law_159 rfl (lv_at hl 1 rfl) ?_
  refine lA (pc := 160) (rest := []) (As := []) (RF := (z 14, va_up z 14 0, gg, r)) ⟨hx, hb, hml, hown, hts⟩ (k_X7_blank_s  hI (by omega)) cw_L_18 ⟨(Nat.le_of_ble_eq_true rfl), (Nat.le_of_ble_eq_true rfl)⟩ hE hPa hPb hd hS rfl rfl hl.1 rfl (Nat.le_of_ble_eq_true rfl) dL_law_160 hcs (fun H locs hC hPb hS => ?_)
  refine W.eq (g2 := F0 m 163 ls [.int ((z 14, va_up z 14 0, gg, r)).1]) rfl ?_
  refine lv_aload_n (pc := 163) hx hb dL_law_163 rfl (lv_at hl 2 rfl) ?_
  refine lB (pc := 164) (rest := [.int ((z 14, va_up z 14 0, gg, r)).1]) (As := []) ⟨hx, hb, hml, hown, hts⟩ (k_X8_blank   ) cw_L_22 ⟨(Nat.le_of_ble_eq_true rfl), (Nat.le_of_ble_eq_true rfl)⟩ hE hC hPb hS rfl rfl hl.1 rfl (Nat.le_of_ble_eq_true rfl) dL_law_164 hcs (fun H locs hC hPb hS => ?_)
  refine lv_icmp_eq (pc := 167) (tgt := 729) hx hb dL_law_167 (by decide) (fun _ => ?_) (fun q9 => absurd rfl q9)
  exact kk _ _ ⟨_, _, _, hPb, hC⟩ hS

set_option maxRecDepth 100000 in
set_option maxHeartbeats 4000000 in
theorem law_fault {l : Launch} {D : va_G} {kB kI kT : ClassId} {ks sk sv : Nat} {p : Program} {e : Env} {s : State} {m : MethodId} {below : List Frame} {meth : Method} {c : Code} {H : Heap} {locs : List Loc} {cells slots : Nat} {Q : State → Prop} {bs L : Nat} {xs : Nat → Int32} {A : Nat → Prop} {b x y pa : Nat → Nat} {o : Nat} {a : Nat → Nat} {j : Nat} {ls : Array Slot}
    (C : LC p s m c D kB kI kT ks sk sv bs L xs A) (hj : 4 * j + 3 < L) (hcs : cells + 0 ≤ room_1.cells ∧ slots + 0 ≤ room_1.slots) (hl : lv_has ls 4 [(0, .ref bs), (1, .ref (b 30)), (2, .ref o), (3, .int (nI (4 * j)))]) (h : LI D kB kI kT b x y pa o a A j H) (hS : va_S A s.heap H locs)
    (kk : ∀ (H1 : Heap) (locs1 : List Loc), LI D kB kI kT b x y pa o a A (j + 1) H1 → va_S A s.heap H1 locs1 → W p l e room_1 s m #[Value.ref bs] below meth c H1 locs1 cells slots Q (F0 m 729 ls [])) : W p l e room_1 s m #[Value.ref bs] below meth c H locs cells slots Q (F0 m 172 ls []) := by
  obtain ⟨hx, hb, hml, hown, hts, hE, hX, hbl, hbA, hL⟩ := C
  obtain ⟨z, gg, r, hPb, n, sn, pn, h9, bt, g, cd, so, sq, q, c1, v, c2, v2, d, u, hPa, hd, hI⟩ := h
  obtain ⟨hz1, hn5, hok, hz10, hsn, hz14, hpn, hpg⟩ := inv_ref hI
  refine lv_aload_n (pc := 172) hx hb dL_law_172 rfl (lv_at hl 1 rfl) ?_
  refine rV (pc := 173) (rest := []) (As := []) ⟨hx, hb, hml, hown, hts⟩ (k_X7_fault  (gg := gg) hI) cw_L_23 ⟨(Nat.le_of_ble_eq_true rfl), (Nat.le_of_ble_eq_true rfl)⟩ hE hS hPa rfl rfl rfl rfl hl.1 rfl (Nat.le_of_ble_eq_true rfl) dL_law_173 hcs ?_
  have hC : CI1 D kI kT b x y pa A (wR kB kI o a z gg r) (j + 1) (R_read z gg r pn).2.1 (R_read z gg r pn).2.2.2 H := ⟨n, sn, pn, h9, bt, g, cd, so, sq, q, c1, v, c2, v2, d, u, hPa, hd, inv_read hI (by omega)⟩
  refine W.eq (g2 := F0 m 176 ls [.int (nI (ffC cd pn))]) rfl ?_
  refine lv_aload_n (pc := 176) hx hb dL_law_176 rfl (lv_at hl 2 rfl) ?_
  refine lB (pc := 177) (rest := [.int (nI (ffC cd pn))]) (As := []) ⟨hx, hb, hml, hown, hts⟩ (k_X8_fault  (pn := pn) (hz14 := hz14) (hpn := hpn)) cw_L_26 ⟨(Nat.le_of_ble_eq_true rfl), (Nat.le_of_ble_eq_true rfl)⟩ hE hC hPb hS rfl rfl hl.1 rfl (Nat.le_of_ble_eq_true rfl) dL_law_177 hcs (fun H locs hC hPb hS => ?_)
  refine lv_icmp_eq (pc := 180) (tgt := 729) hx hb dL_law_180 (by decide) (fun _ => ?_) (fun q9 => absurd (congrArg nI (ff_eq hpg)) q9)
  exact kk _ _ ⟨_, _, _, hPb, hC⟩ hS

set_option maxRecDepth 100000 in
set_option maxHeartbeats 4000000 in
theorem law_house {l : Launch} {D : va_G} {kB kI kT : ClassId} {ks sk sv : Nat} {p : Program} {e : Env} {s : State} {m : MethodId} {below : List Frame} {meth : Method} {c : Code} {H : Heap} {locs : List Loc} {cells slots : Nat} {Q : State → Prop} {bs L : Nat} {xs : Nat → Int32} {A : Nat → Prop} {b x y pa : Nat → Nat} {o : Nat} {a : Nat → Nat} {j : Nat} {ls : Array Slot}
    (C : LC p s m c D kB kI kT ks sk sv bs L xs A) (hj : 4 * j + 3 < L) (hcs : cells + 0 ≤ room_1.cells ∧ slots + 0 ≤ room_1.slots) (hl : lv_has ls 4 [(0, .ref bs), (1, .ref (b 30)), (2, .ref o), (3, .int (nI (4 * j)))]) (h : LI D kB kI kT b x y pa o a A j H) (hS : va_S A s.heap H locs)
    (kk : ∀ (H1 : Heap) (locs1 : List Loc), LI D kB kI kT b x y pa o a A (j + 1) H1 → va_S A s.heap H1 locs1 → W p l e room_1 s m #[Value.ref bs] below meth c H1 locs1 cells slots Q (F0 m 729 ls [])) : W p l e room_1 s m #[Value.ref bs] below meth c H locs cells slots Q (F0 m 185 ls []) := by
  obtain ⟨hx, hb, hml, hown, hts, hE, hX, hbl, hbA, hL⟩ := C
  obtain ⟨z, gg, r, hPb, n, sn, pn, h9, bt, g, cd, so, sq, q, c1, v, c2, v2, d, u, hPa, hd, hI⟩ := h
  obtain ⟨hz1, hn5, hok, hz10, hsn, hz14, hpn, hpg⟩ := inv_ref hI
  refine lv_aload_n (pc := 185) hx hb dL_law_185 rfl (lv_at hl 1 rfl) ?_
  refine lA (pc := 186) (rest := []) (As := []) (RF := R_house z gg r pn) ⟨hx, hb, hml, hown, hts⟩ (k_X7_house_s  hI (by omega)) cw_L_27 ⟨(Nat.le_of_ble_eq_true rfl), (Nat.le_of_ble_eq_true rfl)⟩ hE hPa hPb hd hS rfl rfl hl.1 rfl (Nat.le_of_ble_eq_true rfl) dL_law_186 hcs (fun H locs hC hPb hS => ?_)
  refine W.eq (g2 := F0 m 189 ls [.int (R_house z gg r pn).1]) rfl ?_
  refine lv_aload_n (pc := 189) hx hb dL_law_189 rfl (lv_at hl 2 rfl) ?_
  refine lB (pc := 190) (rest := [.int (R_house z gg r pn).1]) (As := []) ⟨hx, hb, hml, hown, hts⟩ (k_X8_house  (pn := pn) (hz14 := hz14) (hpn := hpn)) cw_L_30 ⟨(Nat.le_of_ble_eq_true rfl), (Nat.le_of_ble_eq_true rfl)⟩ hE hC hPb hS rfl rfl hl.1 rfl (Nat.le_of_ble_eq_true rfl) dL_law_190 hcs (fun H locs hC hPb hS => ?_)
  refine lv_icmp_eq (pc := 193) (tgt := 729) hx hb dL_law_193 (by decide) (fun _ => ?_) (fun q9 => absurd rfl q9)
  exact kk _ _ ⟨_, _, _, hPb, hC⟩ hS

set_option maxRecDepth 100000 in
set_option maxHeartbeats 4000000 in
theorem law_plan {l : Launch} {D : va_G} {kB kI kT : ClassId} {ks sk sv : Nat} {p : Program} {e : Env} {s : State} {m : MethodId} {below : List Frame} {meth : Method} {c : Code} {H : Heap} {locs : List Loc} {cells slots : Nat} {Q : State → Prop} {bs L : Nat} {xs : Nat → Int32} {A : Nat → Prop} {b x y pa : Nat → Nat} {o : Nat} {a : Nat → Nat} {j : Nat} {ls : Array Slot}
    (C : LC p s m c D kB kI kT ks sk sv bs L xs A) (hj : 4 * j + 3 < L) (hcs : cells + 0 ≤ room_1.cells ∧ slots + 0 ≤ room_1.slots) (hl : lv_has ls 4 [(0, .ref bs), (1, .ref (b 30)), (2, .ref o), (3, .int (nI (4 * j)))]) (h : LI D kB kI kT b x y pa o a A j H) (hS : va_S A s.heap H locs)
    (kk : ∀ (H1 : Heap) (locs1 : List Loc), LI D kB kI kT b x y pa o a A (j + 1) H1 → va_S A s.heap H1 locs1 → W p l e room_1 s m #[Value.ref bs] below meth c H1 locs1 cells slots Q (F0 m 729 ls [])) : W p l e room_1 s m #[Value.ref bs] below meth c H locs cells slots Q (F0 m 198 ls []) := by
  obtain ⟨hx, hb, hml, hown, hts, hE, hX, hbl, hbA, hL⟩ := C
  obtain ⟨z, gg, r, hPb, n, sn, pn, h9, bt, g, cd, so, sq, q, c1, v, c2, v2, d, u, hPa, hd, hI⟩ := h
  obtain ⟨hz1, hn5, hok, hz10, hsn, hz14, hpn, hpg⟩ := inv_ref hI
  refine lv_aload_n (pc := 198) hx hb dL_law_198 rfl (lv_at hl 1 rfl) ?_
  refine lA (pc := 199) (rest := []) (As := []) (RF := R_plan z gg r n pn) ⟨hx, hb, hml, hown, hts⟩ (k_X7_plan_s  hI (by omega)) cw_L_31 ⟨(Nat.le_of_ble_eq_true rfl), (Nat.le_of_ble_eq_true rfl)⟩ hE hPa hPb hd hS rfl rfl hl.1 rfl (Nat.le_of_ble_eq_true rfl) dL_law_199 hcs (fun H locs hC hPb hS => ?_)
  refine W.eq (g2 := F0 m 202 ls [.int (R_plan z gg r n pn).1]) rfl ?_
  refine lv_aload_n (pc := 202) hx hb dL_law_202 rfl (lv_at hl 2 rfl) ?_
  refine lB (pc := 203) (rest := [.int (R_plan z gg r n pn).1]) (As := []) ⟨hx, hb, hml, hown, hts⟩ (k_X8_plan  (n := n) (pn := pn) (hz1 := hz1) (hn5 := hn5) (hz14 := hz14) (hpn := hpn)) cw_L_34 ⟨(Nat.le_of_ble_eq_true rfl), (Nat.le_of_ble_eq_true rfl)⟩ hE hC hPb hS rfl rfl hl.1 rfl (Nat.le_of_ble_eq_true rfl) dL_law_203 hcs (fun H locs hC hPb hS => ?_)
  refine lv_icmp_eq (pc := 206) (tgt := 729) hx hb dL_law_206 (by decide) (fun _ => ?_) (fun q9 => absurd rfl q9)
  exact kk _ _ ⟨_, _, _, hPb, hC⟩ hS

set_option maxRecDepth 100000 in
set_option maxHeartbeats 4000000 in
theorem law_title {l : Launch} {D : va_G} {kB kI kT : ClassId} {ks sk sv : Nat} {p : Program} {e : Env} {s : State} {m : MethodId} {below : List Frame} {meth : Method} {c : Code} {H : Heap} {locs : List Loc} {cells slots : Nat} {Q : State → Prop} {bs L : Nat} {xs : Nat → Int32} {A : Nat → Prop} {b x y pa : Nat → Nat} {o : Nat} {a : Nat → Nat} {j : Nat} {ls : Array Slot}
    (C : LC p s m c D kB kI kT ks sk sv bs L xs A) (hj : 4 * j + 3 < L) (hcs : cells + 0 ≤ room_1.cells ∧ slots + 0 ≤ room_1.slots) (hl : lv_has ls 4 [(0, .ref bs), (1, .ref (b 30)), (2, .ref o), (3, .int (nI (4 * j)))]) (h : LI D kB kI kT b x y pa o a A j H) (hS : va_S A s.heap H locs)
    (kk : ∀ (H1 : Heap) (locs1 : List Loc), LI D kB kI kT b x y pa o a A (j + 1) H1 → va_S A s.heap H1 locs1 → W p l e room_1 s m #[Value.ref bs] below meth c H1 locs1 cells slots Q (F0 m 729 ls [])) : W p l e room_1 s m #[Value.ref bs] below meth c H locs cells slots Q (F0 m 211 ls []) := by
  obtain ⟨hx, hb, hml, hown, hts, hE, hX, hbl, hbA, hL⟩ := C
  obtain ⟨z, gg, r, hPb, n, sn, pn, h9, bt, g, cd, so, sq, q, c1, v, c2, v2, d, u, hPa, hd, hI⟩ := h
  obtain ⟨hz1, hn5, hok, hz10, hsn, hz14, hpn, hpg⟩ := inv_ref hI
  refine lv_aload_n (pc := 211) hx hb dL_law_211 rfl (lv_at hl 1 rfl) ?_
  refine lv_aload_n (pc := 212) hx hb dL_law_212 rfl (lv_at hl 0 rfl) ?_
  refine lv_iload_n (pc := 213) hx hb dL_law_213 rfl (lv_at hl 3 rfl) ?_
  refine lv_iconst (pc := 214) (v := 1) hx hb dL_law_214 (by decide) ?_
  refine iaddV (pc := 215) (v := nI (4 * j + 1)) hx hb dL_law_215 (nI_add (4 * j) 1) ?_
  refine sldN (pc := 216) (j := 4 * j + 1) hx hb hX hbl hbA hS (by omega) hL dL_law_216 ?_
  refine lv_aload_n (pc := 217) hx hb dL_law_217 rfl (lv_at hl 0 rfl) ?_
  refine lv_iload_n (pc := 218) hx hb dL_law_218 rfl (lv_at hl 3 rfl) ?_
  refine lv_iconst (pc := 219) (v := 2) hx hb dL_law_219 (by decide) ?_
  refine iaddV (pc := 220) (v := nI (4 * j + 2)) hx hb dL_law_220 (nI_add (4 * j) 2) ?_
  refine sldN (pc := 221) (j := 4 * j + 2) hx hb hX hbl hbA hS (by omega) hL dL_law_221 ?_
  refine rV (pc := 222) (rest := []) (As := [.int (xs (4 * j + 1)), .int (xs (4 * j + 2))]) ⟨hx, hb, hml, hown, hts⟩ (k_X7_title (t := xs (4 * j + 1)) (what := xs (4 * j + 2)) (gg := gg) hI) cw_L_35 ⟨(Nat.le_of_ble_eq_true rfl), (Nat.le_of_ble_eq_true rfl)⟩ hE hS hPa rfl rfl rfl rfl hl.1 rfl (Nat.le_of_ble_eq_true rfl) dL_law_222 hcs ?_
  refine W.eq (g2 := F0 m 225 ls [.int (titS z r sn (xs (4 * j + 1)) (xs (4 * j + 2)))]) rfl ?_
  refine lv_aload_n (pc := 225) hx hb dL_law_225 rfl (lv_at hl 2 rfl) ?_
  refine lv_aload_n (pc := 226) hx hb dL_law_226 rfl (lv_at hl 0 rfl) ?_
  refine lv_iload_n (pc := 227) hx hb dL_law_227 rfl (lv_at hl 3 rfl) ?_
  refine lv_iconst (pc := 228) (v := 1) hx hb dL_law_228 (by decide) ?_
  refine iaddV (pc := 229) (v := nI (4 * j + 1)) hx hb dL_law_229 (nI_add (4 * j) 1) ?_
  refine sldN (pc := 230) (j := 4 * j + 1) hx hb hX hbl hbA hS (by omega) hL dL_law_230 ?_
  refine lv_aload_n (pc := 231) hx hb dL_law_231 rfl (lv_at hl 0 rfl) ?_
  refine lv_iload_n (pc := 232) hx hb dL_law_232 rfl (lv_at hl 3 rfl) ?_
  refine lv_iconst (pc := 233) (v := 2) hx hb dL_law_233 (by decide) ?_
  refine iaddV (pc := 234) (v := nI (4 * j + 2)) hx hb dL_law_234 (nI_add (4 * j) 2) ?_
  refine sldN (pc := 235) (j := 4 * j + 2) hx hb hX hbl hbA hS (by omega) hL dL_law_235 ?_
  refine rV (pc := 236) (rest := [.int (titS z r sn (xs (4 * j + 1)) (xs (4 * j + 2)))]) (As := [.int (xs (4 * j + 1)), .int (xs (4 * j + 2))]) ⟨hx, hb, hml, hown, hts⟩ (k_X8_title (t := xs (4 * j + 1)) (what := xs (4 * j + 2)) (n := n) (sn := sn) (hz1 := hz1) (hn5 := hn5) (hz10 := hz10) (hsn := hsn)) cw_L_39 ⟨(Nat.le_of_ble_eq_true rfl), (Nat.le_of_ble_eq_true rfl)⟩ hE hS hPb rfl rfl rfl rfl hl.1 rfl (Nat.le_of_ble_eq_true rfl) dL_law_236 hcs ?_
  refine lv_icmp_eq (pc := 239) (tgt := 729) hx hb dL_law_239 (by decide) (fun _ => ?_) (fun q9 => absurd rfl q9)
  exact kk _ _ ⟨z, gg, r, hPb, n, sn, pn, h9, bt, g, cd, so, sq, q, c1, v, c2, v2, d, u, hPa, hd, inv_w hI (by omega)⟩ hS
