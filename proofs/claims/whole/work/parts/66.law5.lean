set_option maxRecDepth 100000 in
set_option maxHeartbeats 4000000 in
theorem law_image {l : Launch} {D : va_G} {kB kI kT : ClassId} {ks sk sv : Nat} {p : Program} {e : Env} {s : State} {m : MethodId} {below : List Frame} {meth : Method} {c : Code} {H : Heap} {locs : List Loc} {cells slots : Nat} {Q : State → Prop} {bs L : Nat} {xs : Nat → Int32} {A : Nat → Prop} {b x y pa : Nat → Nat} {o : Nat} {a : Nat → Nat} {j : Nat} {ls : Array Slot}
    (C : LC p s m c D kB kI kT ks sk sv bs L xs A) (hj : 4 * j + 3 < L) (hcs : cells + 0 ≤ room_1.cells ∧ slots + 0 ≤ room_1.slots) (hl : lv_has ls 4 [(0, .ref bs), (1, .ref (b 30)), (2, .ref o), (3, .int (nI (4 * j)))]) (h : LI D kB kI kT b x y pa o a A j H) (hS : va_S A s.heap H locs)
    (kk : ∀ (H1 : Heap) (locs1 : List Loc), LI D kB kI kT b x y pa o a A (j + 1) H1 → va_S A s.heap H1 locs1 → W p l e room_1 s m #[Value.ref bs] below meth c H1 locs1 cells slots Q (F0 m 729 ls [])) : W p l e room_1 s m #[Value.ref bs] below meth c H locs cells slots Q (F0 m 666 ls []) := by
  obtain ⟨hx, hb, hml, hown, hts, hE, hX, hbl, hbA, hL⟩ := C
  obtain ⟨z, gg, r, hPb, n, sn, pn, h9, bt, g, cd, so, sq, q, c1, v, c2, v2, d, u, hPa, hd, hI⟩ := h
  obtain ⟨hz1, hn5, hok, hz10, hsn, hz14, hpn, hpg⟩ := inv_ref hI
  refine lv_aload_n (pc := 666) hx hb dL_law_666 rfl (lv_at hl 1 rfl) ?_
  refine lA (pc := 667) (rest := []) (As := []) (RF := R_image z gg r n) ⟨hx, hb, hml, hown, hts⟩ (k_X7_image_s  hI (by omega)) cw_L_90 ⟨(Nat.le_of_ble_eq_true rfl), (Nat.le_of_ble_eq_true rfl)⟩ hE hPa hPb hd hS rfl rfl hl.1 rfl (Nat.le_of_ble_eq_true rfl) dL_law_667 hcs (fun H locs hC hPb hS => ?_)
  refine W.eq (g2 := F0 m 670 ls [.int (R_image z gg r n).1]) rfl ?_
  refine lv_aload_n (pc := 670) hx hb dL_law_670 rfl (lv_at hl 2 rfl) ?_
  refine lB (pc := 671) (rest := [.int (R_image z gg r n).1]) (As := []) ⟨hx, hb, hml, hown, hts⟩ (k_X8_image  (n := n) (hz1 := hz1) (hn5 := hn5)) cw_L_93 ⟨(Nat.le_of_ble_eq_true rfl), (Nat.le_of_ble_eq_true rfl)⟩ hE hC hPb hS rfl rfl hl.1 rfl (Nat.le_of_ble_eq_true rfl) dL_law_671 hcs (fun H locs hC hPb hS => ?_)
  refine lv_icmp_eq (pc := 674) (tgt := 729) hx hb dL_law_674 (by decide) (fun _ => ?_) (fun q9 => absurd rfl q9)
  exact kk _ _ ⟨_, _, _, hPb, hC⟩ hS

set_option maxRecDepth 100000 in
set_option maxHeartbeats 4000000 in
theorem law_restore {l : Launch} {D : va_G} {kB kI kT : ClassId} {ks sk sv : Nat} {p : Program} {e : Env} {s : State} {m : MethodId} {below : List Frame} {meth : Method} {c : Code} {H : Heap} {locs : List Loc} {cells slots : Nat} {Q : State → Prop} {bs L : Nat} {xs : Nat → Int32} {A : Nat → Prop} {b x y pa : Nat → Nat} {o : Nat} {a : Nat → Nat} {j : Nat} {ls : Array Slot}
    (C : LC p s m c D kB kI kT ks sk sv bs L xs A) (hj : 4 * j + 3 < L) (hcs : cells + 0 ≤ room_1.cells ∧ slots + 0 ≤ room_1.slots) (hl : lv_has ls 4 [(0, .ref bs), (1, .ref (b 30)), (2, .ref o), (3, .int (nI (4 * j)))]) (h : LI D kB kI kT b x y pa o a A j H) (hS : va_S A s.heap H locs)
    (kk : ∀ (H1 : Heap) (locs1 : List Loc), LI D kB kI kT b x y pa o a A (j + 1) H1 → va_S A s.heap H1 locs1 → W p l e room_1 s m #[Value.ref bs] below meth c H1 locs1 cells slots Q (F0 m 729 ls [])) : W p l e room_1 s m #[Value.ref bs] below meth c H locs cells slots Q (F0 m 679 ls []) := by
  obtain ⟨hx, hb, hml, hown, hts, hE, hX, hbl, hbA, hL⟩ := C
  obtain ⟨z, gg, r, hPb, n, sn, pn, h9, bt, g, cd, so, sq, q, c1, v, c2, v2, d, u, hPa, hd, hI⟩ := h
  obtain ⟨hz1, hn5, hok, hz10, hsn, hz14, hpn, hpg⟩ := inv_ref hI
  refine lv_aload_n (pc := 679) hx hb dL_law_679 rfl (lv_at hl 1 rfl) ?_
  refine lA (pc := 680) (rest := []) (As := []) (RF := R_restore z gg r) ⟨hx, hb, hml, hown, hts⟩ (k_X7_restore_s  hI (by omega)) cw_L_94 ⟨(Nat.le_of_ble_eq_true rfl), (Nat.le_of_ble_eq_true rfl)⟩ hE hPa hPb hd hS rfl rfl hl.1 rfl (Nat.le_of_ble_eq_true rfl) dL_law_680 hcs (fun H locs hC hPb hS => ?_)
  refine W.eq (g2 := F0 m 683 ls [.int (R_restore z gg r).1]) rfl ?_
  refine lv_aload_n (pc := 683) hx hb dL_law_683 rfl (lv_at hl 2 rfl) ?_
  refine lB (pc := 684) (rest := [.int (R_restore z gg r).1]) (As := []) ⟨hx, hb, hml, hown, hts⟩ (k_X8_restore   ) cw_L_97 ⟨(Nat.le_of_ble_eq_true rfl), (Nat.le_of_ble_eq_true rfl)⟩ hE hC hPb hS rfl rfl hl.1 rfl (Nat.le_of_ble_eq_true rfl) dL_law_684 hcs (fun H locs hC hPb hS => ?_)
  refine lv_icmp_eq (pc := 687) (tgt := 729) hx hb dL_law_687 (by decide) (fun _ => ?_) (fun q9 => absurd rfl q9)
  exact kk _ _ ⟨_, _, _, hPb, hC⟩ hS

set_option maxRecDepth 100000 in
set_option maxHeartbeats 4000000 in
theorem law_count {l : Launch} {D : va_G} {kB kI kT : ClassId} {ks sk sv : Nat} {p : Program} {e : Env} {s : State} {m : MethodId} {below : List Frame} {meth : Method} {c : Code} {H : Heap} {locs : List Loc} {cells slots : Nat} {Q : State → Prop} {bs L : Nat} {xs : Nat → Int32} {A : Nat → Prop} {b x y pa : Nat → Nat} {o : Nat} {a : Nat → Nat} {j : Nat} {ls : Array Slot}
    (C : LC p s m c D kB kI kT ks sk sv bs L xs A) (hj : 4 * j + 3 < L) (hcs : cells + 0 ≤ room_1.cells ∧ slots + 0 ≤ room_1.slots) (hl : lv_has ls 4 [(0, .ref bs), (1, .ref (b 30)), (2, .ref o), (3, .int (nI (4 * j)))]) (h : LI D kB kI kT b x y pa o a A j H) (hS : va_S A s.heap H locs)
    (kk : ∀ (H1 : Heap) (locs1 : List Loc), LI D kB kI kT b x y pa o a A (j + 1) H1 → va_S A s.heap H1 locs1 → W p l e room_1 s m #[Value.ref bs] below meth c H1 locs1 cells slots Q (F0 m 729 ls [])) : W p l e room_1 s m #[Value.ref bs] below meth c H locs cells slots Q (F0 m 692 ls []) := by
  obtain ⟨hx, hb, hml, hown, hts, hE, hX, hbl, hbA, hL⟩ := C
  obtain ⟨z, gg, r, hPb, n, sn, pn, h9, bt, g, cd, so, sq, q, c1, v, c2, v2, d, u, hPa, hd, hI⟩ := h
  obtain ⟨hz1, hn5, hok, hz10, hsn, hz14, hpn, hpg⟩ := inv_ref hI
  refine lv_aload_n (pc := 692) hx hb dL_law_692 rfl (lv_at hl 1 rfl) ?_
  refine lv_aload_n (pc := 693) hx hb dL_law_693 rfl (lv_at hl 0 rfl) ?_
  refine lv_iload_n (pc := 694) hx hb dL_law_694 rfl (lv_at hl 3 rfl) ?_
  refine lv_iconst (pc := 695) (v := 1) hx hb dL_law_695 (by decide) ?_
  refine iaddV (pc := 696) (v := nI (4 * j + 1)) hx hb dL_law_696 (nI_add (4 * j) 1) ?_
  refine sldN (pc := 697) (j := 4 * j + 1) hx hb hX hbl hbA hS (by omega) hL dL_law_697 ?_
  refine rV (pc := 698) (rest := []) (As := [.int (xs (4 * j + 1))]) ⟨hx, hb, hml, hown, hts⟩ (k_X7_count (what := xs (4 * j + 1)) (gg := gg) hI) cw_L_98 ⟨(Nat.le_of_ble_eq_true rfl), (Nat.le_of_ble_eq_true rfl)⟩ hE hS hPa rfl rfl rfl rfl hl.1 rfl (Nat.le_of_ble_eq_true rfl) dL_law_698 hcs ?_
  refine W.eq (g2 := F0 m 701 ls [.int (howS z r n (xs (4 * j + 1)))]) rfl ?_
  refine lv_aload_n (pc := 701) hx hb dL_law_701 rfl (lv_at hl 2 rfl) ?_
  refine lv_aload_n (pc := 702) hx hb dL_law_702 rfl (lv_at hl 0 rfl) ?_
  refine lv_iload_n (pc := 703) hx hb dL_law_703 rfl (lv_at hl 3 rfl) ?_
  refine lv_iconst (pc := 704) (v := 1) hx hb dL_law_704 (by decide) ?_
  refine iaddV (pc := 705) (v := nI (4 * j + 1)) hx hb dL_law_705 (nI_add (4 * j) 1) ?_
  refine sldN (pc := 706) (j := 4 * j + 1) hx hb hX hbl hbA hS (by omega) hL dL_law_706 ?_
  refine rV (pc := 707) (rest := [.int (howS z r n (xs (4 * j + 1)))]) (As := [.int (xs (4 * j + 1))]) ⟨hx, hb, hml, hown, hts⟩ (k_X8_count (what := xs (4 * j + 1)) (n := n) (hok := hok) (hn5 := hn5) (hz1 := hz1)) cw_L_101 ⟨(Nat.le_of_ble_eq_true rfl), (Nat.le_of_ble_eq_true rfl)⟩ hE hS hPb rfl rfl rfl rfl hl.1 rfl (Nat.le_of_ble_eq_true rfl) dL_law_707 hcs ?_
  refine lv_icmp_eq (pc := 710) (tgt := 729) hx hb dL_law_710 (by decide) (fun _ => ?_) (fun q9 => absurd rfl q9)
  exact kk _ _ ⟨z, gg, r, hPb, n, sn, pn, h9, bt, g, cd, so, sq, q, c1, v, c2, v2, d, u, hPa, hd, inv_w hI (by omega)⟩ hS

set_option maxRecDepth 100000 in
set_option maxHeartbeats 4000000 in
theorem law_digest {l : Launch} {D : va_G} {kB kI kT : ClassId} {ks sk sv : Nat} {p : Program} {e : Env} {s : State} {m : MethodId} {below : List Frame} {meth : Method} {c : Code} {H : Heap} {locs : List Loc} {cells slots : Nat} {Q : State → Prop} {bs L : Nat} {xs : Nat → Int32} {A : Nat → Prop} {b x y pa : Nat → Nat} {o : Nat} {a : Nat → Nat} {j : Nat} {ls : Array Slot}
    (C : LC p s m c D kB kI kT ks sk sv bs L xs A) (hj : 4 * j + 3 < L) (hcs : cells + 0 ≤ room_1.cells ∧ slots + 0 ≤ room_1.slots) (hl : lv_has ls 4 [(0, .ref bs), (1, .ref (b 30)), (2, .ref o), (3, .int (nI (4 * j)))]) (h : LI D kB kI kT b x y pa o a A j H) (hS : va_S A s.heap H locs)
    (kk : ∀ (H1 : Heap) (locs1 : List Loc), LI D kB kI kT b x y pa o a A (j + 1) H1 → va_S A s.heap H1 locs1 → W p l e room_1 s m #[Value.ref bs] below meth c H1 locs1 cells slots Q (F0 m 729 ls [])) : W p l e room_1 s m #[Value.ref bs] below meth c H locs cells slots Q (F0 m 715 ls []) := by
  obtain ⟨hx, hb, hml, hown, hts, hE, hX, hbl, hbA, hL⟩ := C
  obtain ⟨z, gg, r, hPb, n, sn, pn, h9, bt, g, cd, so, sq, q, c1, v, c2, v2, d, u, hPa, hd, hI⟩ := h
  obtain ⟨hz1, hn5, hok, hz10, hsn, hz14, hpn, hpg⟩ := inv_ref hI
  refine lv_aload_n (pc := 715) hx hb dL_law_715 rfl (lv_at hl 1 rfl) ?_
  refine rV (pc := 716) (rest := []) (As := []) ⟨hx, hb, hml, hown, hts⟩ (k_X7_digest  (gg := gg) hI) cw_L_102 ⟨(Nat.le_of_ble_eq_true rfl), (Nat.le_of_ble_eq_true rfl)⟩ hE hS hPa rfl rfl rfl rfl hl.1 rfl (Nat.le_of_ble_eq_true rfl) dL_law_716 hcs ?_
  have hC : CI1 D kI kT b x y pa A (wR kB kI o a z gg r) (j + 1) z r H := ⟨n, sn, pn, h9, bt, g, cd, so, sq, q, c1, v, c2, v2, d, u, hPa, hd, inv_w hI (by omega)⟩
  refine W.eq (g2 := F0 m 719 ls [.long (dg5 z r n sn pn 10)]) rfl ?_
  refine lv_aload_n (pc := 719) hx hb dL_law_719 rfl (lv_at hl 2 rfl) ?_
  refine lB (pc := 720) (rest := [.long (dg5 z r n sn pn 10)]) (As := []) ⟨hx, hb, hml, hown, hts⟩ (k_X8_digest  (n := n) (sn := sn) (pn := pn) (hok := hok) (hn5 := hn5) (hz1 := hz1) (hz10 := hz10) (hsn := hsn) (hz14 := hz14) (hpn := hpn)) cw_L_106 ⟨(Nat.le_of_ble_eq_true rfl), (Nat.le_of_ble_eq_true rfl)⟩ hE hC hPb hS rfl rfl hl.1 rfl (Nat.le_of_ble_eq_true rfl) dL_law_720 hcs (fun H locs hC hPb hS => ?_)
  refine W.lcmp (pc := 723) hx hb dL_law_723 ?_
  refine lv_if_eq (pc := 724) (tgt := 729) hx hb dL_law_724 (by decide) (fun _ => ?_) (fun q9 => absurd (cmp_self _) q9)
  exact kk _ _ ⟨_, _, _, hPb, hC⟩ hS
