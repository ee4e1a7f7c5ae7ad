set_option maxRecDepth 100000 in
set_option maxHeartbeats 4000000 in
theorem law_be {l : Launch} {D : va_G} {kB kI kT : ClassId} {ks sk sv : Nat} {p : Program} {e : Env} {s : State} {m : MethodId} {below : List Frame} {meth : Method} {c : Code} {H : Heap} {locs : List Loc} {cells slots : Nat} {Q : State → Prop} {bs L : Nat} {xs : Nat → Int32} {A : Nat → Prop} {b x y pa : Nat → Nat} {o : Nat} {a : Nat → Nat} {j : Nat} {ls : Array Slot}
    (C : LC p s m c D kB kI kT ks sk sv bs L xs A) (hj : 4 * j + 3 < L) (hcs : cells + 0 ≤ room_1.cells ∧ slots + 0 ≤ room_1.slots) (hl : lv_has ls 4 [(0, .ref bs), (1, .ref (b 30)), (2, .ref o), (3, .int (nI (4 * j)))]) (h : LI D kB kI kT b x y pa o a A j H) (hS : va_S A s.heap H locs)
    (kk : ∀ (H1 : Heap) (locs1 : List Loc), LI D kB kI kT b x y pa o a A (j + 1) H1 → va_S A s.heap H1 locs1 → W p l e room_1 s m #[Value.ref bs] below meth c H1 locs1 cells slots Q (F0 m 729 ls [])) : W p l e room_1 s m #[Value.ref bs] below meth c H locs cells slots Q (F0 m 452 ls []) := by
  obtain ⟨hx, hb, hml, hown, hts, hE, hX, hbl, hbA, hL⟩ := C
  obtain ⟨z, gg, r, hPb, n, sn, pn, h9, bt, g, cd, so, sq, q, c1, v, c2, v2, d, u, hPa, hd, hI⟩ := h
  obtain ⟨hz1, hn5, hok, hz10, hsn, hz14, hpn, hpg⟩ := inv_ref hI
  refine lv_aload_n (pc := 452) hx hb dL_law_452 rfl (lv_at hl 1 rfl) ?_
  refine lv_aload_n (pc := 453) hx hb dL_law_453 rfl (lv_at hl 0 rfl) ?_
  refine lv_iload_n (pc := 454) hx hb dL_law_454 rfl (lv_at hl 3 rfl) ?_
  refine lv_iconst (pc := 455) (v := 1) hx hb dL_law_455 (by decide) ?_
  refine iaddV (pc := 456) (v := nI (4 * j + 1)) hx hb dL_law_456 (nI_add (4 * j) 1) ?_
  refine sldN (pc := 457) (j := 4 * j + 1) hx hb hX hbl hbA hS (by omega) hL dL_law_457 ?_
  refine lv_aload_n (pc := 458) hx hb dL_law_458 rfl (lv_at hl 0 rfl) ?_
  refine lv_iload_n (pc := 459) hx hb dL_law_459 rfl (lv_at hl 3 rfl) ?_
  refine lv_iconst (pc := 460) (v := 2) hx hb dL_law_460 (by decide) ?_
  refine iaddV (pc := 461) (v := nI (4 * j + 2)) hx hb dL_law_461 (nI_add (4 * j) 2) ?_
  refine sldN (pc := 462) (j := 4 * j + 2) hx hb hX hbl hbA hS (by omega) hL dL_law_462 ?_
  refine lA (pc := 463) (rest := []) (As := [.int (xs (4 * j + 1)), .int (xs (4 * j + 2))]) (RF := R_be z gg r (xs (4 * j + 1)) (xs (4 * j + 2))) ⟨hx, hb, hml, hown, hts⟩ (k_X7_be_s (t := xs (4 * j + 1)) (kind := xs (4 * j + 2)) hI (by omega)) cw_L_65 ⟨(Nat.le_of_ble_eq_true rfl), (Nat.le_of_ble_eq_true rfl)⟩ hE hPa hPb hd hS rfl rfl hl.1 rfl (Nat.le_of_ble_eq_true rfl) dL_law_463 hcs (fun H locs hC hPb hS => ?_)
  refine W.eq (g2 := F0 m 466 ls [.int (R_be z gg r (xs (4 * j + 1)) (xs (4 * j + 2))).1]) rfl ?_
  refine lv_aload_n (pc := 466) hx hb dL_law_466 rfl (lv_at hl 2 rfl) ?_
  refine lv_aload_n (pc := 467) hx hb dL_law_467 rfl (lv_at hl 0 rfl) ?_
  refine lv_iload_n (pc := 468) hx hb dL_law_468 rfl (lv_at hl 3 rfl) ?_
  refine lv_iconst (pc := 469) (v := 1) hx hb dL_law_469 (by decide) ?_
  refine iaddV (pc := 470) (v := nI (4 * j + 1)) hx hb dL_law_470 (nI_add (4 * j) 1) ?_
  refine sldN (pc := 471) (j := 4 * j + 1) hx hb hX hbl hbA hS (by omega) hL dL_law_471 ?_
  refine lv_aload_n (pc := 472) hx hb dL_law_472 rfl (lv_at hl 0 rfl) ?_
  refine lv_iload_n (pc := 473) hx hb dL_law_473 rfl (lv_at hl 3 rfl) ?_
  refine lv_iconst (pc := 474) (v := 2) hx hb dL_law_474 (by decide) ?_
  refine iaddV (pc := 475) (v := nI (4 * j + 2)) hx hb dL_law_475 (nI_add (4 * j) 2) ?_
  refine sldN (pc := 476) (j := 4 * j + 2) hx hb hX hbl hbA hS (by omega) hL dL_law_476 ?_
  refine lB (pc := 477) (rest := [.int (R_be z gg r (xs (4 * j + 1)) (xs (4 * j + 2))).1]) (As := [.int (xs (4 * j + 1)), .int (xs (4 * j + 2))]) ⟨hx, hb, hml, hown, hts⟩ (k_X8_be (t := xs (4 * j + 1)) (kind := xs (4 * j + 2)) (n := n) (hz1 := hz1) (hn5 := hn5)) cw_L_68 ⟨(Nat.le_of_ble_eq_true rfl), (Nat.le_of_ble_eq_true rfl)⟩ hE hC hPb hS rfl rfl hl.1 rfl (Nat.le_of_ble_eq_true rfl) dL_law_477 hcs (fun H locs hC hPb hS => ?_)
  refine lv_icmp_eq (pc := 480) (tgt := 729) hx hb dL_law_480 (by decide) (fun _ => ?_) (fun q9 => absurd rfl q9)
  exact kk _ _ ⟨_, _, _, hPb, hC⟩ hS

set_option maxRecDepth 100000 in
set_option maxHeartbeats 4000000 in
theorem law_best {l : Launch} {D : va_G} {kB kI kT : ClassId} {ks sk sv : Nat} {p : Program} {e : Env} {s : State} {m : MethodId} {below : List Frame} {meth : Method} {c : Code} {H : Heap} {locs : List Loc} {cells slots : Nat} {Q : State → Prop} {bs L : Nat} {xs : Nat → Int32} {A : Nat → Prop} {b x y pa : Nat → Nat} {o : Nat} {a : Nat → Nat} {j : Nat} {ls : Array Slot}
    (C : LC p s m c D kB kI kT ks sk sv bs L xs A) (hj : 4 * j + 3 < L) (hcs : cells + 0 ≤ room_1.cells ∧ slots + 0 ≤ room_1.slots) (hl : lv_has ls 4 [(0, .ref bs), (1, .ref (b 30)), (2, .ref o), (3, .int (nI (4 * j)))]) (h : LI D kB kI kT b x y pa o a A j H) (hS : va_S A s.heap H locs)
    (kk : ∀ (H1 : Heap) (locs1 : List Loc), LI D kB kI kT b x y pa o a A (j + 1) H1 → va_S A s.heap H1 locs1 → W p l e room_1 s m #[Value.ref bs] below meth c H1 locs1 cells slots Q (F0 m 729 ls [])) : W p l e room_1 s m #[Value.ref bs] below meth c H locs cells slots Q (F0 m 485 ls []) := by
  obtain ⟨hx, hb, hml, hown, hts, hE, hX, hbl, hbA, hL⟩ := C
  obtain ⟨z, gg, r, hPb, n, sn, pn, h9, bt, g, cd, so, sq, q, c1, v, c2, v2, d, u, hPa, hd, hI⟩ := h
  obtain ⟨hz1, hn5, hok, hz10, hsn, hz14, hpn, hpg⟩ := inv_ref hI
  refine lv_aload_n (pc := 485) hx hb dL_law_485 rfl (lv_at hl 1 rfl) ?_
  refine lv_aload_n (pc := 486) hx hb dL_law_486 rfl (lv_at hl 0 rfl) ?_
  refine lv_iload_n (pc := 487) hx hb dL_law_487 rfl (lv_at hl 3 rfl) ?_
  refine lv_iconst (pc := 488) (v := 1) hx hb dL_law_488 (by decide) ?_
  refine iaddV (pc := 489) (v := nI (4 * j + 1)) hx hb dL_law_489 (nI_add (4 * j) 1) ?_
  refine sldN (pc := 490) (j := 4 * j + 1) hx hb hX hbl hbA hS (by omega) hL dL_law_490 ?_
  refine lv_aload_n (pc := 491) hx hb dL_law_491 rfl (lv_at hl 0 rfl) ?_
  refine lv_iload_n (pc := 492) hx hb dL_law_492 rfl (lv_at hl 3 rfl) ?_
  refine lv_iconst (pc := 493) (v := 2) hx hb dL_law_493 (by decide) ?_
  refine iaddV (pc := 494) (v := nI (4 * j + 2)) hx hb dL_law_494 (nI_add (4 * j) 2) ?_
  refine sldN (pc := 495) (j := 4 * j + 2) hx hb hX hbl hbA hS (by omega) hL dL_law_495 ?_
  refine lv_aload_n (pc := 496) hx hb dL_law_496 rfl (lv_at hl 0 rfl) ?_
  refine lv_iload_n (pc := 497) hx hb dL_law_497 rfl (lv_at hl 3 rfl) ?_
  refine lv_iconst (pc := 498) (v := 3) hx hb dL_law_498 (by decide) ?_
  refine iaddV (pc := 499) (v := nI (4 * j + 3)) hx hb dL_law_499 (nI_add (4 * j) 3) ?_
  refine sldN (pc := 500) (j := 4 * j + 3) hx hb hX hbl hbA hS (by omega) hL dL_law_500 ?_
  refine lA (pc := 501) (rest := []) (As := [.int (xs (4 * j + 1)), .int (xs (4 * j + 2)), .int (xs (4 * j + 3))]) (RF := R_best z gg r n (xs (4 * j + 1)) (xs (4 * j + 2)) (xs (4 * j + 3))) ⟨hx, hb, hml, hown, hts⟩ (k_X7_best_s (fx := xs (4 * j + 1)) (tx := xs (4 * j + 2)) (what := xs (4 * j + 3)) hI (by omega)) cw_L_69 ⟨(Nat.le_of_ble_eq_true rfl), (Nat.le_of_ble_eq_true rfl)⟩ hE hPa hPb hd hS rfl rfl hl.1 rfl (Nat.le_of_ble_eq_true rfl) dL_law_501 hcs (fun H locs hC hPb hS => ?_)
  refine W.eq (g2 := F0 m 504 ls [.int (R_best z gg r n (xs (4 * j + 1)) (xs (4 * j + 2)) (xs (4 * j + 3))).1]) rfl ?_
  refine lv_aload_n (pc := 504) hx hb dL_law_504 rfl (lv_at hl 2 rfl) ?_
  refine lv_aload_n (pc := 505) hx hb dL_law_505 rfl (lv_at hl 0 rfl) ?_
  refine lv_iload_n (pc := 506) hx hb dL_law_506 rfl (lv_at hl 3 rfl) ?_
  refine lv_iconst (pc := 507) (v := 1) hx hb dL_law_507 (by decide) ?_
  refine iaddV (pc := 508) (v := nI (4 * j + 1)) hx hb dL_law_508 (nI_add (4 * j) 1) ?_
  refine sldN (pc := 509) (j := 4 * j + 1) hx hb hX hbl hbA hS (by omega) hL dL_law_509 ?_
  refine lv_aload_n (pc := 510) hx hb dL_law_510 rfl (lv_at hl 0 rfl) ?_
  refine lv_iload_n (pc := 511) hx hb dL_law_511 rfl (lv_at hl 3 rfl) ?_
  refine lv_iconst (pc := 512) (v := 2) hx hb dL_law_512 (by decide) ?_
  refine iaddV (pc := 513) (v := nI (4 * j + 2)) hx hb dL_law_513 (nI_add (4 * j) 2) ?_
  refine sldN (pc := 514) (j := 4 * j + 2) hx hb hX hbl hbA hS (by omega) hL dL_law_514 ?_
  refine lv_aload_n (pc := 515) hx hb dL_law_515 rfl (lv_at hl 0 rfl) ?_
  refine lv_iload_n (pc := 516) hx hb dL_law_516 rfl (lv_at hl 3 rfl) ?_
  refine lv_iconst (pc := 517) (v := 3) hx hb dL_law_517 (by decide) ?_
  refine iaddV (pc := 518) (v := nI (4 * j + 3)) hx hb dL_law_518 (nI_add (4 * j) 3) ?_
  refine sldN (pc := 519) (j := 4 * j + 3) hx hb hX hbl hbA hS (by omega) hL dL_law_519 ?_
  refine lB (pc := 520) (rest := [.int (R_best z gg r n (xs (4 * j + 1)) (xs (4 * j + 2)) (xs (4 * j + 3))).1]) (As := [.int (xs (4 * j + 1)), .int (xs (4 * j + 2)), .int (xs (4 * j + 3))]) ⟨hx, hb, hml, hown, hts⟩ (k_X8_best (f := xs (4 * j + 1)) (t := xs (4 * j + 2)) (what := xs (4 * j + 3)) (n := n) (hok := hok) (hn5 := hn5) (hz1 := hz1)) cw_L_72 ⟨(Nat.le_of_ble_eq_true rfl), (Nat.le_of_ble_eq_true rfl)⟩ hE hC hPb hS rfl rfl hl.1 rfl (Nat.le_of_ble_eq_true rfl) dL_law_520 hcs (fun H locs hC hPb hS => ?_)
  refine lv_icmp_eq (pc := 523) (tgt := 729) hx hb dL_law_523 (by decide) (fun _ => ?_) (fun q9 => absurd rfl q9)
  exact kk _ _ ⟨_, _, _, hPb, hC⟩ hS

set_option maxRecDepth 100000 in
set_option maxHeartbeats 4000000 in
theorem law_rank {l : Launch} {D : va_G} {kB kI kT : ClassId} {ks sk sv : Nat} {p : Program} {e : Env} {s : State} {m : MethodId} {below : List Frame} {meth : Method} {c : Code} {H : Heap} {locs : List Loc} {cells slots : Nat} {Q : State → Prop} {bs L : Nat} {xs : Nat → Int32} {A : Nat → Prop} {b x y pa : Nat → Nat} {o : Nat} {a : Nat → Nat} {j : Nat} {ls : Array Slot}
    (C : LC p s m c D kB kI kT ks sk sv bs L xs A) (hj : 4 * j + 3 < L) (hcs : cells + 0 ≤ room_1.cells ∧ slots + 0 ≤ room_1.slots) (hl : lv_has ls 4 [(0, .ref bs), (1, .ref (b 30)), (2, .ref o), (3, .int (nI (4 * j)))]) (h : LI D kB kI kT b x y pa o a A j H) (hS : va_S A s.heap H locs)
    (kk : ∀ (H1 : Heap) (locs1 : List Loc), LI D kB kI kT b x y pa o a A (j + 1) H1 → va_S A s.heap H1 locs1 → W p l e room_1 s m #[Value.ref bs] below meth c H1 locs1 cells slots Q (F0 m 729 ls [])) : W p l e room_1 s m #[Value.ref bs] below meth c H locs cells slots Q (F0 m 528 ls []) := by
  obtain ⟨hx, hb, hml, hown, hts, hE, hX, hbl, hbA, hL⟩ := C
  obtain ⟨z, gg, r, hPb, n, sn, pn, h9, bt, g, cd, so, sq, q, c1, v, c2, v2, d, u, hPa, hd, hI⟩ := h
  obtain ⟨hz1, hn5, hok, hz10, hsn, hz14, hpn, hpg⟩ := inv_ref hI
  refine lv_aload_n (pc := 528) hx hb dL_law_528 rfl (lv_at hl 1 rfl) ?_
  refine lv_aload_n (pc := 529) hx hb dL_law_529 rfl (lv_at hl 0 rfl) ?_
  refine lv_iload_n (pc := 530) hx hb dL_law_530 rfl (lv_at hl 3 rfl) ?_
  refine lv_iconst (pc := 531) (v := 1) hx hb dL_law_531 (by decide) ?_
  refine iaddV (pc := 532) (v := nI (4 * j + 1)) hx hb dL_law_532 (nI_add (4 * j) 1) ?_
  refine sldN (pc := 533) (j := 4 * j + 1) hx hb hX hbl hbA hS (by omega) hL dL_law_533 ?_
  refine rV (pc := 534) (rest := []) (As := [.int (xs (4 * j + 1))]) ⟨hx, hb, hml, hown, hts⟩ (k_X7_rank (place := xs (4 * j + 1)) (gg := gg) hI) cw_L_73 ⟨(Nat.le_of_ble_eq_true rfl), (Nat.le_of_ble_eq_true rfl)⟩ hE hS hPa rfl rfl rfl rfl hl.1 rfl (Nat.le_of_ble_eq_true rfl) dL_law_534 hcs ?_
  refine W.eq (g2 := F0 m 537 ls [.int (rankS r n (xs (4 * j + 1)))]) rfl ?_
  refine lv_aload_n (pc := 537) hx hb dL_law_537 rfl (lv_at hl 2 rfl) ?_
  refine lv_aload_n (pc := 538) hx hb dL_law_538 rfl (lv_at hl 0 rfl) ?_
  refine lv_iload_n (pc := 539) hx hb dL_law_539 rfl (lv_at hl 3 rfl) ?_
  refine lv_iconst (pc := 540) (v := 1) hx hb dL_law_540 (by decide) ?_
  refine iaddV (pc := 541) (v := nI (4 * j + 1)) hx hb dL_law_541 (nI_add (4 * j) 1) ?_
  refine sldN (pc := 542) (j := 4 * j + 1) hx hb hX hbl hbA hS (by omega) hL dL_law_542 ?_
  refine rV (pc := 543) (rest := [.int (rankS r n (xs (4 * j + 1)))]) (As := [.int (xs (4 * j + 1))]) ⟨hx, hb, hml, hown, hts⟩ (k_X8_rank (place := xs (4 * j + 1)) (n := n) (hok := hok) (hn5 := hn5) (hz1 := hz1)) cw_L_76 ⟨(Nat.le_of_ble_eq_true rfl), (Nat.le_of_ble_eq_true rfl)⟩ hE hS hPb rfl rfl rfl rfl hl.1 rfl (Nat.le_of_ble_eq_true rfl) dL_law_543 hcs ?_
  refine lv_icmp_eq (pc := 546) (tgt := 729) hx hb dL_law_546 (by decide) (fun _ => ?_) (fun q9 => absurd rfl q9)
  exact kk _ _ ⟨z, gg, r, hPb, n, sn, pn, h9, bt, g, cd, so, sq, q, c1, v, c2, v2, d, u, hPa, hd, inv_w hI (by omega)⟩ hS

set_option maxRecDepth 100000 in
set_option maxHeartbeats 4000000 in
theorem law_see {l : Launch} {D : va_G} {kB kI kT : ClassId} {ks sk sv : Nat} {p : Program} {e : Env} {s : State} {m : MethodId} {below : List Frame} {meth : Method} {c : Code} {H : Heap} {locs : List Loc} {cells slots : Nat} {Q : State → Prop} {bs L : Nat} {xs : Nat → Int32} {A : Nat → Prop} {b x y pa : Nat → Nat} {o : Nat} {a : Nat → Nat} {j : Nat} {ls : Array Slot}
    (C : LC p s m c D kB kI kT ks sk sv bs L xs A) (hj : 4 * j + 3 < L) (hcs : cells + 0 ≤ room_1.cells ∧ slots + 0 ≤ room_1.slots) (hl : lv_has ls 4 [(0, .ref bs), (1, .ref (b 30)), (2, .ref o), (3, .int (nI (4 * j)))]) (h : LI D kB kI kT b x y pa o a A j H) (hS : va_S A s.heap H locs)
    (kk : ∀ (H1 : Heap) (locs1 : List Loc), LI D kB kI kT b x y pa o a A (j + 1) H1 → va_S A s.heap H1 locs1 → W p l e room_1 s m #[Value.ref bs] below meth c H1 locs1 cells slots Q (F0 m 729 ls [])) : W p l e room_1 s m #[Value.ref bs] below meth c H locs cells slots Q (F0 m 551 ls []) := by
  obtain ⟨hx, hb, hml, hown, hts, hE, hX, hbl, hbA, hL⟩ := C
  obtain ⟨z, gg, r, hPb, n, sn, pn, h9, bt, g, cd, so, sq, q, c1, v, c2, v2, d, u, hPa, hd, hI⟩ := h
  obtain ⟨hz1, hn5, hok, hz10, hsn, hz14, hpn, hpg⟩ := inv_ref hI
  refine lv_aload_n (pc := 551) hx hb dL_law_551 rfl (lv_at hl 1 rfl) ?_
  refine lv_aload_n (pc := 552) hx hb dL_law_552 rfl (lv_at hl 0 rfl) ?_
  refine lv_iload_n (pc := 553) hx hb dL_law_553 rfl (lv_at hl 3 rfl) ?_
  refine lv_iconst (pc := 554) (v := 1) hx hb dL_law_554 (by decide) ?_
  refine iaddV (pc := 555) (v := nI (4 * j + 1)) hx hb dL_law_555 (nI_add (4 * j) 1) ?_
  refine sldN (pc := 556) (j := 4 * j + 1) hx hb hX hbl hbA hS (by omega) hL dL_law_556 ?_
  refine lv_aload_n (pc := 557) hx hb dL_law_557 rfl (lv_at hl 0 rfl) ?_
  refine lv_iload_n (pc := 558) hx hb dL_law_558 rfl (lv_at hl 3 rfl) ?_
  refine lv_iconst (pc := 559) (v := 2) hx hb dL_law_559 (by decide) ?_
  refine iaddV (pc := 560) (v := nI (4 * j + 2)) hx hb dL_law_560 (nI_add (4 * j) 2) ?_
  refine sldN (pc := 561) (j := 4 * j + 2) hx hb hX hbl hbA hS (by omega) hL dL_law_561 ?_
  refine lv_aload_n (pc := 562) hx hb dL_law_562 rfl (lv_at hl 0 rfl) ?_
  refine lv_iload_n (pc := 563) hx hb dL_law_563 rfl (lv_at hl 3 rfl) ?_
  refine lv_iconst (pc := 564) (v := 3) hx hb dL_law_564 (by decide) ?_
  refine iaddV (pc := 565) (v := nI (4 * j + 3)) hx hb dL_law_565 (nI_add (4 * j) 3) ?_
  refine sldN (pc := 566) (j := 4 * j + 3) hx hb hX hbl hbA hS (by omega) hL dL_law_566 ?_
  refine lv_if_eq (pc := 567) (tgt := 574) hx hb dL_law_567 (by decide) (fun hbo => ?_) (fun hbo => ?_)
  · skip
    refine lv_iconst (pc := 574) (v := 0) hx hb dL_law_574 (by decide) ?_
    refine lA (pc := 575) (rest := []) (As := [.int (xs (4 * j + 1)), .int (xs (4 * j + 2)), .int 0]) (RF := R_see z gg r sn (xs (4 * j + 1)) (xs (4 * j + 2)) 0) ⟨hx, hb, hml, hown, hts⟩ (k_X7_see_s (t := xs (4 * j + 1)) (what := xs (4 * j + 2)) (could := 0) hI (by omega)) cw_L_77 ⟨(Nat.le_of_ble_eq_true rfl), (Nat.le_of_ble_eq_true rfl)⟩ hE hPa hPb hd hS rfl rfl hl.1 rfl (Nat.le_of_ble_eq_true rfl) dL_law_575 hcs (fun H locs hC hPb hS => ?_)
    refine W.eq (g2 := F0 m 578 ls [.int (R_see z gg r sn (xs (4 * j + 1)) (xs (4 * j + 2)) 0).1]) rfl ?_
    refine lv_aload_n (pc := 578) hx hb dL_law_578 rfl (lv_at hl 2 rfl) ?_
    refine lv_aload_n (pc := 579) hx hb dL_law_579 rfl (lv_at hl 0 rfl) ?_
    refine lv_iload_n (pc := 580) hx hb dL_law_580 rfl (lv_at hl 3 rfl) ?_
    refine lv_iconst (pc := 581) (v := 1) hx hb dL_law_581 (by decide) ?_
    refine iaddV (pc := 582) (v := nI (4 * j + 1)) hx hb dL_law_582 (nI_add (4 * j) 1) ?_
    refine sldN (pc := 583) (j := 4 * j + 1) hx hb hX hbl hbA hS (by omega) hL dL_law_583 ?_
    refine lv_aload_n (pc := 584) hx hb dL_law_584 rfl (lv_at hl 0 rfl) ?_
    refine lv_iload_n (pc := 585) hx hb dL_law_585 rfl (lv_at hl 3 rfl) ?_
    refine lv_iconst (pc := 586) (v := 2) hx hb dL_law_586 (by decide) ?_
    refine iaddV (pc := 587) (v := nI (4 * j + 2)) hx hb dL_law_587 (nI_add (4 * j) 2) ?_
    refine sldN (pc := 588) (j := 4 * j + 2) hx hb hX hbl hbA hS (by omega) hL dL_law_588 ?_
    refine lv_aload_n (pc := 589) hx hb dL_law_589 rfl (lv_at hl 0 rfl) ?_
    refine lv_iload_n (pc := 590) hx hb dL_law_590 rfl (lv_at hl 3 rfl) ?_
    refine lv_iconst (pc := 591) (v := 3) hx hb dL_law_591 (by decide) ?_
    refine iaddV (pc := 592) (v := nI (4 * j + 3)) hx hb dL_law_592 (nI_add (4 * j) 3) ?_
    refine sldN (pc := 593) (j := 4 * j + 3) hx hb hX hbl hbA hS (by omega) hL dL_law_593 ?_
    refine lv_if_eq (pc := 594) (tgt := 601) hx hb dL_law_594 (by decide) (fun _ => ?_) (fun q9 => absurd hbo q9)
    refine lv_iconst (pc := 601) (v := 0) hx hb dL_law_601 (by decide) ?_
    refine lB (pc := 602) (rest := [.int (R_see z gg r sn (xs (4 * j + 1)) (xs (4 * j + 2)) 0).1]) (As := [.int (xs (4 * j + 1)), .int (xs (4 * j + 2)), .int 0]) ⟨hx, hb, hml, hown, hts⟩ (k_X8_see (t := xs (4 * j + 1)) (what := xs (4 * j + 2)) (could := 0) (n := n) (sn := sn) (hz1 := hz1) (hn5 := hn5) (hz10 := hz10) (hsn := hsn)) cw_L_81 ⟨(Nat.le_of_ble_eq_true rfl), (Nat.le_of_ble_eq_true rfl)⟩ hE hC hPb hS rfl rfl hl.1 rfl (Nat.le_of_ble_eq_true rfl) dL_law_602 hcs (fun H locs hC hPb hS => ?_)
    refine lv_icmp_eq (pc := 605) (tgt := 729) hx hb dL_law_605 (by decide) (fun _ => ?_) (fun q9 => absurd rfl q9)
    exact kk _ _ ⟨_, _, _, hPb, hC⟩ hS
  · skip
    refine lv_iconst (pc := 570) (v := 1) hx hb dL_law_570 (by decide) ?_
    refine lv_goto (pc := 571) (tgt := 575) hx hb dL_law_571 (by decide) ?_
    refine lA (pc := 575) (rest := []) (As := [.int (xs (4 * j + 1)), .int (xs (4 * j + 2)), .int 1]) (RF := R_see z gg r sn (xs (4 * j + 1)) (xs (4 * j + 2)) 1) ⟨hx, hb, hml, hown, hts⟩ (k_X7_see_s (t := xs (4 * j + 1)) (what := xs (4 * j + 2)) (could := 1) hI (by omega)) cw_L_77 ⟨(Nat.le_of_ble_eq_true rfl), (Nat.le_of_ble_eq_true rfl)⟩ hE hPa hPb hd hS rfl rfl hl.1 rfl (Nat.le_of_ble_eq_true rfl) dL_law_575 hcs (fun H locs hC hPb hS => ?_)
    refine W.eq (g2 := F0 m 578 ls [.int (R_see z gg r sn (xs (4 * j + 1)) (xs (4 * j + 2)) 1).1]) rfl ?_
    refine lv_aload_n (pc := 578) hx hb dL_law_578 rfl (lv_at hl 2 rfl) ?_
    refine lv_aload_n (pc := 579) hx hb dL_law_579 rfl (lv_at hl 0 rfl) ?_
    refine lv_iload_n (pc := 580) hx hb dL_law_580 rfl (lv_at hl 3 rfl) ?_
    refine lv_iconst (pc := 581) (v := 1) hx hb dL_law_581 (by decide) ?_
    refine iaddV (pc := 582) (v := nI (4 * j + 1)) hx hb dL_law_582 (nI_add (4 * j) 1) ?_
    refine sldN (pc := 583) (j := 4 * j + 1) hx hb hX hbl hbA hS (by omega) hL dL_law_583 ?_
    refine lv_aload_n (pc := 584) hx hb dL_law_584 rfl (lv_at hl 0 rfl) ?_
    refine lv_iload_n (pc := 585) hx hb dL_law_585 rfl (lv_at hl 3 rfl) ?_
    refine lv_iconst (pc := 586) (v := 2) hx hb dL_law_586 (by decide) ?_
    refine iaddV (pc := 587) (v := nI (4 * j + 2)) hx hb dL_law_587 (nI_add (4 * j) 2) ?_
    refine sldN (pc := 588) (j := 4 * j + 2) hx hb hX hbl hbA hS (by omega) hL dL_law_588 ?_
    refine lv_aload_n (pc := 589) hx hb dL_law_589 rfl (lv_at hl 0 rfl) ?_
    refine lv_iload_n (pc := 590) hx hb dL_law_590 rfl (lv_at hl 3 rfl) ?_
    refine lv_iconst (pc := 591) (v := 3) hx hb dL_law_591 (by decide) ?_
    refine iaddV (pc := 592) (v := nI (4 * j + 3)) hx hb dL_law_592 (nI_add (4 * j) 3) ?_
    refine sldN (pc := 593) (j := 4 * j + 3) hx hb hX hbl hbA hS (by omega) hL dL_law_593 ?_
    refine lv_if_eq (pc := 594) (tgt := 601) hx hb dL_law_594 (by decide) (fun q9 => absurd q9 hbo) (fun _ => ?_)
    refine lv_iconst (pc := 597) (v := 1) hx hb dL_law_597 (by decide) ?_
    refine lv_goto (pc := 598) (tgt := 602) hx hb dL_law_598 (by decide) ?_
    refine lB (pc := 602) (rest := [.int (R_see z gg r sn (xs (4 * j + 1)) (xs (4 * j + 2)) 1).1]) (As := [.int (xs (4 * j + 1)), .int (xs (4 * j + 2)), .int 1]) ⟨hx, hb, hml, hown, hts⟩ (k_X8_see (t := xs (4 * j + 1)) (what := xs (4 * j + 2)) (could := 1) (n := n) (sn := sn) (hz1 := hz1) (hn5 := hn5) (hz10 := hz10) (hsn := hsn)) cw_L_81 ⟨(Nat.le_of_ble_eq_true rfl), (Nat.le_of_ble_eq_true rfl)⟩ hE hC hPb hS rfl rfl hl.1 rfl (Nat.le_of_ble_eq_true rfl) dL_law_602 hcs (fun H locs hC hPb hS => ?_)
    refine lv_icmp_eq (pc := 605) (tgt := 729) hx hb dL_law_605 (by decide) (fun _ => ?_) (fun q9 => absurd rfl q9)
    exact kk _ _ ⟨_, _, _, hPb, hC⟩ hS

set_option maxRecDepth 100000 in
set_option maxHeartbeats 4000000 in
theorem law_forget {l : Launch} {D : va_G} {kB kI kT : ClassId} {ks sk sv : Nat} {p : Program} {e : Env} {s : State} {m : MethodId} {below : List Frame} {meth : Method} {c : Code} {H : Heap} {locs : List Loc} {cells slots : Nat} {Q : State → Prop} {bs L : Nat} {xs : Nat → Int32} {A : Nat → Prop} {b x y pa : Nat → Nat} {o : Nat} {a : Nat → Nat} {j : Nat} {ls : Array Slot}
    (C : LC p s m c D kB kI kT ks sk sv bs L xs A) (hj : 4 * j + 3 < L) (hcs : cells + 0 ≤ room_1.cells ∧ slots + 0 ≤ room_1.slots) (hl : lv_has ls 4 [(0, .ref bs), (1, .ref (b 30)), (2, .ref o), (3, .int (nI (4 * j)))]) (h : LI D kB kI kT b x y pa o a A j H) (hS : va_S A s.heap H locs)
    (kk : ∀ (H1 : Heap) (locs1 : List Loc), LI D kB kI kT b x y pa o a A (j + 1) H1 → va_S A s.heap H1 locs1 → W p l e room_1 s m #[Value.ref bs] below meth c H1 locs1 cells slots Q (F0 m 729 ls [])) : W p l e room_1 s m #[Value.ref bs] below meth c H locs cells slots Q (F0 m 610 ls []) := by
  obtain ⟨hx, hb, hml, hown, hts, hE, hX, hbl, hbA, hL⟩ := C
  obtain ⟨z, gg, r, hPb, n, sn, pn, h9, bt, g, cd, so, sq, q, c1, v, c2, v2, d, u, hPa, hd, hI⟩ := h
  obtain ⟨hz1, hn5, hok, hz10, hsn, hz14, hpn, hpg⟩ := inv_ref hI
  refine lv_aload_n (pc := 610) hx hb dL_law_610 rfl (lv_at hl 1 rfl) ?_
  refine lA (pc := 611) (rest := []) (As := []) (RF := (z 10, va_up z 10 0, gg, r)) ⟨hx, hb, hml, hown, hts⟩ (k_X7_forget_s  hI (by omega)) cw_L_82 ⟨(Nat.le_of_ble_eq_true rfl), (Nat.le_of_ble_eq_true rfl)⟩ hE hPa hPb hd hS rfl rfl hl.1 rfl (Nat.le_of_ble_eq_true rfl) dL_law_611 hcs (fun H locs hC hPb hS => ?_)
  refine W.eq (g2 := F0 m 614 ls [.int ((z 10, va_up z 10 0, gg, r)).1]) rfl ?_
  refine lv_aload_n (pc := 614) hx hb dL_law_614 rfl (lv_at hl 2 rfl) ?_
  refine lB (pc := 615) (rest := [.int ((z 10, va_up z 10 0, gg, r)).1]) (As := []) ⟨hx, hb, hml, hown, hts⟩ (k_X8_forget   ) cw_L_85 ⟨(Nat.le_of_ble_eq_true rfl), (Nat.le_of_ble_eq_true rfl)⟩ hE hC hPb hS rfl rfl hl.1 rfl (Nat.le_of_ble_eq_true rfl) dL_law_615 hcs (fun H locs hC hPb hS => ?_)
  refine lv_icmp_eq (pc := 618) (tgt := 729) hx hb dL_law_618 (by decide) (fun _ => ?_) (fun q9 => absurd rfl q9)
  exact kk _ _ ⟨_, _, _, hPb, hC⟩ hS

set_option maxRecDepth 100000 in
set_option maxHeartbeats 4000000 in
theorem law_drawn {l : Launch} {D : va_G} {kB kI kT : ClassId} {ks sk sv : Nat} {p : Program} {e : Env} {s : State} {m : MethodId} {below : List Frame} {meth : Method} {c : Code} {H : Heap} {locs : List Loc} {cells slots : Nat} {Q : State → Prop} {bs L : Nat} {xs : Nat → Int32} {A : Nat → Prop} {b x y pa : Nat → Nat} {o : Nat} {a : Nat → Nat} {j : Nat} {ls : Array Slot}
    (C : LC p s m c D kB kI kT ks sk sv bs L xs A) (hj : 4 * j + 3 < L) (hcs : cells + 0 ≤ room_1.cells ∧ slots + 0 ≤ room_1.slots) (hl : lv_has ls 4 [(0, .ref bs), (1, .ref (b 30)), (2, .ref o), (3, .int (nI (4 * j)))]) (h : LI D kB kI kT b x y pa o a A j H) (hS : va_S A s.heap H locs)
    (kk : ∀ (H1 : Heap) (locs1 : List Loc), LI D kB kI kT b x y pa o a A (j + 1) H1 → va_S A s.heap H1 locs1 → W p l e room_1 s m #[Value.ref bs] below meth c H1 locs1 cells slots Q (F0 m 729 ls [])) : W p l e room_1 s m #[Value.ref bs] below meth c H locs cells slots Q (F0 m 623 ls []) := by
  obtain ⟨hx, hb, hml, hown, hts, hE, hX, hbl, hbA, hL⟩ := C
  obtain ⟨z, gg, r, hPb, n, sn, pn, h9, bt, g, cd, so, sq, q, c1, v, c2, v2, d, u, hPa, hd, hI⟩ := h
  obtain ⟨hz1, hn5, hok, hz10, hsn, hz14, hpn, hpg⟩ := inv_ref hI
  refine lv_aload_n (pc := 623) hx hb dL_law_623 rfl (lv_at hl 1 rfl) ?_
  refine lv_aload_n (pc := 624) hx hb dL_law_624 rfl (lv_at hl 0 rfl) ?_
  refine lv_iload_n (pc := 625) hx hb dL_law_625 rfl (lv_at hl 3 rfl) ?_
  refine lv_iconst (pc := 626) (v := 1) hx hb dL_law_626 (by decide) ?_
  refine iaddV (pc := 627) (v := nI (4 * j + 1)) hx hb dL_law_627 (nI_add (4 * j) 1) ?_
  refine sldN (pc := 628) (j := 4 * j + 1) hx hb hX hbl hbA hS (by omega) hL dL_law_628 ?_
  refine lv_aload_n (pc := 629) hx hb dL_law_629 rfl (lv_at hl 0 rfl) ?_
  refine lv_iload_n (pc := 630) hx hb dL_law_630 rfl (lv_at hl 3 rfl) ?_
  refine lv_iconst (pc := 631) (v := 2) hx hb dL_law_631 (by decide) ?_
  refine iaddV (pc := 632) (v := nI (4 * j + 2)) hx hb dL_law_632 (nI_add (4 * j) 2) ?_
  refine sldN (pc := 633) (j := 4 * j + 2) hx hb hX hbl hbA hS (by omega) hL dL_law_633 ?_
  refine lv_aload_n (pc := 634) hx hb dL_law_634 rfl (lv_at hl 0 rfl) ?_
  refine lv_iload_n (pc := 635) hx hb dL_law_635 rfl (lv_at hl 3 rfl) ?_
  refine lv_iconst (pc := 636) (v := 3) hx hb dL_law_636 (by decide) ?_
  refine iaddV (pc := 637) (v := nI (4 * j + 3)) hx hb dL_law_637 (nI_add (4 * j) 3) ?_
  refine sldN (pc := 638) (j := 4 * j + 3) hx hb hX hbl hbA hS (by omega) hL dL_law_638 ?_
  refine lA (pc := 639) (rest := []) (As := [.int (xs (4 * j + 1)), .int (xs (4 * j + 2)), .int (xs (4 * j + 3))]) (RF := R_drawn z gg r n (xs (4 * j + 1)) (xs (4 * j + 2)) (xs (4 * j + 3))) ⟨hx, hb, hml, hown, hts⟩ (k_X7_drawn_s (times := xs (4 * j + 1)) (seed := xs (4 * j + 2)) (what := xs (4 * j + 3)) hI (by omega)) cw_L_86 ⟨(Nat.le_of_ble_eq_true rfl), (Nat.le_of_ble_eq_true rfl)⟩ hE hPa hPb hd hS rfl rfl hl.1 rfl (Nat.le_of_ble_eq_true rfl) dL_law_639 hcs (fun H locs hC hPb hS => ?_)
  refine W.eq (g2 := F0 m 642 ls [.int (R_drawn z gg r n (xs (4 * j + 1)) (xs (4 * j + 2)) (xs (4 * j + 3))).1]) rfl ?_
  refine lv_aload_n (pc := 642) hx hb dL_law_642 rfl (lv_at hl 2 rfl) ?_
  refine lv_aload_n (pc := 643) hx hb dL_law_643 rfl (lv_at hl 0 rfl) ?_
  refine lv_iload_n (pc := 644) hx hb dL_law_644 rfl (lv_at hl 3 rfl) ?_
  refine lv_iconst (pc := 645) (v := 1) hx hb dL_law_645 (by decide) ?_
  refine iaddV (pc := 646) (v := nI (4 * j + 1)) hx hb dL_law_646 (nI_add (4 * j) 1) ?_
  refine sldN (pc := 647) (j := 4 * j + 1) hx hb hX hbl hbA hS (by omega) hL dL_law_647 ?_
  refine lv_aload_n (pc := 648) hx hb dL_law_648 rfl (lv_at hl 0 rfl) ?_
  refine lv_iload_n (pc := 649) hx hb dL_law_649 rfl (lv_at hl 3 rfl) ?_
  refine lv_iconst (pc := 650) (v := 2) hx hb dL_law_650 (by decide) ?_
  refine iaddV (pc := 651) (v := nI (4 * j + 2)) hx hb dL_law_651 (nI_add (4 * j) 2) ?_
  refine sldN (pc := 652) (j := 4 * j + 2) hx hb hX hbl hbA hS (by omega) hL dL_law_652 ?_
  refine lv_aload_n (pc := 653) hx hb dL_law_653 rfl (lv_at hl 0 rfl) ?_
  refine lv_iload_n (pc := 654) hx hb dL_law_654 rfl (lv_at hl 3 rfl) ?_
  refine lv_iconst (pc := 655) (v := 3) hx hb dL_law_655 (by decide) ?_
  refine iaddV (pc := 656) (v := nI (4 * j + 3)) hx hb dL_law_656 (nI_add (4 * j) 3) ?_
  refine sldN (pc := 657) (j := 4 * j + 3) hx hb hX hbl hbA hS (by omega) hL dL_law_657 ?_
  refine lB (pc := 658) (rest := [.int (R_drawn z gg r n (xs (4 * j + 1)) (xs (4 * j + 2)) (xs (4 * j + 3))).1]) (As := [.int (xs (4 * j + 1)), .int (xs (4 * j + 2)), .int (xs (4 * j + 3))]) ⟨hx, hb, hml, hown, hts⟩ (k_X8_drawn (times := xs (4 * j + 1)) (seed := xs (4 * j + 2)) (what := xs (4 * j + 3)) (n := n) (hz1 := hz1) (hn5 := hn5)) cw_L_89 ⟨(Nat.le_of_ble_eq_true rfl), (Nat.le_of_ble_eq_true rfl)⟩ hE hC hPb hS rfl rfl hl.1 rfl (Nat.le_of_ble_eq_true rfl) dL_law_658 hcs (fun H locs hC hPb hS => ?_)
  refine lv_icmp_eq (pc := 661) (tgt := 729) hx hb dL_law_661 (by decide) (fun _ => ?_) (fun q9 => absurd rfl q9)
  exact kk _ _ ⟨_, _, _, hPb, hC⟩ hS
