set_option maxRecDepth 100000 in
set_option maxHeartbeats 4000000 in
theorem law_as {l : Launch} {D : va_G} {kB kI kT : ClassId} {ks sk sv : Nat} {p : Program} {e : Env} {s : State} {m : MethodId} {below : List Frame} {meth : Method} {c : Code} {H : Heap} {locs : List Loc} {cells slots : Nat} {Q : State → Prop} {bs L : Nat} {xs : Nat → Int32} {A : Nat → Prop} {b x y pa : Nat → Nat} {o : Nat} {a : Nat → Nat} {j : Nat} {ls : Array Slot}
    (C : LC p s m c D kB kI kT ks sk sv bs L xs A) (hj : 4 * j + 3 < L) (hcs : cells + 0 ≤ room_1.cells ∧ slots + 0 ≤ room_1.slots) (hl : lv_has ls 4 [(0, .ref bs), (1, .ref (b 30)), (2, .ref o), (3, .int (nI (4 * j)))]) (h : LI D kB kI kT b x y pa o a A j H) (hS : va_S A s.heap H locs)
    (kk : ∀ (H1 : Heap) (locs1 : List Loc), LI D kB kI kT b x y pa o a A (j + 1) H1 → va_S A s.heap H1 locs1 → W p l e room_1 s m #[Value.ref bs] below meth c H1 locs1 cells slots Q (F0 m 729 ls [])) : W p l e room_1 s m #[Value.ref bs] below meth c H locs cells slots Q (F0 m 244 ls []) := by
  obtain ⟨hx, hb, hml, hown, hts, hE, hX, hbl, hbA, hL⟩ := C
  obtain ⟨z, gg, r, hPb, n, sn, pn, h9, bt, g, cd, so, sq, q, c1, v, c2, v2, d, u, hPa, hd, hI⟩ := h
  obtain ⟨hz1, hn5, hok, hz10, hsn, hz14, hpn, hpg⟩ := inv_ref hI
  refine lv_aload_n (pc := 244) hx hb dL_law_244 rfl (lv_at hl 1 rfl) ?_
  refine lv_aload_n (pc := 245) hx hb dL_law_245 rfl (lv_at hl 0 rfl) ?_
  refine lv_iload_n (pc := 246) hx hb dL_law_246 rfl (lv_at hl 3 rfl) ?_
  refine lv_iconst (pc := 247) (v := 1) hx hb dL_law_247 (by decide) ?_
  refine iaddV (pc := 248) (v := nI (4 * j + 1)) hx hb dL_law_248 (nI_add (4 * j) 1) ?_
  refine sldN (pc := 249) (j := 4 * j + 1) hx hb hX hbl hbA hS (by omega) hL dL_law_249 ?_
  refine lv_aload_n (pc := 250) hx hb dL_law_250 rfl (lv_at hl 0 rfl) ?_
  refine lv_iload_n (pc := 251) hx hb dL_law_251 rfl (lv_at hl 3 rfl) ?_
  refine lv_iconst (pc := 252) (v := 2) hx hb dL_law_252 (by decide) ?_
  refine iaddV (pc := 253) (v := nI (4 * j + 2)) hx hb dL_law_253 (nI_add (4 * j) 2) ?_
  refine sldN (pc := 254) (j := 4 * j + 2) hx hb hX hbl hbA hS (by omega) hL dL_law_254 ?_
  refine rV (pc := 255) (rest := []) (As := [.int (xs (4 * j + 1)), .int (xs (4 * j + 2))]) ⟨hx, hb, hml, hown, hts⟩ (k_X7_as (t := xs (4 * j + 1)) (kind := xs (4 * j + 2)) (gg := gg) hI) cw_L_40 ⟨(Nat.le_of_ble_eq_true rfl), (Nat.le_of_ble_eq_true rfl)⟩ hE hS hPa rfl rfl rfl rfl hl.1 rfl (Nat.le_of_ble_eq_true rfl) dL_law_255 hcs ?_
  refine W.eq (g2 := F0 m 258 ls [.int (asS z r (xs (4 * j + 1)) (xs (4 * j + 2)))]) rfl ?_
  refine lv_aload_n (pc := 258) hx hb dL_law_258 rfl (lv_at hl 2 rfl) ?_
  refine lv_aload_n (pc := 259) hx hb dL_law_259 rfl (lv_at hl 0 rfl) ?_
  refine lv_iload_n (pc := 260) hx hb dL_law_260 rfl (lv_at hl 3 rfl) ?_
  refine lv_iconst (pc := 261) (v := 1) hx hb dL_law_261 (by decide) ?_
  refine iaddV (pc := 262) (v := nI (4 * j + 1)) hx hb dL_law_262 (nI_add (4 * j) 1) ?_
  refine sldN (pc := 263) (j := 4 * j + 1) hx hb hX hbl hbA hS (by omega) hL dL_law_263 ?_
  refine lv_aload_n (pc := 264) hx hb dL_law_264 rfl (lv_at hl 0 rfl) ?_
  refine lv_iload_n (pc := 265) hx hb dL_law_265 rfl (lv_at hl 3 rfl) ?_
  refine lv_iconst (pc := 266) (v := 2) hx hb dL_law_266 (by decide) ?_
  refine iaddV (pc := 267) (v := nI (4 * j + 2)) hx hb dL_law_267 (nI_add (4 * j) 2) ?_
  refine sldN (pc := 268) (j := 4 * j + 2) hx hb hX hbl hbA hS (by omega) hL dL_law_268 ?_
  refine rV (pc := 269) (rest := [.int (asS z r (xs (4 * j + 1)) (xs (4 * j + 2)))]) (As := [.int (xs (4 * j + 1)), .int (xs (4 * j + 2))]) ⟨hx, hb, hml, hown, hts⟩ (k_X8_as (t := xs (4 * j + 1)) (kind := xs (4 * j + 2)) (n := n) (hz1 := hz1) (hn5 := hn5)) cw_L_43 ⟨(Nat.le_of_ble_eq_true rfl), (Nat.le_of_ble_eq_true rfl)⟩ hE hS hPb rfl rfl rfl rfl hl.1 rfl (Nat.le_of_ble_eq_true rfl) dL_law_269 hcs ?_
  refine lv_icmp_eq (pc := 272) (tgt := 729) hx hb dL_law_272 (by decide) (fun _ => ?_) (fun q9 => absurd rfl q9)
  exact kk _ _ ⟨z, gg, r, hPb, n, sn, pn, h9, bt, g, cd, so, sq, q, c1, v, c2, v2, d, u, hPa, hd, inv_w hI (by omega)⟩ hS

set_option maxRecDepth 100000 in
set_option maxHeartbeats 4000000 in
theorem law_night {l : Launch} {D : va_G} {kB kI kT : ClassId} {ks sk sv : Nat} {p : Program} {e : Env} {s : State} {m : MethodId} {below : List Frame} {meth : Method} {c : Code} {H : Heap} {locs : List Loc} {cells slots : Nat} {Q : State → Prop} {bs L : Nat} {xs : Nat → Int32} {A : Nat → Prop} {b x y pa : Nat → Nat} {o : Nat} {a : Nat → Nat} {j : Nat} {ls : Array Slot}
    (C : LC p s m c D kB kI kT ks sk sv bs L xs A) (hj : 4 * j + 3 < L) (hcs : cells + 0 ≤ room_1.cells ∧ slots + 0 ≤ room_1.slots) (hl : lv_has ls 4 [(0, .ref bs), (1, .ref (b 30)), (2, .ref o), (3, .int (nI (4 * j)))]) (h : LI D kB kI kT b x y pa o a A j H) (hS : va_S A s.heap H locs)
    (kk : ∀ (H1 : Heap) (locs1 : List Loc), LI D kB kI kT b x y pa o a A (j + 1) H1 → va_S A s.heap H1 locs1 → W p l e room_1 s m #[Value.ref bs] below meth c H1 locs1 cells slots Q (F0 m 729 ls [])) : W p l e room_1 s m #[Value.ref bs] below meth c H locs cells slots Q (F0 m 277 ls []) := by
  obtain ⟨hx, hb, hml, hown, hts, hE, hX, hbl, hbA, hL⟩ := C
  obtain ⟨z, gg, r, hPb, n, sn, pn, h9, bt, g, cd, so, sq, q, c1, v, c2, v2, d, u, hPa, hd, hI⟩ := h
  obtain ⟨hz1, hn5, hok, hz10, hsn, hz14, hpn, hpg⟩ := inv_ref hI
  refine lv_aload_n (pc := 277) hx hb dL_law_277 rfl (lv_at hl 1 rfl) ?_
  refine lv_aload_n (pc := 278) hx hb dL_law_278 rfl (lv_at hl 0 rfl) ?_
  refine lv_iload_n (pc := 279) hx hb dL_law_279 rfl (lv_at hl 3 rfl) ?_
  refine lv_iconst (pc := 280) (v := 1) hx hb dL_law_280 (by decide) ?_
  refine iaddV (pc := 281) (v := nI (4 * j + 1)) hx hb dL_law_281 (nI_add (4 * j) 1) ?_
  refine sldN (pc := 282) (j := 4 * j + 1) hx hb hX hbl hbA hS (by omega) hL dL_law_282 ?_
  refine lv_aload_n (pc := 283) hx hb dL_law_283 rfl (lv_at hl 0 rfl) ?_
  refine lv_iload_n (pc := 284) hx hb dL_law_284 rfl (lv_at hl 3 rfl) ?_
  refine lv_iconst (pc := 285) (v := 2) hx hb dL_law_285 (by decide) ?_
  refine iaddV (pc := 286) (v := nI (4 * j + 2)) hx hb dL_law_286 (nI_add (4 * j) 2) ?_
  refine sldN (pc := 287) (j := 4 * j + 2) hx hb hX hbl hbA hS (by omega) hL dL_law_287 ?_
  refine rV (pc := 288) (rest := []) (As := [.int (xs (4 * j + 1)), .int (xs (4 * j + 2))]) ⟨hx, hb, hml, hown, hts⟩ (k_X7_night (x9 := xs (4 * j + 1)) (what := xs (4 * j + 2)) (gg := gg) hI) cw_L_44 ⟨(Nat.le_of_ble_eq_true rfl), (Nat.le_of_ble_eq_true rfl)⟩ hE hS hPa rfl rfl rfl rfl hl.1 rfl (Nat.le_of_ble_eq_true rfl) dL_law_288 hcs ?_
  refine W.eq (g2 := F0 m 291 ls [.int (nigS z r (xs (4 * j + 1)) (xs (4 * j + 2)))]) rfl ?_
  refine lv_aload_n (pc := 291) hx hb dL_law_291 rfl (lv_at hl 2 rfl) ?_
  refine lv_aload_n (pc := 292) hx hb dL_law_292 rfl (lv_at hl 0 rfl) ?_
  refine lv_iload_n (pc := 293) hx hb dL_law_293 rfl (lv_at hl 3 rfl) ?_
  refine lv_iconst (pc := 294) (v := 1) hx hb dL_law_294 (by decide) ?_
  refine iaddV (pc := 295) (v := nI (4 * j + 1)) hx hb dL_law_295 (nI_add (4 * j) 1) ?_
  refine sldN (pc := 296) (j := 4 * j + 1) hx hb hX hbl hbA hS (by omega) hL dL_law_296 ?_
  refine lv_aload_n (pc := 297) hx hb dL_law_297 rfl (lv_at hl 0 rfl) ?_
  refine lv_iload_n (pc := 298) hx hb dL_law_298 rfl (lv_at hl 3 rfl) ?_
  refine lv_iconst (pc := 299) (v := 2) hx hb dL_law_299 (by decide) ?_
  refine iaddV (pc := 300) (v := nI (4 * j + 2)) hx hb dL_law_300 (nI_add (4 * j) 2) ?_
  refine sldN (pc := 301) (j := 4 * j + 2) hx hb hX hbl hbA hS (by omega) hL dL_law_301 ?_
  refine rV (pc := 302) (rest := [.int (nigS z r (xs (4 * j + 1)) (xs (4 * j + 2)))]) (As := [.int (xs (4 * j + 1)), .int (xs (4 * j + 2))]) ⟨hx, hb, hml, hown, hts⟩ (k_X8_night (x := xs (4 * j + 1)) (what := xs (4 * j + 2)) (n := n) (hok := hok) (hn5 := hn5) (hz1 := hz1)) cw_L_47 ⟨(Nat.le_of_ble_eq_true rfl), (Nat.le_of_ble_eq_true rfl)⟩ hE hS hPb rfl rfl rfl rfl hl.1 rfl (Nat.le_of_ble_eq_true rfl) dL_law_302 hcs ?_
  refine lv_icmp_eq (pc := 305) (tgt := 729) hx hb dL_law_305 (by decide) (fun _ => ?_) (fun q9 => absurd rfl q9)
  exact kk _ _ ⟨z, gg, r, hPb, n, sn, pn, h9, bt, g, cd, so, sq, q, c1, v, c2, v2, d, u, hPa, hd, inv_w hI (by omega)⟩ hS

set_option maxRecDepth 100000 in
set_option maxHeartbeats 4000000 in
theorem law_play {l : Launch} {D : va_G} {kB kI kT : ClassId} {ks sk sv : Nat} {p : Program} {e : Env} {s : State} {m : MethodId} {below : List Frame} {meth : Method} {c : Code} {H : Heap} {locs : List Loc} {cells slots : Nat} {Q : State → Prop} {bs L : Nat} {xs : Nat → Int32} {A : Nat → Prop} {b x y pa : Nat → Nat} {o : Nat} {a : Nat → Nat} {j : Nat} {ls : Array Slot}
    (C : LC p s m c D kB kI kT ks sk sv bs L xs A) (hj : 4 * j + 3 < L) (hcs : cells + 0 ≤ room_1.cells ∧ slots + 0 ≤ room_1.slots) (hl : lv_has ls 4 [(0, .ref bs), (1, .ref (b 30)), (2, .ref o), (3, .int (nI (4 * j)))]) (h : LI D kB kI kT b x y pa o a A j H) (hS : va_S A s.heap H locs)
    (kk : ∀ (H1 : Heap) (locs1 : List Loc), LI D kB kI kT b x y pa o a A (j + 1) H1 → va_S A s.heap H1 locs1 → W p l e room_1 s m #[Value.ref bs] below meth c H1 locs1 cells slots Q (F0 m 729 ls [])) : W p l e room_1 s m #[Value.ref bs] below meth c H locs cells slots Q (F0 m 310 ls []) := by
  obtain ⟨hx, hb, hml, hown, hts, hE, hX, hbl, hbA, hL⟩ := C
  obtain ⟨z, gg, r, hPb, n, sn, pn, h9, bt, g, cd, so, sq, q, c1, v, c2, v2, d, u, hPa, hd, hI⟩ := h
  obtain ⟨hz1, hn5, hok, hz10, hsn, hz14, hpn, hpg⟩ := inv_ref hI
  refine lv_aload_n (pc := 310) hx hb dL_law_310 rfl (lv_at hl 1 rfl) ?_
  refine lv_aload_n (pc := 311) hx hb dL_law_311 rfl (lv_at hl 0 rfl) ?_
  refine lv_iload_n (pc := 312) hx hb dL_law_312 rfl (lv_at hl 3 rfl) ?_
  refine lv_iconst (pc := 313) (v := 1) hx hb dL_law_313 (by decide) ?_
  refine iaddV (pc := 314) (v := nI (4 * j + 1)) hx hb dL_law_314 (nI_add (4 * j) 1) ?_
  refine sldN (pc := 315) (j := 4 * j + 1) hx hb hX hbl hbA hS (by omega) hL dL_law_315 ?_
  refine lv_aload_n (pc := 316) hx hb dL_law_316 rfl (lv_at hl 0 rfl) ?_
  refine lv_iload_n (pc := 317) hx hb dL_law_317 rfl (lv_at hl 3 rfl) ?_
  refine lv_iconst (pc := 318) (v := 2) hx hb dL_law_318 (by decide) ?_
  refine iaddV (pc := 319) (v := nI (4 * j + 2)) hx hb dL_law_319 (nI_add (4 * j) 2) ?_
  refine sldN (pc := 320) (j := 4 * j + 2) hx hb hX hbl hbA hS (by omega) hL dL_law_320 ?_
  refine lA (pc := 321) (rest := []) (As := [.int (xs (4 * j + 1)), .int (xs (4 * j + 2))]) (RF := R_play z gg r n (xs (4 * j + 1)) (xs (4 * j + 2))) ⟨hx, hb, hml, hown, hts⟩ (k_X7_play_s (x9 := xs (4 * j + 1)) (p9 := xs (4 * j + 2)) hI (by omega)) cw_L_48 ⟨(Nat.le_of_ble_eq_true rfl), (Nat.le_of_ble_eq_true rfl)⟩ hE hPa hPb hd hS rfl rfl hl.1 rfl (Nat.le_of_ble_eq_true rfl) dL_law_321 hcs (fun H locs hC hPb hS => ?_)
  refine W.eq (g2 := F0 m 324 ls [.int (R_play z gg r n (xs (4 * j + 1)) (xs (4 * j + 2))).1]) rfl ?_
  refine lv_aload_n (pc := 324) hx hb dL_law_324 rfl (lv_at hl 2 rfl) ?_
  refine lv_aload_n (pc := 325) hx hb dL_law_325 rfl (lv_at hl 0 rfl) ?_
  refine lv_iload_n (pc := 326) hx hb dL_law_326 rfl (lv_at hl 3 rfl) ?_
  refine lv_iconst (pc := 327) (v := 1) hx hb dL_law_327 (by decide) ?_
  refine iaddV (pc := 328) (v := nI (4 * j + 1)) hx hb dL_law_328 (nI_add (4 * j) 1) ?_
  refine sldN (pc := 329) (j := 4 * j + 1) hx hb hX hbl hbA hS (by omega) hL dL_law_329 ?_
  refine lv_aload_n (pc := 330) hx hb dL_law_330 rfl (lv_at hl 0 rfl) ?_
  refine lv_iload_n (pc := 331) hx hb dL_law_331 rfl (lv_at hl 3 rfl) ?_
  refine lv_iconst (pc := 332) (v := 2) hx hb dL_law_332 (by decide) ?_
  refine iaddV (pc := 333) (v := nI (4 * j + 2)) hx hb dL_law_333 (nI_add (4 * j) 2) ?_
  refine sldN (pc := 334) (j := 4 * j + 2) hx hb hX hbl hbA hS (by omega) hL dL_law_334 ?_
  refine lB (pc := 335) (rest := [.int (R_play z gg r n (xs (4 * j + 1)) (xs (4 * j + 2))).1]) (As := [.int (xs (4 * j + 1)), .int (xs (4 * j + 2))]) ⟨hx, hb, hml, hown, hts⟩ (k_X8_play (x := xs (4 * j + 1)) (t := xs (4 * j + 2)) (n := n) (hok := hok) (hn5 := hn5) (hz1 := hz1)) cw_L_51 ⟨(Nat.le_of_ble_eq_true rfl), (Nat.le_of_ble_eq_true rfl)⟩ hE hC hPb hS rfl rfl hl.1 rfl (Nat.le_of_ble_eq_true rfl) dL_law_335 hcs (fun H locs hC hPb hS => ?_)
  refine lv_icmp_eq (pc := 338) (tgt := 729) hx hb dL_law_338 (by decide) (fun _ => ?_) (fun q9 => absurd rfl q9)
  exact kk _ _ ⟨_, _, _, hPb, hC⟩ hS

set_option maxRecDepth 100000 in
set_option maxHeartbeats 4000000 in
theorem law_delay {l : Launch} {D : va_G} {kB kI kT : ClassId} {ks sk sv : Nat} {p : Program} {e : Env} {s : State} {m : MethodId} {below : List Frame} {meth : Method} {c : Code} {H : Heap} {locs : List Loc} {cells slots : Nat} {Q : State → Prop} {bs L : Nat} {xs : Nat → Int32} {A : Nat → Prop} {b x y pa : Nat → Nat} {o : Nat} {a : Nat → Nat} {j : Nat} {ls : Array Slot}
    (C : LC p s m c D kB kI kT ks sk sv bs L xs A) (hj : 4 * j + 3 < L) (hcs : cells + 0 ≤ room_1.cells ∧ slots + 0 ≤ room_1.slots) (hl : lv_has ls 4 [(0, .ref bs), (1, .ref (b 30)), (2, .ref o), (3, .int (nI (4 * j)))]) (h : LI D kB kI kT b x y pa o a A j H) (hS : va_S A s.heap H locs)
    (kk : ∀ (H1 : Heap) (locs1 : List Loc), LI D kB kI kT b x y pa o a A (j + 1) H1 → va_S A s.heap H1 locs1 → W p l e room_1 s m #[Value.ref bs] below meth c H1 locs1 cells slots Q (F0 m 729 ls [])) : W p l e room_1 s m #[Value.ref bs] below meth c H locs cells slots Q (F0 m 343 ls []) := by
  obtain ⟨hx, hb, hml, hown, hts, hE, hX, hbl, hbA, hL⟩ := C
  obtain ⟨z, gg, r, hPb, n, sn, pn, h9, bt, g, cd, so, sq, q, c1, v, c2, v2, d, u, hPa, hd, hI⟩ := h
  obtain ⟨hz1, hn5, hok, hz10, hsn, hz14, hpn, hpg⟩ := inv_ref hI
  refine lv_aload_n (pc := 343) hx hb dL_law_343 rfl (lv_at hl 1 rfl) ?_
  refine lv_aload_n (pc := 344) hx hb dL_law_344 rfl (lv_at hl 0 rfl) ?_
  refine lv_iload_n (pc := 345) hx hb dL_law_345 rfl (lv_at hl 3 rfl) ?_
  refine lv_iconst (pc := 346) (v := 1) hx hb dL_law_346 (by decide) ?_
  refine iaddV (pc := 347) (v := nI (4 * j + 1)) hx hb dL_law_347 (nI_add (4 * j) 1) ?_
  refine sldN (pc := 348) (j := 4 * j + 1) hx hb hX hbl hbA hS (by omega) hL dL_law_348 ?_
  refine lA (pc := 349) (rest := []) (As := [.int (xs (4 * j + 1))]) (RF := R_delay z gg r n (xs (4 * j + 1))) ⟨hx, hb, hml, hown, hts⟩ (k_X7_delay_s (b9 := xs (4 * j + 1)) hI (by omega)) cw_L_52 ⟨(Nat.le_of_ble_eq_true rfl), (Nat.le_of_ble_eq_true rfl)⟩ hE hPa hPb hd hS rfl rfl hl.1 rfl (Nat.le_of_ble_eq_true rfl) dL_law_349 hcs (fun H locs hC hPb hS => ?_)
  refine W.eq (g2 := F0 m 352 ls [.int (R_delay z gg r n (xs (4 * j + 1))).1]) rfl ?_
  refine lv_aload_n (pc := 352) hx hb dL_law_352 rfl (lv_at hl 2 rfl) ?_
  refine lv_aload_n (pc := 353) hx hb dL_law_353 rfl (lv_at hl 0 rfl) ?_
  refine lv_iload_n (pc := 354) hx hb dL_law_354 rfl (lv_at hl 3 rfl) ?_
  refine lv_iconst (pc := 355) (v := 1) hx hb dL_law_355 (by decide) ?_
  refine iaddV (pc := 356) (v := nI (4 * j + 1)) hx hb dL_law_356 (nI_add (4 * j) 1) ?_
  refine sldN (pc := 357) (j := 4 * j + 1) hx hb hX hbl hbA hS (by omega) hL dL_law_357 ?_
  refine lB (pc := 358) (rest := [.int (R_delay z gg r n (xs (4 * j + 1))).1]) (As := [.int (xs (4 * j + 1))]) ⟨hx, hb, hml, hown, hts⟩ (k_X8_delay (b := xs (4 * j + 1)) (n := n) (hz1 := hz1) (hn5 := hn5)) cw_L_55 ⟨(Nat.le_of_ble_eq_true rfl), (Nat.le_of_ble_eq_true rfl)⟩ hE hC hPb hS rfl rfl hl.1 rfl (Nat.le_of_ble_eq_true rfl) dL_law_358 hcs (fun H locs hC hPb hS => ?_)
  refine lv_icmp_eq (pc := 361) (tgt := 729) hx hb dL_law_361 (by decide) (fun _ => ?_) (fun q9 => absurd rfl q9)
  exact kk _ _ ⟨_, _, _, hPb, hC⟩ hS

set_option maxRecDepth 100000 in
set_option maxHeartbeats 4000000 in
theorem law_add {l : Launch} {D : va_G} {kB kI kT : ClassId} {ks sk sv : Nat} {p : Program} {e : Env} {s : State} {m : MethodId} {below : List Frame} {meth : Method} {c : Code} {H : Heap} {locs : List Loc} {cells slots : Nat} {Q : State → Prop} {bs L : Nat} {xs : Nat → Int32} {A : Nat → Prop} {b x y pa : Nat → Nat} {o : Nat} {a : Nat → Nat} {j : Nat} {ls : Array Slot}
    (C : LC p s m c D kB kI kT ks sk sv bs L xs A) (hj : 4 * j + 3 < L) (hcs : cells + 0 ≤ room_1.cells ∧ slots + 0 ≤ room_1.slots) (hl : lv_has ls 4 [(0, .ref bs), (1, .ref (b 30)), (2, .ref o), (3, .int (nI (4 * j)))]) (h : LI D kB kI kT b x y pa o a A j H) (hS : va_S A s.heap H locs)
    (kk : ∀ (H1 : Heap) (locs1 : List Loc), LI D kB kI kT b x y pa o a A (j + 1) H1 → va_S A s.heap H1 locs1 → W p l e room_1 s m #[Value.ref bs] below meth c H1 locs1 cells slots Q (F0 m 729 ls [])) : W p l e room_1 s m #[Value.ref bs] below meth c H locs cells slots Q (F0 m 366 ls []) := by
  obtain ⟨hx, hb, hml, hown, hts, hE, hX, hbl, hbA, hL⟩ := C
  obtain ⟨z, gg, r, hPb, n, sn, pn, h9, bt, g, cd, so, sq, q, c1, v, c2, v2, d, u, hPa, hd, hI⟩ := h
  obtain ⟨hz1, hn5, hok, hz10, hsn, hz14, hpn, hpg⟩ := inv_ref hI
  refine lv_aload_n (pc := 366) hx hb dL_law_366 rfl (lv_at hl 1 rfl) ?_
  refine lv_aload_n (pc := 367) hx hb dL_law_367 rfl (lv_at hl 0 rfl) ?_
  refine lv_iload_n (pc := 368) hx hb dL_law_368 rfl (lv_at hl 3 rfl) ?_
  refine lv_iconst (pc := 369) (v := 1) hx hb dL_law_369 (by decide) ?_
  refine iaddV (pc := 370) (v := nI (4 * j + 1)) hx hb dL_law_370 (nI_add (4 * j) 1) ?_
  refine sldN (pc := 371) (j := 4 * j + 1) hx hb hX hbl hbA hS (by omega) hL dL_law_371 ?_
  refine lv_aload_n (pc := 372) hx hb dL_law_372 rfl (lv_at hl 0 rfl) ?_
  refine lv_iload_n (pc := 373) hx hb dL_law_373 rfl (lv_at hl 3 rfl) ?_
  refine lv_iconst (pc := 374) (v := 2) hx hb dL_law_374 (by decide) ?_
  refine iaddV (pc := 375) (v := nI (4 * j + 2)) hx hb dL_law_375 (nI_add (4 * j) 2) ?_
  refine sldN (pc := 376) (j := 4 * j + 2) hx hb hX hbl hbA hS (by omega) hL dL_law_376 ?_
  refine lv_aload_n (pc := 377) hx hb dL_law_377 rfl (lv_at hl 0 rfl) ?_
  refine lv_iload_n (pc := 378) hx hb dL_law_378 rfl (lv_at hl 3 rfl) ?_
  refine lv_iconst (pc := 379) (v := 3) hx hb dL_law_379 (by decide) ?_
  refine iaddV (pc := 380) (v := nI (4 * j + 3)) hx hb dL_law_380 (nI_add (4 * j) 3) ?_
  refine sldN (pc := 381) (j := 4 * j + 3) hx hb hX hbl hbA hS (by omega) hL dL_law_381 ?_
  refine lA (pc := 382) (rest := []) (As := [.int (xs (4 * j + 1)), .int (xs (4 * j + 2)), .int (xs (4 * j + 3))]) (RF := R_add z gg r n (xs (4 * j + 1)) (xs (4 * j + 2)) (xs (4 * j + 3))) ⟨hx, hb, hml, hown, hts⟩ (k_X7_add_s (kind := xs (4 * j + 1)) (set := xs (4 * j + 2)) (cast := xs (4 * j + 3)) hI (by omega)) cw_L_56 ⟨(Nat.le_of_ble_eq_true rfl), (Nat.le_of_ble_eq_true rfl)⟩ hE hPa hPb hd hS rfl rfl hl.1 rfl (Nat.le_of_ble_eq_true rfl) dL_law_382 hcs (fun H locs hC hPb hS => ?_)
  refine W.eq (g2 := F0 m 385 ls [.int (R_add z gg r n (xs (4 * j + 1)) (xs (4 * j + 2)) (xs (4 * j + 3))).1]) rfl ?_
  refine lv_aload_n (pc := 385) hx hb dL_law_385 rfl (lv_at hl 2 rfl) ?_
  refine lv_aload_n (pc := 386) hx hb dL_law_386 rfl (lv_at hl 0 rfl) ?_
  refine lv_iload_n (pc := 387) hx hb dL_law_387 rfl (lv_at hl 3 rfl) ?_
  refine lv_iconst (pc := 388) (v := 1) hx hb dL_law_388 (by decide) ?_
  refine iaddV (pc := 389) (v := nI (4 * j + 1)) hx hb dL_law_389 (nI_add (4 * j) 1) ?_
  refine sldN (pc := 390) (j := 4 * j + 1) hx hb hX hbl hbA hS (by omega) hL dL_law_390 ?_
  refine lv_aload_n (pc := 391) hx hb dL_law_391 rfl (lv_at hl 0 rfl) ?_
  refine lv_iload_n (pc := 392) hx hb dL_law_392 rfl (lv_at hl 3 rfl) ?_
  refine lv_iconst (pc := 393) (v := 2) hx hb dL_law_393 (by decide) ?_
  refine iaddV (pc := 394) (v := nI (4 * j + 2)) hx hb dL_law_394 (nI_add (4 * j) 2) ?_
  refine sldN (pc := 395) (j := 4 * j + 2) hx hb hX hbl hbA hS (by omega) hL dL_law_395 ?_
  refine lv_aload_n (pc := 396) hx hb dL_law_396 rfl (lv_at hl 0 rfl) ?_
  refine lv_iload_n (pc := 397) hx hb dL_law_397 rfl (lv_at hl 3 rfl) ?_
  refine lv_iconst (pc := 398) (v := 3) hx hb dL_law_398 (by decide) ?_
  refine iaddV (pc := 399) (v := nI (4 * j + 3)) hx hb dL_law_399 (nI_add (4 * j) 3) ?_
  refine sldN (pc := 400) (j := 4 * j + 3) hx hb hX hbl hbA hS (by omega) hL dL_law_400 ?_
  refine lB (pc := 401) (rest := [.int (R_add z gg r n (xs (4 * j + 1)) (xs (4 * j + 2)) (xs (4 * j + 3))).1]) (As := [.int (xs (4 * j + 1)), .int (xs (4 * j + 2)), .int (xs (4 * j + 3))]) ⟨hx, hb, hml, hown, hts⟩ (k_X8_add (kind := xs (4 * j + 1)) (set := xs (4 * j + 2)) (cast := xs (4 * j + 3)) (n := n) (hz1 := hz1) (hn5 := hn5)) cw_L_60 ⟨(Nat.le_of_ble_eq_true rfl), (Nat.le_of_ble_eq_true rfl)⟩ hE hC hPb hS rfl rfl hl.1 rfl (Nat.le_of_ble_eq_true rfl) dL_law_401 hcs (fun H locs hC hPb hS => ?_)
  refine lv_icmp_eq (pc := 404) (tgt := 729) hx hb dL_law_404 (by decide) (fun _ => ?_) (fun q9 => absurd rfl q9)
  exact kk _ _ ⟨_, _, _, hPb, hC⟩ hS

set_option maxRecDepth 100000 in
set_option maxHeartbeats 4000000 in
theorem law_rights {l : Launch} {D : va_G} {kB kI kT : ClassId} {ks sk sv : Nat} {p : Program} {e : Env} {s : State} {m : MethodId} {below : List Frame} {meth : Method} {c : Code} {H : Heap} {locs : List Loc} {cells slots : Nat} {Q : State → Prop} {bs L : Nat} {xs : Nat → Int32} {A : Nat → Prop} {b x y pa : Nat → Nat} {o : Nat} {a : Nat → Nat} {j : Nat} {ls : Array Slot}
    (C : LC p s m c D kB kI kT ks sk sv bs L xs A) (hj : 4 * j + 3 < L) (hcs : cells + 0 ≤ room_1.cells ∧ slots + 0 ≤ room_1.slots) (hl : lv_has ls 4 [(0, .ref bs), (1, .ref (b 30)), (2, .ref o), (3, .int (nI (4 * j)))]) (h : LI D kB kI kT b x y pa o a A j H) (hS : va_S A s.heap H locs)
    (kk : ∀ (H1 : Heap) (locs1 : List Loc), LI D kB kI kT b x y pa o a A (j + 1) H1 → va_S A s.heap H1 locs1 → W p l e room_1 s m #[Value.ref bs] below meth c H1 locs1 cells slots Q (F0 m 729 ls [])) : W p l e room_1 s m #[Value.ref bs] below meth c H locs cells slots Q (F0 m 409 ls []) := by
  obtain ⟨hx, hb, hml, hown, hts, hE, hX, hbl, hbA, hL⟩ := C
  obtain ⟨z, gg, r, hPb, n, sn, pn, h9, bt, g, cd, so, sq, q, c1, v, c2, v2, d, u, hPa, hd, hI⟩ := h
  obtain ⟨hz1, hn5, hok, hz10, hsn, hz14, hpn, hpg⟩ := inv_ref hI
  refine lv_aload_n (pc := 409) hx hb dL_law_409 rfl (lv_at hl 1 rfl) ?_
  refine lv_aload_n (pc := 410) hx hb dL_law_410 rfl (lv_at hl 0 rfl) ?_
  refine lv_iload_n (pc := 411) hx hb dL_law_411 rfl (lv_at hl 3 rfl) ?_
  refine lv_iconst (pc := 412) (v := 1) hx hb dL_law_412 (by decide) ?_
  refine iaddV (pc := 413) (v := nI (4 * j + 1)) hx hb dL_law_413 (nI_add (4 * j) 1) ?_
  refine sldN (pc := 414) (j := 4 * j + 1) hx hb hX hbl hbA hS (by omega) hL dL_law_414 ?_
  refine lv_aload_n (pc := 415) hx hb dL_law_415 rfl (lv_at hl 0 rfl) ?_
  refine lv_iload_n (pc := 416) hx hb dL_law_416 rfl (lv_at hl 3 rfl) ?_
  refine lv_iconst (pc := 417) (v := 2) hx hb dL_law_417 (by decide) ?_
  refine iaddV (pc := 418) (v := nI (4 * j + 2)) hx hb dL_law_418 (nI_add (4 * j) 2) ?_
  refine sldN (pc := 419) (j := 4 * j + 2) hx hb hX hbl hbA hS (by omega) hL dL_law_419 ?_
  refine lv_aload_n (pc := 420) hx hb dL_law_420 rfl (lv_at hl 0 rfl) ?_
  refine lv_iload_n (pc := 421) hx hb dL_law_421 rfl (lv_at hl 3 rfl) ?_
  refine lv_iconst (pc := 422) (v := 3) hx hb dL_law_422 (by decide) ?_
  refine iaddV (pc := 423) (v := nI (4 * j + 3)) hx hb dL_law_423 (nI_add (4 * j) 3) ?_
  refine sldN (pc := 424) (j := 4 * j + 3) hx hb hX hbl hbA hS (by omega) hL dL_law_424 ?_
  refine lA (pc := 425) (rest := []) (As := [.int (xs (4 * j + 1)), .int (xs (4 * j + 2)), .int (xs (4 * j + 3))]) (RF := R_rights z gg r (xs (4 * j + 1)) (xs (4 * j + 2)) (xs (4 * j + 3))) ⟨hx, hb, hml, hown, hts⟩ (k_X7_rights_s (t := xs (4 * j + 1)) (fi := xs (4 * j + 2)) (la := xs (4 * j + 3)) hI (by omega)) cw_L_61 ⟨(Nat.le_of_ble_eq_true rfl), (Nat.le_of_ble_eq_true rfl)⟩ hE hPa hPb hd hS rfl rfl hl.1 rfl (Nat.le_of_ble_eq_true rfl) dL_law_425 hcs (fun H locs hC hPb hS => ?_)
  refine W.eq (g2 := F0 m 428 ls [.int (R_rights z gg r (xs (4 * j + 1)) (xs (4 * j + 2)) (xs (4 * j + 3))).1]) rfl ?_
  refine lv_aload_n (pc := 428) hx hb dL_law_428 rfl (lv_at hl 2 rfl) ?_
  refine lv_aload_n (pc := 429) hx hb dL_law_429 rfl (lv_at hl 0 rfl) ?_
  refine lv_iload_n (pc := 430) hx hb dL_law_430 rfl (lv_at hl 3 rfl) ?_
  refine lv_iconst (pc := 431) (v := 1) hx hb dL_law_431 (by decide) ?_
  refine iaddV (pc := 432) (v := nI (4 * j + 1)) hx hb dL_law_432 (nI_add (4 * j) 1) ?_
  refine sldN (pc := 433) (j := 4 * j + 1) hx hb hX hbl hbA hS (by omega) hL dL_law_433 ?_
  refine lv_aload_n (pc := 434) hx hb dL_law_434 rfl (lv_at hl 0 rfl) ?_
  refine lv_iload_n (pc := 435) hx hb dL_law_435 rfl (lv_at hl 3 rfl) ?_
  refine lv_iconst (pc := 436) (v := 2) hx hb dL_law_436 (by decide) ?_
  refine iaddV (pc := 437) (v := nI (4 * j + 2)) hx hb dL_law_437 (nI_add (4 * j) 2) ?_
  refine sldN (pc := 438) (j := 4 * j + 2) hx hb hX hbl hbA hS (by omega) hL dL_law_438 ?_
  refine lv_aload_n (pc := 439) hx hb dL_law_439 rfl (lv_at hl 0 rfl) ?_
  refine lv_iload_n (pc := 440) hx hb dL_law_440 rfl (lv_at hl 3 rfl) ?_
  refine lv_iconst (pc := 441) (v := 3) hx hb dL_law_441 (by decide) ?_
  refine iaddV (pc := 442) (v := nI (4 * j + 3)) hx hb dL_law_442 (nI_add (4 * j) 3) ?_
  refine sldN (pc := 443) (j := 4 * j + 3) hx hb hX hbl hbA hS (by omega) hL dL_law_443 ?_
  refine lB (pc := 444) (rest := [.int (R_rights z gg r (xs (4 * j + 1)) (xs (4 * j + 2)) (xs (4 * j + 3))).1]) (As := [.int (xs (4 * j + 1)), .int (xs (4 * j + 2)), .int (xs (4 * j + 3))]) ⟨hx, hb, hml, hown, hts⟩ (k_X8_rights (t := xs (4 * j + 1)) (fi := xs (4 * j + 2)) (la := xs (4 * j + 3)) (n := n) (hok := hok) (hn5 := hn5) (hz1 := hz1)) cw_L_64 ⟨(Nat.le_of_ble_eq_true rfl), (Nat.le_of_ble_eq_true rfl)⟩ hE hC hPb hS rfl rfl hl.1 rfl (Nat.le_of_ble_eq_true rfl) dL_law_444 hcs (fun H locs hC hPb hS => ?_)
  refine lv_icmp_eq (pc := 447) (tgt := 729) hx hb dL_law_447 (by decide) (fun _ => ?_) (fun q9 => absurd rfl q9)
  exact kk _ _ ⟨_, _, _, hPb, hC⟩ hS
