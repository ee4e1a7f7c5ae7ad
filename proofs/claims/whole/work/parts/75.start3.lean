set_option maxRecDepth 100000 in
set_option maxHeartbeats 4000000 in
theorem whole_start {p : Program} {e : Env} {s : State} {m : MethodId} {below : List Frame} {meth : Method} {c : Code} (l : Launch) (hflags : l.flags = flags0) {b L : Nat} {xs : Nat → Int32} (hL : L ≤ 2048) (C0 : lw_At p s m meth c b L xs) : W p l e room_1 s m #[Value.ref b] below meth c s.heap [] 0 0 (lw_Z below #[Value.ref b] s) (entryFrame m ([Value.ref b] : List Value).toArray 4) := by
  obtain ⟨hx, hb, hr, hml, hown, hts0, hX, hbl, hlocks, hgv⟩ := id C0
  have hts : ∀ w ∈ GG, w.before #[Value.ref b] s = true := fun w h => hts0 w (GG_tbl h)
  have hb : c.code = cL_law := hb
  have hown : s.vm.findClass RL = some m.cls := hown
  have hA : ∀ q : Nat, s.heap.size ≤ q → (fun q : Nat => s.heap.size ≤ q) q := fun _ h => h
  have hbA : ¬ (fun q : Nat => s.heap.size ≤ q) b := Nat.not_le.mpr hbl
  obtain ⟨D, kB, kI, kT, ks, sk, sv, hE⟩ := en_start (A := fun q : Nat => s.heap.size ≤ q) hts0 hgv (fun a h => Nat.not_le.mpr h)
  have hAO : va_AO "PlaySeason$Title" s := va_AO.of (hts0 _ (List.mem_append_right _ (List.mem_of_getElem? (i := 59) (by decide +kernel))))
  have hS : va_S (fun q : Nat => s.heap.size ≤ q) s.heap s.heap [] := va_S.rf
  have hP : va_P D vwCl [] s.heap := fun k q h => by simp at h
  have hD : va_D (fun q : Nat => s.heap.size ≤ q) [] := ⟨fun i j p q h => by simp at h, fun k q h => by simp at h⟩
  have hl := lv_entry ([.ref b]) (n := 4) (Nat.le_of_ble_eq_true rfl)
  rw [lg_entry_eq]
  generalize (lg_sl ([.ref b]) ++ List.replicate (4 - (lg_sl ([.ref b])).length) Slot.unset).toArray = ls at hl ⊢
  have hl : lv_has ls 4 [(0, .ref b)] := hl
  have CC : LC p s m c D kB kI kT ks sk sv b L xs (fun q : Nat => s.heap.size ≤ q) := ⟨hx, hb, hml, hown, hts, hE, hX, hbl, hbA, hL⟩
  generalize hAe : (fun q : Nat => s.heap.size ≤ q) = A at hA hbA hE hS hD CC
  have hAr : ∀ q, A q → s.heap.size ≤ q := fun q h => by rw [← hAe] at h; exact h
  refine newC (pc := 0) hx hb hts hown nw_L_7 hE hP hD hS hA (Nat.le_of_ble_eq_true rfl) (Nat.le_of_ble_eq_true rfl) dL_law_0 (fun q1 H hP hD hS => ?_)
  have hP : va_P D vwCl [(q1, .inr (7, [.null, .null, .null, .null, .null, .int 0, .int 0, .int 0]))] H := hP
  have hD : va_D A [(q1, .inr (7, [.null, .null, .null, .null, .null, .int 0, .int 0, .int 0]))] := hD
  refine W.widen (k := 1) (n := 8) (Nat.le_of_ble_eq_true rfl) (Nat.le_of_ble_eq_true rfl) ?_
  refine lv_dup (pc := 3) hx hb dL_law_3 rfl ?_
  refine cI (pc := 4) (As := []) (rest := [.ref q1]) (wr := []) ⟨hx, hb, hml, hown, hts⟩ (k_X7_init (o := q1)) ci_L_9 ⟨(Nat.le_of_ble_eq_true rfl), (Nat.le_of_ble_eq_true rfl)⟩ hE hAO hP hD hS hA [0] [] rfl rfl rfl rfl (by decide) rfl hl.1 rfl (Nat.le_of_ble_eq_true rfl) dL_law_4 ⟨(Nat.le_of_ble_eq_true rfl), (Nat.le_of_ble_eq_true rfl)⟩ (fun w1 H locs hpost hP hD hS => ?_)
  obtain ⟨b0, x, y, pa, hq1, rfl⟩ := hpost
  have hP : va_P D vwCl (wC kI kT b0 (fun _ => 0) (fun _ => 0) (fun _ => 0) (fun _ => 0) (fun _ => 0) x (va_up (fun _ _ => 0) 8 (ovN (fun _ => 0) (fun _ => -1) 12)) (va_up (fun _ => 0) 58 12) y (va_up (fun _ _ => 0) 8 (ovN (fun _ => 0) (fun _ => -1) 12)) (va_up (fun _ => 0) 58 12) pa (va_up (fun _ _ => 0) 8 (ovN (fun _ => 0) (fun _ => -1) 12)) (va_up (fun _ => 0) 58 12)) H := hP
  have hD : va_D A (wC kI kT b0 (fun _ => 0) (fun _ => 0) (fun _ => 0) (fun _ => 0) (fun _ => 0) x (va_up (fun _ _ => 0) 8 (ovN (fun _ => 0) (fun _ => -1) 12)) (va_up (fun _ => 0) 58 12) y (va_up (fun _ _ => 0) 8 (ovN (fun _ => 0) (fun _ => -1) 12)) (va_up (fun _ => 0) 58 12) pa (va_up (fun _ _ => 0) 8 (ovN (fun _ => 0) (fun _ => -1) 12)) (va_up (fun _ => 0) 58 12)) := hD
  refine W.widen (k := 49) (n := 366) (Nat.le_of_ble_eq_true rfl) (Nat.le_of_ble_eq_true rfl) ?_
  refine lv_astore_n (pc := 7) (lv' := [(1, .ref q1), (0, .ref b)]) hx hb dL_law_7 rfl hl (by decide) rfl (fun ls hl => ?_)
  refine newC (pc := 8) hx hb hts hown nw_L_10 hE hP hD hS hA (Nat.le_of_ble_eq_true rfl) (Nat.le_of_ble_eq_true rfl) dL_law_8 (fun o H hP hD hS => ?_)
  refine W.widen (k := 50) (n := 408) (Nat.le_of_ble_eq_true rfl) (Nat.le_of_ble_eq_true rfl) ?_
  refine lv_dup (pc := 11) hx hb dL_law_11 rfl ?_
  refine cI (pc := 12) (As := []) (rest := [.ref o]) (wr := wC kI kT b0 (fun _ => 0) (fun _ => 0) (fun _ => 0) (fun _ => 0) (fun _ => 0) x (va_up (fun _ _ => 0) 8 (ovN (fun _ => 0) (fun _ => -1) 12)) (va_up (fun _ => 0) 58 12) y (va_up (fun _ _ => 0) 8 (ovN (fun _ => 0) (fun _ => -1) 12)) (va_up (fun _ => 0) 58 12) pa (va_up (fun _ _ => 0) 8 (ovN (fun _ => 0) (fun _ => -1) 12)) (va_up (fun _ => 0) 58 12)) ⟨hx, hb, hml, hown, hts⟩ (k_X8_init (o := o)) ci_L_12 ⟨(Nat.le_of_ble_eq_true rfl), (Nat.le_of_ble_eq_true rfl)⟩ hE hAO hP hD hS hA [49] [0, 1, 2, 3, 4, 5, 6, 7, 8, 9, 10, 11, 12, 13, 14, 15, 16, 17, 18, 19, 20, 21, 22, 23, 24, 25, 26, 27, 28, 29, 30, 31, 32, 33, 34, 35, 36, 37, 38, 39, 40, 41, 42, 43, 44, 45, 46, 47, 48] rfl rfl rfl rfl (by decide) rfl hl.1 rfl (Nat.le_of_ble_eq_true rfl) dL_law_12 ⟨(Nat.le_of_ble_eq_true rfl), (Nat.le_of_ble_eq_true rfl)⟩ (fun w1 H locs hpost hP hD hS => ?_)
  obtain ⟨a, rfl⟩ := hpost
  obtain ⟨hPa, hPb⟩ := P_app hP
  have hd := D_app hD
  refine W.widen (k := 74) (n := 614) (Nat.le_of_ble_eq_true rfl) (Nat.le_of_ble_eq_true rfl) ?_
  refine lv_astore_n (pc := 15) (lv' := [(2, .ref o), (1, .ref q1), (0, .ref b)]) hx hb dL_law_15 rfl hl (by decide) rfl (fun ls hl => ?_)
  refine lv_iconst (pc := 16) (v := 0) hx hb dL_law_16 (by decide) ?_
  refine lv_istore_n (pc := 17) (lv' := [(3, .int 0), (2, .ref o), (1, .ref q1), (0, .ref b)]) hx hb dL_law_17 rfl hl (by decide) rfl (fun ls hl => ?_)
  rw [← hq1] at hl
  exact law_loop CC hr hlocks hAr ⟨(Nat.le_of_ble_eq_true rfl), (Nat.le_of_ble_eq_true rfl)⟩ (Nat.le_of_ble_eq_true rfl) (Nat.le_of_ble_eq_true rfl) (L - 4 * 0 + 1) 0 (by omega) (by omega) H locs ls (lv_sub hl [3, 2, 1, 0] rfl) ⟨_, _, _, hPb, 0, 0, 0, 0, 0, _, _, _, _, _, _, _, _, _, _, _, hPa, hd, inv_0⟩ hS
