/-! where the law begins -/
theorem P_app {D : va_G} {wa wb : va_W} {H : Heap} (h : va_P D vwCl (wa ++ wb) H) : va_P D vwCl wa H ∧ va_P D vwCl wb H := by
  refine ⟨fun k q hk => h k q ?_, fun k q hk => h (wa.length + k) q ?_⟩
  · rw [List.getElem?_append_left (List.getElem?_eq_some_iff.mp hk).1]; exact hk
  · rw [List.getElem?_append_right (Nat.le_add_right _ _), Nat.add_sub_cancel_left]; exact hk
theorem D_app {A : Nat → Prop} {wa wb : va_W} (h : va_D A (wa ++ wb)) : DD A wa wb := by
  have l1 : ∀ (k : Nat) (q : Nat × va_E), wa[k]? = some q → (wa ++ wb)[k]? = some q := fun k q hk => by
    rw [List.getElem?_append_left (List.getElem?_eq_some_iff.mp hk).1]; exact hk
  have l2 : ∀ (k : Nat) (q : Nat × va_E), wb[k]? = some q → (wa ++ wb)[wa.length + k]? = some q := fun k q hk => by
    rw [List.getElem?_append_right (Nat.le_add_right _ _), Nat.add_sub_cancel_left]; exact hk
  refine ⟨⟨fun i j x y hx hy e => h.1 i j x y (l1 i x hx) (l1 j y hy) e, fun k q hk => h.2 k q (l1 k q hk)⟩, ⟨fun i j x y hx hy e => ?_, fun k q hk => h.2 _ q (l2 k q hk)⟩, fun q h1 h2 => ?_⟩
  · have := h.1 _ _ x y (l2 i x hx) (l2 j y hy) e
    omega
  · obtain ⟨i, e1, hi⟩ := h1
    obtain ⟨j, e2, hj⟩ := h2
    have h3 := h.1 _ _ _ _ (l1 i _ hi) (l2 j _ hj) rfl
    have h4 := (List.getElem?_eq_some_iff.mp hi).1
    omega
theorem inv_0 : Inv 0 0 0 0 0 0 (fun _ => 0) (fun _ => 0) (va_up (fun _ _ => 0) 8 (ovN (fun _ => 0) (fun _ => -1) 12)) (va_up (fun _ => 0) 58 12) (va_up (fun _ _ => 0) 8 (ovN (fun _ => 0) (fun _ => -1) 12)) (va_up (fun _ => 0) 58 12) (fun _ => 0) (va_up (fun _ _ => 0) 8 (darkF (fun _ => 0) 12)) :=
  ⟨⟨rfl, rfl, by omega, rfl, rfl, rfl, rfl, rfl, rfl, rfl, okP_dark, fun k hk => absurd hk (Nat.not_lt_zero k), fun k hk => absurd hk (Nat.not_lt_zero k)⟩,
   ⟨by decide +kernel, by decide +kernel, by decide +kernel, by decide +kernel, by decide +kernel, by decide +kernel, by decide +kernel⟩,
   ⟨rfl, rfl, by omega, fun k hk => absurd hk (Nat.not_lt_zero k)⟩, ⟨rfl, rfl, by omega, fun k hk => absurd hk (Nat.not_lt_zero k)⟩, ⟨rfl, rfl, by omega, by omega, rfl, rfl, by omega⟩, Or.inl ⟨rfl, Or.inl rfl⟩⟩
theorem ak_int {A : Array Value} {s : State} (h : (Cond.arrayClass .int).before A s = true) : ∃ k : ClassId, ArrOfT s k .int ∧ va_RA s k .int := by
  obtain ⟨c, k, comp, h1, h2, h3⟩ := Cond.arrayClass_spec h
  exact ⟨c, fun n z => ⟨fun k h => (by cases h), k, h2, comp, h3⟩, h1⟩
theorem ak_byte {A : Array Value} {s : State} (h : (Cond.arrayClass .byte).before A s = true) : ∃ k : ClassId, ArrOfT s k .byte ∧ va_RA s k .byte := by
  obtain ⟨c, k, comp, h1, h2, h3⟩ := Cond.arrayClass_spec h
  exact ⟨c, fun n z => ⟨fun k h => (by cases h), k, h2, comp, h3⟩, h1⟩
theorem ak_T {A : Array Value} {s : State} (h : (Cond.arrayOver (.object "PlaySeason$Title")).before A s = true) : ∃ k : ClassId, ArrOfT s k (.object "PlaySeason$Title") ∧ va_RA s k (.object "PlaySeason$Title") := by
  obtain ⟨comp, c, k, h1, h2, h3, h4, h5⟩ := Cond.arrayOver_spec h
  exact ⟨c, fun n z => ⟨fun k h => (by cases h), k, h3, comp, h4⟩, k, comp, h3, h4, h1, h5⟩
set_option maxRecDepth 100000 in
set_option maxHeartbeats 4000000 in
theorem st_start {bs : Nat} {s : State} {A : Nat → Prop} (hts : ∀ w ∈ lw_tbl, w.before #[Value.ref bs] s = true) (hgv : (Jvm.Cond.and given_1 narrow_1).before #[Value.ref bs] s = true) (hA : ∀ a : Nat, a < s.heap.size → ¬ A a) : ∃ ks sk sv : Nat, ST ks sk sv A s s.heap := by
  have hs := flat_of_before _ hgv
  have tb : ∀ (k : Nat) (w : Cond), tables_1[k]? = some w → w.before #[Value.ref bs] s = true := fun k w h => hts w (List.mem_append_right _ (List.mem_of_getElem? h))
  obtain ⟨ks, hks, hT⟩ := va_Tof (tm := .static "PlaySeason" "KINDS_IF_SO" "[I") (ty := .int) (N := 4) (f := fun j => .int (kso j)) (A := A) (by omega) (hs _ (by decide +kernel)) (va_eqt (hs _ (by decide +kernel))) (fun j hj => va_eqt (by
    match j, hj with
    | 0, _ => exact hs _ (by decide +kernel)
    | 1, _ => exact hs _ (by decide +kernel)
    | 2, _ => exact hs _ (by decide +kernel)
    | 3, _ => exact hs _ (by decide +kernel))) hA
  have hZ1 := va_Zof (tb 487 _ (by decide +kernel)) (tb 1 _ (by decide +kernel)) hks hA
  have hZ2 : va_Z "java/lang/String" "COMPACT_STRINGS" "Z" (.int 1) A s s.heap := va_Zof (tb 288 _ (by decide +kernel)) (tb 11 _ (by decide +kernel)) (va_eqt (hs _ (by decide +kernel))) hA
  obtain ⟨adK, adV, hSt, hev⟩ := vk_Sof (N := 1) (tm := fun _ => .string "PlaySeason$Page" 31) (len := [5]) (byt := [[116, 103, 102, 114, 100]]) (A := A)
    (fun i hi => by
      obtain rfl : i = 0 := by omega
      decide)
    (fun i hi => hs _ (by decide +kernel)) (fun i hi => hs _ (by decide +kernel)) (fun i hi => hs _ (by decide +kernel))
    (fun i hi => by
      obtain rfl : i = 0 := by omega
      exact hs _ (by decide +kernel))
    (fun i hi j hj => by
      obtain rfl : i = 0 := by omega
      match j, hj with
      | 0, _ => exact hs _ (by decide +kernel)
      | 1, _ => exact hs _ (by decide +kernel)
      | 2, _ => exact hs _ (by decide +kernel)
      | 3, _ => exact hs _ (by decide +kernel)
      | 4, _ => exact hs _ (by decide +kernel)) (fun i j hi hj h => absurd (show i = j by omega) h) hA
  have h1 : (Term.string "PlaySeason$Page" 31).eval #[Value.ref bs] s none [] s = some (.ref (adK 0)) := hev 0 (by omega)
  have h2 : (Term.string "PlaySeason$Title" 32).eval #[Value.ref bs] s none [] s = some (.ref (adK 0)) := by
    obtain ⟨a, c, cA, kA, q1, -⟩ := Cond.exactly_spec (args := #[Value.ref bs]) (first := s) (o := none) (s := s) (idx := []) (t := .string "PlaySeason$Title" 32) (cls := "java/lang/String") (hs _ (by decide +kernel))
    have h3 : (Cond.eq (.string "PlaySeason$Page" 31) (.string "PlaySeason$Title" 32)).before #[Value.ref bs] s = true := hs _ (by decide +kernel)
    rw [q1]
    simp only [Cond.before, Cond.holds, Cond.value, h1, q1] at h3
    simp at h3
    rw [h3]
  exact ⟨ks, adK 0, adV 0, hZ1, hT, hZ2, vk_R.of (tb 274 _ (by decide +kernel)) h1, vk_R.of (tb 384 _ (by decide +kernel)) h2, fun i hi => by
    obtain rfl : i = 0 := by omega
    exact hSt.1 0 hi, fun i j hi hj _ => by omega⟩
