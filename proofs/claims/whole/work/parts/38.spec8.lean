theorem cntP_or {p q : Nat → Prop} [DecidablePred p] [DecidablePred q] : ∀ {k : Nat}, (∀ j, j < k → ¬ (p j ∧ q j)) → cntP (fun j => p j ∨ q j) k = cntP p k + cntP q k
  | 0, _ => rfl
  | k + 1, h => by
    have ih := cntP_or (p := p) (q := q) (k := k) (fun j hj => h j (by omega))
    have hk := h k (by omega)
    show cntP (fun j => p j ∨ q j) k + (if p k ∨ q k then 1 else 0) = (cntP p k + (if p k then 1 else 0)) + (cntP q k + (if q k then 1 else 0))
    rw [ih]
    by_cases h1 : p k
    · have h2 : ¬ q k := fun q2 => hk ⟨h1, q2⟩
      rw [if_pos (Or.inl h1), if_pos h1, if_neg h2]; omega
    · by_cases h2 : q k
      · rw [if_pos (Or.inr h2), if_neg h1, if_pos h2]; omega
      · rw [if_neg (fun q2 => q2.elim h1 h2), if_neg h1, if_neg h2]; omega
theorem cntP_not {p : Nat → Prop} [DecidablePred p] : ∀ {k : Nat}, cntP p k + cntP (fun j => ¬ p j) k = k
  | 0 => rfl
  | k + 1 => by
    have ih := cntP_not (p := p) (k := k)
    show (cntP p k + (if p k then 1 else 0)) + (cntP (fun j => ¬ p j) k + (if ¬ p k then 1 else 0)) = k + 1
    by_cases h : p k
    · rw [if_pos h, if_neg (fun q => q h)]; omega
    · rw [if_neg h, if_pos h]; omega
theorem lost_eq {r : Nat → Nat → Int32} : lostS r = nI (cntP (fun j => r 8 j = -1 ∨ 0 < rBk r j) 12) := by
  have h1 : cntP (fun j => r 8 j = -1 ∨ 0 < rBk r j) 12 = cntP (fun j => r 8 j = -1) 12 + cntP (fun j => 0 < rBk r j) 12 :=
    cntP_or (fun j hj q => by
      have h2 := q.2
      rw [show rBk r j = 0 from brk_dark q.1] at h2
      exact absurd h2 (by decide))
  have h2 : cntP (fun j => r 8 j = -1) 12 + nOn (r 8) 12 = 12 := cntP_not
  rw [h1, lostS, brkN, ← nI_add]
  have h3 : (12 - nI (nOn (r 8) 12) : Int32) = nI (cntP (fun j => r 8 j = -1) 12) := by
    rw [show cntP (fun j => r 8 j = -1) 12 = 12 - nOn (r 8) 12 by omega]
    exact pk_sub (a := 12) (b := nOn (r 8) 12) (by omega)
  rw [h3]
theorem way_at {c : Nat → Nat → Int32} {so D0 pl : Nat → Int32} {nn dk w : Nat} (h : pl = fbR so nn dk D0 w) : wayR (va_up (va_up c 8 D0) 21 so) nn dk w = va_up (va_up (va_up c 8 D0) 21 so) 8 pl := by
  rw [h]
  exact congrArg (va_up (va_up (va_up c 8 D0) 21 so) 8) (by rw [show (va_up (va_up c 8 D0) 21 so) 21 = so from rfl, show (va_up (va_up c 8 D0) 21 so) 8 = D0 from rfl])
theorem lost_at0 {r c : Nat → Nat → Int32} {pl : Nat → Int32} (h2 : r 2 = c 2) (h3 : r 3 = c 3) (h4 : r 4 = c 4) (h5 : r 5 = c 5) (h6 : r 6 = c 6) (h8 : r 8 = pl) : nI (cntP (fun j => pl j = -1 ∨ 0 < brk (c 2) (c 3) (c 4) (c 5) (c 6) pl j) 12) = lostS r := by
  rw [lost_eq]; unfold rBk; rw [h2, h3, h4, h5, h6, h8]
theorem ern_at0 {r c : Nat → Nat → Int32} {pl : Nat → Int32} (h2 : r 2 = c 2) (h3 : r 3 = c 3) (h4 : r 4 = c 4) (h5 : r 5 = c 5) (h6 : r 6 = c 6) (h7 : r 7 = c 7) (h8 : r 8 = pl) : sumI (fun j => if brk (c 2) (c 3) (c 4) (c 5) (c 6) pl j = 0 then sts (c 2) (c 7) pl j else 0) 12 = ernS r := by
  unfold ernS rBk rSt; rw [h2, h3, h4, h5, h6, h7, h8]
theorem lost_at {c : Nat → Nat → Int32} {so D0 pl : Nat → Int32} {nn dk w : Nat} (h : pl = fbR so nn dk D0 w) : nI (cntP (fun j => pl j = -1 ∨ 0 < brk (c 2) (c 3) (c 4) (c 5) (c 6) pl j) 12) = wLost (va_up (va_up c 8 D0) 21 so) nn dk w := by
  unfold wLost; rw [way_at h]; exact lost_at0 rfl rfl rfl rfl rfl rfl
theorem ern_at {c : Nat → Nat → Int32} {so D0 pl : Nat → Int32} {nn dk w : Nat} (h : pl = fbR so nn dk D0 w) : sumI (fun j => if brk (c 2) (c 3) (c 4) (c 5) (c 6) pl j = 0 then sts (c 2) (c 7) pl j else 0) 12 = wErn (va_up (va_up c 8 D0) 21 so) nn dk w := by
  unfold wErn; rw [way_at h]; exact ern_at0 rfl rfl rfl rfl rfl rfl rfl
