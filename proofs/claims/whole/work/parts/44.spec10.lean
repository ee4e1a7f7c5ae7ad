/-! the page read by the reference, against the component's first fault -/
section
variable {pg : Nat → Int32} {t : Nat}
theorem fit_0 (ht : t < 5) : fitB pg (7 * t) = decide (¬ kindBy (pg (7 * t)) < 0) := by
  unfold fitB
  rw [if_neg (fun q => q (by omega)), show 7 * t % 7 = 0 by omega, if_pos (by decide)]
theorem fit_1 (ht : t < 5) : fitB pg (7 * t + 1) = decide (inR (pg (7 * t + 1)) 48 52) := by
  unfold fitB
  rw [if_neg (fun q => q (by omega)), show (7 * t + 1) % 7 = 1 by omega, if_neg (by decide), if_pos (by decide)]
theorem fit_2 (ht : t < 5) : fitB pg (7 * t + 2) = decide (inR (pg (7 * t + 2)) 48 52) := by
  unfold fitB
  rw [if_neg (fun q => q (by omega)), show (7 * t + 2) % 7 = 2 by omega, if_neg (by decide), if_neg (by decide), if_pos (by decide)]
theorem fit_3 (ht : t < 5) : fitB pg (7 * t + 3) = decide (inR (pg (7 * t + 3)) 97 108) := by
  unfold fitB
  rw [if_neg (fun q => q (by omega)), show (7 * t + 3) % 7 = 3 by omega, if_neg (by decide), if_neg (by decide), if_neg (by decide), if_pos (by decide)]
theorem fit_4 (ht : t < 5) : fitB pg (7 * t + 4) = decide (inR (pg (7 * t + 4)) (pg (7 * t + 3)) 108) := by
  unfold fitB
  rw [if_neg (fun q => q (by omega)), show (7 * t + 4) % 7 = 4 by omega, if_neg (by decide), if_neg (by decide), if_neg (by decide), if_neg (by decide), if_pos (by decide)]
  rfl
theorem fit_5 (ht : t < 5) : fitB pg (7 * t + 5) = decide (inR (pg (7 * t + 5)) 49 57) := by
  unfold fitB
  rw [if_neg (fun q => q (by omega)), show (7 * t + 5) % 7 = 5 by omega, if_neg (by decide), if_neg (by decide), if_neg (by decide), if_neg (by decide), if_neg (by decide), if_pos (by decide)]
theorem fit_6 (ht : t < 4) : fitB pg (7 * t + 6) = decide (pg (7 * t + 6) = 44) := by
  unfold fitB
  rw [if_neg (fun q => q (by omega)), show (7 * t + 6) % 7 = 6 by omega, if_neg (by decide), if_neg (by decide), if_neg (by decide), if_neg (by decide), if_neg (by decide), if_neg (by decide)]
theorem kind_neg (c : Int32) : kindBy c = -1 ↔ kindBy c < 0 := by
  unfold kindBy
  repeat' split
  all_goals decide
end
abbrev okA (pg : Nat → Int32) (pn k : Nat) : Prop := k < pn ∧ fitB pg k = true
theorem at_in {pg : Nat → Int32} {pn k : Nat} (h : k < pn) : atP pg pn k = pg k := if_pos h
theorem at_out {pg : Nat → Int32} {pn k : Nat} (h : ¬ k < pn) : atP pg pn k = 0 := if_neg h
theorem rdS_out {pg : Nat → Int32} {pn k nt : Nat} {td : Nat → Int32} {i : Nat} (hi : i < 6 * nt) : ∀ u, rdS pg pn k nt td u i = td i
  | 0 => pk_un (by omega)
  | u + 1 => by rw [rdS, pk_un (by omega), rdS_out hi u]
def rdVal (pg : Nat → Int32) (q e : Nat) : Int32 := if e = 0 then kindBy (pg (7 * q)) else rdV e (pg (7 * q + e))
theorem rdS_at {pg : Nat → Int32} {pn nt : Nat} {td : Nat → Int32} {e : Nat} (hin : 7 * nt + e < pn) : ∀ u, e ≤ u → rdS pg pn (7 * nt) nt td u (6 * nt + e) = rdVal pg nt e
  | 0, h => by
    have e0 : e = 0 := by omega
    subst e0
    rw [rdS, Nat.add_zero, pk_us, at_in (by omega)]; rfl
  | u + 1, h => by
    by_cases q : e = u + 1
    · subst q
      rw [rdS, pk_us, at_in hin]
      unfold rdVal
      rw [if_neg (by omega)]
    · rw [rdS, pk_un (by omega), rdS_at hin u (by omega)]
theorem ok_k {pg : Nat → Int32} {pn t : Nat} (ht : t < 5) : ¬ kindBy (atP pg pn (7 * t)) = -1 ↔ okA pg pn (7 * t) := by
  unfold okA
  rw [fit_0 ht]
  by_cases h : 7 * t < pn
  · rw [at_in h]
    constructor
    · exact fun q => ⟨h, decide_eq_true (fun z => q ((kind_neg _).mpr z))⟩
    · exact fun q z => of_decide_eq_true q.2 ((kind_neg _).mp z)
  · rw [at_out h]
    exact ⟨fun q => absurd (by decide) q, fun q => absurd q.1 h⟩
theorem ok_in {pg : Nat → Int32} {pn k : Nat} {lo hi : Int32} (hl : ¬ inR 0 lo hi) (hf : fitB pg k = decide (inR (pg k) lo hi)) : inR (atP pg pn k) lo hi ↔ okA pg pn k := by
  unfold okA
  rw [hf]
  by_cases h : k < pn
  · rw [at_in h]
    exact ⟨fun q => ⟨h, decide_eq_true q⟩, fun q => of_decide_eq_true q.2⟩
  · rw [at_out h]
    exact ⟨fun q => absurd q hl, fun q => absurd q.1 h⟩
section
variable {pg : Nat → Int32} {pn t : Nat} {td : Nat → Int32}
theorem ok_1 (ht : t < 5) : rdOk pg pn (7 * t) t td 0 ↔ okA pg pn (7 * t + 1) := ok_in (lo := 48) (hi := 52) (by decide) (fit_1 ht)
theorem ok_2 (ht : t < 5) : rdOk pg pn (7 * t) t td 1 ↔ okA pg pn (7 * t + 2) := ok_in (lo := 48) (hi := 52) (by decide) (fit_2 ht)
theorem ok_3 (ht : t < 5) : rdOk pg pn (7 * t) t td 2 ↔ okA pg pn (7 * t + 3) := ok_in (lo := 97) (hi := 108) (by decide) (fit_3 ht)
theorem ok_4 (ht : t < 5) (h3 : okA pg pn (7 * t + 3)) : rdOk pg pn (7 * t) t td 3 ↔ okA pg pn (7 * t + 4) := by
  have h4 : inR (pg (7 * t + 3)) 97 108 := by
    have := h3.2
    rw [fit_3 ht] at this
    exact of_decide_eq_true this
  have e : leastP (rdS pg pn (7 * t) t td 3) t (nI (3 + 1)) = pg (7 * t + 3) := by
    show 97 + rdS pg pn (7 * t) t td 3 (6 * t + 3) = _
    rw [rdS_at h3.1 3 (by omega)]
    show 97 + (pg (7 * t + 3) - 97) = _
    rw [Int32.add_comm, Int32.sub_add_cancel]
  unfold rdOk
  rw [e]
  exact ok_in (lo := pg (7 * t + 3)) (hi := 108) (fun q => absurd (Int32.le_trans h4.1 q.1) (by decide)) (fit_4 ht)
theorem ok_5 (ht : t < 5) : rdOk pg pn (7 * t) t td 4 ↔ okA pg pn (7 * t + 5) := ok_in (lo := 49) (hi := 57) (by decide) (fit_5 ht)
/-- what reading a title tells -/
def RdGood (pg : Nat → Int32) (pn t : Nat) (td : Nat → Int32) (R : Nat × Bool × (Nat → Int32)) : Prop :=
  R.1 ≤ pn ∧ 7 * t ≤ R.1 ∧ (∀ j, 7 * t ≤ j → j < R.1 → fitB pg j = true) ∧ (∀ i, i < 6 * t → R.2.2 i = td i) ∧
  ((R.2.1 = false ∧ R.1 = 7 * t + 6 ∧ ∀ e, e < 6 → R.2.2 (6 * t + e) = rdVal pg t e) ∨ (R.2.1 = true ∧ R.1 ≤ 7 * t + 5 ∧ (R.1 = pn ∨ ¬ fitB pg R.1 = true)))
theorem rd_bad {u w : Nat} (hu : 7 * t + u ≤ pn) (hu5 : u ≤ 5) (hall : ∀ j, j < u → fitB pg (7 * t + j) = true) (hn : ¬ okA pg pn (7 * t + u)) : RdGood pg pn t td (7 * t + u, true, rdS pg pn (7 * t) t td w) := by
  refine ⟨hu, by show 7 * t ≤ 7 * t + u; omega, fun j h1 h2 => ?_, fun i hi => rdS_out hi w, Or.inr ⟨rfl, by show 7 * t + u ≤ 7 * t + 5; omega, ?_⟩⟩
  · obtain ⟨q, rfl⟩ : ∃ q, j = 7 * t + q := ⟨j - 7 * t, by omega⟩
    have h2' : 7 * t + q < 7 * t + u := h2
    exact hall q (by omega)
  · show 7 * t + u = pn ∨ ¬ fitB pg (7 * t + u) = true
    by_cases q : 7 * t + u < pn
    · exact Or.inr (fun z => hn ⟨q, z⟩)
    · exact Or.inl (by omega)
theorem rd_good (ht : t < 5) (hp : 7 * t ≤ pn) : RdGood pg pn t td (rdT pg pn (7 * t) t td) := by
  have hu : ∀ {u : Nat}, okA pg pn (7 * t + u) → 7 * t + (u + 1) ≤ pn := fun h => by have := h.1; omega
  unfold rdT
  by_cases a0 : okA pg pn (7 * t + 0)
  · rw [if_neg ((ok_k ht).mpr a0)]
    rw [rdR]
    by_cases a1 : okA pg pn (7 * t + 1)
    · rw [if_pos ((ok_1 ht).mpr a1), rdR]
      by_cases a2 : okA pg pn (7 * t + 2)
      · rw [if_pos ((ok_2 ht).mpr a2), rdR]
        by_cases a3 : okA pg pn (7 * t + 3)
        · rw [if_pos ((ok_3 ht).mpr a3), rdR]
          by_cases a4 : okA pg pn (7 * t + 4)
          · rw [if_pos ((ok_4 ht a3).mpr a4), rdR]
            by_cases a5 : okA pg pn (7 * t + 5)
            · rw [if_pos ((ok_5 ht).mpr a5), rdR]
              refine ⟨hu a5, by show 7 * t ≤ 7 * t + 6; omega, fun j h1 h2 => ?_, fun i hi => rdS_out hi 5, Or.inl ⟨rfl, rfl, fun e he => rdS_at (by have := a5.1; omega) 5 (by omega)⟩⟩
              have h3 : j < 7 * t + 6 := h2
              obtain ⟨q, hq, rfl⟩ : ∃ q, q < 6 ∧ j = 7 * t + q := ⟨j - 7 * t, by omega, by omega⟩
              match q, hq with
              | 0, _ => exact a0.2
              | 1, _ => exact a1.2
              | 2, _ => exact a2.2
              | 3, _ => exact a3.2
              | 4, _ => exact a4.2
              | 5, _ => exact a5.2
            · rw [if_neg (fun q => a5 ((ok_5 ht).mp q))]
              refine rd_bad (u := 5) (hu a4) (by omega) (fun j hj => ?_) a5
              match j, hj with
              | 0, _ => exact a0.2
              | 1, _ => exact a1.2
              | 2, _ => exact a2.2
              | 3, _ => exact a3.2
              | 4, _ => exact a4.2
          · rw [if_neg (fun q => a4 ((ok_4 ht a3).mp q))]
            refine rd_bad (u := 4) (hu a3) (by omega) (fun j hj => ?_) a4
            match j, hj with
            | 0, _ => exact a0.2
            | 1, _ => exact a1.2
            | 2, _ => exact a2.2
            | 3, _ => exact a3.2
        · rw [if_neg (fun q => a3 ((ok_3 ht).mp q))]
          refine rd_bad (u := 3) (hu a2) (by omega) (fun j hj => ?_) a3
          match j, hj with
          | 0, _ => exact a0.2
          | 1, _ => exact a1.2
          | 2, _ => exact a2.2
      · rw [if_neg (fun q => a2 ((ok_2 ht).mp q))]
        refine rd_bad (u := 2) (hu a1) (by omega) (fun j hj => ?_) a2
        match j, hj with
        | 0, _ => exact a0.2
        | 1, _ => exact a1.2
    · rw [if_neg (fun q => a1 ((ok_1 ht).mp q))]
      refine rd_bad (u := 1) (hu a0) (by omega) (fun j hj => ?_) a1
      match j, hj with
      | 0, _ => exact a0.2
  · rw [if_pos (Decidable.byContradiction (fun z => a0 ((ok_k ht).mp z)))]
    exact rd_bad (u := 0) (by omega) (by omega) (fun j hj => absurd hj (Nat.not_lt_zero j)) a0
end
/-- what reading the page tells -/
def RdAll (pg : Nat → Int32) (pn : Nat) (R : Nat × Nat × Bool × (Nat → Int32)) : Prop :=
  R.1 ≤ pn ∧ (∀ j, j < R.1 → fitB pg j = true) ∧ (R.1 = pn ∨ ¬ fitB pg R.1 = true) ∧
  ((R.2.2.1 = false ∧ R.1 % 7 = 6 ∧ R.2.1 = (R.1 + 1) / 7 ∧ ∀ q, q < R.2.1 → ∀ e, e < 6 → R.2.2.2 (6 * q + e) = rdVal pg q e) ∨ (R.2.2.1 = true ∧ ¬ R.1 % 7 = 6))
theorem rdL_good {pg : Nat → Int32} {pn : Nat} : ∀ (f t k : Nat) (td : Nat → Int32), 0 < t → t ≤ 5 → 6 ≤ f + t → k + 1 = 7 * t → k ≤ pn → (∀ j, j < k → fitB pg j = true) → (∀ q, q < t → ∀ e, e < 6 → td (6 * q + e) = rdVal pg q e) → RdAll pg pn (rdL pg pn f k t false td)
  | 0, t, k, td, h0, h5, hf, hk, hp, ha, hv => by omega
  | f + 1, t, k, td, h0, h5, hf, hk, hp, ha, hv => by
    unfold rdL
    by_cases q : t < 5 ∧ atP pg pn k = 44
    · rw [if_pos ⟨rfl, q⟩]
      have hkp : k < pn := Decidable.byContradiction (fun z => by have := q.2; rw [at_out z] at this; exact absurd this (by decide))
      have h44 : pg k = 44 := by have := q.2; rw [at_in hkp] at this; exact this
      have hfk : fitB pg k = true := by
        obtain ⟨t4, rfl⟩ : ∃ t4, t = t4 + 1 := ⟨t - 1, by omega⟩
        rw [show k = 7 * t4 + 6 by omega, fit_6 (by omega), show 7 * t4 + 6 = k by omega]
        exact decide_eq_true h44
      rw [hk]
      obtain ⟨g1, g2, g3, g4, g5⟩ := rd_good (pg := pg) (td := td) q.1 (show 7 * t ≤ pn by omega)
      generalize rdT pg pn (7 * t) t td = R at g1 g2 g3 g4 g5 ⊢
      obtain ⟨R1, R2, R3⟩ := R
      have ga : ∀ j, j < R1 → fitB pg j = true := fun j hj => by
        by_cases z : j < k
        · exact ha j z
        · by_cases z2 : j = k
          · rw [z2]; exact hfk
          · exact g3 j (by omega) hj
      rcases g5 with ⟨b1, b2, b3⟩ | ⟨b1, b2, b3⟩
      · have b1' : R2 = false := b1
        have b2' : R1 = 7 * t + 6 := b2
        subst b1'
        show RdAll pg pn (rdL pg pn f R1 (if false = true then t else t + 1) false R3)
        rw [if_neg (by decide)]
        refine rdL_good f (t + 1) R1 R3 (by omega) (by omega) (by omega) (by omega) g1 ga (fun q2 hq2 e he => ?_)
        by_cases z : q2 = t
        · rw [z]; exact b3 e he
        · exact (g4 (6 * q2 + e) (by omega)).trans (hv q2 (by omega) e he)
      · have b1' : R2 = true := b1
        have b2' : R1 ≤ 7 * t + 5 := b2
        have g2' : 7 * t ≤ R1 := g2
        subst b1'
        show RdAll pg pn (rdL pg pn f R1 (if true = true then t else t + 1) true R3)
        rw [rdL_out pg pn (by simp)]
        exact ⟨g1, ga, b3, Or.inr ⟨rfl, by show ¬ R1 % 7 = 6; omega⟩⟩
    · rw [if_neg (fun z => q z.2)]
      refine ⟨hp, ha, ?_, Or.inl ⟨rfl, by show k % 7 = 6; omega, by show t = (k + 1) / 7; omega, hv⟩⟩
      show k = pn ∨ ¬ fitB pg k = true
      by_cases z : k < pn
      · refine Or.inr (fun w => q ?_)
        by_cases z5 : t < 5
        · refine ⟨z5, ?_⟩
          obtain ⟨t4, rfl⟩ : ∃ t4, t = t4 + 1 := ⟨t - 1, by omega⟩
          rw [show k = 7 * t4 + 6 by omega, fit_6 (by omega)] at w
          rw [at_in z, show k = 7 * t4 + 6 by omega]
          exact of_decide_eq_true w
        · unfold fitB at w
          rw [if_pos (by omega)] at w
          exact Bool.noConfusion w
      · exact Or.inl (by omega)
theorem rdA_good {pg : Nat → Int32} {pn : Nat} {td : Nat → Int32} : RdAll pg pn (rdA pg pn td) := by
  unfold rdA
  obtain ⟨g1, g2, g3, g4, g5⟩ := rd_good (pg := pg) (td := td) (t := 0) (pn := pn) (by omega) (by omega)
  have e0 : rdT pg pn (7 * 0) 0 td = rdT pg pn 0 0 td := rfl
  rw [e0] at g1 g2 g3 g4 g5
  generalize rdT pg pn 0 0 td = R at g1 g2 g3 g4 g5 ⊢
  obtain ⟨R1, R2, R3⟩ := R
  rcases g5 with ⟨b1, b2, b3⟩ | ⟨b1, b2, b3⟩
  · have b1' : R2 = false := b1
    have b2' : R1 = 7 * 0 + 6 := b2
    subst b1'
    show RdAll pg pn (rdL pg pn 6 R1 (if false = true then 0 else 1) false R3)
    rw [if_neg (by decide)]
    refine rdL_good 6 1 R1 R3 (by omega) (by omega) (by omega) (by omega) g1 (fun j hj => g3 j (by omega) hj) (fun q hq e he => ?_)
    have : q = 0 := by omega
    subst this
    exact b3 e he
  · have b1' : R2 = true := b1
    have b2' : R1 ≤ 7 * 0 + 5 := b2
    subst b1'
    show RdAll pg pn (rdL pg pn 6 R1 (if true = true then 0 else 1) true R3)
    rw [rdL_out pg pn (by simp)]
    exact ⟨g1, fun j hj => g3 j (by omega) hj, b3, Or.inr ⟨rfl, by show ¬ R1 % 7 = 6; omega⟩⟩
theorem ff_uniq {ft : Nat → Bool} {pn f : Nat} (ha : ∀ j, j < f → ft j = true) (hp : f ≤ pn) (hz : f = pn ∨ ¬ ft f = true) : ∀ m, m ≤ pn → pn - m ≤ f → ffL ft pn m = f
  | 0, h, h2 => by show pn = f; omega
  | m + 1, h, h2 => by
    unfold ffL
    by_cases q : pn - (m + 1) = f
    · rw [q, if_neg (hz.resolve_left (by omega))]
    · rw [if_pos (ha _ (by omega))]
      exact ff_uniq ha hp hz m (by omega) (by omega)
theorem ffL_cg {f1 f2 : Nat → Bool} {pn : Nat} (h : ∀ k, k < pn → f1 k = f2 k) : ∀ m, m ≤ pn → ffL f1 pn m = ffL f2 pn m
  | 0, _ => rfl
  | m + 1, hm => by
    unfold ffL
    rw [h _ (by omega), ffL_cg h m (by omega)]
theorem fit_cg {c1 c2 : Nat → Int32} {k : Nat} (h1 : c1 k = c2 k) (h2 : c1 (k - 1) = c2 (k - 1)) : fitB c1 k = fitB c2 k := by
  unfold fitB
  rw [h1, h2]
theorem ff_eq {cd pg td : Nat → Int32} {pn : Nat} (h : ∀ k, k < pn → cd k = pg k) : ffC cd pn = (rdA pg pn td).1 := by
  have e : ffC cd pn = ffC pg pn := ffL_cg (fun k hk => fit_cg (h k hk) (h (k - 1) (by omega))) pn (Nat.le_refl _)
  rw [e]
  obtain ⟨g1, g2, g3, -⟩ := rdA_good (pg := pg) (pn := pn) (td := td)
  exact ff_uniq g2 g1 g3 pn (Nat.le_refl _) (by omega)
theorem house_iff {cd pg td : Nat → Int32} {pn : Nat} (h : ∀ k, k < pn → cd k = pg k) : (ffC cd pn = pn ∧ pn % 7 = 6) ↔ ((rdA pg pn td).2.2.1 = false ∧ (rdA pg pn td).1 = pn) := by
  rw [ff_eq (td := td) h]
  obtain ⟨g1, g2, g3, g4⟩ := rdA_good (pg := pg) (pn := pn) (td := td)
  constructor
  · rintro ⟨h1, h2⟩
    rcases g4 with ⟨b1, -⟩ | ⟨b1, b2⟩
    · exact ⟨b1, h1⟩
    · exact absurd (by rw [h1]; exact h2) b2
  · rintro ⟨h1, h2⟩
    rcases g4 with ⟨b1, b2, -⟩ | ⟨b1, b2⟩
    · exact ⟨h2, by rw [h2] at b2; exact b2⟩
    · rw [h1] at b1; exact Bool.noConfusion b1
/-- a house: how many titles, and what they are -/
theorem house_is {cd pg td : Nat → Int32} {pn : Nat} (hpn : pn ≤ 40) (h : ∀ k, k < pn → cd k = pg k) (hh : ffC cd pn = pn ∧ pn % 7 = 6) :
    (rdA pg pn td).2.1 = (pn + 1) / 7 ∧ (pn + 1) / 7 ≤ 5 ∧ (∀ q, q < (pn + 1) / 7 → ∀ e, e < 6 → (rdA pg pn td).2.2.2 (6 * q + e) = rdVal cd q e) ∧ (∀ k, k < pn → fitB cd k = true) := by
  obtain ⟨g1, g2, g3, g4⟩ := rdA_good (pg := pg) (pn := pn) (td := td)
  have h1 := (house_iff (td := td) h).mp hh
  rcases g4 with ⟨b1, b2, b3, b4⟩ | ⟨b1, b2⟩
  · rw [h1.2] at b3 g2
    refine ⟨b3, by omega, fun q hq e he => ?_, fun k hk => ?_⟩
    · rw [b4 q (by omega) e he]
      unfold rdVal
      rw [h (7 * q) (by omega), h (7 * q + e) (by omega)]
    · rw [fit_cg (h k hk) (h (k - 1) (by omega))]
      exact g2 k hk
  · rw [h1.1] at b1; exact Bool.noConfusion b1
