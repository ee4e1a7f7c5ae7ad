theorem anyB_iff {p : Nat → Bool} : ∀ {n : Nat}, anyB p n = true ↔ ∃ j, j < n ∧ p j = true
  | 0 => ⟨fun h => by simp [anyB] at h, fun ⟨j, h, _⟩ => absurd h (Nat.not_lt_zero j)⟩
  | n + 1 => by
    have h := anyB_iff (p := p) (n := n)
    show (anyB p n || p n) = true ↔ _
    rw [Bool.or_eq_true, h]
    constructor
    · rintro (⟨j, h1, h2⟩ | h2)
      · exact ⟨j, by omega, h2⟩
      · exact ⟨n, by omega, h2⟩
    · rintro ⟨j, h1, h2⟩
      rcases Nat.eq_or_lt_of_le (Nat.lt_succ_iff.mp h1) with e | e
      · exact Or.inr (by rw [← e]; exact h2)
      · exact Or.inl ⟨j, e, h2⟩
def lstC (ca pl f : Nat → Int32) : Nat → (Nat → Int32)
  | 0 => f
  | b + 1 => if pl b = -1 then lstC ca pl f b else upd (lstC ca pl f b) (ix (ca (ix (pl b)))) (nI b)
theorem lst_spec {ca pl f : Nat → Int32} (hC : ∀ j, j < 12 → ¬ pl j = -1 → ∃ k4, k4 < 5 ∧ ca (ix (pl j)) = nI k4) {k i : Nat} (hk : k < 5) (hf : f k = -1) (hi : i < 12) : ∀ b, b ≤ 12 → (nI i < lstC ca pl f b k ↔ ∃ j, i < j ∧ j < b ∧ ¬ pl j = -1 ∧ ca (ix (pl j)) = nI k)
  | 0, _ => by
    constructor
    · intro h
      have h2 : nI i < f k := h
      rw [hf] at h2
      exact absurd (Int32.lt_trans h2 (by decide)) (nI_pos (n := i) (by omega))
    · rintro ⟨j, _, h, _⟩; exact absurd h (Nat.not_lt_zero j)
  | b + 1, hb => by
    have ih := lst_spec hC hk hf hi b (by omega)
    by_cases q : pl b = -1
    · rw [lstC, if_pos q, ih]
      constructor
      · rintro ⟨j, h1, h2, h3⟩; exact ⟨j, h1, by omega, h3⟩
      · rintro ⟨j, h1, h2, h3, h4⟩
        refine ⟨j, h1, ?_, h3, h4⟩
        rcases Nat.eq_or_lt_of_le (Nat.lt_succ_iff.mp h2) with e | e
        · exact absurd (by rw [e]; exact q) h3
        · exact e
    · obtain ⟨k4, hk4, e4⟩ := hC b (by omega) q
      rw [lstC, if_neg q, e4, ix_nI (by omega)]
      by_cases hkk : k = k4
      · subst hkk
        rw [pk_us, nI_ltI (by omega) (by omega)]
        constructor
        · intro h; exact ⟨b, h, by omega, q, e4⟩
        · rintro ⟨j, h1, h2, _⟩; omega
      · rw [pk_un hkk, ih]
        constructor
        · rintro ⟨j, h1, h2, h3⟩; exact ⟨j, h1, by omega, h3⟩
        · rintro ⟨j, h1, h2, h3, h4⟩
          refine ⟨j, h1, ?_, h3, h4⟩
          rcases Nat.eq_or_lt_of_le (Nat.lt_succ_iff.mp h2) with e | e
          · rw [e, e4] at h4
            exact absurd ((nI_eq (by omega) (by omega)).mp h4).symm hkk
          · exact e
theorem cBeh_iff {ca pl : Nat → Int32} {i : Nat} (hi : i < 12) {x : Int32} : cBeh ca pl i x (11 - i) = true ↔ ∃ j, i < j ∧ j < 12 ∧ ¬ pl j = -1 ∧ ca (ix (pl j)) = x := by
  rw [cBeh, anyB_iff]
  constructor
  · rintro ⟨j, h1, h2⟩
    have h3 : hasC ca pl (nI (i + 1 + j)) x := of_decide_eq_true h2
    rw [hasC, rOn_at (by omega)] at h3
    exact ⟨i + 1 + j, by omega, by omega, h3.1, h3.2⟩
  · rintro ⟨j, h1, h2, h3, h4⟩
    refine ⟨j - i - 1, by omega, decide_eq_true ?_⟩
    rw [show i + 1 + (j - i - 1) = j by omega, hasC, rOn_at h2]
    exact ⟨h3, h4⟩
theorem lst_L {ca pl f : Nat → Int32} (hC : ∀ j, j < 12 → ¬ pl j = -1 → ∃ k4, k4 < 5 ∧ ca (ix (pl j)) = nI k4) {i : Nat} (hi : i < 12) : ∀ k, k < 5 → (nI i < lstC ca pl (ovN f (fun _ => -1) 5) 12 k ↔ cBeh ca pl i (nI k) (11 - i) = true) := by
  intro k hk
  rw [lst_spec hC hk (ovN_in hk) hi 12 (Nat.le_refl 12), cBeh_iff hi]
theorem ovN_congr {f h1 h2 : Nat → Int32} {n : Nat} (h : ∀ j, j < n → h1 j = h2 j) : ovN f h1 n = ovN f h2 n := by
  funext j
  by_cases q : j < n
  · rw [ovN_in q, ovN_in q, h j q]
  · rw [ovN_out q, ovN_out q]
theorem ovN_up {f h1 h2 : Nat → Int32} {n t : Nat} {v : Int32} (ht : t < n) (hv : v = h2 t) (h : ∀ j, j < n → ¬ j = t → h1 j = h2 j) : upd (ovN f h1 n) t v = ovN f h2 n := by
  funext j
  by_cases q : j = t
  · subst q; rw [pk_us, ovN_in ht, hv]
  · rw [pk_un q]
    by_cases q2 : j < n
    · rw [ovN_in q2, ovN_in q2, h j q2 q]
    · rw [ovN_out q2, ovN_out q2]
theorem brk_dark {kd se ca fi la pl : Nat → Int32} {i : Nat} (h : pl i = -1) : brk kd se ca fi la pl i = 0 := by rw [brk, if_pos h]
theorem sts_dark {kd fl pl : Nat → Int32} {i : Nat} (h : pl i = -1) : sts kd fl pl i = 0 := by rw [sts, if_pos h]
theorem brk_pos {kd se ca fi la pl : Nat → Int32} {i : Nat} : ¬ brk kd se ca fi la pl i = 0 → 0 < brk kd se ca fi la pl i := by
  unfold brk
  intro h
  repeat (first | (exact absurd rfl h) | decide | split at h <;> rename_i q <;> first | rw [if_pos q] | rw [if_neg q])
/-! one step of weigh's loop -/
section
variable {pl BK SS f : Nat → Int32} {i t : Nat}
theorem w52d (h : pl i = -1) : ovN f (fun t => nI (nOf pl (nI t) (i + 1))) 5 = ovN f (fun t => nI (nOf pl (nI t) i)) 5 :=
  ovN_congr (fun j hj => by
    show nI (nOf pl (nI j) (i + 1)) = nI (nOf pl (nI j) i)
    rw [nOf, cntP_f (fun q => nI_nm1 (t := j) (by omega) (q.symm.trans h))]; rfl)
theorem w53d (h : pl i = -1) : ovN f (fun t => sumI (fun j => if pl j = nI t ∧ BK j = 0 then SS j else 0) (i + 1)) 5 = ovN f (fun t => sumI (fun j => if pl j = nI t ∧ BK j = 0 then SS j else 0) i) 5 :=
  ovN_congr (fun j hj => by
    show sumI _ i + (if pl i = nI j ∧ BK i = 0 then SS i else 0) = _
    rw [if_neg (fun q => nI_nm1 (t := j) (by omega) (q.1.symm.trans h)), Int32.add_zero])
theorem w57d (hb : BK i = 0) : cntP (fun j => 0 < BK j) (i + 1) = cntP (fun j => 0 < BK j) i := cntP_f (by rw [hb]; decide)
theorem w58d (h : pl i = -1) : cntP (fun j => pl j = -1 ∨ 0 < BK j) (i + 1) = cntP (fun j => pl j = -1 ∨ 0 < BK j) i + 1 := cntP_t (Or.inl h)
theorem w59d (hb : BK i = 0) (hs : SS i = 0) : sumI (fun j => if BK j = 0 then SS j else 0) (i + 1) = sumI (fun j => if BK j = 0 then SS j else 0) i := by
  rw [sumI, if_pos hb, hs, Int32.add_zero]
theorem w52l (h : pl i = nI t) (ht : t < 5) : ovN f (fun t => nI (nOf pl (nI t) (i + 1))) 5 = upd (ovN f (fun t => nI (nOf pl (nI t) i)) 5) t ((ovN f (fun t => nI (nOf pl (nI t) i)) 5) t + 1) := by
  symm
  refine ovN_up ht ?_ (fun j hj hne => ?_)
  · rw [ovN_in ht]
    show nI (nOf pl (nI t) i) + 1 = nI (nOf pl (nI t) (i + 1))
    rw [nI_1, nOf, nOf, cntP_t h]
  · show nI (nOf pl (nI j) i) = nI (nOf pl (nI j) (i + 1))
    rw [nOf, nOf, cntP_f (fun q => hne (((nI_eq (by omega) (by omega)).mp (h.symm.trans q)).symm))]
theorem w53l (h : pl i = nI t) (ht : t < 5) {b s : Int32} (hb : b = BK i) (hs : s = SS i) : ovN f (fun t => sumI (fun j => if pl j = nI t ∧ BK j = 0 then SS j else 0) (i + 1)) 5 = if b = 0 then upd (ovN f (fun t => sumI (fun j => if pl j = nI t ∧ BK j = 0 then SS j else 0) i) 5) t ((ovN f (fun t => sumI (fun j => if pl j = nI t ∧ BK j = 0 then SS j else 0) i) 5) t + s) else ovN f (fun t => sumI (fun j => if pl j = nI t ∧ BK j = 0 then SS j else 0) i) 5 := by
  subst hb; subst hs
  by_cases q : BK i = 0
  · rw [if_pos q]
    symm
    refine ovN_up ht ?_ (fun j hj hne => ?_)
    · rw [ovN_in ht]
      show _ = sumI _ i + (if pl i = nI t ∧ BK i = 0 then SS i else 0)
      rw [if_pos ⟨h, q⟩]
    · show _ = sumI _ i + (if pl i = nI j ∧ BK i = 0 then SS i else 0)
      rw [if_neg (fun q2 => hne (((nI_eq (by omega) (by omega)).mp (h.symm.trans q2.1)).symm)), Int32.add_zero]
  · rw [if_neg q]
    refine ovN_congr (fun j hj => ?_)
    show sumI _ i + (if pl i = nI j ∧ BK i = 0 then SS i else 0) = _
    rw [if_neg (fun q2 => q q2.2), Int32.add_zero]
theorem w57l (hp : ¬ BK i = 0 → 0 < BK i) {b : Int32} (hb : b = BK i) : nI (cntP (fun j => 0 < BK j) (i + 1)) = if b = 0 then nI (cntP (fun j => 0 < BK j) i) else nI (cntP (fun j => 0 < BK j) i) + 1 := by
  subst hb
  by_cases q : BK i = 0
  · rw [if_pos q, w57d q]
  · rw [if_neg q, cntP_t (hp q), nI_1]
theorem w58l (h : ¬ pl i = -1) (hp : ¬ BK i = 0 → 0 < BK i) {b : Int32} (hb : b = BK i) : nI (cntP (fun j => pl j = -1 ∨ 0 < BK j) (i + 1)) = if b = 0 then nI (cntP (fun j => pl j = -1 ∨ 0 < BK j) i) else nI (cntP (fun j => pl j = -1 ∨ 0 < BK j) i) + 1 := by
  subst hb
  by_cases q : BK i = 0
  · rw [if_pos q, cntP_f (fun q2 => q2.elim h (fun q3 => by rw [q] at q3; exact absurd q3 (by decide)))]
  · rw [if_neg q, cntP_t (Or.inr (hp q)), nI_1]
theorem w59l {b s : Int32} (hb : b = BK i) (hs : s = SS i) : sumI (fun j => if BK j = 0 then SS j else 0) (i + 1) = if b = 0 then sumI (fun j => if BK j = 0 then SS j else 0) i + s else sumI (fun j => if BK j = 0 then SS j else 0) i := by
  subst hb; subst hs
  by_cases q : BK i = 0
  · rw [if_pos q, sumI, if_pos q]
  · rw [if_neg q, sumI, if_neg q, Int32.add_zero]
end
