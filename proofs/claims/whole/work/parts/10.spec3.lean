abbrev RS : Type := (Nat → Int32) × (Nat → Int64) × (Nat → Nat → Int32)
def ovN (f h : Nat → Int32) (n : Nat) : Nat → Int32 := fun j => if j < n then h j else f j
theorem ovN_0 (f h : Nat → Int32) : ovN f h 0 = f := by funext j; simp [ovN]
theorem ovN_s (f h : Nat → Int32) (n : Nat) : upd (ovN f h n) n (h n) = ovN f h (n + 1) := by
  funext j
  by_cases hj : j = n
  · subst hj; simp [upd, ovN]
  · have : (j < n + 1) = (j < n) := by apply propext; omega
    simp [upd, ovN, hj, this]
theorem ovN_sv (f h : Nat → Int32) (n : Nat) {v : Int32} (hv : v = h n) : upd (ovN f h n) n v = ovN f h (n + 1) := by rw [hv, ovN_s]
theorem ovN_in {f h : Nat → Int32} {n j : Nat} (hj : j < n) : ovN f h n j = h j := by simp [ovN, hj]
theorem ovN_out {f h : Nat → Int32} {n j : Nat} (hj : ¬ j < n) : ovN f h n j = f j := by simp [ovN, hj]
theorem va_up_same {α : Type} (f : Nat → α) (k : Nat) : va_up f k (f k) = f := by
  funext j; by_cases h : j = k <;> simp [va_up, h]
def darkF (pl : Nat → Int32) (n : Nat) : Nat → Int32 := ovN pl (fun _ => -1) n
def R_letter (z : Nat → Int32) (g : Nat → Int64) (r : Nat → Nat → Int32) (pn : Nat) (code : Int32) : Int32 × RS :=
  if inR code 32 126 then (if pn = 40 then (-104, z, g, r) else (nI (pn + 1), va_up z 14 (nI (pn + 1)), g, va_up r 15 (upd (r 15) pn code.toInt8.toInt32))) else (-102, z, g, r)
def R_play (z : Nat → Int32) (g : Nat → Int64) (r : Nat → Nat → Int32) (n : Nat) (x t : Int32) : Int32 × RS :=
  if inR x 0 11 ∧ ¬ n = 0 ∧ (t = -1 ∨ inR t 0 (z 1 - 1)) then (nI (brkN (va_up r 8 (upd (r 8) (ix x) t))), z, g, va_up r 8 (upd (r 8) (ix x) t)) else (-101, z, g, r)
def R_add (z : Nat → Int32) (g : Nat → Int64) (r : Nat → Nat → Int32) (n : Nat) (kind set cast : Int32) : Int32 × RS :=
  if inR kind 0 4 ∧ inR set 0 4 ∧ inR cast 0 4 then (if n = 0 then (-103, z, g, r) else if n = 5 then (-104, z, g, r) else
    (nI n, va_up z 1 (nI (n + 1)), g, va_up (va_up (va_up (va_up (va_up (va_up r 2 (upd (r 2) n kind)) 3 (upd (r 3) n set)) 4 (upd (r 4) n cast)) 5 (upd (r 5) n 0)) 6 (upd (r 6) n 11)) 7 (upd (r 7) n 5)))
  else (-102, z, g, r)
def R_rights (z : Nat → Int32) (g : Nat → Int64) (r : Nat → Nat → Int32) (t first last : Int32) : Int32 × RS :=
  if inR t 0 (z 1 - 1) then (if inR first 0 11 ∧ inR last first 11 then (nI (brkN (va_up (va_up r 5 (upd (r 5) (ix t) first)) 6 (upd (r 6) (ix t) last))), z, g, va_up (va_up r 5 (upd (r 5) (ix t) first)) 6 (upd (r 6) (ix t) last)) else (-102, z, g, r)) else (-101, z, g, r)
def R_be (z : Nat → Int32) (g : Nat → Int64) (r : Nat → Nat → Int32) (t kind : Int32) : Int32 × RS :=
  if inR t 0 (z 1 - 1) then (if inR kind 0 4 then (r 2 (ix t), z, g, va_up r 2 (upd (r 2) (ix t) kind)) else (-102, z, g, r)) else (-101, z, g, r)
def R_see (z : Nat → Int32) (g : Nat → Int64) (r : Nat → Nat → Int32) (sn : Nat) (t what could : Int32) : Int32 × RS :=
  if inR t 0 (z 1 - 1) then (if inR what 0 3 then (if sn = 6 then (-104, z, g, r) else (nI (sn + 1), va_up z 10 (nI (sn + 1)), g, va_up (va_up (va_up r 11 (upd (r 11) sn t)) 12 (upd (r 12) sn what)) 13 (upd (r 13) sn (if could = 0 then 0 else 1)))) else (-102, z, g, r)) else (-101, z, g, r)
def planOk (pg : Nat → Int32) (v : Int32) (i : Nat) : Bool := decide (pg i = 46 ∨ inR (pg i - 48) 0 (v - 1))
def planF (pg : Nat → Int32) (i : Nat) : Int32 := if pg i = 46 then -1 else pg i - 48
def R_plan (z : Nat → Int32) (g : Nat → Int64) (r : Nat → Nat → Int32) (n pn : Nat) : Int32 × RS :=
  if 0 < n ∧ pn = 12 ∧ allB (planOk (r 15) (z 1)) 12 = true then (nI (nOn (ovN (r 8) (planF (r 15)) 12) 12), va_up z 14 0, g, va_up r 8 (ovN (r 8) (planF (r 15)) 12)) else (-103, z, g, r)
def shN (pl : Nat → Int32) (by' : Int32) (m : Nat) : Nat → Int32 := fun j => if m ≤ j ∧ j < 12 then rOn pl (nI j - by') else pl j
def R_delay (z : Nat → Int32) (g : Nat → Int64) (r : Nat → Nat → Int32) (n : Nat) (by' : Int32) : Int32 × RS :=
  if inR by' 1 11 then (if n = 0 then (-103, z, g, r) else (nI (nOn (shN (r 8) by' 0) 12), z, g, va_up r 8 (shN (r 8) by' 0))) else (-102, z, g, r)
def R_image (z : Nat → Int32) (g : Nat → Int64) (r : Nat → Nat → Int32) (n : Nat) : Int32 × RS :=
  if n = 0 then (-103, z, g, r) else (z 1, va_up (va_up (va_up (va_up z 27 1) 28 (z 0)) 29 (z 1)) 30 (z 10), g,
    va_up (va_up (va_up (va_up (va_up (va_up (va_up (va_up (va_up (va_up r 31 (ovN (r 31) (r 2) 5)) 32 (ovN (r 32) (r 3) 5)) 33 (ovN (r 33) (r 4) 5)) 34 (ovN (r 34) (r 5) 5)) 35 (ovN (r 35) (r 6) 5)) 36 (ovN (r 36) (r 7) 5)) 37 (ovN (r 37) (r 8) 12)) 38 (ovN (r 38) (r 11) 6)) 39 (ovN (r 39) (r 12) 6)) 40 (ovN (r 40) (r 13) 6))
def R_restore (z : Nat → Int32) (g : Nat → Int64) (r : Nat → Nat → Int32) : Int32 × RS :=
  if ¬ z 27 = 0 ∧ z 28 = z 0 then (z 29, va_up (va_up z 1 (z 29)) 10 (z 30), g,
    va_up (va_up (va_up (va_up (va_up (va_up (va_up (va_up (va_up (va_up r 2 (ovN (r 2) (r 31) 5)) 3 (ovN (r 3) (r 32) 5)) 4 (ovN (r 4) (r 33) 5)) 5 (ovN (r 5) (r 34) 5)) 6 (ovN (r 6) (r 35) 5)) 7 (ovN (r 7) (r 36) 5)) 8 (ovN (r 8) (r 37) 12)) 11 (ovN (r 11) (r 38) 6)) 12 (ovN (r 12) (r 39) 6)) 13 (ovN (r 13) (r 40) 6))
  else (-103, z, g, r)
theorem inR_nat1 {x : Int32} (h : inR x 1 11) : ∃ i, 1 ≤ i ∧ i < 12 ∧ x = nI i := by
  obtain ⟨j, hj, h2⟩ := nI_of2 (M := 11) (n := 11) rfl (Int32.not_lt.mpr (Int32.le_trans (by decide) h.1)) h.2
  refine ⟨j, ?_, by omega, h2⟩
  have h3 := h.1
  rw [h2] at h3
  exact (nI_leI (a := 1) (b := j) (by omega) (by omega)).mp h3
theorem dec1 (x : Int32) : x + Int32.ofInt (-1) = x - 1 := by
  rw [Int32.sub_eq_add_neg]
  rfl
theorem pm_lt {m : Nat} (h : m < 1000) : nI m - 1 < 0 ↔ m = 0 := by
  constructor
  · intro q
    apply Decidable.byContradiction
    intro h0
    have e : (nI m - 1 : Int32) = nI (m - 1) := pk_sub (a := m) (b := 1) (by omega)
    rw [e] at q
    exact nI_pos (n := m - 1) (by omega) q
  · rintro rfl; decide
theorem pm_eq {m : Nat} (h : 0 < m) : nI m - 1 = nI (m - 1) := pk_sub (a := m) (b := 1) (by omega)
theorem okP_upd {n i : Nat} {pl : Nat → Int32} {v : Int32} (h : okP n pl) (hv : v = -1 ∨ ∃ k, k < n ∧ v = nI k) : okP n (upd pl i v) := by
  intro j hj
  by_cases hji : j = i
  · subst hji; simpa [upd] using hv
  · simpa [upd, hji] using h j hj
theorem allB_mono {p : Nat → Bool} : ∀ {i k : Nat}, i ≤ k → allB p k = true → allB p i = true
  | i, 0, h, h2 => by rw [show i = 0 by omega]; rfl
  | i, k + 1, h, h2 => by
    rcases Nat.eq_or_lt_of_le h with q | q
    · rw [q]; exact h2
    · have h3 : (allB p k && p k) = true := h2
      simp only [Bool.and_eq_true] at h3
      exact allB_mono (by omega) h3.1
theorem allB_at {p : Nat → Bool} : ∀ {k : Nat}, allB p k = true → ∀ j, j < k → p j = true
  | 0, _, j, hj => absurd hj (Nat.not_lt_zero j)
  | k + 1, h, j, hj => by
    have h3 : (allB p k && p k) = true := h
    simp only [Bool.and_eq_true] at h3
    rcases Nat.eq_or_lt_of_le (Nat.lt_succ_iff.mp hj) with q | q
    · rw [q]; exact h3.2
    · exact allB_at h3.1 j q
theorem okP_plan {n : Nat} {v : Int32} (hv : v = nI n) (hn : n ≤ 5) {pg pl : Nat → Int32} (h : allB (planOk pg v) 12 = true) : okP n (ovN pl (planF pg) 12) := by
  intro j hj
  have h1 := allB_at h j hj
  rw [ovN_in hj]
  unfold planF
  by_cases q : pg j = 46
  · exact Or.inl (by simp [q])
  · rw [if_neg q]
    have h2 : pg j = 46 ∨ inR (pg j - 48) 0 (v - 1) := by simpa [planOk] using h1
    obtain ⟨k, hk, e⟩ := isT_nat hv hn (h2.resolve_left q)
    exact Or.inr ⟨k, hk, e⟩
theorem rOn_congr {f g : Nat → Int32} {x : Int32} (h : inR x 0 11 → f (ix x) = g (ix x)) : rOn f x = rOn g x := by
  unfold rOn
  by_cases q : inR x 0 11
  · rw [if_pos q, if_pos q, h q]
  · rw [if_neg q, if_neg q]
theorem sh_idx {m : Nat} {b : Int32} (hb : inR b 1 11) (hm : 0 < m) (hm2 : m ≤ 12) (q : inR (nI (m - 1) - b) 0 11) : ix (nI (m - 1) - b) < m - 1 := by
  obtain ⟨i, h1, h2, rfl⟩ := inR_nat1 hb
  by_cases hle : i ≤ m - 1
  · rw [pk_sub hle, ix_nI (by omega)]; omega
  · exfalso
    have h3 := pk_sneg (a := m - 1) (b := i) (by omega) (by omega)
    exact Int32.not_le.mpr h3 q.1
theorem sh_step {pl : Nat → Int32} {b : Int32} {m : Nat} (hb : inR b 1 11) (hm : 0 < m) (hm2 : m ≤ 12) : upd (shN pl b m) (m - 1) (rOn (shN pl b m) (nI (m - 1) - b)) = shN pl b (m - 1) := by
  have e : rOn (shN pl b m) (nI (m - 1) - b) = rOn pl (nI (m - 1) - b) := rOn_congr (fun q => by
    have := sh_idx hb hm hm2 q
    unfold shN
    rw [if_neg (by omega)])
  rw [e]
  funext j
  unfold upd shN
  by_cases hj : j = m - 1
  · rw [if_pos hj, hj, if_pos (by omega)]
  · rw [if_neg hj]
    by_cases h2 : m ≤ j ∧ j < 12
    · rw [if_pos h2, if_pos (by omega)]
    · rw [if_neg h2, if_neg (by omega)]
theorem sh_0 (pl : Nat → Int32) (b : Int32) : shN pl b 12 = pl := by
  funext j; unfold shN; rw [if_neg (by omega)]
