theorem dkA_ok {pl : Nat → Int32} {f : Nat} {d : Nat → Int32} : ∀ {j : Nat}, f + j ≤ 12 → okD (dkN pl f j) (dkA pl f d j)
  | 0, _, k, hk => absurd hk (Nat.not_lt_zero k)
  | j + 1, h, k, hk => by
    by_cases q : pl (f + j) = -1
    · have e : dkN pl f (j + 1) = dkN pl f j + 1 := cntP_t q
      rw [dkA, if_pos q]
      rw [e] at hk
      by_cases h2 : k = dkN pl f j
      · exact ⟨f + j, by omega, by rw [h2]; simp [upd]⟩
      · rw [pk_un h2]
        exact dkA_ok (j := j) (by omega) k (by omega)
    · have e : dkN pl f (j + 1) = dkN pl f j := cntP_f q
      rw [dkA, if_neg q]
      rw [e] at hk
      exact dkA_ok (j := j) (by omega) k hk
theorem lost_far {r : Nat → Nat → Int32} : lostS r < 268435456 := by
  have h1 := cntP_le (fun n => ¬ r 8 n = -1) 12
  have h2 := cntP_le (fun j => 0 < rBk r j) 12
  unfold lostS nOn brkN
  generalize cntP (fun n => ¬ r 8 n = -1) 12 = a at h1 ⊢
  generalize cntP (fun j => 0 < rBk r j) 12 = b at h2 ⊢
  have e : (12 - nI a + nI b : Int32) = nI (12 - a + b) := by
    rw [← nI_add, ← pk_sub (a := 12) (b := a) h1]; rfl
  rw [e]
  exact (nI_ltI (a := 12 - a + b) (b := 268435456) (by omega) (by omega)).mpr (by omega)
theorem bst_nat {z : Nat → Int32} {r : Nat → Nat → Int32} {n dk : Nat} : ∀ w, ∃ k, k ≤ w ∧ (bstS z r n dk (w + 1)).1 = nI k
  | 0 => by
    refine ⟨0, Nat.le_refl 0, ?_⟩
    have h : wLost r n dk 0 < (bstR (wLost r n dk) (wErn r n dk) (z 22, 268435456, z 24) 0).2.1 := lost_far
    unfold bstS
    rw [bstR, if_pos (Or.inl h)]
  | w + 1 => by
    obtain ⟨k, hk, e⟩ := bst_nat (z := z) (r := r) (n := n) (dk := dk) w
    unfold bstS at e ⊢
    rw [bstR]
    split
    · exact ⟨w + 1, Nat.le_refl _, rfl⟩
    · exact ⟨k, by omega, e⟩
def bstK (z : Nat → Int32) (r : Nat → Nat → Int32) (n dk w : Nat) : Nat := ix (bstS z r n dk w).1
theorem bstK_eq {z : Nat → Int32} {r : Nat → Nat → Int32} {n dk w : Nat} (hw : 0 < w) (hw2 : w < 100000) : (bstS z r n dk w).1 = nI (bstK z r n dk w) ∧ bstK z r n dk w < w := by
  obtain ⟨v, rfl⟩ : ∃ v, w = v + 1 := ⟨w - 1, by omega⟩
  obtain ⟨k, hk, e⟩ := bst_nat (z := z) (r := r) (n := n) (dk := dk) v
  unfold bstK
  rw [e, ix_nI (by omega)]
  exact ⟨rfl, by omega⟩
theorem ways_pos (n dk : Nat) : 0 < (n + 1) ^ dk := Nat.pow_pos (by omega)
theorem ways_le {n dk : Nat} (hn : n ≤ 5) (hd : dk ≤ 4) : (n + 1) ^ dk ≤ 1296 :=
  Nat.le_trans (Nat.pow_le_pow_left (show n + 1 ≤ 6 by omega) dk) (Nat.le_trans (Nat.pow_le_pow_right (by omega) hd) (by decide))
/-! the state behind best's search -/
def bstZ (z : Nat → Int32) (r : Nat → Nat → Int32) (n dk w : Nat) : Nat → Int32 := va_up (va_up (va_up z 22 (bstS z r n dk w).1) 23 (bstS z r n dk w).2.1) 24 (bstS z r n dk w).2.2
def dkOf (r : Nat → Nat → Int32) (f t : Nat) : Nat := dkN (r 8) f (t + 1 - f)
def layR (r : Nat → Nat → Int32) (f t : Nat) : Nat → Nat → Int32 := va_up r 21 (dkA (r 8) f (r 21) (t + 1 - f))
def bstOf (z : Nat → Int32) (r : Nat → Nat → Int32) (n f t : Nat) : Int32 × Int32 × Int32 := bstS z (layR r f t) n (dkOf r f t) ((n + 1) ^ dkOf r f t)
def bstPl (z : Nat → Int32) (r : Nat → Nat → Int32) (n f t : Nat) (what : Int32) : Nat → Int32 := fbR (layR r f t 21) n (dkOf r f t) (r 8) (if what = 2 then ix (bstOf z r n f t).1 else 0)
def R_bestNow (z : Nat → Int32) (g : Nat → Int64) (r : Nat → Nat → Int32) (n f t : Nat) (what : Int32) : Int32 × RS :=
  ((if what = 0 then (bstOf z r n f t).2.1 else if what = 1 then (bstOf z r n f t).2.2 else nI (nOn (bstPl z r n f t what) 12)),
   va_up (va_up (va_up (va_up (va_up z 9 (z 9 + 1)) 20 (nI (dkOf r f t))) 22 (bstOf z r n f t).1) 23 (bstOf z r n f t).2.1) 24 (bstOf z r n f t).2.2, g,
   va_up (va_up r 8 (bstPl z r n f t what)) 21 (layR r f t 21))
def R_best (z : Nat → Int32) (g : Nat → Int64) (r : Nat → Nat → Int32) (n : Nat) (f t what : Int32) : Int32 × RS :=
  if inR f 0 11 ∧ inR t f 11 ∧ ¬ n = 0 then (if inR what 0 2 then (if 4 < dkOf r (ix f) (ix t) ∨ z 9 = 8 then (-103, z, g, r) else R_bestNow z g r n (ix f) (ix t) what) else (-102, z, g, r)) else (-101, z, g, r)
theorem inR_nat2 {x : Int32} {i : Nat} (hi : i < 12) (h : inR x (nI i) 11) : ∃ j, i ≤ j ∧ j < 12 ∧ x = nI j := by
  obtain ⟨j, hj, h2⟩ := nI_of2 (M := 11) (n := 11) rfl (Int32.not_lt.mpr (Int32.le_trans (nI_pos' (by omega)) h.1)) h.2
  refine ⟨j, ?_, by omega, h2⟩
  have h3 := h.1
  rw [h2] at h3
  exact (nI_leI (a := i) (b := j) (by omega) (by omega)).mp h3
theorem bstS_t {z : Nat → Int32} {r : Nat → Nat → Int32} {n dk w : Nat} (h : wLost r n dk w < (bstS z r n dk w).2.1 ∨ (wLost r n dk w = (bstS z r n dk w).2.1 ∧ (bstS z r n dk w).2.2 < wErn r n dk w)) : bstS z r n dk (w + 1) = (nI w, wLost r n dk w, wErn r n dk w) := by
  unfold bstS at h ⊢
  rw [bstR, if_pos h]
theorem bstS_f {z : Nat → Int32} {r : Nat → Nat → Int32} {n dk w : Nat} (h : ¬ (wLost r n dk w < (bstS z r n dk w).2.1 ∨ (wLost r n dk w = (bstS z r n dk w).2.1 ∧ (bstS z r n dk w).2.2 < wErn r n dk w))) : bstS z r n dk (w + 1) = bstS z r n dk w := by
  unfold bstS at h ⊢
  rw [bstR, if_neg h]
