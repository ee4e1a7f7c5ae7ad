theorem fb_andL (a b : Nat) : lN a &&& lN b = lN (a &&& b) := by
  apply Int64.toBitVec_inj.1
  show BitVec.ofNat 64 a &&& BitVec.ofNat 64 b = BitVec.ofNat 64 (a &&& b)
  apply BitVec.eq_of_getLsbD_eq
  intro i hi
  simp [hi]
theorem fb_maskL (n k : Nat) : lN n &&& lN (2 ^ k - 1) = lN (n % 2 ^ k) := by rw [fb_andL, Nat.and_two_pow_sub_one_eq_mod]
theorem mask31 (n : Nat) : lN n &&& 2147483647 = lN (n % 2147483648) := fb_maskL n 31
def nxt (sd : Nat) : Nat := (1103515245 * sd + 12345) % 2147483648
theorem nxt_lt (sd : Nat) : nxt sd < 2147483648 := Nat.mod_lt _ (by omega)
def itN : Nat → Nat → Nat
  | 0, sd => sd
  | k + 1, sd => nxt (itN k sd)
theorem itN_lt {sd : Nat} (h : sd < 2147483648) : ∀ k, itN k sd < 2147483648
  | 0 => h
  | _ + 1 => nxt_lt _
theorem itN_add (sd : Nat) (j : Nat) : ∀ i, itN i (itN j sd) = itN (j + i) sd
  | 0 => rfl
  | i + 1 => by
    show nxt (itN i (itN j sd)) = nxt (itN (j + i) sd)
    rw [itN_add sd j i]
def dpl (n sd : Nat) : Nat → Int32 := fun j => nI (itN (j + 1) sd / 65536 % (n + 1)) - 1
def dpS (n sd : Nat) (pl : Nat → Int32) : Nat → (Nat → Int32)
  | 0 => pl
  | k + 1 => ovN pl (dpl n (itN (12 * k) sd)) 12
theorem ovN_ovN (f h1 h2 : Nat → Int32) (n : Nat) : ovN (ovN f h1 n) h2 n = ovN f h2 n := by
  funext j; by_cases q : j < n <;> simp [ovN, q]
theorem ovN_dpS (n sd : Nat) (pl h : Nat → Int32) (k : Nat) : ovN (dpS n sd pl k) h 12 = ovN pl h 12 := by
  cases k with
  | zero => rfl
  | succ k => exact ovN_ovN _ _ _ _
theorem ovN_back (n sd : Nat) (pl la : Nat → Int32) (k : Nat) : ovN (dpS n sd pl k) (ovN la pl 12) 12 = pl := by
  rw [ovN_dpS]
  funext j; by_cases q : j < 12 <;> simp [ovN, q]
theorem okP_dpl {n sd : Nat} {pl : Nat → Int32} : okP n (ovN pl (dpl n sd) 12) := by
  intro j hj
  rw [ovN_in hj]
  exact val_ok
abbrev dR (r : Nat → Nat → Int32) (n sd k : Nat) : Nat → Nat → Int32 := va_up r 8 (ovN (r 8) (dpl n (itN (12 * k) sd)) 12)
def dBr (r : Nat → Nat → Int32) (n sd : Nat) : Nat → Nat
  | 0 => 0
  | k + 1 => dBr r n sd k + brkN (dR r n sd k)
def dEr (r : Nat → Nat → Int32) (n sd : Nat) : Nat → Int32
  | 0 => 0
  | k + 1 => dEr r n sd k + ernS (dR r n sd k)
def R_drawnNow (z : Nat → Int32) (g : Nat → Int64) (r : Nat → Nat → Int32) (n tm sd : Nat) (what : Int32) : Int32 × RS :=
  ((if what = 0 then nI (dBr r n sd tm) else if what = 1 then dEr r n sd tm else nI (itN (12 * tm) sd)), z, va_up g 25 (lN (itN (12 * tm) sd)), va_up r 26 (ovN (r 26) (r 8) 12))
def R_drawn (z : Nat → Int32) (g : Nat → Int64) (r : Nat → Nat → Int32) (n : Nat) (times seed what : Int32) : Int32 × RS :=
  if inR times 1 20 ∧ ¬ seed < 0 ∧ inR what 0 2 then (if n = 0 then (-103, z, g, r) else R_drawnNow z g r n (ix times) (ix seed) what) else (-102, z, g, r)
theorem inR_nat3 {x : Int32} (h : inR x 1 20) : ∃ i, 1 ≤ i ∧ i ≤ 20 ∧ x = nI i := by
  obtain ⟨j, hj, h2⟩ := nI_of2 (M := 20) (n := 20) rfl (Int32.not_lt.mpr (Int32.le_trans (by decide) h.1)) h.2
  refine ⟨j, ?_, by omega, h2⟩
  have h3 := h.1
  rw [h2] at h3
  exact (nI_leI (a := 1) (b := j) (by omega) (by omega)).mp h3
def mixH (h : Int64) (v : Int32) : Int64 := 31 * h + v.toInt64
def fH (f : Nat → Int32) (h : Int64) : Nat → Int64
  | 0 => h
  | k + 1 => mixH (fH f h k) (f k)
def fH2 (f : Nat → Nat → Int32) (b : Nat) (h : Int64) : Nat → Int64
  | 0 => h
  | k + 1 => fH (f k) (fH2 f b h k) b
def dg1 (r : Nat → Nat → Int32) (sn k : Nat) : Int64 := fH2 (fun k w => titleS r sn k (nI w)) 9 1459 k
def dg2 (r : Nat → Nat → Int32) (n sn k : Nat) : Int64 := fH2 (fun i w => nightS r i (nI w)) 3 (dg1 r sn n) k
def dg3 (r : Nat → Nat → Int32) (n sn k : Nat) : Int64 := fH (fun k => rankS r n (nI k)) (dg2 r n sn (if 0 < n then 12 else 0)) k
def dg4 (r : Nat → Nat → Int32) (n sn k : Nat) : Int64 := fH (r 15) (dg3 r n sn n) k
def dg5 (z : Nat → Int32) (r : Nat → Nat → Int32) (n sn pn k : Nat) : Int64 := fH (fun w => howS z r n (nI w)) (dg4 r n sn pn) k
