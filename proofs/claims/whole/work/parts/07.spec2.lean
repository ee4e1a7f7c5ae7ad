def allB (p : Nat → Bool) : Nat → Bool
  | 0 => true
  | k + 1 => allB p k && p k
def orI (f : Nat → Int32) : Nat → Int32
  | 0 => 0
  | k + 1 => orI f k ||| f k
abbrev isInP (set k : Int32) : Prop := (set >>> (k &&& 31)) &&& 1 = 1
def sizeI (bits : Int32) (b : Nat) : Int32 := sumI (fun k => (bits >>> (nI k &&& 31)) &&& 1) b
def kindBy (c : Int32) : Int32 := if c = 100 then 4 else if c = 102 then 2 else if c = 103 then 1 else if c = 114 then 3 else if c = 116 then 0 else -1
def atP (pg : Nat → Int32) (pn k : Nat) : Int32 := if k < pn then pg k else 0
def leastP (told : Nat → Int32) (nt : Nat) (x : Int32) : Int32 := if x = 1 then 48 else if x = 2 then 48 else if x = 3 then 97 else if x = 4 then 97 + told (6 * nt + 3) else 49
def mostP (x : Int32) : Int32 := if 3 ≤ x then (if 5 ≤ x then 57 else 108) else 52
def couldB (k w : Int32) : Bool := if w = 0 then decide (¬ k = 1 ∧ ¬ k = 2) else if w = 1 then decide (¬ k = 3) else if w = 2 then decide (k = 1 ∨ k = 2) else decide (k = 4)
def seenOk (st sw sc : Nat → Int32) (t kind : Int32) (k : Nat) : Bool := decide (¬ st k = t) || (couldB kind (sw k) == decide (sc k = 1))
def sortsS (st sw sc : Nat → Int32) (sn : Nat) (t : Int32) (b : Nat) : Int32 := orI (fun kind => if allB (seenOk st sw sc t (nI kind)) sn = true then (1 : Int32) <<< (nI kind &&& 31) else 0) b
def yesN (bits : Int32) (w b : Nat) : Nat := cntP (fun kind => isInP bits (nI kind) ∧ couldB (nI kind) (nI w) = true) b
def worstI (bits : Int32) (w : Nat) : Int32 := if nI (yesN bits w 5) ≤ sizeI bits 16 - nI (yesN bits w 5) then sizeI bits 16 - nI (yesN bits w 5) else nI (yesN bits w 5)
def askL (bits : Int32) : Nat → Int32 × Int32
  | 0 => (-1, 268435456)
  | w + 1 => if (askL bits w).2 ≤ worstI bits w then askL bits w else (nI w, worstI bits w)
def askS (bits : Int32) : Int32 := if bits = 0 then -1 else (askL bits 4).1
abbrev rBk (r : Nat → Nat → Int32) : Nat → Int32 := brk (r 2) (r 3) (r 4) (r 5) (r 6) (r 8)
abbrev rSt (r : Nat → Nat → Int32) : Nat → Int32 := sts (r 2) (r 7) (r 8)
def titleS (r : Nat → Nat → Int32) (sn k : Nat) (what : Int32) : Int32 :=
  if what = 0 then r 2 k else if what = 1 then r 3 k else if what = 2 then r 4 k else if what = 3 then r 5 k else if what = 4 then r 6 k else if what = 5 then r 7 k else
  if what = 6 then nI (nOf (r 8) (nI k) 12) else if what = 7 then sortsS (r 11) (r 12) (r 13) sn (nI k) 5 else askS (sortsS (r 11) (r 12) (r 13) sn (nI k) 5)
def nightS (r : Nat → Nat → Int32) (i : Nat) (what : Int32) : Int32 := if what = 0 then r 8 i else if what = 1 then rBk r i else rSt r i
def dkN (pl : Nat → Int32) (f b : Nat) : Nat := cntP (fun j => pl (f + j) = -1) b
def seatS (r : Nat → Nat → Int32) (t : Int32) (b : Nat) : Int32 := sumI (fun j => if r 8 j = t ∧ rBk r j = 0 then rSt r j else 0) b
def ahdB (o1 o2 s1 s2 one other : Int32) : Bool := if o1 - o2 = 0 then (if s1 - s2 = 0 then decide (one < other) else decide (0 < s1 - s2)) else decide (0 < o1 - o2)
def aheadB (r : Nat → Nat → Int32) (one other : Int32) : Bool := ahdB (nI (nOf (r 8) one 12)) (nI (nOf (r 8) other 12)) (seatS r one 12) (seatS r other 12) one other
def aheadN (r : Nat → Nat → Int32) (k b : Nat) : Nat := cntP (fun e => ¬ e = k ∧ aheadB r (nI e) (nI k) = true) b
def rankF (f : Nat → Nat) (place : Int32) (n : Nat) : Nat → Int32
  | 0 => -101
  | m + 1 => if nI (f (n - (m + 1))) = place then nI (n - (m + 1)) else rankF f place n m
def rankS (r : Nat → Nat → Int32) (n : Nat) (place : Int32) : Int32 := rankF (fun k => aheadN r k n) place n n
def unlN (pl : Nat → Int32) (b : Nat) : Nat := cntP (fun k => 0 < nOf pl (nI k) 12) b
def brkN (r : Nat → Nat → Int32) : Nat := cntP (fun j => 0 < rBk r j) 12
def ernS (r : Nat → Nat → Int32) : Int32 := sumI (fun j => if rBk r j = 0 then rSt r j else 0) 12
def lostS (r : Nat → Nat → Int32) : Int32 := 12 - nI (nOn (r 8) 12) + nI (brkN r)
def howS (z : Nat → Int32) (r : Nat → Nat → Int32) (n : Nat) (what : Int32) : Int32 :=
  if what = 0 then z 1 else if what = 1 then nI (nOn (r 8) 12) else if what = 2 then nI (brkN r) else if what = 3 then lostS r else if what = 4 then ernS r else if what = 5 then nI (unlN (r 8) n) else
  if what = 6 then z 10 else if what = 7 then z 14 else if what = 8 then z 0 else if what = 9 then z 9 else -102
theorem inR_nat {x : Int32} (h : inR x 0 11) : ∃ i, i < 12 ∧ x = nI i := by
  obtain ⟨j, hj, h2⟩ := nI_of2 (M := 11) (n := 11) rfl (Int32.not_lt.mpr h.1) h.2
  exact ⟨j, by omega, h2⟩
theorem isT_nat {x v : Int32} {n : Nat} (hv : v = nI n) (hn : n ≤ 5) (h : inR x 0 (v - 1)) : ∃ k, k < n ∧ x = nI k := by
  subst hv
  have h0 : n ≠ 0 := by
    rintro rfl
    exact absurd (Int32.le_trans h.1 h.2) (by decide)
  have h1 : (nI n - 1 : Int32) = nI (n - 1) := by
    have := pk_sub (a := n) (b := 1) (by omega)
    exact this
  have h2 := h.2
  rw [h1] at h2
  obtain ⟨j, hj, h3⟩ := nI_of2 (M := nI (n - 1)) (n := n - 1) (nI_toInt (by omega)) (Int32.not_lt.mpr h.1) h2
  exact ⟨j, by omega, h3⟩
def titS (z : Nat → Int32) (r : Nat → Nat → Int32) (sn : Nat) (t what : Int32) : Int32 := if inR t 0 (z 1 - 1) then (if inR what 0 8 then titleS r sn (ix t) what else -102) else -101
def asS (z : Nat → Int32) (r : Nat → Nat → Int32) (t kind : Int32) : Int32 := if inR t 0 (z 1 - 1) then (if inR kind 0 4 then (if kind = 0 ∨ r 2 (ix t) = kind ∨ (kind = 1 ∧ r 2 (ix t) = 2) then t else -1) else -102) else -101
def nigS (z : Nat → Int32) (r : Nat → Nat → Int32) (x what : Int32) : Int32 := if inR x 0 11 ∧ ¬ z 1 = 0 then (if inR what 0 2 then nightS r (ix x) what else -102) else -101
