theorem retI {v w : Int32} (h : v = w) : Outcome.returned (some (.int v)) = .returned (some (.int w)) := by rw [h]
theorem retL {v w : Int64} (h : v = w) : Outcome.returned (some (.long v)) = .returned (some (.long w)) := by rw [h]
theorem retA {v w : Nat} (h : v = w) : Outcome.returned (some (.ref v)) = .returned (some (.ref w)) := by rw [h]
theorem narrow_bi {c : Prop} [Decidable c] : narrow .boolean (.int (bi c)) = .int (bi c) := by by_cases h : c <;> simp [bi, h] <;> rfl
theorem fits_bi {c : Prop} [Decidable c] : fits .boolean (.int (bi c)) = true := by by_cases h : c <;> simp [bi, h] <;> rfl
theorem bi_t {c : Prop} [Decidable c] (h : c) : (1 : Int32) = bi c := by simp [bi, h]
theorem bi_f {c : Prop} [Decidable c] (h : ¬ c) : (0 : Int32) = bi c := by simp [bi, h]
theorem bi_c {c d : Prop} [Decidable c] [Decidable d] (h : c ↔ d) : bi c = bi d := by by_cases hc : c <;> simp [bi, ← h, hc]
theorem wc0 {D : va_G} {H : Heap} : va_P D vwCl [] H := fun k q h => by simp at h
section ENTRY
variable {l : Launch} {D : va_G} {kB kI kT : ClassId} {ks sk sv : Nat}
theorem MR.go {y : MethodName} {c : ByteArray} {n : Nat} {ret : Option FieldType} {fr lo : Nat} {as : List Value} {ws : va_W} {w : Option Value} (hy : plainName y.cls = true) (hn : (lg_sl as).length ≤ n)
    (body : ∀ (p : Program) (e : Env) (s : State) (m : MethodId) (below : List Frame) (meth : Method) (c0 : Code) (args : Array Value) (Q : State → Prop) (ls : Array Slot), Q = MQ below (QR w) args s 0 0 NA → p.tables.exec = Jvm.exec → c0.code = c → meth.sig.returnType = ret → c0.maxLocals = n → s.vm.findClass y.cls = some m.cls → (∀ w ∈ GG, w.before args s = true) → meth.locks = false → EN D kB kI kT ks sk sv NA s → va_P D vwCl ws s.heap → va_S NA s.heap s.heap [] → lv_has ls n (lv_args 0 as) →
      W p l e (rmO fr lo) s m args below meth c0 s.heap [] 0 0 Q (F0 m 0 ls [])) : MR l y c n ret fr lo D kB kI kT ks sk sv as ws w :=
  MR.of hy hn (fun p e s m below meth c0 ls hx hb hr hml hown hts hlocks hE hP hS hl => body p e s m below meth c0 _ _ ls rfl hx hb hr hml hown hts hlocks hE hP hS hl)
theorem MW.go {y : MethodName} {c : ByteArray} {n : Nat} {ret : Option FieldType} {fr lo : Nat} {as : List Value} {ws w1 : va_W} {w : Option Value} (hy : plainName y.cls = true) (hn : (lg_sl as).length ≤ n)
    (body : ∀ (p : Program) (e : Env) (s : State) (m : MethodId) (below : List Frame) (meth : Method) (c0 : Code) (args : Array Value) (Q : State → Prop) (ls : Array Slot) (A : Nat → Prop), Q = MQ below (QW D w w1 A) args s 0 0 A → p.tables.exec = Jvm.exec → c0.code = c → meth.sig.returnType = ret → c0.maxLocals = n → s.vm.findClass y.cls = some m.cls → (∀ w ∈ GG, w.before args s = true) → meth.locks = false → EN D kB kI kT ks sk sv A s → va_P D vwCl ws s.heap → va_D A ws → va_S A s.heap s.heap [] → lv_has ls n (lv_args 0 as) →
      W p l e (rmO fr lo) s m args below meth c0 s.heap [] 0 0 Q (F0 m 0 ls [])) : MW l y c n ret fr lo D kB kI kT ks sk sv as ws w w1 :=
  MW.of hy hn (fun p e s m below meth c0 ls A hx hb hr hml hown hts hlocks hE hP hD hS hl => body p e s m below meth c0 _ _ ls A rfl hx hb hr hml hown hts hlocks hE hP hD hS hl)
variable {p : Program} {e : Env} {R : Room} {s : State} {m : MethodId} {args : Array Value} {below : List Frame} {meth : Method} {c : Code} {H : Heap} {locs : List Loc} {cells slots : Nat} {Q : State → Prop}
variable {cc : ByteArray} {rest : List Value} {pc : Nat} {ls : Array Slot} {ws : va_W} {A : Nat → Prop}
theorem vEq {x v : Int32} (h : x = v) (k : W p l e R s m args below meth c H locs cells slots Q (F0 m pc ls (.int v :: rest))) : W p l e R s m args below meth c H locs cells slots Q (F0 m pc ls (.int x :: rest)) := by
  subst h; exact k
theorem iaddV {x y v : Int32} (hx : p.tables.exec = Jvm.exec) (hb : c.code = cc) (hdg : decode cc pc = .ok (.iadd, 1)) (h : x + y = v) (k : W p l e R s m args below meth c H locs cells slots Q (F0 m (pc + 1) ls (.int v :: rest))) : W p l e R s m args below meth c H locs cells slots Q (F0 m pc ls (.int y :: .int x :: rest)) := by
  subst h; exact lv_iadd hx hb hdg k
theorem isubV {x y v : Int32} (hx : p.tables.exec = Jvm.exec) (hb : c.code = cc) (hdg : decode cc pc = .ok (.isub, 1)) (h : x - y = v) (k : W p l e R s m args below meth c H locs cells slots Q (F0 m (pc + 1) ls (.int v :: rest))) : W p l e R s m args below meth c H locs cells slots Q (F0 m pc ls (.int y :: .int x :: rest)) := by
  subst h; exact lv_isub hx hb hdg k
theorem imulV {x y v : Int32} (hx : p.tables.exec = Jvm.exec) (hb : c.code = cc) (hdg : decode cc pc = .ok (.imul, 1)) (h : x * y = v) (k : W p l e R s m args below meth c H locs cells slots Q (F0 m (pc + 1) ls (.int v :: rest))) : W p l e R s m args below meth c H locs cells slots Q (F0 m pc ls (.int y :: .int x :: rest)) := by
  subst h; exact lv_imul hx hb hdg k
theorem iremV {x y v : Int32} (hx : p.tables.exec = Jvm.exec) (hb : c.code = cc) (hdg : decode cc pc = .ok (.irem, 1)) (hne : ¬ y = 0) (h : x - x / y * y = v) (k : W p l e R s m args below meth c H locs cells slots Q (F0 m (pc + 1) ls (.int v :: rest))) : W p l e R s m args below meth c H locs cells slots Q (F0 m pc ls (.int y :: .int x :: rest)) := by
  subst h; exact lv_irem hx hb hdg hne k
theorem idivV {x y v : Int32} (hx : p.tables.exec = Jvm.exec) (hb : c.code = cc) (hdg : decode cc pc = .ok (.idiv, 1)) (hne : ¬ y = 0) (h : x / y = v) (k : W p l e R s m args below meth c H locs cells slots Q (F0 m (pc + 1) ls (.int v :: rest))) : W p l e R s m args below meth c H locs cells slots Q (F0 m pc ls (.int y :: .int x :: rest)) := by
  subst h; exact lv_idiv hx hb hdg hne k
theorem aldBX (hx : p.tables.exec = Jvm.exec) (hb : c.code = cc) (hE : EN D kB kI kT ks sk sv A s) (hP : va_P D vwCl ws H) {a N : Nat} {f : Nat → Int32} (q0 : Nat) (he : ws[q0]? = some (a, .inl (kB, N, .inl f))) {x : Int32} (hj : vp_in x N) (hdg : decode cc pc = .ok (.baload, 1))
    (kk : W p l e R s m args below meth c H locs cells slots Q (F0 m (pc + 1) ls (.int (f x.toNatClampNeg) :: rest))) : W p l e R s m args below meth c H locs cells slots Q (F0 m pc ls (.int x :: .ref a :: rest)) :=
  va_bald hx hb hE.1 hP q0 1 he rfl hj hdg kk
theorem astB (hx : p.tables.exec = Jvm.exec) (hb : c.code = cc) (hE : EN D kB kI kT ks sk sv A s) (hP : va_P D vwCl ws H) (hD : va_D A ws) (hS : va_S A s.heap H locs) {a N : Nat} {f : Nat → Int32} {x : Int32} (q0 : Nat) (he : ws[q0]? = some (a, .inl (kB, N, .inl f))) (j : Nat) (hj : j < N) (hN : N < 2147483648) (hxn : vp_nar .byte x = x) (hdg : decode cc pc = .ok (.bastore, 1))
    (kk : ∀ (H1 : Heap) (locs1 : List Loc), va_P D vwCl (ws.set q0 (a, .inl (kB, N, .inl (upd f j x)))) H1 → va_D A (ws.set q0 (a, .inl (kB, N, .inl (upd f j x)))) → va_S A s.heap H1 locs1 → W p l e R s m args below meth c H1 locs1 cells slots Q (F0 m (pc + 1) ls rest)) : W p l e R s m args below meth c H locs cells slots Q (F0 m pc ls (.int x :: .int (nI j) :: .ref a :: rest)) := by
  refine va_bast hx hb hE.1 hP hD hS q0 1 he rfl (vp_in_nI hj hN) hdg ?_
  rw [nI_clamp (Nat.lt_trans hj hN), hxn]
  exact kk
end ENTRY
/-! counting and adding -/
def cntP (p : Nat → Prop) [DecidablePred p] : Nat → Nat
  | 0 => 0
  | k + 1 => cntP p k + (if p k then 1 else 0)
theorem cntP_le (p : Nat → Prop) [DecidablePred p] : ∀ k, cntP p k ≤ k
  | 0 => Nat.le_refl 0
  | k + 1 => by
    have h := cntP_le p k
    have : (if p k then 1 else 0) ≤ 1 := by split <;> omega
    show cntP p k + (if p k then 1 else 0) ≤ k + 1
    omega
theorem cntP_t {p : Nat → Prop} [DecidablePred p] {k : Nat} (h : p k) : cntP p (k + 1) = cntP p k + 1 := by simp [cntP, h]
theorem cntP_f {p : Nat → Prop} [DecidablePred p] {k : Nat} (h : ¬ p k) : cntP p (k + 1) = cntP p k := by simp [cntP, h]
def sumI (f : Nat → Int32) : Nat → Int32
  | 0 => 0
  | k + 1 => sumI f k + f k
def anyB (p : Nat → Bool) : Nat → Bool
  | 0 => false
  | k + 1 => anyB p k || p k
/-! the reference's words -/
abbrev inR (v lo hi : Int32) : Prop := lo ≤ v ∧ v ≤ hi
abbrev ix (x : Int32) : Nat := x.toNatClampNeg
theorem ix_nI {j : Nat} (h : j < 2147483648) : ix (nI j) = j := nI_clamp h
def rOn (pl : Nat → Int32) (n : Int32) : Int32 := if inR n 0 11 then pl (ix n) else -1
abbrev hasC (ca pl : Nat → Int32) (n cast : Int32) : Prop := ¬ rOn pl n = -1 ∧ ca (ix (rOn pl n)) = cast
abbrev isG (x : Int32) : Prop := x = 1 ∨ x = 2
def nOf (pl : Nat → Int32) (t : Int32) (b : Nat) : Nat := cntP (fun n => pl n = t) b
def nOn (pl : Nat → Int32) (b : Nat) : Nat := cntP (fun n => ¬ pl n = -1) b
def cBeh (ca pl : Nat → Int32) (i : Nat) (cast : Int32) (k : Nat) : Bool := anyB (fun j => decide (hasC ca pl (nI (i + 1 + j)) cast)) k
abbrev draws (kd pl : Nat → Int32) (n t : Int32) : Prop := ¬ rOn pl n = -1 ∧ ¬ rOn pl n = t ∧ kd (ix (rOn pl n)) = 4
def fade (x : Int32) : Nat → Int32
  | 0 => x
  | k + 1 => fade x k * 70 / 100
def brk (kd se ca fi la pl : Nat → Int32) (i : Nat) : Int32 :=
  if pl i = -1 then 0 else
  if ¬ inR (nI i) (fi (ix (pl i))) (la (ix (pl i))) then 1 else
  if ¬ rOn pl (nI i - 1) = -1 ∧ ¬ se (ix (rOn pl (nI i - 1))) = se (ix (pl i)) then 2 else
  if hasC ca pl (nI i - 1) (ca (ix (pl i))) ∧ hasC ca pl (nI i - 2) (ca (ix (pl i))) then 3 else
  if isG (kd (ix (pl i))) ∧ 0 < nOf pl (pl i) i then 4 else
  if kd (ix (pl i)) = 2 ∧ cBeh ca pl i (ca (ix (pl i))) (11 - i) = true then 5 else
  if kd (ix (pl i)) = 3 ∧ ¬ rOn pl (nI i - 1) = pl i ∧ ¬ rOn pl (nI (i + 1)) = pl i then 6 else 0
def sts (kd fl pl : Nat → Int32) (i : Nat) : Int32 :=
  if pl i = -1 then 0 else
  if draws kd pl (nI i - 1) (pl i) ∨ draws kd pl (nI (i + 1)) (pl i) then (if isG (kd (ix (pl i))) then 3 * fade (100 * fl (ix (pl i))) (min (nOf pl (pl i) i) 3) / 2 else fade (100 * fl (ix (pl i))) (min (nOf pl (pl i) i) 3)) + 50
  else (if isG (kd (ix (pl i))) then 3 * fade (100 * fl (ix (pl i))) (min (nOf pl (pl i) i) 3) / 2 else fade (100 * fl (ix (pl i))) (min (nOf pl (pl i) i) 3))
/-- a plan's nights hold -1, or one of n titles -/
def okP (n : Nat) (pl : Nat → Int32) : Prop := ∀ i, i < 12 → pl i = -1 ∨ ∃ t, t < n ∧ pl i = nI t
theorem okP_in {n : Nat} {pl : Nat → Int32} (h : okP n pl) (hn : n ≤ 5) {i : Nat} (hi : i < 12) (hne : ¬ pl i = -1) : vp_in (pl i) 5 := by
  rcases h i hi with q | ⟨t, ht, q⟩
  · exact absurd q hne
  · rw [q]; exact vp_in_nI (by omega) (by omega)
theorem rOn_in {n : Nat} {pl : Nat → Int32} (h : okP n pl) (hn : n ≤ 5) {x : Int32} (hne : ¬ rOn pl x = -1) : vp_in (rOn pl x) 5 := by
  unfold rOn at hne ⊢
  split at hne
  · rename_i q
    rw [if_pos q]
    obtain ⟨j, hj, rfl⟩ := nI_of2 (M := 11) (n := 11) rfl (Int32.not_lt.mpr q.1) q.2
    rw [ix_nI (by omega)] at hne ⊢
    exact okP_in h hn (by omega) hne
  · exact absurd rfl hne
def wR (kB kI : ClassId) (o : Nat) (a : Nat → Nat) (z : Nat → Int32) (g : Nat → Int64) (r : Nat → Nat → Int32) : va_W :=
  [(o, .inr (8, [.int (z 0), .int (z 1), .ref (a 2), .ref (a 3), .ref (a 4), .ref (a 5), .ref (a 6), .ref (a 7), .ref (a 8), .int (z 9), .int (z 10), .ref (a 11), .ref (a 12), .ref (a 13), .int (z 14), .ref (a 15), .int (z 16), .int (z 17), .int (z 18), .ref (a 19), .int (z 20), .ref (a 21), .int (z 22), .int (z 23), .int (z 24), .long (g 25), .ref (a 26), .int (z 27), .int (z 28), .int (z 29), .int (z 30), .ref (a 31), .ref (a 32), .ref (a 33), .ref (a 34), .ref (a 35), .ref (a 36), .ref (a 37), .ref (a 38), .ref (a 39), .ref (a 40), .long (g 41)])), (a 2, .inl (kI, 5, .inl (r 2))), (a 3, .inl (kI, 5, .inl (r 3))), (a 4, .inl (kI, 5, .inl (r 4))), (a 5, .inl (kI, 5, .inl (r 5))), (a 6, .inl (kI, 5, .inl (r 6))), (a 7, .inl (kI, 5, .inl (r 7))), (a 8, .inl (kI, 12, .inl (r 8))), (a 11, .inl (kI, 6, .inl (r 11))), (a 12, .inl (kI, 6, .inl (r 12))), (a 13, .inl (kI, 6, .inl (r 13))), (a 15, .inl (kB, 40, .inl (r 15))), (a 19, .inl (kI, 30, .inl (r 19))), (a 21, .inl (kI, 4, .inl (r 21))), (a 26, .inl (kI, 12, .inl (r 26))), (a 31, .inl (kI, 5, .inl (r 31))), (a 32, .inl (kI, 5, .inl (r 32))), (a 33, .inl (kI, 5, .inl (r 33))), (a 34, .inl (kI, 5, .inl (r 34))), (a 35, .inl (kI, 5, .inl (r 35))), (a 36, .inl (kI, 5, .inl (r 36))), (a 37, .inl (kI, 12, .inl (r 37))), (a 38, .inl (kI, 6, .inl (r 38))), (a 39, .inl (kI, 6, .inl (r 39))), (a 40, .inl (kI, 6, .inl (r 40)))]
