def wAr (kI : ClassId) (aa : Nat) (NN : Nat) (af : Nat → Int32) : va_W :=
  [(aa, .inl (kI, NN, .inl (af)))]
def wTs (kT : ClassId) (x : Nat → Nat) (n : Int32) (c : Nat → Nat → Int32) : va_W :=
  [(x 7, .inr (6, [.ref (x 8), .int n])), (x 8, .inl (kT, 5, .inr (.inr (.inr (.inr (fun k => some (x (9 + k)))))))), (x 9, .inr (5, [.int ((c 2) 0), .int ((c 3) 0), .int ((c 4) 0), .int ((c 5) 0), .int ((c 6) 0), .int ((c 7) 0)])), (x 10, .inr (5, [.int ((c 2) 1), .int ((c 3) 1), .int ((c 4) 1), .int ((c 5) 1), .int ((c 6) 1), .int ((c 7) 1)])), (x 11, .inr (5, [.int ((c 2) 2), .int ((c 3) 2), .int ((c 4) 2), .int ((c 5) 2), .int ((c 6) 2), .int ((c 7) 2)])), (x 12, .inr (5, [.int ((c 2) 3), .int ((c 3) 3), .int ((c 4) 3), .int ((c 5) 3), .int ((c 6) 3), .int ((c 7) 3)])), (x 13, .inr (5, [.int ((c 2) 4), .int ((c 3) 4), .int ((c 4) 4), .int ((c 5) 4), .int ((c 6) 4), .int ((c 7) 4)]))]
def wPl (kI kT : ClassId) (pa : Nat → Nat) (d : Nat → Nat → Int32) (u : Nat → Int32) (x : Nat → Nat) (n : Int32) (c : Nat → Nat → Int32) : va_W :=
  [(pa 0, .inr (1, [.ref (x 7), .ref (pa 1), .ref (pa 2), .ref (pa 3), .ref (pa 4), .ref (pa 5), .ref (pa 6), .int (u 57), .int (u 58), .int (u 59)])), (pa 1, .inl (kI, 12, .inl (d 8))), (pa 2, .inl (kI, 12, .inl (d 50))), (pa 3, .inl (kI, 12, .inl (d 51))), (pa 4, .inl (kI, 5, .inl (d 52))), (pa 5, .inl (kI, 5, .inl (d 53))), (pa 6, .inl (kI, 5, .inl (d 54))), (x 7, .inr (6, [.ref (x 8), .int n])), (x 8, .inl (kT, 5, .inr (.inr (.inr (.inr (fun k => some (x (9 + k)))))))), (x 9, .inr (5, [.int ((c 2) 0), .int ((c 3) 0), .int ((c 4) 0), .int ((c 5) 0), .int ((c 6) 0), .int ((c 7) 0)])), (x 10, .inr (5, [.int ((c 2) 1), .int ((c 3) 1), .int ((c 4) 1), .int ((c 5) 1), .int ((c 6) 1), .int ((c 7) 1)])), (x 11, .inr (5, [.int ((c 2) 2), .int ((c 3) 2), .int ((c 4) 2), .int ((c 5) 2), .int ((c 6) 2), .int ((c 7) 2)])), (x 12, .inr (5, [.int ((c 2) 3), .int ((c 3) 3), .int ((c 4) 3), .int ((c 5) 3), .int ((c 6) 3), .int ((c 7) 3)])), (x 13, .inr (5, [.int ((c 2) 4), .int ((c 3) 4), .int ((c 4) 4), .int ((c 5) 4), .int ((c 6) 4), .int ((c 7) 4)]))]
def wPg (kI : ClassId) (b : Nat → Nat) (cd : Nat → Int32) (ln : Int32) : va_W :=
  [(b 31, .inr (0, [.ref (b 32), .int ln])), (b 32, .inl (kI, 40, .inl (cd)))]
def wSe (kI : ClassId) (x : Nat → Nat) (c : Nat → Nat → Int32) (sz : Int32) : va_W :=
  [(x 15, .inr (4, [.ref (x 16), .ref (x 17), .int sz])), (x 16, .inl (kI, 6, .inl (c 11))), (x 17, .inl (kI, 6, .inl (c 12)))]
def wTi (ta : Nat) (f0 : Int32) (f1 : Int32) (f2 : Int32) (f3 : Int32) (f4 : Int32) (f5 : Int32) : va_W :=
  [(ta, .inr (5, [.int f0, .int f1, .int f2, .int f3, .int f4, .int f5]))]
theorem wTs_t {kT : ClassId} {x : Nat → Nat} {n : Int32} {c : Nat → Nat → Int32} {k : Nat} (h : k < 5) : (wTs kT x n c)[2 + k]? = some (x (9 + k), .inr (5, [.int ((c 2) k), .int ((c 3) k), .int ((c 4) k), .int ((c 5) k), .int ((c 6) k), .int ((c 7) k)])) := by
  match k, h with
  | 0, _ => rfl
  | 1, _ => rfl
  | 2, _ => rfl
  | 3, _ => rfl
  | 4, _ => rfl
theorem wPl_t {kI kT : ClassId} {pa : Nat → Nat} {d : Nat → Nat → Int32} {u : Nat → Int32} {x : Nat → Nat} {n : Int32} {c : Nat → Nat → Int32} {k : Nat} (h : k < 5) : (wPl kI kT pa d u x n c)[9 + k]? = some (x (9 + k), .inr (5, [.int ((c 2) k), .int ((c 3) k), .int ((c 4) k), .int ((c 5) k), .int ((c 6) k), .int ((c 7) k)])) := by
  match k, h with
  | 0, _ => rfl
  | 1, _ => rfl
  | 2, _ => rfl
  | 3, _ => rfl
  | 4, _ => rfl
section
variable {l : Launch} {D : va_G} {kB kI kT : ClassId} {ks sk sv : Nat}
variable {p : Program} {e : Env} {R : Room} {s : State} {m : MethodId} {args : Array Value} {below : List Frame} {meth : Method} {c : Code} {H : Heap} {locs : List Loc} {cells slots : Nat} {Q : State → Prop}
variable {cc : ByteArray} {rest : List Value} {pc : Nat} {ls : Array Slot} {ws : va_W} {A : Nat → Prop}
theorem aldR (hx : p.tables.exec = Jvm.exec) (hb : c.code = cc) (hE : EN D kB kI kT ks sk sv A s) (hP : va_P D vwCl ws H) {a N : Nat} {f : Nat → Option Nat} {v : Nat} (q0 : Nat) (he : ws[q0]? = some (a, .inl (kT, N, .inr (.inr (.inr (.inr f)))))) (j : Nat) (hj : j < N ∧ N < 2147483648) (hv : f j = some v) (hdg : decode cc pc = .ok (.aaload, 1))
    (kk : W p l e R s m args below meth c H locs cells slots Q (F0 m (pc + 1) ls (.ref v :: rest))) : W p l e R s m args below meth c H locs cells slots Q (F0 m pc ls (.int (nI j) :: .ref a :: rest)) := by
  refine va_aldq hx hb hE.1 hP q0 2 he rfl (vp_in_nI hj.1 hj.2) hdg ?_
  rw [nI_clamp (Nat.lt_trans hj.1 hj.2), hv]
  exact kk
def ACW (own : String) (index : Nat) : Prop := Cond.methodLink own index arraycopyName ∈ GG ∧ Cond.native arraycopyName ∈ GG ∧ Cond.static arraycopyName ∈ GG ∧ Cond.initialized "java/lang/System" ∈ GG
theorem cpy_ov (f g : Nat → Int32) (n : Nat) : va_cpy f g 0 0 n = ovN g f n := by
  funext k; simp [va_cpy, ovN]
theorem acp {own : String} {index nL : Nat} (hx : p.tables.exec = Jvm.exec) (hb : c.code = cc) (hml : c.maxLocals = nL) (hown : s.vm.findClass own = some m.cls) (hw : ACW own index) {f g : Nat → Int32} {N n0 n1 a0 a1 : Nat} (hE : EN D kB kI kT ks sk sv A s) (hP : va_P D vwCl ws H) (hD : va_D A ws) (hS : va_S A s.heap H locs) (q0 q1 : Nat) (h0 : ws[q0]? = some (a0, .inl (kI, n0, .inl f))) (h1 : ws[q1]? = some (a1, .inl (kI, n1, .inl g))) (hsz : ls.size = nL) (hn0 : N ≤ n0 ∧ N < 2147483648) (hn1 : N ≤ n1) (hfr : 1 ≤ R.frames) (hlo : (rest.map fun v => v.category).sum + (nativeFrameWords "java/lang/System" "arraycopy" 5 + 11) ≤ R.locals) (hts : ∀ w ∈ GG, w.before args s = true) (hdg : decode cc pc = .ok (.invokestatic index, 3))
    (kk : ∀ (H1 : Heap) (locs1 : List Loc), va_P D vwCl (ws.set q1 (a1, .inl (kI, n1, .inl (ovN g f N)))) H1 → va_D A (ws.set q1 (a1, .inl (kI, n1, .inl (ovN g f N)))) → va_S A s.heap H1 locs1 → W p l e R s m args below meth c H1 locs1 cells slots Q (F0 m (pc + 3) ls rest)) : W p l e R s m args below meth c H locs cells slots Q (F0 m pc ls (.int (nI N) :: .int 0 :: .ref a1 :: .int 0 :: .ref a0 :: rest)) := by
  have e1 : (nI N).toNatClampNeg = N := nI_clamp hn0.2
  refine va_copyi hx hb (hml.trans hsz.symm) hown (hts _ hw.1) (hts _ hw.2.1) (hts _ hw.2.2.1) (hts _ hw.2.2.2) hE.1 hP hD hS q0 q1 0 0 h0 h1 rfl rfl rfl (by decide) (by decide) (nI_pos hn0.2) (by rw [e1]; show 0 + N ≤ n0; omega) (by rw [e1]; show 0 + N ≤ n1; omega) (fun _ _ => rfl) hfr hlo hdg ?_
  rw [e1]
  intro H1 locs1 g1 g2 g3
  have e2 : va_cpy f g (Int32.toNatClampNeg 0) (Int32.toNatClampNeg 0) N = ovN g f N := cpy_ov f g N
  rw [e2] at g1 g2
  exact kk H1 locs1 g1 g2 g3
end

theorem lt_le11 {x : Int32} (h : x < 12) : x ≤ 11 := by
  rw [Int32.le_iff_toInt_le]
  have h1 := Int32.lt_iff_toInt_lt.mp h
  have e1 : (12 : Int32).toInt = 12 := by decide
  have e2 : (11 : Int32).toInt = 11 := by decide
  omega
theorem rOn_neg {pl : Nat → Int32} {x : Int32} (h : x < 0) : rOn pl x = -1 := by
  rw [rOn, if_neg (fun q => Int32.not_lt.mpr q.1 h)]
theorem rOn_big {pl : Nat → Int32} {x : Int32} (h : ¬ x < 12) : rOn pl x = -1 := by
  rw [rOn, if_neg (fun q => h (Int32.lt_of_le_of_lt q.2 (by decide)))]
theorem rOn_at {pl : Nat → Int32} {i : Nat} (h : i < 12) : rOn pl (nI i) = pl i := by
  have h1 : inR (nI i) 0 11 := ⟨nI_pos' (by omega), (nI_leI (a := i) (b := 11) (by omega) (by omega)).mpr (by omega)⟩
  rw [rOn, if_pos h1, ix_nI (by omega)]
theorem nI_nm1 {t : Nat} (h : t < 1000) : ¬ nI t = -1 := fun q => nI_pos (n := t) (by omega) (by rw [q]; decide)
theorem okP_neg {n : Nat} {pl : Nat → Int32} (h : okP n pl) (hn : n ≤ 5) {i : Nat} (hi : i < 12) (q : pl i < 0) : pl i = -1 := by
  rcases h i hi with e | ⟨t, ht, e⟩
  · exact e
  · rw [e] at q; exact absurd q (nI_pos (by omega))
theorem okP_big {n : Nat} {pl : Nat → Int32} (h : okP n pl) (hn : n ≤ 5) {i : Nat} (hi : i < 12) (q0 : ¬ pl i < 0) (q : nI n ≤ pl i) : False := by
  rcases h i hi with e | ⟨t, ht, e⟩
  · rw [e] at q0; exact q0 (by decide)
  · rw [e] at q
    have := (nI_leI (a := n) (b := t) (by omega) (by omega)).mp q
    omega
theorem rOn_nat {n : Nat} {pl : Nat → Int32} (h : okP n pl) {x : Int32} (hne : ¬ rOn pl x = -1) : ∃ t, t < n ∧ rOn pl x = nI t := by
  unfold rOn at hne ⊢
  split at hne
  · rename_i q
    rw [if_pos q]
    obtain ⟨j, hj, rfl⟩ := inR_nat q
    rw [ix_nI (by omega)] at hne ⊢
    rcases h j hj with e | e
    · exact absurd e hne
    · exact e
  · exact absurd rfl hne
abbrev isOfP (kd asked : Int32) : Prop := asked = 0 ∨ asked = kd ∨ (asked = 1 ∧ kd = 2)
theorem isOf1 {kd : Int32} : isOfP kd 1 ↔ isG kd := by
  constructor
  · rintro (h | h | h)
    · exact absurd h (by decide)
    · exact Or.inl h.symm
    · exact Or.inr h.2
  · rintro (h | h)
    · exact Or.inr (Or.inl h.symm)
    · exact Or.inr (Or.inr ⟨rfl, h⟩)
