/-! the law: two worlds side by side -/
def DD (A : Nat → Prop) (wa wb : va_W) : Prop := va_D A wa ∧ va_D A wb ∧ ∀ q, AA wa q → ¬ AA wb q
theorem key_map {w1 wa : va_W} (h : w1.map (fun q => q.1) = wa.map (fun q => q.1)) {k : Nat} {x : Nat × va_E} (hk : w1[k]? = some x) : ∃ x0 : Nat × va_E, wa[k]? = some x0 ∧ x0.1 = x.1 := by
  have h4 : (w1.map (fun q => q.1))[k]? = some x.1 := by rw [List.getElem?_map, hk]; rfl
  rw [h, List.getElem?_map] at h4
  cases hw : wa[k]? with
  | none => rw [hw] at h4; cases h4
  | some y => rw [hw] at h4; exact ⟨y, rfl, Option.some.inj h4⟩
theorem AA_map {w1 wa : va_W} (h : w1.map (fun q => q.1) = wa.map (fun q => q.1)) {q : Nat} (hq : AA w1 q) : AA wa q := by
  obtain ⟨k, e, hk⟩ := hq
  obtain ⟨x0, h1, h2⟩ := key_map h hk
  have h3 : x0 = (q, x0.2) := Prod.ext h2 rfl
  exact ⟨k, x0.2, by rw [h1, ← h3]⟩
theorem D_map {A : Nat → Prop} {w1 wa : va_W} (h : w1.map (fun q => q.1) = wa.map (fun q => q.1)) (hD : va_D A wa) : va_D A w1 := by
  refine ⟨fun i j x y hx hy hxy => ?_, fun k q hq => ?_⟩
  · obtain ⟨x0, hx0, hx1⟩ := key_map h hx
    obtain ⟨y0, hy0, hy1⟩ := key_map h hy
    exact hD.1 i j x0 y0 hx0 hy0 (by rw [hx1, hy1, hxy])
  · obtain ⟨q0, h0, h1⟩ := key_map h hq
    rw [← h1]
    exact hD.2 k q0 h0
theorem DD.left {A : Nat → Prop} {w1 wa wb : va_W} (h : w1.map (fun q => q.1) = wa.map (fun q => q.1)) (hd : DD A wa wb) : DD A w1 wb := ⟨D_map h hd.1, hd.2.1, fun q hq => hd.2.2 q (AA_map h hq)⟩
theorem DD.symm {A : Nat → Prop} {wa wb : va_W} (hd : DD A wa wb) : DD A wb wa := ⟨hd.2.1, hd.1, fun q h1 h2 => hd.2.2 q h2 h1⟩
def CI1 (D : va_G) (kI kT : ClassId) (b x y pa : Nat → Nat) (A : Nat → Prop) (wb : va_W) (N : Nat) (z : Nat → Int32) (r : Nat → Nat → Int32) (H : Heap) : Prop :=
  ∃ (n sn pn h bt : Nat) (g : Nat → Int32) (cd so sq : Nat → Int32) (q : Nat → Int32) (c : Nat → Nat → Int32) (v : Nat → Int32) (c2 : Nat → Nat → Int32) (v2 : Nat → Int32) (d : Nat → Nat → Int32) (u : Nat → Int32),
    va_P D vwCl (wC kI kT b g cd so sq q x c v y c2 v2 pa d u) H ∧ DD A (wC kI kT b g cd so sq q x c v y c2 v2 pa d u) wb ∧ Inv n sn pn h bt N g cd c v c2 v2 z r
def LI (D : va_G) (kB kI kT : ClassId) (b x y pa : Nat → Nat) (o : Nat) (a : Nat → Nat) (A : Nat → Prop) (N : Nat) (H : Heap) : Prop :=
  ∃ (z : Nat → Int32) (gg : Nat → Int64) (r : Nat → Nat → Int32), va_P D vwCl (wR kB kI o a z gg r) H ∧ CI1 D kI kT b x y pa A (wR kB kI o a z gg r) N z r H
theorem inv_ref {n sn pn h bt N : Nat} {g cd : Nat → Int32} {c : Nat → Nat → Int32} {v : Nat → Int32} {c2 : Nat → Nat → Int32} {v2 z : Nat → Int32} {r : Nat → Nat → Int32} (hI : Inv n sn pn h bt N g cd c v c2 v2 z r) : z 1 = nI n ∧ n ≤ 5 ∧ okP n (r 8) ∧ z 10 = nI sn ∧ sn ≤ 6 ∧ z 14 = nI pn ∧ pn ≤ 40 ∧ ∀ k, k < pn → cd k = r 15 k := by
  obtain ⟨hTi, hWg, hSeI, hPgI, hCt, hKp⟩ := hI
  obtain ⟨hv1, hz1, hn5, e2, e3, e4, e5, e6, e7, e8, hok, hC, hF⟩ := hTi
  exact ⟨hz1, hn5, e8 ▸ hok, hSeI.2.1, hSeI.2.2.1, hPgI.2.1, hPgI.2.2.1, fun k hk => (hPgI.2.2.2 k hk).1⟩
theorem inv_w {n sn pn h bt N : Nat} {g cd : Nat → Int32} {c : Nat → Nat → Int32} {v : Nat → Int32} {c2 : Nat → Nat → Int32} {v2 z : Nat → Int32} {r : Nat → Nat → Int32} (hI : Inv n sn pn h bt N g cd c v c2 v2 z r) (hN : N + 1 < 100000) : Inv n sn pn h bt (N + 1) g cd c v c2 v2 z r := by
  obtain ⟨hTi, hWg, hSeI, hPgI, hCt, hKp⟩ := hI
  exact ⟨hTi, hWg, hSeI, hPgI, ct_w hCt hN, hKp⟩
theorem inv_read {n sn pn h bt N : Nat} {g cd : Nat → Int32} {c : Nat → Nat → Int32} {v : Nat → Int32} {c2 : Nat → Nat → Int32} {v2 z : Nat → Int32} {gg : Nat → Int64} {r : Nat → Nat → Int32} (hI : Inv n sn pn h bt N g cd c v c2 v2 z r) (hN : N + 1 < 100000) : Inv n sn pn h bt (N + 1) g cd c v c2 v2 (R_read z gg r pn).2.1 (R_read z gg r pn).2.2.2 := by
  obtain ⟨hTi, hWg, hSeI, hPgI, hCt, hKp⟩ := hI
  exact ⟨hTi, hWg, hSeI, hPgI, ct_w hCt hN, hKp⟩
theorem cmp_self (a : Int64) : lg_cmp a a = 0 := by
  unfold lg_cmp
  simp
theorem len_gt {L i : Nat} (hL : L ≤ 2048) (hi : i ≤ 2048) : nI L - 4 < nI i ↔ L < i + 4 := by
  by_cases h : 4 ≤ L
  · rw [show (4 : Int32) = nI 4 from rfl, pk_sub h, nI_ltI (by omega) (by omega)]
    omega
  · have h0 : nI L - 4 < 0 := by
      rcases (show L = 0 ∨ L = 1 ∨ L = 2 ∨ L = 3 by omega) with rfl | rfl | rfl | rfl <;> decide
    exact ⟨fun _ => by omega, fun _ => Int32.lt_of_lt_of_le h0 (nI_pos' (by omega))⟩
section LAWR
variable {l : Launch} {D : va_G} {kB kI kT : ClassId} {ks sk sv : Nat}
variable {p : Program} {e : Env} {R : Room} {s : State} {m : MethodId} {args : Array Value} {below : List Frame} {meth : Method} {c : Code} {H : Heap} {locs : List Loc} {cells slots : Nat} {Q : State → Prop}
variable {own : String} {index : Nat} {y : MethodName} {bytes cc : ByteArray} {maxL nL n : Nat} {ret : Option FieldType} {fr lo : Nat} {As rest st0 : List Value} {b pc : Nat} {ls : Array Slot} {wa wb : va_W} {A : Nat → Prop} {Post : Option Value → va_W → Prop}
theorem wX2 (S : CallFix p m c cc nL s args GG own) (hM : MX l y bytes maxL ret fr lo D kB kI kT ks sk sv (.ref b :: As) wa Post) (cw : CWV own index y bytes maxL ret n) (hR : fr + 1 ≤ R.frames ∧ 8 + (maxL + 11) + lo ≤ R.locals) (hE : EN D kB kI kT ks sk sv A s) (hPa : va_P D vwCl wa H) (hPb : va_P D vwCl wb H) (hd : DD A wa wb) (hS : va_S A s.heap H locs)
    {ci : Nat} {fs : List Value} {q : vw_C} (hrc : wa[0]? = some (b, .inr (ci, fs))) (hcl : vwCl[ci]? = some q) (hq : q.1 = y.cls) (hn : As.length = n) (hsize : ls.size = nL) (hst : st0 = As.reverse ++ .ref b :: rest) (hcat : (rest.map fun v => v.category).sum ≤ 8) (hdg : decode cc pc = .ok (.invokevirtual index, 3)) (hf : cells + 0 ≤ R.cells ∧ slots + 0 ≤ R.slots)
    (kk : ∀ (w : Option Value) (w1 : va_W) (H1 : Heap) (locs1 : List Loc), Post w w1 → va_P D vwCl w1 H1 → va_P D vwCl wb H1 → DD A w1 wb → va_S A s.heap H1 locs1 → W p l e R s m args below meth c H1 locs1 cells slots Q (F0 m (pc + 3) ls (w.toList ++ rest))) : W p l e R s m args below meth c H locs cells slots Q (F0 m pc ls st0) := by
  have hsub : ∀ q, AA wa q → A q := fun q hq => by obtain ⟨k, e, h⟩ := hq; exact hd.1.2 k _ h
  have hr := W.runV (C := y.cls) (n := n) (rest := rest) (H := H) (locs := locs) (cells := cells) (slots := slots) (meth := meth) (below := below) (e := e) S hM (cw.cw S.2.2.2.2 rfl rfl hR) ⟨PW_blind, by rw [← hq]; exact va_recv hE.1 hPa hcl hrc, fun U hU hW => ⟨rfl, hE.go hS hU hW hsub, by rw [hU]; exact hPa, hd.1.weaken (fun _ _ _ _ => trivial)⟩⟩ (g := F0 m pc ls st0) rfl hn hsize hst (lv_room hcat) hdg hf
  intro T hT X
  obtain ⟨v, st₀, t, T', L, h0, X', hL, e1, ⟨⟨w, w1, hv, hp1, hpost, ha⟩, hz, hk⟩, st⟩ := hr T hT X
  cases hv
  rw [h0] at hz hk
  rw [← e1] at hp1 hz hk
  obtain ⟨t2, a1, b1⟩ := kk _ w1 T'.heap (locs ++ L) hpost hp1 (fun k q h => (hPb k q h).kept (hk q.1 (hPb k q h).lt (fun hz => hd.2.2 q.1 hz ⟨k, q.2, h⟩))) (hd.left ha)
    ⟨Nat.le_trans hS.1 hz, fun q h1 h2 => by rw [hk q (Nat.lt_of_lt_of_le h1 hS.1) (fun z => h2 (hsub q z))]; exact hS.2.1 q h1 h2, fun q hq => by
      rcases List.mem_append.mp hq with h | h
      · exact hS.2.2 q h
      · exact hsub _ (hL q h)⟩ T' rfl X'
  exact ⟨t2, st t2 a1, b1⟩
variable {b0 x0 y0 pa : Nat → Nat} {g0 cd so sq q0 v0 v2 u0 : Nat → Int32} {c0 c2 d0 : Nat → Nat → Int32} {N1 : Nat} {RF : Int32 × RS} {o : Nat} {a : Nat → Nat} {z z1 zc : Nat → Int32} {gg g1 : Nat → Int64} {r r1 rc : Nat → Nat → Int32} {w : Option Value}
theorem lA (S : CallFix p m c cc nL s args GG own) (hM : MX l y bytes maxL (some .int) fr lo D kB kI kT ks sk sv (.ref (b0 30) :: As) (wC kI kT b0 g0 cd so sq q0 x0 c0 v0 y0 c2 v2 pa d0 u0) (fun w w1 => SimP kI kT b0 x0 y0 pa N1 RF w w1)) (cw : CWV own index y bytes maxL (some .int) n) (hR : fr + 1 ≤ R.frames ∧ 8 + (maxL + 11) + lo ≤ R.locals) (hE : EN D kB kI kT ks sk sv A s) (hPa : va_P D vwCl (wC kI kT b0 g0 cd so sq q0 x0 c0 v0 y0 c2 v2 pa d0 u0) H) (hPb : va_P D vwCl wb H) (hd : DD A (wC kI kT b0 g0 cd so sq q0 x0 c0 v0 y0 c2 v2 pa d0 u0) wb) (hS : va_S A s.heap H locs)
    (hq : RX7 = y.cls) (hn : As.length = n) (hsize : ls.size = nL) (hst : st0 = As.reverse ++ .ref (b0 30) :: rest) (hcat : (rest.map fun v => v.category).sum ≤ 8) (hdg : decode cc pc = .ok (.invokevirtual index, 3)) (hf : cells + 0 ≤ R.cells ∧ slots + 0 ≤ R.slots)
    (kk : ∀ (H1 : Heap) (locs1 : List Loc), CI1 D kI kT b0 x0 y0 pa A wb N1 RF.2.1 RF.2.2.2 H1 → va_P D vwCl wb H1 → va_S A s.heap H1 locs1 → W p l e R s m args below meth c H1 locs1 cells slots Q (F0 m (pc + 3) ls (.int RF.1 :: rest))) : W p l e R s m args below meth c H locs cells slots Q (F0 m pc ls st0) := by
  refine wX2 S hM cw hR hE hPa hPb hd hS (ci := 7) (q := (RX7, TX7, 8)) rfl rfl hq hn hsize hst hcat hdg hf (fun w w1 H1 locs1 hp hP1 hP2 hd1 hS1 => ?_)
  obtain ⟨n, sn, pn, h, bt, g, cd, so, sq, q, c, v, c2, v2, d, u, rfl, rfl, hI⟩ := hp
  exact kk H1 locs1 ⟨n, sn, pn, h, bt, g, cd, so, sq, q, c, v, c2, v2, d, u, hP1, hd1, hI⟩ hP2 hS1
theorem lB (S : CallFix p m c cc nL s args GG own) (hM : MW l y bytes maxL ret fr lo D kB kI kT ks sk sv (.ref o :: As) (wR kB kI o a z gg r) w (wR kB kI o a z1 g1 r1)) (cw : CWV own index y bytes maxL ret n) (hR : fr + 1 ≤ R.frames ∧ 8 + (maxL + 11) + lo ≤ R.locals) (hE : EN D kB kI kT ks sk sv A s) (hC : CI1 D kI kT b0 x0 y0 pa A (wR kB kI o a z gg r) N1 zc rc H) (hPb : va_P D vwCl (wR kB kI o a z gg r) H) (hS : va_S A s.heap H locs)
    (hq : RX8 = y.cls) (hn : As.length = n) (hsize : ls.size = nL) (hst : st0 = As.reverse ++ .ref o :: rest) (hcat : (rest.map fun v => v.category).sum ≤ 8) (hdg : decode cc pc = .ok (.invokevirtual index, 3)) (hf : cells + 0 ≤ R.cells ∧ slots + 0 ≤ R.slots)
    (kk : ∀ (H1 : Heap) (locs1 : List Loc), CI1 D kI kT b0 x0 y0 pa A (wR kB kI o a z1 g1 r1) N1 zc rc H1 → va_P D vwCl (wR kB kI o a z1 g1 r1) H1 → va_S A s.heap H1 locs1 → W p l e R s m args below meth c H1 locs1 cells slots Q (F0 m (pc + 3) ls (w.toList ++ rest))) : W p l e R s m args below meth c H locs cells slots Q (F0 m pc ls st0) := by
  obtain ⟨n, sn, pn, h, bt, g, cd, so, sq, q, c, v, c2, v2, d, u, hPa, hd, hI⟩ := hC
  refine wX2 S (MX.ofW (Post := fun w' w1' => w' = w ∧ w1' = wR kB kI o a z1 g1 r1) hM rfl ⟨rfl, rfl⟩) cw hR hE hPb hPa hd.symm hS (ci := 8) (q := (RX8, TX8, 42)) rfl rfl hq hn hsize hst hcat hdg hf (fun w w1 H1 locs1 hp hP1 hP2 hd1 hS1 => ?_)
  obtain ⟨rfl, rfl⟩ := hp
  exact kk H1 locs1 ⟨n, sn, pn, h, bt, g, cd, so, sq, q, c, v, c2, v2, d, u, hP2, hd1.symm, hI⟩ hP1 hS1
theorem sldN (hx : p.tables.exec = Jvm.exec) (hb : c.code = cc) {bs L : Nat} {xs : Nat → Int32} (hX : va_X bs L xs s s.heap) (hbl : bs < s.heap.size) (hbA : ¬ A bs) (hS : va_S A s.heap H locs) {j : Nat} (hj : j < L) (hL : L ≤ 2048) (hdg : decode cc pc = .ok (.iaload, 1))
    (kk : W p l e R s m args below meth c H locs cells slots Q (F0 m (pc + 1) ls (.int (xs j) :: rest))) : W p l e R s m args below meth c H locs cells slots Q (F0 m pc ls (.int (nI j) :: .ref bs :: rest)) := by
  refine va_sld hx hb hX hbl hbA hS (vp_in_nI hj (by omega)) hdg ?_
  rw [nI_clamp (by omega)]
  exact kk
end LAWR
def LC (p : Program) (s : State) (m : MethodId) (c : Code) (D : va_G) (kB kI kT : ClassId) (ks sk sv bs L : Nat) (xs : Nat → Int32) (A : Nat → Prop) : Prop :=
  p.tables.exec = Jvm.exec ∧ c.code = cL_law ∧ c.maxLocals = 4 ∧ s.vm.findClass RL = some m.cls ∧ (∀ w ∈ GG, w.before #[Value.ref bs] s = true) ∧ EN D kB kI kT ks sk sv A s ∧ va_X bs L xs s s.heap ∧ bs < s.heap.size ∧ ¬ A bs ∧ L ≤ 2048
