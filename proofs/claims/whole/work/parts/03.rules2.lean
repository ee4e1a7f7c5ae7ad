def spl : va_W → List Nat → va_W → va_W
  | ws, i :: is, c :: cs => spl (ws.set i c) is cs
  | ws, _, _ => ws
theorem spl_get : ∀ (is : List Nat) (ws w1 : va_W), is.length = w1.length → ∀ (k : Nat) (q : Nat × va_E), (spl ws is w1)[k]? = some q → (∃ j : Nat, is[j]? = some k ∧ w1[j]? = some q) ∨ (k ∉ is ∧ ws[k]? = some q)
  | [], ws, w1, _, k, q, h => by
    refine Or.inr ⟨by simp, ?_⟩
    cases w1 <;> exact h
  | i :: is, ws, [], hl, k, q, h => by simp at hl
  | i :: is, ws, c :: cs, hl, k, q, h => by
    have hl' : is.length = cs.length := by simpa using hl
    rcases spl_get is (ws.set i c) cs hl' k q h with ⟨j, h1, h2⟩ | ⟨h1, h2⟩
    · exact Or.inl ⟨j + 1, by simpa using h1, by simpa using h2⟩
    · by_cases hk : k = i
      · subst hk
        rw [List.getElem?_set] at h2
        simp only [if_true] at h2
        split at h2
        · exact Or.inl ⟨0, by simp, by simpa using h2⟩
        · cases h2
      · rw [List.getElem?_set_ne (fun h => hk h.symm)] at h2
        refine Or.inr ⟨fun hm => ?_, h2⟩
        rcases List.mem_cons.mp hm with h | h
        · exact hk h
        · exact h1 h
theorem spl_at {is : List Nat} {ws wc : va_W} (hC : is.map (fun i => ws[i]?) = wc.map some) {j k : Nat} (h : is[j]? = some k) : ws[k]? = wc[j]? := by
  have h1 : (is.map (fun i => ws[i]?))[j]? = some (ws[k]?) := by rw [List.getElem?_map, h]; rfl
  rw [hC, List.getElem?_map] at h1
  cases hw : wc[j]? with
  | none => rw [hw] at h1; cases h1
  | some x => rw [hw] at h1; exact (Option.some.inj h1).symm
theorem spl_ok {D : va_G} {A : Nat → Prop} {ws wc w1 : va_W} {H H1 : Heap} (hP : va_P D vwCl ws H) (hD : va_D A ws) (is : List Nat) (hC : is.map (fun i => ws[i]?) = wc.map some) (ha : w1.map (fun q => q.1) = wc.map (fun q => q.1)) (hP1 : va_P D vwCl w1 H1) (hk : ∀ q : Nat, q < H.size → ¬ AA wc q → H1[q]? = H[q]?) :
    va_P D vwCl (spl ws is w1) H1 ∧ va_D A (spl ws is w1) := by
  have hlen : is.length = w1.length := by
    have h1 := congrArg List.length hC
    have h2 := congrArg List.length ha
    simp at h1 h2
    omega
  have key : ∀ (k : Nat) (q : Nat × va_E), (spl ws is w1)[k]? = some q → ∃ q0 : Nat × va_E, ws[k]? = some q0 ∧ q0.1 = q.1 := by
    intro k q h
    rcases spl_get is ws w1 hlen k q h with ⟨j, h1, h2⟩ | ⟨h1, h2⟩
    · have h3 := spl_at hC h1
      have h4 : (w1.map (fun q => q.1))[j]? = some q.1 := by rw [List.getElem?_map, h2]; rfl
      rw [ha, List.getElem?_map] at h4
      cases hw : wc[j]? with
      | none => rw [hw] at h4; cases h4
      | some x => rw [hw] at h4 h3; exact ⟨x, h3, Option.some.inj h4⟩
    · exact ⟨q, h2, rfl⟩
  refine ⟨fun k q h => ?_, fun i j x y hx hy hxy => ?_, fun k q h => ?_⟩
  · rcases spl_get is ws w1 hlen k q h with ⟨j, h1, h2⟩ | ⟨h1, h2⟩
    · exact hP1 j q h2
    · refine (hP k q h2).kept (hk q.1 (hP k q h2).lt (fun hA => ?_))
      obtain ⟨j, e, hj⟩ := hA
      have hjl : j < is.length := by
        have h3 := congrArg List.length hC
        simp at h3
        rw [h3]
        exact (List.getElem?_eq_some_iff.mp hj).1
      obtain ⟨i, hi⟩ : ∃ i, is[j]? = some i := ⟨is[j], List.getElem?_eq_getElem hjl⟩
      have h4 := spl_at hC hi
      rw [hj] at h4
      have h5 := hD.1 k i q (q.1, e) h2 h4 rfl
      subst h5
      exact h1 (List.mem_of_getElem? hi)
  · obtain ⟨x0, hx0, hx1⟩ := key i x hx
    obtain ⟨y0, hy0, hy1⟩ := key j y hy
    exact hD.1 i j x0 y0 hx0 hy0 (by rw [hx1, hy1, hxy])
  · obtain ⟨q0, h0, h1⟩ := key k q h
    rw [← h1]
    exact hD.2 k q0 h0
section RULES2
variable {l : Launch} {D : va_G} {kB kI kT : ClassId} {ks sk sv : Nat}
variable {p : Program} {e : Env} {R : Room} {s : State} {m : MethodId} {args : Array Value} {below : List Frame} {meth : Method} {c : Code} {H : Heap} {locs : List Loc} {cells slots : Nat} {Q : State → Prop}
variable {own : String} {index : Nat} {y : MethodName} {bytes cc : ByteArray} {maxL nL n : Nat} {ret : Option FieldType} {fr lo : Nat} {As rest st0 : List Value} {b pc : Nat} {ls : Array Slot} {ws w1 wc : va_W} {A : Nat → Prop} {w : Option Value}
theorem wrK {args' : Array Value} (hr : CallRun p l e R s m args below meth c H locs cells slots 0 0 (F0 m pc ls st0) rest (QW D w w1 (AA wc) args') (AA wc)) (hS : va_S A s.heap H locs) (hP : va_P D vwCl ws H) (hD : va_D A ws) (is : List Nat) (hC : is.map (fun i => ws[i]?) = wc.map some) (ha : w1.map (fun q => q.1) = wc.map (fun q => q.1))
    (kk : ∀ (H1 : Heap) (locs1 : List Loc), va_P D vwCl (spl ws is w1) H1 → va_D A (spl ws is w1) → va_S A s.heap H1 locs1 → W p l e R s m args below meth c H1 locs1 cells slots Q (F0 m (pc + 3) ls (w.toList ++ rest))) : W p l e R s m args below meth c H locs cells slots Q (F0 m pc ls st0) := by
  intro T hT X
  obtain ⟨v, st₀, t, T', L, h0, X', hL, e1, ⟨⟨hv, hp1⟩, hz, hk⟩, st⟩ := hr T hT X
  cases hv
  rw [h0] at hz hk
  have hsub : ∀ q, AA wc q → A q := by
    intro q ⟨j, e, hj⟩
    have hjl : j < is.length := by
      have h3 := congrArg List.length hC
      simp at h3
      rw [h3]
      exact (List.getElem?_eq_some_iff.mp hj).1
    have hi : is[j]? = some is[j] := List.getElem?_eq_getElem hjl
    have h4 := spl_at hC hi
    rw [hj] at h4
    exact hD.2 _ _ h4
  rw [← e1] at hp1 hz hk
  obtain ⟨g1, g2⟩ := spl_ok hP hD is hC ha hp1 hk
  obtain ⟨t2, a1, b1⟩ := kk T'.heap (locs ++ L) g1 g2
    ⟨Nat.le_trans hS.1 hz, fun q h1 h2 => by rw [hk q (Nat.lt_of_lt_of_le h1 hS.1) (fun z => h2 (hsub q z))]; exact hS.2.1 q h1 h2, fun q hq => by
      rcases List.mem_append.mp hq with h | h
      · exact hS.2.2 q h
      · exact hsub _ (hL q h)⟩ T' rfl X'
  exact ⟨t2, st t2 a1, b1⟩
theorem sub_AA (hD : va_D A ws) (is : List Nat) (hC : is.map (fun i => ws[i]?) = wc.map some) : ∀ q, AA wc q → A q := by
  intro q ⟨j, e, hj⟩
  have hjl : j < is.length := by
    have h3 := congrArg List.length hC
    simp at h3
    rw [h3]
    exact (List.getElem?_eq_some_iff.mp hj).1
  have hi : is[j]? = some is[j] := List.getElem?_eq_getElem hjl
  have h4 := spl_at hC hi
  rw [hj] at h4
  exact hD.2 _ _ h4
theorem sub_P (hP : va_P D vwCl ws H) (is : List Nat) (hC : is.map (fun i => ws[i]?) = wc.map some) : va_P D vwCl wc H := by
  intro j q hj
  have hjl : j < is.length := by
    have h3 := congrArg List.length hC
    simp at h3
    rw [h3]
    exact (List.getElem?_eq_some_iff.mp hj).1
  have hi : is[j]? = some is[j] := List.getElem?_eq_getElem hjl
  have h4 := spl_at hC hi
  rw [hj] at h4
  exact hP _ _ h4
theorem wV (S : CallFix p m c cc nL s args GG own) (hM : MW l y bytes maxL ret fr lo D kB kI kT ks sk sv (.ref b :: As) wc w w1) (cw : CWV own index y bytes maxL ret n) (hR : fr + 1 ≤ R.frames ∧ 8 + (maxL + 11) + lo ≤ R.locals) (hE : EN D kB kI kT ks sk sv A s) (hP : va_P D vwCl ws H) (hD : va_D A ws) (hS : va_S A s.heap H locs) (is : List Nat) (hnd : va_nd is = true) (hC : is.map (fun i => ws[i]?) = wc.map some) (ha : w1.map (fun q => q.1) = wc.map (fun q => q.1))
    {ci : Nat} {fs : List Value} {q : vw_C} (hrc : wc[0]? = some (b, .inr (ci, fs))) (hcl : vwCl[ci]? = some q) (hq : q.1 = y.cls) (hn : As.length = n) (hsize : ls.size = nL) (hst : st0 = As.reverse ++ .ref b :: rest) (hcat : (rest.map fun v => v.category).sum ≤ 8) (hdg : decode cc pc = .ok (.invokevirtual index, 3)) (hf : cells + 0 ≤ R.cells ∧ slots + 0 ≤ R.slots)
    (kk : ∀ (H1 : Heap) (locs1 : List Loc), va_P D vwCl (spl ws is w1) H1 → va_D A (spl ws is w1) → va_S A s.heap H1 locs1 → W p l e R s m args below meth c H1 locs1 cells slots Q (F0 m (pc + 3) ls (w.toList ++ rest))) : W p l e R s m args below meth c H locs cells slots Q (F0 m pc ls st0) := by
  have hPc := sub_P hP is hC
  refine wrK (wc := wc) (args' := (Value.ref b :: As).toArray) (W.runV (C := y.cls) (n := n) S hM (cw.cw S.2.2.2.2 rfl rfl hR) ⟨PW_blind, ?_, fun U hU hW => ⟨rfl, hE.go hS hU hW (sub_AA hD is hC), by rw [hU]; exact hPc, (hD.sub is hnd hC).weaken (fun _ _ _ _ => trivial)⟩⟩ rfl hn hsize hst (lv_room hcat) hdg hf) hS hP hD is hC ha kk
  rw [← hq]
  exact va_recv hE.1 hPc hcl hrc
theorem wS (S : CallFix p m c cc nL s args GG own) (hM : MW l y bytes maxL ret fr lo D kB kI kT ks sk sv As wc w w1) (cw : CWS own index y bytes maxL ret n) (hR : fr + 1 ≤ R.frames ∧ 8 + (maxL + 11) + lo ≤ R.locals) (hE : EN D kB kI kT ks sk sv A s) (hP : va_P D vwCl ws H) (hD : va_D A ws) (hS : va_S A s.heap H locs) (is : List Nat) (hnd : va_nd is = true) (hC : is.map (fun i => ws[i]?) = wc.map some) (ha : w1.map (fun q => q.1) = wc.map (fun q => q.1))
    (hn : As.length = n) (hsize : ls.size = nL) (hst : st0 = As.reverse ++ rest) (hcat : (rest.map fun v => v.category).sum ≤ 8) (hdg : decode cc pc = .ok (.invokestatic index, 3)) (hf : cells + 0 ≤ R.cells ∧ slots + 0 ≤ R.slots)
    (kk : ∀ (H1 : Heap) (locs1 : List Loc), va_P D vwCl (spl ws is w1) H1 → va_D A (spl ws is w1) → va_S A s.heap H1 locs1 → W p l e R s m args below meth c H1 locs1 cells slots Q (F0 m (pc + 3) ls (w.toList ++ rest))) : W p l e R s m args below meth c H locs cells slots Q (F0 m pc ls st0) :=
  wrK (wc := wc) (args' := As.toArray) (W.runS (n := n) S hM (cw.cw S.2.2.2.2 rfl rfl hR) ⟨PW_blind, fun U hU hW => ⟨rfl, hE.go hS hU hW (sub_AA hD is hC), by rw [hU]; exact sub_P hP is hC, (hD.sub is hnd hC).weaken (fun _ _ _ _ => trivial)⟩⟩ rfl hn hsize hst (lv_room hcat) hdg hf) hS hP hD is hC ha kk
/-! fields and rows -/
def FLD (own : String) (index ci k : Nat) : Prop := ∃ (C : String) (T : u_T) (N : Nat), vwCl[ci]? = some (C, T, N) ∧ k < N ∧ (∀ w ∈ u_ws C T N, w ∈ GG) ∧ Cond.fieldLink own index (T k).1 (T k).2.1 (T k).2.2.1 ∈ GG
def FPT (own : String) (index ci k : Nat) (ty : FieldType) : Prop := ∃ (C : String) (T : u_T) (N : Nat) (t0 : Nat → FieldType), vwCl[ci]? = some (C, T, N) ∧ k < N ∧ (∀ w ∈ u_ws C T N, w ∈ GG) ∧ Cond.fieldLink own index (T k).1 (T k).2.1 (T k).2.2.1 ∈ GG ∧ (∀ k, k < N → parseFieldDescriptor (T k).2.2.1 = some (t0 k)) ∧ (∀ a, a < N → ∀ b, b < N → a ≠ b → (T a).2.1 ≠ (T b).2.1) ∧ (T k).2.2.2 = false ∧ parseFieldDescriptor (T k).2.2.1 = some ty
theorem fget (hx : p.tables.exec = Jvm.exec) (hb : c.code = cc) (hts : ∀ w ∈ GG, w.before args s = true) (hown : s.vm.findClass own = some m.cls) (hE : EN D kB kI kT ks sk sv A s) (hP : va_P D vwCl ws H) {ci k a : Nat} (hF : FLD own index ci k) (q0 : Nat) {fs : List Value} {v : Value} (he : ws[q0]? = some (a, .inr (ci, fs))) (hv : fs[k]? = some v) (hdg : decode cc pc = .ok (.getfield index, 3))
    (kk : W p l e R s m args below meth c H locs cells slots Q (F0 m (pc + 3) ls (v :: rest))) : W p l e R s m args below meth c H locs cells slots Q (F0 m pc ls (.ref a :: rest)) := by
  obtain ⟨C, T, N, hc, hk, hin, hl⟩ := hF
  exact va_get hx hb hts hin hown hE.1 hP q0 he hc k hk (hts _ hl) (fun _ h => h) hv hdg kk
theorem fput (hx : p.tables.exec = Jvm.exec) (hb : c.code = cc) (hts : ∀ w ∈ GG, w.before args s = true) (hown : s.vm.findClass own = some m.cls) (hE : EN D kB kI kT ks sk sv A s) (hP : va_P D vwCl ws H) (hD : va_D A ws) (hS : va_S A s.heap H locs) {ci k a : Nat} {ty : FieldType} (hF : FPT own index ci k ty) (q0 : Nat) {fs : List Value} {v : Value} (he : ws[q0]? = some (a, .inr (ci, fs))) (hn : narrow ty v = v) (hfit : fits ty v = true) (hl : k < fs.length) (hdg : decode cc pc = .ok (.putfield index, 3))
    (kk : ∀ (H1 : Heap) (locs1 : List Loc), va_P D vwCl (ws.set q0 (a, .inr (ci, fs.set k v))) H1 → va_D A (ws.set q0 (a, .inr (ci, fs.set k v))) → va_S A s.heap H1 locs1 → W p l e R s m args below meth c H1 locs1 cells slots Q (F0 m (pc + 3) ls rest)) : W p l e R s m args below meth c H locs cells slots Q (F0 m pc ls (v :: .ref a :: rest)) := by
  obtain ⟨C, T, N, t0, hc, hk, hin, hlk, hty, hnm, hfin, hd⟩ := hF
  exact va_put hx hb hts hin t0 hty hnm hown hE.1 hP hD hS q0 he hc k hk (hts _ hlk) (fun _ h => h) hfin hd hn hfit hl hdg kk
theorem aldN (hx : p.tables.exec = Jvm.exec) (hb : c.code = cc) (hE : EN D kB kI kT ks sk sv A s) (hP : va_P D vwCl ws H) {a N : Nat} {f : Nat → Int32} (q0 : Nat) (he : ws[q0]? = some (a, .inl (kI, N, .inl f))) (j : Nat) (hj : j < N) (hN : N < 2147483648) (hdg : decode cc pc = .ok (.iaload, 1))
    (kk : W p l e R s m args below meth c H locs cells slots Q (F0 m (pc + 1) ls (.int (f j) :: rest))) : W p l e R s m args below meth c H locs cells slots Q (F0 m pc ls (.int (nI j) :: .ref a :: rest)) := by
  refine va_iald hx hb hE.1 hP q0 0 he rfl (vp_in_nI hj hN) hdg ?_
  rw [nI_clamp (Nat.lt_trans hj hN)]
  exact kk
theorem aldX (hx : p.tables.exec = Jvm.exec) (hb : c.code = cc) (hE : EN D kB kI kT ks sk sv A s) (hP : va_P D vwCl ws H) {a N : Nat} {f : Nat → Int32} (q0 : Nat) (he : ws[q0]? = some (a, .inl (kI, N, .inl f))) {x : Int32} (hj : vp_in x N) (hdg : decode cc pc = .ok (.iaload, 1))
    (kk : W p l e R s m args below meth c H locs cells slots Q (F0 m (pc + 1) ls (.int (f x.toNatClampNeg) :: rest))) : W p l e R s m args below meth c H locs cells slots Q (F0 m pc ls (.int x :: .ref a :: rest)) :=
  va_iald hx hb hE.1 hP q0 0 he rfl hj hdg kk
theorem aldB (hx : p.tables.exec = Jvm.exec) (hb : c.code = cc) (hE : EN D kB kI kT ks sk sv A s) (hP : va_P D vwCl ws H) {a N : Nat} {f : Nat → Int32} (q0 : Nat) (he : ws[q0]? = some (a, .inl (kB, N, .inl f))) (j : Nat) (hj : j < N) (hN : N < 2147483648) (hdg : decode cc pc = .ok (.baload, 1))
    (kk : W p l e R s m args below meth c H locs cells slots Q (F0 m (pc + 1) ls (.int (f j) :: rest))) : W p l e R s m args below meth c H locs cells slots Q (F0 m pc ls (.int (nI j) :: .ref a :: rest)) := by
  refine va_bald hx hb hE.1 hP q0 1 he rfl (vp_in_nI hj hN) hdg ?_
  rw [nI_clamp (Nat.lt_trans hj hN)]
  exact kk
theorem astN (hx : p.tables.exec = Jvm.exec) (hb : c.code = cc) (hE : EN D kB kI kT ks sk sv A s) (hP : va_P D vwCl ws H) (hD : va_D A ws) (hS : va_S A s.heap H locs) {a N : Nat} {f : Nat → Int32} {x : Int32} (q0 : Nat) (he : ws[q0]? = some (a, .inl (kI, N, .inl f))) (j : Nat) (hj : j < N) (hN : N < 2147483648) (hdg : decode cc pc = .ok (.iastore, 1))
    (kk : ∀ (H1 : Heap) (locs1 : List Loc), va_P D vwCl (ws.set q0 (a, .inl (kI, N, .inl (upd f j x)))) H1 → va_D A (ws.set q0 (a, .inl (kI, N, .inl (upd f j x)))) → va_S A s.heap H1 locs1 → W p l e R s m args below meth c H1 locs1 cells slots Q (F0 m (pc + 1) ls rest)) : W p l e R s m args below meth c H locs cells slots Q (F0 m pc ls (.int x :: .int (nI j) :: .ref a :: rest)) := by
  refine va_iast hx hb hE.1 hP hD hS q0 0 he rfl (vp_in_nI hj hN) hdg ?_
  rw [nI_clamp (Nat.lt_trans hj hN)]
  exact kk
theorem astX (hx : p.tables.exec = Jvm.exec) (hb : c.code = cc) (hE : EN D kB kI kT ks sk sv A s) (hP : va_P D vwCl ws H) (hD : va_D A ws) (hS : va_S A s.heap H locs) {a N : Nat} {f : Nat → Int32} {x i : Int32} (q0 : Nat) (he : ws[q0]? = some (a, .inl (kI, N, .inl f))) (hj : vp_in i N) (hdg : decode cc pc = .ok (.iastore, 1))
    (kk : ∀ (H1 : Heap) (locs1 : List Loc), va_P D vwCl (ws.set q0 (a, .inl (kI, N, .inl (upd f i.toNatClampNeg x)))) H1 → va_D A (ws.set q0 (a, .inl (kI, N, .inl (upd f i.toNatClampNeg x)))) → va_S A s.heap H1 locs1 → W p l e R s m args below meth c H1 locs1 cells slots Q (F0 m (pc + 1) ls rest)) : W p l e R s m args below meth c H locs cells slots Q (F0 m pc ls (.int x :: .int i :: .ref a :: rest)) :=
  va_iast hx hb hE.1 hP hD hS q0 0 he rfl hj hdg kk
/-! branches on a truth, compares of numbers -/
abbrev bi (c : Prop) [Decidable c] : Int32 := if c then 1 else 0
theorem bi_0 {c : Prop} [Decidable c] : bi c = 0 ↔ ¬ c := by
  by_cases h : c <;> simp [bi, h]
theorem bif_eq {c0 : Prop} [Decidable c0] (hx : p.tables.exec = Jvm.exec) (hb : c.code = cc) {off : Int} {tgt : Nat} (hdg : decode cc pc = .ok (.ifCond .eq off, 3)) (ht : (pc : Int) + off = (tgt : Int))
    (kt : ¬ c0 → W p l e R s m args below meth c H locs cells slots Q (F0 m tgt ls rest)) (kf : c0 → W p l e R s m args below meth c H locs cells slots Q (F0 m (pc + 3) ls rest)) : W p l e R s m args below meth c H locs cells slots Q (F0 m pc ls (.int (bi c0) :: rest)) :=
  lv_if_eq hx hb hdg ht (fun h => kt (bi_0.mp h)) (fun h => kf (Decidable.byContradiction fun q => h (bi_0.mpr q)))
theorem bif_ne {c0 : Prop} [Decidable c0] (hx : p.tables.exec = Jvm.exec) (hb : c.code = cc) {off : Int} {tgt : Nat} (hdg : decode cc pc = .ok (.ifCond .ne off, 3)) (ht : (pc : Int) + off = (tgt : Int))
    (kt : c0 → W p l e R s m args below meth c H locs cells slots Q (F0 m tgt ls rest)) (kf : ¬ c0 → W p l e R s m args below meth c H locs cells slots Q (F0 m (pc + 3) ls rest)) : W p l e R s m args below meth c H locs cells slots Q (F0 m pc ls (.int (bi c0) :: rest)) :=
  lv_if_ne hx hb hdg ht (fun h => kt (Decidable.byContradiction fun q => h (bi_0.mpr q))) (fun h => kf (bi_0.mp h))
end RULES2
