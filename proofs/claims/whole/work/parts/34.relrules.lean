def QX (D : va_G) (ws : va_W) (Post : Option Value → va_W → Prop) (A : Nat → Prop) : Array Value → State → Outcome → State → Prop := fun _ st o t => (∃ (w : Option Value) (w1 : va_W), o = .returned w ∧ va_P D vwCl w1 t.heap ∧ Post w w1 ∧ w1.map (fun q => q.1) = ws.map (fun q => q.1)) ∧ va_F A st t
def MX (l : Launch) (y : MethodName) (c : ByteArray) (n : Nat) (ret : Option FieldType) (fr lo : Nat) (D : va_G) (kB kI kT : ClassId) (ks sk sv : Nat) (as : List Value) (ws : va_W) (Post : Option Value → va_W → Prop) : Prop :=
  Met l y (wsG y c n ret) (rmO fr lo) (PW D kB kI kT ks sk sv as ws) (QX D ws Post (AA ws)) 0 0 (AA ws)
section
variable {l : Launch} {D : va_G} {kB kI kT : ClassId} {ks sk sv : Nat}
theorem MX.go {y : MethodName} {c : ByteArray} {n : Nat} {ret : Option FieldType} {fr lo : Nat} {as : List Value} {ws : va_W} {Post : Option Value → va_W → Prop} (hy : plainName y.cls = true) (hn : (lg_sl as).length ≤ n)
    (body : ∀ (p : Program) (e : Env) (s : State) (m : MethodId) (below : List Frame) (meth : Method) (c0 : Code) (args : Array Value) (Q : State → Prop) (ls : Array Slot) (A : Nat → Prop), Q = MQ below (QX D ws Post A) args s 0 0 A → p.tables.exec = Jvm.exec → c0.code = c → meth.sig.returnType = ret → c0.maxLocals = n → s.vm.findClass y.cls = some m.cls → (∀ w ∈ GG, w.before args s = true) → meth.locks = false → EN D kB kI kT ks sk sv A s → va_P D vwCl ws s.heap → va_D A ws → va_S A s.heap s.heap [] → lv_has ls n (lv_args 0 as) →
      W p l e (rmO fr lo) s m args below meth c0 s.heap [] 0 0 Q (F0 m 0 ls [])) : MX l y c n ret fr lo D kB kI kT ks sk sv as ws Post := by
  refine Met.ofW (cc := c) (maxL := n) (ret := ret) hy rfl ?_
  intro p e s m args below meth c0 s₁ B hml hv
  obtain ⟨rfl, hE, hP, hD⟩ := hv
  have hts := atoms_spec (ws := wsG y c n ret) B.pre
  rw [lg_entry_eq]
  exact body p e s m below meth c0 _ _ _ (AA ws) rfl B.exec B.bytes B.returns hml (findClass_of_methodNamed B.named) (fun w hw => hts w (List.mem_cons_of_mem _ hw)) B.notSynchronized hE hP (AA_self hD) va_S.rf (lv_entry as hn)
variable {p : Program} {e : Env} {R : Room} {s : State} {m : MethodId} {args : Array Value} {below : List Frame} {meth : Method} {c : Code} {H : Heap} {locs : List Loc} {cells slots : Nat} {Q : State → Prop}
variable {own : String} {index : Nat} {y : MethodName} {bytes cc : ByteArray} {maxL nL n : Nat} {ret : Option FieldType} {fr lo : Nat} {As rest st0 : List Value} {b pc : Nat} {ls : Array Slot} {ws wc : va_W} {A : Nat → Prop} {Post : Option Value → va_W → Prop}
theorem wX (S : CallFix p m c cc nL s args GG own) (hM : MX l y bytes maxL ret fr lo D kB kI kT ks sk sv (.ref b :: As) wc Post) (cw : CWV own index y bytes maxL ret n) (hR : fr + 1 ≤ R.frames ∧ 8 + (maxL + 11) + lo ≤ R.locals) (hE : EN D kB kI kT ks sk sv A s) (hP : va_P D vwCl ws H) (hD : va_D A ws) (hS : va_S A s.heap H locs) (is : List Nat) (hnd : va_nd is = true) (hC : is.map (fun i => ws[i]?) = wc.map some)
    {ci : Nat} {fs : List Value} {q : vw_C} (hrc : wc[0]? = some (b, .inr (ci, fs))) (hcl : vwCl[ci]? = some q) (hq : q.1 = y.cls) (hn : As.length = n) (hsize : ls.size = nL) (hst : st0 = As.reverse ++ .ref b :: rest) (hcat : (rest.map fun v => v.category).sum ≤ 8) (hdg : decode cc pc = .ok (.invokevirtual index, 3)) (hf : cells + 0 ≤ R.cells ∧ slots + 0 ≤ R.slots)
    (kk : ∀ (w : Option Value) (w1 : va_W) (H1 : Heap) (locs1 : List Loc), Post w w1 → va_P D vwCl (spl ws is w1) H1 → va_D A (spl ws is w1) → va_S A s.heap H1 locs1 → W p l e R s m args below meth c H1 locs1 cells slots Q (F0 m (pc + 3) ls (w.toList ++ rest))) : W p l e R s m args below meth c H locs cells slots Q (F0 m pc ls st0) := by
  have hPc := sub_P hP is hC
  have hsub := sub_AA hD is hC
  have hr := W.runV (C := y.cls) (n := n) (rest := rest) (H := H) (locs := locs) (cells := cells) (slots := slots) (meth := meth) (below := below) (e := e) S hM (cw.cw S.2.2.2.2 rfl rfl hR) ⟨PW_blind, by rw [← hq]; exact va_recv hE.1 hPc hcl hrc, fun U hU hW => ⟨rfl, hE.go hS hU hW hsub, by rw [hU]; exact hPc, (hD.sub is hnd hC).weaken (fun _ _ _ _ => trivial)⟩⟩ (g := F0 m pc ls st0) rfl hn hsize hst (lv_room hcat) hdg hf
  intro T hT X
  obtain ⟨v, st₀, t, T', L, h0, X', hL, e1, ⟨⟨w, w1, hv, hp1, hpost, ha⟩, hz, hk⟩, st⟩ := hr T hT X
  cases hv
  rw [h0] at hz hk
  rw [← e1] at hp1 hz hk
  obtain ⟨g1, g2⟩ := spl_ok hP hD is hC ha hp1 hk
  obtain ⟨t2, a1, b1⟩ := kk _ w1 T'.heap (locs ++ L) hpost g1 g2
    ⟨Nat.le_trans hS.1 hz, fun q h1 h2 => by rw [hk q (Nat.lt_of_lt_of_le h1 hS.1) (fun z => h2 (hsub q z))]; exact hS.2.1 q h1 h2, fun q hq => by
      rcases List.mem_append.mp hq with h | h
      · exact hS.2.2 q h
      · exact hsub _ (hL q h)⟩ T' rfl X'
  exact ⟨t2, st t2 a1, b1⟩
/-- a reader, or a writer, as a relation -/
theorem MX.ofW {w : Option Value} {as : List Value} {w1 : va_W} (hM : MW l y bytes maxL ret fr lo D kB kI kT ks sk sv as ws w w1) (ha : w1.map (fun q => q.1) = ws.map (fun q => q.1)) (hp : Post w w1) : MX l y bytes maxL ret fr lo D kB kI kT ks sk sv as ws Post := by
  intro p e ha' hc hk s m args below hf h1 h2 h3
  obtain ⟨k, o, g1, g2, g3, ⟨⟨⟨e1, e2⟩, g4⟩, g5⟩⟩ := hM p e ha' hc hk s m args below hf h1 h2 h3
  exact ⟨k, o, g1, g2, g3, ⟨⟨⟨w, w1, e1, e2, hp, ha⟩, g4⟩, g5⟩⟩
end
def andS (ot lv : Nat → Int32) (t : Int32) : Nat → Int32
  | 0 => 31
  | k + 1 => if ot k = t then andS ot lv t k &&& lv k else andS ot lv t k
theorem cntP_same {p : Nat → Prop} [DecidablePred p] : ∀ {j k : Nat}, j ≤ k → cntP p j = cntP p k → ∀ i, j ≤ i → i < k → ¬ p i
  | j, 0, h, _, i, h1, h2 => absurd h2 (Nat.not_lt_zero i)
  | j, k + 1, h, he, i, h1, h2 => by
    rcases Nat.eq_or_lt_of_le h with q | q
    · omega
    · have h3 : cntP p j ≤ cntP p k := cntP_mono (by omega)
      have h4 : cntP p (k + 1) = cntP p k + (if p k then 1 else 0) := rfl
      by_cases hpk : p k
      · rw [h4, if_pos hpk] at he; omega
      · rw [h4, if_neg hpk] at he
        rcases Nat.eq_or_lt_of_le (Nat.lt_succ_iff.mp h2) with e | e
        · rw [e]; exact hpk
        · exact cntP_same (by omega) (by omega) i h1 e
theorem dkA_same {pl : Nat → Int32} {f : Nat} {d : Nat → Int32} : ∀ {j k : Nat}, j ≤ k → (∀ i, j ≤ i → i < k → ¬ pl (f + i) = -1) → dkA pl f d j = dkA pl f d k
  | j, 0, h, _ => by rw [show j = 0 by omega]
  | j, k + 1, h, hn => by
    rcases Nat.eq_or_lt_of_le h with q | q
    · rw [q]
    · rw [dkA, if_neg (hn k (by omega) (by omega))]
      exact dkA_same (by omega) (fun i h1 h2 => hn i h1 (by omega))
