/-! constructors: contracts of methods that make cells -/
def rmC (fr mc ms lo : Nat) : Room := { frames := fr, cells := mc, slots := ms, locals := lo }
def PC (D : va_G) (kB kI kT : ClassId) (ks sk sv sz : Nat) (as : List Value) (ws : va_W) : Array Value → State → Prop := va_Pc as (fun U => U.heap.size = sz ∧ EN D kB kI kT ks sk sv (va_A ws sz) U ∧ va_AO "PlaySeason$Title" U ∧ va_P D vwCl ws U.heap ∧ va_D NT ws)
def MC (l : Launch) (y : MethodName) (c : ByteArray) (n fr lo mc ms : Nat) (D : va_G) (kB kI kT : ClassId) (ks sk sv sz : Nat) (as : List Value) (ws : va_W) (Post : va_W → Prop) : Prop :=
  Met l y (wsG y c n none) (rmC fr mc ms lo) (PC D kB kI kT ks sk sv sz as ws) (va_Qv Post (fun w1 t => va_P D vwCl w1 t.heap ∧ va_D (va_A ws sz) w1) (va_A ws sz)) mc ms (va_A ws sz)
def CWI (own : String) (index : Nat) (y : MethodName) (bytes : ByteArray) (maxL n : Nat) : Prop :=
  (Cond.methodLink own index y ∈ GG ∧ Cond.instanceMethod y ∈ GG ∧ Cond.initialized y.cls ∈ GG ∧ Cond.code y bytes maxL none ∈ GG) ∧ y.name = "<init>" ∧ y.cls ≠ "java/lang/invoke/MethodHandle" ∧ y.cls ≠ "java/lang/invoke/VarHandle" ∧ (parseMethodDescriptor y.desc).map (fun d => d.parameters.length) = some n
def CNI (own : String) (index : Nat) (y : MethodName) (host : String) (bytes : ByteArray) (maxL n : Nat) : Prop :=
  ((own, index, y, host) ∈ nestQ ∧ Cond.instanceMethod y ∈ GG ∧ Cond.initialized y.cls ∈ GG ∧ Cond.code y bytes maxL none ∈ GG) ∧ y.name = "<init>" ∧ y.cls ≠ "java/lang/invoke/MethodHandle" ∧ y.cls ≠ "java/lang/invoke/VarHandle" ∧ (parseMethodDescriptor y.desc).map (fun d => d.parameters.length) = some n
def FPF (own : String) (index ci k : Nat) (ty : FieldType) : Prop := ∃ (C : String) (T : u_T) (N : Nat) (t0 : Nat → FieldType), vwCl[ci]? = some (C, T, N) ∧ k < N ∧ (∀ w ∈ u_ws C T N, w ∈ GG) ∧ Cond.fieldLink own index (T k).1 (T k).2.1 (T k).2.2.1 ∈ GG ∧ (∀ k, k < N → parseFieldDescriptor (T k).2.2.1 = some (t0 k)) ∧ (∀ a, a < N → ∀ b, b < N → a ≠ b → (T a).2.1 ≠ (T b).2.1) ∧ (T k).2.2.2 = true ∧ (T k).1 = own ∧ parseFieldDescriptor (T k).2.2.1 = some ty
def NWC (own : String) (index ci N : Nat) (fs : List Value) : Prop := ∃ (C : String) (T : u_T) (t0 : Nat → FieldType), vwCl[ci]? = some (C, T, N) ∧ (∀ w ∈ u_ws C T N, w ∈ GG) ∧ (∀ k, k < N → parseFieldDescriptor (T k).2.2.1 = some (t0 k)) ∧ (∀ j, j < N → defaultValue (t0 j) = vp_V fs j) ∧ Cond.classLink own index C ∈ GG ∧ Cond.instantiable C N ∈ GG ∧ Cond.initialized C ∈ GG
def adF (xs : List Nat) : Nat → Nat := fun k => xs.getD k 0
theorem arrV_cg {cA : ClassId} {N : Nat} {f g : Nat → Value} (h : ∀ j, j < N → f j = g j) : arrV cA N f = arrV cA N g := by
  unfold arrV
  have e : (Array.ofFn (n := N) fun j => f j.val) = (Array.ofFn (n := N) fun j => g j.val) := by
    congr 1
    funext j
    exact h j.val j.isLt
  rw [e]
theorem refs_cg {D : va_G} {ws : va_W} {H : Heap} (hP : va_P D vwCl ws H) (q0 : Nat) {a n : Nat} {kT : ClassId} {f : Nat → Option Nat} (g : Nat → Option Nat) (he : ws[q0]? = some (a, .inl (kT, n, .inr (.inr (.inr (.inr f)))))) (hfg : ∀ j, j < n → f j = g j) : va_P D vwCl (ws.set q0 (a, .inl (kT, n, .inr (.inr (.inr (.inr g)))))) H := by
  intro k q hk
  by_cases h : k = q0
  · subst h
    have hl : k < ws.length := (List.getElem?_eq_some_iff.mp he).1
    rw [List.getElem?_set_self hl] at hk
    cases hk
    have h1 : H[a]? = some (vp_cell kT (n, .inr (.inr (.inr (.inr f))))) := hP k _ he
    show H[a]? = some (vp_cell kT (n, .inr (.inr (.inr (.inr g)))))
    rw [h1, vp_cell_q, vp_cell_q, arrV_cg (fun j hj => by rw [hfg j hj])]
  · rw [List.getElem?_set_ne (fun z => h z.symm)] at hk
    exact hP k q hk
section CONR
variable {l : Launch} {D : va_G} {kB kI kT : ClassId} {ks sk sv : Nat}
theorem PC_blind {sz : Nat} {as : List Value} {ws : va_W} : FrameBlind (PC D kB kI kT ks sk sv sz as ws) := fun a U g mk q => ⟨q.1, q.2.1, q.2.2.1.calling, va_AO.moved (u := U) (U := U.calling g mk a) (Vm.Alike.refl U.vm) q.2.2.2.1, q.2.2.2.2.1, q.2.2.2.2.2⟩
theorem MC.go {y : MethodName} {c : ByteArray} {n fr lo mc ms sz : Nat} {as : List Value} {ws : va_W} {Post : va_W → Prop} (hy : plainName y.cls = true) (hyn : y.name = "<init>") (hn : (lg_sl as).length ≤ n)
    (body : ∀ (p : Program) (e : Env) (s : State) (m : MethodId) (below : List Frame) (meth : Method) (c0 : Code) (args : Array Value) (Q : State → Prop) (ls : Array Slot) (A : Nat → Prop), Q = MQ below (va_Qv Post (fun w1 t => va_P D vwCl w1 t.heap ∧ va_D A w1) A) args s mc ms A → p.tables.exec = Jvm.exec → c0.code = c → meth.sig.returnType = none → c0.maxLocals = n → s.vm.findClass y.cls = some m.cls → (∀ w ∈ GG, w.before args s = true) → meth.locks = false → meth.name = "<init>" → (∀ q, s.heap.size ≤ q → A q) → va_AO "PlaySeason$Title" s → EN D kB kI kT ks sk sv A s → va_P D vwCl ws s.heap → va_D A ws → va_S A s.heap s.heap [] → lv_has ls n (lv_args 0 as) →
      W p l e (rmC fr mc ms lo) s m args below meth c0 s.heap [] 0 0 Q (F0 m 0 ls [])) : MC l y c n fr lo mc ms D kB kI kT ks sk sv sz as ws Post := by
  refine Met.ofW (cc := c) (maxL := n) (ret := none) hy rfl ?_
  intro p e s m args below meth c0 s₁ B hml hv
  obtain ⟨rfl, hsz, hE, hAO, hP, hD⟩ := hv
  subst hsz
  have hts := atoms_spec (ws := wsG y c n none) B.pre
  rw [lg_entry_eq]
  exact body p e s m below meth c0 _ _ _ (va_A ws s.heap.size) rfl B.exec B.bytes B.returns hml (findClass_of_methodNamed B.named) (fun w hw => hts w (List.mem_cons_of_mem _ hw)) B.notSynchronized ((name_of_methodNamed B.named B.method).1.trans hyn) (fun q h => Or.inr h) hAO hE hP hD.self va_S.rf (lv_entry as hn)
variable {p : Program} {e : Env} {R : Room} {s : State} {m : MethodId} {args : Array Value} {below : List Frame} {meth : Method} {c : Code} {H : Heap} {locs : List Loc} {cells slots : Nat} {Q : State → Prop}
variable {own : String} {index : Nat} {y : MethodName} {bytes cc : ByteArray} {maxL nL n : Nat} {fr lo mc ms : Nat} {As rest st0 : List Value} {b pc : Nat} {ls : Array Slot} {ws wc wr : va_W} {A : Nat → Prop} {Post : va_W → Prop}
theorem cIK (hE : EN D kB kI kT ks sk sv A s) (hP : va_P D vwCl ws H) (hD : va_D A ws) (hS : va_S A s.heap H locs) (hA : ∀ q, s.heap.size ≤ q → A q) (isC isR : List Nat) (hC : isC.map (fun i => ws[i]?) = wc.map some) (hRr : isR.map (fun i => ws[i]?) = wr.map some) (hnR : va_nd isR = true) (hdis : ∀ i ∈ isR, i ∉ isC) {a : Array Value}
    (hr : va_Run p l e R s m args below meth c H locs cells slots mc ms (F0 m pc ls st0) rest (va_Qv Post (fun w1 t => va_P D vwCl w1 t.heap ∧ va_D (va_A wc H.size) w1) (va_A wc H.size) a) (va_A wc H.size))
    (kk : ∀ (w1 : va_W) (H1 : Heap) (locs1 : List Loc), Post w1 → va_P D vwCl (wr ++ w1) H1 → va_D A (wr ++ w1) → va_S A s.heap H1 locs1 → W p l e R s m args below meth c H1 locs1 (cells + mc) (slots + ms) Q (F0 m (pc + 3) ls rest)) : W p l e R s m args below meth c H locs cells slots Q (F0 m pc ls st0) := by
  have hFc := va_free (wc := wc) hD hS hA isC hC
  refine va_callv hr hS (fun q _ h => hFc q h) hFc (fun w1 t H1 locs1 ht hvm hpost hB hz hk hS1 => ?_)
  obtain ⟨hP1, hD1⟩ := hB
  rw [ht] at hP1
  obtain ⟨g1, g2⟩ := va_join hP hD isC isR hC hRr hnR hdis hk hFc hP1 hD1
  exact kk w1 H1 locs1 hpost g1 g2 hS1
theorem cI (S : CallFix p m c cc nL s args GG own) (hM : MC l y bytes maxL fr lo mc ms D kB kI kT ks sk sv H.size (.ref b :: As) wc Post) (cw : CWI own index y bytes maxL n) (hR : fr + 1 ≤ R.frames ∧ 8 + (maxL + 11) + lo ≤ R.locals) (hE : EN D kB kI kT ks sk sv A s) (hAO : va_AO "PlaySeason$Title" s) (hP : va_P D vwCl ws H) (hD : va_D A ws) (hS : va_S A s.heap H locs) (hA : ∀ q, s.heap.size ≤ q → A q) (isC isR : List Nat) (hndC : va_nd isC = true) (hC : isC.map (fun i => ws[i]?) = wc.map some) (hRr : isR.map (fun i => ws[i]?) = wr.map some) (hnR : va_nd isR = true) (hdis : ∀ i ∈ isR, i ∉ isC)
    (hn : As.length = n) (hsize : ls.size = nL) (hst : st0 = As.reverse ++ .ref b :: rest) (hcat : (rest.map fun v => v.category).sum ≤ 8) (hdg : decode cc pc = .ok (.invokespecial index, 3)) (hf : cells + mc ≤ R.cells ∧ slots + ms ≤ R.slots)
    (kk : ∀ (w1 : va_W) (H1 : Heap) (locs1 : List Loc), Post w1 → va_P D vwCl (wr ++ w1) H1 → va_D A (wr ++ w1) → va_S A s.heap H1 locs1 → W p l e R s m args below meth c H1 locs1 (cells + mc) (slots + ms) Q (F0 m (pc + 3) ls rest)) : W p l e R s m args below meth c H locs cells slots Q (F0 m pc ls st0) := by
  have hPc := sub_P hP isC hC
  have hFc := va_free (wc := wc) hD hS hA isC hC
  have ht := S.2.2.2.2
  refine cIK hE hP hD hS hA isC isR hC hRr hnR hdis (va_runI (n := n) S hM ⟨callB_of n ht (wsG_good cw.1.2.2.2) rfl rfl rfl (ht _ cw.1.2.2.1) (ht _ cw.1.1) cw.2.2 hR, cw.2.1, ht _ cw.1.2.1⟩ ⟨PC_blind, fun U hU hW => ⟨rfl, by rw [hU], hE.go hS hU hW hFc, va_AO.moved hW.alike hAO, by rw [hU]; exact hPc, (hD.sub isC hndC hC).weaken (fun _ _ _ _ => trivial)⟩⟩ rfl hn hsize hst (lv_room hcat) hdg hf) kk
theorem cIN {host : String} (S : CallFix p m c cc nL s args GG own) (hM : MC l y bytes maxL fr lo mc ms D kB kI kT ks sk sv H.size (.ref b :: As) wc Post) (cw : CNI own index y host bytes maxL n) (hR : fr + 1 ≤ R.frames ∧ 8 + (maxL + 11) + lo ≤ R.locals) (hE : EN D kB kI kT ks sk sv A s) (hAO : va_AO "PlaySeason$Title" s) (hP : va_P D vwCl ws H) (hD : va_D A ws) (hS : va_S A s.heap H locs) (hA : ∀ q, s.heap.size ≤ q → A q) (isC isR : List Nat) (hndC : va_nd isC = true) (hC : isC.map (fun i => ws[i]?) = wc.map some) (hRr : isR.map (fun i => ws[i]?) = wr.map some) (hnR : va_nd isR = true) (hdis : ∀ i ∈ isR, i ∉ isC)
    (hn : As.length = n) (hsize : ls.size = nL) (hst : st0 = As.reverse ++ .ref b :: rest) (hcat : (rest.map fun v => v.category).sum ≤ 8) (hdg : decode cc pc = .ok (.invokespecial index, 3)) (hf : cells + mc ≤ R.cells ∧ slots + ms ≤ R.slots)
    (kk : ∀ (w1 : va_W) (H1 : Heap) (locs1 : List Loc), Post w1 → va_P D vwCl (wr ++ w1) H1 → va_D A (wr ++ w1) → va_S A s.heap H1 locs1 → W p l e R s m args below meth c H1 locs1 (cells + mc) (slots + ms) Q (F0 m (pc + 3) ls rest)) : W p l e R s m args below meth c H locs cells slots Q (F0 m pc ls st0) := by
  have hPc := sub_P hP isC hC
  have hFc := va_free (wc := wc) hD hS hA isC hC
  have ht := S.2.2.2.2
  refine cIK hE hP hD hS hA isC isR hC hRr hnR hdis (va_runIN (n := n) S hM ⟨va_cnB n ht (wsG_good cw.1.2.2.2) rfl rfl rfl (hE.2.1 _ cw.1.1) (ht _ cw.1.2.2.1) cw.2.2 hR, cw.2.1, ht _ cw.1.2.1⟩ ⟨PC_blind, fun U hU hW => ⟨rfl, by rw [hU], hE.go hS hU hW hFc, va_AO.moved hW.alike hAO, by rw [hU]; exact hPc, (hD.sub isC hndC hC).weaken (fun _ _ _ _ => trivial)⟩⟩ rfl hn hsize hst (lv_room hcat) hdg hf) kk
theorem newI (hx : p.tables.exec = Jvm.exec) (hb : c.code = cc) (hts : ∀ w ∈ GG, w.before args s = true) (hw : Cond.arrayClass .int ∈ GG) (hE : EN D kB kI kT ks sk sv A s) (hP : va_P D vwCl ws H) (hD : va_D A ws) (hS : va_S A s.heap H locs) (hA : ∀ q, s.heap.size ≤ q → A q) {x : Int32} (N : Nat) (hn : ¬ x < 0) (hN : x.toNatClampNeg = N) (hby : N * componentBytes .int ≤ 536870912) (hcells : cells + 1 ≤ R.cells) (hslots : slots + N ≤ R.slots) (hdg : decode cc pc = .ok (.newarray .int, 2))
    (kk : ∀ (q : Nat) (H1 : Heap), va_P D vwCl (ws ++ [(q, .inl (kI, N, .inl (fun _ => 0)))]) H1 → va_D A (ws ++ [(q, .inl (kI, N, .inl (fun _ => 0)))]) → va_S A s.heap H1 locs → W p l e R s m args below meth c H1 locs (cells + 1) (slots + N) Q (F0 m (pc + 2) ls (.ref q :: rest))) : W p l e R s m args below meth c H locs cells slots Q (F0 m pc ls (.int x :: rest)) := by
  refine va_newa (atype := .int) (ty := .int) hx hb (hts _ hw) rfl hE.1 hP hD hS hA (a0 := (N, .inl (fun _ => 0))) (fun cA => rfl) hn hN hby hcells hslots hdg (fun q cA H1 hK1 hP1 hD1 hS1 => ?_)
  have e : cA = kI := by
    have h1 := va_nm_int (hK1.2 3 _ rfl).2
    have h2 := va_nm_int (hE.1.2 0 _ rfl).2
    rw [h2] at h1
    exact (Option.some.inj h1).symm
  subst e
  exact kk q H1 hP1 hD1 hS1
theorem newB (hx : p.tables.exec = Jvm.exec) (hb : c.code = cc) (hts : ∀ w ∈ GG, w.before args s = true) (hw : Cond.arrayClass .byte ∈ GG) (hE : EN D kB kI kT ks sk sv A s) (hP : va_P D vwCl ws H) (hD : va_D A ws) (hS : va_S A s.heap H locs) (hA : ∀ q, s.heap.size ≤ q → A q) {x : Int32} (N : Nat) (hn : ¬ x < 0) (hN : x.toNatClampNeg = N) (hby : N * componentBytes .byte ≤ 536870912) (hcells : cells + 1 ≤ R.cells) (hslots : slots + N ≤ R.slots) (hdg : decode cc pc = .ok (.newarray .byte, 2))
    (kk : ∀ (q : Nat) (H1 : Heap), va_P D vwCl (ws ++ [(q, .inl (kB, N, .inl (fun _ => 0)))]) H1 → va_D A (ws ++ [(q, .inl (kB, N, .inl (fun _ => 0)))]) → va_S A s.heap H1 locs → W p l e R s m args below meth c H1 locs (cells + 1) (slots + N) Q (F0 m (pc + 2) ls (.ref q :: rest))) : W p l e R s m args below meth c H locs cells slots Q (F0 m pc ls (.int x :: rest)) := by
  refine va_newa (atype := .byte) (ty := .byte) hx hb (hts _ hw) rfl hE.1 hP hD hS hA (a0 := (N, .inl (fun _ => 0))) (fun cA => rfl) hn hN hby hcells hslots hdg (fun q cA H1 hK1 hP1 hD1 hS1 => ?_)
  have e : cA = kB := by
    have h1 := va_nm_byte (hK1.2 3 _ rfl).2
    have h2 := va_nm_byte (hE.1.2 1 _ rfl).2
    rw [h2] at h1
    exact (Option.some.inj h1).symm
  subst e
  exact kk q H1 hP1 hD1 hS1
theorem newT (hx : p.tables.exec = Jvm.exec) (hb : c.code = cc) (hts : ∀ w ∈ GG, w.before args s = true) (hown : s.vm.findClass own = some m.cls) (hw : Cond.classLink own index "PlaySeason$Title" ∈ GG) (hAO : va_AO "PlaySeason$Title" s) (hE : EN D kB kI kT ks sk sv A s) (hP : va_P D vwCl ws H) (hD : va_D A ws) (hS : va_S A s.heap H locs) (hA : ∀ q, s.heap.size ≤ q → A q) {x : Int32} (N : Nat) (hn : ¬ x < 0) (hN : x.toNatClampNeg = N) (hby : N * 4 ≤ 536870912) (hcells : cells + 1 ≤ R.cells) (hslots : slots + N ≤ R.slots) (hdg : decode cc pc = .ok (.anewarray index, 3))
    (kk : ∀ (q : Nat) (H1 : Heap), va_P D vwCl (ws ++ [(q, .inl (kT, N, .inr (.inr (.inr (.inr (fun _ => none))))))]) H1 → va_D A (ws ++ [(q, .inl (kT, N, .inr (.inr (.inr (.inr (fun _ => none))))))]) → va_S A s.heap H1 locs → W p l e R s m args below meth c H1 locs (cells + 1) (slots + N) Q (F0 m (pc + 3) ls (.ref q :: rest))) : W p l e R s m args below meth c H locs cells slots Q (F0 m pc ls (.int x :: rest)) := by
  refine va_newq hx hb hown (hts _ hw) hAO hE.1 hP hD hS hA hn hN hby hcells hslots hdg (fun q cA H1 hK1 hP1 hD1 hS1 => ?_)
  have e : cA = kT := by
    have h1 := va_nmO (hK1.2 3 _ rfl).2 rfl
    have h2 := va_nmO (hE.1.2 2 _ rfl).2 rfl
    rw [h2] at h1
    exact (Option.some.inj h1).symm
  subst e
  exact kk q H1 hP1 hD1 hS1
theorem newC (hx : p.tables.exec = Jvm.exec) (hb : c.code = cc) (hts : ∀ w ∈ GG, w.before args s = true) (hown : s.vm.findClass own = some m.cls) {ci N : Nat} {fs : List Value} (hw : NWC own index ci N fs) (hE : EN D kB kI kT ks sk sv A s) (hP : va_P D vwCl ws H) (hD : va_D A ws) (hS : va_S A s.heap H locs) (hA : ∀ q, s.heap.size ≤ q → A q) (hcells : cells + 1 ≤ R.cells) (hslots : slots + N ≤ R.slots) (hdg : decode cc pc = .ok (.new index, 3))
    (kk : ∀ (q : Nat) (H1 : Heap), va_P D vwCl (ws ++ [(q, .inr (ci, fs))]) H1 → va_D A (ws ++ [(q, .inr (ci, fs))]) → va_S A s.heap H1 locs → W p l e R s m args below meth c H1 locs (cells + 1) (slots + N) Q (F0 m (pc + 3) ls (.ref q :: rest))) : W p l e R s m args below meth c H locs cells slots Q (F0 m pc ls rest) := by
  obtain ⟨C, T, t0, hc, hin, hty, hdf, h1, h2, h3⟩ := hw
  exact va_new hx hb hts hin t0 hty hown (hts _ h1) (hts _ h2) (hts _ h3) hE.1 hP hD hS hA hc hdf hcells hslots hdg kk
theorem fputF (hx : p.tables.exec = Jvm.exec) (hb : c.code = cc) (hts : ∀ w ∈ GG, w.before args s = true) (hown : s.vm.findClass own = some m.cls) (hmn : meth.name = "<init>") (hE : EN D kB kI kT ks sk sv A s) (hP : va_P D vwCl ws H) (hD : va_D A ws) (hS : va_S A s.heap H locs) {ci k a : Nat} {ty : FieldType} (hF : FPF own index ci k ty) (q0 : Nat) {fs : List Value} {v : Value} (he : ws[q0]? = some (a, .inr (ci, fs))) (hn : narrow ty v = v) (hfit : fits ty v = true) (hl : k < fs.length) (hdg : decode cc pc = .ok (.putfield index, 3))
    (kk : ∀ (H1 : Heap) (locs1 : List Loc), va_P D vwCl (ws.set q0 (a, .inr (ci, fs.set k v))) H1 → va_D A (ws.set q0 (a, .inr (ci, fs.set k v))) → va_S A s.heap H1 locs1 → W p l e R s m args below meth c H1 locs1 cells slots Q (F0 m (pc + 3) ls rest)) : W p l e R s m args below meth c H locs cells slots Q (F0 m pc ls (v :: .ref a :: rest)) := by
  obtain ⟨C, T, N, t0, hc, hk, hin, hlk, hty, hnm, hfin, hdc, hd⟩ := hF
  exact va_putF hx hb hts hin t0 hty hnm hown hE.1 hP hD hS q0 he hc k hk (hts _ hlk) (fun _ h => h) hfin hmn hdc hd hn hfit hl hdg kk
theorem objI (hx : p.tables.exec = Jvm.exec) (hb : c.code = cc) (hml : c.maxLocals = nL) (hts : ∀ w ∈ GG, w.before args s = true) (hown : s.vm.findClass own = some m.cls) (h1 : Cond.methodLink own index objectInit ∈ GG) (h2 : Cond.instanceMethod objectInit ∈ GG) (h3 : Cond.code objectInit ⟨#[0xb1]⟩ 1 none ∈ GG) {a : Nat} (hsz : ls.size = nL) (hfr : 1 ≤ R.frames) (hlo : 12 ≤ R.locals) (hdg : decode cc pc = .ok (.invokespecial index, 3))
    (kk : W p l e R s m args below meth c H locs cells slots Q (F0 m (pc + 3) ls [])) : W p l e R s m args below meth c H locs cells slots Q (F0 m pc ls [.ref a]) :=
  W.objInit hx hb hown (hts _ h1) (hts _ h2) (hts _ h3) rfl (by rw [hml]; exact hsz) rfl hdg hfr hlo kk
end CONR
