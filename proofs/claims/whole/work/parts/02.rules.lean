def GG : List Cond := lw_tbl.filter goodWord
theorem GG_mem {w : Cond} (h : w ∈ lw_tbl) (hg : goodWord w = true) : w ∈ GG := List.mem_filter.mpr ⟨h, hg⟩
theorem GG_good {w : Cond} (h : w ∈ GG) : (w.onTables && w.keeps) = true ∨ ∃ ty, w = .arrayClass ty := good_of_word (List.mem_filter.mp h).2
theorem GG_tbl {w : Cond} (h : w ∈ GG) : w ∈ lw_tbl := (List.mem_filter.mp h).1
theorem GG_at (k : Nat) {w : Cond} (h : tables_1[k]? = some w) (hg : goodWord w = true) : w ∈ GG := GG_mem (List.mem_append_right _ (List.mem_of_getElem? h)) hg
theorem GG_sel (k : Nat) {w : Cond} (h : (k2_sels lw_privs)[k]? = some w) (hg : goodWord w = true) : w ∈ GG := GG_mem (List.mem_append_left _ (List.mem_of_getElem? h)) hg
theorem GG_sub (ws : List Cond) (ps : List Nat) (hp : ws = ps.filterMap (fun i => tables_1[i]?)) (hg : ws.all goodWord = true) : ∀ w ∈ ws, w ∈ GG := by
  intro w hw
  have h1 := List.all_eq_true.mp hg w hw
  rw [hp] at hw
  obtain ⟨i, -, hi⟩ := List.mem_filterMap.mp hw
  exact GG_at i hi h1
abbrev wsG (y : MethodName) (c : ByteArray) (n : Nat) (r : Option FieldType) : List Cond := .code y c n r :: GG
theorem wsG_good {y : MethodName} {c : ByteArray} {n : Nat} {r : Option FieldType} (h : Cond.code y c n r ∈ GG) : GoodIn GG (wsG y c n r) := by
  intro w hw
  rcases List.mem_cons.mp hw with rfl | hw
  · exact ⟨h, GG_good h⟩
  · exact ⟨hw, GG_good hw⟩
/-! what the machine's statics hold -/
def kso (j : Nat) : Int32 := match j with
  | 0 => 25
  | 1 => 23
  | 2 => 6
  | _ => 16
def ST (ks sk sv : Nat) (A : Nat → Prop) (U : State) (H : Heap) : Prop :=
  va_Z "PlaySeason" "KINDS_IF_SO" "[I" (.ref ks) A U H ∧ va_T .int ks 4 (fun j => .int (kso j)) A U H ∧ va_Z "java/lang/String" "COMPACT_STRINGS" "Z" (.int 1) A U H ∧ vk_R "PlaySeason$Page" 31 "tgfrd" sk U ∧ vk_R "PlaySeason$Title" 32 "tgfrd" sk U ∧ vk_S 1 [5] [[116, 103, 102, 114, 100]] (fun _ => sk) (fun _ => sv) A U H
theorem ST.warm {ks sk sv : Nat} {A : Nat → Prop} {s U : State} {H : Heap} (hW : s.WarmedH U.vm) (h : ST ks sk sv A s H) : ST ks sk sv A U H :=
  ⟨va_Z.moved hW.alike h.1, va_T.moved hW.alike h.2.1, va_Z.moved hW.alike h.2.2.1, vk_R.warm hW h.2.2.2.1, vk_R.warm hW h.2.2.2.2.1, vk_S.moved hW.alike h.2.2.2.2.2⟩
theorem ST.same {ks sk sv : Nat} {A : Nat → Prop} {u U : State} {H : Heap} (hv : U.vm = u.vm) (h : ST ks sk sv A u H) : ST ks sk sv A U H := by
  have ha : u.vm.Alike U.vm := by rw [hv]; exact Vm.Alike.refl u.vm
  exact ⟨va_Z.moved ha h.1, va_T.moved ha h.2.1, va_Z.moved ha h.2.2.1, vk_R.same hv h.2.2.2.1, vk_R.same hv h.2.2.2.2.1, vk_S.moved ha h.2.2.2.2.2⟩
theorem ST.kept {ks sk sv : Nat} {A : Nat → Prop} {U : State} {H H1 : Heap} (h : ST ks sk sv A U H) (hq : ∀ a : Nat, a < H.size → ¬ A a → H1[a]? = H[a]?) : ST ks sk sv A U H1 :=
  ⟨h.1.kept hq, h.2.1.kept hq, h.2.2.1.kept hq, h.2.2.2.1, h.2.2.2.2.1, h.2.2.2.2.2.kept hq⟩
theorem ST.narrow {ks sk sv : Nat} {A B : Nat → Prop} {U : State} {H : Heap} (h : ST ks sk sv A U H) (hAB : ∀ q, B q → A q) : ST ks sk sv B U H :=
  ⟨h.1.narrow hAB, h.2.1.narrow hAB, h.2.2.1.narrow hAB, h.2.2.2.1, h.2.2.2.2.1, h.2.2.2.2.2.narrow hAB⟩
def nestQ : List (String × Nat × MethodName × String) := [("PlaySeason", 9, ⟨"PlaySeason$Page", "<init>", "()V"⟩, "PlaySeason"), ("PlaySeason", 18, ⟨"PlaySeason$Season", "<init>", "()V"⟩, "PlaySeason"), ("PlaySeason$Titles", 17, ⟨"PlaySeason$Title", "<init>", "()V"⟩, "PlaySeason"), ("PlaySeason$Season", 27, ⟨"PlaySeason$Seen", "<init>", "()V"⟩, "PlaySeason"), ("PlaySeason$Plan", 58, ⟨"PlaySeason", "isNight", "(I)Z"⟩, "PlaySeason")]
abbrev tyL (kB kI kT : ClassId) : List (ClassId × FieldType) := [(kI, .int), (kB, .byte), (kT, .object "PlaySeason$Title")]
def EN (D : va_G) (kB kI kT : ClassId) (ks sk sv : Nat) (A : Nat → Prop) (U : State) : Prop :=
  va_K D vwCl (tyL kB kI kT) U ∧ (∀ q ∈ nestQ, va_Nw (.methodLinkNest q.1 q.2.1 q.2.2.1 q.2.2.2) U) ∧ ST ks sk sv A U U.heap
def NA : Nat → Prop := fun _ => False
def NT : Nat → Prop := fun _ => True
def AA (ws : va_W) : Nat → Prop := fun q => ∃ (k : Nat) (e : va_E), ws[k]? = some (q, e)
section RULES
variable {l : Launch} {D : va_G} {kB kI kT : ClassId} {ks sk sv : Nat}
theorem EN.go {A B : Nat → Prop} {s U : State} {H : Heap} {locs : List Loc} (h : EN D kB kI kT ks sk sv A s) (hS : va_S A s.heap H locs) (hH : U.heap = H) (hW : s.WarmedH U.vm) (hAB : ∀ q, B q → A q) : EN D kB kI kT ks sk sv B U :=
  ⟨va_K.moved hW.alike h.1, fun q hq => va_Nw.warmM hW (h.2.1 q hq), by rw [hH]; exact (ST.warm hW (h.2.2.kept hS.2.1)).narrow hAB⟩
theorem EN.calling {A : Nat → Prop} {U : State} {g : JFrame} {mk : MethodId} {a : Array Value} (h : EN D kB kI kT ks sk sv A U) : EN D kB kI kT ks sk sv A (U.calling g mk a) :=
  ⟨va_K.moved (u := U) (U := U.calling g mk a) (Vm.Alike.refl U.vm) h.1, fun q hq => va_Nw.same rfl (u := U) (U := U.calling g mk a) rfl (h.2.1 q hq), ST.same (u := U) (U := U.calling g mk a) rfl h.2.2⟩
def QR (w : Option Value) : Array Value → State → Outcome → State → Prop := fun _ st o t => o = .returned w ∧ t.heap = st.heap
def QW (D : va_G) (w : Option Value) (w1 : va_W) (A : Nat → Prop) : Array Value → State → Outcome → State → Prop := fun _ st o t => (o = .returned w ∧ va_P D vwCl w1 t.heap) ∧ va_F A st t
def PR (D : va_G) (kB kI kT : ClassId) (ks sk sv : Nat) (as : List Value) (ws : va_W) : Array Value → State → Prop := va_Pc as (fun U => EN D kB kI kT ks sk sv NA U ∧ va_P D vwCl ws U.heap)
def PW (D : va_G) (kB kI kT : ClassId) (ks sk sv : Nat) (as : List Value) (ws : va_W) : Array Value → State → Prop := va_Pc as (fun U => EN D kB kI kT ks sk sv (AA ws) U ∧ va_P D vwCl ws U.heap ∧ va_D NT ws)
def rmO (fr lo : Nat) : Room := { frames := fr, cells := 0, slots := 0, locals := lo }
def MR (l : Launch) (y : MethodName) (c : ByteArray) (n : Nat) (ret : Option FieldType) (fr lo : Nat) (D : va_G) (kB kI kT : ClassId) (ks sk sv : Nat) (as : List Value) (ws : va_W) (w : Option Value) : Prop :=
  Met l y (wsG y c n ret) (rmO fr lo) (PR D kB kI kT ks sk sv as ws) (QR w) 0 0 NA
def MW (l : Launch) (y : MethodName) (c : ByteArray) (n : Nat) (ret : Option FieldType) (fr lo : Nat) (D : va_G) (kB kI kT : ClassId) (ks sk sv : Nat) (as : List Value) (ws : va_W) (w : Option Value) (w1 : va_W) : Prop :=
  Met l y (wsG y c n ret) (rmO fr lo) (PW D kB kI kT ks sk sv as ws) (QW D w w1 (AA ws)) 0 0 (AA ws)
theorem PR_blind {as : List Value} {ws : va_W} : FrameBlind (PR D kB kI kT ks sk sv as ws) := fun _ _ _ _ q => ⟨q.1, q.2.1.calling, q.2.2⟩
theorem PW_blind {as : List Value} {ws : va_W} : FrameBlind (PW D kB kI kT ks sk sv as ws) := fun _ _ _ _ q => ⟨q.1, q.2.1.calling, q.2.2.1, q.2.2.2⟩
theorem AA_self {ws : va_W} {A : Nat → Prop} (h : va_D A ws) : va_D (AA ws) ws := ⟨h.1, fun k q hk => ⟨k, q.2, hk⟩⟩
theorem MR.of {y : MethodName} {c : ByteArray} {n : Nat} {ret : Option FieldType} {fr lo : Nat} {as : List Value} {ws : va_W} {w : Option Value} (hy : plainName y.cls = true) (hn : (lg_sl as).length ≤ n)
    (body : ∀ (p : Program) (e : Env) (s : State) (m : MethodId) (below : List Frame) (meth : Method) (c0 : Code) (ls : Array Slot), p.tables.exec = Jvm.exec → c0.code = c → meth.sig.returnType = ret → c0.maxLocals = n → s.vm.findClass y.cls = some m.cls → (∀ w ∈ GG, w.before as.toArray s = true) → meth.locks = false → EN D kB kI kT ks sk sv NA s → va_P D vwCl ws s.heap → va_S NA s.heap s.heap [] → lv_has ls n (lv_args 0 as) →
      W p l e (rmO fr lo) s m as.toArray below meth c0 s.heap [] 0 0 (MQ below (QR w) as.toArray s 0 0 NA) (F0 m 0 ls [])) : MR l y c n ret fr lo D kB kI kT ks sk sv as ws w := by
  refine Met.ofW (cc := c) (maxL := n) (ret := ret) hy rfl ?_
  intro p e s m args below meth c0 s₁ B hml hv
  obtain ⟨rfl, hE, hP⟩ := hv
  have hts := atoms_spec (ws := wsG y c n ret) B.pre
  rw [lg_entry_eq]
  exact body p e s m below meth c0 _ B.exec B.bytes B.returns hml (findClass_of_methodNamed B.named) (fun w hw => hts w (List.mem_cons_of_mem _ hw)) B.notSynchronized hE hP va_S.rf (lv_entry as hn)
theorem MW.of {y : MethodName} {c : ByteArray} {n : Nat} {ret : Option FieldType} {fr lo : Nat} {as : List Value} {ws w1 : va_W} {w : Option Value} (hy : plainName y.cls = true) (hn : (lg_sl as).length ≤ n)
    (body : ∀ (p : Program) (e : Env) (s : State) (m : MethodId) (below : List Frame) (meth : Method) (c0 : Code) (ls : Array Slot) (A : Nat → Prop), p.tables.exec = Jvm.exec → c0.code = c → meth.sig.returnType = ret → c0.maxLocals = n → s.vm.findClass y.cls = some m.cls → (∀ w ∈ GG, w.before as.toArray s = true) → meth.locks = false → EN D kB kI kT ks sk sv A s → va_P D vwCl ws s.heap → va_D A ws → va_S A s.heap s.heap [] → lv_has ls n (lv_args 0 as) →
      W p l e (rmO fr lo) s m as.toArray below meth c0 s.heap [] 0 0 (MQ below (QW D w w1 A) as.toArray s 0 0 A) (F0 m 0 ls [])) : MW l y c n ret fr lo D kB kI kT ks sk sv as ws w w1 := by
  refine Met.ofW (cc := c) (maxL := n) (ret := ret) hy rfl ?_
  intro p e s m args below meth c0 s₁ B hml hv
  obtain ⟨rfl, hE, hP, hD⟩ := hv
  have hts := atoms_spec (ws := wsG y c n ret) B.pre
  rw [lg_entry_eq]
  exact body p e s m below meth c0 _ (AA ws) B.exec B.bytes B.returns hml (findClass_of_methodNamed B.named) (fun w hw => hts w (List.mem_cons_of_mem _ hw)) B.notSynchronized hE hP (AA_self hD) va_S.rf (lv_entry as hn)
/-! call words -/
def CWV (own : String) (index : Nat) (y : MethodName) (bytes : ByteArray) (maxL : Nat) (ret : Option FieldType) (n : Nat) : Prop :=
  (Cond.methodLink own index y ∈ GG ∧ Cond.instanceMethod y ∈ GG ∧ Cond.selects y.cls y y ∈ GG ∧ Cond.initialized y.cls ∈ GG ∧ Cond.code y bytes maxL ret ∈ GG) ∧ y.cls ≠ "java/lang/invoke/MethodHandle" ∧ y.cls ≠ "java/lang/invoke/VarHandle" ∧ (parseMethodDescriptor y.desc).map (fun d => d.parameters.length) = some n
def CWS (own : String) (index : Nat) (y : MethodName) (bytes : ByteArray) (maxL : Nat) (ret : Option FieldType) (n : Nat) : Prop :=
  (Cond.methodLink own index y ∈ GG ∧ Cond.static y ∈ GG ∧ Cond.initialized y.cls ∈ GG ∧ Cond.code y bytes maxL ret ∈ GG) ∧ y.cls ≠ "java/lang/invoke/MethodHandle" ∧ y.cls ≠ "java/lang/invoke/VarHandle" ∧ (parseMethodDescriptor y.desc).map (fun d => d.parameters.length) = some n
def CNS (own : String) (index : Nat) (y : MethodName) (host : String) (bytes : ByteArray) (maxL : Nat) (ret : Option FieldType) (n : Nat) : Prop :=
  ((own, index, y, host) ∈ nestQ ∧ Cond.static y ∈ GG ∧ Cond.initialized y.cls ∈ GG ∧ Cond.code y bytes maxL ret ∈ GG) ∧ y.cls ≠ "java/lang/invoke/MethodHandle" ∧ y.cls ≠ "java/lang/invoke/VarHandle" ∧ (parseMethodDescriptor y.desc).map (fun d => d.parameters.length) = some n
variable {p : Program} {e : Env} {R : Room} {s : State} {m : MethodId} {args : Array Value} {below : List Frame} {meth : Method} {c : Code} {H : Heap} {locs : List Loc} {cells slots : Nat} {Q : State → Prop}
variable {own : String} {index : Nat} {y : MethodName} {bytes cc : ByteArray} {maxL nL n : Nat} {ret : Option FieldType} {fr lo : Nat} {As rest st0 : List Value} {b pc : Nat} {ls : Array Slot} {ws w1 wc : va_W} {A : Nat → Prop} {w : Option Value}
theorem CWV.cw {rm : Room} (h : CWV own index y bytes maxL ret n) (ht : ∀ w ∈ GG, w.before args s = true) (hrc : rm.cells = 0) (hrs : rm.slots = 0) (hR : rm.frames + 1 ≤ R.frames ∧ 8 + (maxL + 11) + rm.locals ≤ R.locals) : CallW R s args own y.cls index y bytes maxL ret (wsG y bytes maxL ret) rm 0 0 n :=
  ⟨callB_of n ht (wsG_good h.1.2.2.2.2) rfl hrc hrs (ht _ h.1.2.2.2.1) (ht _ h.1.1) h.2 hR, ht _ h.1.2.1, ht _ h.1.2.2.1⟩
theorem CWS.cw {rm : Room} (h : CWS own index y bytes maxL ret n) (ht : ∀ w ∈ GG, w.before args s = true) (hrc : rm.cells = 0) (hrs : rm.slots = 0) (hR : rm.frames + 1 ≤ R.frames ∧ 8 + (maxL + 11) + rm.locals ≤ R.locals) : CallB R s args own index y bytes maxL ret (wsG y bytes maxL ret) rm 0 0 n ∧ (Cond.static y).before args s = true :=
  ⟨callB_of n ht (wsG_good h.1.2.2.2) rfl hrc hrs (ht _ h.1.2.2.1) (ht _ h.1.1) h.2 hR, ht _ h.1.2.1⟩
/-! a reader's call -/
theorem rdK {args' : Array Value} (hr : CallRun p l e R s m args below meth c H locs cells slots 0 0 (F0 m pc ls st0) rest (QR w args') NA) (kk : W p l e R s m args below meth c H locs cells slots Q (F0 m (pc + 3) ls (w.toList ++ rest))) : W p l e R s m args below meth c H locs cells slots Q (F0 m pc ls st0) := by
  intro T hT X
  obtain ⟨v, st₀, t, T', L, h0, X', hL, e1, ⟨hv, hh⟩, st⟩ := hr T hT X
  cases hv
  obtain ⟨t2, a1, b1⟩ := kk T' (by rw [e1, hh, h0]) (Stand.forget X' (fun q h => (hL q h).elim))
  exact ⟨t2, st t2 a1, b1⟩
theorem rV (S : CallFix p m c cc nL s args GG own) (hM : MR l y bytes maxL ret fr lo D kB kI kT ks sk sv (.ref b :: As) ws w) (cw : CWV own index y bytes maxL ret n) (hR : fr + 1 ≤ R.frames ∧ 8 + (maxL + 11) + lo ≤ R.locals) (hE : EN D kB kI kT ks sk sv A s) (hS : va_S A s.heap H locs) (hP : va_P D vwCl ws H)
    {ci : Nat} {fs : List Value} {q : vw_C} (hrc : ws[0]? = some (b, .inr (ci, fs))) (hcl : vwCl[ci]? = some q) (hq : q.1 = y.cls) (hn : As.length = n) (hsize : ls.size = nL) (hst : st0 = As.reverse ++ .ref b :: rest) (hcat : (rest.map fun v => v.category).sum ≤ 8) (hdg : decode cc pc = .ok (.invokevirtual index, 3)) (hf : cells + 0 ≤ R.cells ∧ slots + 0 ≤ R.slots)
    (kk : W p l e R s m args below meth c H locs cells slots Q (F0 m (pc + 3) ls (w.toList ++ rest))) : W p l e R s m args below meth c H locs cells slots Q (F0 m pc ls st0) := by
  refine rdK (args' := (Value.ref b :: As).toArray) (W.runV (C := y.cls) (n := n) S hM (cw.cw S.2.2.2.2 rfl rfl hR) ⟨PR_blind, ?_, fun U hU hW => ⟨rfl, hE.go hS hU hW (fun _ h => h.elim), by rw [hU]; exact hP⟩⟩ rfl hn hsize hst (lv_room hcat) hdg hf) kk
  rw [← hq]
  exact va_recv hE.1 hP hcl hrc
theorem rS (S : CallFix p m c cc nL s args GG own) (hM : MR l y bytes maxL ret fr lo D kB kI kT ks sk sv As ws w) (cw : CWS own index y bytes maxL ret n) (hR : fr + 1 ≤ R.frames ∧ 8 + (maxL + 11) + lo ≤ R.locals) (hE : EN D kB kI kT ks sk sv A s) (hS : va_S A s.heap H locs) (hP : va_P D vwCl ws H)
    (hn : As.length = n) (hsize : ls.size = nL) (hst : st0 = As.reverse ++ rest) (hcat : (rest.map fun v => v.category).sum ≤ 8) (hdg : decode cc pc = .ok (.invokestatic index, 3)) (hf : cells + 0 ≤ R.cells ∧ slots + 0 ≤ R.slots)
    (kk : W p l e R s m args below meth c H locs cells slots Q (F0 m (pc + 3) ls (w.toList ++ rest))) : W p l e R s m args below meth c H locs cells slots Q (F0 m pc ls st0) :=
  rdK (args' := As.toArray) (W.runS (n := n) S hM (cw.cw S.2.2.2.2 rfl rfl hR) ⟨PR_blind, fun U hU hW => ⟨rfl, hE.go hS hU hW (fun _ h => h.elim), by rw [hU]; exact hP⟩⟩ rfl hn hsize hst (lv_room hcat) hdg hf) kk
theorem rSN {host : String} (S : CallFix p m c cc nL s args GG own) (hM : MR l y bytes maxL ret fr lo D kB kI kT ks sk sv As ws w) (cw : CNS own index y host bytes maxL ret n) (hR : fr + 1 ≤ R.frames ∧ 8 + (maxL + 11) + lo ≤ R.locals) (hE : EN D kB kI kT ks sk sv A s) (hS : va_S A s.heap H locs) (hP : va_P D vwCl ws H)
    (hn : As.length = n) (hsize : ls.size = nL) (hst : st0 = As.reverse ++ rest) (hcat : (rest.map fun v => v.category).sum ≤ 8) (hdg : decode cc pc = .ok (.invokestatic index, 3)) (hf : cells + 0 ≤ R.cells ∧ slots + 0 ≤ R.slots)
    (kk : W p l e R s m args below meth c H locs cells slots Q (F0 m (pc + 3) ls (w.toList ++ rest))) : W p l e R s m args below meth c H locs cells slots Q (F0 m pc ls st0) := by
  have hr := va_runSN (n := n) (rest := rest) S hM ⟨va_cnB n S.2.2.2.2 (wsG_good cw.1.2.2.2) rfl rfl rfl (hE.2.1 _ cw.1.1) (S.2.2.2.2 _ cw.1.2.2.1) cw.2 hR, S.2.2.2.2 _ cw.1.2.1, trivial⟩ ⟨PR_blind, fun U hU hW => ⟨rfl, hE.go hS hU hW (fun _ h => h.elim), by rw [hU]; exact hP⟩⟩ (g := F0 m pc ls st0) rfl hn hsize hst (lv_room hcat) hdg hf (H := H) (locs := locs) (cells := cells) (slots := slots) (meth := meth) (below := below) (e := e) (p := p)
  intro T hT X
  obtain ⟨v, st₀, t, T', L, h0, X', hL, e1, -, ⟨hv, hh⟩, st⟩ := hr T hT X
  cases hv
  obtain ⟨t2, a1, b1⟩ := kk T' (by rw [e1, hh, h0]) (Stand.forget X' (fun q h => (hL q h).elim))
  exact ⟨t2, st t2 a1, b1⟩
end RULES
