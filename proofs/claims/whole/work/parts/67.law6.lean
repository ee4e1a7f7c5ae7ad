/-! THE CLAIM OUT OF ONE WALK OF THE LAW'S BODY. Your part is whole_start (and what it stands on); all else here is the same for every law, but numbers. -/
def R_law : String := "PlaySeasonLaw"
def lw_P (b : Addr) (xs : List Int32) (args : Array Value) (s : State) : Prop := args = #[.ref b] ∧ s.IntsAt b xs ∧ xs.length ≤ 2048 ∧ (Jvm.Cond.and given_1 narrow_1).before args s = true
def lw_Q (_ : Array Value) (s : State) (o : Outcome) (t : State) : Prop := o = .returned (some (.int 1)) ∧ Framed s o t [] 600000 7302250
def lw_Z (below : List Frame) (a : Array Value) (s : State) : State → Prop := fun t => ∃ o, t.status = .running ∧ Ended t below o ∧ lw_Q a s o t
/-- the law's own end, with 1 on the stack, nothing written that was there before, its room as the claim has it -/
theorem lw_ret {p : Program} {l : Launch} {e : Env} {s : State} {m : MethodId} {below : List Frame} {meth : Method} {c : Code} {b : Nat} (hx : p.tables.exec = Jvm.exec) (hb : c.code = code) (hr : meth.sig.returnType = ret) (hlocks : meth.locks = false) {pc : Nat} {H : Heap} {ls : Array Slot} (hdg : decode code pc = .ok (.ireturn, 1)) : W p l e room_1 s m #[Value.ref b] below meth c H [] 600000 7302250 (lw_Z below #[Value.ref b] s) (F0 m pc ls [.int 1]) := by
  intro T hT X
  obtain ⟨fs, hret, hrun, hended, hW, hframe⟩ := X.leave (v := some (.int 1)) (hlocks := hlocks) (fun h => by rw [hr] at h; cases h)
  have hmeth' : T.vm.method? m = some meth := X.method'
  refine ⟨T.setFrames fs, ?_, .returned (some (.int 1)), hrun, hended, rfl, ⟨_, rfl⟩, hW, hframe⟩
  jvm_step X.here [X.here.top, hx, hb, hdg, hmeth', hr, ret, narrow_b1]
  (try refine ⟨rfl, ?_⟩); (try refine ⟨rfl, ?_⟩)
  first | (intro acts; rw [hret _ acts rfl rfl rfl]) | rw [hret _ _ rfl rfl rfl]
  exact Steps.refl _
/-- what holds at the law's entry: the machine, the code, the tables' words (any of lw_tbl by 'hts w (by decide +kernel)'), the script of L ints xs at the cell b, what the Statement gives of the start (any of its parts by flat_of_before) -/
def lw_At (p : Program) (s : State) (m : MethodId) (meth : Method) (c : Code) (b L : Nat) (xs : Nat → Int32) : Prop :=
  p.tables.exec = Jvm.exec ∧ c.code = code ∧ meth.sig.returnType = ret ∧ c.maxLocals = 4 ∧ s.vm.findClass R_law = some m.cls ∧ (∀ w ∈ lw_tbl, w.before #[Value.ref b] s = true) ∧ va_X b L xs s s.heap ∧ b < s.heap.size ∧ meth.locks = false ∧ (Jvm.Cond.and given_1 narrow_1).before #[Value.ref b] s = true
theorem LI_w {D : va_G} {kB kI kT : ClassId} {b x y pa : Nat → Nat} {o : Nat} {a : Nat → Nat} {A : Nat → Prop} {j : Nat} {H : Heap} (h : LI D kB kI kT b x y pa o a A j H) (hj : j + 1 < 100000) : LI D kB kI kT b x y pa o a A (j + 1) H := by
  obtain ⟨z, gg, r, hPb, n, sn, pn, h9, bt, g, cd, so, sq, q, c1, v, c2, v2, d, u, hPa, hd, hI⟩ := h
  exact ⟨z, gg, r, hPb, n, sn, pn, h9, bt, g, cd, so, sq, q, c1, v, c2, v2, d, u, hPa, hd, inv_w hI hj⟩
set_option maxRecDepth 100000 in
set_option maxHeartbeats 4000000 in
theorem law_loop {l : Launch} {D : va_G} {kB kI kT : ClassId} {ks sk sv : Nat} {p : Program} {e : Env} {s : State} {m : MethodId} {below : List Frame} {meth : Method} {c : Code} {cells slots : Nat} {bs L : Nat} {xs : Nat → Int32} {A : Nat → Prop} {b x y pa : Nat → Nat} {o : Nat} {a : Nat → Nat}
    (C : LC p s m c D kB kI kT ks sk sv bs L xs A) (hr : meth.sig.returnType = ret) (hlocks : meth.locks = false) (hA : ∀ q, A q → s.heap.size ≤ q) (hcs : cells + 0 ≤ room_1.cells ∧ slots + 0 ≤ room_1.slots) (hc1 : cells ≤ 600000) (hs1 : slots ≤ 7302250) :
    ∀ (fuel j : Nat), L - 4 * j < fuel → 4 * j ≤ L → ∀ (H : Heap) (locs : List Loc) (ls : Array Slot), lv_has ls 4 [(0, .ref bs), (1, .ref (b 30)), (2, .ref o), (3, .int (nI (4 * j)))] → LI D kB kI kT b x y pa o a A j H → va_S A s.heap H locs →
      W p l e room_1 s m #[Value.ref bs] below meth c H locs cells slots (lw_Z below #[Value.ref bs] s) (F0 m 18 ls []) := by
  obtain ⟨hx, hb, hml, hown, hts, hE, hX, hbl, hbA, hL⟩ := id C
  intro fuel
  induction fuel with
  | zero => intro j hf; exact absurd hf (Nat.not_lt_zero _)
  | succ fuel ih =>
    intro j hf hjL H locs ls hl h hS
    refine lv_iload_n (pc := 18) hx hb dL_law_18 rfl (lv_at hl 3 rfl) ?_
    refine lv_aload_n (pc := 19) hx hb dL_law_19 rfl (lv_at hl 0 rfl) ?_
    refine va_slen (pc := 20) hx hb hX hbl hbA hS dL_law_20 ?_
    refine lv_iconst (pc := 21) (v := 4) hx hb dL_law_21 (by decide) ?_
    refine isubV (pc := 22) (v := nI L - 4) hx hb dL_law_22 rfl ?_
    refine lv_icmp_gt (pc := 23) (tgt := 735) hx hb dL_law_23 (by decide) (fun _ => ?_) (fun hlt => ?_)
    · refine lv_iconst (pc := 735) (v := 1) hx hb dL_law_735 (by decide) ?_
      refine va_forget (fun q hq => hA _ (hS.2.2 q hq)) ?_
      refine W.widen (k := 600000) (n := 7302250) hc1 hs1 ?_
      exact lw_ret hx hb hr hlocks dL_law_736
    · have hj : 4 * j + 3 < L := by
        have q9 : ¬ L < 4 * j + 4 := fun q => hlt ((len_gt hL (by omega)).mpr q)
        omega
      have hnext : ∀ (H1 : Heap) (locs1 : List Loc), LI D kB kI kT b x y pa o a A (j + 1) H1 → va_S A s.heap H1 locs1 → W p l e room_1 s m #[Value.ref bs] below meth c H1 locs1 cells slots (lw_Z below #[Value.ref bs] s) (F0 m 729 ls []) := by
        intro H1 locs1 h1 hS1
        refine lv_iinc (pc := 729) (v := nI (4 * (j + 1))) (lv' := [(3, .int (nI (4 * (j + 1)))), (0, .ref bs), (1, .ref (b 30)), (2, .ref o)]) hx hb dL_law_729 hl (k := 3) rfl ((nI_add (4 * j) 4).trans (congrArg nI (by omega))) (by decide) rfl (fun ls hl => ?_)
        refine lv_goto (pc := 732) (tgt := 18) hx hb dL_law_732 (by decide) ?_
        exact ih (j + 1) (by omega) (by omega) H1 locs1 ls (lv_sub hl [1, 2, 3, 0] rfl) h1 hS1
      refine lv_aload_n (pc := 26) hx hb dL_law_26 rfl (lv_at hl 0 rfl) ?_
      refine lv_iload_n (pc := 27) hx hb dL_law_27 rfl (lv_at hl 3 rfl) ?_
      refine sldN (pc := 28) (j := 4 * j) hx hb hX hbl hbA hS (by omega) hL dL_law_28 ?_
      refine lv_bipush (pc := 29) (v := 31) hx hb dL_law_29 (by decide) ?_
      refine lv_iand (pc := 31) hx hb dL_law_31 ?_
      refine lv_topi (fun w9 _ => ?_)
      by_cases h_0 : w9 = 0
      · refine lv_tableIn (pc := 32) (off := 104) (tgt := 136) hx hb dL_law_32 (by rw [h_0]; decide) (by rw [h_0]; decide) (by rw [h_0]; try rfl) (by decide) ?_
        exact law_letter C hj hcs hl h hS hnext
      by_cases h_1 : w9 = 1
      · refine lv_tableIn (pc := 32) (off := 127) (tgt := 159) hx hb dL_law_32 (by rw [h_1]; decide) (by rw [h_1]; decide) (by rw [h_1]; try rfl) (by decide) ?_
        exact law_blank C hj hcs hl h hS hnext
      by_cases h_2 : w9 = 2
      · refine lv_tableIn (pc := 32) (off := 140) (tgt := 172) hx hb dL_law_32 (by rw [h_2]; decide) (by rw [h_2]; decide) (by rw [h_2]; try rfl) (by decide) ?_
        exact law_fault C hj hcs hl h hS hnext
      by_cases h_3 : w9 = 3
      · refine lv_tableIn (pc := 32) (off := 153) (tgt := 185) hx hb dL_law_32 (by rw [h_3]; decide) (by rw [h_3]; decide) (by rw [h_3]; try rfl) (by decide) ?_
        exact law_house C hj hcs hl h hS hnext
      by_cases h_4 : w9 = 4
      · refine lv_tableIn (pc := 32) (off := 166) (tgt := 198) hx hb dL_law_32 (by rw [h_4]; decide) (by rw [h_4]; decide) (by rw [h_4]; try rfl) (by decide) ?_
        exact law_plan C hj hcs hl h hS hnext
      by_cases h_5 : w9 = 5
      · refine lv_tableIn (pc := 32) (off := 179) (tgt := 211) hx hb dL_law_32 (by rw [h_5]; decide) (by rw [h_5]; decide) (by rw [h_5]; try rfl) (by decide) ?_
        exact law_title C hj hcs hl h hS hnext
      by_cases h_6 : w9 = 6
      · refine lv_tableIn (pc := 32) (off := 212) (tgt := 244) hx hb dL_law_32 (by rw [h_6]; decide) (by rw [h_6]; decide) (by rw [h_6]; try rfl) (by decide) ?_
        exact law_as C hj hcs hl h hS hnext
      by_cases h_7 : w9 = 7
      · refine lv_tableIn (pc := 32) (off := 245) (tgt := 277) hx hb dL_law_32 (by rw [h_7]; decide) (by rw [h_7]; decide) (by rw [h_7]; try rfl) (by decide) ?_
        exact law_night C hj hcs hl h hS hnext
      by_cases h_8 : w9 = 8
      · refine lv_tableIn (pc := 32) (off := 278) (tgt := 310) hx hb dL_law_32 (by rw [h_8]; decide) (by rw [h_8]; decide) (by rw [h_8]; try rfl) (by decide) ?_
        exact law_play C hj hcs hl h hS hnext
      by_cases h_9 : w9 = 9
      · refine lv_tableIn (pc := 32) (off := 311) (tgt := 343) hx hb dL_law_32 (by rw [h_9]; decide) (by rw [h_9]; decide) (by rw [h_9]; try rfl) (by decide) ?_
        exact law_delay C hj hcs hl h hS hnext
      by_cases h_10 : w9 = 10
      · refine lv_tableIn (pc := 32) (off := 334) (tgt := 366) hx hb dL_law_32 (by rw [h_10]; decide) (by rw [h_10]; decide) (by rw [h_10]; try rfl) (by decide) ?_
        exact law_add C hj hcs hl h hS hnext
      by_cases h_11 : w9 = 11
      · refine lv_tableIn (pc := 32) (off := 377) (tgt := 409) hx hb dL_law_32 (by rw [h_11]; decide) (by rw [h_11]; decide) (by rw [h_11]; try rfl) (by decide) ?_
        exact law_rights C hj hcs hl h hS hnext
      by_cases h_12 : w9 = 12
      · refine lv_tableIn (pc := 32) (off := 420) (tgt := 452) hx hb dL_law_32 (by rw [h_12]; decide) (by rw [h_12]; decide) (by rw [h_12]; try rfl) (by decide) ?_
        exact law_be C hj hcs hl h hS hnext
      by_cases h_13 : w9 = 13
      · refine lv_tableIn (pc := 32) (off := 453) (tgt := 485) hx hb dL_law_32 (by rw [h_13]; decide) (by rw [h_13]; decide) (by rw [h_13]; try rfl) (by decide) ?_
        exact law_best C hj hcs hl h hS hnext
      by_cases h_14 : w9 = 14
      · refine lv_tableIn (pc := 32) (off := 496) (tgt := 528) hx hb dL_law_32 (by rw [h_14]; decide) (by rw [h_14]; decide) (by rw [h_14]; try rfl) (by decide) ?_
        exact law_rank C hj hcs hl h hS hnext
      by_cases h_15 : w9 = 15
      · refine lv_tableIn (pc := 32) (off := 519) (tgt := 551) hx hb dL_law_32 (by rw [h_15]; decide) (by rw [h_15]; decide) (by rw [h_15]; try rfl) (by decide) ?_
        exact law_see C hj hcs hl h hS hnext
      by_cases h_16 : w9 = 16
      · refine lv_tableIn (pc := 32) (off := 578) (tgt := 610) hx hb dL_law_32 (by rw [h_16]; decide) (by rw [h_16]; decide) (by rw [h_16]; try rfl) (by decide) ?_
        exact law_forget C hj hcs hl h hS hnext
      by_cases h_17 : w9 = 17
      · refine lv_tableIn (pc := 32) (off := 591) (tgt := 623) hx hb dL_law_32 (by rw [h_17]; decide) (by rw [h_17]; decide) (by rw [h_17]; try rfl) (by decide) ?_
        exact law_drawn C hj hcs hl h hS hnext
      by_cases h_18 : w9 = 18
      · refine lv_tableIn (pc := 32) (off := 634) (tgt := 666) hx hb dL_law_32 (by rw [h_18]; decide) (by rw [h_18]; decide) (by rw [h_18]; try rfl) (by decide) ?_
        exact law_image C hj hcs hl h hS hnext
      by_cases h_19 : w9 = 19
      · refine lv_tableIn (pc := 32) (off := 647) (tgt := 679) hx hb dL_law_32 (by rw [h_19]; decide) (by rw [h_19]; decide) (by rw [h_19]; try rfl) (by decide) ?_
        exact law_restore C hj hcs hl h hS hnext
      by_cases h_20 : w9 = 20
      · refine lv_tableIn (pc := 32) (off := 660) (tgt := 692) hx hb dL_law_32 (by rw [h_20]; decide) (by rw [h_20]; decide) (by rw [h_20]; try rfl) (by decide) ?_
        exact law_count C hj hcs hl h hS hnext
      by_cases h_21 : w9 = 21
      · refine lv_tableIn (pc := 32) (off := 683) (tgt := 715) hx hb dL_law_32 (by rw [h_21]; decide) (by rw [h_21]; decide) (by rw [h_21]; try rfl) (by decide) ?_
        exact law_digest C hj hcs hl h hS hnext
      refine lv_tableOut (pc := 32) (tgt := 729) hx hb dL_law_32 (by (have q0 : ¬ w9.toInt = 0 := fun q => h_0 (Int32.toInt_inj.mp (q.trans rfl)); have q1 : ¬ w9.toInt = 1 := fun q => h_1 (Int32.toInt_inj.mp (q.trans rfl)); have q2 : ¬ w9.toInt = 2 := fun q => h_2 (Int32.toInt_inj.mp (q.trans rfl)); have q3 : ¬ w9.toInt = 3 := fun q => h_3 (Int32.toInt_inj.mp (q.trans rfl)); have q4 : ¬ w9.toInt = 4 := fun q => h_4 (Int32.toInt_inj.mp (q.trans rfl)); have q5 : ¬ w9.toInt = 5 := fun q => h_5 (Int32.toInt_inj.mp (q.trans rfl)); have q6 : ¬ w9.toInt = 6 := fun q => h_6 (Int32.toInt_inj.mp (q.trans rfl)); have q7 : ¬ w9.toInt = 7 := fun q => h_7 (Int32.toInt_inj.mp (q.trans rfl)); have q8 : ¬ w9.toInt = 8 := fun q => h_8 (Int32.toInt_inj.mp (q.trans rfl)); have q9 : ¬ w9.toInt = 9 := fun q => h_9 (Int32.toInt_inj.mp (q.trans rfl)); have q10 : ¬ w9.toInt = 10 := fun q => h_10 (Int32.toInt_inj.mp (q.trans rfl)); have q11 : ¬ w9.toInt = 11 := fun q => h_11 (Int32.toInt_inj.mp (q.trans rfl)); have q12 : ¬ w9.toInt = 12 := fun q => h_12 (Int32.toInt_inj.mp (q.trans rfl)); have q13 : ¬ w9.toInt = 13 := fun q => h_13 (Int32.toInt_inj.mp (q.trans rfl)); have q14 : ¬ w9.toInt = 14 := fun q => h_14 (Int32.toInt_inj.mp (q.trans rfl)); have q15 : ¬ w9.toInt = 15 := fun q => h_15 (Int32.toInt_inj.mp (q.trans rfl)); have q16 : ¬ w9.toInt = 16 := fun q => h_16 (Int32.toInt_inj.mp (q.trans rfl)); have q17 : ¬ w9.toInt = 17 := fun q => h_17 (Int32.toInt_inj.mp (q.trans rfl)); have q18 : ¬ w9.toInt = 18 := fun q => h_18 (Int32.toInt_inj.mp (q.trans rfl)); have q19 : ¬ w9.toInt = 19 := fun q => h_19 (Int32.toInt_inj.mp (q.trans rfl)); have q20 : ¬ w9.toInt = 20 := fun q => h_20 (Int32.toInt_inj.mp (q.trans rfl)); have q21 : ¬ w9.toInt = 21 := fun q => h_21 (Int32.toInt_inj.mp (q.trans rfl)); omega)) (by decide) ?_
      exact hnext H locs (LI_w h (by omega)) hS
