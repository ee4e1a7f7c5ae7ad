section
variable {l : Launch} {p : Program} {e : Env} {R : Room} {s : State} {m : MethodId} {args : Array Value} {below : List Frame} {meth : Method} {c : Code} {H : Heap} {locs : List Loc} {cells slots : Nat} {Q : State → Prop} {rest : List Value} {pc : Nat} {ls : Array Slot}
theorem vEqL {x v : Int64} (h : x = v) (k : W p l e R s m args below meth c H locs cells slots Q (F0 m pc ls (.long v :: rest))) : W p l e R s m args below meth c H locs cells slots Q (F0 m pc ls (.long x :: rest)) := by
  subst h; exact k
end
theorem va_D_addr {A : Nat → Prop} {ws w1 : va_W} (hD : va_D A ws) (ha : w1.map (fun q => q.1) = ws.map (fun q => q.1)) : va_D A w1 := by
  have key : ∀ (k : Nat) (q : Nat × va_E), w1[k]? = some q → ∃ q0 : Nat × va_E, ws[k]? = some q0 ∧ q0.1 = q.1 := by
    intro k q h
    have h4 : (w1.map (fun q => q.1))[k]? = some q.1 := by rw [List.getElem?_map, h]; rfl
    rw [ha, List.getElem?_map] at h4
    cases hw : ws[k]? with
    | none => rw [hw] at h4; cases h4
    | some x => rw [hw] at h4; exact ⟨x, rfl, Option.some.inj h4⟩
  refine ⟨fun i j x y hx hy hxy => ?_, fun k q h => ?_⟩
  · obtain ⟨x0, hx0, hx1⟩ := key i x hx
    obtain ⟨y0, hy0, hy1⟩ := key j y hy
    exact hD.1 i j x0 y0 hx0 hy0 (by rw [hx1, hy1, hxy])
  · obtain ⟨q0, h0, h1⟩ := key k q h
    rw [← h1]
    exact hD.2 k q0 h0
section
variable {l : Launch} {D : va_G} {kB kI kT : ClassId} {ks sk sv : Nat}
variable {p : Program} {e : Env} {R : Room} {s : State} {m : MethodId} {args : Array Value} {below : List Frame} {meth : Method} {c : Code} {H : Heap} {locs : List Loc} {cells slots : Nat} {Q : State → Prop}
variable {own : String} {index : Nat} {y : MethodName} {bytes cc : ByteArray} {maxL nL n : Nat} {ret : Option FieldType} {fr lo : Nat} {As rest st0 : List Value} {b pc : Nat} {ls : Array Slot} {ws w1 : va_W} {A : Nat → Prop} {w : Option Value}
theorem wVa (S : CallFix p m c cc nL s args GG own) (hM : MW l y bytes maxL ret fr lo D kB kI kT ks sk sv (.ref b :: As) ws w w1) (cw : CWV own index y bytes maxL ret n) (hR : fr + 1 ≤ R.frames ∧ 8 + (maxL + 11) + lo ≤ R.locals) (hE : EN D kB kI kT ks sk sv A s) (hP : va_P D vwCl ws H) (hD : va_D A ws) (hS : va_S A s.heap H locs) (ha : w1.map (fun q => q.1) = ws.map (fun q => q.1))
    {ci : Nat} {fs : List Value} {q : vw_C} (hrc : ws[0]? = some (b, .inr (ci, fs))) (hcl : vwCl[ci]? = some q) (hq : q.1 = y.cls) (hn : As.length = n) (hsize : ls.size = nL) (hst : st0 = As.reverse ++ .ref b :: rest) (hcat : (rest.map fun v => v.category).sum ≤ 8) (hdg : decode cc pc = .ok (.invokevirtual index, 3)) (hf : cells + 0 ≤ R.cells ∧ slots + 0 ≤ R.slots)
    (kk : ∀ (H1 : Heap) (locs1 : List Loc), va_P D vwCl w1 H1 → va_D A w1 → va_S A s.heap H1 locs1 → W p l e R s m args below meth c H1 locs1 cells slots Q (F0 m (pc + 3) ls (w.toList ++ rest))) : W p l e R s m args below meth c H locs cells slots Q (F0 m pc ls st0) := by
  have hsub : ∀ q, AA ws q → A q := fun q ⟨k, e, hk⟩ => hD.2 k _ hk
  have hr := W.runV (C := y.cls) (n := n) (rest := rest) (H := H) (locs := locs) (cells := cells) (slots := slots) (meth := meth) (below := below) (e := e) S hM (cw.cw S.2.2.2.2 rfl rfl hR) ⟨PW_blind, by rw [← hq]; exact va_recv hE.1 hP hcl hrc, fun U hU hW => ⟨rfl, hE.go hS hU hW hsub, by rw [hU]; exact hP, hD.weaken (fun _ _ _ _ => trivial)⟩⟩ (g := F0 m pc ls st0) rfl hn hsize hst (lv_room hcat) hdg hf
  intro T hT X
  obtain ⟨v, st₀, t, T', L, h0, X', hL, e1, ⟨⟨hv, hp1⟩, hz, hk⟩, st⟩ := hr T hT X
  cases hv
  rw [h0] at hz hk
  rw [← e1] at hp1 hz hk
  obtain ⟨t2, a1, b1⟩ := kk T'.heap (locs ++ L) hp1 (va_D_addr hD ha)
    ⟨Nat.le_trans hS.1 hz, fun q h1 h2 => by rw [hk q (Nat.lt_of_lt_of_le h1 hS.1) (fun z => h2 (hsub q z))]; exact hS.2.1 q h1 h2, fun q hq => by
      rcases List.mem_append.mp hq with h | h
      · exact hS.2.2 q h
      · exact hsub _ (hL q h)⟩ T' rfl X'
  exact ⟨t2, st t2 a1, b1⟩
end
def rdV (e : Nat) (c : Int32) : Int32 := if e = 3 ∨ e = 4 then c - 97 else c - 48
def rdS (pg : Nat → Int32) (pn k nt : Nat) (told : Nat → Int32) : Nat → (Nat → Int32)
  | 0 => upd told (6 * nt) (kindBy (atP pg pn k))
  | u + 1 => upd (rdS pg pn k nt told u) (6 * nt + (u + 1)) (rdV (u + 1) (atP pg pn (k + (u + 1))))
abbrev rdOk (pg : Nat → Int32) (pn k nt : Nat) (told : Nat → Int32) (u : Nat) : Prop := inR (atP pg pn (k + (u + 1))) (leastP (rdS pg pn k nt told u) nt (nI (u + 1))) (mostP (nI (u + 1)))
def rdR (pg : Nat → Int32) (pn k nt : Nat) (told : Nat → Int32) : Nat → Nat × Bool × (Nat → Int32)
  | 0 => (k + 6, false, rdS pg pn k nt told 5)
  | j + 1 => if rdOk pg pn k nt told (5 - (j + 1)) then rdR pg pn k nt told j else (k + ((5 - (j + 1)) + 1), true, rdS pg pn k nt told (5 - (j + 1)))
def rdT (pg : Nat → Int32) (pn k nt : Nat) (told : Nat → Int32) : Nat × Bool × (Nat → Int32) := if kindBy (atP pg pn k) = -1 then (k, true, rdS pg pn k nt told 0) else rdR pg pn k nt told 5
theorem rdR_le (pg : Nat → Int32) (pn k nt : Nat) (told : Nat → Int32) : ∀ j, j ≤ 5 → (rdR pg pn k nt told j).1 ≤ k + 6
  | 0, _ => Nat.le_refl _
  | j + 1, h => by
    unfold rdR
    split
    · exact rdR_le pg pn k nt told j (by omega)
    · show k + ((5 - (j + 1)) + 1) ≤ k + 6
      omega
theorem rdT_le (pg : Nat → Int32) (pn k nt : Nat) (told : Nat → Int32) : (rdT pg pn k nt told).1 ≤ k + 6 := by
  unfold rdT
  split
  · exact Nat.le_add_right k 6
  · exact rdR_le pg pn k nt told 5 (by omega)
def R_readTitle (z : Nat → Int32) (g : Nat → Int64) (r : Nat → Nat → Int32) (pn nt k : Nat) : Int32 × RS :=
  (nI (rdT (r 15) pn k nt (r 19)).1, (if (rdT (r 15) pn k nt (r 19)).2.1 = true then va_up z 17 1 else va_up z 18 (nI (nt + 1))), g, va_up r 19 (rdT (r 15) pn k nt (r 19)).2.2)
def rdL (pg : Nat → Int32) (pn : Nat) : Nat → Nat → Nat → Bool → (Nat → Int32) → Nat × Nat × Bool × (Nat → Int32)
  | 0, k, nt, br, td => (k, nt, br, td)
  | f + 1, k, nt, br, td => if br = false ∧ nt < 5 ∧ atP pg pn k = 44 then
      rdL pg pn f (rdT pg pn (k + 1) nt td).1 (if (rdT pg pn (k + 1) nt td).2.1 = true then nt else nt + 1) (rdT pg pn (k + 1) nt td).2.1 (rdT pg pn (k + 1) nt td).2.2
    else (k, nt, br, td)
theorem rdL_nt (pg : Nat → Int32) (pn : Nat) : ∀ (f k nt : Nat) (br : Bool) (td : Nat → Int32), nt ≤ 5 → (rdL pg pn f k nt br td).2.1 ≤ 5
  | 0, k, nt, br, td, h => h
  | f + 1, k, nt, br, td, h => by
    unfold rdL
    split
    · rename_i q
      refine rdL_nt pg pn f _ _ _ _ ?_
      split <;> omega
    · exact h
theorem rdL_out (pg : Nat → Int32) (pn : Nat) {f k nt : Nat} {br : Bool} {td : Nat → Int32} (h : ¬ (br = false ∧ nt < 5 ∧ atP pg pn k = 44)) : rdL pg pn f k nt br td = (k, nt, br, td) := by
  cases f with
  | zero => rfl
  | succ f => rw [rdL, if_neg h]
def rdA (pg : Nat → Int32) (pn : Nat) (told : Nat → Int32) : Nat × Nat × Bool × (Nat → Int32) :=
  rdL pg pn 6 (rdT pg pn 0 0 told).1 (if (rdT pg pn 0 0 told).2.1 = true then 0 else 1) (rdT pg pn 0 0 told).2.1 (rdT pg pn 0 0 told).2.2
def R_read (z : Nat → Int32) (g : Nat → Int64) (r : Nat → Nat → Int32) (pn : Nat) : Int32 × RS :=
  (nI (rdA (r 15) pn (r 19)).1, va_up (va_up (va_up z 16 (bi ((rdA (r 15) pn (r 19)).2.2.1 = false ∧ (rdA (r 15) pn (r 19)).1 = pn))) 17 (bi ((rdA (r 15) pn (r 19)).2.2.1 = true))) 18 (nI (rdA (r 15) pn (r 19)).2.1), g, va_up r 19 (rdA (r 15) pn (r 19)).2.2.2)
def R_house (z : Nat → Int32) (g : Nat → Int64) (r : Nat → Nat → Int32) (pn : Nat) : Int32 × RS :=
  if (rdA (r 15) pn (r 19)).2.2.1 = false ∧ (rdA (r 15) pn (r 19)).1 = pn then
    (nI (rdA (r 15) pn (r 19)).2.1, va_up (va_up (va_up (va_up (va_up (va_up (va_up z 0 (z 0 + 1)) 1 (nI (rdA (r 15) pn (r 19)).2.1)) 10 0) 14 0) 16 1) 17 0) 18 (nI (rdA (r 15) pn (r 19)).2.1), g,
      va_up (va_up (va_up (va_up (va_up (va_up (va_up (va_up r 2 (ovN (r 2) (fun q => (rdA (r 15) pn (r 19)).2.2.2 (6 * q)) (rdA (r 15) pn (r 19)).2.1)) 3 (ovN (r 3) (fun q => (rdA (r 15) pn (r 19)).2.2.2 (6 * q + 1)) (rdA (r 15) pn (r 19)).2.1)) 4 (ovN (r 4) (fun q => (rdA (r 15) pn (r 19)).2.2.2 (6 * q + 2)) (rdA (r 15) pn (r 19)).2.1)) 5 (ovN (r 5) (fun q => (rdA (r 15) pn (r 19)).2.2.2 (6 * q + 3)) (rdA (r 15) pn (r 19)).2.1)) 6 (ovN (r 6) (fun q => (rdA (r 15) pn (r 19)).2.2.2 (6 * q + 4)) (rdA (r 15) pn (r 19)).2.1)) 7 (ovN (r 7) (fun q => (rdA (r 15) pn (r 19)).2.2.2 (6 * q + 5)) (rdA (r 15) pn (r 19)).2.1)) 8 (darkF (r 8) 12)) 19 (rdA (r 15) pn (r 19)).2.2.2)
  else (-103, (R_read z g r pn).2)
def dkA (pl : Nat → Int32) (f : Nat) (d : Nat → Int32) : Nat → (Nat → Int32)
  | 0 => d
  | j + 1 => if pl (f + j) = -1 then upd (dkA pl f d j) (dkN pl f j) (nI (f + j)) else dkA pl f d j
theorem cntP_mono {p : Nat → Prop} [DecidablePred p] : ∀ {i k : Nat}, i ≤ k → cntP p i ≤ cntP p k
  | i, 0, h => by rw [show i = 0 by omega]; exact Nat.le_refl _
  | i, k + 1, h => by
    rcases Nat.eq_or_lt_of_le h with q | q
    · rw [q]; exact Nat.le_refl _
    · have h1 : cntP p i ≤ cntP p k := cntP_mono (by omega)
      show cntP p i ≤ cntP p k + (if p k then 1 else 0)
      omega
def fbR (dark : Nat → Int32) (n : Nat) : Nat → (Nat → Int32) → Nat → (Nat → Int32)
  | 0, pl, _ => pl
  | u + 1, pl, left => fbR dark n u (upd pl (ix (dark u)) (nI (left % (n + 1)) - 1)) (left / (n + 1))
def okD (dk : Nat) (dark : Nat → Int32) : Prop := ∀ k, k < dk → ∃ i, i < 12 ∧ dark k = nI i
theorem val_ok {n left : Nat} : nI (left % (n + 1)) - 1 = -1 ∨ ∃ t, t < n ∧ (nI (left % (n + 1)) - 1 : Int32) = nI t := by
  have h := Nat.mod_lt left (show 0 < n + 1 by omega)
  by_cases q : left % (n + 1) = 0
  · left; rw [q]; decide
  · right; exact ⟨left % (n + 1) - 1, by omega, pm_eq (by omega)⟩
theorem okP_fbR {n : Nat} {dark : Nat → Int32} : ∀ (u : Nat) {pl : Nat → Int32} (left : Nat), okP n pl → okP n (fbR dark n u pl left)
  | 0, _, _, h => h
  | u + 1, _, left, h => okP_fbR u _ (okP_upd h val_ok)
theorem fbR_agree {n : Nat} {dark : Nat → Int32} : ∀ (u : Nat) {p1 p2 : Nat → Int32} (left : Nat), (∀ j, (∀ k, k < u → j ≠ ix (dark k)) → p1 j = p2 j) → fbR dark n u p1 left = fbR dark n u p2 left
  | 0, p1, p2, left, h => funext fun j => h j (fun k hk => absurd hk (Nat.not_lt_zero k))
  | u + 1, p1, p2, left, h => by
    refine fbR_agree u (left / (n + 1)) (fun j hj => ?_)
    by_cases q : j = ix (dark u)
    · rw [q]; simp [upd]
    · rw [pk_un q, pk_un q]
      exact h j (fun k hk => by
        rcases Nat.eq_or_lt_of_le (Nat.lt_succ_iff.mp hk) with e | e
        · rw [e]; exact q
        · exact hj k e)
theorem fbR_out {n : Nat} {dark : Nat → Int32} : ∀ (u : Nat) {pl : Nat → Int32} (left : Nat) {j : Nat}, (∀ k, k < u → j ≠ ix (dark k)) → fbR dark n u pl left j = pl j
  | 0, _, _, _, _ => rfl
  | u + 1, pl, left, j, h => by
    show fbR dark n u _ _ j = pl j
    rw [fbR_out u (left / (n + 1)) (fun k hk => h k (by omega)), pk_un (h u (by omega))]
theorem fbR_idem {n u : Nat} {dark pl : Nat → Int32} (w w2 : Nat) : fbR dark n u (fbR dark n u pl w) w2 = fbR dark n u pl w2 :=
  fbR_agree u w2 (fun _ hj => fbR_out u w hj)
def plw (dark : Nat → Int32) (n dk : Nat) (pl : Nat → Int32) : Nat → (Nat → Int32)
  | 0 => pl
  | w + 1 => fbR dark n dk pl w
theorem fbR_plw {dark : Nat → Int32} {n dk : Nat} {pl : Nat → Int32} (w v : Nat) : fbR dark n dk (plw dark n dk pl w) v = fbR dark n dk pl v := by
  cases w with
  | zero => rfl
  | succ w => exact fbR_idem w v
theorem okP_plw {dark : Nat → Int32} {n dk : Nat} {pl : Nat → Int32} (h : okP n pl) : ∀ w, okP n (plw dark n dk pl w)
  | 0 => h
  | w + 1 => okP_fbR dk w h
def bstR (lost earn : Nat → Int32) (b0 : Int32 × Int32 × Int32) : Nat → Int32 × Int32 × Int32
  | 0 => b0
  | w + 1 => if lost w < (bstR lost earn b0 w).2.1 ∨ (lost w = (bstR lost earn b0 w).2.1 ∧ (bstR lost earn b0 w).2.2 < earn w) then (nI w, lost w, earn w) else bstR lost earn b0 w
abbrev wayR (r : Nat → Nat → Int32) (n dk w : Nat) : Nat → Nat → Int32 := va_up r 8 (fbR (r 21) n dk (r 8) w)
def wLost (r : Nat → Nat → Int32) (n dk w : Nat) : Int32 := lostS (wayR r n dk w)
def wErn (r : Nat → Nat → Int32) (n dk w : Nat) : Int32 := ernS (wayR r n dk w)
def bstS (z : Nat → Int32) (r : Nat → Nat → Int32) (n dk w : Nat) : Int32 × Int32 × Int32 := bstR (wLost r n dk) (wErn r n dk) (z 22, 268435456, z 24) w
