theorem code8_n : ∀ n, n < 127 → (nI n).toInt8.toInt32 = nI n := by decide +kernel
theorem code8 {x : Int32} (h : inR x 32 126) : x.toInt8.toInt32 = x := by
  obtain ⟨n, hn, rfl⟩ := inR_pg h
  exact code8_n n hn
theorem pg_put {cd r15 : Nat → Int32} {pn : Nat} {code : Int32} (h : ∀ k, k < pn → cd k = r15 k ∧ inR (cd k) 32 126) (hc : inR code 32 126) : ∀ k, k < pn + 1 → upd cd pn code k = upd r15 pn code.toInt8.toInt32 k ∧ inR (upd cd pn code k) 32 126 := by
  intro k hk
  by_cases q : k = pn
  · rw [q, pk_us, pk_us, code8 hc]; exact ⟨rfl, hc⟩
  · rw [pk_un q, pk_un q]; exact h k (by omega)
theorem okP_mono {n m : Nat} {pl : Nat → Int32} (h : okP n pl) (hm : n ≤ m) : okP m pl := fun i hi => (h i hi).imp id (fun ⟨t, ht, e⟩ => ⟨t, by omega, e⟩)
theorem okP_cg {n : Nat} {p1 p2 : Nat → Int32} (h : okP n p1) (e : ∀ j, j < 12 → p2 j = p1 j) : okP n p2 := fun i hi => by rw [e i hi]; exact h i hi
theorem okP_sh {n : Nat} {pl : Nat → Int32} {b : Int32} (h : okP n pl) : okP n (shN pl b 0) := by
  intro i hi
  unfold shN
  rw [if_pos ⟨Nat.zero_le i, hi⟩]
  unfold rOn
  by_cases q : inR (nI i - b) 0 11
  · rw [if_pos q]
    obtain ⟨j, hj, e⟩ := inR_nat q
    rw [e, ix_nI (by omega)]
    exact h j hj
  · rw [if_neg q]; exact Or.inl rfl
theorem wg_new {c2 c3 c4 c5 c6 c7 c8 b50 b51 b52 b53 : Nat → Int32} : Wg c2 c3 c4 c5 c6 c7 c8 (ovN b50 (brk c2 c3 c4 c5 c6 c8) 12) (ovN b51 (sts c2 c7 c8) 12) (ovN b52 (fun t => nI (nOf c8 (nI t) 12)) 5)
    (ovN b53 (fun t => sumI (fun j => if c8 j = nI t ∧ brk c2 c3 c4 c5 c6 c8 j = 0 then sts c2 c7 c8 j else 0) 12) 5) (nI (cntP (fun j => 0 < brk c2 c3 c4 c5 c6 c8 j) 12)) (nI (cntP (fun j => c8 j = -1 ∨ 0 < brk c2 c3 c4 c5 c6 c8 j) 12)) (sumI (fun j => if brk c2 c3 c4 c5 c6 c8 j = 0 then sts c2 c7 c8 j else 0) 12) :=
  ⟨fun _ hi => ovN_in hi, fun _ hi => ovN_in hi, fun _ ht => ovN_in ht, fun _ ht => ovN_in ht, rfl, rfl, rfl⟩
theorem ct_w {h bt N : Nat} {g0 z0 g9 z9 : Int32} (q : Ct h bt N g0 z0 g9 z9) (hN : N + 1 < 100000) : Ct h bt (N + 1) g0 z0 g9 z9 := ⟨q.1, q.2.1, Nat.le_succ_of_le q.2.2.1, hN, q.2.2.2.2⟩
theorem plan_at : ∀ a, a < 127 → ∀ n, n < 6 → decide (inR (nI a) 48 (48 + nI n - 1)) = decide (inR (nI a - 48) 0 (nI n - 1)) := by decide +kernel
theorem allB_cg {p q : Nat → Bool} : ∀ {k : Nat}, (∀ j, j < k → p j = q j) → allB p k = allB q k
  | 0, _ => rfl
  | k + 1, h => by
    show (allB p k && p k) = (allB q k && q k)
    rw [allB_cg (fun j hj => h j (by omega)), h k (by omega)]
theorem plan_iff {cd pg : Nat → Int32} {n : Nat} (hn : n ≤ 5) (h : ∀ k, k < 12 → cd k = pg k ∧ inR (cd k) 32 126) : allB (fun i => decide (cd i = 46 ∨ inR (cd i) 48 (48 + nI n - 1))) 12 = allB (planOk pg (nI n)) 12 := allB_cg (fun j hj => by
  obtain ⟨h1, h2⟩ := h j hj
  obtain ⟨a, ha, e⟩ := inR_pg h2
  have z := plan_at a ha n (by omega)
  unfold planOk
  rw [← h1, e]
  rw [decide_eq_decide] at z ⊢
  rw [z])
theorem planF_cg {cd pg f : Nat → Int32} (h : ∀ k, k < 12 → cd k = pg k) : ovN f (planF cd) 12 = ovN f (planF pg) 12 := ovN_congr (fun j hj => by unfold planF; rw [h j hj])
/-! plans that agree on the nights -/
section
variable {kd se ca fi la fl p1 p2 : Nat → Int32}
theorem rOn_cg (h : ∀ j, j < 12 → p1 j = p2 j) {x : Int32} : rOn p1 x = rOn p2 x := rOn_congr (fun q => by
  obtain ⟨j, hj, e⟩ := inR_nat q
  rw [e, ix_nI (by omega)]
  exact h j hj)
theorem nOf_cg (h : ∀ j, j < 12 → p1 j = p2 j) {t : Int32} {k : Nat} (hk : k ≤ 12) : nOf p1 t k = nOf p2 t k := cntP_cg (fun j hj => by rw [h j (by omega)])
theorem nOn_cg (h : ∀ j, j < 12 → p1 j = p2 j) : nOn p1 12 = nOn p2 12 := cntP_cg (fun j hj => by rw [h j hj])
theorem cBeh_cg (h : ∀ j, j < 12 → p1 j = p2 j) {i k : Nat} {cast : Int32} : cBeh ca p1 i cast k = cBeh ca p2 i cast k := by
  unfold cBeh
  have e : (fun j => decide (hasC ca p1 (nI (i + 1 + j)) cast)) = (fun j => decide (hasC ca p2 (nI (i + 1 + j)) cast)) := by
    funext j
    unfold hasC
    rw [rOn_cg h]
  rw [e]
theorem brk_cg (h : ∀ j, j < 12 → p1 j = p2 j) {i : Nat} (hi : i < 12) : brk kd se ca fi la p1 i = brk kd se ca fi la p2 i := by
  unfold brk hasC
  rw [h i hi, rOn_cg h, rOn_cg h, rOn_cg h, nOf_cg h (by omega), cBeh_cg h]
theorem sts_cg (h : ∀ j, j < 12 → p1 j = p2 j) {i : Nat} (hi : i < 12) : sts kd fl p1 i = sts kd fl p2 i := by
  unfold sts draws
  rw [h i hi, rOn_cg h, rOn_cg h, nOf_cg h (by omega)]
end
theorem brkN_cg {r1 r2 : Nat → Nat → Int32} (h2 : r1 2 = r2 2) (h3 : r1 3 = r2 3) (h4 : r1 4 = r2 4) (h5 : r1 5 = r2 5) (h6 : r1 6 = r2 6) (h8 : ∀ j, j < 12 → r1 8 j = r2 8 j) : brkN r1 = brkN r2 := cntP_cg (fun j hj => by
  unfold rBk
  rw [h2, h3, h4, h5, h6, brk_cg h8 hj])
theorem lostS_cg {r1 r2 : Nat → Nat → Int32} (h2 : r1 2 = r2 2) (h3 : r1 3 = r2 3) (h4 : r1 4 = r2 4) (h5 : r1 5 = r2 5) (h6 : r1 6 = r2 6) (h8 : ∀ j, j < 12 → r1 8 j = r2 8 j) : lostS r1 = lostS r2 := by
  unfold lostS
  rw [brkN_cg h2 h3 h4 h5 h6 h8, nOn_cg h8]
theorem ernS_cg {r1 r2 : Nat → Nat → Int32} (h2 : r1 2 = r2 2) (h3 : r1 3 = r2 3) (h4 : r1 4 = r2 4) (h5 : r1 5 = r2 5) (h6 : r1 6 = r2 6) (h7 : r1 7 = r2 7) (h8 : ∀ j, j < 12 → r1 8 j = r2 8 j) : ernS r1 = ernS r2 := sumI_cg (fun j hj => by
  unfold rBk rSt
  rw [h2, h3, h4, h5, h6, h7, brk_cg h8 hj, sts_cg h8 hj])
/-! the best plan's search -/
theorem dkA_cg {pl : Nat → Int32} {f : Nat} {d1 d2 : Nat → Int32} : ∀ {j k : Nat}, k < dkN pl f j → dkA pl f d1 j k = dkA pl f d2 j k
  | 0, k, h => absurd h (Nat.not_lt_zero k)
  | j + 1, k, h => by
    by_cases q : pl (f + j) = -1
    · have e : dkN pl f (j + 1) = dkN pl f j + 1 := cntP_t q
      rw [dkA, dkA, if_pos q, if_pos q]
      by_cases z : k = dkN pl f j
      · rw [z, pk_us, pk_us]
      · rw [pk_un z, pk_un z]; exact dkA_cg (by omega)
    · have e : dkN pl f (j + 1) = dkN pl f j := cntP_f q
      rw [dkA, dkA, if_neg q, if_neg q]; exact dkA_cg (by omega)
theorem dkA_dark {pl : Nat → Int32} {f : Nat} {d : Nat → Int32} : ∀ {j k : Nat}, f + j ≤ 12 → k < dkN pl f j → pl (ix (dkA pl f d j k)) = -1
  | 0, k, _, h => absurd h (Nat.not_lt_zero k)
  | j + 1, k, hj, h => by
    by_cases q : pl (f + j) = -1
    · have e : dkN pl f (j + 1) = dkN pl f j + 1 := cntP_t q
      rw [dkA, if_pos q]
      by_cases z : k = dkN pl f j
      · rw [z, pk_us, ix_nI (by omega)]; exact q
      · rw [pk_un z]; exact dkA_dark (by omega) (by omega)
    · have e : dkN pl f (j + 1) = dkN pl f j := cntP_f q
      rw [dkA, if_neg q]; exact dkA_dark (by omega) (by omega)
theorem fbR_cg {n : Nat} {s1 s2 : Nat → Int32} : ∀ {u : Nat} {p1 p2 : Nat → Int32} {w : Nat}, (∀ k, k < u → s1 k = s2 k) → (∀ j, j < 12 → p1 j = p2 j) → ∀ j, j < 12 → fbR s1 n u p1 w j = fbR s2 n u p2 w j
  | 0, _, _, _, _, h, j, hj => h j hj
  | u + 1, p1, p2, w, hs, h, j, hj => by
    show fbR s1 n u (upd p1 (ix (s1 u)) _) _ j = fbR s2 n u (upd p2 (ix (s2 u)) _) _ j
    rw [hs u (by omega)]
    refine fbR_cg (fun k hk => hs k (by omega)) (fun i hi => ?_) j hj
    by_cases q : i = ix (s2 u)
    · rw [q, pk_us, pk_us]
    · rw [pk_un q, pk_un q]; exact h i hi
theorem fbR_0 {n : Nat} {dark : Nat → Int32} : ∀ {u : Nat} {pl : Nat → Int32}, (∀ k, k < u → pl (ix (dark k)) = -1) → fbR dark n u pl 0 = pl
  | 0, _, _ => rfl
  | u + 1, pl, h => by
    have e : upd pl (ix (dark u)) (nI (0 % (n + 1)) - 1) = pl := by
      funext j
      by_cases q : j = ix (dark u)
      · rw [q, pk_us, h u (by omega), Nat.zero_mod]; rfl
      · rw [pk_un q]
    show fbR dark n u (upd pl (ix (dark u)) (nI (0 % (n + 1)) - 1)) (0 / (n + 1)) = pl
    rw [e, Nat.zero_div]
    exact fbR_0 (fun k hk => h k (by omega))
theorem bstR_cg {l1 l2 e1 e2 : Nat → Int32} {b : Int32 × Int32 × Int32} (hl : l1 = l2) (he : e1 = e2) (w : Nat) : bstR l1 e1 b w = bstR l2 e2 b w := by rw [hl, he]
/-- the component's search and the reference's tell the same -/
theorem bst_cg {c r : Nat → Nat → Int32} {so D0 : Nat → Int32} {n f t : Nat} {z : Nat → Int32} (e2 : c 2 = r 2) (e3 : c 3 = r 3) (e4 : c 4 = r 4) (e5 : c 5 = r 5) (e6 : c 6 = r 6) (e7 : c 7 = r 7) (e8 : c 8 = r 8) (hD : ∀ j, j < 12 → D0 j = c 8 j) :
    bstS z (va_up (va_up c 8 D0) 21 (dkA (c 8) f so (t + 1 - f))) n (dkN (c 8) f (t + 1 - f)) ((n + 1) ^ dkN (c 8) f (t + 1 - f)) = bstOf z r n f t := by
  unfold bstOf bstS dkOf
  rw [e8]
  have h8 : ∀ w j, j < 12 → fbR (dkA (r 8) f so (t + 1 - f)) n (dkN (r 8) f (t + 1 - f)) D0 w j = fbR (dkA (r 8) f (r 21) (t + 1 - f)) n (dkN (r 8) f (t + 1 - f)) (r 8) w j := fun w j hj =>
    fbR_cg (fun k hk => dkA_cg hk) (fun i hi => by rw [hD i hi, e8]) j hj
  have w8 : ∀ w j, j < 12 → wayR (va_up (va_up c 8 D0) 21 (dkA (r 8) f so (t + 1 - f))) n (dkN (r 8) f (t + 1 - f)) w 8 j = wayR (layR r f t) n (dkN (r 8) f (t + 1 - f)) w 8 j := fun w j hj => by
    rw [way_at (pl := fbR (dkA (r 8) f so (t + 1 - f)) n (dkN (r 8) f (t + 1 - f)) D0 w) rfl]
    exact h8 w j hj
  refine bstR_cg (funext fun w => ?_) (funext fun w => ?_) _
  · exact lostS_cg e2 e3 e4 e5 e6 (w8 w)
  · exact ernS_cg e2 e3 e4 e5 e6 e7 (w8 w)
/-! a house read -/
section
variable {cd pg td f : Nat → Int32} {pn : Nat}
theorem hs_v (hpn : pn ≤ 40) (h : ∀ k, k < pn → cd k = pg k) (hh : ffC cd pn = pn ∧ pn % 7 = 6) (e : Nat) (he : e < 6) (F : Nat → Int32) (hF : ∀ q, q < (pn + 1) / 7 → F q = rdVal cd q e) (G : Nat → Int32) (hG : ∀ q, G q = (rdA pg pn td).2.2.2 (6 * q + e)) : ovN f F ((pn + 1) / 7) = ovN f G (rdA pg pn td).2.1 := by
  obtain ⟨h1, h2, h3, -⟩ := house_is (td := td) hpn h hh
  rw [h1]
  exact ovN_congr (fun q hq => by rw [hF q hq, hG q, h3 q hq e he])
theorem hs_n (hpn : pn ≤ 40) (h : ∀ k, k < pn → cd k = pg k) (hh : ffC cd pn = pn ∧ pn % 7 = 6) : (rdA pg pn td).2.1 = (pn + 1) / 7 := (house_is (td := td) hpn h hh).1
theorem hs_cast (hpn : pn ≤ 40) (h : ∀ k, k < pn → cd k = pg k) (hh : ffC cd pn = pn ∧ pn % 7 = 6) : ∀ k, k < (pn + 1) / 7 → ∃ k4, k4 < 5 ∧ ovN f (fun i => cd (i * 7 + 2) - 48) ((pn + 1) / 7) k = nI k4 := by
  intro k hk
  obtain ⟨-, h2, -, h4⟩ := house_is (td := cd) hpn h hh
  have q := h4 (7 * k + 2) (by omega)
  rw [fit_2 (by omega)] at q
  have q2 := of_decide_eq_true q
  rw [ovN_in hk, Nat.mul_comm k 7]
  generalize cd (7 * k + 2) = a at q2 ⊢
  obtain ⟨m, hm, rfl⟩ := nI_of2 (M := 52) (n := 52) rfl (Int32.not_lt.mpr (Int32.le_trans (by decide) q2.1)) q2.2
  have q3 := (nI_leI (a := 48) (b := m) (by omega) (by omega)).mp q2.1
  exact ⟨m - 48, by omega, pk_sub (a := m) (b := 48) q3⟩
theorem hs_fill (hpn : pn ≤ 40) (h : ∀ k, k < pn → cd k = pg k) (hh : ffC cd pn = pn ∧ pn % 7 = 6) : ∀ k, k < (pn + 1) / 7 → ∃ k4, k4 < 10 ∧ ovN f (fun i => cd (i * 7 + 5) - 48) ((pn + 1) / 7) k = nI k4 := by
  intro k hk
  obtain ⟨-, h2, -, h4⟩ := house_is (td := cd) hpn h hh
  have q := h4 (7 * k + 5) (by omega)
  rw [fit_5 (by omega)] at q
  have q2 := of_decide_eq_true q
  rw [ovN_in hk, Nat.mul_comm k 7]
  generalize cd (7 * k + 5) = a at q2 ⊢
  obtain ⟨m, hm, rfl⟩ := nI_of2 (M := 57) (n := 57) rfl (Int32.not_lt.mpr (Int32.le_trans (by decide) q2.1)) q2.2
  have q3 := (nI_leI (a := 49) (b := m) (by omega) (by omega)).mp q2.1
  exact ⟨m - 48, by omega, pk_sub (a := m) (b := 48) (by omega)⟩
end
/-! what a call leaves -/
def SimP (kI kT : ClassId) (b x y pa : Nat → Nat) (N : Nat) (RF : Int32 × RS) (w : Option Value) (w1 : va_W) : Prop :=
  ∃ (n sn pn h bt : Nat) (g : Nat → Int32) (cd so sq : Nat → Int32) (q : Nat → Int32) (c : Nat → Nat → Int32) (v : Nat → Int32) (c2 : Nat → Nat → Int32) (v2 : Nat → Int32) (d : Nat → Nat → Int32) (u : Nat → Int32),
    w = some (.int RF.1) ∧ w1 = wC kI kT b g cd so sq q x c v y c2 v2 pa d u ∧ Inv n sn pn h bt N g cd c v c2 v2 RF.2.1 RF.2.2.2
theorem kp_house {h : Nat} {g27 z27 z28 z29 z30 kv1 kv10 : Int32} {k2 k3 k4 k5 k6 k7 k8 k11 k12 s31 s32 s33 s34 s35 s36 s37 s38 s39 s40 : Nat → Int32} (q : Kp h g27 z27 z28 z29 z30 kv1 kv10 k2 k3 k4 k5 k6 k7 k8 k11 k12 s31 s32 s33 s34 s35 s36 s37 s38 s39 s40) : Kp (h + 1) 0 z27 z28 z29 z30 kv1 kv10 k2 k3 k4 k5 k6 k7 k8 k11 k12 s31 s32 s33 s34 s35 s36 s37 s38 s39 s40 := by
  rcases q with ⟨-, q | ⟨kh, q1, q2⟩⟩ | ⟨-, -, q, -⟩
  · exact Or.inl ⟨rfl, Or.inl q⟩
  · exact Or.inl ⟨rfl, Or.inr ⟨kh, by omega, q2⟩⟩
  · exact Or.inl ⟨rfl, Or.inr ⟨h, by omega, q⟩⟩
theorem upd_cast {n : Nat} {c4 : Nat → Int32} {cast : Int32} {B : Nat} (h : ∀ k, k < n → ∃ k4, k4 < B ∧ c4 k = nI k4) (hc : ∃ k4, k4 < B ∧ cast = nI k4) : ∀ k, k < n + 1 → ∃ k4, k4 < B ∧ upd c4 n cast k = nI k4 := by
  intro k hk
  by_cases q : k = n
  · rw [q, pk_us]; exact hc
  · rw [pk_un q]; exact h k (by omega)
