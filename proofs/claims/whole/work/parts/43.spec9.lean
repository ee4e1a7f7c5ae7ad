theorem has_iff {t v1 : Int32} {n : Nat} (hv : v1 = nI n) (hn : n ≤ 5) : (¬ t < 0 ∧ ¬ v1 ≤ t) ↔ inR t 0 (v1 - 1) := by
  subst hv
  constructor
  · rintro ⟨h1, h2⟩
    obtain ⟨j, hj, rfl⟩ := nI_of h1
    have h3 : j < n := by
      apply Decidable.byContradiction
      intro q
      exact h2 ((nI_leI (by omega) (by omega)).mpr (by omega))
    refine ⟨nI_pos' (by omega), ?_⟩
    rw [pm_eq (by omega)]
    exact (nI_leI (by omega) (by omega)).mpr (by omega)
  · intro h
    obtain ⟨k, hk, rfl⟩ := isT_nat rfl hn h
    exact ⟨nI_pos (by omega), fun q => by have := (nI_leI (a := n) (b := k) (by omega) (by omega)).mp q; omega⟩
theorem cntP_cg {p q : Nat → Prop} [DecidablePred p] [DecidablePred q] : ∀ {k : Nat}, (∀ j, j < k → (p j ↔ q j)) → cntP p k = cntP q k
  | 0, _ => rfl
  | k + 1, h => by
    have ih := cntP_cg (p := p) (q := q) (k := k) (fun j hj => h j (by omega))
    show cntP p k + (if p k then 1 else 0) = cntP q k + (if q k then 1 else 0)
    rw [ih]
    by_cases hp : p k
    · rw [if_pos hp, if_pos ((h k (by omega)).mp hp)]
    · rw [if_neg hp, if_neg (fun z => hp ((h k (by omega)).mpr z))]
theorem cntP_stop {p : Nat → Prop} [DecidablePred p] {n : Nat} : ∀ {m : Nat}, n ≤ m → (∀ i, n ≤ i → i < m → ¬ p i) → cntP p n = cntP p m
  | 0, h, _ => by rw [show n = 0 by omega]
  | m + 1, h, hn => by
    rcases Nat.eq_or_lt_of_le h with q | q
    · rw [q]
    · rw [cntP_f (hn m (by omega) (by omega))]
      exact cntP_stop (by omega) (fun i h1 h2 => hn i h1 (by omega))
theorem cntP_zero {p : Nat → Prop} [DecidablePred p] {k : Nat} (h : ∀ j, j < k → ¬ p j) : cntP p k = 0 := (cntP_stop (n := 0) (Nat.zero_le k) (fun i _ h2 => h i h2)).symm
theorem sumI_cg {f g : Nat → Int32} : ∀ {k : Nat}, (∀ j, j < k → f j = g j) → sumI f k = sumI g k
  | 0, _ => rfl
  | k + 1, h => by
    show sumI f k + f k = sumI g k + g k
    rw [sumI_cg (fun j hj => h j (by omega)), h k (by omega)]
theorem ovN_cg {f h1 h2 : Nat → Int32} {n : Nat} (h : ∀ j, j < n → h1 j = h2 j) : ovN f h1 n = ovN f h2 n := by
  funext j
  unfold ovN
  by_cases q : j < n
  · rw [if_pos q, if_pos q, h j q]
  · rw [if_neg q, if_neg q]
/-! which kinds are left -/
def bt5 (b0 b1 b2 b3 b4 : Bool) : Int32 := ((((0 ||| (if b0 = true then (1 : Int32) <<< (nI 0 &&& 31) else 0)) ||| (if b1 = true then (1 : Int32) <<< (nI 1 &&& 31) else 0)) ||| (if b2 = true then (1 : Int32) <<< (nI 2 &&& 31) else 0)) ||| (if b3 = true then (1 : Int32) <<< (nI 3 &&& 31) else 0)) ||| (if b4 = true then (1 : Int32) <<< (nI 4 &&& 31) else 0)
theorem bt5_and : ∀ a0 a1 a2 a3 a4 d0 d1 d2 d3 d4 : Bool, bt5 a0 a1 a2 a3 a4 &&& bt5 d0 d1 d2 d3 d4 = bt5 (a0 && d0) (a1 && d1) (a2 && d2) (a3 && d3) (a4 && d4) := by decide +kernel
theorem bt5_nat : ∀ b0 b1 b2 b3 b4 : Bool, bt5 b0 b1 b2 b3 b4 = nI (b0.toNat + 2 * b1.toNat + 4 * b2.toNat + 8 * b3.toNat + 16 * b4.toNat) := by decide +kernel
theorem bt5_lt (b0 b1 b2 b3 b4 : Bool) : ∃ m, m < 32 ∧ bt5 b0 b1 b2 b3 b4 = nI m := by
  refine ⟨_, ?_, bt5_nat b0 b1 b2 b3 b4⟩
  have h : ∀ b : Bool, b.toNat ≤ 1 := by decide
  have := h b0; have := h b1; have := h b2; have := h b3; have := h b4
  omega
theorem sortsS_5 {st sw sc : Nat → Int32} {sn : Nat} {t : Int32} : sortsS st sw sc sn t 5 = bt5 (allB (seenOk st sw sc t (nI 0)) sn) (allB (seenOk st sw sc t (nI 1)) sn) (allB (seenOk st sw sc t (nI 2)) sn) (allB (seenOk st sw sc t (nI 3)) sn) (allB (seenOk st sw sc t (nI 4)) sn) := rfl
def klB (w : Nat) (y : Bool) : Int32 := bt5 (couldB (nI 0) (nI w) == y) (couldB (nI 1) (nI w) == y) (couldB (nI 2) (nI w) == y) (couldB (nI 3) (nI w) == y) (couldB (nI 4) (nI w) == y)
theorem kl_1 : ∀ w, w < 4 → klS w 1 = klB w true := by decide +kernel
theorem kl_0 : ∀ w, w < 4 → klS w 0 = klB w false := by decide +kernel
def Seq1 (c11 c12 r11 r12 r13 : Nat → Int32) (k : Nat) : Prop := c11 k = r11 k ∧ ∃ w, w < 4 ∧ r12 k = nI w ∧ (r13 k = 0 ∨ r13 k = 1) ∧ c12 k = klS w (r13 k)
theorem sorts_eq {c11 c12 r11 r12 r13 : Nat → Int32} {t : Int32} : ∀ {sn : Nat}, (∀ k, k < sn → Seq1 c11 c12 r11 r12 r13 k) → andS c11 c12 t sn = sortsS r11 r12 r13 sn t 5
  | 0, _ => by
    rw [sortsS_5]
    show (31 : Int32) = bt5 true true true true true
    decide
  | k + 1, h => by
    have ih := sorts_eq (c11 := c11) (c12 := c12) (r11 := r11) (r12 := r12) (r13 := r13) (t := t) (sn := k) (fun j hj => h j (by omega))
    obtain ⟨h1, w, hw, h2, h3, h4⟩ := h k (by omega)
    rw [andS, ih, sortsS_5, sortsS_5]
    have e : ∀ i : Int32, allB (seenOk r11 r12 r13 t i) (k + 1) = (allB (seenOk r11 r12 r13 t i) k && seenOk r11 r12 r13 t i k) := fun i => rfl
    rw [e, e, e, e, e]
    by_cases q : c11 k = t
    · rw [if_pos q, ← bt5_and]
      have e2 : ∀ i : Int32, seenOk r11 r12 r13 t i k = (couldB i (nI w) == decide (r13 k = 1)) := fun i => by
        unfold seenOk
        rw [h2, ← h1, q]
        simp
      rw [e2, e2, e2, e2, e2, h4]
      congr 1
      rcases h3 with z | z
      · rw [z, kl_0 w hw]; rfl
      · rw [z, kl_1 w hw]; rfl
    · rw [if_neg q]
      have e2 : ∀ i : Int32, seenOk r11 r12 r13 t i k = true := fun i => by
        unfold seenOk
        rw [← h1]
        simp [q]
      rw [e2, e2, e2, e2, e2]
      simp only [Bool.and_true]
theorem ask_eq {c11 c12 r11 r12 r13 : Nat → Int32} {t : Int32} {sn : Nat} (h : ∀ k, k < sn → Seq1 c11 c12 r11 r12 r13 k) : askCS (andS c11 c12 t sn) = askS (sortsS r11 r12 r13 sn t 5) := by
  rw [sorts_eq h, sortsS_5]
  obtain ⟨m, hm, e⟩ := bt5_lt (allB (seenOk r11 r12 r13 t (nI 0)) sn) (allB (seenOk r11 r12 r13 t (nI 1)) sn) (allB (seenOk r11 r12 r13 t (nI 2)) sn) (allB (seenOk r11 r12 r13 t (nI 3)) sn) (allB (seenOk r11 r12 r13 t (nI 4)) sn)
  rw [e]
  exact askC_eq m hm
/-! lit, unlike -/
theorem lit_eq {pl : Nat → Int32} : 12 - nI (dkN pl 0 12) = nI (nOn pl 12) := by
  have h : dkN pl 0 12 + nOn pl 12 = 12 := by
    have e : dkN pl 0 12 = cntP (fun j => pl j = -1) 12 := cntP_cg (fun j _ => by rw [Nat.zero_add])
    rw [e]
    exact cntP_not
  have h2 : nI 12 - nI (dkN pl 0 12) = nI (12 - dkN pl 0 12) := pk_sub (a := 12) (b := dkN pl 0 12) (by omega)
  rw [show (12 : Int32) = nI 12 from rfl, h2, show 12 - dkN pl 0 12 = nOn pl 12 by omega]
theorem nOf_far {n k : Nat} {pl : Nat → Int32} (hok : okP n pl) (hn : n ≤ 5) (hk : n ≤ k) (hk5 : k < 5) : nOf pl (nI k) 12 = 0 := cntP_zero (fun j hj q => by
  rcases hok j hj with e | ⟨t, ht, e⟩
  · rw [e] at q
    exact absurd q.symm (nI_nm1 (by omega))
  · rw [e] at q
    have := (nI_eq (a := t) (b := k) (by omega) (by omega)).mp q
    omega)
theorem unl_eq {b52 pl : Nat → Int32} {n : Nat} (hw : ∀ t, t < 5 → b52 t = nI (nOf pl (nI t) 12)) (hn : n ≤ 5) (hok : okP n pl) : cntP (fun k => 0 < b52 k) 5 = unlN pl n := by
  have h1 : cntP (fun k => 0 < b52 k) 5 = cntP (fun k => 0 < nOf pl (nI k) 12) 5 := cntP_cg (fun k hk => by
    have hle : nOf pl (nI k) 12 ≤ 12 := cntP_le _ _
    rw [hw k hk]
    exact nI_ltI (a := 0) (b := nOf pl (nI k) 12) (by omega) (by omega))
  rw [h1]
  exact (cntP_stop hn (fun i h1 h2 q => by rw [nOf_far hok hn h1 h2] at q; omega)).symm
/-! seats are few -/
theorem fade_lt : ∀ f, f < 10 → ∀ j, j < 4 → (¬ fade (100 * nI f) j < 0 ∧ fade (100 * nI f) j ≤ 1350) ∧ (¬ 3 * fade (100 * nI f) j / 2 < 0 ∧ 3 * fade (100 * nI f) j / 2 ≤ 1350) := by decide +kernel
theorem sts_nat {kd fl pl : Nat → Int32} {n i : Nat} (hok : okP n pl) (hi : i < 12) (hn : n ≤ 5) (hf : ∀ k, k < n → ∃ f, f < 10 ∧ fl k = nI f) : ∃ m, m ≤ 1400 ∧ sts kd fl pl i = nI m := by
  unfold sts
  rcases hok i hi with e | ⟨t, ht, e⟩
  · rw [if_pos e]; exact ⟨0, by omega, rfl⟩
  · obtain ⟨f, hf1, hf2⟩ := hf t ht
    rw [e, ix_nI (by omega), if_neg (nI_nm1 (by omega)), hf2]
    obtain ⟨j, hj, ej⟩ : ∃ j, j < 4 ∧ j = min (nOf pl (nI t) i) 3 := ⟨_, by omega, rfl⟩
    rw [← ej]
    obtain ⟨⟨a1, a2⟩, b1, b2⟩ := fade_lt f hf1 j hj
    obtain ⟨m1, h1, e1⟩ := nI_of2 (M := 1350) (n := 1350) rfl a1 a2
    obtain ⟨m2, h2, e2⟩ := nI_of2 (M := 1350) (n := 1350) rfl b1 b2
    rw [e2, e1]
    by_cases q1 : draws kd pl (nI i - 1) (nI t) ∨ draws kd pl (nI (i + 1)) (nI t)
    · rw [if_pos q1]
      by_cases q2 : isG (kd t)
      · rw [if_pos q2]; exact ⟨m2 + 50, by omega, nI_add m2 50⟩
      · rw [if_neg q2]; exact ⟨m1 + 50, by omega, nI_add m1 50⟩
    · rw [if_neg q1]
      by_cases q2 : isG (kd t)
      · rw [if_pos q2]; exact ⟨m2, by omega, rfl⟩
      · rw [if_neg q2]; exact ⟨m1, by omega, rfl⟩
theorem sum_nat {f : Nat → Int32} : ∀ {k : Nat}, (∀ j, j < k → ∃ m, m ≤ 1400 ∧ f j = nI m) → ∃ m, m ≤ 1400 * k ∧ sumI f k = nI m
  | 0, _ => ⟨0, by omega, rfl⟩
  | k + 1, h => by
    obtain ⟨m1, h1, e1⟩ := sum_nat (f := f) (k := k) (fun j hj => h j (by omega))
    obtain ⟨m2, h2, e2⟩ := h k (by omega)
    refine ⟨m1 + m2, by omega, ?_⟩
    show sumI f k + f k = _
    rw [e1, e2, nI_add]
theorem seat_nat {r : Nat → Nat → Int32} {n : Nat} {t : Int32} (hok : okP n (r 8)) (hn : n ≤ 5) (hf : ∀ k, k < n → ∃ f, f < 10 ∧ r 7 k = nI f) : ∃ m, m < 100000 ∧ seatS r t 12 = nI m := by
  obtain ⟨m, h, e⟩ := sum_nat (f := fun j => if r 8 j = t ∧ rBk r j = 0 then rSt r j else 0) (k := 12) (fun j hj => by
    by_cases q : r 8 j = t ∧ rBk r j = 0
    · rw [if_pos q]; exact sts_nat hok hj hn hf
    · rw [if_neg q]; exact ⟨0, by omega, rfl⟩)
  exact ⟨m, by omega, e⟩
/-! ranks -/
theorem sub_0 {a b : Nat} (ha : a < 1000000) (hb : b < 1000000) : nI a - nI b = 0 ↔ a = b := by
  rw [← Int32.toInt_inj, pk_sub_toInt (by omega) (by omega), show (0 : Int32).toInt = 0 from rfl]; omega
theorem sub_lt {a b : Nat} (ha : a < 1000000) (hb : b < 1000000) : 0 < nI a - nI b ↔ b < a := by
  rw [Int32.lt_iff_toInt_lt, pk_sub_toInt (by omega) (by omega), show (0 : Int32).toInt = 0 from rfl]; omega
theorem ahd_eq {a b m1 m2 e k : Nat} (ha : a < 1000000) (hb : b < 1000000) (h1 : m1 < 1000000) (h2 : m2 < 1000000) (he : e < 5) (hk : k < 5) :
    (if nI a = nI b then (if nI m1 = nI m2 then decide (e < k) else decide (nI m2 < nI m1)) else decide (nI b < nI a)) = ahdB (nI a) (nI b) (nI m1) (nI m2) (nI e) (nI k) := by
  unfold ahdB
  have x1 : (nI a = nI b) = (nI a - nI b = 0) := propext ((nI_eq (by omega) (by omega)).trans (sub_0 ha hb).symm)
  have x2 : (nI m1 = nI m2) = (nI m1 - nI m2 = 0) := propext ((nI_eq (by omega) (by omega)).trans (sub_0 h1 h2).symm)
  have x3 : (e < k) = (nI e < nI k) := propext (nI_ltI (by omega) (by omega)).symm
  have x4 : (nI m2 < nI m1) = (0 < nI m1 - nI m2) := propext ((nI_ltI (by omega) (by omega)).trans (sub_lt h1 h2).symm)
  have x5 : (nI b < nI a) = (0 < nI a - nI b) := propext ((nI_ltI (by omega) (by omega)).trans (sub_lt ha hb).symm)
  simp only [x1, x2, x3, x4, x5]
theorem rk_eq {b52 b53 : Nat → Int32} {r : Nat → Nat → Int32} {n k : Nat} (h52 : ∀ t, t < 5 → b52 t = nI (nOf (r 8) (nI t) 12)) (h53 : ∀ t, t < 5 → b53 t = seatS r (nI t) 12) (hok : okP n (r 8)) (hn : n ≤ 5) (hf : ∀ k, k < n → ∃ f, f < 10 ∧ r 7 k = nI f) (hk : k < n) :
    cntP (fun e => ahdC b52 b53 e k = true) n = aheadN r k n := cntP_cg (fun e he => by
  obtain ⟨m1, h1, e1⟩ := seat_nat (t := nI e) hok hn hf
  obtain ⟨m2, h2, e2⟩ := seat_nat (t := nI k) hok hn hf
  have l1 : nOf (r 8) (nI e) 12 ≤ 12 := cntP_le _ _
  have l2 : nOf (r 8) (nI k) 12 ≤ 12 := cntP_le _ _
  have z : ahdC b52 b53 e k = aheadB r (nI e) (nI k) := by
    unfold ahdC aheadB
    rw [h52 e (by omega), h52 k (by omega), h53 e (by omega), h53 k (by omega), e1, e2]
    exact ahd_eq (by omega) (by omega) (by omega) (by omega) (by omega) (by omega)
  rw [z]
  constructor
  · intro q
    refine ⟨?_, q⟩
    rintro rfl
    unfold aheadB ahdB at q
    rw [Int32.sub_self, Int32.sub_self, if_pos rfl, if_pos rfl] at q
    have := of_decide_eq_true q
    exact Int32.lt_irrefl this
  · exact fun q => q.2)
