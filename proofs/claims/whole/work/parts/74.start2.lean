set_option maxRecDepth 100000 in
set_option maxHeartbeats 4000000 in
theorem en_start {bs : Nat} {s : State} {A : Nat → Prop} (hts : ∀ w ∈ lw_tbl, w.before #[Value.ref bs] s = true) (hgv : (Jvm.Cond.and given_1 narrow_1).before #[Value.ref bs] s = true) (hA : ∀ a : Nat, a < s.heap.size → ¬ A a) : ∃ (D : va_G) (kB kI kT : ClassId) (ks sk sv : Nat), EN D kB kI kT ks sk sv A s := by
  have tb : ∀ (k : Nat) (w : Cond), tables_1[k]? = some w → w.before #[Value.ref bs] s = true := fun k w h => hts w (List.mem_append_right _ (List.mem_of_getElem? h))
  have htg : ∀ w ∈ GG, w.before #[Value.ref bs] s = true := fun w h => hts w (GG_tbl h)
  obtain ⟨ks, sk, sv, hST⟩ := st_start hts hgv hA
  obtain ⟨kI, hI1, hI2⟩ := ak_int (htg _ aw_int)
  obtain ⟨kB, hB1, hB2⟩ := ak_byte (htg _ aw_byte)
  obtain ⟨kT, hT1, hT2⟩ := ak_T (tb 59 _ (by decide +kernel))
  obtain ⟨c0, i0, hK0⟩ := u_known (C := RX0) (T := TX0) (N := 2) (n := 2) htg inX0 (tb 28 _ (by decide +kernel))
  obtain ⟨c1, i1, hK1⟩ := u_known (C := RX1) (T := TX1) (N := 10) (n := 10) htg inX1 (tb 113 _ (by decide +kernel))
  obtain ⟨c2, i2, hK2⟩ := u_known (C := RX2) (T := TX2) (N := 7) (n := 7) htg inX2 (tb 195 _ (by decide +kernel))
  obtain ⟨c3, i3, hK3⟩ := u_known (C := RX3) (T := TX3) (N := 3) (n := 3) htg inX3 (tb 47 _ (by decide +kernel))
  obtain ⟨c4, i4, hK4⟩ := u_known (C := RX4) (T := TX4) (N := 3) (n := 3) htg inX4 (tb 163 _ (by decide +kernel))
  obtain ⟨c5, i5, hK5⟩ := u_known (C := RX5) (T := TX5) (N := 6) (n := 6) htg inX5 (tb 60 _ (by decide +kernel))
  obtain ⟨c6, i6, hK6⟩ := u_known (C := RX6) (T := TX6) (N := 2) (n := 2) htg inX6 (tb 53 _ (by decide +kernel))
  obtain ⟨c7, i7, hK7⟩ := u_known (C := RX7) (T := TX7) (N := 8) (n := 8) htg inX7 (tb 20 _ (by decide +kernel))
  obtain ⟨c8, i8, hK8⟩ := u_known (C := RX8) (T := TX8) (N := 42) (n := 42) htg inX8 (tb 661 _ (by decide +kernel))
  refine ⟨(fun k => if k = 0 then c0 else if k = 1 then c1 else if k = 2 then c2 else if k = 3 then c3 else if k = 4 then c4 else if k = 5 then c5 else if k = 6 then c6 else if k = 7 then c7 else c8, fun k => if k = 0 then i0 else if k = 1 then i1 else if k = 2 then i2 else if k = 3 then i3 else if k = 4 then i4 else if k = 5 then i5 else if k = 6 then i6 else if k = 7 then i7 else i8), kB, kI, kT, ks, sk, sv, ⟨fun k q hq => ?_, fun k q hq => ?_⟩, List.forall_mem_cons.mpr ⟨va_Nw.of rfl (tb 29 _ (by decide +kernel)), List.forall_mem_cons.mpr ⟨va_Nw.of rfl (tb 48 _ (by decide +kernel)), List.forall_mem_cons.mpr ⟨va_Nw.of rfl (tb 61 _ (by decide +kernel)), List.forall_mem_cons.mpr ⟨va_Nw.of rfl (tb 164 _ (by decide +kernel)), List.forall_mem_cons.mpr ⟨va_Nw.of rfl (tb 527 _ (by decide +kernel)), fun _ h => absurd h List.not_mem_nil⟩⟩⟩⟩⟩, hST⟩
  · match k, hq with
    | 0, hq => cases hq; exact hK0
    | 1, hq => cases hq; exact hK1
    | 2, hq => cases hq; exact hK2
    | 3, hq => cases hq; exact hK3
    | 4, hq => cases hq; exact hK4
    | 5, hq => cases hq; exact hK5
    | 6, hq => cases hq; exact hK6
    | 7, hq => cases hq; exact hK7
    | 8, hq => cases hq; exact hK8
    | k + 9, hq => simp [vwCl] at hq
  · match k, hq with
    | 0, hq => cases hq; exact ⟨hI1, hI2⟩
    | 1, hq => cases hq; exact ⟨hB1, hB2⟩
    | 2, hq => cases hq; exact ⟨hT1, hT2⟩
    | k + 3, hq => simp [tyL] at hq
