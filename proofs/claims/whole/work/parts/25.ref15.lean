section
variable {l : Launch} {D : va_G} {kB kI kT : ClassId} {ks sk sv : Nat}
set_option maxRecDepth 100000 in
set_option maxHeartbeats 4000000 in
theorem k_X8_mix {o : Nat} {a : Nat → Nat} {z : Nat → Int32} {g : Nat → Int64} {r : Nat → Nat → Int32} (v : Int64) : MW l yX8_mix cX8_mix 3 none 0 0 D kB kI kT ks sk sv [.ref o, .long v] (wR kB kI o a z g r) none (wR kB kI o a z (va_up g 41 (31 * g 41 + v)) r) := by
  refine MW.go (by decide +kernel) (Nat.le_of_ble_eq_true rfl) ?_
  intro p e s m below meth c0 args Q ls A hQ hx hb hr hml hown hts hlocks hE hP hD hS hl
  have hl : lv_has ls 3 [(0, .ref o), (1, .long v)] := hl
  have hown : s.vm.findClass RX8 = some m.cls := hown
  refine lv_aload_n (pc := 0) hx hb dX8_mix_0 rfl (lv_at hl 0 rfl) ?_
  refine lv_ldc2 (pc := 1) (v := 31) hx hb hown (hts _ co_X8_278) dX8_mix_1 ?_
  refine lv_aload_n (pc := 4) hx hb dX8_mix_4 rfl (lv_at hl 0 rfl) ?_
  refine fget (pc := 5) (v := .long (g 41)) hx hb hts hown hE hP fl_X8_280 0 rfl rfl dX8_mix_5 ?_
  refine lv_lmul (pc := 8) hx hb dX8_mix_8 ?_
  refine lv_lload_n (pc := 9) hx hb dX8_mix_9 rfl (lv_at hl 1 rfl) ?_
  refine lv_ladd (pc := 10) hx hb dX8_mix_10 ?_
  refine fput (pc := 11) (v := .long ((31 * (g 41)) + v)) hx hb hts hown hE hP hD hS fp_X8_280 0 rfl rfl rfl (Nat.le_of_ble_eq_true rfl) dX8_mix_11 (fun H locs hP hD hS => ?_)
  have hP : va_P D vwCl (wR kB kI o a z (va_up g 41 ((31 * (g 41)) + v)) r) H := hP
  have hD : va_D A (wR kB kI o a z (va_up g 41 ((31 * (g 41)) + v)) r) := hD
  rw [hQ]; exact W.vret (pc := 14) hx hb hr (fun t9 ht _ => ⟨⟨rfl, by rw [ht]; exact hP⟩, hS.F ht⟩) hS.2.2 dX8_mix_14 hlocks
set_option maxRecDepth 100000 in
set_option maxHeartbeats 4000000 in
theorem k_X8_digest {o : Nat} {a : Nat → Nat} {z : Nat → Int32} {g : Nat → Int64} {r : Nat → Nat → Int32} {n : Nat} {sn : Nat} {pn : Nat} (hok : okP n (r 8)) (hn5 : n ≤ 5) (hz1 : z 1 = nI n) (hz10 : z 10 = nI sn) (hsn : sn ≤ 6) (hz14 : z 14 = nI pn) (hpn : pn ≤ 40) : MW l yX8_digest cX8_digest 3 (some .long) 9 202 D kB kI kT ks sk sv [.ref o] (wR kB kI o a z g r) (some (.long (dg5 z r n sn pn 10))) (wR kB kI o a z (va_up g 41 (dg5 z r n sn pn 10)) r) := by
  refine MW.go (by decide +kernel) (Nat.le_of_ble_eq_true rfl) ?_
  intro p e s m below meth c0 args Q ls A hQ hx hb hr hml hown hts hlocks hE hP hD hS hl
  have hl : lv_has ls 3 [(0, .ref o)] := hl
  have hown : s.vm.findClass RX8 = some m.cls := hown
  refine lv_aload_n (pc := 0) hx hb dX8_digest_0 rfl (lv_at hl 0 rfl) ?_
  refine lv_ldc2 (pc := 1) (v := 1459) hx hb hown (hts _ co_X8_283) dX8_digest_1 ?_
  refine fput (pc := 4) (v := .long 1459) hx hb hts hown hE hP hD hS fp_X8_280 0 rfl rfl rfl (Nat.le_of_ble_eq_true rfl) dX8_digest_4 (fun H locs hP hD hS => ?_)
  have hP : va_P D vwCl (wR kB kI o a z (va_up g 41 1459) r) H := hP
  have hD : va_D A (wR kB kI o a z (va_up g 41 1459) r) := hD
  refine lv_iconst (pc := 7) (v := 0) hx hb dX8_digest_7 (by decide) ?_
  refine lv_istore_n (pc := 8) (lv' := [(1, .int 0), (0, .ref o)]) hx hb dX8_digest_8 rfl hl (by decide) rfl (fun ls hl => ?_)
  have lp_1 : ∀ (fuel : Nat) (k : Nat), n - k < fuel → (k ≤ n) → ∀ (H : Heap) (locs : List Loc), va_P D vwCl (wR kB kI o a z (va_up g 41 (dg1 r sn k)) r) H → va_D A (wR kB kI o a z (va_up g 41 (dg1 r sn k)) r) → va_S A s.heap H locs → ∀ (ls : Array Slot), lv_has ls 3 [(0, .ref o), (1, .int (nI k))] → W p l e (rmO 9 202) s m args below meth c0 H locs 0 0 Q (F0 m 9 ls []) := by
    intro fuel
    induction fuel with
    | zero => intro k hfuel; exact absurd hfuel (Nat.not_lt_zero _)
    | succ fuel ih_lp_1 =>
      intro k hfuel hk H locs hP hD hS ls hl
      refine lv_iload_n (pc := 9) hx hb dX8_digest_9 rfl (lv_at hl 1 rfl) ?_
      refine lv_aload_n (pc := 10) hx hb dX8_digest_10 rfl (lv_at hl 0 rfl) ?_
      refine fget (pc := 11) (v := .int (z 1)) hx hb hts hown hE hP fl_X8_124 0 rfl rfl dX8_digest_11 ?_
      refine vEq (v := nI n) hz1 ?_
      refine lv_icmp_ge (pc := 14) (tgt := 48) hx hb dX8_digest_14 (by decide) (fun c_2 => ?_) (fun c_2 => ?_)
      · skip
        have c_2n : n ≤ k := (nI_leI (a := n) (b := k) (by omega) (by omega)).mp c_2
        have hq : k = n := by omega
        rw [hq] at hP hD
        have hP : va_P D vwCl (wR kB kI o a z (va_up g 41 (dg2 r n sn 0)) r) H := hP
        have hD : va_D A (wR kB kI o a z (va_up g 41 (dg2 r n sn 0)) r) := hD
        refine lv_iconst (pc := 48) (v := 0) hx hb dX8_digest_48 (by decide) ?_
        refine lv_istore_n (pc := 49) (lv' := [(1, .int 0), (0, .ref o)]) hx hb dX8_digest_49 rfl hl (by decide) rfl (fun ls hl => ?_)
        have lp_3 : ∀ (fuel : Nat) (i : Nat), 12 - i < fuel → (i ≤ 12) → (n = 0 → i = 0) → ∀ (H : Heap) (locs : List Loc), va_P D vwCl (wR kB kI o a z (va_up g 41 (dg2 r n sn i)) r) H → va_D A (wR kB kI o a z (va_up g 41 (dg2 r n sn i)) r) → va_S A s.heap H locs → ∀ (ls : Array Slot), lv_has ls 3 [(0, .ref o), (1, .int (nI i))] → W p l e (rmO 9 202) s m args below meth c0 H locs 0 0 Q (F0 m 50 ls []) := by
          intro fuel
          induction fuel with
          | zero => intro i hfuel; exact absurd hfuel (Nat.not_lt_zero _)
          | succ fuel ih_lp_3 =>
            intro i hfuel hi hi0 H locs hP hD hS ls hl
            refine lv_iload_n (pc := 50) hx hb dX8_digest_50 rfl (lv_at hl 1 rfl) ?_
            refine lv_bipush (pc := 51) (v := 12) hx hb dX8_digest_51 (by decide) ?_
            refine lv_icmp_ge (pc := 53) (tgt := 93) hx hb dX8_digest_53 (by decide) (fun c_4 => ?_) (fun c_4 => ?_)
            · skip
              have c_4n : 12 ≤ i := (nI_leI (a := 12) (b := i) (by omega) (by omega)).mp c_4
              have hx12 : i = (if 0 < n then 12 else 0) := by by_cases q : 0 < n <;> simp [q] <;> omega
              rw [hx12] at hP hD
              have hP : va_P D vwCl (wR kB kI o a z (va_up g 41 (dg3 r n sn 0)) r) H := hP
              have hD : va_D A (wR kB kI o a z (va_up g 41 (dg3 r n sn 0)) r) := hD
              refine lv_iconst (pc := 93) (v := 0) hx hb dX8_digest_93 (by decide) ?_
              refine lv_istore_n (pc := 94) (lv' := [(1, .int 0), (0, .ref o)]) hx hb dX8_digest_94 rfl hl (by decide) rfl (fun ls hl => ?_)
              have lp_5 : ∀ (fuel : Nat) (k : Nat), n - k < fuel → (k ≤ n) → ∀ (H : Heap) (locs : List Loc), va_P D vwCl (wR kB kI o a z (va_up g 41 (dg3 r n sn k)) r) H → va_D A (wR kB kI o a z (va_up g 41 (dg3 r n sn k)) r) → va_S A s.heap H locs → ∀ (ls : Array Slot), lv_has ls 3 [(0, .ref o), (1, .int (nI k))] → W p l e (rmO 9 202) s m args below meth c0 H locs 0 0 Q (F0 m 95 ls []) := by
                intro fuel
                induction fuel with
                | zero => intro k hfuel; exact absurd hfuel (Nat.not_lt_zero _)
                | succ fuel ih_lp_5 =>
                  intro k hfuel hk H locs hP hD hS ls hl
                  refine lv_iload_n (pc := 95) hx hb dX8_digest_95 rfl (lv_at hl 1 rfl) ?_
                  refine lv_aload_n (pc := 96) hx hb dX8_digest_96 rfl (lv_at hl 0 rfl) ?_
                  refine fget (pc := 97) (v := .int (z 1)) hx hb hts hown hE hP fl_X8_124 0 rfl rfl dX8_digest_97 ?_
                  refine vEq (v := nI n) hz1 ?_
                  refine lv_icmp_ge (pc := 100) (tgt := 119) hx hb dX8_digest_100 (by decide) (fun c_6 => ?_) (fun c_6 => ?_)
                  · skip
                    have c_6n : n ≤ k := (nI_leI (a := n) (b := k) (by omega) (by omega)).mp c_6
                    have hq : k = n := by omega
                    rw [hq] at hP hD
                    have hP : va_P D vwCl (wR kB kI o a z (va_up g 41 (dg4 r n sn 0)) r) H := hP
                    have hD : va_D A (wR kB kI o a z (va_up g 41 (dg4 r n sn 0)) r) := hD
                    refine lv_iconst (pc := 119) (v := 0) hx hb dX8_digest_119 (by decide) ?_
                    refine lv_istore_n (pc := 120) (lv' := [(1, .int 0), (0, .ref o)]) hx hb dX8_digest_120 rfl hl (by decide) rfl (fun ls hl => ?_)
                    have lp_7 : ∀ (fuel : Nat) (k : Nat), pn - k < fuel → (k ≤ pn) → ∀ (H : Heap) (locs : List Loc), va_P D vwCl (wR kB kI o a z (va_up g 41 (dg4 r n sn k)) r) H → va_D A (wR kB kI o a z (va_up g 41 (dg4 r n sn k)) r) → va_S A s.heap H locs → ∀ (ls : Array Slot), lv_has ls 3 [(0, .ref o), (1, .int (nI k))] → W p l e (rmO 9 202) s m args below meth c0 H locs 0 0 Q (F0 m 121 ls []) := by
                      intro fuel
                      induction fuel with
                      | zero => intro k hfuel; exact absurd hfuel (Nat.not_lt_zero _)
                      | succ fuel ih_lp_7 =>
                        intro k hfuel hk H locs hP hD hS ls hl
                        refine lv_iload_n (pc := 121) hx hb dX8_digest_121 rfl (lv_at hl 1 rfl) ?_
                        refine lv_aload_n (pc := 122) hx hb dX8_digest_122 rfl (lv_at hl 0 rfl) ?_
                        refine fget (pc := 123) (v := .int (z 14)) hx hb hts hown hE hP fl_X8_90 0 rfl rfl dX8_digest_123 ?_
                        refine vEq (v := nI pn) hz14 ?_
                        refine lv_icmp_ge (pc := 126) (tgt := 146) hx hb dX8_digest_126 (by decide) (fun c_8 => ?_) (fun c_8 => ?_)
                        · skip
                          have c_8n : pn ≤ k := (nI_leI (a := pn) (b := k) (by omega) (by omega)).mp c_8
                          have hq : k = pn := by omega
                          rw [hq] at hP hD
                          have hP : va_P D vwCl (wR kB kI o a z (va_up g 41 (dg5 z r n sn pn 0)) r) H := hP
                          have hD : va_D A (wR kB kI o a z (va_up g 41 (dg5 z r n sn pn 0)) r) := hD
                          refine lv_iconst (pc := 146) (v := 0) hx hb dX8_digest_146 (by decide) ?_
                          refine lv_istore_n (pc := 147) (lv' := [(1, .int 0), (0, .ref o)]) hx hb dX8_digest_147 rfl hl (by decide) rfl (fun ls hl => ?_)
                          have lp_9 : ∀ (fuel : Nat) (w9 : Nat), 10 - w9 < fuel → (w9 ≤ 10) → ∀ (H : Heap) (locs : List Loc), va_P D vwCl (wR kB kI o a z (va_up g 41 (dg5 z r n sn pn w9)) r) H → va_D A (wR kB kI o a z (va_up g 41 (dg5 z r n sn pn w9)) r) → va_S A s.heap H locs → ∀ (ls : Array Slot), lv_has ls 3 [(0, .ref o), (1, .int (nI w9))] → W p l e (rmO 9 202) s m args below meth c0 H locs 0 0 Q (F0 m 148 ls []) := by
                            intro fuel
                            induction fuel with
                            | zero => intro w9 hfuel; exact absurd hfuel (Nat.not_lt_zero _)
                            | succ fuel ih_lp_9 =>
                              intro w9 hfuel hw9 H locs hP hD hS ls hl
                              refine lv_iload_n (pc := 148) hx hb dX8_digest_148 rfl (lv_at hl 1 rfl) ?_
                              refine lv_bipush (pc := 149) (v := 10) hx hb dX8_digest_149 (by decide) ?_
                              refine lv_icmp_ge (pc := 151) (tgt := 170) hx hb dX8_digest_151 (by decide) (fun c_10 => ?_) (fun c_10 => ?_)
                              · skip
                                have c_10n : 10 ≤ w9 := (nI_leI (a := 10) (b := w9) (by omega) (by omega)).mp c_10
                                have hq : w9 = 10 := by omega
                                rw [hq] at hP hD
                                have hP : va_P D vwCl (wR kB kI o a z (va_up g 41 (dg5 z r n sn pn 10)) r) H := hP
                                have hD : va_D A (wR kB kI o a z (va_up g 41 (dg5 z r n sn pn 10)) r) := hD
                                refine lv_aload_n (pc := 170) hx hb dX8_digest_170 rfl (lv_at hl 0 rfl) ?_
                                refine fget (pc := 171) (v := .long (dg5 z r n sn pn 10)) hx hb hts hown hE hP fl_X8_280 0 rfl rfl dX8_digest_171 ?_
                                rw [hQ]; exact W.lret (pc := 174) hx hb hr (fun t9 ht _ => ⟨⟨retL (rfl), by rw [ht]; exact hP⟩, hS.F ht⟩) hS.2.2 dX8_digest_174 hlocks
                              · skip
                                have c_10n : ¬ 10 ≤ w9 := fun hh => c_10 ((nI_leI (a := 10) (b := w9) (by omega) (by omega)).mpr hh)
                                refine lv_aload_n (pc := 154) hx hb dX8_digest_154 rfl (lv_at hl 0 rfl) ?_
                                refine lv_aload_n (pc := 155) hx hb dX8_digest_155 rfl (lv_at hl 0 rfl) ?_
                                refine lv_iload_n (pc := 156) hx hb dX8_digest_156 rfl (lv_at hl 1 rfl) ?_
                                refine rV (pc := 157) (rest := [.ref o]) ⟨hx, hb, hml, hown, hts⟩ (k_X8_howMany (what := nI w9) (z := z) (g := (va_up g 41 (dg5 z r n sn pn w9))) (r := r) (hok := hok) (hn5 := hn5) (hz1 := hz1) (n := n)) cw_X8_275 ⟨(Nat.le_of_ble_eq_true rfl), (Nat.le_of_ble_eq_true rfl)⟩ hE hS hP rfl rfl rfl rfl hl.1 rfl (Nat.le_of_ble_eq_true rfl) dX8_digest_157 ⟨Nat.le_refl _, Nat.le_refl _⟩ ?_
                                refine W.eq (g2 := F0 m 160 ls [.int (howS z r n (nI w9)), .ref o]) rfl ?_
                                refine lv_i2l (pc := 160) (v := (howS z r n (nI w9)).toInt64) hx hb dX8_digest_160 rfl ?_
                                refine wVa (pc := 161) (rest := []) ⟨hx, hb, hml, hown, hts⟩ (k_X8_mix (v := (howS z r n (nI w9)).toInt64) (z := z) (g := (va_up g 41 (dg5 z r n sn pn w9))) (r := r)) cw_X8_285 ⟨(Nat.le_of_ble_eq_true rfl), (Nat.le_of_ble_eq_true rfl)⟩ hE hP hD hS rfl rfl rfl rfl rfl hl.1 rfl (Nat.le_of_ble_eq_true rfl) dX8_digest_161 ⟨Nat.le_refl _, Nat.le_refl _⟩ (fun H locs hP hD hS => ?_)
                                have hP : va_P D vwCl (wR kB kI o a z (va_up g 41 (31 * (dg5 z r n sn pn w9) + ((howS z r n (nI w9)).toInt64))) r) H := hP
                                have hD : va_D A (wR kB kI o a z (va_up g 41 (31 * (dg5 z r n sn pn w9) + ((howS z r n (nI w9)).toInt64))) r) := hD
                                refine W.eq (g2 := F0 m 164 ls []) rfl ?_
                                have hP : va_P D vwCl (wR kB kI o a z (va_up g 41 (dg5 z r n sn pn (w9 + 1))) r) H := hP
                                have hD : va_D A (wR kB kI o a z (va_up g 41 (dg5 z r n sn pn (w9 + 1))) r) := hD
                                refine lv_iinc (pc := 164) (v := nI (w9 + 1)) (lv' := [(1, .int (nI (w9 + 1))), (0, .ref o)]) hx hb dX8_digest_164 hl (k := 1) rfl (nI_add (w9) 1) (by decide) rfl (fun ls hl => ?_)
                                refine lv_goto (pc := 167) (tgt := 148) hx hb dX8_digest_167 (by decide) ?_
                                exact ih_lp_9 (w9 + 1) (by omega) (by omega) _ _ hP hD hS ls (lv_sub hl [1, 0] rfl)
                          exact lp_9 _ 0 (Nat.lt_succ_self _) (by omega) _ _ hP hD hS ls (lv_sub hl [1, 0] rfl)
                        · skip
                          have c_8n : ¬ pn ≤ k := fun hh => c_8 ((nI_leI (a := pn) (b := k) (by omega) (by omega)).mpr hh)
                          refine lv_aload_n (pc := 129) hx hb dX8_digest_129 rfl (lv_at hl 0 rfl) ?_
                          refine lv_aload_n (pc := 130) hx hb dX8_digest_130 rfl (lv_at hl 0 rfl) ?_
                          refine fget (pc := 131) (v := .ref (a 15)) hx hb hts hown hE hP fl_X8_40 0 rfl rfl dX8_digest_131 ?_
                          refine lv_iload_n (pc := 134) hx hb dX8_digest_134 rfl (lv_at hl 1 rfl) ?_
                          refine aldB (pc := 135) (f := r 15) hx hb hE hP 11 rfl (k) (by omega) (by omega) dX8_digest_135 ?_
                          refine lv_i2l (pc := 136) (v := ((r 15) k).toInt64) hx hb dX8_digest_136 rfl ?_
                          refine wVa (pc := 137) (rest := []) ⟨hx, hb, hml, hown, hts⟩ (k_X8_mix (v := ((r 15) k).toInt64) (z := z) (g := (va_up g 41 (dg4 r n sn k))) (r := r)) cw_X8_285 ⟨(Nat.le_of_ble_eq_true rfl), (Nat.le_of_ble_eq_true rfl)⟩ hE hP hD hS rfl rfl rfl rfl rfl hl.1 rfl (Nat.le_of_ble_eq_true rfl) dX8_digest_137 ⟨Nat.le_refl _, Nat.le_refl _⟩ (fun H locs hP hD hS => ?_)
                          have hP : va_P D vwCl (wR kB kI o a z (va_up g 41 (31 * (dg4 r n sn k) + (((r 15) k).toInt64))) r) H := hP
                          have hD : va_D A (wR kB kI o a z (va_up g 41 (31 * (dg4 r n sn k) + (((r 15) k).toInt64))) r) := hD
                          refine W.eq (g2 := F0 m 140 ls []) rfl ?_
                          have hP : va_P D vwCl (wR kB kI o a z (va_up g 41 (dg4 r n sn (k + 1))) r) H := hP
                          have hD : va_D A (wR kB kI o a z (va_up g 41 (dg4 r n sn (k + 1))) r) := hD
                          refine lv_iinc (pc := 140) (v := nI (k + 1)) (lv' := [(1, .int (nI (k + 1))), (0, .ref o)]) hx hb dX8_digest_140 hl (k := 1) rfl (nI_add (k) 1) (by decide) rfl (fun ls hl => ?_)
                          refine lv_goto (pc := 143) (tgt := 121) hx hb dX8_digest_143 (by decide) ?_
                          exact ih_lp_7 (k + 1) (by omega) (by omega) _ _ hP hD hS ls (lv_sub hl [1, 0] rfl)
                    exact lp_7 _ 0 (Nat.lt_succ_self _) (by omega) _ _ hP hD hS ls (lv_sub hl [1, 0] rfl)
                  · skip
                    have c_6n : ¬ n ≤ k := fun hh => c_6 ((nI_leI (a := n) (b := k) (by omega) (by omega)).mpr hh)
                    refine lv_aload_n (pc := 103) hx hb dX8_digest_103 rfl (lv_at hl 0 rfl) ?_
                    refine lv_aload_n (pc := 104) hx hb dX8_digest_104 rfl (lv_at hl 0 rfl) ?_
                    refine lv_iload_n (pc := 105) hx hb dX8_digest_105 rfl (lv_at hl 1 rfl) ?_
                    refine rV (pc := 106) (rest := [.ref o]) ⟨hx, hb, hml, hown, hts⟩ (k_X8_rankNow (place := nI k) (z := z) (g := (va_up g 41 (dg3 r n sn k))) (r := r) (hok := hok) (hn5 := hn5) (hz1 := hz1) (n := n)) cw_X8_230 ⟨(Nat.le_of_ble_eq_true rfl), (Nat.le_of_ble_eq_true rfl)⟩ hE hS hP rfl rfl rfl rfl hl.1 rfl (Nat.le_of_ble_eq_true rfl) dX8_digest_106 ⟨Nat.le_refl _, Nat.le_refl _⟩ ?_
                    refine W.eq (g2 := F0 m 109 ls [.int (rankS r n (nI k)), .ref o]) rfl ?_
                    refine lv_i2l (pc := 109) (v := (rankS r n (nI k)).toInt64) hx hb dX8_digest_109 rfl ?_
                    refine wVa (pc := 110) (rest := []) ⟨hx, hb, hml, hown, hts⟩ (k_X8_mix (v := (rankS r n (nI k)).toInt64) (z := z) (g := (va_up g 41 (dg3 r n sn k))) (r := r)) cw_X8_285 ⟨(Nat.le_of_ble_eq_true rfl), (Nat.le_of_ble_eq_true rfl)⟩ hE hP hD hS rfl rfl rfl rfl rfl hl.1 rfl (Nat.le_of_ble_eq_true rfl) dX8_digest_110 ⟨Nat.le_refl _, Nat.le_refl _⟩ (fun H locs hP hD hS => ?_)
                    have hP : va_P D vwCl (wR kB kI o a z (va_up g 41 (31 * (dg3 r n sn k) + ((rankS r n (nI k)).toInt64))) r) H := hP
                    have hD : va_D A (wR kB kI o a z (va_up g 41 (31 * (dg3 r n sn k) + ((rankS r n (nI k)).toInt64))) r) := hD
                    refine W.eq (g2 := F0 m 113 ls []) rfl ?_
                    have hP : va_P D vwCl (wR kB kI o a z (va_up g 41 (dg3 r n sn (k + 1))) r) H := hP
                    have hD : va_D A (wR kB kI o a z (va_up g 41 (dg3 r n sn (k + 1))) r) := hD
                    refine lv_iinc (pc := 113) (v := nI (k + 1)) (lv' := [(1, .int (nI (k + 1))), (0, .ref o)]) hx hb dX8_digest_113 hl (k := 1) rfl (nI_add (k) 1) (by decide) rfl (fun ls hl => ?_)
                    refine lv_goto (pc := 116) (tgt := 95) hx hb dX8_digest_116 (by decide) ?_
                    exact ih_lp_5 (k + 1) (by omega) (by omega) _ _ hP hD hS ls (lv_sub hl [1, 0] rfl)
              exact lp_5 _ 0 (Nat.lt_succ_self _) (by omega) _ _ hP hD hS ls (lv_sub hl [1, 0] rfl)
            · skip
              have c_4n : ¬ 12 ≤ i := fun hh => c_4 ((nI_leI (a := 12) (b := i) (by omega) (by omega)).mpr hh)
              refine lv_aload_n (pc := 56) hx hb dX8_digest_56 rfl (lv_at hl 0 rfl) ?_
              refine fget (pc := 57) (v := .int (z 1)) hx hb hts hown hE hP fl_X8_124 0 rfl rfl dX8_digest_57 ?_
              refine vEq (v := nI n) hz1 ?_
              refine lv_if_le (pc := 60) (tgt := 93) hx hb dX8_digest_60 (by decide) (fun c_11 => ?_) (fun c_11 => ?_)
              · skip
                have c_11n : n ≤ 0 := (nI_leI (a := n) (b := 0) (by omega) (by omega)).mp c_11
                have hx12 : i = (if 0 < n then 12 else 0) := by by_cases q : 0 < n <;> simp [q] <;> omega
                rw [hx12] at hP hD
                have hP : va_P D vwCl (wR kB kI o a z (va_up g 41 (dg3 r n sn 0)) r) H := hP
                have hD : va_D A (wR kB kI o a z (va_up g 41 (dg3 r n sn 0)) r) := hD
                refine lv_iconst (pc := 93) (v := 0) hx hb dX8_digest_93 (by decide) ?_
                refine lv_istore_n (pc := 94) (lv' := [(1, .int 0), (0, .ref o)]) hx hb dX8_digest_94 rfl hl (by decide) rfl (fun ls hl => ?_)
                have lp_12 : ∀ (fuel : Nat) (k : Nat), n - k < fuel → (k ≤ n) → ∀ (H : Heap) (locs : List Loc), va_P D vwCl (wR kB kI o a z (va_up g 41 (dg3 r n sn k)) r) H → va_D A (wR kB kI o a z (va_up g 41 (dg3 r n sn k)) r) → va_S A s.heap H locs → ∀ (ls : Array Slot), lv_has ls 3 [(0, .ref o), (1, .int (nI k))] → W p l e (rmO 9 202) s m args below meth c0 H locs 0 0 Q (F0 m 95 ls []) := by
                  intro fuel
                  induction fuel with
                  | zero => intro k hfuel; exact absurd hfuel (Nat.not_lt_zero _)
                  | succ fuel ih_lp_12 =>
                    intro k hfuel hk H locs hP hD hS ls hl
                    refine lv_iload_n (pc := 95) hx hb dX8_digest_95 rfl (lv_at hl 1 rfl) ?_
                    refine lv_aload_n (pc := 96) hx hb dX8_digest_96 rfl (lv_at hl 0 rfl) ?_
                    refine fget (pc := 97) (v := .int (z 1)) hx hb hts hown hE hP fl_X8_124 0 rfl rfl dX8_digest_97 ?_
                    refine vEq (v := nI n) hz1 ?_
                    refine lv_icmp_ge (pc := 100) (tgt := 119) hx hb dX8_digest_100 (by decide) (fun c_13 => ?_) (fun c_13 => ?_)
                    · skip
                      have c_13n : n ≤ k := (nI_leI (a := n) (b := k) (by omega) (by omega)).mp c_13
                      have hq : k = n := by omega
                      rw [hq] at hP hD
                      have hP : va_P D vwCl (wR kB kI o a z (va_up g 41 (dg4 r n sn 0)) r) H := hP
                      have hD : va_D A (wR kB kI o a z (va_up g 41 (dg4 r n sn 0)) r) := hD
                      refine lv_iconst (pc := 119) (v := 0) hx hb dX8_digest_119 (by decide) ?_
                      refine lv_istore_n (pc := 120) (lv' := [(1, .int 0), (0, .ref o)]) hx hb dX8_digest_120 rfl hl (by decide) rfl (fun ls hl => ?_)
                      have lp_14 : ∀ (fuel : Nat) (k : Nat), pn - k < fuel → (k ≤ pn) → ∀ (H : Heap) (locs : List Loc), va_P D vwCl (wR kB kI o a z (va_up g 41 (dg4 r n sn k)) r) H → va_D A (wR kB kI o a z (va_up g 41 (dg4 r n sn k)) r) → va_S A s.heap H locs → ∀ (ls : Array Slot), lv_has ls 3 [(0, .ref o), (1, .int (nI k))] → W p l e (rmO 9 202) s m args below meth c0 H locs 0 0 Q (F0 m 121 ls []) := by
                        intro fuel
                        induction fuel with
                        | zero => intro k hfuel; exact absurd hfuel (Nat.not_lt_zero _)
                        | succ fuel ih_lp_14 =>
                          intro k hfuel hk H locs hP hD hS ls hl
                          refine lv_iload_n (pc := 121) hx hb dX8_digest_121 rfl (lv_at hl 1 rfl) ?_
                          refine lv_aload_n (pc := 122) hx hb dX8_digest_122 rfl (lv_at hl 0 rfl) ?_
                          refine fget (pc := 123) (v := .int (z 14)) hx hb hts hown hE hP fl_X8_90 0 rfl rfl dX8_digest_123 ?_
                          refine vEq (v := nI pn) hz14 ?_
                          refine lv_icmp_ge (pc := 126) (tgt := 146) hx hb dX8_digest_126 (by decide) (fun c_15 => ?_) (fun c_15 => ?_)
                          · skip
                            have c_15n : pn ≤ k := (nI_leI (a := pn) (b := k) (by omega) (by omega)).mp c_15
                            have hq : k = pn := by omega
                            rw [hq] at hP hD
                            have hP : va_P D vwCl (wR kB kI o a z (va_up g 41 (dg5 z r n sn pn 0)) r) H := hP
                            have hD : va_D A (wR kB kI o a z (va_up g 41 (dg5 z r n sn pn 0)) r) := hD
                            refine lv_iconst (pc := 146) (v := 0) hx hb dX8_digest_146 (by decide) ?_
                            refine lv_istore_n (pc := 147) (lv' := [(1, .int 0), (0, .ref o)]) hx hb dX8_digest_147 rfl hl (by decide) rfl (fun ls hl => ?_)
                            have lp_16 : ∀ (fuel : Nat) (w9 : Nat), 10 - w9 < fuel → (w9 ≤ 10) → ∀ (H : Heap) (locs : List Loc), va_P D vwCl (wR kB kI o a z (va_up g 41 (dg5 z r n sn pn w9)) r) H → va_D A (wR kB kI o a z (va_up g 41 (dg5 z r n sn pn w9)) r) → va_S A s.heap H locs → ∀ (ls : Array Slot), lv_has ls 3 [(0, .ref o), (1, .int (nI w9))] → W p l e (rmO 9 202) s m args below meth c0 H locs 0 0 Q (F0 m 148 ls []) := by
                              intro fuel
                              induction fuel with
                              | zero => intro w9 hfuel; exact absurd hfuel (Nat.not_lt_zero _)
                              | succ fuel ih_lp_16 =>
                                intro w9 hfuel hw9 H locs hP hD hS ls hl
                                refine lv_iload_n (pc := 148) hx hb dX8_digest_148 rfl (lv_at hl 1 rfl) ?_
                                refine lv_bipush (pc := 149) (v := 10) hx hb dX8_digest_149 (by decide) ?_
                                refine lv_icmp_ge (pc := 151) (tgt := 170) hx hb dX8_digest_151 (by decide) (fun c_17 => ?_) (fun c_17 => ?_)
                                · skip
                                  have c_17n : 10 ≤ w9 := (nI_leI (a := 10) (b := w9) (by omega) (by omega)).mp c_17
                                  have hq : w9 = 10 := by omega
                                  rw [hq] at hP hD
                                  have hP : va_P D vwCl (wR kB kI o a z (va_up g 41 (dg5 z r n sn pn 10)) r) H := hP
                                  have hD : va_D A (wR kB kI o a z (va_up g 41 (dg5 z r n sn pn 10)) r) := hD
                                  refine lv_aload_n (pc := 170) hx hb dX8_digest_170 rfl (lv_at hl 0 rfl) ?_
                                  refine fget (pc := 171) (v := .long (dg5 z r n sn pn 10)) hx hb hts hown hE hP fl_X8_280 0 rfl rfl dX8_digest_171 ?_
                                  rw [hQ]; exact W.lret (pc := 174) hx hb hr (fun t9 ht _ => ⟨⟨retL (rfl), by rw [ht]; exact hP⟩, hS.F ht⟩) hS.2.2 dX8_digest_174 hlocks
                                · skip
                                  have c_17n : ¬ 10 ≤ w9 := fun hh => c_17 ((nI_leI (a := 10) (b := w9) (by omega) (by omega)).mpr hh)
                                  refine lv_aload_n (pc := 154) hx hb dX8_digest_154 rfl (lv_at hl 0 rfl) ?_
                                  refine lv_aload_n (pc := 155) hx hb dX8_digest_155 rfl (lv_at hl 0 rfl) ?_
                                  refine lv_iload_n (pc := 156) hx hb dX8_digest_156 rfl (lv_at hl 1 rfl) ?_
                                  refine rV (pc := 157) (rest := [.ref o]) ⟨hx, hb, hml, hown, hts⟩ (k_X8_howMany (what := nI w9) (z := z) (g := (va_up g 41 (dg5 z r n sn pn w9))) (r := r) (hok := hok) (hn5 := hn5) (hz1 := hz1) (n := n)) cw_X8_275 ⟨(Nat.le_of_ble_eq_true rfl), (Nat.le_of_ble_eq_true rfl)⟩ hE hS hP rfl rfl rfl rfl hl.1 rfl (Nat.le_of_ble_eq_true rfl) dX8_digest_157 ⟨Nat.le_refl _, Nat.le_refl _⟩ ?_
                                  refine W.eq (g2 := F0 m 160 ls [.int (howS z r n (nI w9)), .ref o]) rfl ?_
                                  refine lv_i2l (pc := 160) (v := (howS z r n (nI w9)).toInt64) hx hb dX8_digest_160 rfl ?_
                                  refine wVa (pc := 161) (rest := []) ⟨hx, hb, hml, hown, hts⟩ (k_X8_mix (v := (howS z r n (nI w9)).toInt64) (z := z) (g := (va_up g 41 (dg5 z r n sn pn w9))) (r := r)) cw_X8_285 ⟨(Nat.le_of_ble_eq_true rfl), (Nat.le_of_ble_eq_true rfl)⟩ hE hP hD hS rfl rfl rfl rfl rfl hl.1 rfl (Nat.le_of_ble_eq_true rfl) dX8_digest_161 ⟨Nat.le_refl _, Nat.le_refl _⟩ (fun H locs hP hD hS => ?_)
                                  have hP : va_P D vwCl (wR kB kI o a z (va_up g 41 (31 * (dg5 z r n sn pn w9) + ((howS z r n (nI w9)).toInt64))) r) H := hP
                                  have hD : va_D A (wR kB kI o a z (va_up g 41 (31 * (dg5 z r n sn pn w9) + ((howS z r n (nI w9)).toInt64))) r) := hD
                                  refine W.eq (g2 := F0 m 164 ls []) rfl ?_
                                  have hP : va_P D vwCl (wR kB kI o a z (va_up g 41 (dg5 z r n sn pn (w9 + 1))) r) H := hP
                                  have hD : va_D A (wR kB kI o a z (va_up g 41 (dg5 z r n sn pn (w9 + 1))) r) := hD
                                  refine lv_iinc (pc := 164) (v := nI (w9 + 1)) (lv' := [(1, .int (nI (w9 + 1))), (0, .ref o)]) hx hb dX8_digest_164 hl (k := 1) rfl (nI_add (w9) 1) (by decide) rfl (fun ls hl => ?_)
                                  refine lv_goto (pc := 167) (tgt := 148) hx hb dX8_digest_167 (by decide) ?_
                                  exact ih_lp_16 (w9 + 1) (by omega) (by omega) _ _ hP hD hS ls (lv_sub hl [1, 0] rfl)
                            exact lp_16 _ 0 (Nat.lt_succ_self _) (by omega) _ _ hP hD hS ls (lv_sub hl [1, 0] rfl)
                          · skip
                            have c_15n : ¬ pn ≤ k := fun hh => c_15 ((nI_leI (a := pn) (b := k) (by omega) (by omega)).mpr hh)
                            refine lv_aload_n (pc := 129) hx hb dX8_digest_129 rfl (lv_at hl 0 rfl) ?_
                            refine lv_aload_n (pc := 130) hx hb dX8_digest_130 rfl (lv_at hl 0 rfl) ?_
                            refine fget (pc := 131) (v := .ref (a 15)) hx hb hts hown hE hP fl_X8_40 0 rfl rfl dX8_digest_131 ?_
                            refine lv_iload_n (pc := 134) hx hb dX8_digest_134 rfl (lv_at hl 1 rfl) ?_
                            refine aldB (pc := 135) (f := r 15) hx hb hE hP 11 rfl (k) (by omega) (by omega) dX8_digest_135 ?_
                            refine lv_i2l (pc := 136) (v := ((r 15) k).toInt64) hx hb dX8_digest_136 rfl ?_
                            refine wVa (pc := 137) (rest := []) ⟨hx, hb, hml, hown, hts⟩ (k_X8_mix (v := ((r 15) k).toInt64) (z := z) (g := (va_up g 41 (dg4 r n sn k))) (r := r)) cw_X8_285 ⟨(Nat.le_of_ble_eq_true rfl), (Nat.le_of_ble_eq_true rfl)⟩ hE hP hD hS rfl rfl rfl rfl rfl hl.1 rfl (Nat.le_of_ble_eq_true rfl) dX8_digest_137 ⟨Nat.le_refl _, Nat.le_refl _⟩ (fun H locs hP hD hS => ?_)
                            have hP : va_P D vwCl (wR kB kI o a z (va_up g 41 (31 * (dg4 r n sn k) + (((r 15) k).toInt64))) r) H := hP
                            have hD : va_D A (wR kB kI o a z (va_up g 41 (31 * (dg4 r n sn k) + (((r 15) k).toInt64))) r) := hD
                            refine W.eq (g2 := F0 m 140 ls []) rfl ?_
                            have hP : va_P D vwCl (wR kB kI o a z (va_up g 41 (dg4 r n sn (k + 1))) r) H := hP
                            have hD : va_D A (wR kB kI o a z (va_up g 41 (dg4 r n sn (k + 1))) r) := hD
                            refine lv_iinc (pc := 140) (v := nI (k + 1)) (lv' := [(1, .int (nI (k + 1))), (0, .ref o)]) hx hb dX8_digest_140 hl (k := 1) rfl (nI_add (k) 1) (by decide) rfl (fun ls hl => ?_)
                            refine lv_goto (pc := 143) (tgt := 121) hx hb dX8_digest_143 (by decide) ?_
                            exact ih_lp_14 (k + 1) (by omega) (by omega) _ _ hP hD hS ls (lv_sub hl [1, 0] rfl)
                      exact lp_14 _ 0 (Nat.lt_succ_self _) (by omega) _ _ hP hD hS ls (lv_sub hl [1, 0] rfl)
                    · skip
                      have c_13n : ¬ n ≤ k := fun hh => c_13 ((nI_leI (a := n) (b := k) (by omega) (by omega)).mpr hh)
                      refine lv_aload_n (pc := 103) hx hb dX8_digest_103 rfl (lv_at hl 0 rfl) ?_
                      refine lv_aload_n (pc := 104) hx hb dX8_digest_104 rfl (lv_at hl 0 rfl) ?_
                      refine lv_iload_n (pc := 105) hx hb dX8_digest_105 rfl (lv_at hl 1 rfl) ?_
                      refine rV (pc := 106) (rest := [.ref o]) ⟨hx, hb, hml, hown, hts⟩ (k_X8_rankNow (place := nI k) (z := z) (g := (va_up g 41 (dg3 r n sn k))) (r := r) (hok := hok) (hn5 := hn5) (hz1 := hz1) (n := n)) cw_X8_230 ⟨(Nat.le_of_ble_eq_true rfl), (Nat.le_of_ble_eq_true rfl)⟩ hE hS hP rfl rfl rfl rfl hl.1 rfl (Nat.le_of_ble_eq_true rfl) dX8_digest_106 ⟨Nat.le_refl _, Nat.le_refl _⟩ ?_
                      refine W.eq (g2 := F0 m 109 ls [.int (rankS r n (nI k)), .ref o]) rfl ?_
                      refine lv_i2l (pc := 109) (v := (rankS r n (nI k)).toInt64) hx hb dX8_digest_109 rfl ?_
                      refine wVa (pc := 110) (rest := []) ⟨hx, hb, hml, hown, hts⟩ (k_X8_mix (v := (rankS r n (nI k)).toInt64) (z := z) (g := (va_up g 41 (dg3 r n sn k))) (r := r)) cw_X8_285 ⟨(Nat.le_of_ble_eq_true rfl), (Nat.le_of_ble_eq_true rfl)⟩ hE hP hD hS rfl rfl rfl rfl rfl hl.1 rfl (Nat.le_of_ble_eq_true rfl) dX8_digest_110 ⟨Nat.le_refl _, Nat.le_refl _⟩ (fun H locs hP hD hS => ?_)
                      have hP : va_P D vwCl (wR kB kI o a z (va_up g 41 (31 * (dg3 r n sn k) + ((rankS r n (nI k)).toInt64))) r) H := hP
                      have hD : va_D A (wR kB kI o a z (va_up g 41 (31 * (dg3 r n sn k) + ((rankS r n (nI k)).toInt64))) r) := hD
                      refine W.eq (g2 := F0 m 113 ls []) rfl ?_
                      have hP : va_P D vwCl (wR kB kI o a z (va_up g 41 (dg3 r n sn (k + 1))) r) H := hP
                      have hD : va_D A (wR kB kI o a z (va_up g 41 (dg3 r n sn (k + 1))) r) := hD
                      refine lv_iinc (pc := 113) (v := nI (k + 1)) (lv' := [(1, .int (nI (k + 1))), (0, .ref o)]) hx hb dX8_digest_113 hl (k := 1) rfl (nI_add (k) 1) (by decide) rfl (fun ls hl => ?_)
                      refine lv_goto (pc := 116) (tgt := 95) hx hb dX8_digest_116 (by decide) ?_
                      exact ih_lp_12 (k + 1) (by omega) (by omega) _ _ hP hD hS ls (lv_sub hl [1, 0] rfl)
                exact lp_12 _ 0 (Nat.lt_succ_self _) (by omega) _ _ hP hD hS ls (lv_sub hl [1, 0] rfl)
              · skip
                have c_11n : ¬ n ≤ 0 := fun hh => c_11 ((nI_leI (a := n) (b := 0) (by omega) (by omega)).mpr hh)
                refine lv_iconst (pc := 63) (v := 0) hx hb dX8_digest_63 (by decide) ?_
                refine lv_istore_n (pc := 64) (lv' := [(2, .int 0), (0, .ref o), (1, .int (nI i))]) hx hb dX8_digest_64 rfl hl (by decide) rfl (fun ls hl => ?_)
                have lp_18 : ∀ (fuel : Nat) (w9 : Nat), 3 - w9 < fuel → (w9 ≤ 3) → ∀ (H : Heap) (locs : List Loc), va_P D vwCl (wR kB kI o a z (va_up g 41 (fH (fun w => nightS r i (nI w)) (dg2 r n sn i) w9)) r) H → va_D A (wR kB kI o a z (va_up g 41 (fH (fun w => nightS r i (nI w)) (dg2 r n sn i) w9)) r) → va_S A s.heap H locs → ∀ (ls : Array Slot), lv_has ls 3 [(0, .ref o), (1, .int (nI i)), (2, .int (nI w9))] → W p l e (rmO 9 202) s m args below meth c0 H locs 0 0 Q (F0 m 65 ls []) := by
                  intro fuel
                  induction fuel with
                  | zero => intro w9 hfuel; exact absurd hfuel (Nat.not_lt_zero _)
                  | succ fuel ih_lp_18 =>
                    intro w9 hfuel hw9 H locs hP hD hS ls hl
                    refine lv_iload_n (pc := 65) hx hb dX8_digest_65 rfl (lv_at hl 2 rfl) ?_
                    refine lv_iconst (pc := 66) (v := 3) hx hb dX8_digest_66 (by decide) ?_
                    refine lv_icmp_ge (pc := 67) (tgt := 87) hx hb dX8_digest_67 (by decide) (fun c_19 => ?_) (fun c_19 => ?_)
                    · skip
                      have c_19n : 3 ≤ w9 := (nI_leI (a := 3) (b := w9) (by omega) (by omega)).mp c_19
                      have hq : w9 = 3 := by omega
                      rw [hq] at hP hD
                      have hP : va_P D vwCl (wR kB kI o a z (va_up g 41 (dg2 r n sn (i + 1))) r) H := hP
                      have hD : va_D A (wR kB kI o a z (va_up g 41 (dg2 r n sn (i + 1))) r) := hD
                      refine lv_iinc (pc := 87) (v := nI (i + 1)) (lv' := [(1, .int (nI (i + 1))), (0, .ref o), (2, .int (nI w9))]) hx hb dX8_digest_87 hl (k := 1) rfl (nI_add (i) 1) (by decide) rfl (fun ls hl => ?_)
                      refine lv_goto (pc := 90) (tgt := 50) hx hb dX8_digest_90 (by decide) ?_
                      exact ih_lp_3 (i + 1) (by omega) (by omega) (by omega) _ _ hP hD hS ls (lv_sub hl [1, 0] rfl)
                    · skip
                      have c_19n : ¬ 3 ≤ w9 := fun hh => c_19 ((nI_leI (a := 3) (b := w9) (by omega) (by omega)).mpr hh)
                      refine lv_aload_n (pc := 70) hx hb dX8_digest_70 rfl (lv_at hl 0 rfl) ?_
                      refine lv_aload_n (pc := 71) hx hb dX8_digest_71 rfl (lv_at hl 0 rfl) ?_
                      refine lv_iload_n (pc := 72) hx hb dX8_digest_72 rfl (lv_at hl 1 rfl) ?_
                      refine lv_iload_n (pc := 73) hx hb dX8_digest_73 rfl (lv_at hl 2 rfl) ?_
                      refine rV (pc := 74) (rest := [.ref o]) ⟨hx, hb, hml, hown, hts⟩ (k_X8_nightNow (i := i) (what := nI w9) (z := z) (g := (va_up g 41 (fH (fun w => nightS r i (nI w)) (dg2 r n sn i) w9))) (r := r) (hok := hok) (hn5 := hn5) (hi := (by omega)) (n := n)) cw_X8_181 ⟨(Nat.le_of_ble_eq_true rfl), (Nat.le_of_ble_eq_true rfl)⟩ hE hS hP rfl rfl rfl rfl hl.1 rfl (Nat.le_of_ble_eq_true rfl) dX8_digest_74 ⟨Nat.le_refl _, Nat.le_refl _⟩ ?_
                      refine W.eq (g2 := F0 m 77 ls [.int (nightS r i (nI w9)), .ref o]) rfl ?_
                      refine lv_i2l (pc := 77) (v := (nightS r i (nI w9)).toInt64) hx hb dX8_digest_77 rfl ?_
                      refine wVa (pc := 78) (rest := []) ⟨hx, hb, hml, hown, hts⟩ (k_X8_mix (v := (nightS r i (nI w9)).toInt64) (z := z) (g := (va_up g 41 (fH (fun w => nightS r i (nI w)) (dg2 r n sn i) w9))) (r := r)) cw_X8_285 ⟨(Nat.le_of_ble_eq_true rfl), (Nat.le_of_ble_eq_true rfl)⟩ hE hP hD hS rfl rfl rfl rfl rfl hl.1 rfl (Nat.le_of_ble_eq_true rfl) dX8_digest_78 ⟨Nat.le_refl _, Nat.le_refl _⟩ (fun H locs hP hD hS => ?_)
                      have hP : va_P D vwCl (wR kB kI o a z (va_up g 41 (31 * (fH (fun w => nightS r i (nI w)) (dg2 r n sn i) w9) + ((nightS r i (nI w9)).toInt64))) r) H := hP
                      have hD : va_D A (wR kB kI o a z (va_up g 41 (31 * (fH (fun w => nightS r i (nI w)) (dg2 r n sn i) w9) + ((nightS r i (nI w9)).toInt64))) r) := hD
                      refine W.eq (g2 := F0 m 81 ls []) rfl ?_
                      have hP : va_P D vwCl (wR kB kI o a z (va_up g 41 (fH (fun w => nightS r i (nI w)) (dg2 r n sn i) (w9 + 1))) r) H := hP
                      have hD : va_D A (wR kB kI o a z (va_up g 41 (fH (fun w => nightS r i (nI w)) (dg2 r n sn i) (w9 + 1))) r) := hD
                      refine lv_iinc (pc := 81) (v := nI (w9 + 1)) (lv' := [(2, .int (nI (w9 + 1))), (0, .ref o), (1, .int (nI i))]) hx hb dX8_digest_81 hl (k := 2) rfl (nI_add (w9) 1) (by decide) rfl (fun ls hl => ?_)
                      refine lv_goto (pc := 84) (tgt := 65) hx hb dX8_digest_84 (by decide) ?_
                      exact ih_lp_18 (w9 + 1) (by omega) (by omega) _ _ hP hD hS ls (lv_sub hl [1, 2, 0] rfl)
                exact lp_18 _ 0 (Nat.lt_succ_self _) (by omega) _ _ hP hD hS ls (lv_sub hl [1, 2, 0] rfl)
        exact lp_3 _ 0 (Nat.lt_succ_self _) (by omega) (fun _ => rfl) _ _ hP hD hS ls (lv_sub hl [1, 0] rfl)
      · skip
        have c_2n : ¬ n ≤ k := fun hh => c_2 ((nI_leI (a := n) (b := k) (by omega) (by omega)).mpr hh)
        refine lv_iconst (pc := 17) (v := 0) hx hb dX8_digest_17 (by decide) ?_
        refine lv_istore_n (pc := 18) (lv' := [(2, .int 0), (0, .ref o), (1, .int (nI k))]) hx hb dX8_digest_18 rfl hl (by decide) rfl (fun ls hl => ?_)
        have lp_20 : ∀ (fuel : Nat) (w9 : Nat), 9 - w9 < fuel → (w9 ≤ 9) → ∀ (H : Heap) (locs : List Loc), va_P D vwCl (wR kB kI o a z (va_up g 41 (fH (fun w => titleS r sn k (nI w)) (dg1 r sn k) w9)) r) H → va_D A (wR kB kI o a z (va_up g 41 (fH (fun w => titleS r sn k (nI w)) (dg1 r sn k) w9)) r) → va_S A s.heap H locs → ∀ (ls : Array Slot), lv_has ls 3 [(0, .ref o), (1, .int (nI k)), (2, .int (nI w9))] → W p l e (rmO 9 202) s m args below meth c0 H locs 0 0 Q (F0 m 19 ls []) := by
          intro fuel
          induction fuel with
          | zero => intro w9 hfuel; exact absurd hfuel (Nat.not_lt_zero _)
          | succ fuel ih_lp_20 =>
            intro w9 hfuel hw9 H locs hP hD hS ls hl
            refine lv_iload_n (pc := 19) hx hb dX8_digest_19 rfl (lv_at hl 2 rfl) ?_
            refine lv_bipush (pc := 20) (v := 9) hx hb dX8_digest_20 (by decide) ?_
            refine lv_icmp_ge (pc := 22) (tgt := 42) hx hb dX8_digest_22 (by decide) (fun c_21 => ?_) (fun c_21 => ?_)
            · skip
              have c_21n : 9 ≤ w9 := (nI_leI (a := 9) (b := w9) (by omega) (by omega)).mp c_21
              have hq : w9 = 9 := by omega
              rw [hq] at hP hD
              have hP : va_P D vwCl (wR kB kI o a z (va_up g 41 (dg1 r sn (k + 1))) r) H := hP
              have hD : va_D A (wR kB kI o a z (va_up g 41 (dg1 r sn (k + 1))) r) := hD
              refine lv_iinc (pc := 42) (v := nI (k + 1)) (lv' := [(1, .int (nI (k + 1))), (0, .ref o), (2, .int (nI w9))]) hx hb dX8_digest_42 hl (k := 1) rfl (nI_add (k) 1) (by decide) rfl (fun ls hl => ?_)
              refine lv_goto (pc := 45) (tgt := 9) hx hb dX8_digest_45 (by decide) ?_
              exact ih_lp_1 (k + 1) (by omega) (by omega) _ _ hP hD hS ls (lv_sub hl [1, 0] rfl)
            · skip
              have c_21n : ¬ 9 ≤ w9 := fun hh => c_21 ((nI_leI (a := 9) (b := w9) (by omega) (by omega)).mpr hh)
              refine lv_aload_n (pc := 25) hx hb dX8_digest_25 rfl (lv_at hl 0 rfl) ?_
              refine lv_aload_n (pc := 26) hx hb dX8_digest_26 rfl (lv_at hl 0 rfl) ?_
              refine lv_iload_n (pc := 27) hx hb dX8_digest_27 rfl (lv_at hl 1 rfl) ?_
              refine lv_iload_n (pc := 28) hx hb dX8_digest_28 rfl (lv_at hl 2 rfl) ?_
              refine rV (pc := 29) (rest := [.ref o]) ⟨hx, hb, hml, hown, hts⟩ (k_X8_titleNow (k := k) (what := nI w9) (z := z) (g := (va_up g 41 (fH (fun w => titleS r sn k (nI w)) (dg1 r sn k) w9))) (r := r) (hz10 := hz10) (hsn := hsn) (hk := (by omega)) (sn := sn)) cw_X8_178 ⟨(Nat.le_of_ble_eq_true rfl), (Nat.le_of_ble_eq_true rfl)⟩ hE hS hP rfl rfl rfl rfl hl.1 rfl (Nat.le_of_ble_eq_true rfl) dX8_digest_29 ⟨Nat.le_refl _, Nat.le_refl _⟩ ?_
              refine W.eq (g2 := F0 m 32 ls [.int (titleS r sn k (nI w9)), .ref o]) rfl ?_
              refine lv_i2l (pc := 32) (v := (titleS r sn k (nI w9)).toInt64) hx hb dX8_digest_32 rfl ?_
              refine wVa (pc := 33) (rest := []) ⟨hx, hb, hml, hown, hts⟩ (k_X8_mix (v := (titleS r sn k (nI w9)).toInt64) (z := z) (g := (va_up g 41 (fH (fun w => titleS r sn k (nI w)) (dg1 r sn k) w9))) (r := r)) cw_X8_285 ⟨(Nat.le_of_ble_eq_true rfl), (Nat.le_of_ble_eq_true rfl)⟩ hE hP hD hS rfl rfl rfl rfl rfl hl.1 rfl (Nat.le_of_ble_eq_true rfl) dX8_digest_33 ⟨Nat.le_refl _, Nat.le_refl _⟩ (fun H locs hP hD hS => ?_)
              have hP : va_P D vwCl (wR kB kI o a z (va_up g 41 (31 * (fH (fun w => titleS r sn k (nI w)) (dg1 r sn k) w9) + ((titleS r sn k (nI w9)).toInt64))) r) H := hP
              have hD : va_D A (wR kB kI o a z (va_up g 41 (31 * (fH (fun w => titleS r sn k (nI w)) (dg1 r sn k) w9) + ((titleS r sn k (nI w9)).toInt64))) r) := hD
              refine W.eq (g2 := F0 m 36 ls []) rfl ?_
              have hP : va_P D vwCl (wR kB kI o a z (va_up g 41 (fH (fun w => titleS r sn k (nI w)) (dg1 r sn k) (w9 + 1))) r) H := hP
              have hD : va_D A (wR kB kI o a z (va_up g 41 (fH (fun w => titleS r sn k (nI w)) (dg1 r sn k) (w9 + 1))) r) := hD
              refine lv_iinc (pc := 36) (v := nI (w9 + 1)) (lv' := [(2, .int (nI (w9 + 1))), (0, .ref o), (1, .int (nI k))]) hx hb dX8_digest_36 hl (k := 2) rfl (nI_add (w9) 1) (by decide) rfl (fun ls hl => ?_)
              refine lv_goto (pc := 39) (tgt := 19) hx hb dX8_digest_39 (by decide) ?_
              exact ih_lp_20 (w9 + 1) (by omega) (by omega) _ _ hP hD hS ls (lv_sub hl [1, 2, 0] rfl)
        exact lp_20 _ 0 (Nat.lt_succ_self _) (by omega) _ _ hP hD hS ls (lv_sub hl [1, 2, 0] rfl)
  exact lp_1 _ 0 (Nat.lt_succ_self _) (by omega) _ _ hP hD hS ls (lv_sub hl [1, 0] rfl)
end
