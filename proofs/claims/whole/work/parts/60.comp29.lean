section
variable {l : Launch} {D : va_G} {kB kI kT : ClassId} {ks sk sv : Nat}
theorem dr_b {c r : Nat → Nat → Int32} {D8 P : Nat → Int32} (e2 : c 2 = r 2) (e3 : c 3 = r 3) (e4 : c 4 = r 4) (e5 : c 5 = r 5) (e6 : c 6 = r 6) (h8 : ∀ j, j < 12 → D8 j = P j) : cntP (fun j => 0 < brk (c 2) (c 3) (c 4) (c 5) (c 6) D8 j) 12 = brkN (va_up r 8 P) := by
  rw [e2, e3, e4, e5, e6]
  exact brkN_cg (r1 := va_up r 8 D8) (r2 := va_up r 8 P) rfl rfl rfl rfl rfl h8
theorem dr_e {c r : Nat → Nat → Int32} {D8 P : Nat → Int32} (e2 : c 2 = r 2) (e3 : c 3 = r 3) (e4 : c 4 = r 4) (e5 : c 5 = r 5) (e6 : c 6 = r 6) (e7 : c 7 = r 7) (h8 : ∀ j, j < 12 → D8 j = P j) : sumI (fun j => if brk (c 2) (c 3) (c 4) (c 5) (c 6) D8 j = 0 then sts (c 2) (c 7) D8 j else 0) 12 = ernS (va_up r 8 P) := by
  rw [e2, e3, e4, e5, e6, e7]
  exact ernS_cg (r1 := va_up r 8 D8) (r2 := va_up r 8 P) rfl rfl rfl rfl rfl rfl h8
theorem ov_in2 {f g h : Nat → Int32} {n : Nat} : ∀ j, j < n → ovN f h n j = ovN g h n j := fun j hj => by rw [ovN_in hj, ovN_in hj]
theorem is_2 {x : Int32} (h0 : ¬ x < 0) (h3 : x < 3) (n0 : ¬ x = 0) (n1 : ¬ x = 1) : x = 2 := by
  obtain ⟨j, hj, e⟩ := nI_of2 (M := 2) (n := 2) rfl h0 (lt_leN 2 (by omega) h3)
  match j, hj with
  | 0, _ => exact absurd e n0
  | 1, _ => exact absurd e n1
  | 2, _ => exact e
theorem bp_no {z : Nat → Int32} {r : Nat → Nat → Int32} {n f t : Nat} {what : Int32} (hf : f ≤ t) (ht : t < 12) (hw : ¬ what = 2) : bstPl z r n f t what = r 8 := by
  unfold bstPl
  rw [if_neg hw]
  exact fbR_0 (fun k hk => dkA_dark (by omega) hk)
theorem bp_yes {z : Nat → Int32} {c r : Nat → Nat → Int32} {n f t bw : Nat} {what ql qe : Int32} {so sq d8 : Nat → Int32} (hf : f ≤ t) (ht : t < 12) (hw : what = 2) (e8 : c 8 = r 8) (hO : bstOf z r n f t = (nI bw, ql, qe)) (hbw : bw < 100000) :
    ovN (c 8) (ovN sq (fbR (dkA (c 8) f so (t + 1 - f)) n (dkN (c 8) f (t + 1 - f)) (ovN d8 (c 8) 12) bw) 12) 12 = bstPl z r n f t what := by
  unfold bstPl
  rw [if_pos hw, hO, ix_nI (by omega), e8]
  show _ = fbR (dkA (r 8) f (r 21) (t + 1 - f)) n (dkN (r 8) f (t + 1 - f)) (r 8) bw
  funext j
  by_cases q : j < 12
  · rw [ovN_in q, ovN_in q]
    exact fbR_cg (fun k hk => dkA_cg hk) (fun i hi => ovN_in hi) j q
  · rw [ovN_out q]
    refine (fbR_out _ _ (fun k hk => ?_)).symm
    obtain ⟨i9, h1, h2⟩ := dkA_ok (pl := r 8) (f := f) (d := r 21) (j := t + 1 - f) (by omega) k hk
    rw [h2, ix_nI (by omega)]
    omega
set_option maxRecDepth 100000 in
set_option maxHeartbeats 4000000 in
theorem k_X7_drawn_s {b : Nat → Nat} {g : Nat → Int32} {cd : Nat → Int32} {so : Nat → Int32} {sq : Nat → Int32} {q : Nat → Int32} {x : Nat → Nat} {c : Nat → Nat → Int32} {v : Nat → Int32} {y : Nat → Nat} {c2 : Nat → Nat → Int32} {v2 : Nat → Int32} {pa : Nat → Nat} {d : Nat → Nat → Int32} {u : Nat → Int32} (times : Int32) (seed : Int32) (what : Int32) {nn : Nat} {sn : Nat} {pn : Nat} {h9 : Nat} {bt : Nat} {N9 : Nat} {z : Nat → Int32} {gg : Nat → Int64} {r : Nat → Nat → Int32} (hI : Inv nn sn pn h9 bt N9 g cd c v c2 v2 z r) (hN1 : N9 + 1 < 100000) : MX l yX7_drawn cX7_drawn 8 (some .int) 5 116 D kB kI kT ks sk sv [.ref (b 30), .int times, .int seed, .int what] (wC kI kT b g cd so sq q x c v y c2 v2 pa d u) (fun w w1 => SimP kI kT b x y pa (N9 + 1) (R_drawn z gg r nn times seed what) w w1) := by
  refine MX.go (by decide +kernel) (Nat.le_of_ble_eq_true rfl) ?_
  intro p e s m below meth c0 args Q ls A hQ hx hb hr hml hown hts hlocks hE hP hD hS hl
  have hl : lv_has ls 8 [(0, .ref (b 30)), (1, .int times), (2, .int seed), (3, .int what)] := hl
  have hown : s.vm.findClass RX7 = some m.cls := hown
  obtain ⟨hTi, hWg, hSeI, hPgI, hCt, hKp⟩ := hI
  have ⟨hv1, hz1, hn5, e2, e3, e4, e5, e6, e7, e8, hok, hC, hF⟩ := hTi
  have ⟨w50, w51, w52, w53, w57, w58, w59⟩ := hWg
  have ⟨hv10, hz10, hsn, hSe⟩ := hSeI
  have ⟨hg14, hz14, hpn, hPg⟩ := hPgI
  have ⟨hg0, hz0, hhN, hN, hg9, hz9, hbt⟩ := hCt
  have hcd : ∀ k, k < pn → inR (cd k) 32 126 := fun k hk => (hPg k hk).2
  refine lv_iload_n (pc := 0) hx hb dX7_drawn_0 rfl (lv_at hl 1 rfl) ?_
  refine lv_iconst (pc := 1) (v := 1) hx hb dX7_drawn_1 (by decide) ?_
  refine lv_icmp_lt (pc := 2) (tgt := 24) hx hb dX7_drawn_2 (by decide) (fun c_1 => ?_) (fun c_1 => ?_)
  · skip
    refine lv_bipush (pc := 24) (v := (-102)) hx hb dX7_drawn_24 (by decide) ?_
    have hR : R_drawn z gg r nn times seed what = ((-102), z, gg, r) := by rw [R_drawn, if_neg (fun q9 => absurd c_1 (Int32.not_lt.mpr q9.1.1))]
    rw [hQ]; exact W.iret (pc := 26) hx hb hr (fun t9 ht _ => ⟨⟨_, (wC kI kT b g cd so sq q x c v y c2 v2 pa d u), rfl, by rw [ht]; exact hP, ⟨nn, sn, pn, h9, bt, g, cd, so, sq, q, c, v, c2, v2, d, u, by rw [hR], rfl, by rw [hR]; exact ⟨hTi, hWg, hSeI, hPgI, ct_w hCt hN1, hKp⟩⟩, rfl⟩, hS.F ht⟩) hS.2.2 dX7_drawn_26 hlocks
  · skip
    refine lv_iload_n (pc := 5) hx hb dX7_drawn_5 rfl (lv_at hl 1 rfl) ?_
    refine lv_bipush (pc := 6) (v := 20) hx hb dX7_drawn_6 (by decide) ?_
    refine lv_icmp_gt (pc := 8) (tgt := 24) hx hb dX7_drawn_8 (by decide) (fun c_2 => ?_) (fun c_2 => ?_)
    · skip
      refine lv_bipush (pc := 24) (v := (-102)) hx hb dX7_drawn_24 (by decide) ?_
      have hR : R_drawn z gg r nn times seed what = ((-102), z, gg, r) := by rw [R_drawn, if_neg (fun q9 => absurd c_2 (Int32.not_lt.mpr q9.1.2))]
      rw [hQ]; exact W.iret (pc := 26) hx hb hr (fun t9 ht _ => ⟨⟨_, (wC kI kT b g cd so sq q x c v y c2 v2 pa d u), rfl, by rw [ht]; exact hP, ⟨nn, sn, pn, h9, bt, g, cd, so, sq, q, c, v, c2, v2, d, u, by rw [hR], rfl, by rw [hR]; exact ⟨hTi, hWg, hSeI, hPgI, ct_w hCt hN1, hKp⟩⟩, rfl⟩, hS.F ht⟩) hS.2.2 dX7_drawn_26 hlocks
    · skip
      refine lv_iload_n (pc := 11) hx hb dX7_drawn_11 rfl (lv_at hl 2 rfl) ?_
      refine lv_if_lt (pc := 12) (tgt := 24) hx hb dX7_drawn_12 (by decide) (fun c_3 => ?_) (fun c_3 => ?_)
      · skip
        refine lv_bipush (pc := 24) (v := (-102)) hx hb dX7_drawn_24 (by decide) ?_
        have hR : R_drawn z gg r nn times seed what = ((-102), z, gg, r) := by rw [R_drawn, if_neg (fun q9 => q9.2.1 c_3)]
        rw [hQ]; exact W.iret (pc := 26) hx hb hr (fun t9 ht _ => ⟨⟨_, (wC kI kT b g cd so sq q x c v y c2 v2 pa d u), rfl, by rw [ht]; exact hP, ⟨nn, sn, pn, h9, bt, g, cd, so, sq, q, c, v, c2, v2, d, u, by rw [hR], rfl, by rw [hR]; exact ⟨hTi, hWg, hSeI, hPgI, ct_w hCt hN1, hKp⟩⟩, rfl⟩, hS.F ht⟩) hS.2.2 dX7_drawn_26 hlocks
      · skip
        refine lv_iload_n (pc := 15) hx hb dX7_drawn_15 rfl (lv_at hl 3 rfl) ?_
        refine lv_if_lt (pc := 16) (tgt := 24) hx hb dX7_drawn_16 (by decide) (fun c_4 => ?_) (fun c_4 => ?_)
        · skip
          refine lv_bipush (pc := 24) (v := (-102)) hx hb dX7_drawn_24 (by decide) ?_
          have hR : R_drawn z gg r nn times seed what = ((-102), z, gg, r) := by rw [R_drawn, if_neg (fun q9 => absurd c_4 (Int32.not_lt.mpr q9.2.2.1))]
          rw [hQ]; exact W.iret (pc := 26) hx hb hr (fun t9 ht _ => ⟨⟨_, (wC kI kT b g cd so sq q x c v y c2 v2 pa d u), rfl, by rw [ht]; exact hP, ⟨nn, sn, pn, h9, bt, g, cd, so, sq, q, c, v, c2, v2, d, u, by rw [hR], rfl, by rw [hR]; exact ⟨hTi, hWg, hSeI, hPgI, ct_w hCt hN1, hKp⟩⟩, rfl⟩, hS.F ht⟩) hS.2.2 dX7_drawn_26 hlocks
        · skip
          refine lv_iload_n (pc := 19) hx hb dX7_drawn_19 rfl (lv_at hl 3 rfl) ?_
          refine lv_iconst (pc := 20) (v := 3) hx hb dX7_drawn_20 (by decide) ?_
          refine lv_icmp_lt (pc := 21) (tgt := 27) hx hb dX7_drawn_21 (by decide) (fun c_5 => ?_) (fun c_5 => ?_)
          · skip
            refine lv_aload_n (pc := 27) hx hb dX7_drawn_27 rfl (lv_at hl 0 rfl) ?_
            refine rV (pc := 28) (rest := []) ⟨hx, hb, hml, hown, hts⟩ (k_X7_hasHouse (b := b) (g := g) (cd := cd) (so := so) (sq := sq) (q := q) (x := x) (c := c) (v := v) (y := y) (c2 := c2) (v2 := v2) (pa := pa) (d := d) (u := u) (nn := nn) (hv1 := hv1) (hn5 := hn5)) cw_X7_93 ⟨(Nat.le_of_ble_eq_true rfl), (Nat.le_of_ble_eq_true rfl)⟩ hE hS hP rfl rfl rfl rfl hl.1 rfl (Nat.le_of_ble_eq_true rfl) dX7_drawn_28 ⟨Nat.le_refl _, Nat.le_refl _⟩ ?_
            refine W.eq (g2 := F0 m 31 ls [.int (bi (0 < nn))]) rfl ?_
            refine bif_ne (pc := 31) (tgt := 37) hx hb dX7_drawn_31 (by decide) (fun c_6 => ?_) (fun c_6 => ?_)
            · skip
              obtain ⟨tm, hi1, hi2, hxt⟩ := inR_nat3 ⟨Int32.not_lt.mp c_1, Int32.not_lt.mp c_2⟩
              obtain ⟨sd, hsd, hxs⟩ := nI_of c_3
              refine lv_iconst (pc := 37) (v := 0) hx hb dX7_drawn_37 (by decide) ?_
              refine lv_istore (pc := 38) (lv' := [(4, .int 0), (0, .ref (b 30)), (1, .int times), (2, .int seed), (3, .int what)]) hx hb dX7_drawn_38 hl (by decide) rfl (fun ls hl => ?_)
              refine lv_iconst (pc := 40) (v := 0) hx hb dX7_drawn_40 (by decide) ?_
              refine lv_istore (pc := 41) (lv' := [(5, .int 0), (4, .int 0), (0, .ref (b 30)), (1, .int times), (2, .int seed), (3, .int what)]) hx hb dX7_drawn_41 hl (by decide) rfl (fun ls hl => ?_)
              refine lv_iload_n (pc := 43) hx hb dX7_drawn_43 rfl (lv_at hl 4 rfl) ?_
              refine vEq (v := nI sd) hxs ?_
              refine lv_istore (pc := 44) (lv' := [(6, .int (nI sd)), (5, .int 0), (4, .int 0), (0, .ref (b 30)), (1, .int times), (2, .int seed), (3, .int what)]) hx hb dX7_drawn_44 hl (by decide) rfl (fun ls hl => ?_)
              refine lv_iconst (pc := 46) (v := 0) hx hb dX7_drawn_46 (by decide) ?_
              refine lv_istore (pc := 47) (lv' := [(7, .int 0), (6, .int (nI sd)), (5, .int 0), (4, .int 0), (0, .ref (b 30)), (1, .int times), (2, .int seed), (3, .int what)]) hx hb dX7_drawn_47 hl (by decide) rfl (fun ls hl => ?_)
              have lp_7 : ∀ (fuel : Nat) (k : Nat) (ds : Nat → Nat → Int32) (us : Nat → Int32), tm - k < fuel → (k ≤ tm) → ∀ (H : Heap) (locs : List Loc), va_P D vwCl (wC kI kT b g cd so sq q x c v y c2 v2 pa ds us) H → va_D A (wC kI kT b g cd so sq q x c v y c2 v2 pa ds us) → va_S A s.heap H locs → ∀ (ls : Array Slot), lv_has ls 8 [(0, .ref (b 30)), (1, .int times), (2, .int seed), (3, .int what), (4, .int (nI (dBr r nn sd k))), (5, .int (dEr r nn sd k)), (6, .int (nI (itN (12 * k) sd))), (7, .int (nI k))] → W p l e (rmO 5 116) s m args below meth c0 H locs 0 0 Q (F0 m 49 ls []) := by
                intro fuel
                induction fuel with
                | zero => intro k ds us hfuel; exact absurd hfuel (Nat.not_lt_zero _)
                | succ fuel ih_lp_7 =>
                  intro k ds us hfuel hk H locs hP hD hS ls hl
                  refine lv_iload (pc := 49) hx hb dX7_drawn_49 (lv_at hl 7 rfl) ?_
                  refine lv_iload_n (pc := 51) hx hb dX7_drawn_51 rfl (lv_at hl 1 rfl) ?_
                  refine vEq (v := nI tm) hxt ?_
                  refine lv_icmp_ge (pc := 52) (tgt := 96) hx hb dX7_drawn_52 (by decide) (fun c_8 => ?_) (fun c_8 => ?_)
                  · skip
                    have c_8n : tm ≤ k := (nI_leI (a := tm) (b := k) (by omega) (by omega)).mp c_8
                    refine lv_iload_n (pc := 96) hx hb dX7_drawn_96 rfl (lv_at hl 3 rfl) ?_
                    refine lv_if_ne (pc := 97) (tgt := 103) hx hb dX7_drawn_97 (by decide) (fun c_9 => ?_) (fun c_9 => ?_)
                    · skip
                      refine lv_iload_n (pc := 103) hx hb dX7_drawn_103 rfl (lv_at hl 3 rfl) ?_
                      refine lv_iconst (pc := 104) (v := 1) hx hb dX7_drawn_104 (by decide) ?_
                      refine lv_icmp_ne (pc := 105) (tgt := 113) hx hb dX7_drawn_105 (by decide) (fun c_10 => ?_) (fun c_10 => ?_)
                      · skip
                        refine lv_iload (pc := 113) hx hb dX7_drawn_113 (lv_at hl 6 rfl) ?_
                        have hktm : k = tm := by omega
                        have hR : R_drawn z gg r nn times seed what = (nI (itN (12 * k) sd), z, va_up gg 25 (lN (itN (12 * tm) sd)), va_up r 26 (ovN (r 26) (r 8) 12)) := by rw [R_drawn, if_pos ⟨⟨Int32.not_lt.mp c_1, Int32.not_lt.mp c_2⟩, c_3, ⟨Int32.not_lt.mp c_4, lt_leN 2 (by omega) c_5⟩⟩, if_neg (by omega), hxt, hxs, ix_nI (j := tm) (by omega), ix_nI (j := sd) (by omega), R_drawnNow, if_neg c_9, if_neg c_10, hktm]
                        rw [hQ]; exact W.iret (pc := 115) hx hb hr (fun t9 ht _ => ⟨⟨_, (wC kI kT b g cd so sq q x c v y c2 v2 pa ds us), rfl, by rw [ht]; exact hP, ⟨nn, sn, pn, h9, bt, g, cd, so, sq, q, c, v, c2, v2, ds, us, by rw [hR], rfl, by rw [hR]; exact ⟨hTi, hWg, hSeI, hPgI, ct_w hCt hN1, hKp⟩⟩, rfl⟩, hS.F ht⟩) hS.2.2 dX7_drawn_115 hlocks
                      · skip
                        refine lv_iload (pc := 108) hx hb dX7_drawn_108 (lv_at hl 5 rfl) ?_
                        refine lv_goto (pc := 110) (tgt := 115) hx hb dX7_drawn_110 (by decide) ?_
                        have hktm : k = tm := by omega
                        have hR : R_drawn z gg r nn times seed what = (dEr r nn sd k, z, va_up gg 25 (lN (itN (12 * tm) sd)), va_up r 26 (ovN (r 26) (r 8) 12)) := by rw [R_drawn, if_pos ⟨⟨Int32.not_lt.mp c_1, Int32.not_lt.mp c_2⟩, c_3, ⟨Int32.not_lt.mp c_4, lt_leN 2 (by omega) c_5⟩⟩, if_neg (by omega), hxt, hxs, ix_nI (j := tm) (by omega), ix_nI (j := sd) (by omega), R_drawnNow, if_neg c_9, if_pos c_10, hktm]
                        rw [hQ]; exact W.iret (pc := 115) hx hb hr (fun t9 ht _ => ⟨⟨_, (wC kI kT b g cd so sq q x c v y c2 v2 pa ds us), rfl, by rw [ht]; exact hP, ⟨nn, sn, pn, h9, bt, g, cd, so, sq, q, c, v, c2, v2, ds, us, by rw [hR], rfl, by rw [hR]; exact ⟨hTi, hWg, hSeI, hPgI, ct_w hCt hN1, hKp⟩⟩, rfl⟩, hS.F ht⟩) hS.2.2 dX7_drawn_115 hlocks
                    · skip
                      refine lv_iload (pc := 100) hx hb dX7_drawn_100 (lv_at hl 4 rfl) ?_
                      have hktm : k = tm := by omega
                      have hR : R_drawn z gg r nn times seed what = (nI (dBr r nn sd k), z, va_up gg 25 (lN (itN (12 * tm) sd)), va_up r 26 (ovN (r 26) (r 8) 12)) := by rw [R_drawn, if_pos ⟨⟨Int32.not_lt.mp c_1, Int32.not_lt.mp c_2⟩, c_3, ⟨Int32.not_lt.mp c_4, lt_leN 2 (by omega) c_5⟩⟩, if_neg (by omega), hxt, hxs, ix_nI (j := tm) (by omega), ix_nI (j := sd) (by omega), R_drawnNow, if_pos c_9, hktm]
                      rw [hQ]; exact W.iret (pc := 102) hx hb hr (fun t9 ht _ => ⟨⟨_, (wC kI kT b g cd so sq q x c v y c2 v2 pa ds us), rfl, by rw [ht]; exact hP, ⟨nn, sn, pn, h9, bt, g, cd, so, sq, q, c, v, c2, v2, ds, us, by rw [hR], rfl, by rw [hR]; exact ⟨hTi, hWg, hSeI, hPgI, ct_w hCt hN1, hKp⟩⟩, rfl⟩, hS.F ht⟩) hS.2.2 dX7_drawn_102 hlocks
                  · skip
                    have c_8n : ¬ tm ≤ k := fun hh => c_8 ((nI_leI (a := tm) (b := k) (by omega) (by omega)).mpr hh)
                    refine lv_aload_n (pc := 55) hx hb dX7_drawn_55 rfl (lv_at hl 0 rfl) ?_
                    refine fget (pc := 56) (v := .ref (pa 0)) hx hb hts hown hE hP fl_X7_35 0 rfl rfl dX7_drawn_56 ?_
                    refine lv_iload (pc := 59) hx hb dX7_drawn_59 (lv_at hl 6 rfl) ?_
                    refine wV (pc := 61) (rest := []) ⟨hx, hb, hml, hown, hts⟩ (k_X1_drawAll (sd := itN (12 * k) sd) (pa := pa) (d := ds) (u := us) (x := x) (n := v 1) (c := c) (nn := nn) (hn := hv1) (hn5 := hn5) (hsd := (itN_lt (by omega) _)) (hC := hC)) cw_X7_192 ⟨(Nat.le_of_ble_eq_true rfl), (Nat.le_of_ble_eq_true rfl)⟩ hE hP hD hS [42, 43, 44, 45, 46, 47, 48, 14, 15, 16, 17, 18, 19, 20] (by decide) rfl rfl rfl rfl rfl rfl hl.1 rfl (Nat.le_of_ble_eq_true rfl) dX7_drawn_61 ⟨Nat.le_refl _, Nat.le_refl _⟩ (fun H locs hP hD hS => ?_)
                    rw [sp_CSc] at hP hD
                    have hP : va_P D vwCl (wC kI kT b g cd so sq q x c v y c2 v2 pa (va_up (va_up (va_up (va_up (va_up (va_up ds 8 (ovN (ds 8) (dpl nn (itN (12 * k) sd)) 12)) 50 (ovN (ds 50) (brk (c 2) (c 3) (c 4) (c 5) (c 6) (ovN (ds 8) (dpl nn (itN (12 * k) sd)) 12)) 12)) 51 (ovN (ds 51) (sts (c 2) (c 7) (ovN (ds 8) (dpl nn (itN (12 * k) sd)) 12)) 12)) 52 (ovN (ds 52) (fun t => nI (nOf (ovN (ds 8) (dpl nn (itN (12 * k) sd)) 12) (nI t) 12)) 5)) 53 (ovN (ds 53) (fun t => sumI (fun j => if (ovN (ds 8) (dpl nn (itN (12 * k) sd)) 12) j = nI t ∧ brk (c 2) (c 3) (c 4) (c 5) (c 6) (ovN (ds 8) (dpl nn (itN (12 * k) sd)) 12) j = 0 then sts (c 2) (c 7) (ovN (ds 8) (dpl nn (itN (12 * k) sd)) 12) j else 0) 12) 5)) 54 (lstC (c 4) (ovN (ds 8) (dpl nn (itN (12 * k) sd)) 12) (ovN (ds 54) (fun _ => -1) 5) 12)) (va_up (va_up (va_up us 57 (nI (cntP (fun j => 0 < brk (c 2) (c 3) (c 4) (c 5) (c 6) (ovN (ds 8) (dpl nn (itN (12 * k) sd)) 12) j) 12))) 58 (nI (cntP (fun j => (ovN (ds 8) (dpl nn (itN (12 * k) sd)) 12) j = -1 ∨ 0 < brk (c 2) (c 3) (c 4) (c 5) (c 6) (ovN (ds 8) (dpl nn (itN (12 * k) sd)) 12) j) 12))) 59 (sumI (fun j => if brk (c 2) (c 3) (c 4) (c 5) (c 6) (ovN (ds 8) (dpl nn (itN (12 * k) sd)) 12) j = 0 then sts (c 2) (c 7) (ovN (ds 8) (dpl nn (itN (12 * k) sd)) 12) j else 0) 12))) H := hP
                    have hD : va_D A (wC kI kT b g cd so sq q x c v y c2 v2 pa (va_up (va_up (va_up (va_up (va_up (va_up ds 8 (ovN (ds 8) (dpl nn (itN (12 * k) sd)) 12)) 50 (ovN (ds 50) (brk (c 2) (c 3) (c 4) (c 5) (c 6) (ovN (ds 8) (dpl nn (itN (12 * k) sd)) 12)) 12)) 51 (ovN (ds 51) (sts (c 2) (c 7) (ovN (ds 8) (dpl nn (itN (12 * k) sd)) 12)) 12)) 52 (ovN (ds 52) (fun t => nI (nOf (ovN (ds 8) (dpl nn (itN (12 * k) sd)) 12) (nI t) 12)) 5)) 53 (ovN (ds 53) (fun t => sumI (fun j => if (ovN (ds 8) (dpl nn (itN (12 * k) sd)) 12) j = nI t ∧ brk (c 2) (c 3) (c 4) (c 5) (c 6) (ovN (ds 8) (dpl nn (itN (12 * k) sd)) 12) j = 0 then sts (c 2) (c 7) (ovN (ds 8) (dpl nn (itN (12 * k) sd)) 12) j else 0) 12) 5)) 54 (lstC (c 4) (ovN (ds 8) (dpl nn (itN (12 * k) sd)) 12) (ovN (ds 54) (fun _ => -1) 5) 12)) (va_up (va_up (va_up us 57 (nI (cntP (fun j => 0 < brk (c 2) (c 3) (c 4) (c 5) (c 6) (ovN (ds 8) (dpl nn (itN (12 * k) sd)) 12) j) 12))) 58 (nI (cntP (fun j => (ovN (ds 8) (dpl nn (itN (12 * k) sd)) 12) j = -1 ∨ 0 < brk (c 2) (c 3) (c 4) (c 5) (c 6) (ovN (ds 8) (dpl nn (itN (12 * k) sd)) 12) j) 12))) 59 (sumI (fun j => if brk (c 2) (c 3) (c 4) (c 5) (c 6) (ovN (ds 8) (dpl nn (itN (12 * k) sd)) 12) j = 0 then sts (c 2) (c 7) (ovN (ds 8) (dpl nn (itN (12 * k) sd)) 12) j else 0) 12))) := hD
                    refine W.eq (g2 := F0 m 64 ls [.int (nI (itN 12 (itN (12 * k) sd)))]) rfl ?_
                    obtain ⟨ds9, us9, hB8, hE8, hP, hD⟩ : ∃ (ds9 : Nat → Nat → Int32) (us9 : Nat → Int32), us9 57 = nI (brkN (dR r nn sd k)) ∧ us9 59 = ernS (dR r nn sd k) ∧ va_P D vwCl (wC kI kT b g cd so sq q x c v y c2 v2 pa ds9 us9) H ∧ va_D A (wC kI kT b g cd so sq q x c v y c2 v2 pa ds9 us9) := ⟨(va_up (va_up (va_up (va_up (va_up (va_up ds 8 (ovN (ds 8) (dpl nn (itN (12 * k) sd)) 12)) 50 (ovN (ds 50) (brk (c 2) (c 3) (c 4) (c 5) (c 6) (ovN (ds 8) (dpl nn (itN (12 * k) sd)) 12)) 12)) 51 (ovN (ds 51) (sts (c 2) (c 7) (ovN (ds 8) (dpl nn (itN (12 * k) sd)) 12)) 12)) 52 (ovN (ds 52) (fun t => nI (nOf (ovN (ds 8) (dpl nn (itN (12 * k) sd)) 12) (nI t) 12)) 5)) 53 (ovN (ds 53) (fun t => sumI (fun j => if (ovN (ds 8) (dpl nn (itN (12 * k) sd)) 12) j = nI t ∧ brk (c 2) (c 3) (c 4) (c 5) (c 6) (ovN (ds 8) (dpl nn (itN (12 * k) sd)) 12) j = 0 then sts (c 2) (c 7) (ovN (ds 8) (dpl nn (itN (12 * k) sd)) 12) j else 0) 12) 5)) 54 (lstC (c 4) (ovN (ds 8) (dpl nn (itN (12 * k) sd)) 12) (ovN (ds 54) (fun _ => -1) 5) 12)), (va_up (va_up (va_up us 57 (nI (cntP (fun j => 0 < brk (c 2) (c 3) (c 4) (c 5) (c 6) (ovN (ds 8) (dpl nn (itN (12 * k) sd)) 12) j) 12))) 58 (nI (cntP (fun j => (ovN (ds 8) (dpl nn (itN (12 * k) sd)) 12) j = -1 ∨ 0 < brk (c 2) (c 3) (c 4) (c 5) (c 6) (ovN (ds 8) (dpl nn (itN (12 * k) sd)) 12) j) 12))) 59 (sumI (fun j => if brk (c 2) (c 3) (c 4) (c 5) (c 6) (ovN (ds 8) (dpl nn (itN (12 * k) sd)) 12) j = 0 then sts (c 2) (c 7) (ovN (ds 8) (dpl nn (itN (12 * k) sd)) 12) j else 0) 12)), congrArg nI (dr_b e2 e3 e4 e5 e6 ov_in2), dr_e e2 e3 e4 e5 e6 e7 ov_in2, hP, hD⟩
                    refine vEq (v := nI (itN (12 * (k + 1)) sd)) (by rw [itN_add, show 12 * k + 12 = 12 * (k + 1) by omega]) ?_
                    refine lv_istore (pc := 64) (lv' := [(6, .int (nI (itN (12 * (k + 1)) sd))), (0, .ref (b 30)), (1, .int times), (2, .int seed), (3, .int what), (4, .int (nI (dBr r nn sd k))), (5, .int (dEr r nn sd k)), (7, .int (nI k))]) hx hb dX7_drawn_64 hl (by decide) rfl (fun ls hl => ?_)
                    refine lv_iload (pc := 66) hx hb dX7_drawn_66 (lv_at hl 5 rfl) ?_
                    refine lv_aload_n (pc := 68) hx hb dX7_drawn_68 rfl (lv_at hl 1 rfl) ?_
                    refine fget (pc := 69) (v := .ref (pa 0)) hx hb hts hown hE hP fl_X7_35 0 rfl rfl dX7_drawn_69 ?_
                    refine fget (pc := 72) (v := .int (us9 57)) hx hb hts hown hE hP fl_X7_136 42 rfl rfl dX7_drawn_72 ?_
                    refine vEq (v := nI (brkN (dR r nn sd k))) hB8 ?_
                    refine iaddV (pc := 75) (v := nI (dBr r nn sd (k + 1))) hx hb dX7_drawn_75 (nI_add (dBr r nn sd k) (brkN (dR r nn sd k))) ?_
                    refine lv_istore (pc := 76) (lv' := [(4, .int (nI (dBr r nn sd (k + 1)))), (6, .int (nI (itN (12 * (k + 1)) sd))), (0, .ref (b 30)), (1, .int times), (2, .int seed), (3, .int what), (5, .int (dEr r nn sd k)), (7, .int (nI k))]) hx hb dX7_drawn_76 hl (by decide) rfl (fun ls hl => ?_)
                    refine lv_iload (pc := 78) hx hb dX7_drawn_78 (lv_at hl 6 rfl) ?_
                    refine lv_aload_n (pc := 80) hx hb dX7_drawn_80 rfl (lv_at hl 2 rfl) ?_
                    refine fget (pc := 81) (v := .ref (pa 0)) hx hb hts hown hE hP fl_X7_35 0 rfl rfl dX7_drawn_81 ?_
                    refine fget (pc := 84) (v := .int (us9 59)) hx hb hts hown hE hP fl_X7_195 42 rfl rfl dX7_drawn_84 ?_
                    refine vEq (v := ernS (dR r nn sd k)) hE8 ?_
                    refine iaddV (pc := 87) (v := dEr r nn sd (k + 1)) hx hb dX7_drawn_87 rfl ?_
                    refine lv_istore (pc := 88) (lv' := [(5, .int (dEr r nn sd (k + 1))), (4, .int (nI (dBr r nn sd (k + 1)))), (6, .int (nI (itN (12 * (k + 1)) sd))), (0, .ref (b 30)), (1, .int times), (2, .int seed), (3, .int what), (7, .int (nI k))]) hx hb dX7_drawn_88 hl (by decide) rfl (fun ls hl => ?_)
                    refine lv_iinc (pc := 90) (v := nI (k + 1)) (lv' := [(7, .int (nI (k + 1))), (5, .int (dEr r nn sd (k + 1))), (4, .int (nI (dBr r nn sd (k + 1)))), (6, .int (nI (itN (12 * (k + 1)) sd))), (0, .ref (b 30)), (1, .int times), (2, .int seed), (3, .int what)]) hx hb dX7_drawn_90 hl (k := 7) rfl (nI_add (k) 1) (by decide) rfl (fun ls hl => ?_)
                    refine lv_goto (pc := 93) (tgt := 49) hx hb dX7_drawn_93 (by decide) ?_
                    exact ih_lp_7 (k + 1) ds9 us9 (by omega) (by omega) _ _ hP hD hS ls (lv_sub hl [4, 5, 6, 7, 2, 1, 3, 0] rfl)
              exact lp_7 _ 0 d u (Nat.lt_succ_self _) (by omega) _ _ hP hD hS ls (lv_sub hl [4, 5, 6, 7, 3, 2, 1, 0] rfl)
            · skip
              refine lv_bipush (pc := 34) (v := (-103)) hx hb dX7_drawn_34 (by decide) ?_
              have hR : R_drawn z gg r nn times seed what = ((-103), z, gg, r) := by rw [R_drawn, if_pos ⟨⟨Int32.not_lt.mp c_1, Int32.not_lt.mp c_2⟩, c_3, ⟨Int32.not_lt.mp c_4, lt_leN 2 (by omega) c_5⟩⟩, if_pos (by omega)]
              rw [hQ]; exact W.iret (pc := 36) hx hb hr (fun t9 ht _ => ⟨⟨_, (wC kI kT b g cd so sq q x c v y c2 v2 pa d u), rfl, by rw [ht]; exact hP, ⟨nn, sn, pn, h9, bt, g, cd, so, sq, q, c, v, c2, v2, d, u, by rw [hR], rfl, by rw [hR]; exact ⟨hTi, hWg, hSeI, hPgI, ct_w hCt hN1, hKp⟩⟩, rfl⟩, hS.F ht⟩) hS.2.2 dX7_drawn_36 hlocks
          · skip
            refine lv_bipush (pc := 24) (v := (-102)) hx hb dX7_drawn_24 (by decide) ?_
            have hR : R_drawn z gg r nn times seed what = ((-102), z, gg, r) := by rw [R_drawn, if_neg (fun q9 => c_5 (Int32.lt_of_le_of_lt q9.2.2.2 (by decide)))]
            rw [hQ]; exact W.iret (pc := 26) hx hb hr (fun t9 ht _ => ⟨⟨_, (wC kI kT b g cd so sq q x c v y c2 v2 pa d u), rfl, by rw [ht]; exact hP, ⟨nn, sn, pn, h9, bt, g, cd, so, sq, q, c, v, c2, v2, d, u, by rw [hR], rfl, by rw [hR]; exact ⟨hTi, hWg, hSeI, hPgI, ct_w hCt hN1, hKp⟩⟩, rfl⟩, hS.F ht⟩) hS.2.2 dX7_drawn_26 hlocks
end
