section
variable {l : Launch} {D : va_G} {kB kI kT : ClassId} {ks sk sv : Nat}
theorem gs_J0_38 : Cond.fieldLink RJ0 38 "java/lang/String" "COMPACT_STRINGS" "Z" ∈ GG := GG_at 287 (by decide +kernel) rfl
theorem gs_J0_15 : Cond.fieldLink RJ0 15 "java/lang/String" "coder" "B" ∈ GG := GG_at 1049 (by decide +kernel) rfl
theorem gs_J0_9 : Cond.fieldLink RJ0 9 "java/lang/String" "value" "[B" ∈ GG := GG_at 1050 (by decide +kernel) rfl
theorem gs_X7_241 : Cond.fieldLink RX7 241 "PlaySeason" "KINDS_IF_SO" "[I" ∈ GG := GG_at 486 (by decide +kernel) rfl
theorem rVs {p : Program} {e : Env} {R : Room} {s : State} {m : MethodId} {args : Array Value} {below : List Frame} {meth : Method} {c : Code} {H : Heap} {locs : List Loc} {cells slots : Nat} {Q : State → Prop} {own : String} {index : Nat} {y : MethodName} {bytes cc : ByteArray} {maxL nL n : Nat} {ret : Option FieldType} {fr lo : Nat} {As rest st0 : List Value} {pc : Nat} {ls : Array Slot} {A : Nat → Prop} {w : Option Value} (S : CallFix p m c cc nL s args GG own) (hM : MR l y bytes maxL ret fr lo D kB kI kT ks sk sv (.ref sk :: As) [] w) (cw : CWV own index y bytes maxL ret n) (hR : fr + 1 ≤ R.frames ∧ 8 + (maxL + 11) + lo ≤ R.locals) (hE : EN D kB kI kT ks sk sv A s) (hS : va_S A s.heap H locs)
    (hq : y.cls = "java/lang/String") (hn : As.length = n) (hsize : ls.size = nL) (hst : st0 = As.reverse ++ .ref sk :: rest) (hcat : (rest.map fun v => v.category).sum ≤ 8) (hdg : decode cc pc = .ok (.invokevirtual index, 3)) (hf : cells + 0 ≤ R.cells ∧ slots + 0 ≤ R.slots)
    (kk : W p l e R s m args below meth c H locs cells slots Q (F0 m (pc + 3) ls (w.toList ++ rest))) : W p l e R s m args below meth c H locs cells slots Q (F0 m pc ls st0) := by
  refine rdK (args' := (Value.ref sk :: As).toArray) (W.runV (C := y.cls) (n := n) S hM (cw.cw S.2.2.2.2 rfl rfl hR) ⟨PR_blind, ?_, fun U hU hW => ⟨rfl, hE.go hS hU hW (fun _ h => h.elim), wc0⟩⟩ rfl hn hsize hst (lv_room hcat) hdg hf) kk
  rw [hq]
  exact vk_recv (i := 0) hE.2.2.2.2.2.2.2 (by decide) hS
theorem enc8 {ch : Int32} (h0 : ¬ ch < 0) (h1 : ¬ 255 < ch) : ∃ n, n < 256 ∧ ch = nI n := by
  obtain ⟨j, hj, h2⟩ := nI_of2 (M := 255) (n := 255) rfl h0 (Int32.not_lt.mp h1)
  exact ⟨j, by omega, h2⟩
def ixF (b : Int32) : Int32 := if 116 = b then 0 else if 103 = b then 1 else if 102 = b then 2 else if 114 = b then 3 else if 100 = b then 4 else -1
theorem ix_kind : ∀ n, n < 256 → ixF (nI n).toInt8.toInt32 = kindBy (nI n) := by decide +kernel
def bc1 (x : Int32) : Int32 := x - ((x.toUInt32 >>> ((1 : Int32).toUInt32 &&& Int32.toUInt32 31)).toInt32 &&& 1431655765)
def bc2 (x : Int32) : Int32 := (x &&& 858993459) + ((x.toUInt32 >>> ((2 : Int32).toUInt32 &&& Int32.toUInt32 31)).toInt32 &&& 858993459)
def bc3 (x : Int32) : Int32 := (x + (x.toUInt32 >>> ((4 : Int32).toUInt32 &&& Int32.toUInt32 31)).toInt32) &&& 252645135
def bc4 (x : Int32) : Int32 := x + (x.toUInt32 >>> ((8 : Int32).toUInt32 &&& Int32.toUInt32 31)).toInt32
def bc5 (x : Int32) : Int32 := x + (x.toUInt32 >>> ((16 : Int32).toUInt32 &&& Int32.toUInt32 31)).toInt32
def bitC (x : Int32) : Int32 := bc5 (bc4 (bc3 (bc2 (bc1 x)))) &&& 63
set_option maxRecDepth 100000 in
set_option maxHeartbeats 4000000 in
theorem k_J0_coder : MR l yJ0_coder_7d493 cJ0_coder_7d493 1 (some .byte) 0 0 D kB kI kT ks sk sv [.ref sk] ([]) (some (.int 0)) := by
  refine MR.go (by decide +kernel) (Nat.le_of_ble_eq_true rfl) ?_
  intro p e s m below meth c0 args Q ls hQ hx hb hr hml hown hts hlocks hE hP hS hl
  have hl : lv_has ls 1 [(0, .ref sk)] := hl
  have hown : s.vm.findClass RJ0 = some m.cls := hown
  refine va_gets (pc := 0) hx hb hE.2.2.2.2.1 hS hown (hts _ gs_J0_38) (fun _ q => q) dJ0_coder_7d493_0 ?_
  refine lv_if_eq (pc := 3) (tgt := 13) hx hb dJ0_coder_7d493_3 (by decide) (fun c_1 => ?_) (fun c_1 => ?_)
  · exact absurd c_1 (by decide)
  · skip
    have c_1n : ¬ 1 = 0 := fun hh => c_1 ((nI_eq (a := 1) (b := 0) (by omega) (by omega)).mpr hh)
    refine lv_aload_n (pc := 6) hx hb dJ0_coder_7d493_6 rfl (lv_at hl 0 rfl) ?_
    refine vk_getf (pc := 7) hx hb (hE.2.2.2.2.2.2.2.1 0 (by decide)).2.1 hS hown (hts _ gs_J0_15) (fun _ q => q) dJ0_coder_7d493_7 ?_
    refine lv_goto (pc := 10) (tgt := 14) hx hb dJ0_coder_7d493_10 (by decide) ?_
    rw [hQ]; exact W.zret (pc := 14) hx hb hr rfl (fun t9 ht _ => ⟨retI (rfl), ht⟩) (fun _ h => nomatch h) dJ0_coder_7d493_14 hlocks
set_option maxRecDepth 100000 in
set_option maxHeartbeats 4000000 in
theorem k_J0_isLatin1 : MR l yJ0_isLatin1_aae02 cJ0_isLatin1_aae02 1 (some .boolean) 0 0 D kB kI kT ks sk sv [.ref sk] ([]) (some (.int 1)) := by
  refine MR.go (by decide +kernel) (Nat.le_of_ble_eq_true rfl) ?_
  intro p e s m below meth c0 args Q ls hQ hx hb hr hml hown hts hlocks hE hP hS hl
  have hl : lv_has ls 1 [(0, .ref sk)] := hl
  have hown : s.vm.findClass RJ0 = some m.cls := hown
  refine va_gets (pc := 0) hx hb hE.2.2.2.2.1 hS hown (hts _ gs_J0_38) (fun _ q => q) dJ0_isLatin1_aae02_0 ?_
  refine lv_if_eq (pc := 3) (tgt := 17) hx hb dJ0_isLatin1_aae02_3 (by decide) (fun c_1 => ?_) (fun c_1 => ?_)
  · exact absurd c_1 (by decide)
  · skip
    have c_1n : ¬ 1 = 0 := fun hh => c_1 ((nI_eq (a := 1) (b := 0) (by omega) (by omega)).mpr hh)
    refine lv_aload_n (pc := 6) hx hb dJ0_isLatin1_aae02_6 rfl (lv_at hl 0 rfl) ?_
    refine vk_getf (pc := 7) hx hb (hE.2.2.2.2.2.2.2.1 0 (by decide)).2.1 hS hown (hts _ gs_J0_15) (fun _ q => q) dJ0_isLatin1_aae02_7 ?_
    refine lv_if_ne (pc := 10) (tgt := 17) hx hb dJ0_isLatin1_aae02_10 (by decide) (fun c_2 => ?_) (fun c_2 => ?_)
    · exact absurd c_2 (by decide)
    · skip
      have c_2n : 0 = 0 := (nI_eq (a := 0) (b := 0) (by omega) (by omega)).mp c_2
      refine lv_iconst (pc := 13) (v := 1) hx hb dJ0_isLatin1_aae02_13 (by decide) ?_
      refine lv_goto (pc := 14) (tgt := 18) hx hb dJ0_isLatin1_aae02_14 (by decide) ?_
      rw [hQ]; exact W.zret (pc := 18) hx hb hr rfl (fun t9 ht _ => ⟨retI (rfl), ht⟩) (fun _ h => nomatch h) dJ0_isLatin1_aae02_18 hlocks
set_option maxRecDepth 100000 in
set_option maxHeartbeats 4000000 in
theorem k_J0_length : MR l yJ0_length_8abf5 cJ0_length_8abf5 1 (some .int) 1 20 D kB kI kT ks sk sv [.ref sk] ([]) (some (.int 5)) := by
  refine MR.go (by decide +kernel) (Nat.le_of_ble_eq_true rfl) ?_
  intro p e s m below meth c0 args Q ls hQ hx hb hr hml hown hts hlocks hE hP hS hl
  have hl : lv_has ls 1 [(0, .ref sk)] := hl
  have hown : s.vm.findClass RJ0 = some m.cls := hown
  refine lv_aload_n (pc := 0) hx hb dJ0_length_8abf5_0 rfl (lv_at hl 0 rfl) ?_
  refine vk_getf (pc := 1) hx hb (hE.2.2.2.2.2.2.2.1 0 (by decide)).2.2.1 hS hown (hts _ gs_J0_9) (fun _ q => q) dJ0_length_8abf5_1 ?_
  refine va_tlen (pc := 4) (v := 5) hx hb (hE.2.2.2.2.2.2.2.1 0 (by decide)).2.2.2 hS rfl dJ0_length_8abf5_4 ?_
  refine lv_aload_n (pc := 5) hx hb dJ0_length_8abf5_5 rfl (lv_at hl 0 rfl) ?_
  refine rVs (pc := 6) (rest := [.int 5]) ⟨hx, hb, hml, hown, hts⟩ (k_J0_coder ) cw_J0_335 ⟨(Nat.le_of_ble_eq_true rfl), (Nat.le_of_ble_eq_true rfl)⟩ hE hS rfl rfl hl.1 rfl (Nat.le_of_ble_eq_true rfl) dJ0_length_8abf5_6 ⟨Nat.le_refl _, Nat.le_refl _⟩ ?_
  refine W.eq (g2 := F0 m 9 ls [.int 0, .int 5]) rfl ?_
  refine lv_ishr (pc := 9) hx hb dJ0_length_8abf5_9 ?_
  rw [hQ]; exact W.iret (pc := 10) hx hb hr (fun t9 ht _ => ⟨retI (by decide), ht⟩) (fun _ h => nomatch h) dJ0_length_8abf5_10 hlocks
set_option maxRecDepth 100000 in
set_option maxHeartbeats 4000000 in
theorem k_J1_canEncode (ch : Int32) : MR l yJ1_canEncode_9a6ad cJ1_canEncode_9a6ad 1 (some .boolean) 0 0 D kB kI kT ks sk sv [.int ch] ([]) (some (.int (bi (¬ ch < 0 ∧ ¬ 255 < ch)))) := by
  refine MR.go (by decide +kernel) (Nat.le_of_ble_eq_true rfl) ?_
  intro p e s m below meth c0 args Q ls hQ hx hb hr hml hown hts hlocks hE hP hS hl
  have hl : lv_has ls 1 [(0, .int ch)] := hl
  have hown : s.vm.findClass RJ1 = some m.cls := hown
  refine lv_iload_n (pc := 0) hx hb dJ1_canEncode_9a6ad_0 rfl (lv_at hl 0 rfl) ?_
  refine lv_if_lt (pc := 1) (tgt := 15) hx hb dJ1_canEncode_9a6ad_1 (by decide) (fun c_1 => ?_) (fun c_1 => ?_)
  · skip
    refine lv_iconst (pc := 15) (v := 0) hx hb dJ1_canEncode_9a6ad_15 (by decide) ?_
    rw [hQ]; exact W.zret (pc := 16) hx hb hr rfl (fun t9 ht _ => ⟨retI (bi_f (fun q => q.1 c_1)), ht⟩) (fun _ h => nomatch h) dJ1_canEncode_9a6ad_16 hlocks
  · skip
    refine lv_iload_n (pc := 4) hx hb dJ1_canEncode_9a6ad_4 rfl (lv_at hl 0 rfl) ?_
    refine lv_sipush (pc := 5) (v := 255) hx hb dJ1_canEncode_9a6ad_5 (by decide) ?_
    refine lv_icmp_gt (pc := 8) (tgt := 15) hx hb dJ1_canEncode_9a6ad_8 (by decide) (fun c_2 => ?_) (fun c_2 => ?_)
    · skip
      refine lv_iconst (pc := 15) (v := 0) hx hb dJ1_canEncode_9a6ad_15 (by decide) ?_
      rw [hQ]; exact W.zret (pc := 16) hx hb hr rfl (fun t9 ht _ => ⟨retI (bi_f (fun q => q.2 c_2)), ht⟩) (fun _ h => nomatch h) dJ1_canEncode_9a6ad_16 hlocks
    · skip
      refine lv_iconst (pc := 11) (v := 1) hx hb dJ1_canEncode_9a6ad_11 (by decide) ?_
      refine lv_goto (pc := 12) (tgt := 16) hx hb dJ1_canEncode_9a6ad_12 (by decide) ?_
      rw [hQ]; exact W.zret (pc := 16) hx hb hr rfl (fun t9 ht _ => ⟨retI (bi_t ⟨c_1, c_2⟩), ht⟩) (fun _ h => nomatch h) dJ1_canEncode_9a6ad_16 hlocks
set_option maxRecDepth 100000 in
set_option maxHeartbeats 4000000 in
theorem k_J1_indexOfChar (ch : Int32) (hc0 : ¬ ch < 0) (hc1 : ¬ 255 < ch) : MR l yJ1_indexOfChar_4cfef cJ1_indexOfChar_4cfef 6 (some .int) 0 0 D kB kI kT ks sk sv [.ref sv, .int ch, .int 0, .int 5] ([]) (some (.int (kindBy ch))) := by
  refine MR.go (by decide +kernel) (Nat.le_of_ble_eq_true rfl) ?_
  intro p e s m below meth c0 args Q ls hQ hx hb hr hml hown hts hlocks hE hP hS hl
  have hl : lv_has ls 6 [(0, .ref sv), (1, .int ch), (2, .int 0), (3, .int 5)] := hl
  have hown : s.vm.findClass RJ1 = some m.cls := hown
  refine lv_iload_n (pc := 0) hx hb dJ1_indexOfChar_4cfef_0 rfl (lv_at hl 1 rfl) ?_
  refine lv_i2b (pc := 1) (v := ch.toInt8.toInt32) hx hb dJ1_indexOfChar_4cfef_1 rfl ?_
  refine lv_istore (pc := 2) (lv' := [(4, .int ch.toInt8.toInt32), (0, .ref sv), (1, .int ch), (2, .int 0), (3, .int 5)]) hx hb dJ1_indexOfChar_4cfef_2 hl (by decide) rfl (fun ls hl => ?_)
  refine lv_iload_n (pc := 4) hx hb dJ1_indexOfChar_4cfef_4 rfl (lv_at hl 3 rfl) ?_
  refine lv_istore (pc := 5) (lv' := [(5, .int 0), (4, .int ch.toInt8.toInt32), (0, .ref sv), (1, .int ch), (2, .int 0), (3, .int 5)]) hx hb dJ1_indexOfChar_4cfef_5 hl (by decide) rfl (fun ls hl => ?_)
  refine lv_iload (pc := 7) hx hb dJ1_indexOfChar_4cfef_7 (lv_at hl 0 rfl) ?_
  refine lv_iload_n (pc := 9) hx hb dJ1_indexOfChar_4cfef_9 rfl (lv_at hl 5 rfl) ?_
  refine lv_icmp_ge (pc := 10) (tgt := 31) hx hb dJ1_indexOfChar_4cfef_10 (by decide) (fun c_1 => ?_) (fun c_1 => ?_)
  · exact absurd c_1 (by decide)
  · skip
    have c_1n : ¬ 5 ≤ 0 := fun hh => c_1 ((nI_leI (a := 5) (b := 0) (by omega) (by omega)).mpr hh)
    refine lv_aload_n (pc := 13) hx hb dJ1_indexOfChar_4cfef_13 rfl (lv_at hl 2 rfl) ?_
    refine lv_iload (pc := 14) hx hb dJ1_indexOfChar_4cfef_14 (lv_at hl 0 rfl) ?_
    refine va_tb (pc := 16) hx hb (hE.2.2.2.2.2.2.2.1 0 (by decide)).2.2.2 hS (i := 0) (v := .int 116) (by unfold vp_in; decide) rfl dJ1_indexOfChar_4cfef_16 ?_
    refine lv_iload (pc := 17) hx hb dJ1_indexOfChar_4cfef_17 (lv_at hl 1 rfl) ?_
    refine lv_icmp_ne (pc := 19) (tgt := 25) hx hb dJ1_indexOfChar_4cfef_19 (by decide) (fun c_2 => ?_) (fun c_2 => ?_)
    · skip
      refine lv_iinc (pc := 25) (v := 1) (lv' := [(5, .int 1), (4, .int ch.toInt8.toInt32), (0, .ref sv), (1, .int ch), (2, .int 0), (3, .int 5)]) hx hb dJ1_indexOfChar_4cfef_25 hl (k := 0) rfl (by decide) (by decide) rfl (fun ls hl => ?_)
      refine lv_goto (pc := 28) (tgt := 7) hx hb dJ1_indexOfChar_4cfef_28 (by decide) ?_
      refine lv_iload (pc := 7) hx hb dJ1_indexOfChar_4cfef_7 (lv_at hl 0 rfl) ?_
      refine lv_iload_n (pc := 9) hx hb dJ1_indexOfChar_4cfef_9 rfl (lv_at hl 5 rfl) ?_
      refine lv_icmp_ge (pc := 10) (tgt := 31) hx hb dJ1_indexOfChar_4cfef_10 (by decide) (fun c_3 => ?_) (fun c_3 => ?_)
      · exact absurd c_3 (by decide)
      · skip
        have c_3n : ¬ 5 ≤ 1 := fun hh => c_3 ((nI_leI (a := 5) (b := 1) (by omega) (by omega)).mpr hh)
        refine lv_aload_n (pc := 13) hx hb dJ1_indexOfChar_4cfef_13 rfl (lv_at hl 2 rfl) ?_
        refine lv_iload (pc := 14) hx hb dJ1_indexOfChar_4cfef_14 (lv_at hl 0 rfl) ?_
        refine va_tb (pc := 16) hx hb (hE.2.2.2.2.2.2.2.1 0 (by decide)).2.2.2 hS (i := 1) (v := .int 103) (by unfold vp_in; decide) rfl dJ1_indexOfChar_4cfef_16 ?_
        refine lv_iload (pc := 17) hx hb dJ1_indexOfChar_4cfef_17 (lv_at hl 1 rfl) ?_
        refine lv_icmp_ne (pc := 19) (tgt := 25) hx hb dJ1_indexOfChar_4cfef_19 (by decide) (fun c_4 => ?_) (fun c_4 => ?_)
        · skip
          refine lv_iinc (pc := 25) (v := 2) (lv' := [(5, .int 2), (4, .int ch.toInt8.toInt32), (0, .ref sv), (1, .int ch), (2, .int 0), (3, .int 5)]) hx hb dJ1_indexOfChar_4cfef_25 hl (k := 0) rfl (by decide) (by decide) rfl (fun ls hl => ?_)
          refine lv_goto (pc := 28) (tgt := 7) hx hb dJ1_indexOfChar_4cfef_28 (by decide) ?_
          refine lv_iload (pc := 7) hx hb dJ1_indexOfChar_4cfef_7 (lv_at hl 0 rfl) ?_
          refine lv_iload_n (pc := 9) hx hb dJ1_indexOfChar_4cfef_9 rfl (lv_at hl 5 rfl) ?_
          refine lv_icmp_ge (pc := 10) (tgt := 31) hx hb dJ1_indexOfChar_4cfef_10 (by decide) (fun c_5 => ?_) (fun c_5 => ?_)
          · exact absurd c_5 (by decide)
          · skip
            have c_5n : ¬ 5 ≤ 2 := fun hh => c_5 ((nI_leI (a := 5) (b := 2) (by omega) (by omega)).mpr hh)
            refine lv_aload_n (pc := 13) hx hb dJ1_indexOfChar_4cfef_13 rfl (lv_at hl 2 rfl) ?_
            refine lv_iload (pc := 14) hx hb dJ1_indexOfChar_4cfef_14 (lv_at hl 0 rfl) ?_
            refine va_tb (pc := 16) hx hb (hE.2.2.2.2.2.2.2.1 0 (by decide)).2.2.2 hS (i := 2) (v := .int 102) (by unfold vp_in; decide) rfl dJ1_indexOfChar_4cfef_16 ?_
            refine lv_iload (pc := 17) hx hb dJ1_indexOfChar_4cfef_17 (lv_at hl 1 rfl) ?_
            refine lv_icmp_ne (pc := 19) (tgt := 25) hx hb dJ1_indexOfChar_4cfef_19 (by decide) (fun c_6 => ?_) (fun c_6 => ?_)
            · skip
              refine lv_iinc (pc := 25) (v := 3) (lv' := [(5, .int 3), (4, .int ch.toInt8.toInt32), (0, .ref sv), (1, .int ch), (2, .int 0), (3, .int 5)]) hx hb dJ1_indexOfChar_4cfef_25 hl (k := 0) rfl (by decide) (by decide) rfl (fun ls hl => ?_)
              refine lv_goto (pc := 28) (tgt := 7) hx hb dJ1_indexOfChar_4cfef_28 (by decide) ?_
              refine lv_iload (pc := 7) hx hb dJ1_indexOfChar_4cfef_7 (lv_at hl 0 rfl) ?_
              refine lv_iload_n (pc := 9) hx hb dJ1_indexOfChar_4cfef_9 rfl (lv_at hl 5 rfl) ?_
              refine lv_icmp_ge (pc := 10) (tgt := 31) hx hb dJ1_indexOfChar_4cfef_10 (by decide) (fun c_7 => ?_) (fun c_7 => ?_)
              · exact absurd c_7 (by decide)
              · skip
                have c_7n : ¬ 5 ≤ 3 := fun hh => c_7 ((nI_leI (a := 5) (b := 3) (by omega) (by omega)).mpr hh)
                refine lv_aload_n (pc := 13) hx hb dJ1_indexOfChar_4cfef_13 rfl (lv_at hl 2 rfl) ?_
                refine lv_iload (pc := 14) hx hb dJ1_indexOfChar_4cfef_14 (lv_at hl 0 rfl) ?_
                refine va_tb (pc := 16) hx hb (hE.2.2.2.2.2.2.2.1 0 (by decide)).2.2.2 hS (i := 3) (v := .int 114) (by unfold vp_in; decide) rfl dJ1_indexOfChar_4cfef_16 ?_
                refine lv_iload (pc := 17) hx hb dJ1_indexOfChar_4cfef_17 (lv_at hl 1 rfl) ?_
                refine lv_icmp_ne (pc := 19) (tgt := 25) hx hb dJ1_indexOfChar_4cfef_19 (by decide) (fun c_8 => ?_) (fun c_8 => ?_)
                · skip
                  refine lv_iinc (pc := 25) (v := 4) (lv' := [(5, .int 4), (4, .int ch.toInt8.toInt32), (0, .ref sv), (1, .int ch), (2, .int 0), (3, .int 5)]) hx hb dJ1_indexOfChar_4cfef_25 hl (k := 0) rfl (by decide) (by decide) rfl (fun ls hl => ?_)
                  refine lv_goto (pc := 28) (tgt := 7) hx hb dJ1_indexOfChar_4cfef_28 (by decide) ?_
                  refine lv_iload (pc := 7) hx hb dJ1_indexOfChar_4cfef_7 (lv_at hl 0 rfl) ?_
                  refine lv_iload_n (pc := 9) hx hb dJ1_indexOfChar_4cfef_9 rfl (lv_at hl 5 rfl) ?_
                  refine lv_icmp_ge (pc := 10) (tgt := 31) hx hb dJ1_indexOfChar_4cfef_10 (by decide) (fun c_9 => ?_) (fun c_9 => ?_)
                  · exact absurd c_9 (by decide)
                  · skip
                    have c_9n : ¬ 5 ≤ 4 := fun hh => c_9 ((nI_leI (a := 5) (b := 4) (by omega) (by omega)).mpr hh)
                    refine lv_aload_n (pc := 13) hx hb dJ1_indexOfChar_4cfef_13 rfl (lv_at hl 2 rfl) ?_
                    refine lv_iload (pc := 14) hx hb dJ1_indexOfChar_4cfef_14 (lv_at hl 0 rfl) ?_
                    refine va_tb (pc := 16) hx hb (hE.2.2.2.2.2.2.2.1 0 (by decide)).2.2.2 hS (i := 4) (v := .int 100) (by unfold vp_in; decide) rfl dJ1_indexOfChar_4cfef_16 ?_
                    refine lv_iload (pc := 17) hx hb dJ1_indexOfChar_4cfef_17 (lv_at hl 1 rfl) ?_
                    refine lv_icmp_ne (pc := 19) (tgt := 25) hx hb dJ1_indexOfChar_4cfef_19 (by decide) (fun c_10 => ?_) (fun c_10 => ?_)
                    · skip
                      refine lv_iinc (pc := 25) (v := 5) (lv' := [(5, .int 5), (4, .int ch.toInt8.toInt32), (0, .ref sv), (1, .int ch), (2, .int 0), (3, .int 5)]) hx hb dJ1_indexOfChar_4cfef_25 hl (k := 0) rfl (by decide) (by decide) rfl (fun ls hl => ?_)
                      refine lv_goto (pc := 28) (tgt := 7) hx hb dJ1_indexOfChar_4cfef_28 (by decide) ?_
                      refine lv_iload (pc := 7) hx hb dJ1_indexOfChar_4cfef_7 (lv_at hl 0 rfl) ?_
                      refine lv_iload_n (pc := 9) hx hb dJ1_indexOfChar_4cfef_9 rfl (lv_at hl 5 rfl) ?_
                      refine lv_icmp_ge (pc := 10) (tgt := 31) hx hb dJ1_indexOfChar_4cfef_10 (by decide) (fun c_11 => ?_) (fun c_11 => ?_)
                      · skip
                        have c_11n : 5 ≤ 5 := (nI_leI (a := 5) (b := 5) (by omega) (by omega)).mp c_11
                        refine lv_iconst (pc := 31) (v := (-1)) hx hb dJ1_indexOfChar_4cfef_31 (by decide) ?_
                        rw [hQ]; exact W.iret (pc := 32) hx hb hr (fun t9 ht _ => ⟨retI (by obtain ⟨n9, h9, e9⟩ := enc8 hc0 hc1; rw [e9, ← ix_kind n9 h9, ← e9]; unfold ixF; rw [if_neg c_2, if_neg c_4, if_neg c_6, if_neg c_8, if_neg c_10]), ht⟩) (fun _ h => nomatch h) dJ1_indexOfChar_4cfef_32 hlocks
                      · exact (c_11 (by decide)).elim
                    · skip
                      refine lv_iload (pc := 22) hx hb dJ1_indexOfChar_4cfef_22 (lv_at hl 0 rfl) ?_
                      rw [hQ]; exact W.iret (pc := 24) hx hb hr (fun t9 ht _ => ⟨retI (by obtain ⟨n9, h9, e9⟩ := enc8 hc0 hc1; rw [e9, ← ix_kind n9 h9, ← e9]; unfold ixF; rw [if_neg c_2, if_neg c_4, if_neg c_6, if_neg c_8, if_pos c_10]), ht⟩) (fun _ h => nomatch h) dJ1_indexOfChar_4cfef_24 hlocks
                · skip
                  refine lv_iload (pc := 22) hx hb dJ1_indexOfChar_4cfef_22 (lv_at hl 0 rfl) ?_
                  rw [hQ]; exact W.iret (pc := 24) hx hb hr (fun t9 ht _ => ⟨retI (by obtain ⟨n9, h9, e9⟩ := enc8 hc0 hc1; rw [e9, ← ix_kind n9 h9, ← e9]; unfold ixF; rw [if_neg c_2, if_neg c_4, if_neg c_6, if_pos c_8]), ht⟩) (fun _ h => nomatch h) dJ1_indexOfChar_4cfef_24 hlocks
            · skip
              refine lv_iload (pc := 22) hx hb dJ1_indexOfChar_4cfef_22 (lv_at hl 0 rfl) ?_
              rw [hQ]; exact W.iret (pc := 24) hx hb hr (fun t9 ht _ => ⟨retI (by obtain ⟨n9, h9, e9⟩ := enc8 hc0 hc1; rw [e9, ← ix_kind n9 h9, ← e9]; unfold ixF; rw [if_neg c_2, if_neg c_4, if_pos c_6]), ht⟩) (fun _ h => nomatch h) dJ1_indexOfChar_4cfef_24 hlocks
        · skip
          refine lv_iload (pc := 22) hx hb dJ1_indexOfChar_4cfef_22 (lv_at hl 0 rfl) ?_
          rw [hQ]; exact W.iret (pc := 24) hx hb hr (fun t9 ht _ => ⟨retI (by obtain ⟨n9, h9, e9⟩ := enc8 hc0 hc1; rw [e9, ← ix_kind n9 h9, ← e9]; unfold ixF; rw [if_neg c_2, if_pos c_4]), ht⟩) (fun _ h => nomatch h) dJ1_indexOfChar_4cfef_24 hlocks
    · skip
      refine lv_iload (pc := 22) hx hb dJ1_indexOfChar_4cfef_22 (lv_at hl 0 rfl) ?_
      rw [hQ]; exact W.iret (pc := 24) hx hb hr (fun t9 ht _ => ⟨retI (by obtain ⟨n9, h9, e9⟩ := enc8 hc0 hc1; rw [e9, ← ix_kind n9 h9, ← e9]; unfold ixF; rw [if_pos c_2]), ht⟩) (fun _ h => nomatch h) dJ1_indexOfChar_4cfef_24 hlocks
set_option maxRecDepth 100000 in
set_option maxHeartbeats 4000000 in
theorem k_J1_indexOf (ch : Int32) : MR l yJ1_indexOf_4cfef cJ1_indexOf_4cfef 4 (some .int) 1 40 D kB kI kT ks sk sv [.ref sv, .int ch, .int 0, .int 5] ([]) (some (.int (kindBy ch))) := by
  refine MR.go (by decide +kernel) (Nat.le_of_ble_eq_true rfl) ?_
  intro p e s m below meth c0 args Q ls hQ hx hb hr hml hown hts hlocks hE hP hS hl
  have hl : lv_has ls 4 [(0, .ref sv), (1, .int ch), (2, .int 0), (3, .int 5)] := hl
  have hown : s.vm.findClass RJ1 = some m.cls := hown
  refine lv_iload_n (pc := 0) hx hb dJ1_indexOf_4cfef_0 rfl (lv_at hl 1 rfl) ?_
  refine rS (pc := 1) (rest := []) ⟨hx, hb, hml, hown, hts⟩ (k_J1_canEncode (ch := ch)) cw_J1_88 ⟨(Nat.le_of_ble_eq_true rfl), (Nat.le_of_ble_eq_true rfl)⟩ hE hS wc0 rfl hl.1 rfl (Nat.le_of_ble_eq_true rfl) dJ1_indexOf_4cfef_1 ⟨Nat.le_refl _, Nat.le_refl _⟩ ?_
  refine W.eq (g2 := F0 m 4 ls [.int (bi (¬ ch < 0 ∧ ¬ 255 < ch))]) rfl ?_
  refine bif_ne (pc := 4) (tgt := 9) hx hb dJ1_indexOf_4cfef_4 (by decide) (fun c_1 => ?_) (fun c_1 => ?_)
  · skip
    refine lv_iload_n (pc := 9) hx hb dJ1_indexOf_4cfef_9 rfl (lv_at hl 2 rfl) ?_
    refine lv_iconst (pc := 10) (v := 0) hx hb dJ1_indexOf_4cfef_10 (by decide) ?_
    refine va_mmax (pc := 11) (x := 0) (y := 0) hx hb (hml.trans hl.1.symm) hown (hts _ cw_J1_92.1.1) (hts _ cw_J1_92.1.2.1) (hts _ cw_J1_92.1.2.2.1) (hts _ cw_J1_92.1.2.2.2) (Nat.le_of_ble_eq_true rfl) (Nat.le_of_ble_eq_true rfl) (Nat.le_refl _) (Nat.le_refl _) dJ1_indexOf_4cfef_11 ?_
    refine vEq (v := 0) (by decide) ?_
    refine lv_istore_n (pc := 14) (lv' := [(2, .int 0), (0, .ref sv), (1, .int ch), (3, .int 5)]) hx hb dJ1_indexOf_4cfef_14 rfl hl (by decide) rfl (fun ls hl => ?_)
    refine lv_iload_n (pc := 15) hx hb dJ1_indexOf_4cfef_15 rfl (lv_at hl 3 rfl) ?_
    refine lv_aload_n (pc := 16) hx hb dJ1_indexOf_4cfef_16 rfl (lv_at hl 1 rfl) ?_
    refine va_tlen (pc := 17) (v := 5) hx hb (hE.2.2.2.2.2.2.2.1 0 (by decide)).2.2.2 hS rfl dJ1_indexOf_4cfef_17 ?_
    refine va_mmin (pc := 18) (x := 5) (y := 5) hx hb (hml.trans hl.1.symm) hown (hts _ cw_J1_38.1.1) (hts _ cw_J1_38.1.2.1) (hts _ cw_J1_38.1.2.2.1) (hts _ cw_J1_38.1.2.2.2) (Nat.le_of_ble_eq_true rfl) (Nat.le_of_ble_eq_true rfl) (Nat.le_refl _) (Nat.le_refl _) dJ1_indexOf_4cfef_18 ?_
    refine vEq (v := 5) (by decide) ?_
    refine lv_istore_n (pc := 21) (lv' := [(3, .int 5), (2, .int 0), (0, .ref sv), (1, .int ch)]) hx hb dJ1_indexOf_4cfef_21 rfl hl (by decide) rfl (fun ls hl => ?_)
    refine lv_iload_n (pc := 22) hx hb dJ1_indexOf_4cfef_22 rfl (lv_at hl 1 rfl) ?_
    refine lv_iload_n (pc := 23) hx hb dJ1_indexOf_4cfef_23 rfl (lv_at hl 0 rfl) ?_
    refine lv_icmp_lt (pc := 24) (tgt := 29) hx hb dJ1_indexOf_4cfef_24 (by decide) (fun c_2 => ?_) (fun c_2 => ?_)
    · skip
      have c_2n : 0 < 5 := (nI_ltI (a := 0) (b := 5) (by omega) (by omega)).mp c_2
      refine lv_aload_n (pc := 29) hx hb dJ1_indexOf_4cfef_29 rfl (lv_at hl 2 rfl) ?_
      refine lv_iload_n (pc := 30) hx hb dJ1_indexOf_4cfef_30 rfl (lv_at hl 3 rfl) ?_
      refine lv_iload_n (pc := 31) hx hb dJ1_indexOf_4cfef_31 rfl (lv_at hl 1 rfl) ?_
      refine lv_iload_n (pc := 32) hx hb dJ1_indexOf_4cfef_32 rfl (lv_at hl 0 rfl) ?_
      refine rS (pc := 33) (rest := []) ⟨hx, hb, hml, hown, hts⟩ (k_J1_indexOfChar (ch := ch) (hc0 := c_1.1) (hc1 := c_1.2)) cw_J1_95 ⟨(Nat.le_of_ble_eq_true rfl), (Nat.le_of_ble_eq_true rfl)⟩ hE hS wc0 rfl hl.1 rfl (Nat.le_of_ble_eq_true rfl) dJ1_indexOf_4cfef_33 ⟨Nat.le_refl _, Nat.le_refl _⟩ ?_
      refine W.eq (g2 := F0 m 36 ls [.int (kindBy ch)]) rfl ?_
      rw [hQ]; exact W.iret (pc := 36) hx hb hr (fun t9 ht _ => ⟨retI (rfl), ht⟩) (fun _ h => nomatch h) dJ1_indexOf_4cfef_36 hlocks
    · exact (c_2 (by decide)).elim
  · skip
    refine lv_iconst (pc := 7) (v := (-1)) hx hb dJ1_indexOf_4cfef_7 (by decide) ?_
    rw [hQ]; exact W.iret (pc := 8) hx hb hr (fun t9 ht _ => ⟨retI (by unfold kindBy; rw [if_neg (fun q => c_1 (by rw [q]; decide)), if_neg (fun q => c_1 (by rw [q]; decide)), if_neg (fun q => c_1 (by rw [q]; decide)), if_neg (fun q => c_1 (by rw [q]; decide)), if_neg (fun q => c_1 (by rw [q]; decide))]), ht⟩) (fun _ h => nomatch h) dJ1_indexOf_4cfef_8 hlocks
set_option maxRecDepth 100000 in
set_option maxHeartbeats 4000000 in
theorem k_J0_indexOf2 (ch : Int32) : MR l yJ0_indexOf_7cf53 cJ0_indexOf_7cf53 3 (some .int) 2 63 D kB kI kT ks sk sv [.ref sk, .int ch, .int 0] ([]) (some (.int (kindBy ch))) := by
  refine MR.go (by decide +kernel) (Nat.le_of_ble_eq_true rfl) ?_
  intro p e s m below meth c0 args Q ls hQ hx hb hr hml hown hts hlocks hE hP hS hl
  have hl : lv_has ls 3 [(0, .ref sk), (1, .int ch), (2, .int 0)] := hl
  have hown : s.vm.findClass RJ0 = some m.cls := hown
  refine lv_aload_n (pc := 0) hx hb dJ0_indexOf_7cf53_0 rfl (lv_at hl 0 rfl) ?_
  refine rVs (pc := 1) (rest := []) ⟨hx, hb, hml, hown, hts⟩ (k_J0_isLatin1 ) cw_J0_492 ⟨(Nat.le_of_ble_eq_true rfl), (Nat.le_of_ble_eq_true rfl)⟩ hE hS rfl rfl hl.1 rfl (Nat.le_of_ble_eq_true rfl) dJ0_indexOf_7cf53_1 ⟨Nat.le_refl _, Nat.le_refl _⟩ ?_
  refine W.eq (g2 := F0 m 4 ls [.int 1]) rfl ?_
  refine lv_if_eq (pc := 4) (tgt := 23) hx hb dJ0_indexOf_7cf53_4 (by decide) (fun c_1 => ?_) (fun c_1 => ?_)
  · exact absurd c_1 (by decide)
  · skip
    have c_1n : ¬ 1 = 0 := fun hh => c_1 ((nI_eq (a := 1) (b := 0) (by omega) (by omega)).mpr hh)
    refine lv_aload_n (pc := 7) hx hb dJ0_indexOf_7cf53_7 rfl (lv_at hl 0 rfl) ?_
    refine vk_getf (pc := 8) hx hb (hE.2.2.2.2.2.2.2.1 0 (by decide)).2.2.1 hS hown (hts _ gs_J0_9) (fun _ q => q) dJ0_indexOf_7cf53_8 ?_
    refine lv_iload_n (pc := 11) hx hb dJ0_indexOf_7cf53_11 rfl (lv_at hl 1 rfl) ?_
    refine lv_iload_n (pc := 12) hx hb dJ0_indexOf_7cf53_12 rfl (lv_at hl 2 rfl) ?_
    refine lv_aload_n (pc := 13) hx hb dJ0_indexOf_7cf53_13 rfl (lv_at hl 0 rfl) ?_
    refine rVs (pc := 14) (rest := [.int 0, .int ch, .ref sv]) ⟨hx, hb, hml, hown, hts⟩ (k_J0_length ) cw_J0_505 ⟨(Nat.le_of_ble_eq_true rfl), (Nat.le_of_ble_eq_true rfl)⟩ hE hS rfl rfl hl.1 rfl (Nat.le_of_ble_eq_true rfl) dJ0_indexOf_7cf53_14 ⟨Nat.le_refl _, Nat.le_refl _⟩ ?_
    refine W.eq (g2 := F0 m 17 ls [.int 5, .int 0, .int ch, .ref sv]) rfl ?_
    refine rS (pc := 17) (rest := []) ⟨hx, hb, hml, hown, hts⟩ (k_J1_indexOf (ch := ch)) cw_J0_637 ⟨(Nat.le_of_ble_eq_true rfl), (Nat.le_of_ble_eq_true rfl)⟩ hE hS wc0 rfl hl.1 rfl (Nat.le_of_ble_eq_true rfl) dJ0_indexOf_7cf53_17 ⟨Nat.le_refl _, Nat.le_refl _⟩ ?_
    refine W.eq (g2 := F0 m 20 ls [.int (kindBy ch)]) rfl ?_
    refine lv_goto (pc := 20) (tgt := 36) hx hb dJ0_indexOf_7cf53_20 (by decide) ?_
    rw [hQ]; exact W.iret (pc := 36) hx hb hr (fun t9 ht _ => ⟨retI (rfl), ht⟩) (fun _ h => nomatch h) dJ0_indexOf_7cf53_36 hlocks
set_option maxRecDepth 100000 in
set_option maxHeartbeats 4000000 in
theorem k_J0_indexOf (ch : Int32) : MR l yJ0_indexOf_0f7a4 cJ0_indexOf_0f7a4 2 (some .int) 3 85 D kB kI kT ks sk sv [.ref sk, .int ch] ([]) (some (.int (kindBy ch))) := by
  refine MR.go (by decide +kernel) (Nat.le_of_ble_eq_true rfl) ?_
  intro p e s m below meth c0 args Q ls hQ hx hb hr hml hown hts hlocks hE hP hS hl
  have hl : lv_has ls 2 [(0, .ref sk), (1, .int ch)] := hl
  have hown : s.vm.findClass RJ0 = some m.cls := hown
  refine lv_aload_n (pc := 0) hx hb dJ0_indexOf_0f7a4_0 rfl (lv_at hl 0 rfl) ?_
  refine lv_iload_n (pc := 1) hx hb dJ0_indexOf_0f7a4_1 rfl (lv_at hl 1 rfl) ?_
  refine lv_iconst (pc := 2) (v := 0) hx hb dJ0_indexOf_0f7a4_2 (by decide) ?_
  refine rVs (pc := 3) (rest := []) ⟨hx, hb, hml, hown, hts⟩ (k_J0_indexOf2 (ch := ch)) cw_J0_633 ⟨(Nat.le_of_ble_eq_true rfl), (Nat.le_of_ble_eq_true rfl)⟩ hE hS rfl rfl hl.1 rfl (Nat.le_of_ble_eq_true rfl) dJ0_indexOf_0f7a4_3 ⟨Nat.le_refl _, Nat.le_refl _⟩ ?_
  refine W.eq (g2 := F0 m 6 ls [.int (kindBy ch)]) rfl ?_
  rw [hQ]; exact W.iret (pc := 6) hx hb hr (fun t9 ht _ => ⟨retI (rfl), ht⟩) (fun _ h => nomatch h) dJ0_indexOf_0f7a4_6 hlocks
set_option maxRecDepth 100000 in
set_option maxHeartbeats 4000000 in
theorem k_J6_bitCount (v9 : Int32) : MR l yJ6_bitCount_0f7a4 cJ6_bitCount_0f7a4 1 (some .int) 0 0 D kB kI kT ks sk sv [.int v9] ([]) (some (.int (bitC v9))) := by
  refine MR.go (by decide +kernel) (Nat.le_of_ble_eq_true rfl) ?_
  intro p e s m below meth c0 args Q ls hQ hx hb hr hml hown hts hlocks hE hP hS hl
  have hl : lv_has ls 1 [(0, .int v9)] := hl
  have hown : s.vm.findClass RJ6 = some m.cls := hown
  refine lv_iload_n (pc := 0) hx hb dJ6_bitCount_0f7a4_0 rfl (lv_at hl 0 rfl) ?_
  refine lv_iload_n (pc := 1) hx hb dJ6_bitCount_0f7a4_1 rfl (lv_at hl 0 rfl) ?_
  refine lv_iconst (pc := 2) (v := 1) hx hb dJ6_bitCount_0f7a4_2 (by decide) ?_
  refine lv_iushr (pc := 3) (v := (v9.toUInt32 >>> ((1 : Int32).toUInt32 &&& Int32.toUInt32 31)).toInt32) hx hb dJ6_bitCount_0f7a4_3 rfl ?_
  refine lv_ldcw (pc := 4) (v := 1431655765) hx hb hown (hts _ co_J6_265) dJ6_bitCount_0f7a4_4 ?_
  refine lv_iand (pc := 7) hx hb dJ6_bitCount_0f7a4_7 ?_
  refine isubV (pc := 8) (v := bc1 v9) hx hb dJ6_bitCount_0f7a4_8 rfl ?_
  refine lv_istore_n (pc := 9) (lv' := [(0, .int (bc1 v9))]) hx hb dJ6_bitCount_0f7a4_9 rfl hl (by decide) rfl (fun ls hl => ?_)
  refine lv_iload_n (pc := 10) hx hb dJ6_bitCount_0f7a4_10 rfl (lv_at hl 0 rfl) ?_
  refine lv_ldcw (pc := 11) (v := 858993459) hx hb hown (hts _ co_J6_266) dJ6_bitCount_0f7a4_11 ?_
  refine lv_iand (pc := 14) hx hb dJ6_bitCount_0f7a4_14 ?_
  refine lv_iload_n (pc := 15) hx hb dJ6_bitCount_0f7a4_15 rfl (lv_at hl 0 rfl) ?_
  refine lv_iconst (pc := 16) (v := 2) hx hb dJ6_bitCount_0f7a4_16 (by decide) ?_
  refine lv_iushr (pc := 17) (v := ((bc1 v9).toUInt32 >>> ((2 : Int32).toUInt32 &&& Int32.toUInt32 31)).toInt32) hx hb dJ6_bitCount_0f7a4_17 rfl ?_
  refine lv_ldcw (pc := 18) (v := 858993459) hx hb hown (hts _ co_J6_266) dJ6_bitCount_0f7a4_18 ?_
  refine lv_iand (pc := 21) hx hb dJ6_bitCount_0f7a4_21 ?_
  refine iaddV (pc := 22) (v := bc2 (bc1 v9)) hx hb dJ6_bitCount_0f7a4_22 rfl ?_
  refine lv_istore_n (pc := 23) (lv' := [(0, .int (bc2 (bc1 v9)))]) hx hb dJ6_bitCount_0f7a4_23 rfl hl (by decide) rfl (fun ls hl => ?_)
  refine lv_iload_n (pc := 24) hx hb dJ6_bitCount_0f7a4_24 rfl (lv_at hl 0 rfl) ?_
  refine lv_iload_n (pc := 25) hx hb dJ6_bitCount_0f7a4_25 rfl (lv_at hl 0 rfl) ?_
  refine lv_iconst (pc := 26) (v := 4) hx hb dJ6_bitCount_0f7a4_26 (by decide) ?_
  refine lv_iushr (pc := 27) (v := ((bc2 (bc1 v9)).toUInt32 >>> ((4 : Int32).toUInt32 &&& Int32.toUInt32 31)).toInt32) hx hb dJ6_bitCount_0f7a4_27 rfl ?_
  refine lv_iadd (pc := 28) hx hb dJ6_bitCount_0f7a4_28 ?_
  refine lv_ldcw (pc := 29) (v := 252645135) hx hb hown (hts _ co_J6_267) dJ6_bitCount_0f7a4_29 ?_
  refine lv_iand (pc := 32) hx hb dJ6_bitCount_0f7a4_32 ?_
  refine vEq (v := bc3 (bc2 (bc1 v9))) rfl ?_
  refine lv_istore_n (pc := 33) (lv' := [(0, .int (bc3 (bc2 (bc1 v9))))]) hx hb dJ6_bitCount_0f7a4_33 rfl hl (by decide) rfl (fun ls hl => ?_)
  refine lv_iload_n (pc := 34) hx hb dJ6_bitCount_0f7a4_34 rfl (lv_at hl 0 rfl) ?_
  refine lv_iload_n (pc := 35) hx hb dJ6_bitCount_0f7a4_35 rfl (lv_at hl 0 rfl) ?_
  refine lv_bipush (pc := 36) (v := 8) hx hb dJ6_bitCount_0f7a4_36 (by decide) ?_
  refine lv_iushr (pc := 38) (v := ((bc3 (bc2 (bc1 v9))).toUInt32 >>> ((8 : Int32).toUInt32 &&& Int32.toUInt32 31)).toInt32) hx hb dJ6_bitCount_0f7a4_38 rfl ?_
  refine iaddV (pc := 39) (v := bc4 (bc3 (bc2 (bc1 v9)))) hx hb dJ6_bitCount_0f7a4_39 rfl ?_
  refine lv_istore_n (pc := 40) (lv' := [(0, .int (bc4 (bc3 (bc2 (bc1 v9)))))]) hx hb dJ6_bitCount_0f7a4_40 rfl hl (by decide) rfl (fun ls hl => ?_)
  refine lv_iload_n (pc := 41) hx hb dJ6_bitCount_0f7a4_41 rfl (lv_at hl 0 rfl) ?_
  refine lv_iload_n (pc := 42) hx hb dJ6_bitCount_0f7a4_42 rfl (lv_at hl 0 rfl) ?_
  refine lv_bipush (pc := 43) (v := 16) hx hb dJ6_bitCount_0f7a4_43 (by decide) ?_
  refine lv_iushr (pc := 45) (v := ((bc4 (bc3 (bc2 (bc1 v9)))).toUInt32 >>> ((16 : Int32).toUInt32 &&& Int32.toUInt32 31)).toInt32) hx hb dJ6_bitCount_0f7a4_45 rfl ?_
  refine iaddV (pc := 46) (v := bc5 (bc4 (bc3 (bc2 (bc1 v9))))) hx hb dJ6_bitCount_0f7a4_46 rfl ?_
  refine lv_istore_n (pc := 47) (lv' := [(0, .int (bc5 (bc4 (bc3 (bc2 (bc1 v9))))))]) hx hb dJ6_bitCount_0f7a4_47 rfl hl (by decide) rfl (fun ls hl => ?_)
  refine lv_iload_n (pc := 48) hx hb dJ6_bitCount_0f7a4_48 rfl (lv_at hl 0 rfl) ?_
  refine lv_bipush (pc := 49) (v := 63) hx hb dJ6_bitCount_0f7a4_49 (by decide) ?_
  refine lv_iand (pc := 51) hx hb dJ6_bitCount_0f7a4_51 ?_
  rw [hQ]; exact W.iret (pc := 52) hx hb hr (fun t9 ht _ => ⟨retI (rfl), ht⟩) (fun _ h => nomatch h) dJ6_bitCount_0f7a4_52 hlocks
end
