section
variable {l : Launch} {D : va_G} {kB kI kT : ClassId} {ks sk sv : Nat}
theorem lt_le4 {x : Int32} (h : x < 5) : x ≤ 4 := by
  have h1 := Int32.lt_iff_toInt_lt.mp h
  exact Int32.le_iff_toInt_le.mpr (by have e1 : (5 : Int32).toInt = 5 := rfl; have e2 : (4 : Int32).toInt = 4 := rfl; omega)
def fitB (cd : Nat → Int32) (k : Nat) : Bool :=
  if ¬ k < 34 then false else if nI (k % 7) = 0 then decide (¬ kindBy (cd k) < 0) else if nI (k % 7) = 1 then decide (inR (cd k) 48 52) else if nI (k % 7) = 2 then decide (inR (cd k) 48 52) else if nI (k % 7) = 3 then decide (inR (cd k) 97 108) else if nI (k % 7) = 4 then decide (inR (cd k) (cd (k - 1)) 108) else if nI (k % 7) = 5 then decide (inR (cd k) 49 57) else decide (cd k = 44)
def ffL (ft : Nat → Bool) (pn : Nat) : Nat → Nat
  | 0 => pn
  | m + 1 => if ft (pn - (m + 1)) = true then ffL ft pn m else pn - (m + 1)
def ffC (cd : Nat → Int32) (pn : Nat) : Nat := ffL (fitB cd) pn pn
theorem ffL_le {ft : Nat → Bool} {pn : Nat} : ∀ m, ffL ft pn m ≤ pn
  | 0 => Nat.le_refl _
  | m + 1 => by
    unfold ffL
    split
    · exact ffL_le m
    · exact Nat.sub_le _ _
theorem i2c_id : ∀ n, n < 127 → ((nI n).toUInt32 % 65536).toInt32 = nI n := by decide +kernel
theorem inR_pg {x : Int32} (h : inR x 32 126) : ∃ n, n < 127 ∧ x = nI n := by
  obtain ⟨j, hj, h2⟩ := nI_of2 (M := 126) (n := 126) rfl (Int32.not_lt.mpr (Int32.le_trans (by decide) h.1)) h.2
  exact ⟨j, by omega, h2⟩
theorem i2c_pg {x : Int32} (h : inR x 32 126) : (x.toUInt32 % 65536).toInt32 = x := by
  obtain ⟨n, hn, rfl⟩ := inR_pg h
  exact i2c_id n hn
theorem bi_d {b : Bool} {c : Prop} [Decidable c] (h : b = decide c) : bi c = bi (b = true) := by
  subst h; exact bi_c ⟨fun q => decide_eq_true q, fun q => of_decide_eq_true q⟩
def klS (w : Nat) (could : Int32) : Int32 := if could = 0 then 31 &&& (kso w ^^^ -1) else kso w
def wrC (x : Int32) (w : Nat) : Int32 := if bitC (x &&& klS w 1) < bitC (x &&& klS w 0) then bitC (x &&& klS w 0) else bitC (x &&& klS w 1)
def askC (x : Int32) : Nat → Int32 × Int32
  | 0 => (-1, 6)
  | w + 1 => if (askC x w).2 ≤ wrC x w then askC x w else (nI w, wrC x w)
def askCS (x : Int32) : Int32 := if x = 0 then -1 else (askC x 4).1
theorem askC_eq : ∀ n, n < 32 → askCS (nI n) = askS (nI n) := by decide +kernel
theorem min5 {a : Nat} (h : a ≤ 5) : (if (5 : Int32) < nI a then 5 else nI a) = nI a := by
  rw [if_neg (fun q => by have := (nI_ltI (a := 5) (b := a) (by omega) (by omega)).mp q; omega)]
def wTp (kI : ClassId) (ta : Nat) (f0 : Int32) (f1 : Int32) (f2 : Int32) (f3 : Int32) (f4 : Int32) (f5 : Int32) (b : Nat → Nat) (cd : Nat → Int32) (ln : Int32) : va_W :=
  [(ta, .inr (5, [.int f0, .int f1, .int f2, .int f3, .int f4, .int f5])), (b 31, .inr (0, [.ref (b 32), .int ln])), (b 32, .inl (kI, 40, .inl (cd)))]
def wTsp (kI kT : ClassId) (x : Nat → Nat) (n : Int32) (c : Nat → Nat → Int32) (b : Nat → Nat) (cd : Nat → Int32) (ln : Int32) : va_W :=
  [(x 7, .inr (6, [.ref (x 8), .int n])), (x 8, .inl (kT, 5, .inr (.inr (.inr (.inr (fun k => some (x (9 + k)))))))), (x 9, .inr (5, [.int ((c 2) 0), .int ((c 3) 0), .int ((c 4) 0), .int ((c 5) 0), .int ((c 6) 0), .int ((c 7) 0)])), (x 10, .inr (5, [.int ((c 2) 1), .int ((c 3) 1), .int ((c 4) 1), .int ((c 5) 1), .int ((c 6) 1), .int ((c 7) 1)])), (x 11, .inr (5, [.int ((c 2) 2), .int ((c 3) 2), .int ((c 4) 2), .int ((c 5) 2), .int ((c 6) 2), .int ((c 7) 2)])), (x 12, .inr (5, [.int ((c 2) 3), .int ((c 3) 3), .int ((c 4) 3), .int ((c 5) 3), .int ((c 6) 3), .int ((c 7) 3)])), (x 13, .inr (5, [.int ((c 2) 4), .int ((c 3) 4), .int ((c 4) 4), .int ((c 5) 4), .int ((c 6) 4), .int ((c 7) 4)])), (b 31, .inr (0, [.ref (b 32), .int ln])), (b 32, .inl (kI, 40, .inl (cd)))]
set_option maxRecDepth 100000 in
set_option maxHeartbeats 4000000 in
theorem k_X0_fits {b : Nat → Nat} {cd : Nat → Int32} {ln : Int32} (k : Nat) {pn : Nat} (hpn : pn ≤ 40) (hk : k < pn) (hcd : ∀ k, k < pn → inR (cd k) 32 126) : MR l yX0_fits cX0_fits 2 (some .boolean) 4 106 D kB kI kT ks sk sv [.ref (b 31), .int (nI k)] (wPg kI b cd ln) (some (.int (bi (fitB cd k = true)))) := by
  refine MR.go (by decide +kernel) (Nat.le_of_ble_eq_true rfl) ?_
  intro p e s m below meth c0 args Q ls hQ hx hb hr hml hown hts hlocks hE hP hS hl
  have hl : lv_has ls 2 [(0, .ref (b 31)), (1, .int (nI k))] := hl
  have hown : s.vm.findClass RX0 = some m.cls := hown
  refine lv_iload_n (pc := 0) hx hb dX0_fits_0 rfl (lv_at hl 1 rfl) ?_
  refine lv_if_lt (pc := 1) (tgt := 10) hx hb dX0_fits_1 (by decide) (fun c_1 => ?_) (fun c_1 => ?_)
  · exact absurd c_1 (nI_pos (by omega))
  · skip
    have c_1n : ¬ k < 0 := fun hh => c_1 ((nI_ltI (a := k) (b := 0) (by omega) (by omega)).mpr hh)
    refine lv_iload_n (pc := 4) hx hb dX0_fits_4 rfl (lv_at hl 1 rfl) ?_
    refine lv_bipush (pc := 5) (v := 34) hx hb dX0_fits_5 (by decide) ?_
    refine lv_icmp_lt (pc := 7) (tgt := 12) hx hb dX0_fits_7 (by decide) (fun c_2 => ?_) (fun c_2 => ?_)
    · skip
      have c_2n : k < 34 := (nI_ltI (a := k) (b := 34) (by omega) (by omega)).mp c_2
      refine lv_iload_n (pc := 12) hx hb dX0_fits_12 rfl (lv_at hl 1 rfl) ?_
      refine lv_bipush (pc := 13) (v := 7) hx hb dX0_fits_13 (by decide) ?_
      refine iremV (pc := 15) (v := nI (k % 7)) hx hb dX0_fits_15 (by decide) (pk_rem (a := k) (d := 7) (by omega) (by omega) (by omega)) ?_
      by_cases c_3 : nI (k % 7) = 0
      · skip
        refine lv_tableIn (pc := 16) (off := 40) (tgt := 56) hx hb dX0_fits_16 (by rw [c_3]; decide) (by rw [c_3]; decide) (by rw [c_3]; try rfl) (by decide) ?_
        refine va_ldcS (pc := 56) (tx := "tgfrd") hx hb hown hE.2.2.2.2.2.1 dX0_fits_56 ?_
        refine lv_aload_n (pc := 58) hx hb dX0_fits_58 rfl (lv_at hl 0 rfl) ?_
        refine fget (pc := 59) (v := .ref (b 32)) hx hb hts hown hE hP fl_X0_11 0 rfl rfl dX0_fits_59 ?_
        refine lv_iload_n (pc := 62) hx hb dX0_fits_62 rfl (lv_at hl 1 rfl) ?_
        refine aldN (pc := 63) (f := cd) hx hb hE hP 1 rfl (k) (by omega) (by omega) dX0_fits_63 ?_
        refine lv_i2c (pc := 64) (v := cd k) hx hb dX0_fits_64 (i2c_pg (hcd k hk)) ?_
        refine rVs (pc := 65) (rest := []) ⟨hx, hb, hml, hown, hts⟩ (k_J0_indexOf (ch := cd k)) cw_X0_33 ⟨(Nat.le_of_ble_eq_true rfl), (Nat.le_of_ble_eq_true rfl)⟩ hE hS rfl rfl hl.1 rfl (Nat.le_of_ble_eq_true rfl) dX0_fits_65 ⟨Nat.le_refl _, Nat.le_refl _⟩ ?_
        refine W.eq (g2 := F0 m 68 ls [.int (kindBy (cd k))]) rfl ?_
        refine lv_if_lt (pc := 68) (tgt := 75) hx hb dX0_fits_68 (by decide) (fun c_4 => ?_) (fun c_4 => ?_)
        · skip
          refine lv_iconst (pc := 75) (v := 0) hx hb dX0_fits_75 (by decide) ?_
          rw [hQ]; exact W.zret (pc := 76) hx hb hr rfl (fun t9 ht _ => ⟨retI (bi_f (by unfold fitB; rw [if_neg (fun q => q (by omega)), if_pos c_3]; exact fun q => of_decide_eq_true q c_4)), ht⟩) (fun _ h => nomatch h) dX0_fits_76 hlocks
        · skip
          refine lv_iconst (pc := 71) (v := 1) hx hb dX0_fits_71 (by decide) ?_
          refine lv_goto (pc := 72) (tgt := 76) hx hb dX0_fits_72 (by decide) ?_
          rw [hQ]; exact W.zret (pc := 76) hx hb hr rfl (fun t9 ht _ => ⟨retI (bi_t (by unfold fitB; rw [if_neg (fun q => q (by omega)), if_pos c_3]; exact decide_eq_true c_4)), ht⟩) (fun _ h => nomatch h) dX0_fits_76 hlocks
      by_cases c_5 : nI (k % 7) = 1
      · skip
        refine lv_tableIn (pc := 16) (off := 61) (tgt := 77) hx hb dX0_fits_16 (by rw [c_5]; decide) (by rw [c_5]; decide) (by rw [c_5]; try rfl) (by decide) ?_
        refine lv_aload_n (pc := 77) hx hb dX0_fits_77 rfl (lv_at hl 0 rfl) ?_
        refine lv_iload_n (pc := 78) hx hb dX0_fits_78 rfl (lv_at hl 1 rfl) ?_
        refine lv_bipush (pc := 79) (v := 48) hx hb dX0_fits_79 (by decide) ?_
        refine lv_bipush (pc := 81) (v := 52) hx hb dX0_fits_81 (by decide) ?_
        refine rV (pc := 83) (rest := []) ⟨hx, hb, hml, hown, hts⟩ (k_X0_isWithin (k := k) (lo := 48) (hi := 52) (b := b) (cd := cd) (ln := ln) (hk := (by omega))) cw_X0_27 ⟨(Nat.le_of_ble_eq_true rfl), (Nat.le_of_ble_eq_true rfl)⟩ hE hS hP rfl rfl rfl rfl hl.1 rfl (Nat.le_of_ble_eq_true rfl) dX0_fits_83 ⟨Nat.le_refl _, Nat.le_refl _⟩ ?_
        refine W.eq (g2 := F0 m 86 ls [.int (bi (inR (cd k) 48 52))]) rfl ?_
        rw [hQ]; exact W.zret (pc := 86) hx hb hr narrow_bi (fun t9 ht _ => ⟨retI (bi_d (by unfold fitB; rw [if_neg (fun q => q (by omega)), if_neg c_3, if_pos c_5])), ht⟩) (fun _ h => nomatch h) dX0_fits_86 hlocks
      by_cases c_6 : nI (k % 7) = 2
      · skip
        refine lv_tableIn (pc := 16) (off := 71) (tgt := 87) hx hb dX0_fits_16 (by rw [c_6]; decide) (by rw [c_6]; decide) (by rw [c_6]; try rfl) (by decide) ?_
        refine lv_aload_n (pc := 87) hx hb dX0_fits_87 rfl (lv_at hl 0 rfl) ?_
        refine lv_iload_n (pc := 88) hx hb dX0_fits_88 rfl (lv_at hl 1 rfl) ?_
        refine lv_bipush (pc := 89) (v := 48) hx hb dX0_fits_89 (by decide) ?_
        refine lv_bipush (pc := 91) (v := 52) hx hb dX0_fits_91 (by decide) ?_
        refine rV (pc := 93) (rest := []) ⟨hx, hb, hml, hown, hts⟩ (k_X0_isWithin (k := k) (lo := 48) (hi := 52) (b := b) (cd := cd) (ln := ln) (hk := (by omega))) cw_X0_27 ⟨(Nat.le_of_ble_eq_true rfl), (Nat.le_of_ble_eq_true rfl)⟩ hE hS hP rfl rfl rfl rfl hl.1 rfl (Nat.le_of_ble_eq_true rfl) dX0_fits_93 ⟨Nat.le_refl _, Nat.le_refl _⟩ ?_
        refine W.eq (g2 := F0 m 96 ls [.int (bi (inR (cd k) 48 52))]) rfl ?_
        rw [hQ]; exact W.zret (pc := 96) hx hb hr narrow_bi (fun t9 ht _ => ⟨retI (bi_d (by unfold fitB; rw [if_neg (fun q => q (by omega)), if_neg c_3, if_neg c_5, if_pos c_6])), ht⟩) (fun _ h => nomatch h) dX0_fits_96 hlocks
      by_cases c_7 : nI (k % 7) = 3
      · skip
        refine lv_tableIn (pc := 16) (off := 81) (tgt := 97) hx hb dX0_fits_16 (by rw [c_7]; decide) (by rw [c_7]; decide) (by rw [c_7]; try rfl) (by decide) ?_
        refine lv_aload_n (pc := 97) hx hb dX0_fits_97 rfl (lv_at hl 0 rfl) ?_
        refine lv_iload_n (pc := 98) hx hb dX0_fits_98 rfl (lv_at hl 1 rfl) ?_
        refine lv_bipush (pc := 99) (v := 97) hx hb dX0_fits_99 (by decide) ?_
        refine lv_bipush (pc := 101) (v := 108) hx hb dX0_fits_101 (by decide) ?_
        refine rV (pc := 103) (rest := []) ⟨hx, hb, hml, hown, hts⟩ (k_X0_isWithin (k := k) (lo := 97) (hi := 108) (b := b) (cd := cd) (ln := ln) (hk := (by omega))) cw_X0_27 ⟨(Nat.le_of_ble_eq_true rfl), (Nat.le_of_ble_eq_true rfl)⟩ hE hS hP rfl rfl rfl rfl hl.1 rfl (Nat.le_of_ble_eq_true rfl) dX0_fits_103 ⟨Nat.le_refl _, Nat.le_refl _⟩ ?_
        refine W.eq (g2 := F0 m 106 ls [.int (bi (inR (cd k) 97 108))]) rfl ?_
        rw [hQ]; exact W.zret (pc := 106) hx hb hr narrow_bi (fun t9 ht _ => ⟨retI (bi_d (by unfold fitB; rw [if_neg (fun q => q (by omega)), if_neg c_3, if_neg c_5, if_neg c_6, if_pos c_7])), ht⟩) (fun _ h => nomatch h) dX0_fits_106 hlocks
      by_cases c_8 : nI (k % 7) = 4
      · skip
        refine lv_tableIn (pc := 16) (off := 91) (tgt := 107) hx hb dX0_fits_16 (by rw [c_8]; decide) (by rw [c_8]; decide) (by rw [c_8]; try rfl) (by decide) ?_
        have hk7 : k % 7 = 4 := (nI_eq (a := k % 7) (b := 4) (by omega) (by omega)).mp c_8
        refine lv_aload_n (pc := 107) hx hb dX0_fits_107 rfl (lv_at hl 0 rfl) ?_
        refine lv_iload_n (pc := 108) hx hb dX0_fits_108 rfl (lv_at hl 1 rfl) ?_
        refine lv_aload_n (pc := 109) hx hb dX0_fits_109 rfl (lv_at hl 0 rfl) ?_
        refine fget (pc := 110) (v := .ref (b 32)) hx hb hts hown hE hP fl_X0_11 0 rfl rfl dX0_fits_110 ?_
        refine lv_iload_n (pc := 113) hx hb dX0_fits_113 rfl (lv_at hl 1 rfl) ?_
        refine lv_iconst (pc := 114) (v := 1) hx hb dX0_fits_114 (by decide) ?_
        refine isubV (pc := 115) (v := nI (k - 1)) hx hb dX0_fits_115 (pk_sub (a := k) (b := 1) (by omega)) ?_
        refine aldN (pc := 116) (f := cd) hx hb hE hP 1 rfl (k - 1) (by omega) (by omega) dX0_fits_116 ?_
        refine lv_bipush (pc := 117) (v := 108) hx hb dX0_fits_117 (by decide) ?_
        refine rV (pc := 119) (rest := []) ⟨hx, hb, hml, hown, hts⟩ (k_X0_isWithin (k := k) (lo := cd (k - 1)) (hi := 108) (b := b) (cd := cd) (ln := ln) (hk := (by omega))) cw_X0_27 ⟨(Nat.le_of_ble_eq_true rfl), (Nat.le_of_ble_eq_true rfl)⟩ hE hS hP rfl rfl rfl rfl hl.1 rfl (Nat.le_of_ble_eq_true rfl) dX0_fits_119 ⟨Nat.le_refl _, Nat.le_refl _⟩ ?_
        refine W.eq (g2 := F0 m 122 ls [.int (bi (inR (cd k) (cd (k - 1)) 108))]) rfl ?_
        rw [hQ]; exact W.zret (pc := 122) hx hb hr narrow_bi (fun t9 ht _ => ⟨retI (bi_d (by unfold fitB; rw [if_neg (fun q => q (by omega)), if_neg c_3, if_neg c_5, if_neg c_6, if_neg c_7, if_pos c_8])), ht⟩) (fun _ h => nomatch h) dX0_fits_122 hlocks
      by_cases c_9 : nI (k % 7) = 5
      · skip
        refine lv_tableIn (pc := 16) (off := 107) (tgt := 123) hx hb dX0_fits_16 (by rw [c_9]; decide) (by rw [c_9]; decide) (by rw [c_9]; try rfl) (by decide) ?_
        refine lv_aload_n (pc := 123) hx hb dX0_fits_123 rfl (lv_at hl 0 rfl) ?_
        refine lv_iload_n (pc := 124) hx hb dX0_fits_124 rfl (lv_at hl 1 rfl) ?_
        refine lv_bipush (pc := 125) (v := 49) hx hb dX0_fits_125 (by decide) ?_
        refine lv_bipush (pc := 127) (v := 57) hx hb dX0_fits_127 (by decide) ?_
        refine rV (pc := 129) (rest := []) ⟨hx, hb, hml, hown, hts⟩ (k_X0_isWithin (k := k) (lo := 49) (hi := 57) (b := b) (cd := cd) (ln := ln) (hk := (by omega))) cw_X0_27 ⟨(Nat.le_of_ble_eq_true rfl), (Nat.le_of_ble_eq_true rfl)⟩ hE hS hP rfl rfl rfl rfl hl.1 rfl (Nat.le_of_ble_eq_true rfl) dX0_fits_129 ⟨Nat.le_refl _, Nat.le_refl _⟩ ?_
        refine W.eq (g2 := F0 m 132 ls [.int (bi (inR (cd k) 49 57))]) rfl ?_
        rw [hQ]; exact W.zret (pc := 132) hx hb hr narrow_bi (fun t9 ht _ => ⟨retI (bi_d (by unfold fitB; rw [if_neg (fun q => q (by omega)), if_neg c_3, if_neg c_5, if_neg c_6, if_neg c_7, if_neg c_8, if_pos c_9])), ht⟩) (fun _ h => nomatch h) dX0_fits_132 hlocks
      refine lv_tableOut (pc := 16) (tgt := 133) hx hb dX0_fits_16 (by (have q0 : ¬ (nI (k % 7)).toInt = 0 := fun q => c_3 (Int32.toInt_inj.mp (q.trans rfl)); have q1 : ¬ (nI (k % 7)).toInt = 1 := fun q => c_5 (Int32.toInt_inj.mp (q.trans rfl)); have q2 : ¬ (nI (k % 7)).toInt = 2 := fun q => c_6 (Int32.toInt_inj.mp (q.trans rfl)); have q3 : ¬ (nI (k % 7)).toInt = 3 := fun q => c_7 (Int32.toInt_inj.mp (q.trans rfl)); have q4 : ¬ (nI (k % 7)).toInt = 4 := fun q => c_8 (Int32.toInt_inj.mp (q.trans rfl)); have q5 : ¬ (nI (k % 7)).toInt = 5 := fun q => c_9 (Int32.toInt_inj.mp (q.trans rfl)); omega)) (by decide) ?_
      refine lv_aload_n (pc := 133) hx hb dX0_fits_133 rfl (lv_at hl 0 rfl) ?_
      refine fget (pc := 134) (v := .ref (b 32)) hx hb hts hown hE hP fl_X0_11 0 rfl rfl dX0_fits_134 ?_
      refine lv_iload_n (pc := 137) hx hb dX0_fits_137 rfl (lv_at hl 1 rfl) ?_
      refine aldN (pc := 138) (f := cd) hx hb hE hP 1 rfl (k) (by omega) (by omega) dX0_fits_138 ?_
      refine lv_bipush (pc := 139) (v := 44) hx hb dX0_fits_139 (by decide) ?_
      refine lv_icmp_ne (pc := 141) (tgt := 148) hx hb dX0_fits_141 (by decide) (fun c_10 => ?_) (fun c_10 => ?_)
      · skip
        refine lv_iconst (pc := 148) (v := 0) hx hb dX0_fits_148 (by decide) ?_
        rw [hQ]; exact W.zret (pc := 149) hx hb hr rfl (fun t9 ht _ => ⟨retI (bi_f (by unfold fitB; rw [if_neg (fun q => q (by omega)), if_neg c_3, if_neg c_5, if_neg c_6, if_neg c_7, if_neg c_8, if_neg c_9]; exact fun q => c_10 (of_decide_eq_true q))), ht⟩) (fun _ h => nomatch h) dX0_fits_149 hlocks
      · skip
        refine lv_iconst (pc := 144) (v := 1) hx hb dX0_fits_144 (by decide) ?_
        refine lv_goto (pc := 145) (tgt := 149) hx hb dX0_fits_145 (by decide) ?_
        rw [hQ]; exact W.zret (pc := 149) hx hb hr rfl (fun t9 ht _ => ⟨retI (bi_t (by unfold fitB; rw [if_neg (fun q => q (by omega)), if_neg c_3, if_neg c_5, if_neg c_6, if_neg c_7, if_neg c_8, if_neg c_9]; exact decide_eq_true c_10)), ht⟩) (fun _ h => nomatch h) dX0_fits_149 hlocks
    · skip
      have c_2n : ¬ k < 34 := fun hh => c_2 ((nI_ltI (a := k) (b := 34) (by omega) (by omega)).mpr hh)
      refine lv_iconst (pc := 10) (v := 0) hx hb dX0_fits_10 (by decide) ?_
      rw [hQ]; exact W.zret (pc := 11) hx hb hr rfl (fun t9 ht _ => ⟨retI (bi_f (fun q => by unfold fitB at q; rw [if_pos (by omega)] at q; exact Bool.noConfusion q)), ht⟩) (fun _ h => nomatch h) dX0_fits_11 hlocks
set_option maxRecDepth 100000 in
set_option maxHeartbeats 4000000 in
theorem k_X0_firstFault {b : Nat → Nat} {cd : Nat → Int32} {ln : Int32} {pn : Nat} (hln : ln = nI pn) (hpn : pn ≤ 40) (hcd : ∀ k, k < pn → inR (cd k) 32 126) : MR l yX0_firstFault cX0_firstFault 2 (some .int) 5 127 D kB kI kT ks sk sv [.ref (b 31)] (wPg kI b cd ln) (some (.int (nI (ffC cd pn)))) := by
  refine MR.go (by decide +kernel) (Nat.le_of_ble_eq_true rfl) ?_
  intro p e s m below meth c0 args Q ls hQ hx hb hr hml hown hts hlocks hE hP hS hl
  have hl : lv_has ls 2 [(0, .ref (b 31))] := hl
  have hown : s.vm.findClass RX0 = some m.cls := hown
  refine lv_iconst (pc := 0) (v := 0) hx hb dX0_firstFault_0 (by decide) ?_
  refine lv_istore_n (pc := 1) (lv' := [(1, .int 0), (0, .ref (b 31))]) hx hb dX0_firstFault_1 rfl hl (by decide) rfl (fun ls hl => ?_)
  have lp_1 : ∀ (fuel : Nat) (i : Nat), pn - i < fuel → (i ≤ pn) → (ffL (fitB cd) pn pn = ffL (fitB cd) pn (pn - i)) → ∀ (ls : Array Slot), lv_has ls 2 [(0, .ref (b 31)), (1, .int (nI i))] → W p l e (rmO 5 127) s m args below meth c0 s.heap [] 0 0 Q (F0 m 2 ls []) := by
    intro fuel
    induction fuel with
    | zero => intro i hfuel; exact absurd hfuel (Nat.not_lt_zero _)
    | succ fuel ih_lp_1 =>
      intro i hfuel hi hR ls hl
      refine lv_iload_n (pc := 2) hx hb dX0_firstFault_2 rfl (lv_at hl 1 rfl) ?_
      refine lv_aload_n (pc := 3) hx hb dX0_firstFault_3 rfl (lv_at hl 0 rfl) ?_
      refine fget (pc := 4) (v := .int ln) hx hb hts hown hE hP fl_X0_15 0 rfl rfl dX0_firstFault_4 ?_
      refine vEq (v := nI pn) hln ?_
      refine lv_icmp_ge (pc := 7) (tgt := 26) hx hb dX0_firstFault_7 (by decide) (fun c_2 => ?_) (fun c_2 => ?_)
      · skip
        have c_2n : pn ≤ i := (nI_leI (a := pn) (b := i) (by omega) (by omega)).mp c_2
        refine lv_aload_n (pc := 26) hx hb dX0_firstFault_26 rfl (lv_at hl 0 rfl) ?_
        refine fget (pc := 27) (v := .int ln) hx hb hts hown hE hP fl_X0_15 0 rfl rfl dX0_firstFault_27 ?_
        refine vEq (v := nI pn) hln ?_
        rw [hQ]; exact W.iret (pc := 30) hx hb hr (fun t9 ht _ => ⟨retI (by rw [ffC, hR, show pn - i = 0 by omega]; rfl), ht⟩) (fun _ h => nomatch h) dX0_firstFault_30 hlocks
      · skip
        have c_2n : ¬ pn ≤ i := fun hh => c_2 ((nI_leI (a := pn) (b := i) (by omega) (by omega)).mpr hh)
        refine lv_aload_n (pc := 10) hx hb dX0_firstFault_10 rfl (lv_at hl 0 rfl) ?_
        refine lv_iload_n (pc := 11) hx hb dX0_firstFault_11 rfl (lv_at hl 1 rfl) ?_
        refine rV (pc := 12) (rest := []) ⟨hx, hb, hml, hown, hts⟩ (k_X0_fits (k := i) (b := b) (cd := cd) (ln := ln) (pn := pn) (hpn := hpn) (hk := (by omega)) (hcd := hcd)) cw_X0_19 ⟨(Nat.le_of_ble_eq_true rfl), (Nat.le_of_ble_eq_true rfl)⟩ hE hS hP rfl rfl rfl rfl hl.1 rfl (Nat.le_of_ble_eq_true rfl) dX0_firstFault_12 ⟨Nat.le_refl _, Nat.le_refl _⟩ ?_
        refine W.eq (g2 := F0 m 15 ls [.int (bi (fitB cd i = true))]) rfl ?_
        refine bif_ne (pc := 15) (tgt := 20) hx hb dX0_firstFault_15 (by decide) (fun c_3 => ?_) (fun c_3 => ?_)
        · skip
          refine lv_iinc (pc := 20) (v := nI (i + 1)) (lv' := [(1, .int (nI (i + 1))), (0, .ref (b 31))]) hx hb dX0_firstFault_20 hl (k := 1) rfl (nI_add (i) 1) (by decide) rfl (fun ls hl => ?_)
          refine lv_goto (pc := 23) (tgt := 2) hx hb dX0_firstFault_23 (by decide) ?_
          exact ih_lp_1 (i + 1) (by omega) (by omega) (by rw [hR]; obtain ⟨m8, hm8⟩ : ∃ m8, pn - i = m8 + 1 := ⟨pn - i - 1, by omega⟩; rw [hm8, ffL, if_pos (by rw [show pn - (m8 + 1) = i by omega]; exact c_3), show pn - (i + 1) = m8 by omega]) ls (lv_sub hl [1, 0] rfl)
        · skip
          refine lv_iload_n (pc := 18) hx hb dX0_firstFault_18 rfl (lv_at hl 1 rfl) ?_
          rw [hQ]; exact W.iret (pc := 19) hx hb hr (fun t9 ht _ => ⟨retI ((by rw [ffC, hR]; obtain ⟨m8, hm8⟩ : ∃ m8, pn - i = m8 + 1 := ⟨pn - i - 1, by omega⟩; rw [hm8, ffL, show pn - (m8 + 1) = i by omega, if_neg c_3])), ht⟩) (fun _ h => nomatch h) dX0_firstFault_19 hlocks
  exact lp_1 _ 0 (Nat.lt_succ_self _) (by omega) rfl ls (lv_sub hl [1, 0] rfl)
set_option maxRecDepth 100000 in
set_option maxHeartbeats 4000000 in
theorem k_X0_isHouse {b : Nat → Nat} {cd : Nat → Int32} {ln : Int32} {pn : Nat} (hln : ln = nI pn) (hpn : pn ≤ 40) (hcd : ∀ k, k < pn → inR (cd k) 32 126) : MR l yX0_isHouse cX0_isHouse 1 (some .boolean) 6 148 D kB kI kT ks sk sv [.ref (b 31)] (wPg kI b cd ln) (some (.int (bi (ffC cd pn = pn ∧ pn % 7 = 6)))) := by
  refine MR.go (by decide +kernel) (Nat.le_of_ble_eq_true rfl) ?_
  intro p e s m below meth c0 args Q ls hQ hx hb hr hml hown hts hlocks hE hP hS hl
  have hl : lv_has ls 1 [(0, .ref (b 31))] := hl
  have hown : s.vm.findClass RX0 = some m.cls := hown
  have hfl : ffC cd pn ≤ pn := ffL_le pn
  refine lv_aload_n (pc := 0) hx hb dX0_isHouse_0 rfl (lv_at hl 0 rfl) ?_
  refine rV (pc := 1) (rest := []) ⟨hx, hb, hml, hown, hts⟩ (k_X0_firstFault (b := b) (cd := cd) (ln := ln) (pn := pn) (hln := (by first | assumption | omega)) (hpn := (by first | assumption | omega)) (hcd := (by first | assumption | omega))) cw_X0_23 ⟨(Nat.le_of_ble_eq_true rfl), (Nat.le_of_ble_eq_true rfl)⟩ hE hS hP rfl rfl rfl rfl hl.1 rfl (Nat.le_of_ble_eq_true rfl) dX0_isHouse_1 ⟨Nat.le_refl _, Nat.le_refl _⟩ ?_
  refine W.eq (g2 := F0 m 4 ls [.int (nI (ffC cd pn))]) rfl ?_
  refine lv_aload_n (pc := 4) hx hb dX0_isHouse_4 rfl (lv_at hl 0 rfl) ?_
  refine fget (pc := 5) (v := .int ln) hx hb hts hown hE hP fl_X0_15 0 rfl rfl dX0_isHouse_5 ?_
  refine vEq (v := nI pn) hln ?_
  refine lv_icmp_ne (pc := 8) (tgt := 27) hx hb dX0_isHouse_8 (by decide) (fun c_1 => ?_) (fun c_1 => ?_)
  · skip
    have c_1n : ¬ (ffC cd pn) = pn := fun hh => c_1 ((nI_eq (a := ffC cd pn) (b := pn) (by omega) (by omega)).mpr hh)
    refine lv_iconst (pc := 27) (v := 0) hx hb dX0_isHouse_27 (by decide) ?_
    rw [hQ]; exact W.zret (pc := 28) hx hb hr rfl (fun t9 ht _ => ⟨retI (bi_f (fun q => c_1n q.1)), ht⟩) (fun _ h => nomatch h) dX0_isHouse_28 hlocks
  · skip
    have c_1n : (ffC cd pn) = pn := (nI_eq (a := ffC cd pn) (b := pn) (by omega) (by omega)).mp c_1
    refine lv_aload_n (pc := 11) hx hb dX0_isHouse_11 rfl (lv_at hl 0 rfl) ?_
    refine fget (pc := 12) (v := .int ln) hx hb hts hown hE hP fl_X0_15 0 rfl rfl dX0_isHouse_12 ?_
    refine vEq (v := nI pn) hln ?_
    refine lv_bipush (pc := 15) (v := 7) hx hb dX0_isHouse_15 (by decide) ?_
    refine iremV (pc := 17) (v := nI (pn % 7)) hx hb dX0_isHouse_17 (by decide) (pk_rem (a := pn) (d := 7) (by omega) (by omega) (by omega)) ?_
    refine lv_bipush (pc := 18) (v := 6) hx hb dX0_isHouse_18 (by decide) ?_
    refine lv_icmp_ne (pc := 20) (tgt := 27) hx hb dX0_isHouse_20 (by decide) (fun c_2 => ?_) (fun c_2 => ?_)
    · skip
      have c_2n : ¬ (pn % 7) = 6 := fun hh => c_2 ((nI_eq (a := pn % 7) (b := 6) (by omega) (by omega)).mpr hh)
      refine lv_iconst (pc := 27) (v := 0) hx hb dX0_isHouse_27 (by decide) ?_
      rw [hQ]; exact W.zret (pc := 28) hx hb hr rfl (fun t9 ht _ => ⟨retI (bi_f (fun q => c_2n q.2)), ht⟩) (fun _ h => nomatch h) dX0_isHouse_28 hlocks
    · skip
      have c_2n : (pn % 7) = 6 := (nI_eq (a := pn % 7) (b := 6) (by omega) (by omega)).mp c_2
      refine lv_iconst (pc := 23) (v := 1) hx hb dX0_isHouse_23 (by decide) ?_
      refine lv_goto (pc := 24) (tgt := 28) hx hb dX0_isHouse_24 (by decide) ?_
      rw [hQ]; exact W.zret (pc := 28) hx hb hr rfl (fun t9 ht _ => ⟨retI (bi_t ⟨c_1n, c_2n⟩), ht⟩) (fun _ h => nomatch h) dX0_isHouse_28 hlocks
set_option maxRecDepth 100000 in
set_option maxHeartbeats 4000000 in
theorem k_X5_read {ta : Nat} {f0 : Int32} {f1 : Int32} {f2 : Int32} {f3 : Int32} {f4 : Int32} {f5 : Int32} {b : Nat → Nat} {cd : Nat → Int32} {ln : Int32} (k : Nat) (hk : k + 7 ≤ 40) (hck : inR (cd k) 32 126) : MW l yX5_read cX5_read 3 none 4 106 D kB kI kT ks sk sv [.ref ta, .ref (b 31), .int (nI k)] (wTp kI ta f0 f1 f2 f3 f4 f5 b cd ln) none (wTp kI ta (kindBy (cd k)) (cd (k + 1) - 48) (cd (k + 2) - 48) (cd (k + 3) - 97) (cd (k + 4) - 97) (cd (k + 5) - 48) b cd ln) := by
  refine MW.go (by decide +kernel) (Nat.le_of_ble_eq_true rfl) ?_
  intro p e s m below meth c0 args Q ls A hQ hx hb hr hml hown hts hlocks hE hP hD hS hl
  have hl : lv_has ls 3 [(0, .ref ta), (1, .ref (b 31)), (2, .int (nI k))] := hl
  have hown : s.vm.findClass RX5 = some m.cls := hown
  refine lv_iload_n (pc := 0) hx hb dX5_read_0 rfl (lv_at hl 2 rfl) ?_
  refine lv_if_lt (pc := 1) (tgt := 13) hx hb dX5_read_1 (by decide) (fun c_1 => ?_) (fun c_1 => ?_)
  · exact absurd c_1 (nI_pos (by omega))
  · skip
    have c_1n : ¬ k < 0 := fun hh => c_1 ((nI_ltI (a := k) (b := 0) (by omega) (by omega)).mpr hh)
    refine lv_iload_n (pc := 4) hx hb dX5_read_4 rfl (lv_at hl 2 rfl) ?_
    refine lv_bipush (pc := 5) (v := 7) hx hb dX5_read_5 (by decide) ?_
    refine iaddV (pc := 7) (v := nI (k + 7)) hx hb dX5_read_7 (nI_add (k) (7)) ?_
    refine lv_bipush (pc := 8) (v := 40) hx hb dX5_read_8 (by decide) ?_
    refine lv_icmp_le (pc := 10) (tgt := 14) hx hb dX5_read_10 (by decide) (fun c_2 => ?_) (fun c_2 => ?_)
    · skip
      have c_2n : (k + 7) ≤ 40 := (nI_leI (a := k + 7) (b := 40) (by omega) (by omega)).mp c_2
      refine lv_aload_n (pc := 14) hx hb dX5_read_14 rfl (lv_at hl 0 rfl) ?_
      refine va_ldcS (pc := 15) (tx := "tgfrd") hx hb hown hE.2.2.2.2.2.2.1 dX5_read_15 ?_
      refine lv_aload_n (pc := 17) hx hb dX5_read_17 rfl (lv_at hl 1 rfl) ?_
      refine fget (pc := 18) (v := .ref (b 32)) hx hb hts hown hE hP fl_X5_34 1 rfl rfl dX5_read_18 ?_
      refine lv_iload_n (pc := 21) hx hb dX5_read_21 rfl (lv_at hl 2 rfl) ?_
      refine aldN (pc := 22) (f := cd) hx hb hE hP 2 rfl (k) (by omega) (by omega) dX5_read_22 ?_
      refine lv_i2c (pc := 23) (v := cd k) hx hb dX5_read_23 (i2c_pg hck) ?_
      refine rVs (pc := 24) (rest := [.ref ta]) ⟨hx, hb, hml, hown, hts⟩ (k_J0_indexOf (ch := cd k)) cw_X5_38 ⟨(Nat.le_of_ble_eq_true rfl), (Nat.le_of_ble_eq_true rfl)⟩ hE hS rfl rfl hl.1 rfl (Nat.le_of_ble_eq_true rfl) dX5_read_24 ⟨Nat.le_refl _, Nat.le_refl _⟩ ?_
      refine W.eq (g2 := F0 m 27 ls [.int (kindBy (cd k)), .ref ta]) rfl ?_
      refine fput (pc := 27) (v := .int (kindBy (cd k))) hx hb hts hown hE hP hD hS fp_X5_9 0 rfl rfl rfl (Nat.le_of_ble_eq_true rfl) dX5_read_27 (fun H locs hP hD hS => ?_)
      have hP : va_P D vwCl (wTp kI ta (kindBy (cd k)) f1 f2 f3 f4 f5 b cd ln) H := hP
      have hD : va_D A (wTp kI ta (kindBy (cd k)) f1 f2 f3 f4 f5 b cd ln) := hD
      refine lv_aload_n (pc := 30) hx hb dX5_read_30 rfl (lv_at hl 0 rfl) ?_
      refine lv_aload_n (pc := 31) hx hb dX5_read_31 rfl (lv_at hl 1 rfl) ?_
      refine fget (pc := 32) (v := .ref (b 32)) hx hb hts hown hE hP fl_X5_34 1 rfl rfl dX5_read_32 ?_
      refine lv_iload_n (pc := 35) hx hb dX5_read_35 rfl (lv_at hl 2 rfl) ?_
      refine lv_iconst (pc := 36) (v := 1) hx hb dX5_read_36 (by decide) ?_
      refine iaddV (pc := 37) (v := nI (k + 1)) hx hb dX5_read_37 (nI_add (k) (1)) ?_
      refine aldN (pc := 38) (f := cd) hx hb hE hP 2 rfl (k + 1) (by omega) (by omega) dX5_read_38 ?_
      refine lv_bipush (pc := 39) (v := 48) hx hb dX5_read_39 (by decide) ?_
      refine lv_isub (pc := 41) hx hb dX5_read_41 ?_
      refine fput (pc := 42) (v := .int ((cd (k + 1)) - 48)) hx hb hts hown hE hP hD hS fp_X5_15 0 rfl rfl rfl (Nat.le_of_ble_eq_true rfl) dX5_read_42 (fun H locs hP hD hS => ?_)
      have hP : va_P D vwCl (wTp kI ta (kindBy (cd k)) ((cd (k + 1)) - 48) f2 f3 f4 f5 b cd ln) H := hP
      have hD : va_D A (wTp kI ta (kindBy (cd k)) ((cd (k + 1)) - 48) f2 f3 f4 f5 b cd ln) := hD
      refine lv_aload_n (pc := 45) hx hb dX5_read_45 rfl (lv_at hl 0 rfl) ?_
      refine lv_aload_n (pc := 46) hx hb dX5_read_46 rfl (lv_at hl 1 rfl) ?_
      refine fget (pc := 47) (v := .ref (b 32)) hx hb hts hown hE hP fl_X5_34 1 rfl rfl dX5_read_47 ?_
      refine lv_iload_n (pc := 50) hx hb dX5_read_50 rfl (lv_at hl 2 rfl) ?_
      refine lv_iconst (pc := 51) (v := 2) hx hb dX5_read_51 (by decide) ?_
      refine iaddV (pc := 52) (v := nI (k + 2)) hx hb dX5_read_52 (nI_add (k) (2)) ?_
      refine aldN (pc := 53) (f := cd) hx hb hE hP 2 rfl (k + 2) (by omega) (by omega) dX5_read_53 ?_
      refine lv_bipush (pc := 54) (v := 48) hx hb dX5_read_54 (by decide) ?_
      refine lv_isub (pc := 56) hx hb dX5_read_56 ?_
      refine fput (pc := 57) (v := .int ((cd (k + 2)) - 48)) hx hb hts hown hE hP hD hS fp_X5_18 0 rfl rfl rfl (Nat.le_of_ble_eq_true rfl) dX5_read_57 (fun H locs hP hD hS => ?_)
      have hP : va_P D vwCl (wTp kI ta (kindBy (cd k)) ((cd (k + 1)) - 48) ((cd (k + 2)) - 48) f3 f4 f5 b cd ln) H := hP
      have hD : va_D A (wTp kI ta (kindBy (cd k)) ((cd (k + 1)) - 48) ((cd (k + 2)) - 48) f3 f4 f5 b cd ln) := hD
      refine lv_aload_n (pc := 60) hx hb dX5_read_60 rfl (lv_at hl 0 rfl) ?_
      refine lv_aload_n (pc := 61) hx hb dX5_read_61 rfl (lv_at hl 1 rfl) ?_
      refine fget (pc := 62) (v := .ref (b 32)) hx hb hts hown hE hP fl_X5_34 1 rfl rfl dX5_read_62 ?_
      refine lv_iload_n (pc := 65) hx hb dX5_read_65 rfl (lv_at hl 2 rfl) ?_
      refine lv_iconst (pc := 66) (v := 3) hx hb dX5_read_66 (by decide) ?_
      refine iaddV (pc := 67) (v := nI (k + 3)) hx hb dX5_read_67 (nI_add (k) (3)) ?_
      refine aldN (pc := 68) (f := cd) hx hb hE hP 2 rfl (k + 3) (by omega) (by omega) dX5_read_68 ?_
      refine lv_bipush (pc := 69) (v := 97) hx hb dX5_read_69 (by decide) ?_
      refine lv_isub (pc := 71) hx hb dX5_read_71 ?_
      refine fput (pc := 72) (v := .int ((cd (k + 3)) - 97)) hx hb hts hown hE hP hD hS fp_X5_21 0 rfl rfl rfl (Nat.le_of_ble_eq_true rfl) dX5_read_72 (fun H locs hP hD hS => ?_)
      have hP : va_P D vwCl (wTp kI ta (kindBy (cd k)) ((cd (k + 1)) - 48) ((cd (k + 2)) - 48) ((cd (k + 3)) - 97) f4 f5 b cd ln) H := hP
      have hD : va_D A (wTp kI ta (kindBy (cd k)) ((cd (k + 1)) - 48) ((cd (k + 2)) - 48) ((cd (k + 3)) - 97) f4 f5 b cd ln) := hD
      refine lv_aload_n (pc := 75) hx hb dX5_read_75 rfl (lv_at hl 0 rfl) ?_
      refine lv_aload_n (pc := 76) hx hb dX5_read_76 rfl (lv_at hl 1 rfl) ?_
      refine fget (pc := 77) (v := .ref (b 32)) hx hb hts hown hE hP fl_X5_34 1 rfl rfl dX5_read_77 ?_
      refine lv_iload_n (pc := 80) hx hb dX5_read_80 rfl (lv_at hl 2 rfl) ?_
      refine lv_iconst (pc := 81) (v := 4) hx hb dX5_read_81 (by decide) ?_
      refine iaddV (pc := 82) (v := nI (k + 4)) hx hb dX5_read_82 (nI_add (k) (4)) ?_
      refine aldN (pc := 83) (f := cd) hx hb hE hP 2 rfl (k + 4) (by omega) (by omega) dX5_read_83 ?_
      refine lv_bipush (pc := 84) (v := 97) hx hb dX5_read_84 (by decide) ?_
      refine lv_isub (pc := 86) hx hb dX5_read_86 ?_
      refine fput (pc := 87) (v := .int ((cd (k + 4)) - 97)) hx hb hts hown hE hP hD hS fp_X5_24 0 rfl rfl rfl (Nat.le_of_ble_eq_true rfl) dX5_read_87 (fun H locs hP hD hS => ?_)
      have hP : va_P D vwCl (wTp kI ta (kindBy (cd k)) ((cd (k + 1)) - 48) ((cd (k + 2)) - 48) ((cd (k + 3)) - 97) ((cd (k + 4)) - 97) f5 b cd ln) H := hP
      have hD : va_D A (wTp kI ta (kindBy (cd k)) ((cd (k + 1)) - 48) ((cd (k + 2)) - 48) ((cd (k + 3)) - 97) ((cd (k + 4)) - 97) f5 b cd ln) := hD
      refine lv_aload_n (pc := 90) hx hb dX5_read_90 rfl (lv_at hl 0 rfl) ?_
      refine lv_aload_n (pc := 91) hx hb dX5_read_91 rfl (lv_at hl 1 rfl) ?_
      refine fget (pc := 92) (v := .ref (b 32)) hx hb hts hown hE hP fl_X5_34 1 rfl rfl dX5_read_92 ?_
      refine lv_iload_n (pc := 95) hx hb dX5_read_95 rfl (lv_at hl 2 rfl) ?_
      refine lv_iconst (pc := 96) (v := 5) hx hb dX5_read_96 (by decide) ?_
      refine iaddV (pc := 97) (v := nI (k + 5)) hx hb dX5_read_97 (nI_add (k) (5)) ?_
      refine aldN (pc := 98) (f := cd) hx hb hE hP 2 rfl (k + 5) (by omega) (by omega) dX5_read_98 ?_
      refine lv_bipush (pc := 99) (v := 48) hx hb dX5_read_99 (by decide) ?_
      refine lv_isub (pc := 101) hx hb dX5_read_101 ?_
      refine fput (pc := 102) (v := .int ((cd (k + 5)) - 48)) hx hb hts hown hE hP hD hS fp_X5_27 0 rfl rfl rfl (Nat.le_of_ble_eq_true rfl) dX5_read_102 (fun H locs hP hD hS => ?_)
      have hP : va_P D vwCl (wTp kI ta (kindBy (cd k)) ((cd (k + 1)) - 48) ((cd (k + 2)) - 48) ((cd (k + 3)) - 97) ((cd (k + 4)) - 97) ((cd (k + 5)) - 48) b cd ln) H := hP
      have hD : va_D A (wTp kI ta (kindBy (cd k)) ((cd (k + 1)) - 48) ((cd (k + 2)) - 48) ((cd (k + 3)) - 97) ((cd (k + 4)) - 97) ((cd (k + 5)) - 48) b cd ln) := hD
      rw [hQ]; exact W.vret (pc := 105) hx hb hr (fun t9 ht _ => ⟨⟨rfl, by rw [ht]; exact hP⟩, hS.F ht⟩) hS.2.2 dX5_read_105 hlocks
    · exact absurd ((nI_leI (a := k + 7) (b := 40) (by omega) (by omega)).mpr (by omega)) c_2
set_option maxRecDepth 100000 in
set_option maxHeartbeats 4000000 in
theorem k_X6_read {x : Nat → Nat} {n : Int32} {c : Nat → Nat → Int32} {b : Nat → Nat} {cd : Nat → Int32} {ln : Int32} {pn : Nat} (hln : ln = nI pn) (hpn : pn ≤ 40) (hcd : ∀ k, k < pn → inR (cd k) 32 126) : MW l yX6_read cX6_read 3 none 5 128 D kB kI kT ks sk sv [.ref (x 7), .ref (b 31)] (wTsp kI kT x n c b cd ln) none (wTsp kI kT x (nI ((pn + 1) / 7)) (va_up (va_up (va_up (va_up (va_up (va_up c 2 (ovN (c 2) (fun i => kindBy (cd (i * 7))) ((pn + 1) / 7))) 3 (ovN (c 3) (fun i => cd (i * 7 + 1) - 48) ((pn + 1) / 7))) 4 (ovN (c 4) (fun i => cd (i * 7 + 2) - 48) ((pn + 1) / 7))) 5 (ovN (c 5) (fun i => cd (i * 7 + 3) - 97) ((pn + 1) / 7))) 6 (ovN (c 6) (fun i => cd (i * 7 + 4) - 97) ((pn + 1) / 7))) 7 (ovN (c 7) (fun i => cd (i * 7 + 5) - 48) ((pn + 1) / 7))) b cd ln) := by
  refine MW.go (by decide +kernel) (Nat.le_of_ble_eq_true rfl) ?_
  intro p e s m below meth c0 args Q ls A hQ hx hb hr hml hown hts hlocks hE hP hD hS hl
  have hl : lv_has ls 3 [(0, .ref (x 7)), (1, .ref (b 31))] := hl
  have hown : s.vm.findClass RX6 = some m.cls := hown
  refine lv_aload_n (pc := 0) hx hb dX6_read_0 rfl (lv_at hl 0 rfl) ?_
  refine lv_aload_n (pc := 1) hx hb dX6_read_1 rfl (lv_at hl 1 rfl) ?_
  refine fget (pc := 2) (v := .int ln) hx hb hts hown hE hP fl_X6_40 7 rfl rfl dX6_read_2 ?_
  refine vEq (v := nI pn) hln ?_
  refine lv_iconst (pc := 5) (v := 1) hx hb dX6_read_5 (by decide) ?_
  refine iaddV (pc := 6) (v := nI (pn + 1)) hx hb dX6_read_6 (nI_add (pn) (1)) ?_
  refine lv_bipush (pc := 7) (v := 7) hx hb dX6_read_7 (by decide) ?_
  refine idivV (pc := 9) (v := nI ((pn + 1) / 7)) hx hb dX6_read_9 (by decide) (pk_div (a := pn + 1) (d := 7) (by omega) (by omega) (by omega)) ?_
  refine lv_iconst (pc := 10) (v := 5) hx hb dX6_read_10 (by decide) ?_
  refine va_mmin (pc := 11) (x := nI ((pn + 1) / 7)) (y := 5) hx hb (hml.trans hl.1.symm) hown (hts _ cw_X6_45.1.1) (hts _ cw_X6_45.1.2.1) (hts _ cw_X6_45.1.2.2.1) (hts _ cw_X6_45.1.2.2.2) (Nat.le_of_ble_eq_true rfl) (Nat.le_of_ble_eq_true rfl) (Nat.le_refl _) (Nat.le_refl _) dX6_read_11 ?_
  refine vEq (v := nI ((pn + 1) / 7)) (min5 (by omega)) ?_
  refine fput (pc := 14) (v := .int (nI ((pn + 1) / 7))) hx hb hts hown hE hP hD hS fp_X6_18 0 rfl rfl rfl (Nat.le_of_ble_eq_true rfl) dX6_read_14 (fun H locs hP hD hS => ?_)
  have hP : va_P D vwCl (wTsp kI kT x (nI ((pn + 1) / 7)) c b cd ln) H := hP
  have hD : va_D A (wTsp kI kT x (nI ((pn + 1) / 7)) c b cd ln) := hD
  refine lv_iconst (pc := 17) (v := 0) hx hb dX6_read_17 (by decide) ?_
  refine lv_istore_n (pc := 18) (lv' := [(2, .int 0), (0, .ref (x 7)), (1, .ref (b 31))]) hx hb dX6_read_18 rfl hl (by decide) rfl (fun ls hl => ?_)
  refine lv_iload_n (pc := 19) hx hb dX6_read_19 rfl (lv_at hl 0 rfl) ?_
  refine lv_aload_n (pc := 20) hx hb dX6_read_20 rfl (lv_at hl 1 rfl) ?_
  refine fget (pc := 21) (v := .int (nI ((pn + 1) / 7))) hx hb hts hown hE hP fl_X6_18 0 rfl rfl dX6_read_21 ?_
  refine vEq (v := nI ((pn + 1) / 7)) rfl ?_
  refine lv_icmp_ge (pc := 24) (tgt := 47) hx hb dX6_read_24 (by decide) (fun c_1 => ?_) (fun c_1 => ?_)
  · skip
    have c_1n : ((pn + 1) / 7) ≤ 0 := (nI_leI (a := (pn + 1) / 7) (b := 0) (by omega) (by omega)).mp c_1
    rw [hQ]; exact W.vret (pc := 47) hx hb hr (fun t9 ht _ => ⟨⟨rfl, by rw [ht]; exact (by have e9 : (pn + 1) / 7 = 0 := (by omega); rw [e9] at hP; rw [e9, ovN_0 (c 2) (fun i => kindBy (cd (i * 7))), ovN_0 (c 3) (fun i => cd (i * 7 + 1) - 48), ovN_0 (c 4) (fun i => cd (i * 7 + 2) - 48), ovN_0 (c 5) (fun i => cd (i * 7 + 3) - 97), ovN_0 (c 6) (fun i => cd (i * 7 + 4) - 97), ovN_0 (c 7) (fun i => cd (i * 7 + 5) - 48), va_up_same c 2, va_up_same c 3, va_up_same c 4, va_up_same c 5, va_up_same c 6, va_up_same c 7]; exact hP)⟩, hS.F ht⟩) hS.2.2 dX6_read_47 hlocks
  · skip
    have c_1n : ¬ ((pn + 1) / 7) ≤ 0 := fun hh => c_1 ((nI_leI (a := (pn + 1) / 7) (b := 0) (by omega) (by omega)).mpr hh)
    refine lv_aload_n (pc := 27) hx hb dX6_read_27 rfl (lv_at hl 1 rfl) ?_
    refine fget (pc := 28) (v := .ref (x 8)) hx hb hts hown hE hP fl_X6_11 0 rfl rfl dX6_read_28 ?_
    refine lv_iload_n (pc := 31) hx hb dX6_read_31 rfl (lv_at hl 0 rfl) ?_
    refine aldR (pc := 32) (v := x 9) hx hb hE hP 1 rfl (0) ⟨by omega, by omega⟩ rfl dX6_read_32 ?_
    refine lv_aload_n (pc := 33) hx hb dX6_read_33 rfl (lv_at hl 2 rfl) ?_
    refine lv_iload_n (pc := 34) hx hb dX6_read_34 rfl (lv_at hl 0 rfl) ?_
    refine lv_bipush (pc := 35) (v := 7) hx hb dX6_read_35 (by decide) ?_
    refine imulV (pc := 37) (v := nI 0) hx hb dX6_read_37 (by decide) ?_
    refine wV (pc := 38) (rest := []) ⟨hx, hb, hml, hown, hts⟩ (k_X5_read (k := 0) (ta := x 9) (f0 := (c 2) 0) (f1 := (c 3) 0) (f2 := (c 4) 0) (f3 := (c 5) 0) (f4 := (c 6) 0) (f5 := (c 7) 0) (b := b) (cd := cd) (ln := ln) (hk := (by omega)) (hck := (hcd _ (by omega)))) cw_X6_51 ⟨(Nat.le_of_ble_eq_true rfl), (Nat.le_of_ble_eq_true rfl)⟩ hE hP hD hS [2, 7, 8] (by decide) rfl rfl rfl rfl rfl rfl hl.1 rfl (Nat.le_of_ble_eq_true rfl) dX6_read_38 ⟨Nat.le_refl _, Nat.le_refl _⟩ (fun H locs hP hD hS => ?_)
    have hP : va_P D vwCl (wTsp kI kT x (nI ((pn + 1) / 7)) (va_up (va_up (va_up (va_up (va_up (va_up c 2 (upd (c 2) 0 (kindBy (cd 0)))) 3 (upd (c 3) 0 (cd (0 + 1) - 48))) 4 (upd (c 4) 0 (cd (0 + 2) - 48))) 5 (upd (c 5) 0 (cd (0 + 3) - 97))) 6 (upd (c 6) 0 (cd (0 + 4) - 97))) 7 (upd (c 7) 0 (cd (0 + 5) - 48))) b cd ln) H := hP
    have hD : va_D A (wTsp kI kT x (nI ((pn + 1) / 7)) (va_up (va_up (va_up (va_up (va_up (va_up c 2 (upd (c 2) 0 (kindBy (cd 0)))) 3 (upd (c 3) 0 (cd (0 + 1) - 48))) 4 (upd (c 4) 0 (cd (0 + 2) - 48))) 5 (upd (c 5) 0 (cd (0 + 3) - 97))) 6 (upd (c 6) 0 (cd (0 + 4) - 97))) 7 (upd (c 7) 0 (cd (0 + 5) - 48))) b cd ln) := hD
    refine W.eq (g2 := F0 m 41 ls []) rfl ?_
    refine lv_iinc (pc := 41) (v := 1) (lv' := [(2, .int 1), (0, .ref (x 7)), (1, .ref (b 31))]) hx hb dX6_read_41 hl (k := 0) rfl (by decide) (by decide) rfl (fun ls hl => ?_)
    refine lv_goto (pc := 44) (tgt := 19) hx hb dX6_read_44 (by decide) ?_
    refine lv_iload_n (pc := 19) hx hb dX6_read_19 rfl (lv_at hl 0 rfl) ?_
    refine lv_aload_n (pc := 20) hx hb dX6_read_20 rfl (lv_at hl 1 rfl) ?_
    refine fget (pc := 21) (v := .int (nI ((pn + 1) / 7))) hx hb hts hown hE hP fl_X6_18 0 rfl rfl dX6_read_21 ?_
    refine vEq (v := nI ((pn + 1) / 7)) rfl ?_
    refine lv_icmp_ge (pc := 24) (tgt := 47) hx hb dX6_read_24 (by decide) (fun c_2 => ?_) (fun c_2 => ?_)
    · skip
      have c_2n : ((pn + 1) / 7) ≤ 1 := (nI_leI (a := (pn + 1) / 7) (b := 1) (by omega) (by omega)).mp c_2
      rw [hQ]; exact W.vret (pc := 47) hx hb hr (fun t9 ht _ => ⟨⟨rfl, by rw [ht]; exact (by have e9 : (pn + 1) / 7 = 1 := (by omega); rw [e9] at hP; rw [e9, ← ovN_s (c 2) (fun i => kindBy (cd (i * 7))) 0, ovN_0 (c 2) (fun i => kindBy (cd (i * 7))), ← ovN_s (c 3) (fun i => cd (i * 7 + 1) - 48) 0, ovN_0 (c 3) (fun i => cd (i * 7 + 1) - 48), ← ovN_s (c 4) (fun i => cd (i * 7 + 2) - 48) 0, ovN_0 (c 4) (fun i => cd (i * 7 + 2) - 48), ← ovN_s (c 5) (fun i => cd (i * 7 + 3) - 97) 0, ovN_0 (c 5) (fun i => cd (i * 7 + 3) - 97), ← ovN_s (c 6) (fun i => cd (i * 7 + 4) - 97) 0, ovN_0 (c 6) (fun i => cd (i * 7 + 4) - 97), ← ovN_s (c 7) (fun i => cd (i * 7 + 5) - 48) 0, ovN_0 (c 7) (fun i => cd (i * 7 + 5) - 48)]; exact hP)⟩, hS.F ht⟩) hS.2.2 dX6_read_47 hlocks
    · skip
      have c_2n : ¬ ((pn + 1) / 7) ≤ 1 := fun hh => c_2 ((nI_leI (a := (pn + 1) / 7) (b := 1) (by omega) (by omega)).mpr hh)
      refine lv_aload_n (pc := 27) hx hb dX6_read_27 rfl (lv_at hl 1 rfl) ?_
      refine fget (pc := 28) (v := .ref (x 8)) hx hb hts hown hE hP fl_X6_11 0 rfl rfl dX6_read_28 ?_
      refine lv_iload_n (pc := 31) hx hb dX6_read_31 rfl (lv_at hl 0 rfl) ?_
      refine aldR (pc := 32) (v := x 10) hx hb hE hP 1 rfl (1) ⟨by omega, by omega⟩ rfl dX6_read_32 ?_
      refine lv_aload_n (pc := 33) hx hb dX6_read_33 rfl (lv_at hl 2 rfl) ?_
      refine lv_iload_n (pc := 34) hx hb dX6_read_34 rfl (lv_at hl 0 rfl) ?_
      refine lv_bipush (pc := 35) (v := 7) hx hb dX6_read_35 (by decide) ?_
      refine imulV (pc := 37) (v := nI 7) hx hb dX6_read_37 (by decide) ?_
      refine wV (pc := 38) (rest := []) ⟨hx, hb, hml, hown, hts⟩ (k_X5_read (k := 7) (ta := x 10) (f0 := (upd (c 2) 0 (kindBy (cd 0))) 1) (f1 := (upd (c 3) 0 (cd (0 + 1) - 48)) 1) (f2 := (upd (c 4) 0 (cd (0 + 2) - 48)) 1) (f3 := (upd (c 5) 0 (cd (0 + 3) - 97)) 1) (f4 := (upd (c 6) 0 (cd (0 + 4) - 97)) 1) (f5 := (upd (c 7) 0 (cd (0 + 5) - 48)) 1) (b := b) (cd := cd) (ln := ln) (hk := (by omega)) (hck := (hcd _ (by omega)))) cw_X6_51 ⟨(Nat.le_of_ble_eq_true rfl), (Nat.le_of_ble_eq_true rfl)⟩ hE hP hD hS [3, 7, 8] (by decide) rfl rfl rfl rfl rfl rfl hl.1 rfl (Nat.le_of_ble_eq_true rfl) dX6_read_38 ⟨Nat.le_refl _, Nat.le_refl _⟩ (fun H locs hP hD hS => ?_)
      have hP : va_P D vwCl (wTsp kI kT x (nI ((pn + 1) / 7)) (va_up (va_up (va_up (va_up (va_up (va_up c 2 (upd (upd (c 2) 0 (kindBy (cd 0))) 1 (kindBy (cd 7)))) 3 (upd (upd (c 3) 0 (cd (0 + 1) - 48)) 1 (cd (7 + 1) - 48))) 4 (upd (upd (c 4) 0 (cd (0 + 2) - 48)) 1 (cd (7 + 2) - 48))) 5 (upd (upd (c 5) 0 (cd (0 + 3) - 97)) 1 (cd (7 + 3) - 97))) 6 (upd (upd (c 6) 0 (cd (0 + 4) - 97)) 1 (cd (7 + 4) - 97))) 7 (upd (upd (c 7) 0 (cd (0 + 5) - 48)) 1 (cd (7 + 5) - 48))) b cd ln) H := hP
      have hD : va_D A (wTsp kI kT x (nI ((pn + 1) / 7)) (va_up (va_up (va_up (va_up (va_up (va_up c 2 (upd (upd (c 2) 0 (kindBy (cd 0))) 1 (kindBy (cd 7)))) 3 (upd (upd (c 3) 0 (cd (0 + 1) - 48)) 1 (cd (7 + 1) - 48))) 4 (upd (upd (c 4) 0 (cd (0 + 2) - 48)) 1 (cd (7 + 2) - 48))) 5 (upd (upd (c 5) 0 (cd (0 + 3) - 97)) 1 (cd (7 + 3) - 97))) 6 (upd (upd (c 6) 0 (cd (0 + 4) - 97)) 1 (cd (7 + 4) - 97))) 7 (upd (upd (c 7) 0 (cd (0 + 5) - 48)) 1 (cd (7 + 5) - 48))) b cd ln) := hD
      refine W.eq (g2 := F0 m 41 ls []) rfl ?_
      refine lv_iinc (pc := 41) (v := 2) (lv' := [(2, .int 2), (0, .ref (x 7)), (1, .ref (b 31))]) hx hb dX6_read_41 hl (k := 0) rfl (by decide) (by decide) rfl (fun ls hl => ?_)
      refine lv_goto (pc := 44) (tgt := 19) hx hb dX6_read_44 (by decide) ?_
      refine lv_iload_n (pc := 19) hx hb dX6_read_19 rfl (lv_at hl 0 rfl) ?_
      refine lv_aload_n (pc := 20) hx hb dX6_read_20 rfl (lv_at hl 1 rfl) ?_
      refine fget (pc := 21) (v := .int (nI ((pn + 1) / 7))) hx hb hts hown hE hP fl_X6_18 0 rfl rfl dX6_read_21 ?_
      refine vEq (v := nI ((pn + 1) / 7)) rfl ?_
      refine lv_icmp_ge (pc := 24) (tgt := 47) hx hb dX6_read_24 (by decide) (fun c_3 => ?_) (fun c_3 => ?_)
      · skip
        have c_3n : ((pn + 1) / 7) ≤ 2 := (nI_leI (a := (pn + 1) / 7) (b := 2) (by omega) (by omega)).mp c_3
        rw [hQ]; exact W.vret (pc := 47) hx hb hr (fun t9 ht _ => ⟨⟨rfl, by rw [ht]; exact (by have e9 : (pn + 1) / 7 = 2 := (by omega); rw [e9] at hP; rw [e9, ← ovN_s (c 2) (fun i => kindBy (cd (i * 7))) 1, ← ovN_s (c 2) (fun i => kindBy (cd (i * 7))) 0, ovN_0 (c 2) (fun i => kindBy (cd (i * 7))), ← ovN_s (c 3) (fun i => cd (i * 7 + 1) - 48) 1, ← ovN_s (c 3) (fun i => cd (i * 7 + 1) - 48) 0, ovN_0 (c 3) (fun i => cd (i * 7 + 1) - 48), ← ovN_s (c 4) (fun i => cd (i * 7 + 2) - 48) 1, ← ovN_s (c 4) (fun i => cd (i * 7 + 2) - 48) 0, ovN_0 (c 4) (fun i => cd (i * 7 + 2) - 48), ← ovN_s (c 5) (fun i => cd (i * 7 + 3) - 97) 1, ← ovN_s (c 5) (fun i => cd (i * 7 + 3) - 97) 0, ovN_0 (c 5) (fun i => cd (i * 7 + 3) - 97), ← ovN_s (c 6) (fun i => cd (i * 7 + 4) - 97) 1, ← ovN_s (c 6) (fun i => cd (i * 7 + 4) - 97) 0, ovN_0 (c 6) (fun i => cd (i * 7 + 4) - 97), ← ovN_s (c 7) (fun i => cd (i * 7 + 5) - 48) 1, ← ovN_s (c 7) (fun i => cd (i * 7 + 5) - 48) 0, ovN_0 (c 7) (fun i => cd (i * 7 + 5) - 48)]; exact hP)⟩, hS.F ht⟩) hS.2.2 dX6_read_47 hlocks
      · skip
        have c_3n : ¬ ((pn + 1) / 7) ≤ 2 := fun hh => c_3 ((nI_leI (a := (pn + 1) / 7) (b := 2) (by omega) (by omega)).mpr hh)
        refine lv_aload_n (pc := 27) hx hb dX6_read_27 rfl (lv_at hl 1 rfl) ?_
        refine fget (pc := 28) (v := .ref (x 8)) hx hb hts hown hE hP fl_X6_11 0 rfl rfl dX6_read_28 ?_
        refine lv_iload_n (pc := 31) hx hb dX6_read_31 rfl (lv_at hl 0 rfl) ?_
        refine aldR (pc := 32) (v := x 11) hx hb hE hP 1 rfl (2) ⟨by omega, by omega⟩ rfl dX6_read_32 ?_
        refine lv_aload_n (pc := 33) hx hb dX6_read_33 rfl (lv_at hl 2 rfl) ?_
        refine lv_iload_n (pc := 34) hx hb dX6_read_34 rfl (lv_at hl 0 rfl) ?_
        refine lv_bipush (pc := 35) (v := 7) hx hb dX6_read_35 (by decide) ?_
        refine imulV (pc := 37) (v := nI 14) hx hb dX6_read_37 (by decide) ?_
        refine wV (pc := 38) (rest := []) ⟨hx, hb, hml, hown, hts⟩ (k_X5_read (k := 14) (ta := x 11) (f0 := (upd (upd (c 2) 0 (kindBy (cd 0))) 1 (kindBy (cd 7))) 2) (f1 := (upd (upd (c 3) 0 (cd (0 + 1) - 48)) 1 (cd (7 + 1) - 48)) 2) (f2 := (upd (upd (c 4) 0 (cd (0 + 2) - 48)) 1 (cd (7 + 2) - 48)) 2) (f3 := (upd (upd (c 5) 0 (cd (0 + 3) - 97)) 1 (cd (7 + 3) - 97)) 2) (f4 := (upd (upd (c 6) 0 (cd (0 + 4) - 97)) 1 (cd (7 + 4) - 97)) 2) (f5 := (upd (upd (c 7) 0 (cd (0 + 5) - 48)) 1 (cd (7 + 5) - 48)) 2) (b := b) (cd := cd) (ln := ln) (hk := (by omega)) (hck := (hcd _ (by omega)))) cw_X6_51 ⟨(Nat.le_of_ble_eq_true rfl), (Nat.le_of_ble_eq_true rfl)⟩ hE hP hD hS [4, 7, 8] (by decide) rfl rfl rfl rfl rfl rfl hl.1 rfl (Nat.le_of_ble_eq_true rfl) dX6_read_38 ⟨Nat.le_refl _, Nat.le_refl _⟩ (fun H locs hP hD hS => ?_)
        have hP : va_P D vwCl (wTsp kI kT x (nI ((pn + 1) / 7)) (va_up (va_up (va_up (va_up (va_up (va_up c 2 (upd (upd (upd (c 2) 0 (kindBy (cd 0))) 1 (kindBy (cd 7))) 2 (kindBy (cd 14)))) 3 (upd (upd (upd (c 3) 0 (cd (0 + 1) - 48)) 1 (cd (7 + 1) - 48)) 2 (cd (14 + 1) - 48))) 4 (upd (upd (upd (c 4) 0 (cd (0 + 2) - 48)) 1 (cd (7 + 2) - 48)) 2 (cd (14 + 2) - 48))) 5 (upd (upd (upd (c 5) 0 (cd (0 + 3) - 97)) 1 (cd (7 + 3) - 97)) 2 (cd (14 + 3) - 97))) 6 (upd (upd (upd (c 6) 0 (cd (0 + 4) - 97)) 1 (cd (7 + 4) - 97)) 2 (cd (14 + 4) - 97))) 7 (upd (upd (upd (c 7) 0 (cd (0 + 5) - 48)) 1 (cd (7 + 5) - 48)) 2 (cd (14 + 5) - 48))) b cd ln) H := hP
        have hD : va_D A (wTsp kI kT x (nI ((pn + 1) / 7)) (va_up (va_up (va_up (va_up (va_up (va_up c 2 (upd (upd (upd (c 2) 0 (kindBy (cd 0))) 1 (kindBy (cd 7))) 2 (kindBy (cd 14)))) 3 (upd (upd (upd (c 3) 0 (cd (0 + 1) - 48)) 1 (cd (7 + 1) - 48)) 2 (cd (14 + 1) - 48))) 4 (upd (upd (upd (c 4) 0 (cd (0 + 2) - 48)) 1 (cd (7 + 2) - 48)) 2 (cd (14 + 2) - 48))) 5 (upd (upd (upd (c 5) 0 (cd (0 + 3) - 97)) 1 (cd (7 + 3) - 97)) 2 (cd (14 + 3) - 97))) 6 (upd (upd (upd (c 6) 0 (cd (0 + 4) - 97)) 1 (cd (7 + 4) - 97)) 2 (cd (14 + 4) - 97))) 7 (upd (upd (upd (c 7) 0 (cd (0 + 5) - 48)) 1 (cd (7 + 5) - 48)) 2 (cd (14 + 5) - 48))) b cd ln) := hD
        refine W.eq (g2 := F0 m 41 ls []) rfl ?_
        refine lv_iinc (pc := 41) (v := 3) (lv' := [(2, .int 3), (0, .ref (x 7)), (1, .ref (b 31))]) hx hb dX6_read_41 hl (k := 0) rfl (by decide) (by decide) rfl (fun ls hl => ?_)
        refine lv_goto (pc := 44) (tgt := 19) hx hb dX6_read_44 (by decide) ?_
        refine lv_iload_n (pc := 19) hx hb dX6_read_19 rfl (lv_at hl 0 rfl) ?_
        refine lv_aload_n (pc := 20) hx hb dX6_read_20 rfl (lv_at hl 1 rfl) ?_
        refine fget (pc := 21) (v := .int (nI ((pn + 1) / 7))) hx hb hts hown hE hP fl_X6_18 0 rfl rfl dX6_read_21 ?_
        refine vEq (v := nI ((pn + 1) / 7)) rfl ?_
        refine lv_icmp_ge (pc := 24) (tgt := 47) hx hb dX6_read_24 (by decide) (fun c_4 => ?_) (fun c_4 => ?_)
        · skip
          have c_4n : ((pn + 1) / 7) ≤ 3 := (nI_leI (a := (pn + 1) / 7) (b := 3) (by omega) (by omega)).mp c_4
          rw [hQ]; exact W.vret (pc := 47) hx hb hr (fun t9 ht _ => ⟨⟨rfl, by rw [ht]; exact (by have e9 : (pn + 1) / 7 = 3 := (by omega); rw [e9] at hP; rw [e9, ← ovN_s (c 2) (fun i => kindBy (cd (i * 7))) 2, ← ovN_s (c 2) (fun i => kindBy (cd (i * 7))) 1, ← ovN_s (c 2) (fun i => kindBy (cd (i * 7))) 0, ovN_0 (c 2) (fun i => kindBy (cd (i * 7))), ← ovN_s (c 3) (fun i => cd (i * 7 + 1) - 48) 2, ← ovN_s (c 3) (fun i => cd (i * 7 + 1) - 48) 1, ← ovN_s (c 3) (fun i => cd (i * 7 + 1) - 48) 0, ovN_0 (c 3) (fun i => cd (i * 7 + 1) - 48), ← ovN_s (c 4) (fun i => cd (i * 7 + 2) - 48) 2, ← ovN_s (c 4) (fun i => cd (i * 7 + 2) - 48) 1, ← ovN_s (c 4) (fun i => cd (i * 7 + 2) - 48) 0, ovN_0 (c 4) (fun i => cd (i * 7 + 2) - 48), ← ovN_s (c 5) (fun i => cd (i * 7 + 3) - 97) 2, ← ovN_s (c 5) (fun i => cd (i * 7 + 3) - 97) 1, ← ovN_s (c 5) (fun i => cd (i * 7 + 3) - 97) 0, ovN_0 (c 5) (fun i => cd (i * 7 + 3) - 97), ← ovN_s (c 6) (fun i => cd (i * 7 + 4) - 97) 2, ← ovN_s (c 6) (fun i => cd (i * 7 + 4) - 97) 1, ← ovN_s (c 6) (fun i => cd (i * 7 + 4) - 97) 0, ovN_0 (c 6) (fun i => cd (i * 7 + 4) - 97), ← ovN_s (c 7) (fun i => cd (i * 7 + 5) - 48) 2, ← ovN_s (c 7) (fun i => cd (i * 7 + 5) - 48) 1, ← ovN_s (c 7) (fun i => cd (i * 7 + 5) - 48) 0, ovN_0 (c 7) (fun i => cd (i * 7 + 5) - 48)]; exact hP)⟩, hS.F ht⟩) hS.2.2 dX6_read_47 hlocks
        · skip
          have c_4n : ¬ ((pn + 1) / 7) ≤ 3 := fun hh => c_4 ((nI_leI (a := (pn + 1) / 7) (b := 3) (by omega) (by omega)).mpr hh)
          refine lv_aload_n (pc := 27) hx hb dX6_read_27 rfl (lv_at hl 1 rfl) ?_
          refine fget (pc := 28) (v := .ref (x 8)) hx hb hts hown hE hP fl_X6_11 0 rfl rfl dX6_read_28 ?_
          refine lv_iload_n (pc := 31) hx hb dX6_read_31 rfl (lv_at hl 0 rfl) ?_
          refine aldR (pc := 32) (v := x 12) hx hb hE hP 1 rfl (3) ⟨by omega, by omega⟩ rfl dX6_read_32 ?_
          refine lv_aload_n (pc := 33) hx hb dX6_read_33 rfl (lv_at hl 2 rfl) ?_
          refine lv_iload_n (pc := 34) hx hb dX6_read_34 rfl (lv_at hl 0 rfl) ?_
          refine lv_bipush (pc := 35) (v := 7) hx hb dX6_read_35 (by decide) ?_
          refine imulV (pc := 37) (v := nI 21) hx hb dX6_read_37 (by decide) ?_
          refine wV (pc := 38) (rest := []) ⟨hx, hb, hml, hown, hts⟩ (k_X5_read (k := 21) (ta := x 12) (f0 := (upd (upd (upd (c 2) 0 (kindBy (cd 0))) 1 (kindBy (cd 7))) 2 (kindBy (cd 14))) 3) (f1 := (upd (upd (upd (c 3) 0 (cd (0 + 1) - 48)) 1 (cd (7 + 1) - 48)) 2 (cd (14 + 1) - 48)) 3) (f2 := (upd (upd (upd (c 4) 0 (cd (0 + 2) - 48)) 1 (cd (7 + 2) - 48)) 2 (cd (14 + 2) - 48)) 3) (f3 := (upd (upd (upd (c 5) 0 (cd (0 + 3) - 97)) 1 (cd (7 + 3) - 97)) 2 (cd (14 + 3) - 97)) 3) (f4 := (upd (upd (upd (c 6) 0 (cd (0 + 4) - 97)) 1 (cd (7 + 4) - 97)) 2 (cd (14 + 4) - 97)) 3) (f5 := (upd (upd (upd (c 7) 0 (cd (0 + 5) - 48)) 1 (cd (7 + 5) - 48)) 2 (cd (14 + 5) - 48)) 3) (b := b) (cd := cd) (ln := ln) (hk := (by omega)) (hck := (hcd _ (by omega)))) cw_X6_51 ⟨(Nat.le_of_ble_eq_true rfl), (Nat.le_of_ble_eq_true rfl)⟩ hE hP hD hS [5, 7, 8] (by decide) rfl rfl rfl rfl rfl rfl hl.1 rfl (Nat.le_of_ble_eq_true rfl) dX6_read_38 ⟨Nat.le_refl _, Nat.le_refl _⟩ (fun H locs hP hD hS => ?_)
          have hP : va_P D vwCl (wTsp kI kT x (nI ((pn + 1) / 7)) (va_up (va_up (va_up (va_up (va_up (va_up c 2 (upd (upd (upd (upd (c 2) 0 (kindBy (cd 0))) 1 (kindBy (cd 7))) 2 (kindBy (cd 14))) 3 (kindBy (cd 21)))) 3 (upd (upd (upd (upd (c 3) 0 (cd (0 + 1) - 48)) 1 (cd (7 + 1) - 48)) 2 (cd (14 + 1) - 48)) 3 (cd (21 + 1) - 48))) 4 (upd (upd (upd (upd (c 4) 0 (cd (0 + 2) - 48)) 1 (cd (7 + 2) - 48)) 2 (cd (14 + 2) - 48)) 3 (cd (21 + 2) - 48))) 5 (upd (upd (upd (upd (c 5) 0 (cd (0 + 3) - 97)) 1 (cd (7 + 3) - 97)) 2 (cd (14 + 3) - 97)) 3 (cd (21 + 3) - 97))) 6 (upd (upd (upd (upd (c 6) 0 (cd (0 + 4) - 97)) 1 (cd (7 + 4) - 97)) 2 (cd (14 + 4) - 97)) 3 (cd (21 + 4) - 97))) 7 (upd (upd (upd (upd (c 7) 0 (cd (0 + 5) - 48)) 1 (cd (7 + 5) - 48)) 2 (cd (14 + 5) - 48)) 3 (cd (21 + 5) - 48))) b cd ln) H := hP
          have hD : va_D A (wTsp kI kT x (nI ((pn + 1) / 7)) (va_up (va_up (va_up (va_up (va_up (va_up c 2 (upd (upd (upd (upd (c 2) 0 (kindBy (cd 0))) 1 (kindBy (cd 7))) 2 (kindBy (cd 14))) 3 (kindBy (cd 21)))) 3 (upd (upd (upd (upd (c 3) 0 (cd (0 + 1) - 48)) 1 (cd (7 + 1) - 48)) 2 (cd (14 + 1) - 48)) 3 (cd (21 + 1) - 48))) 4 (upd (upd (upd (upd (c 4) 0 (cd (0 + 2) - 48)) 1 (cd (7 + 2) - 48)) 2 (cd (14 + 2) - 48)) 3 (cd (21 + 2) - 48))) 5 (upd (upd (upd (upd (c 5) 0 (cd (0 + 3) - 97)) 1 (cd (7 + 3) - 97)) 2 (cd (14 + 3) - 97)) 3 (cd (21 + 3) - 97))) 6 (upd (upd (upd (upd (c 6) 0 (cd (0 + 4) - 97)) 1 (cd (7 + 4) - 97)) 2 (cd (14 + 4) - 97)) 3 (cd (21 + 4) - 97))) 7 (upd (upd (upd (upd (c 7) 0 (cd (0 + 5) - 48)) 1 (cd (7 + 5) - 48)) 2 (cd (14 + 5) - 48)) 3 (cd (21 + 5) - 48))) b cd ln) := hD
          refine W.eq (g2 := F0 m 41 ls []) rfl ?_
          refine lv_iinc (pc := 41) (v := 4) (lv' := [(2, .int 4), (0, .ref (x 7)), (1, .ref (b 31))]) hx hb dX6_read_41 hl (k := 0) rfl (by decide) (by decide) rfl (fun ls hl => ?_)
          refine lv_goto (pc := 44) (tgt := 19) hx hb dX6_read_44 (by decide) ?_
          refine lv_iload_n (pc := 19) hx hb dX6_read_19 rfl (lv_at hl 0 rfl) ?_
          refine lv_aload_n (pc := 20) hx hb dX6_read_20 rfl (lv_at hl 1 rfl) ?_
          refine fget (pc := 21) (v := .int (nI ((pn + 1) / 7))) hx hb hts hown hE hP fl_X6_18 0 rfl rfl dX6_read_21 ?_
          refine vEq (v := nI ((pn + 1) / 7)) rfl ?_
          refine lv_icmp_ge (pc := 24) (tgt := 47) hx hb dX6_read_24 (by decide) (fun c_5 => ?_) (fun c_5 => ?_)
          · skip
            have c_5n : ((pn + 1) / 7) ≤ 4 := (nI_leI (a := (pn + 1) / 7) (b := 4) (by omega) (by omega)).mp c_5
            rw [hQ]; exact W.vret (pc := 47) hx hb hr (fun t9 ht _ => ⟨⟨rfl, by rw [ht]; exact (by have e9 : (pn + 1) / 7 = 4 := (by omega); rw [e9] at hP; rw [e9, ← ovN_s (c 2) (fun i => kindBy (cd (i * 7))) 3, ← ovN_s (c 2) (fun i => kindBy (cd (i * 7))) 2, ← ovN_s (c 2) (fun i => kindBy (cd (i * 7))) 1, ← ovN_s (c 2) (fun i => kindBy (cd (i * 7))) 0, ovN_0 (c 2) (fun i => kindBy (cd (i * 7))), ← ovN_s (c 3) (fun i => cd (i * 7 + 1) - 48) 3, ← ovN_s (c 3) (fun i => cd (i * 7 + 1) - 48) 2, ← ovN_s (c 3) (fun i => cd (i * 7 + 1) - 48) 1, ← ovN_s (c 3) (fun i => cd (i * 7 + 1) - 48) 0, ovN_0 (c 3) (fun i => cd (i * 7 + 1) - 48), ← ovN_s (c 4) (fun i => cd (i * 7 + 2) - 48) 3, ← ovN_s (c 4) (fun i => cd (i * 7 + 2) - 48) 2, ← ovN_s (c 4) (fun i => cd (i * 7 + 2) - 48) 1, ← ovN_s (c 4) (fun i => cd (i * 7 + 2) - 48) 0, ovN_0 (c 4) (fun i => cd (i * 7 + 2) - 48), ← ovN_s (c 5) (fun i => cd (i * 7 + 3) - 97) 3, ← ovN_s (c 5) (fun i => cd (i * 7 + 3) - 97) 2, ← ovN_s (c 5) (fun i => cd (i * 7 + 3) - 97) 1, ← ovN_s (c 5) (fun i => cd (i * 7 + 3) - 97) 0, ovN_0 (c 5) (fun i => cd (i * 7 + 3) - 97), ← ovN_s (c 6) (fun i => cd (i * 7 + 4) - 97) 3, ← ovN_s (c 6) (fun i => cd (i * 7 + 4) - 97) 2, ← ovN_s (c 6) (fun i => cd (i * 7 + 4) - 97) 1, ← ovN_s (c 6) (fun i => cd (i * 7 + 4) - 97) 0, ovN_0 (c 6) (fun i => cd (i * 7 + 4) - 97), ← ovN_s (c 7) (fun i => cd (i * 7 + 5) - 48) 3, ← ovN_s (c 7) (fun i => cd (i * 7 + 5) - 48) 2, ← ovN_s (c 7) (fun i => cd (i * 7 + 5) - 48) 1, ← ovN_s (c 7) (fun i => cd (i * 7 + 5) - 48) 0, ovN_0 (c 7) (fun i => cd (i * 7 + 5) - 48)]; exact hP)⟩, hS.F ht⟩) hS.2.2 dX6_read_47 hlocks
          · skip
            have c_5n : ¬ ((pn + 1) / 7) ≤ 4 := fun hh => c_5 ((nI_leI (a := (pn + 1) / 7) (b := 4) (by omega) (by omega)).mpr hh)
            refine lv_aload_n (pc := 27) hx hb dX6_read_27 rfl (lv_at hl 1 rfl) ?_
            refine fget (pc := 28) (v := .ref (x 8)) hx hb hts hown hE hP fl_X6_11 0 rfl rfl dX6_read_28 ?_
            refine lv_iload_n (pc := 31) hx hb dX6_read_31 rfl (lv_at hl 0 rfl) ?_
            refine aldR (pc := 32) (v := x 13) hx hb hE hP 1 rfl (4) ⟨by omega, by omega⟩ rfl dX6_read_32 ?_
            refine lv_aload_n (pc := 33) hx hb dX6_read_33 rfl (lv_at hl 2 rfl) ?_
            refine lv_iload_n (pc := 34) hx hb dX6_read_34 rfl (lv_at hl 0 rfl) ?_
            refine lv_bipush (pc := 35) (v := 7) hx hb dX6_read_35 (by decide) ?_
            refine imulV (pc := 37) (v := nI 28) hx hb dX6_read_37 (by decide) ?_
            refine wV (pc := 38) (rest := []) ⟨hx, hb, hml, hown, hts⟩ (k_X5_read (k := 28) (ta := x 13) (f0 := (upd (upd (upd (upd (c 2) 0 (kindBy (cd 0))) 1 (kindBy (cd 7))) 2 (kindBy (cd 14))) 3 (kindBy (cd 21))) 4) (f1 := (upd (upd (upd (upd (c 3) 0 (cd (0 + 1) - 48)) 1 (cd (7 + 1) - 48)) 2 (cd (14 + 1) - 48)) 3 (cd (21 + 1) - 48)) 4) (f2 := (upd (upd (upd (upd (c 4) 0 (cd (0 + 2) - 48)) 1 (cd (7 + 2) - 48)) 2 (cd (14 + 2) - 48)) 3 (cd (21 + 2) - 48)) 4) (f3 := (upd (upd (upd (upd (c 5) 0 (cd (0 + 3) - 97)) 1 (cd (7 + 3) - 97)) 2 (cd (14 + 3) - 97)) 3 (cd (21 + 3) - 97)) 4) (f4 := (upd (upd (upd (upd (c 6) 0 (cd (0 + 4) - 97)) 1 (cd (7 + 4) - 97)) 2 (cd (14 + 4) - 97)) 3 (cd (21 + 4) - 97)) 4) (f5 := (upd (upd (upd (upd (c 7) 0 (cd (0 + 5) - 48)) 1 (cd (7 + 5) - 48)) 2 (cd (14 + 5) - 48)) 3 (cd (21 + 5) - 48)) 4) (b := b) (cd := cd) (ln := ln) (hk := (by omega)) (hck := (hcd _ (by omega)))) cw_X6_51 ⟨(Nat.le_of_ble_eq_true rfl), (Nat.le_of_ble_eq_true rfl)⟩ hE hP hD hS [6, 7, 8] (by decide) rfl rfl rfl rfl rfl rfl hl.1 rfl (Nat.le_of_ble_eq_true rfl) dX6_read_38 ⟨Nat.le_refl _, Nat.le_refl _⟩ (fun H locs hP hD hS => ?_)
            have hP : va_P D vwCl (wTsp kI kT x (nI ((pn + 1) / 7)) (va_up (va_up (va_up (va_up (va_up (va_up c 2 (upd (upd (upd (upd (upd (c 2) 0 (kindBy (cd 0))) 1 (kindBy (cd 7))) 2 (kindBy (cd 14))) 3 (kindBy (cd 21))) 4 (kindBy (cd 28)))) 3 (upd (upd (upd (upd (upd (c 3) 0 (cd (0 + 1) - 48)) 1 (cd (7 + 1) - 48)) 2 (cd (14 + 1) - 48)) 3 (cd (21 + 1) - 48)) 4 (cd (28 + 1) - 48))) 4 (upd (upd (upd (upd (upd (c 4) 0 (cd (0 + 2) - 48)) 1 (cd (7 + 2) - 48)) 2 (cd (14 + 2) - 48)) 3 (cd (21 + 2) - 48)) 4 (cd (28 + 2) - 48))) 5 (upd (upd (upd (upd (upd (c 5) 0 (cd (0 + 3) - 97)) 1 (cd (7 + 3) - 97)) 2 (cd (14 + 3) - 97)) 3 (cd (21 + 3) - 97)) 4 (cd (28 + 3) - 97))) 6 (upd (upd (upd (upd (upd (c 6) 0 (cd (0 + 4) - 97)) 1 (cd (7 + 4) - 97)) 2 (cd (14 + 4) - 97)) 3 (cd (21 + 4) - 97)) 4 (cd (28 + 4) - 97))) 7 (upd (upd (upd (upd (upd (c 7) 0 (cd (0 + 5) - 48)) 1 (cd (7 + 5) - 48)) 2 (cd (14 + 5) - 48)) 3 (cd (21 + 5) - 48)) 4 (cd (28 + 5) - 48))) b cd ln) H := hP
            have hD : va_D A (wTsp kI kT x (nI ((pn + 1) / 7)) (va_up (va_up (va_up (va_up (va_up (va_up c 2 (upd (upd (upd (upd (upd (c 2) 0 (kindBy (cd 0))) 1 (kindBy (cd 7))) 2 (kindBy (cd 14))) 3 (kindBy (cd 21))) 4 (kindBy (cd 28)))) 3 (upd (upd (upd (upd (upd (c 3) 0 (cd (0 + 1) - 48)) 1 (cd (7 + 1) - 48)) 2 (cd (14 + 1) - 48)) 3 (cd (21 + 1) - 48)) 4 (cd (28 + 1) - 48))) 4 (upd (upd (upd (upd (upd (c 4) 0 (cd (0 + 2) - 48)) 1 (cd (7 + 2) - 48)) 2 (cd (14 + 2) - 48)) 3 (cd (21 + 2) - 48)) 4 (cd (28 + 2) - 48))) 5 (upd (upd (upd (upd (upd (c 5) 0 (cd (0 + 3) - 97)) 1 (cd (7 + 3) - 97)) 2 (cd (14 + 3) - 97)) 3 (cd (21 + 3) - 97)) 4 (cd (28 + 3) - 97))) 6 (upd (upd (upd (upd (upd (c 6) 0 (cd (0 + 4) - 97)) 1 (cd (7 + 4) - 97)) 2 (cd (14 + 4) - 97)) 3 (cd (21 + 4) - 97)) 4 (cd (28 + 4) - 97))) 7 (upd (upd (upd (upd (upd (c 7) 0 (cd (0 + 5) - 48)) 1 (cd (7 + 5) - 48)) 2 (cd (14 + 5) - 48)) 3 (cd (21 + 5) - 48)) 4 (cd (28 + 5) - 48))) b cd ln) := hD
            refine W.eq (g2 := F0 m 41 ls []) rfl ?_
            refine lv_iinc (pc := 41) (v := 5) (lv' := [(2, .int 5), (0, .ref (x 7)), (1, .ref (b 31))]) hx hb dX6_read_41 hl (k := 0) rfl (by decide) (by decide) rfl (fun ls hl => ?_)
            refine lv_goto (pc := 44) (tgt := 19) hx hb dX6_read_44 (by decide) ?_
            refine lv_iload_n (pc := 19) hx hb dX6_read_19 rfl (lv_at hl 0 rfl) ?_
            refine lv_aload_n (pc := 20) hx hb dX6_read_20 rfl (lv_at hl 1 rfl) ?_
            refine fget (pc := 21) (v := .int (nI ((pn + 1) / 7))) hx hb hts hown hE hP fl_X6_18 0 rfl rfl dX6_read_21 ?_
            refine vEq (v := nI ((pn + 1) / 7)) rfl ?_
            refine lv_icmp_ge (pc := 24) (tgt := 47) hx hb dX6_read_24 (by decide) (fun c_6 => ?_) (fun c_6 => ?_)
            · skip
              have c_6n : ((pn + 1) / 7) ≤ 5 := (nI_leI (a := (pn + 1) / 7) (b := 5) (by omega) (by omega)).mp c_6
              rw [hQ]; exact W.vret (pc := 47) hx hb hr (fun t9 ht _ => ⟨⟨rfl, by rw [ht]; exact (by have e9 : (pn + 1) / 7 = 5 := (by omega); rw [e9] at hP; rw [e9, ← ovN_s (c 2) (fun i => kindBy (cd (i * 7))) 4, ← ovN_s (c 2) (fun i => kindBy (cd (i * 7))) 3, ← ovN_s (c 2) (fun i => kindBy (cd (i * 7))) 2, ← ovN_s (c 2) (fun i => kindBy (cd (i * 7))) 1, ← ovN_s (c 2) (fun i => kindBy (cd (i * 7))) 0, ovN_0 (c 2) (fun i => kindBy (cd (i * 7))), ← ovN_s (c 3) (fun i => cd (i * 7 + 1) - 48) 4, ← ovN_s (c 3) (fun i => cd (i * 7 + 1) - 48) 3, ← ovN_s (c 3) (fun i => cd (i * 7 + 1) - 48) 2, ← ovN_s (c 3) (fun i => cd (i * 7 + 1) - 48) 1, ← ovN_s (c 3) (fun i => cd (i * 7 + 1) - 48) 0, ovN_0 (c 3) (fun i => cd (i * 7 + 1) - 48), ← ovN_s (c 4) (fun i => cd (i * 7 + 2) - 48) 4, ← ovN_s (c 4) (fun i => cd (i * 7 + 2) - 48) 3, ← ovN_s (c 4) (fun i => cd (i * 7 + 2) - 48) 2, ← ovN_s (c 4) (fun i => cd (i * 7 + 2) - 48) 1, ← ovN_s (c 4) (fun i => cd (i * 7 + 2) - 48) 0, ovN_0 (c 4) (fun i => cd (i * 7 + 2) - 48), ← ovN_s (c 5) (fun i => cd (i * 7 + 3) - 97) 4, ← ovN_s (c 5) (fun i => cd (i * 7 + 3) - 97) 3, ← ovN_s (c 5) (fun i => cd (i * 7 + 3) - 97) 2, ← ovN_s (c 5) (fun i => cd (i * 7 + 3) - 97) 1, ← ovN_s (c 5) (fun i => cd (i * 7 + 3) - 97) 0, ovN_0 (c 5) (fun i => cd (i * 7 + 3) - 97), ← ovN_s (c 6) (fun i => cd (i * 7 + 4) - 97) 4, ← ovN_s (c 6) (fun i => cd (i * 7 + 4) - 97) 3, ← ovN_s (c 6) (fun i => cd (i * 7 + 4) - 97) 2, ← ovN_s (c 6) (fun i => cd (i * 7 + 4) - 97) 1, ← ovN_s (c 6) (fun i => cd (i * 7 + 4) - 97) 0, ovN_0 (c 6) (fun i => cd (i * 7 + 4) - 97), ← ovN_s (c 7) (fun i => cd (i * 7 + 5) - 48) 4, ← ovN_s (c 7) (fun i => cd (i * 7 + 5) - 48) 3, ← ovN_s (c 7) (fun i => cd (i * 7 + 5) - 48) 2, ← ovN_s (c 7) (fun i => cd (i * 7 + 5) - 48) 1, ← ovN_s (c 7) (fun i => cd (i * 7 + 5) - 48) 0, ovN_0 (c 7) (fun i => cd (i * 7 + 5) - 48)]; exact hP)⟩, hS.F ht⟩) hS.2.2 dX6_read_47 hlocks
            · exact absurd ((nI_leI (a := (pn + 1) / 7) (b := 5) (by omega) (by omega)).mpr (by omega)) c_6
set_option maxRecDepth 100000 in
set_option maxHeartbeats 4000000 in
theorem k_X7_kindsLeft (w : Nat) (could : Int32) (hw : w < 4) : MR l yX7_kindsLeft cX7_kindsLeft 2 (some .int) 0 0 D kB kI kT ks sk sv [.int (nI w), .int could] ([]) (some (.int (klS w could))) := by
  refine MR.go (by decide +kernel) (Nat.le_of_ble_eq_true rfl) ?_
  intro p e s m below meth c0 args Q ls hQ hx hb hr hml hown hts hlocks hE hP hS hl
  have hl : lv_has ls 2 [(0, .int (nI w)), (1, .int could)] := hl
  have hown : s.vm.findClass RX7 = some m.cls := hown
  refine lv_iload_n (pc := 0) hx hb dX7_kindsLeft_0 rfl (lv_at hl 1 rfl) ?_
  refine lv_if_eq (pc := 1) (tgt := 12) hx hb dX7_kindsLeft_1 (by decide) (fun c_1 => ?_) (fun c_1 => ?_)
  · skip
    refine lv_bipush (pc := 12) (v := 31) hx hb dX7_kindsLeft_12 (by decide) ?_
    refine va_gets (pc := 14) hx hb hE.2.2.1 hS hown (hts _ gs_X7_241) (fun _ q => q) dX7_kindsLeft_14 ?_
    refine lv_iload_n (pc := 17) hx hb dX7_kindsLeft_17 rfl (lv_at hl 0 rfl) ?_
    refine va_ti (pc := 18) hx hb hE.2.2.2.1 hS (i := nI w) (v := .int (kso w)) (vp_in_nI (by omega) (by omega)) (by rw [nI_clamp (by omega)]) dX7_kindsLeft_18 ?_
    refine lv_iconst (pc := 19) (v := (-1)) hx hb dX7_kindsLeft_19 (by decide) ?_
    refine lv_ixor (pc := 20) hx hb dX7_kindsLeft_20 ?_
    refine lv_iand (pc := 21) hx hb dX7_kindsLeft_21 ?_
    rw [hQ]; exact W.iret (pc := 22) hx hb hr (fun t9 ht _ => ⟨retI (by rw [klS, if_pos c_1]), ht⟩) (fun _ h => nomatch h) dX7_kindsLeft_22 hlocks
  · skip
    refine va_gets (pc := 4) hx hb hE.2.2.1 hS hown (hts _ gs_X7_241) (fun _ q => q) dX7_kindsLeft_4 ?_
    refine lv_iload_n (pc := 7) hx hb dX7_kindsLeft_7 rfl (lv_at hl 0 rfl) ?_
    refine va_ti (pc := 8) hx hb hE.2.2.2.1 hS (i := nI w) (v := .int (kso w)) (vp_in_nI (by omega) (by omega)) (by rw [nI_clamp (by omega)]) dX7_kindsLeft_8 ?_
    refine lv_goto (pc := 9) (tgt := 22) hx hb dX7_kindsLeft_9 (by decide) ?_
    rw [hQ]; exact W.iret (pc := 22) hx hb hr (fun t9 ht _ => ⟨retI (by rw [klS, if_neg c_1]), ht⟩) (fun _ h => nomatch h) dX7_kindsLeft_22 hlocks
set_option maxRecDepth 100000 in
set_option maxHeartbeats 4000000 in
theorem k_X7_ask (v : Int32) : MR l yX7_ask cX7_ask 7 (some .int) 1 40 D kB kI kT ks sk sv [.int v] ([]) (some (.int (askCS v))) := by
  refine MR.go (by decide +kernel) (Nat.le_of_ble_eq_true rfl) ?_
  intro p e s m below meth c0 args Q ls hQ hx hb hr hml hown hts hlocks hE hP hS hl
  have hl : lv_has ls 7 [(0, .int v)] := hl
  have hown : s.vm.findClass RX7 = some m.cls := hown
  refine lv_iload_n (pc := 0) hx hb dX7_ask_0 rfl (lv_at hl 0 rfl) ?_
  refine lv_if_ne (pc := 1) (tgt := 6) hx hb dX7_ask_1 (by decide) (fun c_1 => ?_) (fun c_1 => ?_)
  · skip
    refine lv_iconst (pc := 6) (v := (-1)) hx hb dX7_ask_6 (by decide) ?_
    refine lv_istore_n (pc := 7) (lv' := [(1, .int (-1)), (0, .int v)]) hx hb dX7_ask_7 rfl hl (by decide) rfl (fun ls hl => ?_)
    refine lv_bipush (pc := 8) (v := 6) hx hb dX7_ask_8 (by decide) ?_
    refine lv_istore_n (pc := 10) (lv' := [(2, .int 6), (1, .int (-1)), (0, .int v)]) hx hb dX7_ask_10 rfl hl (by decide) rfl (fun ls hl => ?_)
    refine lv_iconst (pc := 11) (v := 0) hx hb dX7_ask_11 (by decide) ?_
    refine lv_istore_n (pc := 12) (lv' := [(3, .int 0), (2, .int 6), (1, .int (-1)), (0, .int v)]) hx hb dX7_ask_12 rfl hl (by decide) rfl (fun ls hl => ?_)
    have lp_2 : ∀ (fuel : Nat) (i : Nat), 4 - i < fuel → (i ≤ 4) → ∀ (ls : Array Slot), lv_has ls 7 [(0, .int v), (1, .int ((askC v i).1)), (2, .int ((askC v i).2)), (3, .int (nI i))] → W p l e (rmO 1 40) s m args below meth c0 s.heap [] 0 0 Q (F0 m 13 ls []) := by
      intro fuel
      induction fuel with
      | zero => intro i hfuel; exact absurd hfuel (Nat.not_lt_zero _)
      | succ fuel ih_lp_2 =>
        intro i hfuel hi ls hl
        refine lv_iload_n (pc := 13) hx hb dX7_ask_13 rfl (lv_at hl 3 rfl) ?_
        refine lv_iconst (pc := 14) (v := 4) hx hb dX7_ask_14 (by decide) ?_
        refine lv_icmp_ge (pc := 15) (tgt := 68) hx hb dX7_ask_15 (by decide) (fun c_3 => ?_) (fun c_3 => ?_)
        · skip
          have c_3n : 4 ≤ i := (nI_leI (a := 4) (b := i) (by omega) (by omega)).mp c_3
          refine lv_iload_n (pc := 68) hx hb dX7_ask_68 rfl (lv_at hl 1 rfl) ?_
          rw [hQ]; exact W.iret (pc := 69) hx hb hr (fun t9 ht _ => ⟨retI (by rw [askCS, if_neg c_1, show (4 : Nat) = i by omega]), ht⟩) (fun _ h => nomatch h) dX7_ask_69 hlocks
        · skip
          have c_3n : ¬ 4 ≤ i := fun hh => c_3 ((nI_leI (a := 4) (b := i) (by omega) (by omega)).mpr hh)
          refine lv_iload_n (pc := 18) hx hb dX7_ask_18 rfl (lv_at hl 0 rfl) ?_
          refine lv_iload_n (pc := 19) hx hb dX7_ask_19 rfl (lv_at hl 3 rfl) ?_
          refine lv_iconst (pc := 20) (v := 1) hx hb dX7_ask_20 (by decide) ?_
          refine rS (pc := 21) (rest := [.int v]) ⟨hx, hb, hml, hown, hts⟩ (k_X7_kindsLeft (w := i) (could := 1) (hw := (by omega))) cw_X7_184 ⟨(Nat.le_of_ble_eq_true rfl), (Nat.le_of_ble_eq_true rfl)⟩ hE hS wc0 rfl hl.1 rfl (Nat.le_of_ble_eq_true rfl) dX7_ask_21 ⟨Nat.le_refl _, Nat.le_refl _⟩ ?_
          refine W.eq (g2 := F0 m 24 ls [.int (klS i 1), .int v]) rfl ?_
          refine lv_iand (pc := 24) hx hb dX7_ask_24 ?_
          refine rS (pc := 25) (rest := []) ⟨hx, hb, hml, hown, hts⟩ (k_J6_bitCount (v9 := v &&& (klS i 1))) cw_X7_244 ⟨(Nat.le_of_ble_eq_true rfl), (Nat.le_of_ble_eq_true rfl)⟩ hE hS wc0 rfl hl.1 rfl (Nat.le_of_ble_eq_true rfl) dX7_ask_25 ⟨Nat.le_refl _, Nat.le_refl _⟩ ?_
          refine W.eq (g2 := F0 m 28 ls [.int (bitC (v &&& (klS i 1)))]) rfl ?_
          refine lv_istore (pc := 28) (lv' := [(4, .int (bitC (v &&& (klS i 1)))), (0, .int v), (1, .int ((askC v i).1)), (2, .int ((askC v i).2)), (3, .int (nI i))]) hx hb dX7_ask_28 hl (by decide) rfl (fun ls hl => ?_)
          refine lv_iload_n (pc := 30) hx hb dX7_ask_30 rfl (lv_at hl 1 rfl) ?_
          refine lv_iload_n (pc := 31) hx hb dX7_ask_31 rfl (lv_at hl 4 rfl) ?_
          refine lv_iconst (pc := 32) (v := 0) hx hb dX7_ask_32 (by decide) ?_
          refine rS (pc := 33) (rest := [.int v]) ⟨hx, hb, hml, hown, hts⟩ (k_X7_kindsLeft (w := i) (could := 0) (hw := (by omega))) cw_X7_184 ⟨(Nat.le_of_ble_eq_true rfl), (Nat.le_of_ble_eq_true rfl)⟩ hE hS wc0 rfl hl.1 rfl (Nat.le_of_ble_eq_true rfl) dX7_ask_33 ⟨Nat.le_refl _, Nat.le_refl _⟩ ?_
          refine W.eq (g2 := F0 m 36 ls [.int (klS i 0), .int v]) rfl ?_
          refine lv_iand (pc := 36) hx hb dX7_ask_36 ?_
          refine rS (pc := 37) (rest := []) ⟨hx, hb, hml, hown, hts⟩ (k_J6_bitCount (v9 := v &&& (klS i 0))) cw_X7_244 ⟨(Nat.le_of_ble_eq_true rfl), (Nat.le_of_ble_eq_true rfl)⟩ hE hS wc0 rfl hl.1 rfl (Nat.le_of_ble_eq_true rfl) dX7_ask_37 ⟨Nat.le_refl _, Nat.le_refl _⟩ ?_
          refine W.eq (g2 := F0 m 40 ls [.int (bitC (v &&& (klS i 0)))]) rfl ?_
          refine lv_istore (pc := 40) (lv' := [(5, .int (bitC (v &&& (klS i 0)))), (4, .int (bitC (v &&& (klS i 1)))), (0, .int v), (1, .int ((askC v i).1)), (2, .int ((askC v i).2)), (3, .int (nI i))]) hx hb dX7_ask_40 hl (by decide) rfl (fun ls hl => ?_)
          refine lv_iload (pc := 42) hx hb dX7_ask_42 (lv_at hl 1 rfl) ?_
          refine lv_iload (pc := 44) hx hb dX7_ask_44 (lv_at hl 0 rfl) ?_
          refine va_mmax (pc := 46) (x := bitC (v &&& (klS i 1))) (y := bitC (v &&& (klS i 0))) hx hb (hml.trans hl.1.symm) hown (hts _ cw_X7_249.1.1) (hts _ cw_X7_249.1.2.1) (hts _ cw_X7_249.1.2.2.1) (hts _ cw_X7_249.1.2.2.2) (Nat.le_of_ble_eq_true rfl) (Nat.le_of_ble_eq_true rfl) (Nat.le_refl _) (Nat.le_refl _) dX7_ask_46 ?_
          refine vEq (v := wrC v i) rfl ?_
          refine lv_istore (pc := 49) (lv' := [(6, .int (wrC v i)), (5, .int (bitC (v &&& (klS i 0)))), (4, .int (bitC (v &&& (klS i 1)))), (0, .int v), (1, .int ((askC v i).1)), (2, .int ((askC v i).2)), (3, .int (nI i))]) hx hb dX7_ask_49 hl (by decide) rfl (fun ls hl => ?_)
          refine lv_iload (pc := 51) hx hb dX7_ask_51 (lv_at hl 0 rfl) ?_
          refine lv_iload_n (pc := 53) hx hb dX7_ask_53 rfl (lv_at hl 5 rfl) ?_
          refine lv_icmp_ge (pc := 54) (tgt := 62) hx hb dX7_ask_54 (by decide) (fun c_4 => ?_) (fun c_4 => ?_)
          · skip
            refine lv_iinc (pc := 62) (v := nI (i + 1)) (lv' := [(3, .int (nI (i + 1))), (6, .int (wrC v i)), (5, .int (bitC (v &&& (klS i 0)))), (4, .int (bitC (v &&& (klS i 1)))), (0, .int v), (1, .int ((askC v i).1)), (2, .int ((askC v i).2))]) hx hb dX7_ask_62 hl (k := 6) rfl (nI_add (i) 1) (by decide) rfl (fun ls hl => ?_)
            refine lv_goto (pc := 65) (tgt := 13) hx hb dX7_ask_65 (by decide) ?_
            exact ih_lp_2 (i + 1) (by omega) (by omega) ls (by rw [show ((askC v (i + 1)).1 : Int32) = (askC v i).1 from (by rw [askC, if_pos c_4]), show ((askC v (i + 1)).2 : Int32) = (askC v i).2 from (by rw [askC, if_pos c_4])]; exact lv_sub hl [4, 5, 6, 0] rfl)
          · skip
            refine lv_iload (pc := 57) hx hb dX7_ask_57 (lv_at hl 0 rfl) ?_
            refine lv_istore_n (pc := 59) (lv' := [(2, .int (wrC v i)), (6, .int (wrC v i)), (5, .int (bitC (v &&& (klS i 0)))), (4, .int (bitC (v &&& (klS i 1)))), (0, .int v), (1, .int ((askC v i).1)), (3, .int (nI i))]) hx hb dX7_ask_59 rfl hl (by decide) rfl (fun ls hl => ?_)
            refine lv_iload_n (pc := 60) hx hb dX7_ask_60 rfl (lv_at hl 6 rfl) ?_
            refine lv_istore_n (pc := 61) (lv' := [(1, .int (nI i)), (2, .int (wrC v i)), (6, .int (wrC v i)), (5, .int (bitC (v &&& (klS i 0)))), (4, .int (bitC (v &&& (klS i 1)))), (0, .int v), (3, .int (nI i))]) hx hb dX7_ask_61 rfl hl (by decide) rfl (fun ls hl => ?_)
            refine lv_iinc (pc := 62) (v := nI (i + 1)) (lv' := [(3, .int (nI (i + 1))), (1, .int (nI i)), (2, .int (wrC v i)), (6, .int (wrC v i)), (5, .int (bitC (v &&& (klS i 0)))), (4, .int (bitC (v &&& (klS i 1)))), (0, .int v)]) hx hb dX7_ask_62 hl (k := 6) rfl (nI_add (i) 1) (by decide) rfl (fun ls hl => ?_)
            refine lv_goto (pc := 65) (tgt := 13) hx hb dX7_ask_65 (by decide) ?_
            exact ih_lp_2 (i + 1) (by omega) (by omega) ls (by rw [show ((askC v (i + 1)).1 : Int32) = nI i from (by rw [askC, if_neg c_4]), show ((askC v (i + 1)).2 : Int32) = wrC v i from (by rw [askC, if_neg c_4])]; exact lv_sub hl [6, 1, 2, 0] rfl)
    exact lp_2 _ 0 (Nat.lt_succ_self _) (by omega) ls (lv_sub hl [3, 2, 1, 0] rfl)
  · skip
    refine lv_iconst (pc := 4) (v := (-1)) hx hb dX7_ask_4 (by decide) ?_
    rw [hQ]; exact W.iret (pc := 5) hx hb hr (fun t9 ht _ => ⟨retI (by rw [askCS, if_pos c_1]), ht⟩) (fun _ h => nomatch h) dX7_ask_5 hlocks
set_option maxRecDepth 100000 in
set_option maxHeartbeats 4000000 in
theorem k_X7_isSpan (f : Int32) (t : Int32) : MR l yX7_isSpan cX7_isSpan 2 (some .boolean) 1 20 D kB kI kT ks sk sv [.int f, .int t] ([]) (some (.int (bi (inR f 0 11 ∧ inR t 0 11 ∧ ¬ t < f)))) := by
  refine MR.go (by decide +kernel) (Nat.le_of_ble_eq_true rfl) ?_
  intro p e s m below meth c0 args Q ls hQ hx hb hr hml hown hts hlocks hE hP hS hl
  have hl : lv_has ls 2 [(0, .int f), (1, .int t)] := hl
  have hown : s.vm.findClass RX7 = some m.cls := hown
  refine lv_iload_n (pc := 0) hx hb dX7_isSpan_0 rfl (lv_at hl 0 rfl) ?_
  refine rS (pc := 1) (rest := []) ⟨hx, hb, hml, hown, hts⟩ (k_X7_isNight (x9 := f)) cw_X7_123 ⟨(Nat.le_of_ble_eq_true rfl), (Nat.le_of_ble_eq_true rfl)⟩ hE hS wc0 rfl hl.1 rfl (Nat.le_of_ble_eq_true rfl) dX7_isSpan_1 ⟨Nat.le_refl _, Nat.le_refl _⟩ ?_
  refine W.eq (g2 := F0 m 4 ls [.int (bi (inR f 0 11))]) rfl ?_
  refine bif_eq (pc := 4) (tgt := 23) hx hb dX7_isSpan_4 (by decide) (fun c_1 => ?_) (fun c_1 => ?_)
  · skip
    refine lv_iconst (pc := 23) (v := 0) hx hb dX7_isSpan_23 (by decide) ?_
    rw [hQ]; exact W.zret (pc := 24) hx hb hr rfl (fun t9 ht _ => ⟨retI (bi_f (fun q => c_1 q.1)), ht⟩) (fun _ h => nomatch h) dX7_isSpan_24 hlocks
  · skip
    refine lv_iload_n (pc := 7) hx hb dX7_isSpan_7 rfl (lv_at hl 1 rfl) ?_
    refine rS (pc := 8) (rest := []) ⟨hx, hb, hml, hown, hts⟩ (k_X7_isNight (x9 := t)) cw_X7_123 ⟨(Nat.le_of_ble_eq_true rfl), (Nat.le_of_ble_eq_true rfl)⟩ hE hS wc0 rfl hl.1 rfl (Nat.le_of_ble_eq_true rfl) dX7_isSpan_8 ⟨Nat.le_refl _, Nat.le_refl _⟩ ?_
    refine W.eq (g2 := F0 m 11 ls [.int (bi (inR t 0 11))]) rfl ?_
    refine bif_eq (pc := 11) (tgt := 23) hx hb dX7_isSpan_11 (by decide) (fun c_2 => ?_) (fun c_2 => ?_)
    · skip
      refine lv_iconst (pc := 23) (v := 0) hx hb dX7_isSpan_23 (by decide) ?_
      rw [hQ]; exact W.zret (pc := 24) hx hb hr rfl (fun t9 ht _ => ⟨retI (bi_f (fun q => c_2 q.2.1)), ht⟩) (fun _ h => nomatch h) dX7_isSpan_24 hlocks
    · skip
      refine lv_iload_n (pc := 14) hx hb dX7_isSpan_14 rfl (lv_at hl 0 rfl) ?_
      refine lv_iload_n (pc := 15) hx hb dX7_isSpan_15 rfl (lv_at hl 1 rfl) ?_
      refine lv_icmp_gt (pc := 16) (tgt := 23) hx hb dX7_isSpan_16 (by decide) (fun c_3 => ?_) (fun c_3 => ?_)
      · skip
        refine lv_iconst (pc := 23) (v := 0) hx hb dX7_isSpan_23 (by decide) ?_
        rw [hQ]; exact W.zret (pc := 24) hx hb hr rfl (fun t9 ht _ => ⟨retI (bi_f (fun q => q.2.2 c_3)), ht⟩) (fun _ h => nomatch h) dX7_isSpan_24 hlocks
      · skip
        refine lv_iconst (pc := 19) (v := 1) hx hb dX7_isSpan_19 (by decide) ?_
        refine lv_goto (pc := 20) (tgt := 24) hx hb dX7_isSpan_20 (by decide) ?_
        rw [hQ]; exact W.zret (pc := 24) hx hb hr rfl (fun t9 ht _ => ⟨retI (bi_t ⟨c_1, c_2, c_3⟩), ht⟩) (fun _ h => nomatch h) dX7_isSpan_24 hlocks
set_option maxRecDepth 100000 in
set_option maxHeartbeats 4000000 in
theorem k_X7_isKind (k9 : Int32) : MR l yX7_isKind cX7_isKind 1 (some .boolean) 0 0 D kB kI kT ks sk sv [.int k9] ([]) (some (.int (bi (inR k9 0 4)))) := by
  refine MR.go (by decide +kernel) (Nat.le_of_ble_eq_true rfl) ?_
  intro p e s m below meth c0 args Q ls hQ hx hb hr hml hown hts hlocks hE hP hS hl
  have hl : lv_has ls 1 [(0, .int k9)] := hl
  have hown : s.vm.findClass RX7 = some m.cls := hown
  refine lv_iload_n (pc := 0) hx hb dX7_isKind_0 rfl (lv_at hl 0 rfl) ?_
  refine lv_if_lt (pc := 1) (tgt := 13) hx hb dX7_isKind_1 (by decide) (fun c_1 => ?_) (fun c_1 => ?_)
  · skip
    refine lv_iconst (pc := 13) (v := 0) hx hb dX7_isKind_13 (by decide) ?_
    rw [hQ]; exact W.zret (pc := 14) hx hb hr rfl (fun t9 ht _ => ⟨retI (bi_f (fun q => Int32.not_lt.mpr q.1 c_1)), ht⟩) (fun _ h => nomatch h) dX7_isKind_14 hlocks
  · skip
    refine lv_iload_n (pc := 4) hx hb dX7_isKind_4 rfl (lv_at hl 0 rfl) ?_
    refine lv_iconst (pc := 5) (v := 5) hx hb dX7_isKind_5 (by decide) ?_
    refine lv_icmp_ge (pc := 6) (tgt := 13) hx hb dX7_isKind_6 (by decide) (fun c_2 => ?_) (fun c_2 => ?_)
    · skip
      refine lv_iconst (pc := 13) (v := 0) hx hb dX7_isKind_13 (by decide) ?_
      rw [hQ]; exact W.zret (pc := 14) hx hb hr rfl (fun t9 ht _ => ⟨retI (bi_f (fun q => Int32.not_lt.mpr (Int32.le_trans c_2 q.2) (by decide))), ht⟩) (fun _ h => nomatch h) dX7_isKind_14 hlocks
    · skip
      refine lv_iconst (pc := 9) (v := 1) hx hb dX7_isKind_9 (by decide) ?_
      refine lv_goto (pc := 10) (tgt := 14) hx hb dX7_isKind_10 (by decide) ?_
      rw [hQ]; exact W.zret (pc := 14) hx hb hr rfl (fun t9 ht _ => ⟨retI (bi_t ⟨Int32.not_lt.mp c_1, lt_le4 (Int32.not_le.mp c_2)⟩), ht⟩) (fun _ h => nomatch h) dX7_isKind_14 hlocks
end
