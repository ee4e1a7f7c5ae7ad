section
variable {l : Launch} {D : va_G} {kB kI kT : ClassId} {ks sk sv : Nat}
def wTi2 (ta : Nat) (f0 : Int32) (f1 : Int32) (f2 : Int32) (f3 : Int32) (f4 : Int32) (f5 : Int32) (tb : Nat) (f0b : Int32) (f1b : Int32) (f2b : Int32) (f3b : Int32) (f4b : Int32) (f5b : Int32) : va_W :=
  [(ta, .inr (5, [.int f0, .int f1, .int f2, .int f3, .int f4, .int f5])), (tb, .inr (5, [.int f0b, .int f1b, .int f2b, .int f3b, .int f4b, .int f5b]))]
theorem wTs_s0 {kT : ClassId} {x : Nat → Nat} {n : Int32} {c : Nat → Nat → Int32} {k : Nat} {v9 : Int32} (h : k < 5) : (wTs kT x n c).set (2 + k) (x (9 + k), .inr (5, [.int ((c 2) k), .int ((c 3) k), .int ((c 4) k), .int ((c 5) k), .int ((c 6) k), .int ((c 7) k)].set 0 (.int v9))) = wTs kT x n (va_up c 2 (upd (c 2) k v9)) := by
  match k, h with
  | 0, _ => rfl
  | 1, _ => rfl
  | 2, _ => rfl
  | 3, _ => rfl
  | 4, _ => rfl
theorem wTs_s1 {kT : ClassId} {x : Nat → Nat} {n : Int32} {c : Nat → Nat → Int32} {k : Nat} {v9 : Int32} (h : k < 5) : (wTs kT x n c).set (2 + k) (x (9 + k), .inr (5, [.int ((c 2) k), .int ((c 3) k), .int ((c 4) k), .int ((c 5) k), .int ((c 6) k), .int ((c 7) k)].set 1 (.int v9))) = wTs kT x n (va_up c 3 (upd (c 3) k v9)) := by
  match k, h with
  | 0, _ => rfl
  | 1, _ => rfl
  | 2, _ => rfl
  | 3, _ => rfl
  | 4, _ => rfl
theorem wTs_s2 {kT : ClassId} {x : Nat → Nat} {n : Int32} {c : Nat → Nat → Int32} {k : Nat} {v9 : Int32} (h : k < 5) : (wTs kT x n c).set (2 + k) (x (9 + k), .inr (5, [.int ((c 2) k), .int ((c 3) k), .int ((c 4) k), .int ((c 5) k), .int ((c 6) k), .int ((c 7) k)].set 2 (.int v9))) = wTs kT x n (va_up c 4 (upd (c 4) k v9)) := by
  match k, h with
  | 0, _ => rfl
  | 1, _ => rfl
  | 2, _ => rfl
  | 3, _ => rfl
  | 4, _ => rfl
theorem wTs_s3 {kT : ClassId} {x : Nat → Nat} {n : Int32} {c : Nat → Nat → Int32} {k : Nat} {v9 : Int32} (h : k < 5) : (wTs kT x n c).set (2 + k) (x (9 + k), .inr (5, [.int ((c 2) k), .int ((c 3) k), .int ((c 4) k), .int ((c 5) k), .int ((c 6) k), .int ((c 7) k)].set 3 (.int v9))) = wTs kT x n (va_up c 5 (upd (c 5) k v9)) := by
  match k, h with
  | 0, _ => rfl
  | 1, _ => rfl
  | 2, _ => rfl
  | 3, _ => rfl
  | 4, _ => rfl
theorem wTs_s4 {kT : ClassId} {x : Nat → Nat} {n : Int32} {c : Nat → Nat → Int32} {k : Nat} {v9 : Int32} (h : k < 5) : (wTs kT x n c).set (2 + k) (x (9 + k), .inr (5, [.int ((c 2) k), .int ((c 3) k), .int ((c 4) k), .int ((c 5) k), .int ((c 6) k), .int ((c 7) k)].set 4 (.int v9))) = wTs kT x n (va_up c 6 (upd (c 6) k v9)) := by
  match k, h with
  | 0, _ => rfl
  | 1, _ => rfl
  | 2, _ => rfl
  | 3, _ => rfl
  | 4, _ => rfl
theorem wTs_s5 {kT : ClassId} {x : Nat → Nat} {n : Int32} {c : Nat → Nat → Int32} {k : Nat} {v9 : Int32} (h : k < 5) : (wTs kT x n c).set (2 + k) (x (9 + k), .inr (5, [.int ((c 2) k), .int ((c 3) k), .int ((c 4) k), .int ((c 5) k), .int ((c 6) k), .int ((c 7) k)].set 5 (.int v9))) = wTs kT x n (va_up c 7 (upd (c 7) k v9)) := by
  match k, h with
  | 0, _ => rfl
  | 1, _ => rfl
  | 2, _ => rfl
  | 3, _ => rfl
  | 4, _ => rfl
def wTs2 (kT : ClassId) (x : Nat → Nat) (n : Int32) (c : Nat → Nat → Int32) (y : Nat → Nat) (n2 : Int32) (c2 : Nat → Nat → Int32) : va_W :=
  [(x 7, .inr (6, [.ref (x 8), .int n])), (x 8, .inl (kT, 5, .inr (.inr (.inr (.inr (fun k => some (x (9 + k)))))))), (x 9, .inr (5, [.int ((c 2) 0), .int ((c 3) 0), .int ((c 4) 0), .int ((c 5) 0), .int ((c 6) 0), .int ((c 7) 0)])), (x 10, .inr (5, [.int ((c 2) 1), .int ((c 3) 1), .int ((c 4) 1), .int ((c 5) 1), .int ((c 6) 1), .int ((c 7) 1)])), (x 11, .inr (5, [.int ((c 2) 2), .int ((c 3) 2), .int ((c 4) 2), .int ((c 5) 2), .int ((c 6) 2), .int ((c 7) 2)])), (x 12, .inr (5, [.int ((c 2) 3), .int ((c 3) 3), .int ((c 4) 3), .int ((c 5) 3), .int ((c 6) 3), .int ((c 7) 3)])), (x 13, .inr (5, [.int ((c 2) 4), .int ((c 3) 4), .int ((c 4) 4), .int ((c 5) 4), .int ((c 6) 4), .int ((c 7) 4)])), (y 7, .inr (6, [.ref (y 8), .int n2])), (y 8, .inl (kT, 5, .inr (.inr (.inr (.inr (fun k => some (y (9 + k)))))))), (y 9, .inr (5, [.int ((c2 2) 0), .int ((c2 3) 0), .int ((c2 4) 0), .int ((c2 5) 0), .int ((c2 6) 0), .int ((c2 7) 0)])), (y 10, .inr (5, [.int ((c2 2) 1), .int ((c2 3) 1), .int ((c2 4) 1), .int ((c2 5) 1), .int ((c2 6) 1), .int ((c2 7) 1)])), (y 11, .inr (5, [.int ((c2 2) 2), .int ((c2 3) 2), .int ((c2 4) 2), .int ((c2 5) 2), .int ((c2 6) 2), .int ((c2 7) 2)])), (y 12, .inr (5, [.int ((c2 2) 3), .int ((c2 3) 3), .int ((c2 4) 3), .int ((c2 5) 3), .int ((c2 6) 3), .int ((c2 7) 3)])), (y 13, .inr (5, [.int ((c2 2) 4), .int ((c2 3) 4), .int ((c2 4) 4), .int ((c2 5) 4), .int ((c2 6) 4), .int ((c2 7) 4)]))]
set_option maxRecDepth 100000 in
set_option maxHeartbeats 4000000 in
theorem k_X5_copy {ta : Nat} {f0 : Int32} {f1 : Int32} {f2 : Int32} {f3 : Int32} {f4 : Int32} {f5 : Int32} {tb : Nat} {f0b : Int32} {f1b : Int32} {f2b : Int32} {f3b : Int32} {f4b : Int32} {f5b : Int32} : MW l yX5_copy cX5_copy 2 none 0 0 D kB kI kT ks sk sv [.ref ta, .ref tb] (wTi2 ta f0 f1 f2 f3 f4 f5 tb f0b f1b f2b f3b f4b f5b) none (wTi2 ta f0b f1b f2b f3b f4b f5b tb f0b f1b f2b f3b f4b f5b) := by
  refine MW.go (by decide +kernel) (Nat.le_of_ble_eq_true rfl) ?_
  intro p e s m below meth c0 args Q ls A hQ hx hb hr hml hown hts hlocks hE hP hD hS hl
  have hl : lv_has ls 2 [(0, .ref ta), (1, .ref tb)] := hl
  have hown : s.vm.findClass RX5 = some m.cls := hown
  refine lv_aload_n (pc := 0) hx hb dX5_copy_0 rfl (lv_at hl 0 rfl) ?_
  refine lv_aload_n (pc := 1) hx hb dX5_copy_1 rfl (lv_at hl 1 rfl) ?_
  refine fget (pc := 2) (v := .int f0b) hx hb hts hown hE hP fl_X5_9 1 rfl rfl dX5_copy_2 ?_
  refine fput (pc := 5) (v := .int f0b) hx hb hts hown hE hP hD hS fp_X5_9 0 rfl rfl rfl (Nat.le_of_ble_eq_true rfl) dX5_copy_5 (fun H locs hP hD hS => ?_)
  have hP : va_P D vwCl (wTi2 ta f0b f1 f2 f3 f4 f5 tb f0b f1b f2b f3b f4b f5b) H := hP
  have hD : va_D A (wTi2 ta f0b f1 f2 f3 f4 f5 tb f0b f1b f2b f3b f4b f5b) := hD
  refine lv_aload_n (pc := 8) hx hb dX5_copy_8 rfl (lv_at hl 0 rfl) ?_
  refine lv_aload_n (pc := 9) hx hb dX5_copy_9 rfl (lv_at hl 1 rfl) ?_
  refine fget (pc := 10) (v := .int f1b) hx hb hts hown hE hP fl_X5_15 1 rfl rfl dX5_copy_10 ?_
  refine fput (pc := 13) (v := .int f1b) hx hb hts hown hE hP hD hS fp_X5_15 0 rfl rfl rfl (Nat.le_of_ble_eq_true rfl) dX5_copy_13 (fun H locs hP hD hS => ?_)
  have hP : va_P D vwCl (wTi2 ta f0b f1b f2 f3 f4 f5 tb f0b f1b f2b f3b f4b f5b) H := hP
  have hD : va_D A (wTi2 ta f0b f1b f2 f3 f4 f5 tb f0b f1b f2b f3b f4b f5b) := hD
  refine lv_aload_n (pc := 16) hx hb dX5_copy_16 rfl (lv_at hl 0 rfl) ?_
  refine lv_aload_n (pc := 17) hx hb dX5_copy_17 rfl (lv_at hl 1 rfl) ?_
  refine fget (pc := 18) (v := .int f2b) hx hb hts hown hE hP fl_X5_18 1 rfl rfl dX5_copy_18 ?_
  refine fput (pc := 21) (v := .int f2b) hx hb hts hown hE hP hD hS fp_X5_18 0 rfl rfl rfl (Nat.le_of_ble_eq_true rfl) dX5_copy_21 (fun H locs hP hD hS => ?_)
  have hP : va_P D vwCl (wTi2 ta f0b f1b f2b f3 f4 f5 tb f0b f1b f2b f3b f4b f5b) H := hP
  have hD : va_D A (wTi2 ta f0b f1b f2b f3 f4 f5 tb f0b f1b f2b f3b f4b f5b) := hD
  refine lv_aload_n (pc := 24) hx hb dX5_copy_24 rfl (lv_at hl 0 rfl) ?_
  refine lv_aload_n (pc := 25) hx hb dX5_copy_25 rfl (lv_at hl 1 rfl) ?_
  refine fget (pc := 26) (v := .int f3b) hx hb hts hown hE hP fl_X5_21 1 rfl rfl dX5_copy_26 ?_
  refine fput (pc := 29) (v := .int f3b) hx hb hts hown hE hP hD hS fp_X5_21 0 rfl rfl rfl (Nat.le_of_ble_eq_true rfl) dX5_copy_29 (fun H locs hP hD hS => ?_)
  have hP : va_P D vwCl (wTi2 ta f0b f1b f2b f3b f4 f5 tb f0b f1b f2b f3b f4b f5b) H := hP
  have hD : va_D A (wTi2 ta f0b f1b f2b f3b f4 f5 tb f0b f1b f2b f3b f4b f5b) := hD
  refine lv_aload_n (pc := 32) hx hb dX5_copy_32 rfl (lv_at hl 0 rfl) ?_
  refine lv_aload_n (pc := 33) hx hb dX5_copy_33 rfl (lv_at hl 1 rfl) ?_
  refine fget (pc := 34) (v := .int f4b) hx hb hts hown hE hP fl_X5_24 1 rfl rfl dX5_copy_34 ?_
  refine fput (pc := 37) (v := .int f4b) hx hb hts hown hE hP hD hS fp_X5_24 0 rfl rfl rfl (Nat.le_of_ble_eq_true rfl) dX5_copy_37 (fun H locs hP hD hS => ?_)
  have hP : va_P D vwCl (wTi2 ta f0b f1b f2b f3b f4b f5 tb f0b f1b f2b f3b f4b f5b) H := hP
  have hD : va_D A (wTi2 ta f0b f1b f2b f3b f4b f5 tb f0b f1b f2b f3b f4b f5b) := hD
  refine lv_aload_n (pc := 40) hx hb dX5_copy_40 rfl (lv_at hl 0 rfl) ?_
  refine lv_aload_n (pc := 41) hx hb dX5_copy_41 rfl (lv_at hl 1 rfl) ?_
  refine fget (pc := 42) (v := .int f5b) hx hb hts hown hE hP fl_X5_27 1 rfl rfl dX5_copy_42 ?_
  refine fput (pc := 45) (v := .int f5b) hx hb hts hown hE hP hD hS fp_X5_27 0 rfl rfl rfl (Nat.le_of_ble_eq_true rfl) dX5_copy_45 (fun H locs hP hD hS => ?_)
  have hP : va_P D vwCl (wTi2 ta f0b f1b f2b f3b f4b f5b tb f0b f1b f2b f3b f4b f5b) H := hP
  have hD : va_D A (wTi2 ta f0b f1b f2b f3b f4b f5b tb f0b f1b f2b f3b f4b f5b) := hD
  rw [hQ]; exact W.vret (pc := 48) hx hb hr (fun t9 ht _ => ⟨⟨rfl, by rw [ht]; exact hP⟩, hS.F ht⟩) hS.2.2 dX5_copy_48 hlocks
set_option maxRecDepth 100000 in
set_option maxHeartbeats 4000000 in
theorem k_X6_append {x : Nat → Nat} {n : Int32} {c : Nat → Nat → Int32} (kind : Int32) (set : Int32) (cast : Int32) {nn : Nat} (hn : n = nI nn) (hn5 : nn < 5) : MW l yX6_append cX6_append 5 none 0 0 D kB kI kT ks sk sv [.ref (x 7), .int kind, .int set, .int cast] (wTs kT x n c) none (wTs kT x (nI (nn + 1)) (va_up (va_up (va_up (va_up (va_up (va_up c 2 (upd (c 2) nn kind)) 3 (upd (c 3) nn set)) 4 (upd (c 4) nn cast)) 5 (upd (c 5) nn 0)) 6 (upd (c 6) nn 11)) 7 (upd (c 7) nn 5))) := by
  refine MW.go (by decide +kernel) (Nat.le_of_ble_eq_true rfl) ?_
  intro p e s m below meth c0 args Q ls A hQ hx hb hr hml hown hts hlocks hE hP hD hS hl
  have hl : lv_has ls 5 [(0, .ref (x 7)), (1, .int kind), (2, .int set), (3, .int cast)] := hl
  have hown : s.vm.findClass RX6 = some m.cls := hown
  refine lv_aload_n (pc := 0) hx hb dX6_append_0 rfl (lv_at hl 0 rfl) ?_
  refine fget (pc := 1) (v := .int n) hx hb hts hown hE hP fl_X6_18 0 rfl rfl dX6_append_1 ?_
  refine vEq (v := nI nn) hn ?_
  refine lv_iconst (pc := 4) (v := 5) hx hb dX6_append_4 (by decide) ?_
  refine lv_icmp_lt (pc := 5) (tgt := 9) hx hb dX6_append_5 (by decide) (fun c_1 => ?_) (fun c_1 => ?_)
  · skip
    have c_1n : nn < 5 := (nI_ltI (a := nn) (b := 5) (by omega) (by omega)).mp c_1
    refine lv_aload_n (pc := 9) hx hb dX6_append_9 rfl (lv_at hl 0 rfl) ?_
    refine fget (pc := 10) (v := .ref (x 8)) hx hb hts hown hE hP fl_X6_11 0 rfl rfl dX6_append_10 ?_
    refine lv_aload_n (pc := 13) hx hb dX6_append_13 rfl (lv_at hl 0 rfl) ?_
    refine fget (pc := 14) (v := .int n) hx hb hts hown hE hP fl_X6_18 0 rfl rfl dX6_append_14 ?_
    refine vEq (v := nI nn) hn ?_
    refine aldR (pc := 17) (v := x (9 + nn)) hx hb hE hP 1 rfl (nn) ⟨by omega, by omega⟩ rfl dX6_append_17 ?_
    refine lv_astore (pc := 18) (lv' := [(4, .ref (x (9 + nn))), (0, .ref (x 7)), (1, .int kind), (2, .int set), (3, .int cast)]) hx hb dX6_append_18 hl (by decide) rfl (fun ls hl => ?_)
    refine lv_aload (pc := 20) hx hb dX6_append_20 (lv_at hl 0 rfl) ?_
    refine lv_iload_n (pc := 22) hx hb dX6_append_22 rfl (lv_at hl 2 rfl) ?_
    refine fput (pc := 23) (v := .int kind) hx hb hts hown hE hP hD hS fp_X6_22 (2 + nn) (wTs_t (by omega)) rfl rfl (Nat.le_of_ble_eq_true rfl) dX6_append_23 (fun H locs hP hD hS => ?_)
    have hP : va_P D vwCl (wTs kT x n (va_up c 2 (upd (c 2) nn kind))) H := by have q := hP; rw [wTs_s0 (by omega)] at q; exact q
    have hD : va_D A (wTs kT x n (va_up c 2 (upd (c 2) nn kind))) := by have q := hD; rw [wTs_s0 (by omega)] at q; exact q
    refine lv_aload (pc := 26) hx hb dX6_append_26 (lv_at hl 0 rfl) ?_
    refine lv_iload_n (pc := 28) hx hb dX6_append_28 rfl (lv_at hl 3 rfl) ?_
    refine fput (pc := 29) (v := .int set) hx hb hts hown hE hP hD hS fp_X6_25 (2 + nn) (wTs_t (by omega)) rfl rfl (Nat.le_of_ble_eq_true rfl) dX6_append_29 (fun H locs hP hD hS => ?_)
    have hP : va_P D vwCl (wTs kT x n (va_up (va_up c 2 (upd (c 2) nn kind)) 3 (upd (c 3) nn set))) H := by have q := hP; rw [wTs_s1 (by omega)] at q; exact q
    have hD : va_D A (wTs kT x n (va_up (va_up c 2 (upd (c 2) nn kind)) 3 (upd (c 3) nn set))) := by have q := hD; rw [wTs_s1 (by omega)] at q; exact q
    refine lv_aload (pc := 32) hx hb dX6_append_32 (lv_at hl 0 rfl) ?_
    refine lv_iload_n (pc := 34) hx hb dX6_append_34 rfl (lv_at hl 4 rfl) ?_
    refine fput (pc := 35) (v := .int cast) hx hb hts hown hE hP hD hS fp_X6_28 (2 + nn) (wTs_t (by omega)) rfl rfl (Nat.le_of_ble_eq_true rfl) dX6_append_35 (fun H locs hP hD hS => ?_)
    have hP : va_P D vwCl (wTs kT x n (va_up (va_up (va_up c 2 (upd (c 2) nn kind)) 3 (upd (c 3) nn set)) 4 (upd (c 4) nn cast))) H := by have q := hP; rw [wTs_s2 (by omega)] at q; exact q
    have hD : va_D A (wTs kT x n (va_up (va_up (va_up c 2 (upd (c 2) nn kind)) 3 (upd (c 3) nn set)) 4 (upd (c 4) nn cast))) := by have q := hD; rw [wTs_s2 (by omega)] at q; exact q
    refine lv_aload (pc := 38) hx hb dX6_append_38 (lv_at hl 0 rfl) ?_
    refine lv_iconst (pc := 40) (v := 0) hx hb dX6_append_40 (by decide) ?_
    refine fput (pc := 41) (v := .int 0) hx hb hts hown hE hP hD hS fp_X6_31 (2 + nn) (wTs_t (by omega)) rfl rfl (Nat.le_of_ble_eq_true rfl) dX6_append_41 (fun H locs hP hD hS => ?_)
    have hP : va_P D vwCl (wTs kT x n (va_up (va_up (va_up (va_up c 2 (upd (c 2) nn kind)) 3 (upd (c 3) nn set)) 4 (upd (c 4) nn cast)) 5 (upd (c 5) nn 0))) H := by have q := hP; rw [wTs_s3 (by omega)] at q; exact q
    have hD : va_D A (wTs kT x n (va_up (va_up (va_up (va_up c 2 (upd (c 2) nn kind)) 3 (upd (c 3) nn set)) 4 (upd (c 4) nn cast)) 5 (upd (c 5) nn 0))) := by have q := hD; rw [wTs_s3 (by omega)] at q; exact q
    refine lv_aload (pc := 44) hx hb dX6_append_44 (lv_at hl 0 rfl) ?_
    refine lv_bipush (pc := 46) (v := 11) hx hb dX6_append_46 (by decide) ?_
    refine fput (pc := 48) (v := .int 11) hx hb hts hown hE hP hD hS fp_X6_34 (2 + nn) (wTs_t (by omega)) rfl rfl (Nat.le_of_ble_eq_true rfl) dX6_append_48 (fun H locs hP hD hS => ?_)
    have hP : va_P D vwCl (wTs kT x n (va_up (va_up (va_up (va_up (va_up c 2 (upd (c 2) nn kind)) 3 (upd (c 3) nn set)) 4 (upd (c 4) nn cast)) 5 (upd (c 5) nn 0)) 6 (upd (c 6) nn 11))) H := by have q := hP; rw [wTs_s4 (by omega)] at q; exact q
    have hD : va_D A (wTs kT x n (va_up (va_up (va_up (va_up (va_up c 2 (upd (c 2) nn kind)) 3 (upd (c 3) nn set)) 4 (upd (c 4) nn cast)) 5 (upd (c 5) nn 0)) 6 (upd (c 6) nn 11))) := by have q := hD; rw [wTs_s4 (by omega)] at q; exact q
    refine lv_aload (pc := 51) hx hb dX6_append_51 (lv_at hl 0 rfl) ?_
    refine lv_iconst (pc := 53) (v := 5) hx hb dX6_append_53 (by decide) ?_
    refine fput (pc := 54) (v := .int 5) hx hb hts hown hE hP hD hS fp_X6_37 (2 + nn) (wTs_t (by omega)) rfl rfl (Nat.le_of_ble_eq_true rfl) dX6_append_54 (fun H locs hP hD hS => ?_)
    have hP : va_P D vwCl (wTs kT x n (va_up (va_up (va_up (va_up (va_up (va_up c 2 (upd (c 2) nn kind)) 3 (upd (c 3) nn set)) 4 (upd (c 4) nn cast)) 5 (upd (c 5) nn 0)) 6 (upd (c 6) nn 11)) 7 (upd (c 7) nn 5))) H := by have q := hP; rw [wTs_s5 (by omega)] at q; exact q
    have hD : va_D A (wTs kT x n (va_up (va_up (va_up (va_up (va_up (va_up c 2 (upd (c 2) nn kind)) 3 (upd (c 3) nn set)) 4 (upd (c 4) nn cast)) 5 (upd (c 5) nn 0)) 6 (upd (c 6) nn 11)) 7 (upd (c 7) nn 5))) := by have q := hD; rw [wTs_s5 (by omega)] at q; exact q
    refine lv_aload_n (pc := 57) hx hb dX6_append_57 rfl (lv_at hl 1 rfl) ?_
    refine lv_dup (pc := 58) hx hb dX6_append_58 rfl ?_
    refine fget (pc := 59) (v := .int n) hx hb hts hown hE hP fl_X6_18 0 rfl rfl dX6_append_59 ?_
    refine vEq (v := nI nn) hn ?_
    refine lv_iconst (pc := 62) (v := 1) hx hb dX6_append_62 (by decide) ?_
    refine iaddV (pc := 63) (v := nI (nn + 1)) hx hb dX6_append_63 (nI_add (nn) (1)) ?_
    refine fput (pc := 64) (v := .int (nI (nn + 1))) hx hb hts hown hE hP hD hS fp_X6_18 0 rfl rfl rfl (Nat.le_of_ble_eq_true rfl) dX6_append_64 (fun H locs hP hD hS => ?_)
    have hP : va_P D vwCl (wTs kT x (nI (nn + 1)) (va_up (va_up (va_up (va_up (va_up (va_up c 2 (upd (c 2) nn kind)) 3 (upd (c 3) nn set)) 4 (upd (c 4) nn cast)) 5 (upd (c 5) nn 0)) 6 (upd (c 6) nn 11)) 7 (upd (c 7) nn 5))) H := hP
    have hD : va_D A (wTs kT x (nI (nn + 1)) (va_up (va_up (va_up (va_up (va_up (va_up c 2 (upd (c 2) nn kind)) 3 (upd (c 3) nn set)) 4 (upd (c 4) nn cast)) 5 (upd (c 5) nn 0)) 6 (upd (c 6) nn 11)) 7 (upd (c 7) nn 5))) := hD
    rw [hQ]; exact W.vret (pc := 67) hx hb hr (fun t9 ht _ => ⟨⟨rfl, by rw [ht]; exact hP⟩, hS.F ht⟩) hS.2.2 dX6_append_67 hlocks
  · exact absurd ((nI_ltI (a := nn) (b := 5) (by omega) (by omega)).mpr (by omega)) c_1
set_option maxRecDepth 100000 in
set_option maxHeartbeats 4000000 in
theorem k_X6_copy {x : Nat → Nat} {n : Int32} {c : Nat → Nat → Int32} {y : Nat → Nat} {n2 : Int32} {c2 : Nat → Nat → Int32} : MW l yX6_copy cX6_copy 3 none 1 21 D kB kI kT ks sk sv [.ref (x 7), .ref (y 7)] (wTs2 kT x n c y n2 c2) none (wTs2 kT x n2 (va_up (va_up (va_up (va_up (va_up (va_up c 2 (ovN (c 2) (c2 2) 5)) 3 (ovN (c 3) (c2 3) 5)) 4 (ovN (c 4) (c2 4) 5)) 5 (ovN (c 5) (c2 5) 5)) 6 (ovN (c 6) (c2 6) 5)) 7 (ovN (c 7) (c2 7) 5)) y n2 c2) := by
  refine MW.go (by decide +kernel) (Nat.le_of_ble_eq_true rfl) ?_
  intro p e s m below meth c0 args Q ls A hQ hx hb hr hml hown hts hlocks hE hP hD hS hl
  have hl : lv_has ls 3 [(0, .ref (x 7)), (1, .ref (y 7))] := hl
  have hown : s.vm.findClass RX6 = some m.cls := hown
  refine lv_aload_n (pc := 0) hx hb dX6_copy_0 rfl (lv_at hl 0 rfl) ?_
  refine lv_aload_n (pc := 1) hx hb dX6_copy_1 rfl (lv_at hl 1 rfl) ?_
  refine fget (pc := 2) (v := .int n2) hx hb hts hown hE hP fl_X6_18 7 rfl rfl dX6_copy_2 ?_
  refine fput (pc := 5) (v := .int n2) hx hb hts hown hE hP hD hS fp_X6_18 0 rfl rfl rfl (Nat.le_of_ble_eq_true rfl) dX6_copy_5 (fun H locs hP hD hS => ?_)
  have hP : va_P D vwCl (wTs2 kT x n2 c y n2 c2) H := hP
  have hD : va_D A (wTs2 kT x n2 c y n2 c2) := hD
  refine lv_iconst (pc := 8) (v := 0) hx hb dX6_copy_8 (by decide) ?_
  refine lv_istore_n (pc := 9) (lv' := [(2, .int 0), (0, .ref (x 7)), (1, .ref (y 7))]) hx hb dX6_copy_9 rfl hl (by decide) rfl (fun ls hl => ?_)
  refine lv_iload_n (pc := 10) hx hb dX6_copy_10 rfl (lv_at hl 0 rfl) ?_
  refine lv_iconst (pc := 11) (v := 5) hx hb dX6_copy_11 (by decide) ?_
  refine lv_icmp_ge (pc := 12) (tgt := 36) hx hb dX6_copy_12 (by decide) (fun c_1 => ?_) (fun c_1 => ?_)
  · exact absurd c_1 (by decide)
  · skip
    have c_1n : ¬ 5 ≤ 0 := fun hh => c_1 ((nI_leI (a := 5) (b := 0) (by omega) (by omega)).mpr hh)
    refine lv_aload_n (pc := 15) hx hb dX6_copy_15 rfl (lv_at hl 1 rfl) ?_
    refine fget (pc := 16) (v := .ref (x 8)) hx hb hts hown hE hP fl_X6_11 0 rfl rfl dX6_copy_16 ?_
    refine lv_iload_n (pc := 19) hx hb dX6_copy_19 rfl (lv_at hl 0 rfl) ?_
    refine aldR (pc := 20) (v := x 9) hx hb hE hP 1 rfl (0) ⟨by omega, by omega⟩ rfl dX6_copy_20 ?_
    refine lv_aload_n (pc := 21) hx hb dX6_copy_21 rfl (lv_at hl 2 rfl) ?_
    refine fget (pc := 22) (v := .ref (y 8)) hx hb hts hown hE hP fl_X6_11 7 rfl rfl dX6_copy_22 ?_
    refine lv_iload_n (pc := 25) hx hb dX6_copy_25 rfl (lv_at hl 0 rfl) ?_
    refine aldR (pc := 26) (v := y 9) hx hb hE hP 8 rfl (0) ⟨by omega, by omega⟩ rfl dX6_copy_26 ?_
    refine wV (pc := 27) (rest := []) ⟨hx, hb, hml, hown, hts⟩ (k_X5_copy (ta := x 9) (f0 := (c 2) 0) (f1 := (c 3) 0) (f2 := (c 4) 0) (f3 := (c 5) 0) (f4 := (c 6) 0) (f5 := (c 7) 0) (tb := y 9) (f0b := (c2 2) 0) (f1b := (c2 3) 0) (f2b := (c2 4) 0) (f3b := (c2 5) 0) (f4b := (c2 6) 0) (f5b := (c2 7) 0)) cw_X6_55 ⟨(Nat.le_of_ble_eq_true rfl), (Nat.le_of_ble_eq_true rfl)⟩ hE hP hD hS [2, 9] (by decide) rfl rfl rfl rfl rfl rfl hl.1 rfl (Nat.le_of_ble_eq_true rfl) dX6_copy_27 ⟨Nat.le_refl _, Nat.le_refl _⟩ (fun H locs hP hD hS => ?_)
    have hP : va_P D vwCl (wTs2 kT x n2 (va_up (va_up (va_up (va_up (va_up (va_up c 2 (upd (c 2) 0 ((c2 2) 0))) 3 (upd (c 3) 0 ((c2 3) 0))) 4 (upd (c 4) 0 ((c2 4) 0))) 5 (upd (c 5) 0 ((c2 5) 0))) 6 (upd (c 6) 0 ((c2 6) 0))) 7 (upd (c 7) 0 ((c2 7) 0))) y n2 c2) H := hP
    have hD : va_D A (wTs2 kT x n2 (va_up (va_up (va_up (va_up (va_up (va_up c 2 (upd (c 2) 0 ((c2 2) 0))) 3 (upd (c 3) 0 ((c2 3) 0))) 4 (upd (c 4) 0 ((c2 4) 0))) 5 (upd (c 5) 0 ((c2 5) 0))) 6 (upd (c 6) 0 ((c2 6) 0))) 7 (upd (c 7) 0 ((c2 7) 0))) y n2 c2) := hD
    refine W.eq (g2 := F0 m 30 ls []) rfl ?_
    refine lv_iinc (pc := 30) (v := 1) (lv' := [(2, .int 1), (0, .ref (x 7)), (1, .ref (y 7))]) hx hb dX6_copy_30 hl (k := 0) rfl (by decide) (by decide) rfl (fun ls hl => ?_)
    refine lv_goto (pc := 33) (tgt := 10) hx hb dX6_copy_33 (by decide) ?_
    refine lv_iload_n (pc := 10) hx hb dX6_copy_10 rfl (lv_at hl 0 rfl) ?_
    refine lv_iconst (pc := 11) (v := 5) hx hb dX6_copy_11 (by decide) ?_
    refine lv_icmp_ge (pc := 12) (tgt := 36) hx hb dX6_copy_12 (by decide) (fun c_2 => ?_) (fun c_2 => ?_)
    · exact absurd c_2 (by decide)
    · skip
      have c_2n : ¬ 5 ≤ 1 := fun hh => c_2 ((nI_leI (a := 5) (b := 1) (by omega) (by omega)).mpr hh)
      refine lv_aload_n (pc := 15) hx hb dX6_copy_15 rfl (lv_at hl 1 rfl) ?_
      refine fget (pc := 16) (v := .ref (x 8)) hx hb hts hown hE hP fl_X6_11 0 rfl rfl dX6_copy_16 ?_
      refine lv_iload_n (pc := 19) hx hb dX6_copy_19 rfl (lv_at hl 0 rfl) ?_
      refine aldR (pc := 20) (v := x 10) hx hb hE hP 1 rfl (1) ⟨by omega, by omega⟩ rfl dX6_copy_20 ?_
      refine lv_aload_n (pc := 21) hx hb dX6_copy_21 rfl (lv_at hl 2 rfl) ?_
      refine fget (pc := 22) (v := .ref (y 8)) hx hb hts hown hE hP fl_X6_11 7 rfl rfl dX6_copy_22 ?_
      refine lv_iload_n (pc := 25) hx hb dX6_copy_25 rfl (lv_at hl 0 rfl) ?_
      refine aldR (pc := 26) (v := y 10) hx hb hE hP 8 rfl (1) ⟨by omega, by omega⟩ rfl dX6_copy_26 ?_
      refine wV (pc := 27) (rest := []) ⟨hx, hb, hml, hown, hts⟩ (k_X5_copy (ta := x 10) (f0 := (upd (c 2) 0 ((c2 2) 0)) 1) (f1 := (upd (c 3) 0 ((c2 3) 0)) 1) (f2 := (upd (c 4) 0 ((c2 4) 0)) 1) (f3 := (upd (c 5) 0 ((c2 5) 0)) 1) (f4 := (upd (c 6) 0 ((c2 6) 0)) 1) (f5 := (upd (c 7) 0 ((c2 7) 0)) 1) (tb := y 10) (f0b := (c2 2) 1) (f1b := (c2 3) 1) (f2b := (c2 4) 1) (f3b := (c2 5) 1) (f4b := (c2 6) 1) (f5b := (c2 7) 1)) cw_X6_55 ⟨(Nat.le_of_ble_eq_true rfl), (Nat.le_of_ble_eq_true rfl)⟩ hE hP hD hS [3, 10] (by decide) rfl rfl rfl rfl rfl rfl hl.1 rfl (Nat.le_of_ble_eq_true rfl) dX6_copy_27 ⟨Nat.le_refl _, Nat.le_refl _⟩ (fun H locs hP hD hS => ?_)
      have hP : va_P D vwCl (wTs2 kT x n2 (va_up (va_up (va_up (va_up (va_up (va_up c 2 (upd (upd (c 2) 0 ((c2 2) 0)) 1 ((c2 2) 1))) 3 (upd (upd (c 3) 0 ((c2 3) 0)) 1 ((c2 3) 1))) 4 (upd (upd (c 4) 0 ((c2 4) 0)) 1 ((c2 4) 1))) 5 (upd (upd (c 5) 0 ((c2 5) 0)) 1 ((c2 5) 1))) 6 (upd (upd (c 6) 0 ((c2 6) 0)) 1 ((c2 6) 1))) 7 (upd (upd (c 7) 0 ((c2 7) 0)) 1 ((c2 7) 1))) y n2 c2) H := hP
      have hD : va_D A (wTs2 kT x n2 (va_up (va_up (va_up (va_up (va_up (va_up c 2 (upd (upd (c 2) 0 ((c2 2) 0)) 1 ((c2 2) 1))) 3 (upd (upd (c 3) 0 ((c2 3) 0)) 1 ((c2 3) 1))) 4 (upd (upd (c 4) 0 ((c2 4) 0)) 1 ((c2 4) 1))) 5 (upd (upd (c 5) 0 ((c2 5) 0)) 1 ((c2 5) 1))) 6 (upd (upd (c 6) 0 ((c2 6) 0)) 1 ((c2 6) 1))) 7 (upd (upd (c 7) 0 ((c2 7) 0)) 1 ((c2 7) 1))) y n2 c2) := hD
      refine W.eq (g2 := F0 m 30 ls []) rfl ?_
      refine lv_iinc (pc := 30) (v := 2) (lv' := [(2, .int 2), (0, .ref (x 7)), (1, .ref (y 7))]) hx hb dX6_copy_30 hl (k := 0) rfl (by decide) (by decide) rfl (fun ls hl => ?_)
      refine lv_goto (pc := 33) (tgt := 10) hx hb dX6_copy_33 (by decide) ?_
      refine lv_iload_n (pc := 10) hx hb dX6_copy_10 rfl (lv_at hl 0 rfl) ?_
      refine lv_iconst (pc := 11) (v := 5) hx hb dX6_copy_11 (by decide) ?_
      refine lv_icmp_ge (pc := 12) (tgt := 36) hx hb dX6_copy_12 (by decide) (fun c_3 => ?_) (fun c_3 => ?_)
      · exact absurd c_3 (by decide)
      · skip
        have c_3n : ¬ 5 ≤ 2 := fun hh => c_3 ((nI_leI (a := 5) (b := 2) (by omega) (by omega)).mpr hh)
        refine lv_aload_n (pc := 15) hx hb dX6_copy_15 rfl (lv_at hl 1 rfl) ?_
        refine fget (pc := 16) (v := .ref (x 8)) hx hb hts hown hE hP fl_X6_11 0 rfl rfl dX6_copy_16 ?_
        refine lv_iload_n (pc := 19) hx hb dX6_copy_19 rfl (lv_at hl 0 rfl) ?_
        refine aldR (pc := 20) (v := x 11) hx hb hE hP 1 rfl (2) ⟨by omega, by omega⟩ rfl dX6_copy_20 ?_
        refine lv_aload_n (pc := 21) hx hb dX6_copy_21 rfl (lv_at hl 2 rfl) ?_
        refine fget (pc := 22) (v := .ref (y 8)) hx hb hts hown hE hP fl_X6_11 7 rfl rfl dX6_copy_22 ?_
        refine lv_iload_n (pc := 25) hx hb dX6_copy_25 rfl (lv_at hl 0 rfl) ?_
        refine aldR (pc := 26) (v := y 11) hx hb hE hP 8 rfl (2) ⟨by omega, by omega⟩ rfl dX6_copy_26 ?_
        refine wV (pc := 27) (rest := []) ⟨hx, hb, hml, hown, hts⟩ (k_X5_copy (ta := x 11) (f0 := (upd (upd (c 2) 0 ((c2 2) 0)) 1 ((c2 2) 1)) 2) (f1 := (upd (upd (c 3) 0 ((c2 3) 0)) 1 ((c2 3) 1)) 2) (f2 := (upd (upd (c 4) 0 ((c2 4) 0)) 1 ((c2 4) 1)) 2) (f3 := (upd (upd (c 5) 0 ((c2 5) 0)) 1 ((c2 5) 1)) 2) (f4 := (upd (upd (c 6) 0 ((c2 6) 0)) 1 ((c2 6) 1)) 2) (f5 := (upd (upd (c 7) 0 ((c2 7) 0)) 1 ((c2 7) 1)) 2) (tb := y 11) (f0b := (c2 2) 2) (f1b := (c2 3) 2) (f2b := (c2 4) 2) (f3b := (c2 5) 2) (f4b := (c2 6) 2) (f5b := (c2 7) 2)) cw_X6_55 ⟨(Nat.le_of_ble_eq_true rfl), (Nat.le_of_ble_eq_true rfl)⟩ hE hP hD hS [4, 11] (by decide) rfl rfl rfl rfl rfl rfl hl.1 rfl (Nat.le_of_ble_eq_true rfl) dX6_copy_27 ⟨Nat.le_refl _, Nat.le_refl _⟩ (fun H locs hP hD hS => ?_)
        have hP : va_P D vwCl (wTs2 kT x n2 (va_up (va_up (va_up (va_up (va_up (va_up c 2 (upd (upd (upd (c 2) 0 ((c2 2) 0)) 1 ((c2 2) 1)) 2 ((c2 2) 2))) 3 (upd (upd (upd (c 3) 0 ((c2 3) 0)) 1 ((c2 3) 1)) 2 ((c2 3) 2))) 4 (upd (upd (upd (c 4) 0 ((c2 4) 0)) 1 ((c2 4) 1)) 2 ((c2 4) 2))) 5 (upd (upd (upd (c 5) 0 ((c2 5) 0)) 1 ((c2 5) 1)) 2 ((c2 5) 2))) 6 (upd (upd (upd (c 6) 0 ((c2 6) 0)) 1 ((c2 6) 1)) 2 ((c2 6) 2))) 7 (upd (upd (upd (c 7) 0 ((c2 7) 0)) 1 ((c2 7) 1)) 2 ((c2 7) 2))) y n2 c2) H := hP
        have hD : va_D A (wTs2 kT x n2 (va_up (va_up (va_up (va_up (va_up (va_up c 2 (upd (upd (upd (c 2) 0 ((c2 2) 0)) 1 ((c2 2) 1)) 2 ((c2 2) 2))) 3 (upd (upd (upd (c 3) 0 ((c2 3) 0)) 1 ((c2 3) 1)) 2 ((c2 3) 2))) 4 (upd (upd (upd (c 4) 0 ((c2 4) 0)) 1 ((c2 4) 1)) 2 ((c2 4) 2))) 5 (upd (upd (upd (c 5) 0 ((c2 5) 0)) 1 ((c2 5) 1)) 2 ((c2 5) 2))) 6 (upd (upd (upd (c 6) 0 ((c2 6) 0)) 1 ((c2 6) 1)) 2 ((c2 6) 2))) 7 (upd (upd (upd (c 7) 0 ((c2 7) 0)) 1 ((c2 7) 1)) 2 ((c2 7) 2))) y n2 c2) := hD
        refine W.eq (g2 := F0 m 30 ls []) rfl ?_
        refine lv_iinc (pc := 30) (v := 3) (lv' := [(2, .int 3), (0, .ref (x 7)), (1, .ref (y 7))]) hx hb dX6_copy_30 hl (k := 0) rfl (by decide) (by decide) rfl (fun ls hl => ?_)
        refine lv_goto (pc := 33) (tgt := 10) hx hb dX6_copy_33 (by decide) ?_
        refine lv_iload_n (pc := 10) hx hb dX6_copy_10 rfl (lv_at hl 0 rfl) ?_
        refine lv_iconst (pc := 11) (v := 5) hx hb dX6_copy_11 (by decide) ?_
        refine lv_icmp_ge (pc := 12) (tgt := 36) hx hb dX6_copy_12 (by decide) (fun c_4 => ?_) (fun c_4 => ?_)
        · exact absurd c_4 (by decide)
        · skip
          have c_4n : ¬ 5 ≤ 3 := fun hh => c_4 ((nI_leI (a := 5) (b := 3) (by omega) (by omega)).mpr hh)
          refine lv_aload_n (pc := 15) hx hb dX6_copy_15 rfl (lv_at hl 1 rfl) ?_
          refine fget (pc := 16) (v := .ref (x 8)) hx hb hts hown hE hP fl_X6_11 0 rfl rfl dX6_copy_16 ?_
          refine lv_iload_n (pc := 19) hx hb dX6_copy_19 rfl (lv_at hl 0 rfl) ?_
          refine aldR (pc := 20) (v := x 12) hx hb hE hP 1 rfl (3) ⟨by omega, by omega⟩ rfl dX6_copy_20 ?_
          refine lv_aload_n (pc := 21) hx hb dX6_copy_21 rfl (lv_at hl 2 rfl) ?_
          refine fget (pc := 22) (v := .ref (y 8)) hx hb hts hown hE hP fl_X6_11 7 rfl rfl dX6_copy_22 ?_
          refine lv_iload_n (pc := 25) hx hb dX6_copy_25 rfl (lv_at hl 0 rfl) ?_
          refine aldR (pc := 26) (v := y 12) hx hb hE hP 8 rfl (3) ⟨by omega, by omega⟩ rfl dX6_copy_26 ?_
          refine wV (pc := 27) (rest := []) ⟨hx, hb, hml, hown, hts⟩ (k_X5_copy (ta := x 12) (f0 := (upd (upd (upd (c 2) 0 ((c2 2) 0)) 1 ((c2 2) 1)) 2 ((c2 2) 2)) 3) (f1 := (upd (upd (upd (c 3) 0 ((c2 3) 0)) 1 ((c2 3) 1)) 2 ((c2 3) 2)) 3) (f2 := (upd (upd (upd (c 4) 0 ((c2 4) 0)) 1 ((c2 4) 1)) 2 ((c2 4) 2)) 3) (f3 := (upd (upd (upd (c 5) 0 ((c2 5) 0)) 1 ((c2 5) 1)) 2 ((c2 5) 2)) 3) (f4 := (upd (upd (upd (c 6) 0 ((c2 6) 0)) 1 ((c2 6) 1)) 2 ((c2 6) 2)) 3) (f5 := (upd (upd (upd (c 7) 0 ((c2 7) 0)) 1 ((c2 7) 1)) 2 ((c2 7) 2)) 3) (tb := y 12) (f0b := (c2 2) 3) (f1b := (c2 3) 3) (f2b := (c2 4) 3) (f3b := (c2 5) 3) (f4b := (c2 6) 3) (f5b := (c2 7) 3)) cw_X6_55 ⟨(Nat.le_of_ble_eq_true rfl), (Nat.le_of_ble_eq_true rfl)⟩ hE hP hD hS [5, 12] (by decide) rfl rfl rfl rfl rfl rfl hl.1 rfl (Nat.le_of_ble_eq_true rfl) dX6_copy_27 ⟨Nat.le_refl _, Nat.le_refl _⟩ (fun H locs hP hD hS => ?_)
          have hP : va_P D vwCl (wTs2 kT x n2 (va_up (va_up (va_up (va_up (va_up (va_up c 2 (upd (upd (upd (upd (c 2) 0 ((c2 2) 0)) 1 ((c2 2) 1)) 2 ((c2 2) 2)) 3 ((c2 2) 3))) 3 (upd (upd (upd (upd (c 3) 0 ((c2 3) 0)) 1 ((c2 3) 1)) 2 ((c2 3) 2)) 3 ((c2 3) 3))) 4 (upd (upd (upd (upd (c 4) 0 ((c2 4) 0)) 1 ((c2 4) 1)) 2 ((c2 4) 2)) 3 ((c2 4) 3))) 5 (upd (upd (upd (upd (c 5) 0 ((c2 5) 0)) 1 ((c2 5) 1)) 2 ((c2 5) 2)) 3 ((c2 5) 3))) 6 (upd (upd (upd (upd (c 6) 0 ((c2 6) 0)) 1 ((c2 6) 1)) 2 ((c2 6) 2)) 3 ((c2 6) 3))) 7 (upd (upd (upd (upd (c 7) 0 ((c2 7) 0)) 1 ((c2 7) 1)) 2 ((c2 7) 2)) 3 ((c2 7) 3))) y n2 c2) H := hP
          have hD : va_D A (wTs2 kT x n2 (va_up (va_up (va_up (va_up (va_up (va_up c 2 (upd (upd (upd (upd (c 2) 0 ((c2 2) 0)) 1 ((c2 2) 1)) 2 ((c2 2) 2)) 3 ((c2 2) 3))) 3 (upd (upd (upd (upd (c 3) 0 ((c2 3) 0)) 1 ((c2 3) 1)) 2 ((c2 3) 2)) 3 ((c2 3) 3))) 4 (upd (upd (upd (upd (c 4) 0 ((c2 4) 0)) 1 ((c2 4) 1)) 2 ((c2 4) 2)) 3 ((c2 4) 3))) 5 (upd (upd (upd (upd (c 5) 0 ((c2 5) 0)) 1 ((c2 5) 1)) 2 ((c2 5) 2)) 3 ((c2 5) 3))) 6 (upd (upd (upd (upd (c 6) 0 ((c2 6) 0)) 1 ((c2 6) 1)) 2 ((c2 6) 2)) 3 ((c2 6) 3))) 7 (upd (upd (upd (upd (c 7) 0 ((c2 7) 0)) 1 ((c2 7) 1)) 2 ((c2 7) 2)) 3 ((c2 7) 3))) y n2 c2) := hD
          refine W.eq (g2 := F0 m 30 ls []) rfl ?_
          refine lv_iinc (pc := 30) (v := 4) (lv' := [(2, .int 4), (0, .ref (x 7)), (1, .ref (y 7))]) hx hb dX6_copy_30 hl (k := 0) rfl (by decide) (by decide) rfl (fun ls hl => ?_)
          refine lv_goto (pc := 33) (tgt := 10) hx hb dX6_copy_33 (by decide) ?_
          refine lv_iload_n (pc := 10) hx hb dX6_copy_10 rfl (lv_at hl 0 rfl) ?_
          refine lv_iconst (pc := 11) (v := 5) hx hb dX6_copy_11 (by decide) ?_
          refine lv_icmp_ge (pc := 12) (tgt := 36) hx hb dX6_copy_12 (by decide) (fun c_5 => ?_) (fun c_5 => ?_)
          · exact absurd c_5 (by decide)
          · skip
            have c_5n : ¬ 5 ≤ 4 := fun hh => c_5 ((nI_leI (a := 5) (b := 4) (by omega) (by omega)).mpr hh)
            refine lv_aload_n (pc := 15) hx hb dX6_copy_15 rfl (lv_at hl 1 rfl) ?_
            refine fget (pc := 16) (v := .ref (x 8)) hx hb hts hown hE hP fl_X6_11 0 rfl rfl dX6_copy_16 ?_
            refine lv_iload_n (pc := 19) hx hb dX6_copy_19 rfl (lv_at hl 0 rfl) ?_
            refine aldR (pc := 20) (v := x 13) hx hb hE hP 1 rfl (4) ⟨by omega, by omega⟩ rfl dX6_copy_20 ?_
            refine lv_aload_n (pc := 21) hx hb dX6_copy_21 rfl (lv_at hl 2 rfl) ?_
            refine fget (pc := 22) (v := .ref (y 8)) hx hb hts hown hE hP fl_X6_11 7 rfl rfl dX6_copy_22 ?_
            refine lv_iload_n (pc := 25) hx hb dX6_copy_25 rfl (lv_at hl 0 rfl) ?_
            refine aldR (pc := 26) (v := y 13) hx hb hE hP 8 rfl (4) ⟨by omega, by omega⟩ rfl dX6_copy_26 ?_
            refine wV (pc := 27) (rest := []) ⟨hx, hb, hml, hown, hts⟩ (k_X5_copy (ta := x 13) (f0 := (upd (upd (upd (upd (c 2) 0 ((c2 2) 0)) 1 ((c2 2) 1)) 2 ((c2 2) 2)) 3 ((c2 2) 3)) 4) (f1 := (upd (upd (upd (upd (c 3) 0 ((c2 3) 0)) 1 ((c2 3) 1)) 2 ((c2 3) 2)) 3 ((c2 3) 3)) 4) (f2 := (upd (upd (upd (upd (c 4) 0 ((c2 4) 0)) 1 ((c2 4) 1)) 2 ((c2 4) 2)) 3 ((c2 4) 3)) 4) (f3 := (upd (upd (upd (upd (c 5) 0 ((c2 5) 0)) 1 ((c2 5) 1)) 2 ((c2 5) 2)) 3 ((c2 5) 3)) 4) (f4 := (upd (upd (upd (upd (c 6) 0 ((c2 6) 0)) 1 ((c2 6) 1)) 2 ((c2 6) 2)) 3 ((c2 6) 3)) 4) (f5 := (upd (upd (upd (upd (c 7) 0 ((c2 7) 0)) 1 ((c2 7) 1)) 2 ((c2 7) 2)) 3 ((c2 7) 3)) 4) (tb := y 13) (f0b := (c2 2) 4) (f1b := (c2 3) 4) (f2b := (c2 4) 4) (f3b := (c2 5) 4) (f4b := (c2 6) 4) (f5b := (c2 7) 4)) cw_X6_55 ⟨(Nat.le_of_ble_eq_true rfl), (Nat.le_of_ble_eq_true rfl)⟩ hE hP hD hS [6, 13] (by decide) rfl rfl rfl rfl rfl rfl hl.1 rfl (Nat.le_of_ble_eq_true rfl) dX6_copy_27 ⟨Nat.le_refl _, Nat.le_refl _⟩ (fun H locs hP hD hS => ?_)
            have hP : va_P D vwCl (wTs2 kT x n2 (va_up (va_up (va_up (va_up (va_up (va_up c 2 (upd (upd (upd (upd (upd (c 2) 0 ((c2 2) 0)) 1 ((c2 2) 1)) 2 ((c2 2) 2)) 3 ((c2 2) 3)) 4 ((c2 2) 4))) 3 (upd (upd (upd (upd (upd (c 3) 0 ((c2 3) 0)) 1 ((c2 3) 1)) 2 ((c2 3) 2)) 3 ((c2 3) 3)) 4 ((c2 3) 4))) 4 (upd (upd (upd (upd (upd (c 4) 0 ((c2 4) 0)) 1 ((c2 4) 1)) 2 ((c2 4) 2)) 3 ((c2 4) 3)) 4 ((c2 4) 4))) 5 (upd (upd (upd (upd (upd (c 5) 0 ((c2 5) 0)) 1 ((c2 5) 1)) 2 ((c2 5) 2)) 3 ((c2 5) 3)) 4 ((c2 5) 4))) 6 (upd (upd (upd (upd (upd (c 6) 0 ((c2 6) 0)) 1 ((c2 6) 1)) 2 ((c2 6) 2)) 3 ((c2 6) 3)) 4 ((c2 6) 4))) 7 (upd (upd (upd (upd (upd (c 7) 0 ((c2 7) 0)) 1 ((c2 7) 1)) 2 ((c2 7) 2)) 3 ((c2 7) 3)) 4 ((c2 7) 4))) y n2 c2) H := hP
            have hD : va_D A (wTs2 kT x n2 (va_up (va_up (va_up (va_up (va_up (va_up c 2 (upd (upd (upd (upd (upd (c 2) 0 ((c2 2) 0)) 1 ((c2 2) 1)) 2 ((c2 2) 2)) 3 ((c2 2) 3)) 4 ((c2 2) 4))) 3 (upd (upd (upd (upd (upd (c 3) 0 ((c2 3) 0)) 1 ((c2 3) 1)) 2 ((c2 3) 2)) 3 ((c2 3) 3)) 4 ((c2 3) 4))) 4 (upd (upd (upd (upd (upd (c 4) 0 ((c2 4) 0)) 1 ((c2 4) 1)) 2 ((c2 4) 2)) 3 ((c2 4) 3)) 4 ((c2 4) 4))) 5 (upd (upd (upd (upd (upd (c 5) 0 ((c2 5) 0)) 1 ((c2 5) 1)) 2 ((c2 5) 2)) 3 ((c2 5) 3)) 4 ((c2 5) 4))) 6 (upd (upd (upd (upd (upd (c 6) 0 ((c2 6) 0)) 1 ((c2 6) 1)) 2 ((c2 6) 2)) 3 ((c2 6) 3)) 4 ((c2 6) 4))) 7 (upd (upd (upd (upd (upd (c 7) 0 ((c2 7) 0)) 1 ((c2 7) 1)) 2 ((c2 7) 2)) 3 ((c2 7) 3)) 4 ((c2 7) 4))) y n2 c2) := hD
            refine W.eq (g2 := F0 m 30 ls []) rfl ?_
            refine lv_iinc (pc := 30) (v := 5) (lv' := [(2, .int 5), (0, .ref (x 7)), (1, .ref (y 7))]) hx hb dX6_copy_30 hl (k := 0) rfl (by decide) (by decide) rfl (fun ls hl => ?_)
            refine lv_goto (pc := 33) (tgt := 10) hx hb dX6_copy_33 (by decide) ?_
            refine lv_iload_n (pc := 10) hx hb dX6_copy_10 rfl (lv_at hl 0 rfl) ?_
            refine lv_iconst (pc := 11) (v := 5) hx hb dX6_copy_11 (by decide) ?_
            refine lv_icmp_ge (pc := 12) (tgt := 36) hx hb dX6_copy_12 (by decide) (fun c_6 => ?_) (fun c_6 => ?_)
            · skip
              have c_6n : 5 ≤ 5 := (nI_leI (a := 5) (b := 5) (by omega) (by omega)).mp c_6
              rw [hQ]; exact W.vret (pc := 36) hx hb hr (fun t9 ht _ => ⟨⟨rfl, by rw [ht]; exact by rw [← ovN_s (c 2) (c2 2) 4, ← ovN_s (c 2) (c2 2) 3, ← ovN_s (c 2) (c2 2) 2, ← ovN_s (c 2) (c2 2) 1, ← ovN_s (c 2) (c2 2) 0, ovN_0 (c 2) (c2 2), ← ovN_s (c 3) (c2 3) 4, ← ovN_s (c 3) (c2 3) 3, ← ovN_s (c 3) (c2 3) 2, ← ovN_s (c 3) (c2 3) 1, ← ovN_s (c 3) (c2 3) 0, ovN_0 (c 3) (c2 3), ← ovN_s (c 4) (c2 4) 4, ← ovN_s (c 4) (c2 4) 3, ← ovN_s (c 4) (c2 4) 2, ← ovN_s (c 4) (c2 4) 1, ← ovN_s (c 4) (c2 4) 0, ovN_0 (c 4) (c2 4), ← ovN_s (c 5) (c2 5) 4, ← ovN_s (c 5) (c2 5) 3, ← ovN_s (c 5) (c2 5) 2, ← ovN_s (c 5) (c2 5) 1, ← ovN_s (c 5) (c2 5) 0, ovN_0 (c 5) (c2 5), ← ovN_s (c 6) (c2 6) 4, ← ovN_s (c 6) (c2 6) 3, ← ovN_s (c 6) (c2 6) 2, ← ovN_s (c 6) (c2 6) 1, ← ovN_s (c 6) (c2 6) 0, ovN_0 (c 6) (c2 6), ← ovN_s (c 7) (c2 7) 4, ← ovN_s (c 7) (c2 7) 3, ← ovN_s (c 7) (c2 7) 2, ← ovN_s (c 7) (c2 7) 1, ← ovN_s (c 7) (c2 7) 0, ovN_0 (c 7) (c2 7)]; exact hP⟩, hS.F ht⟩) hS.2.2 dX6_copy_36 hlocks
            · exact (c_6 (by decide)).elim
end
