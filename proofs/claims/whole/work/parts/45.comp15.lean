section
variable {l : Launch} {D : va_G} {kB kI kT : ClassId} {ks sk sv : Nat}
def wC (kI kT : ClassId) (b : Nat → Nat) (g : Nat → Int32) (cd : Nat → Int32) (so : Nat → Int32) (sq : Nat → Int32) (q : Nat → Int32) (x : Nat → Nat) (c : Nat → Nat → Int32) (v : Nat → Int32) (y : Nat → Nat) (c2 : Nat → Nat → Int32) (v2 : Nat → Int32) (pa : Nat → Nat) (d : Nat → Nat → Int32) (u : Nat → Int32) : va_W :=
  [(b 30, .inr (7, [.ref (b 31), .ref (x 14), .ref (y 14), .ref (pa 0), .ref (b 33), .int (g 27), .int (g 0), .int (g 9)])), (b 31, .inr (0, [.ref (b 32), .int (g 14)])), (b 32, .inl (kI, 40, .inl (cd))), (b 33, .inr (2, [.ref (x 7), .ref (pa 0), .ref (b 34), .ref (b 35), .int (q 20), .int (q 23), .int (q 24)])), (b 34, .inl (kI, 4, .inl (so))), (b 35, .inl (kI, 12, .inl (sq))), (x 14, .inr (3, [.ref (x 7), .ref (x 0), .ref (x 15)])), (x 0, .inr (1, [.ref (x 7), .ref (x 1), .ref (x 2), .ref (x 3), .ref (x 4), .ref (x 5), .ref (x 6), .int (v 57), .int (v 58), .int (v 59)])), (x 1, .inl (kI, 12, .inl (c 8))), (x 2, .inl (kI, 12, .inl (c 50))), (x 3, .inl (kI, 12, .inl (c 51))), (x 4, .inl (kI, 5, .inl (c 52))), (x 5, .inl (kI, 5, .inl (c 53))), (x 6, .inl (kI, 5, .inl (c 54))), (x 7, .inr (6, [.ref (x 8), .int (v 1)])), (x 8, .inl (kT, 5, .inr (.inr (.inr (.inr (fun k => some (x (9 + k)))))))), (x 9, .inr (5, [.int ((c 2) 0), .int ((c 3) 0), .int ((c 4) 0), .int ((c 5) 0), .int ((c 6) 0), .int ((c 7) 0)])), (x 10, .inr (5, [.int ((c 2) 1), .int ((c 3) 1), .int ((c 4) 1), .int ((c 5) 1), .int ((c 6) 1), .int ((c 7) 1)])), (x 11, .inr (5, [.int ((c 2) 2), .int ((c 3) 2), .int ((c 4) 2), .int ((c 5) 2), .int ((c 6) 2), .int ((c 7) 2)])), (x 12, .inr (5, [.int ((c 2) 3), .int ((c 3) 3), .int ((c 4) 3), .int ((c 5) 3), .int ((c 6) 3), .int ((c 7) 3)])), (x 13, .inr (5, [.int ((c 2) 4), .int ((c 3) 4), .int ((c 4) 4), .int ((c 5) 4), .int ((c 6) 4), .int ((c 7) 4)])), (x 15, .inr (4, [.ref (x 16), .ref (x 17), .int (v 10)])), (x 16, .inl (kI, 6, .inl (c 11))), (x 17, .inl (kI, 6, .inl (c 12))), (y 14, .inr (3, [.ref (y 7), .ref (y 0), .ref (y 15)])), (y 0, .inr (1, [.ref (y 7), .ref (y 1), .ref (y 2), .ref (y 3), .ref (y 4), .ref (y 5), .ref (y 6), .int (v2 57), .int (v2 58), .int (v2 59)])), (y 1, .inl (kI, 12, .inl (c2 8))), (y 2, .inl (kI, 12, .inl (c2 50))), (y 3, .inl (kI, 12, .inl (c2 51))), (y 4, .inl (kI, 5, .inl (c2 52))), (y 5, .inl (kI, 5, .inl (c2 53))), (y 6, .inl (kI, 5, .inl (c2 54))), (y 7, .inr (6, [.ref (y 8), .int (v2 1)])), (y 8, .inl (kT, 5, .inr (.inr (.inr (.inr (fun k => some (y (9 + k)))))))), (y 9, .inr (5, [.int ((c2 2) 0), .int ((c2 3) 0), .int ((c2 4) 0), .int ((c2 5) 0), .int ((c2 6) 0), .int ((c2 7) 0)])), (y 10, .inr (5, [.int ((c2 2) 1), .int ((c2 3) 1), .int ((c2 4) 1), .int ((c2 5) 1), .int ((c2 6) 1), .int ((c2 7) 1)])), (y 11, .inr (5, [.int ((c2 2) 2), .int ((c2 3) 2), .int ((c2 4) 2), .int ((c2 5) 2), .int ((c2 6) 2), .int ((c2 7) 2)])), (y 12, .inr (5, [.int ((c2 2) 3), .int ((c2 3) 3), .int ((c2 4) 3), .int ((c2 5) 3), .int ((c2 6) 3), .int ((c2 7) 3)])), (y 13, .inr (5, [.int ((c2 2) 4), .int ((c2 3) 4), .int ((c2 4) 4), .int ((c2 5) 4), .int ((c2 6) 4), .int ((c2 7) 4)])), (y 15, .inr (4, [.ref (y 16), .ref (y 17), .int (v2 10)])), (y 16, .inl (kI, 6, .inl (c2 11))), (y 17, .inl (kI, 6, .inl (c2 12))), (pa 0, .inr (1, [.ref (x 7), .ref (pa 1), .ref (pa 2), .ref (pa 3), .ref (pa 4), .ref (pa 5), .ref (pa 6), .int (u 57), .int (u 58), .int (u 59)])), (pa 1, .inl (kI, 12, .inl (d 8))), (pa 2, .inl (kI, 12, .inl (d 50))), (pa 3, .inl (kI, 12, .inl (d 51))), (pa 4, .inl (kI, 5, .inl (d 52))), (pa 5, .inl (kI, 5, .inl (d 53))), (pa 6, .inl (kI, 5, .inl (d 54)))]
theorem wC_t {kI kT : ClassId} {b : Nat → Nat} {g : Nat → Int32} {cd : Nat → Int32} {so : Nat → Int32} {sq : Nat → Int32} {q : Nat → Int32} {x : Nat → Nat} {c : Nat → Nat → Int32} {v : Nat → Int32} {y : Nat → Nat} {c2 : Nat → Nat → Int32} {v2 : Nat → Int32} {pa : Nat → Nat} {d : Nat → Nat → Int32} {u : Nat → Int32} {k : Nat} (h : k < 5) : (wC kI kT b g cd so sq q x c v y c2 v2 pa d u)[16 + k]? = some (x (9 + k), .inr (5, [.int ((c 2) k), .int ((c 3) k), .int ((c 4) k), .int ((c 5) k), .int ((c 6) k), .int ((c 7) k)])) := by
  match k, h with
  | 0, _ => rfl
  | 1, _ => rfl
  | 2, _ => rfl
  | 3, _ => rfl
  | 4, _ => rfl
theorem wC_s0 {kI kT : ClassId} {b : Nat → Nat} {g : Nat → Int32} {cd : Nat → Int32} {so : Nat → Int32} {sq : Nat → Int32} {q : Nat → Int32} {x : Nat → Nat} {c : Nat → Nat → Int32} {v : Nat → Int32} {y : Nat → Nat} {c2 : Nat → Nat → Int32} {v2 : Nat → Int32} {pa : Nat → Nat} {d : Nat → Nat → Int32} {u : Nat → Int32} {k : Nat} {v9 : Int32} (h : k < 5) : (wC kI kT b g cd so sq q x c v y c2 v2 pa d u).set (16 + k) (x (9 + k), .inr (5, [.int ((c 2) k), .int ((c 3) k), .int ((c 4) k), .int ((c 5) k), .int ((c 6) k), .int ((c 7) k)].set 0 (.int v9))) = wC kI kT b g cd so sq q x (va_up c 2 (upd (c 2) k v9)) v y c2 v2 pa d u := by
  match k, h with
  | 0, _ => rfl
  | 1, _ => rfl
  | 2, _ => rfl
  | 3, _ => rfl
  | 4, _ => rfl
theorem wC_s1 {kI kT : ClassId} {b : Nat → Nat} {g : Nat → Int32} {cd : Nat → Int32} {so : Nat → Int32} {sq : Nat → Int32} {q : Nat → Int32} {x : Nat → Nat} {c : Nat → Nat → Int32} {v : Nat → Int32} {y : Nat → Nat} {c2 : Nat → Nat → Int32} {v2 : Nat → Int32} {pa : Nat → Nat} {d : Nat → Nat → Int32} {u : Nat → Int32} {k : Nat} {v9 : Int32} (h : k < 5) : (wC kI kT b g cd so sq q x c v y c2 v2 pa d u).set (16 + k) (x (9 + k), .inr (5, [.int ((c 2) k), .int ((c 3) k), .int ((c 4) k), .int ((c 5) k), .int ((c 6) k), .int ((c 7) k)].set 1 (.int v9))) = wC kI kT b g cd so sq q x (va_up c 3 (upd (c 3) k v9)) v y c2 v2 pa d u := by
  match k, h with
  | 0, _ => rfl
  | 1, _ => rfl
  | 2, _ => rfl
  | 3, _ => rfl
  | 4, _ => rfl
theorem wC_s2 {kI kT : ClassId} {b : Nat → Nat} {g : Nat → Int32} {cd : Nat → Int32} {so : Nat → Int32} {sq : Nat → Int32} {q : Nat → Int32} {x : Nat → Nat} {c : Nat → Nat → Int32} {v : Nat → Int32} {y : Nat → Nat} {c2 : Nat → Nat → Int32} {v2 : Nat → Int32} {pa : Nat → Nat} {d : Nat → Nat → Int32} {u : Nat → Int32} {k : Nat} {v9 : Int32} (h : k < 5) : (wC kI kT b g cd so sq q x c v y c2 v2 pa d u).set (16 + k) (x (9 + k), .inr (5, [.int ((c 2) k), .int ((c 3) k), .int ((c 4) k), .int ((c 5) k), .int ((c 6) k), .int ((c 7) k)].set 2 (.int v9))) = wC kI kT b g cd so sq q x (va_up c 4 (upd (c 4) k v9)) v y c2 v2 pa d u := by
  match k, h with
  | 0, _ => rfl
  | 1, _ => rfl
  | 2, _ => rfl
  | 3, _ => rfl
  | 4, _ => rfl
theorem wC_s3 {kI kT : ClassId} {b : Nat → Nat} {g : Nat → Int32} {cd : Nat → Int32} {so : Nat → Int32} {sq : Nat → Int32} {q : Nat → Int32} {x : Nat → Nat} {c : Nat → Nat → Int32} {v : Nat → Int32} {y : Nat → Nat} {c2 : Nat → Nat → Int32} {v2 : Nat → Int32} {pa : Nat → Nat} {d : Nat → Nat → Int32} {u : Nat → Int32} {k : Nat} {v9 : Int32} (h : k < 5) : (wC kI kT b g cd so sq q x c v y c2 v2 pa d u).set (16 + k) (x (9 + k), .inr (5, [.int ((c 2) k), .int ((c 3) k), .int ((c 4) k), .int ((c 5) k), .int ((c 6) k), .int ((c 7) k)].set 3 (.int v9))) = wC kI kT b g cd so sq q x (va_up c 5 (upd (c 5) k v9)) v y c2 v2 pa d u := by
  match k, h with
  | 0, _ => rfl
  | 1, _ => rfl
  | 2, _ => rfl
  | 3, _ => rfl
  | 4, _ => rfl
theorem wC_s4 {kI kT : ClassId} {b : Nat → Nat} {g : Nat → Int32} {cd : Nat → Int32} {so : Nat → Int32} {sq : Nat → Int32} {q : Nat → Int32} {x : Nat → Nat} {c : Nat → Nat → Int32} {v : Nat → Int32} {y : Nat → Nat} {c2 : Nat → Nat → Int32} {v2 : Nat → Int32} {pa : Nat → Nat} {d : Nat → Nat → Int32} {u : Nat → Int32} {k : Nat} {v9 : Int32} (h : k < 5) : (wC kI kT b g cd so sq q x c v y c2 v2 pa d u).set (16 + k) (x (9 + k), .inr (5, [.int ((c 2) k), .int ((c 3) k), .int ((c 4) k), .int ((c 5) k), .int ((c 6) k), .int ((c 7) k)].set 4 (.int v9))) = wC kI kT b g cd so sq q x (va_up c 6 (upd (c 6) k v9)) v y c2 v2 pa d u := by
  match k, h with
  | 0, _ => rfl
  | 1, _ => rfl
  | 2, _ => rfl
  | 3, _ => rfl
  | 4, _ => rfl
theorem wC_s5 {kI kT : ClassId} {b : Nat → Nat} {g : Nat → Int32} {cd : Nat → Int32} {so : Nat → Int32} {sq : Nat → Int32} {q : Nat → Int32} {x : Nat → Nat} {c : Nat → Nat → Int32} {v : Nat → Int32} {y : Nat → Nat} {c2 : Nat → Nat → Int32} {v2 : Nat → Int32} {pa : Nat → Nat} {d : Nat → Nat → Int32} {u : Nat → Int32} {k : Nat} {v9 : Int32} (h : k < 5) : (wC kI kT b g cd so sq q x c v y c2 v2 pa d u).set (16 + k) (x (9 + k), .inr (5, [.int ((c 2) k), .int ((c 3) k), .int ((c 4) k), .int ((c 5) k), .int ((c 6) k), .int ((c 7) k)].set 5 (.int v9))) = wC kI kT b g cd so sq q x (va_up c 7 (upd (c 7) k v9)) v y c2 v2 pa d u := by
  match k, h with
  | 0, _ => rfl
  | 1, _ => rfl
  | 2, _ => rfl
  | 3, _ => rfl
  | 4, _ => rfl
theorem sp_CPg {kI kT : ClassId} {b : Nat → Nat} {g : Nat → Int32} {cd : Nat → Int32} {so : Nat → Int32} {sq : Nat → Int32} {q : Nat → Int32} {x : Nat → Nat} {c : Nat → Nat → Int32} {v : Nat → Int32} {y : Nat → Nat} {c2 : Nat → Nat → Int32} {v2 : Nat → Int32} {pa : Nat → Nat} {d : Nat → Nat → Int32} {u : Nat → Int32} {cd9 : Nat → Int32} {ln9 : Int32} : spl (wC kI kT b g cd so sq q x c v y c2 v2 pa d u) [1, 2] (wPg kI b cd9 ln9) = wC kI kT b (va_up g 14 ln9) cd9 so sq q x c v y c2 v2 pa d u := by
  unfold wC wPg
  simp only [spl, List.set_cons_zero, List.set_cons_succ]
  try rfl
theorem sp_CTs {kI kT : ClassId} {b : Nat → Nat} {g : Nat → Int32} {cd : Nat → Int32} {so : Nat → Int32} {sq : Nat → Int32} {q : Nat → Int32} {x : Nat → Nat} {c : Nat → Nat → Int32} {v : Nat → Int32} {y : Nat → Nat} {c2 : Nat → Nat → Int32} {v2 : Nat → Int32} {pa : Nat → Nat} {d : Nat → Nat → Int32} {u : Nat → Int32} {n9 : Int32} {c_2 : Nat → Int32} {c_3 : Nat → Int32} {c_4 : Nat → Int32} {c_5 : Nat → Int32} {c_6 : Nat → Int32} {c_7 : Nat → Int32} : spl (wC kI kT b g cd so sq q x c v y c2 v2 pa d u) [14, 15, 16, 17, 18, 19, 20] (wTs kT x n9 (va_up (va_up (va_up (va_up (va_up (va_up c 2 c_2) 3 c_3) 4 c_4) 5 c_5) 6 c_6) 7 c_7)) = wC kI kT b g cd so sq q x (va_up (va_up (va_up (va_up (va_up (va_up c 2 c_2) 3 c_3) 4 c_4) 5 c_5) 6 c_6) 7 c_7) (va_up v 1 n9) y c2 v2 pa d u := by
  unfold wC wTs
  simp only [spl, List.set_cons_zero, List.set_cons_succ]
  try rfl
theorem sp_CTsp {kI kT : ClassId} {b : Nat → Nat} {g : Nat → Int32} {cd : Nat → Int32} {so : Nat → Int32} {sq : Nat → Int32} {q : Nat → Int32} {x : Nat → Nat} {c : Nat → Nat → Int32} {v : Nat → Int32} {y : Nat → Nat} {c2 : Nat → Nat → Int32} {v2 : Nat → Int32} {pa : Nat → Nat} {d : Nat → Nat → Int32} {u : Nat → Int32} {n9 : Int32} {c_2 : Nat → Int32} {c_3 : Nat → Int32} {c_4 : Nat → Int32} {c_5 : Nat → Int32} {c_6 : Nat → Int32} {c_7 : Nat → Int32} : spl (wC kI kT b g cd so sq q x c v y c2 v2 pa d u) [14, 15, 16, 17, 18, 19, 20, 1, 2] (wTsp kI kT x n9 (va_up (va_up (va_up (va_up (va_up (va_up c 2 c_2) 3 c_3) 4 c_4) 5 c_5) 6 c_6) 7 c_7) b cd (g 14)) = wC kI kT b g cd so sq q x (va_up (va_up (va_up (va_up (va_up (va_up c 2 c_2) 3 c_3) 4 c_4) 5 c_5) 6 c_6) 7 c_7) (va_up v 1 n9) y c2 v2 pa d u := by
  unfold wC wTsp
  simp only [spl, List.set_cons_zero, List.set_cons_succ]
  try rfl
theorem sp_CPl {kI kT : ClassId} {b : Nat → Nat} {g : Nat → Int32} {cd : Nat → Int32} {so : Nat → Int32} {sq : Nat → Int32} {q : Nat → Int32} {x : Nat → Nat} {c : Nat → Nat → Int32} {v : Nat → Int32} {y : Nat → Nat} {c2 : Nat → Nat → Int32} {v2 : Nat → Int32} {pa : Nat → Nat} {d : Nat → Nat → Int32} {u : Nat → Int32} {d_50 : Nat → Int32} {d_51 : Nat → Int32} {d_52 : Nat → Int32} {d_53 : Nat → Int32} {d_54 : Nat → Int32} {u_57 : Int32} {u_58 : Int32} {u_59 : Int32} : spl (wC kI kT b g cd so sq q x c v y c2 v2 pa d u) [7, 8, 9, 10, 11, 12, 13, 14, 15, 16, 17, 18, 19, 20] (wPl kI kT x (va_up (va_up (va_up (va_up (va_up c 50 d_50) 51 d_51) 52 d_52) 53 d_53) 54 d_54) (va_up (va_up (va_up v 57 u_57) 58 u_58) 59 u_59) x (v 1) c) = wC kI kT b g cd so sq q x (va_up (va_up (va_up (va_up (va_up c 50 d_50) 51 d_51) 52 d_52) 53 d_53) 54 d_54) (va_up (va_up (va_up v 57 u_57) 58 u_58) 59 u_59) y c2 v2 pa d u := by
  unfold wC wPl
  simp only [spl, List.set_cons_zero, List.set_cons_succ]
  try rfl
theorem sp_CPl8 {kI kT : ClassId} {b : Nat → Nat} {g : Nat → Int32} {cd : Nat → Int32} {so : Nat → Int32} {sq : Nat → Int32} {q : Nat → Int32} {x : Nat → Nat} {c : Nat → Nat → Int32} {v : Nat → Int32} {y : Nat → Nat} {c2 : Nat → Nat → Int32} {v2 : Nat → Int32} {pa : Nat → Nat} {d : Nat → Nat → Int32} {u : Nat → Int32} {d_8 : Nat → Int32} {d_50 : Nat → Int32} {d_51 : Nat → Int32} {d_52 : Nat → Int32} {d_53 : Nat → Int32} {d_54 : Nat → Int32} {u_57 : Int32} {u_58 : Int32} {u_59 : Int32} : spl (wC kI kT b g cd so sq q x c v y c2 v2 pa d u) [7, 8, 9, 10, 11, 12, 13, 14, 15, 16, 17, 18, 19, 20] (wPl kI kT x (va_up (va_up (va_up (va_up (va_up (va_up c 8 d_8) 50 d_50) 51 d_51) 52 d_52) 53 d_53) 54 d_54) (va_up (va_up (va_up v 57 u_57) 58 u_58) 59 u_59) x (v 1) c) = wC kI kT b g cd so sq q x (va_up (va_up (va_up (va_up (va_up (va_up c 8 d_8) 50 d_50) 51 d_51) 52 d_52) 53 d_53) 54 d_54) (va_up (va_up (va_up v 57 u_57) 58 u_58) 59 u_59) y c2 v2 pa d u := by
  unfold wC wPl
  simp only [spl, List.set_cons_zero, List.set_cons_succ]
  try rfl
theorem sp_CPx {kI kT : ClassId} {b : Nat → Nat} {g : Nat → Int32} {cd : Nat → Int32} {so : Nat → Int32} {sq : Nat → Int32} {q : Nat → Int32} {x : Nat → Nat} {c : Nat → Nat → Int32} {v : Nat → Int32} {y : Nat → Nat} {c2 : Nat → Nat → Int32} {v2 : Nat → Int32} {pa : Nat → Nat} {d : Nat → Nat → Int32} {u : Nat → Int32} {d_8 : Nat → Int32} {d_50 : Nat → Int32} {d_51 : Nat → Int32} {d_52 : Nat → Int32} {d_53 : Nat → Int32} {d_54 : Nat → Int32} {u_57 : Int32} {u_58 : Int32} {u_59 : Int32} : spl (wC kI kT b g cd so sq q x c v y c2 v2 pa d u) [7, 8, 9, 10, 11, 12, 13, 14, 15, 16, 17, 18, 19, 20, 1, 2] (wPx kI kT x (va_up (va_up (va_up (va_up (va_up (va_up c 8 d_8) 50 d_50) 51 d_51) 52 d_52) 53 d_53) 54 d_54) (va_up (va_up (va_up v 57 u_57) 58 u_58) 59 u_59) x (v 1) c b cd (g 14)) = wC kI kT b g cd so sq q x (va_up (va_up (va_up (va_up (va_up (va_up c 8 d_8) 50 d_50) 51 d_51) 52 d_52) 53 d_53) 54 d_54) (va_up (va_up (va_up v 57 u_57) 58 u_58) 59 u_59) y c2 v2 pa d u := by
  unfold wC wPx
  simp only [spl, List.set_cons_zero, List.set_cons_succ]
  try rfl
theorem sp_CPo {kI kT : ClassId} {b : Nat → Nat} {g : Nat → Int32} {cd : Nat → Int32} {so : Nat → Int32} {sq : Nat → Int32} {q : Nat → Int32} {x : Nat → Nat} {c : Nat → Nat → Int32} {v : Nat → Int32} {y : Nat → Nat} {c2 : Nat → Nat → Int32} {v2 : Nat → Int32} {pa : Nat → Nat} {d : Nat → Nat → Int32} {u : Nat → Int32} {d_8 : Nat → Int32} {d_50 : Nat → Int32} {d_51 : Nat → Int32} {d_52 : Nat → Int32} {d_53 : Nat → Int32} {d_54 : Nat → Int32} {u_57 : Int32} {u_58 : Int32} {u_59 : Int32} : spl (wC kI kT b g cd so sq q x c v y c2 v2 pa d u) [7, 8, 9, 10, 11, 12, 13, 14, 15, 16, 17, 18, 19, 20, 5] (wPo kI kT x (va_up (va_up (va_up (va_up (va_up (va_up c 8 d_8) 50 d_50) 51 d_51) 52 d_52) 53 d_53) 54 d_54) (va_up (va_up (va_up v 57 u_57) 58 u_58) 59 u_59) x (v 1) c (b 35) sq) = wC kI kT b g cd so sq q x (va_up (va_up (va_up (va_up (va_up (va_up c 8 d_8) 50 d_50) 51 d_51) 52 d_52) 53 d_53) 54 d_54) (va_up (va_up (va_up v 57 u_57) 58 u_58) 59 u_59) y c2 v2 pa d u := by
  unfold wC wPo
  simp only [spl, List.set_cons_zero, List.set_cons_succ]
  try rfl
theorem sp_CSe {kI kT : ClassId} {b : Nat → Nat} {g : Nat → Int32} {cd : Nat → Int32} {so : Nat → Int32} {sq : Nat → Int32} {q : Nat → Int32} {x : Nat → Nat} {c : Nat → Nat → Int32} {v : Nat → Int32} {y : Nat → Nat} {c2 : Nat → Nat → Int32} {v2 : Nat → Int32} {pa : Nat → Nat} {d : Nat → Nat → Int32} {u : Nat → Int32} {c_11 : Nat → Int32} {c_12 : Nat → Int32} {sz9 : Int32} : spl (wC kI kT b g cd so sq q x c v y c2 v2 pa d u) [21, 22, 23] (wSe kI x (va_up (va_up c 11 c_11) 12 c_12) sz9) = wC kI kT b g cd so sq q x (va_up (va_up c 11 c_11) 12 c_12) (va_up v 10 sz9) y c2 v2 pa d u := by
  unfold wC wSe
  simp only [spl, List.set_cons_zero, List.set_cons_succ]
  try rfl
theorem sp_CSc {kI kT : ClassId} {b : Nat → Nat} {g : Nat → Int32} {cd : Nat → Int32} {so : Nat → Int32} {sq : Nat → Int32} {q : Nat → Int32} {x : Nat → Nat} {c : Nat → Nat → Int32} {v : Nat → Int32} {y : Nat → Nat} {c2 : Nat → Nat → Int32} {v2 : Nat → Int32} {pa : Nat → Nat} {d : Nat → Nat → Int32} {u : Nat → Int32} {d9 : Nat → Nat → Int32} {u9 : Nat → Int32} : spl (wC kI kT b g cd so sq q x c v y c2 v2 pa d u) [42, 43, 44, 45, 46, 47, 48, 14, 15, 16, 17, 18, 19, 20] (wPl kI kT pa d9 u9 x (v 1) c) = wC kI kT b g cd so sq q x c v y c2 v2 pa d9 u9 := by
  unfold wC wPl
  simp only [spl, List.set_cons_zero, List.set_cons_succ]
  try rfl
def Wg (c2 c3 c4 c5 c6 c7 c8 b50 b51 b52 b53 : Nat → Int32) (v57 v58 v59 : Int32) : Prop :=
  (∀ i, i < 12 → b50 i = brk c2 c3 c4 c5 c6 c8 i) ∧ (∀ i, i < 12 → b51 i = sts c2 c7 c8 i) ∧ (∀ t, t < 5 → b52 t = nI (nOf c8 (nI t) 12)) ∧
  (∀ t, t < 5 → b53 t = sumI (fun j => if c8 j = nI t ∧ brk c2 c3 c4 c5 c6 c8 j = 0 then sts c2 c7 c8 j else 0) 12) ∧
  v57 = nI (cntP (fun j => 0 < brk c2 c3 c4 c5 c6 c8 j) 12) ∧ v58 = nI (cntP (fun j => c8 j = -1 ∨ 0 < brk c2 c3 c4 c5 c6 c8 j) 12) ∧ v59 = sumI (fun j => if brk c2 c3 c4 c5 c6 c8 j = 0 then sts c2 c7 c8 j else 0) 12
def Ti (n : Nat) (v1 z1 : Int32) (c2 c3 c4 c5 c6 c7 c8 r2 r3 r4 r5 r6 r7 r8 : Nat → Int32) : Prop :=
  v1 = nI n ∧ z1 = nI n ∧ n ≤ 5 ∧ c2 = r2 ∧ c3 = r3 ∧ c4 = r4 ∧ c5 = r5 ∧ c6 = r6 ∧ c7 = r7 ∧ c8 = r8 ∧ okP n c8 ∧ (∀ k, k < n → ∃ k4, k4 < 5 ∧ c4 k = nI k4) ∧ (∀ k, k < n → ∃ f, f < 10 ∧ c7 k = nI f)
def Se (sn : Nat) (v10 z10 : Int32) (c11 c12 r11 r12 r13 : Nat → Int32) : Prop := v10 = nI sn ∧ z10 = nI sn ∧ sn ≤ 6 ∧ ∀ k, k < sn → Seq1 c11 c12 r11 r12 r13 k
def Pg (pn : Nat) (g14 z14 : Int32) (cd r15 : Nat → Int32) : Prop := g14 = nI pn ∧ z14 = nI pn ∧ pn ≤ 40 ∧ ∀ k, k < pn → cd k = r15 k ∧ inR (cd k) 32 126
def Ct (h bt N : Nat) (g0 z0 g9 z9 : Int32) : Prop := g0 = nI h ∧ z0 = nI h ∧ h ≤ N ∧ N < 100000 ∧ g9 = nI bt ∧ z9 = nI bt ∧ bt ≤ 8
def Kp (h : Nat) (g27 z27 z28 z29 z30 kv1 kv10 : Int32) (k2 k3 k4 k5 k6 k7 k8 k11 k12 s31 s32 s33 s34 s35 s36 s37 s38 s39 s40 : Nat → Int32) : Prop :=
  (g27 = 0 ∧ (z27 = 0 ∨ ∃ kh, kh < h ∧ z28 = nI kh)) ∨
  (g27 = 1 ∧ ¬ z27 = 0 ∧ z28 = nI h ∧ ∃ n2 sn2, kv1 = nI n2 ∧ z29 = nI n2 ∧ n2 ≤ 5 ∧ (∀ j, j < 5 → k2 j = s31 j ∧ k3 j = s32 j ∧ k4 j = s33 j ∧ k5 j = s34 j ∧ k6 j = s35 j ∧ k7 j = s36 j) ∧ (∀ j, j < 12 → k8 j = s37 j) ∧
    okP n2 k8 ∧ (∀ k, k < n2 → ∃ w4, w4 < 5 ∧ k4 k = nI w4) ∧ (∀ k, k < n2 → ∃ f, f < 10 ∧ k7 k = nI f) ∧ Se sn2 kv10 z30 k11 k12 s38 s39 s40)
def Inv (n sn pn h bt N : Nat) (g : Nat → Int32) (cd : Nat → Int32) (c : Nat → Nat → Int32) (v : Nat → Int32) (c2 : Nat → Nat → Int32) (v2 z : Nat → Int32) (r : Nat → Nat → Int32) : Prop :=
  Ti n (v 1) (z 1) (c 2) (c 3) (c 4) (c 5) (c 6) (c 7) (c 8) (r 2) (r 3) (r 4) (r 5) (r 6) (r 7) (r 8) ∧ Wg (c 2) (c 3) (c 4) (c 5) (c 6) (c 7) (c 8) (c 50) (c 51) (c 52) (c 53) (v 57) (v 58) (v 59) ∧
  Se sn (v 10) (z 10) (c 11) (c 12) (r 11) (r 12) (r 13) ∧ Pg pn (g 14) (z 14) cd (r 15) ∧ Ct h bt N (g 0) (z 0) (g 9) (z 9) ∧
  Kp h (g 27) (z 27) (z 28) (z 29) (z 30) (v2 1) (v2 10) (c2 2) (c2 3) (c2 4) (c2 5) (c2 6) (c2 7) (c2 8) (c2 11) (c2 12) (r 31) (r 32) (r 33) (r 34) (r 35) (r 36) (r 37) (r 38) (r 39) (r 40)

end
