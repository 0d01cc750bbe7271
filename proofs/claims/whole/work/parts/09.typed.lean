theorem va_up_s {α : Type} (f : Nat → α) (k : Nat) (v : α) : va_up f k v k = v := if_pos rfl
theorem va_up_n {α : Type} {f : Nat → α} {k j : Nat} {v : α} (h : j ≠ k) : va_up f k v j = f j := if_neg h
theorem va_up_i {α : Type} (f : Nat → α) (k : Nat) : va_up f k (f k) = f := by
  funext j
  unfold va_up
  split
  · next h => rw [h]
  · rfl
theorem va_up_c {α : Type} (f : Nat → α) {i j : Nat} (h : i ≠ j) (a b : α) : va_up (va_up f i a) j b = va_up (va_up f j b) i a := by
  funext k
  unfold va_up
  by_cases h1 : k = i
  · subst h1
    rw [if_neg h, if_pos rfl, if_pos rfl]
  · rw [if_neg h1, if_neg h1]
theorem ite_c {c : Prop} [Decidable c] {a b a2 b2 : va_E} (h1 : c → a = a2) (h2 : ¬ c → b = b2) : (if c then a else b) = if c then a2 else b2 := by
  by_cases h : c
  · rw [if_pos h, if_pos h, h1 h]
  · rw [if_neg h, if_neg h, h2 h]
theorem h03 : 0 < 3 := by decide
theorem h13 : 1 < 3 := by decide
theorem h23 : 2 < 3 := by decide
theorem h30 : 8 * 3 + 0 < 25 := by decide
theorem h08 : 0 < 8 := by decide
theorem g_nar (b : Bool) : narrow .boolean (.int (b2 b)) = .int (b2 b) := by cases b <;> rfl
theorem g_fit (b : Bool) : fits .boolean (.int (b2 b)) = true := by cases b <;> rfl
theorem sw_out {lo hi : Int} {x : Int32} (hl : -2147483648 ≤ lo) (hh : hi < 2147483648) (h : ∀ k : Int, lo ≤ k → k ≤ hi → ¬ x = Int32.ofInt k) : x.toInt < lo ∨ hi < x.toInt := by
  by_cases h1 : x.toInt < lo
  · exact Or.inl h1
  · by_cases h2 : hi < x.toInt
    · exact Or.inr h2
    · exact absurd (fb_asI x).symm (h x.toInt (by omega) (by omega))
theorem k_par {p : Nat} (h : p < 3) : 1 + p < 104 := by omega
theorem k_wea {p : Nat} (h : p < 3) : 4 + p < 104 := by omega
theorem k_sto {p : Nat} (h : p < 3) : 7 + p < 104 := by omega
theorem k_rou {p : Nat} (h : p < 3) : 10 + p < 104 := by omega
theorem k_ews {p : Nat} (h : p < 3) : 13 + p < 104 := by omega
theorem k_cos {p : Nat} (h : p < 3) : 16 + p < 104 := by omega
theorem k_coa {p c : Nat} (h : p < 3) (hc : c < 4) : 19 + (4 * p + c) < 104 := by omega
theorem k_ewe {p e : Nat} (h : 8 * p + e < 25) : 31 + (8 * p + e) < 104 := by omega
theorem k_fle {p e : Nat} (h : 8 * p + e < 25) : 56 + (8 * p + e) < 104 := by omega
theorem k_she {s : Nat} (h : s < 4) : 84 + s < 104 := by omega
theorem k_num {s : Nat} (h : s < 4) : 88 + s < 104 := by omega
theorem f_par {G : Gl} {par : Nat → Pa} {tp : Tp} {sh : Nat → Sh} {tl : Nat → Int32} {hi : Int32} {M : MS} {p mo sz : Nat} {W S R : Nat → Int32} {C : Nat → Nat → Int32} {E : Nat → Ew} (hp : p < 3) : cel G ((va_up par p (mo, sz, W, S, R, C, E), tp, sh, tl, hi), M) (1 + p) = ob 1 [.int (nI mo), .int (nI sz), .ref (ga G (4 + p)), .ref (ga G (7 + p)), .ref (ga G (10 + p)), .ref (ga G (13 + p)), .ref (ga G (16 + p))] := by
  rw [cel_par G _ hp]
  dsimp only [gP, gS]
  rw [va_up_s]
theorem f_wea {G : Gl} {par : Nat → Pa} {tp : Tp} {sh : Nat → Sh} {tl : Nat → Int32} {hi : Int32} {M : MS} {p mo sz : Nat} {W S R : Nat → Int32} {C : Nat → Nat → Int32} {E : Nat → Ew} (hp : p < 3) : cel G ((va_up par p (mo, sz, W, S, R, C, E), tp, sh, tl, hi), M) (4 + p) = ai (gcI G) 12 W := by
  rw [cel_wea G _ hp]
  dsimp only [gP, gS]
  rw [va_up_s]
theorem f_sto {G : Gl} {par : Nat → Pa} {tp : Tp} {sh : Nat → Sh} {tl : Nat → Int32} {hi : Int32} {M : MS} {p mo sz : Nat} {W S R : Nat → Int32} {C : Nat → Nat → Int32} {E : Nat → Ew} (hp : p < 3) : cel G ((va_up par p (mo, sz, W, S, R, C, E), tp, sh, tl, hi), M) (7 + p) = ai (gcI G) 12 S := by
  rw [cel_sto G _ hp]
  dsimp only [gP, gS]
  rw [va_up_s]
theorem f_rou {G : Gl} {par : Nat → Pa} {tp : Tp} {sh : Nat → Sh} {tl : Nat → Int32} {hi : Int32} {M : MS} {p mo sz : Nat} {W S R : Nat → Int32} {C : Nat → Nat → Int32} {E : Nat → Ew} (hp : p < 3) : cel G ((va_up par p (mo, sz, W, S, R, C, E), tp, sh, tl, hi), M) (10 + p) = ai (gcI G) 12 R := by
  rw [cel_rou G _ hp]
  dsimp only [gP, gS]
  rw [va_up_s]
theorem f_coa {G : Gl} {par : Nat → Pa} {tp : Tp} {sh : Nat → Sh} {tl : Nat → Int32} {hi : Int32} {M : MS} {p mo sz : Nat} {W S R : Nat → Int32} {C : Nat → Nat → Int32} {E : Nat → Ew} {c : Nat} (hp : p < 3) (hc : c < 4) : cel G ((va_up par p (mo, sz, W, S, R, C, E), tp, sh, tl, hi), M) (19 + (4 * p + c)) = ai (gcI G) 12 (C c) := by
  rw [cel_coa G _ hp hc]
  dsimp only [gP, gS]
  rw [va_up_s]
theorem f_ewe {G : Gl} {par : Nat → Pa} {tp : Tp} {sh : Nat → Sh} {tl : Nat → Int32} {hi : Int32} {M : MS} {p mo sz : Nat} {W S R : Nat → Int32} {C : Nat → Nat → Int32} {E : Nat → Ew} {e : Nat} {k f x : Int32} {fl : Nat → Int32} (hp : 8 * p + e < 25) (he : e < 8) : cel G ((va_up par p (mo, sz, W, S, R, C, va_up E e (k, f, x, fl)), tp, sh, tl, hi), M) (31 + (8 * p + e)) = ob 0 [.int k, .int f, .int x, .ref (ga G (56 + (8 * p + e)))] := by
  rw [cel_ewe G _ hp he]
  dsimp only [gP, gS]
  rw [va_up_s]
  dsimp only
  rw [va_up_s]
theorem f_fle {G : Gl} {par : Nat → Pa} {tp : Tp} {sh : Nat → Sh} {tl : Nat → Int32} {hi : Int32} {M : MS} {p mo sz : Nat} {W S R : Nat → Int32} {C : Nat → Nat → Int32} {E : Nat → Ew} {e : Nat} {k f x : Int32} {fl : Nat → Int32} (hp : 8 * p + e < 25) (he : e < 8) : cel G ((va_up par p (mo, sz, W, S, R, C, va_up E e (k, f, x, fl)), tp, sh, tl, hi), M) (56 + (8 * p + e)) = ai (gcI G) 12 fl := by
  rw [cel_fle G _ hp he]
  dsimp only [gP, gS]
  rw [va_up_s]
  dsimp only
  rw [va_up_s]
theorem f0_ewe {G : Gl} {par : Nat → Pa} {tp : Tp} {sh : Nat → Sh} {tl : Nat → Int32} {hi : Int32} {M : MS} {p mo sz : Nat} {W S R : Nat → Int32} {C : Nat → Nat → Int32} {E : Nat → Ew} {e : Nat} (hp : 8 * p + e < 25) (he : e < 8) : cel G ((va_up par p (mo, sz, W, S, R, C, E), tp, sh, tl, hi), M) (31 + (8 * p + e)) = ob 0 [.int (E e).1, .int (E e).2.1, .int (E e).2.2.1, .ref (ga G (56 + (8 * p + e)))] := by
  rw [cel_ewe G _ hp he]
  dsimp only [gP, gS]
  rw [va_up_s]
theorem f0_fle {G : Gl} {par : Nat → Pa} {tp : Tp} {sh : Nat → Sh} {tl : Nat → Int32} {hi : Int32} {M : MS} {p mo sz : Nat} {W S R : Nat → Int32} {C : Nat → Nat → Int32} {E : Nat → Ew} {e : Nat} (hp : 8 * p + e < 25) (he : e < 8) : cel G ((va_up par p (mo, sz, W, S, R, C, E), tp, sh, tl, hi), M) (56 + (8 * p + e)) = ai (gcI G) 12 (E e).2.2.2 := by
  rw [cel_fle G _ hp he]
  dsimp only [gP, gS]
  rw [va_up_s]
theorem f_she {G : Gl} {par : Nat → Pa} {tp : Tp} {sh : Nat → Sh} {tl : Nat → Int32} {hi : Int32} {M : MS} {s : Nat} {sn : Nat → Int64} {zz : Nat} {sb : Int32} (hs : s < 4) : cel G ((par, tp, va_up sh s (sn, zz, sb), tl, hi), M) (84 + s) = ob 2 [.ref (ga G (88 + s)), .int (nI zz), .int sb] := by
  rw [cel_she G _ hs]
  dsimp only [gP, gS]
  rw [va_up_s]
theorem f_num {G : Gl} {par : Nat → Pa} {tp : Tp} {sh : Nat → Sh} {tl : Nat → Int32} {hi : Int32} {M : MS} {s : Nat} {sn : Nat → Int64} {zz : Nat} {sb : Int32} (hs : s < 4) : cel G ((par, tp, va_up sh s (sn, zz, sb), tl, hi), M) (88 + s) = aj (gcJ G) 40 sn := by
  rw [cel_num G _ hs]
  dsimp only [gP, gS]
  rw [va_up_s]
set_option maxHeartbeats 1000000 in
theorem u_mo {G : Gl} {par : Nat → Pa} {tp : Tp} {sh : Nat → Sh} {tl : Nat → Int32} {hi : Int32} {M : MS} {p mo sz : Nat} {W S R : Nat → Int32} {C : Nat → Nat → Int32} {E : Nat → Ew} {mo2 : Nat} (hp : p < 3) : ∀ j, j < 104 → cel G ((va_up par p (mo2, sz, W, S, R, C, E), tp, sh, tl, hi), M) j = if j = 1 + p then ob 1 [.int (nI mo2), .int (nI sz), .ref (ga G (4 + p)), .ref (ga G (7 + p)), .ref (ga G (10 + p)), .ref (ga G (13 + p)), .ref (ga G (16 + p))] else cel G ((va_up par p (mo, sz, W, S, R, C, E), tp, sh, tl, hi), M) j := by
  intro j hj
  by_cases hjk : j = 1 + p
  · rw [if_pos hjk, hjk]
    exact f_par hp
  · rw [if_neg hjk]
    unfold cel
    refine ite_c (fun h_obj => ?_) (fun h_obj => ?_)
    · first | rfl | (exfalso; omega)
    refine ite_c (fun h_par => ?_) (fun h_par => ?_)
    · first | (rfl; done) | (dsimp only [gP, gS]; unfold va_up; split <;> first | (rfl; done) | (exfalso; omega))
    refine ite_c (fun h_wea => ?_) (fun h_wea => ?_)
    · first | (rfl; done) | (dsimp only [gP, gS]; unfold va_up; split <;> first | (rfl; done) | (exfalso; omega))
    refine ite_c (fun h_sto => ?_) (fun h_sto => ?_)
    · first | (rfl; done) | (dsimp only [gP, gS]; unfold va_up; split <;> first | (rfl; done) | (exfalso; omega))
    refine ite_c (fun h_rou => ?_) (fun h_rou => ?_)
    · first | (rfl; done) | (dsimp only [gP, gS]; unfold va_up; split <;> first | (rfl; done) | (exfalso; omega))
    refine ite_c (fun h_ews => ?_) (fun h_ews => ?_)
    · first | rfl | (exfalso; omega)
    refine ite_c (fun h_cos => ?_) (fun h_cos => ?_)
    · first | rfl | (exfalso; omega)
    refine ite_c (fun h_coa => ?_) (fun h_coa => ?_)
    · first | (rfl; done) | (dsimp only [gP, gS]; unfold va_up; split <;> first | (rfl; done) | (exfalso; omega))
    refine ite_c (fun h_ewe => ?_) (fun h_ewe => ?_)
    · first | (rfl; done) | (dsimp only [gP, gS]; unfold va_up; split <;> first | (rfl; done) | (exfalso; omega))
    refine ite_c (fun h_fle => ?_) (fun h_fle => ?_)
    · first | (rfl; done) | (dsimp only [gP, gS]; unfold va_up; split <;> first | (rfl; done) | (exfalso; omega))
    refine ite_c (fun h_tap => ?_) (fun h_tap => ?_)
    · first | rfl | (exfalso; omega)
    refine ite_c (fun h_byt => ?_) (fun h_byt => ?_)
    · first | rfl | (exfalso; omega)
    refine ite_c (fun h_shs => ?_) (fun h_shs => ?_)
    · first | rfl | (exfalso; omega)
    refine ite_c (fun h_she => ?_) (fun h_she => ?_)
    · first | (rfl; done) | (dsimp only [gP, gS]; unfold va_up; split <;> first | (rfl; done) | (exfalso; omega))
    refine ite_c (fun h_num => ?_) (fun h_num => ?_)
    · first | (rfl; done) | (dsimp only [gP, gS]; unfold va_up; split <;> first | (rfl; done) | (exfalso; omega))
    refine ite_c (fun h_tol => ?_) (fun h_tol => ?_)
    · first | rfl | (exfalso; omega)
    refine ite_c (fun h_mod => ?_) (fun h_mod => ?_)
    · first | rfl | (exfalso; omega)
    refine ite_c (fun h_ms => ?_) (fun h_ms => ?_)
    · first | rfl | (exfalso; omega)
    refine ite_c (fun h_mk => ?_) (fun h_mk => ?_)
    · first | rfl | (exfalso; omega)
    refine ite_c (fun h_mo => ?_) (fun h_mo => ?_)
    · first | rfl | (exfalso; omega)
    refine ite_c (fun h_ma => ?_) (fun h_ma => ?_)
    · first | rfl | (exfalso; omega)
    refine ite_c (fun h_mf => ?_) (fun h_mf => ?_)
    · first | rfl | (exfalso; omega)
    refine ite_c (fun h_mt => ?_) (fun h_mt => ?_)
    · first | rfl | (exfalso; omega)
    refine ite_c (fun h_mb => ?_) (fun h_mb => ?_)
    · first | rfl | (exfalso; omega)
    refine ite_c (fun h_mz => ?_) (fun h_mz => ?_)
    · first | rfl | (exfalso; omega)
    refine ite_c (fun h_nu => ?_) (fun h_nu => ?_)
    · first | rfl | (exfalso; omega)
    refine ite_c (fun h_mv => ?_) (fun h_mv => ?_)
    · first | rfl | (exfalso; omega)
    rfl
set_option maxHeartbeats 1000000 in
theorem u_sz {G : Gl} {par : Nat → Pa} {tp : Tp} {sh : Nat → Sh} {tl : Nat → Int32} {hi : Int32} {M : MS} {p mo sz : Nat} {W S R : Nat → Int32} {C : Nat → Nat → Int32} {E : Nat → Ew} {sz2 : Nat} (hp : p < 3) : ∀ j, j < 104 → cel G ((va_up par p (mo, sz2, W, S, R, C, E), tp, sh, tl, hi), M) j = if j = 1 + p then ob 1 [.int (nI mo), .int (nI sz2), .ref (ga G (4 + p)), .ref (ga G (7 + p)), .ref (ga G (10 + p)), .ref (ga G (13 + p)), .ref (ga G (16 + p))] else cel G ((va_up par p (mo, sz, W, S, R, C, E), tp, sh, tl, hi), M) j := by
  intro j hj
  by_cases hjk : j = 1 + p
  · rw [if_pos hjk, hjk]
    exact f_par hp
  · rw [if_neg hjk]
    unfold cel
    refine ite_c (fun h_obj => ?_) (fun h_obj => ?_)
    · first | rfl | (exfalso; omega)
    refine ite_c (fun h_par => ?_) (fun h_par => ?_)
    · first | (rfl; done) | (dsimp only [gP, gS]; unfold va_up; split <;> first | (rfl; done) | (exfalso; omega))
    refine ite_c (fun h_wea => ?_) (fun h_wea => ?_)
    · first | (rfl; done) | (dsimp only [gP, gS]; unfold va_up; split <;> first | (rfl; done) | (exfalso; omega))
    refine ite_c (fun h_sto => ?_) (fun h_sto => ?_)
    · first | (rfl; done) | (dsimp only [gP, gS]; unfold va_up; split <;> first | (rfl; done) | (exfalso; omega))
    refine ite_c (fun h_rou => ?_) (fun h_rou => ?_)
    · first | (rfl; done) | (dsimp only [gP, gS]; unfold va_up; split <;> first | (rfl; done) | (exfalso; omega))
    refine ite_c (fun h_ews => ?_) (fun h_ews => ?_)
    · first | rfl | (exfalso; omega)
    refine ite_c (fun h_cos => ?_) (fun h_cos => ?_)
    · first | rfl | (exfalso; omega)
    refine ite_c (fun h_coa => ?_) (fun h_coa => ?_)
    · first | (rfl; done) | (dsimp only [gP, gS]; unfold va_up; split <;> first | (rfl; done) | (exfalso; omega))
    refine ite_c (fun h_ewe => ?_) (fun h_ewe => ?_)
    · first | (rfl; done) | (dsimp only [gP, gS]; unfold va_up; split <;> first | (rfl; done) | (exfalso; omega))
    refine ite_c (fun h_fle => ?_) (fun h_fle => ?_)
    · first | (rfl; done) | (dsimp only [gP, gS]; unfold va_up; split <;> first | (rfl; done) | (exfalso; omega))
    refine ite_c (fun h_tap => ?_) (fun h_tap => ?_)
    · first | rfl | (exfalso; omega)
    refine ite_c (fun h_byt => ?_) (fun h_byt => ?_)
    · first | rfl | (exfalso; omega)
    refine ite_c (fun h_shs => ?_) (fun h_shs => ?_)
    · first | rfl | (exfalso; omega)
    refine ite_c (fun h_she => ?_) (fun h_she => ?_)
    · first | (rfl; done) | (dsimp only [gP, gS]; unfold va_up; split <;> first | (rfl; done) | (exfalso; omega))
    refine ite_c (fun h_num => ?_) (fun h_num => ?_)
    · first | (rfl; done) | (dsimp only [gP, gS]; unfold va_up; split <;> first | (rfl; done) | (exfalso; omega))
    refine ite_c (fun h_tol => ?_) (fun h_tol => ?_)
    · first | rfl | (exfalso; omega)
    refine ite_c (fun h_mod => ?_) (fun h_mod => ?_)
    · first | rfl | (exfalso; omega)
    refine ite_c (fun h_ms => ?_) (fun h_ms => ?_)
    · first | rfl | (exfalso; omega)
    refine ite_c (fun h_mk => ?_) (fun h_mk => ?_)
    · first | rfl | (exfalso; omega)
    refine ite_c (fun h_mo => ?_) (fun h_mo => ?_)
    · first | rfl | (exfalso; omega)
    refine ite_c (fun h_ma => ?_) (fun h_ma => ?_)
    · first | rfl | (exfalso; omega)
    refine ite_c (fun h_mf => ?_) (fun h_mf => ?_)
    · first | rfl | (exfalso; omega)
    refine ite_c (fun h_mt => ?_) (fun h_mt => ?_)
    · first | rfl | (exfalso; omega)
    refine ite_c (fun h_mb => ?_) (fun h_mb => ?_)
    · first | rfl | (exfalso; omega)
    refine ite_c (fun h_mz => ?_) (fun h_mz => ?_)
    · first | rfl | (exfalso; omega)
    refine ite_c (fun h_nu => ?_) (fun h_nu => ?_)
    · first | rfl | (exfalso; omega)
    refine ite_c (fun h_mv => ?_) (fun h_mv => ?_)
    · first | rfl | (exfalso; omega)
    rfl
set_option maxHeartbeats 1000000 in
theorem u_W {G : Gl} {par : Nat → Pa} {tp : Tp} {sh : Nat → Sh} {tl : Nat → Int32} {hi : Int32} {M : MS} {p mo sz : Nat} {W S R : Nat → Int32} {C : Nat → Nat → Int32} {E : Nat → Ew} {W2 : Nat → Int32} (hp : p < 3) : ∀ j, j < 104 → cel G ((va_up par p (mo, sz, W2, S, R, C, E), tp, sh, tl, hi), M) j = if j = 4 + p then ai (gcI G) 12 W2 else cel G ((va_up par p (mo, sz, W, S, R, C, E), tp, sh, tl, hi), M) j := by
  intro j hj
  by_cases hjk : j = 4 + p
  · rw [if_pos hjk, hjk]
    exact f_wea hp
  · rw [if_neg hjk]
    unfold cel
    refine ite_c (fun h_obj => ?_) (fun h_obj => ?_)
    · first | rfl | (exfalso; omega)
    refine ite_c (fun h_par => ?_) (fun h_par => ?_)
    · first | (rfl; done) | (dsimp only [gP, gS]; unfold va_up; split <;> first | (rfl; done) | (exfalso; omega))
    refine ite_c (fun h_wea => ?_) (fun h_wea => ?_)
    · first | (rfl; done) | (dsimp only [gP, gS]; unfold va_up; split <;> first | (rfl; done) | (exfalso; omega))
    refine ite_c (fun h_sto => ?_) (fun h_sto => ?_)
    · first | (rfl; done) | (dsimp only [gP, gS]; unfold va_up; split <;> first | (rfl; done) | (exfalso; omega))
    refine ite_c (fun h_rou => ?_) (fun h_rou => ?_)
    · first | (rfl; done) | (dsimp only [gP, gS]; unfold va_up; split <;> first | (rfl; done) | (exfalso; omega))
    refine ite_c (fun h_ews => ?_) (fun h_ews => ?_)
    · first | rfl | (exfalso; omega)
    refine ite_c (fun h_cos => ?_) (fun h_cos => ?_)
    · first | rfl | (exfalso; omega)
    refine ite_c (fun h_coa => ?_) (fun h_coa => ?_)
    · first | (rfl; done) | (dsimp only [gP, gS]; unfold va_up; split <;> first | (rfl; done) | (exfalso; omega))
    refine ite_c (fun h_ewe => ?_) (fun h_ewe => ?_)
    · first | (rfl; done) | (dsimp only [gP, gS]; unfold va_up; split <;> first | (rfl; done) | (exfalso; omega))
    refine ite_c (fun h_fle => ?_) (fun h_fle => ?_)
    · first | (rfl; done) | (dsimp only [gP, gS]; unfold va_up; split <;> first | (rfl; done) | (exfalso; omega))
    refine ite_c (fun h_tap => ?_) (fun h_tap => ?_)
    · first | rfl | (exfalso; omega)
    refine ite_c (fun h_byt => ?_) (fun h_byt => ?_)
    · first | rfl | (exfalso; omega)
    refine ite_c (fun h_shs => ?_) (fun h_shs => ?_)
    · first | rfl | (exfalso; omega)
    refine ite_c (fun h_she => ?_) (fun h_she => ?_)
    · first | (rfl; done) | (dsimp only [gP, gS]; unfold va_up; split <;> first | (rfl; done) | (exfalso; omega))
    refine ite_c (fun h_num => ?_) (fun h_num => ?_)
    · first | (rfl; done) | (dsimp only [gP, gS]; unfold va_up; split <;> first | (rfl; done) | (exfalso; omega))
    refine ite_c (fun h_tol => ?_) (fun h_tol => ?_)
    · first | rfl | (exfalso; omega)
    refine ite_c (fun h_mod => ?_) (fun h_mod => ?_)
    · first | rfl | (exfalso; omega)
    refine ite_c (fun h_ms => ?_) (fun h_ms => ?_)
    · first | rfl | (exfalso; omega)
    refine ite_c (fun h_mk => ?_) (fun h_mk => ?_)
    · first | rfl | (exfalso; omega)
    refine ite_c (fun h_mo => ?_) (fun h_mo => ?_)
    · first | rfl | (exfalso; omega)
    refine ite_c (fun h_ma => ?_) (fun h_ma => ?_)
    · first | rfl | (exfalso; omega)
    refine ite_c (fun h_mf => ?_) (fun h_mf => ?_)
    · first | rfl | (exfalso; omega)
    refine ite_c (fun h_mt => ?_) (fun h_mt => ?_)
    · first | rfl | (exfalso; omega)
    refine ite_c (fun h_mb => ?_) (fun h_mb => ?_)
    · first | rfl | (exfalso; omega)
    refine ite_c (fun h_mz => ?_) (fun h_mz => ?_)
    · first | rfl | (exfalso; omega)
    refine ite_c (fun h_nu => ?_) (fun h_nu => ?_)
    · first | rfl | (exfalso; omega)
    refine ite_c (fun h_mv => ?_) (fun h_mv => ?_)
    · first | rfl | (exfalso; omega)
    rfl
set_option maxHeartbeats 1000000 in
theorem u_S {G : Gl} {par : Nat → Pa} {tp : Tp} {sh : Nat → Sh} {tl : Nat → Int32} {hi : Int32} {M : MS} {p mo sz : Nat} {W S R : Nat → Int32} {C : Nat → Nat → Int32} {E : Nat → Ew} {S2 : Nat → Int32} (hp : p < 3) : ∀ j, j < 104 → cel G ((va_up par p (mo, sz, W, S2, R, C, E), tp, sh, tl, hi), M) j = if j = 7 + p then ai (gcI G) 12 S2 else cel G ((va_up par p (mo, sz, W, S, R, C, E), tp, sh, tl, hi), M) j := by
  intro j hj
  by_cases hjk : j = 7 + p
  · rw [if_pos hjk, hjk]
    exact f_sto hp
  · rw [if_neg hjk]
    unfold cel
    refine ite_c (fun h_obj => ?_) (fun h_obj => ?_)
    · first | rfl | (exfalso; omega)
    refine ite_c (fun h_par => ?_) (fun h_par => ?_)
    · first | (rfl; done) | (dsimp only [gP, gS]; unfold va_up; split <;> first | (rfl; done) | (exfalso; omega))
    refine ite_c (fun h_wea => ?_) (fun h_wea => ?_)
    · first | (rfl; done) | (dsimp only [gP, gS]; unfold va_up; split <;> first | (rfl; done) | (exfalso; omega))
    refine ite_c (fun h_sto => ?_) (fun h_sto => ?_)
    · first | (rfl; done) | (dsimp only [gP, gS]; unfold va_up; split <;> first | (rfl; done) | (exfalso; omega))
    refine ite_c (fun h_rou => ?_) (fun h_rou => ?_)
    · first | (rfl; done) | (dsimp only [gP, gS]; unfold va_up; split <;> first | (rfl; done) | (exfalso; omega))
    refine ite_c (fun h_ews => ?_) (fun h_ews => ?_)
    · first | rfl | (exfalso; omega)
    refine ite_c (fun h_cos => ?_) (fun h_cos => ?_)
    · first | rfl | (exfalso; omega)
    refine ite_c (fun h_coa => ?_) (fun h_coa => ?_)
    · first | (rfl; done) | (dsimp only [gP, gS]; unfold va_up; split <;> first | (rfl; done) | (exfalso; omega))
    refine ite_c (fun h_ewe => ?_) (fun h_ewe => ?_)
    · first | (rfl; done) | (dsimp only [gP, gS]; unfold va_up; split <;> first | (rfl; done) | (exfalso; omega))
    refine ite_c (fun h_fle => ?_) (fun h_fle => ?_)
    · first | (rfl; done) | (dsimp only [gP, gS]; unfold va_up; split <;> first | (rfl; done) | (exfalso; omega))
    refine ite_c (fun h_tap => ?_) (fun h_tap => ?_)
    · first | rfl | (exfalso; omega)
    refine ite_c (fun h_byt => ?_) (fun h_byt => ?_)
    · first | rfl | (exfalso; omega)
    refine ite_c (fun h_shs => ?_) (fun h_shs => ?_)
    · first | rfl | (exfalso; omega)
    refine ite_c (fun h_she => ?_) (fun h_she => ?_)
    · first | (rfl; done) | (dsimp only [gP, gS]; unfold va_up; split <;> first | (rfl; done) | (exfalso; omega))
    refine ite_c (fun h_num => ?_) (fun h_num => ?_)
    · first | (rfl; done) | (dsimp only [gP, gS]; unfold va_up; split <;> first | (rfl; done) | (exfalso; omega))
    refine ite_c (fun h_tol => ?_) (fun h_tol => ?_)
    · first | rfl | (exfalso; omega)
    refine ite_c (fun h_mod => ?_) (fun h_mod => ?_)
    · first | rfl | (exfalso; omega)
    refine ite_c (fun h_ms => ?_) (fun h_ms => ?_)
    · first | rfl | (exfalso; omega)
    refine ite_c (fun h_mk => ?_) (fun h_mk => ?_)
    · first | rfl | (exfalso; omega)
    refine ite_c (fun h_mo => ?_) (fun h_mo => ?_)
    · first | rfl | (exfalso; omega)
    refine ite_c (fun h_ma => ?_) (fun h_ma => ?_)
    · first | rfl | (exfalso; omega)
    refine ite_c (fun h_mf => ?_) (fun h_mf => ?_)
    · first | rfl | (exfalso; omega)
    refine ite_c (fun h_mt => ?_) (fun h_mt => ?_)
    · first | rfl | (exfalso; omega)
    refine ite_c (fun h_mb => ?_) (fun h_mb => ?_)
    · first | rfl | (exfalso; omega)
    refine ite_c (fun h_mz => ?_) (fun h_mz => ?_)
    · first | rfl | (exfalso; omega)
    refine ite_c (fun h_nu => ?_) (fun h_nu => ?_)
    · first | rfl | (exfalso; omega)
    refine ite_c (fun h_mv => ?_) (fun h_mv => ?_)
    · first | rfl | (exfalso; omega)
    rfl
set_option maxHeartbeats 1000000 in
theorem u_R {G : Gl} {par : Nat → Pa} {tp : Tp} {sh : Nat → Sh} {tl : Nat → Int32} {hi : Int32} {M : MS} {p mo sz : Nat} {W S R : Nat → Int32} {C : Nat → Nat → Int32} {E : Nat → Ew} {R2 : Nat → Int32} (hp : p < 3) : ∀ j, j < 104 → cel G ((va_up par p (mo, sz, W, S, R2, C, E), tp, sh, tl, hi), M) j = if j = 10 + p then ai (gcI G) 12 R2 else cel G ((va_up par p (mo, sz, W, S, R, C, E), tp, sh, tl, hi), M) j := by
  intro j hj
  by_cases hjk : j = 10 + p
  · rw [if_pos hjk, hjk]
    exact f_rou hp
  · rw [if_neg hjk]
    unfold cel
    refine ite_c (fun h_obj => ?_) (fun h_obj => ?_)
    · first | rfl | (exfalso; omega)
    refine ite_c (fun h_par => ?_) (fun h_par => ?_)
    · first | (rfl; done) | (dsimp only [gP, gS]; unfold va_up; split <;> first | (rfl; done) | (exfalso; omega))
    refine ite_c (fun h_wea => ?_) (fun h_wea => ?_)
    · first | (rfl; done) | (dsimp only [gP, gS]; unfold va_up; split <;> first | (rfl; done) | (exfalso; omega))
    refine ite_c (fun h_sto => ?_) (fun h_sto => ?_)
    · first | (rfl; done) | (dsimp only [gP, gS]; unfold va_up; split <;> first | (rfl; done) | (exfalso; omega))
    refine ite_c (fun h_rou => ?_) (fun h_rou => ?_)
    · first | (rfl; done) | (dsimp only [gP, gS]; unfold va_up; split <;> first | (rfl; done) | (exfalso; omega))
    refine ite_c (fun h_ews => ?_) (fun h_ews => ?_)
    · first | rfl | (exfalso; omega)
    refine ite_c (fun h_cos => ?_) (fun h_cos => ?_)
    · first | rfl | (exfalso; omega)
    refine ite_c (fun h_coa => ?_) (fun h_coa => ?_)
    · first | (rfl; done) | (dsimp only [gP, gS]; unfold va_up; split <;> first | (rfl; done) | (exfalso; omega))
    refine ite_c (fun h_ewe => ?_) (fun h_ewe => ?_)
    · first | (rfl; done) | (dsimp only [gP, gS]; unfold va_up; split <;> first | (rfl; done) | (exfalso; omega))
    refine ite_c (fun h_fle => ?_) (fun h_fle => ?_)
    · first | (rfl; done) | (dsimp only [gP, gS]; unfold va_up; split <;> first | (rfl; done) | (exfalso; omega))
    refine ite_c (fun h_tap => ?_) (fun h_tap => ?_)
    · first | rfl | (exfalso; omega)
    refine ite_c (fun h_byt => ?_) (fun h_byt => ?_)
    · first | rfl | (exfalso; omega)
    refine ite_c (fun h_shs => ?_) (fun h_shs => ?_)
    · first | rfl | (exfalso; omega)
    refine ite_c (fun h_she => ?_) (fun h_she => ?_)
    · first | (rfl; done) | (dsimp only [gP, gS]; unfold va_up; split <;> first | (rfl; done) | (exfalso; omega))
    refine ite_c (fun h_num => ?_) (fun h_num => ?_)
    · first | (rfl; done) | (dsimp only [gP, gS]; unfold va_up; split <;> first | (rfl; done) | (exfalso; omega))
    refine ite_c (fun h_tol => ?_) (fun h_tol => ?_)
    · first | rfl | (exfalso; omega)
    refine ite_c (fun h_mod => ?_) (fun h_mod => ?_)
    · first | rfl | (exfalso; omega)
    refine ite_c (fun h_ms => ?_) (fun h_ms => ?_)
    · first | rfl | (exfalso; omega)
    refine ite_c (fun h_mk => ?_) (fun h_mk => ?_)
    · first | rfl | (exfalso; omega)
    refine ite_c (fun h_mo => ?_) (fun h_mo => ?_)
    · first | rfl | (exfalso; omega)
    refine ite_c (fun h_ma => ?_) (fun h_ma => ?_)
    · first | rfl | (exfalso; omega)
    refine ite_c (fun h_mf => ?_) (fun h_mf => ?_)
    · first | rfl | (exfalso; omega)
    refine ite_c (fun h_mt => ?_) (fun h_mt => ?_)
    · first | rfl | (exfalso; omega)
    refine ite_c (fun h_mb => ?_) (fun h_mb => ?_)
    · first | rfl | (exfalso; omega)
    refine ite_c (fun h_mz => ?_) (fun h_mz => ?_)
    · first | rfl | (exfalso; omega)
    refine ite_c (fun h_nu => ?_) (fun h_nu => ?_)
    · first | rfl | (exfalso; omega)
    refine ite_c (fun h_mv => ?_) (fun h_mv => ?_)
    · first | rfl | (exfalso; omega)
    rfl
set_option maxHeartbeats 1000000 in
theorem u_C {G : Gl} {par : Nat → Pa} {tp : Tp} {sh : Nat → Sh} {tl : Nat → Int32} {hi : Int32} {M : MS} {p mo sz : Nat} {W S R : Nat → Int32} {C : Nat → Nat → Int32} {E : Nat → Ew} {c : Nat} {D2 : Nat → Int32} (hp : p < 3) (hc : c < 4) : ∀ j, j < 104 → cel G ((va_up par p (mo, sz, W, S, R, va_up C c D2, E), tp, sh, tl, hi), M) j = if j = 19 + (4 * p + c) then ai (gcI G) 12 D2 else cel G ((va_up par p (mo, sz, W, S, R, C, E), tp, sh, tl, hi), M) j := by
  intro j hj
  by_cases hjk : j = 19 + (4 * p + c)
  · rw [if_pos hjk, hjk]
    exact (f_coa hp hc).trans (by rw [va_up_s])
  · rw [if_neg hjk]
    unfold cel
    refine ite_c (fun h_obj => ?_) (fun h_obj => ?_)
    · first | rfl | (exfalso; omega)
    refine ite_c (fun h_par => ?_) (fun h_par => ?_)
    · first | (rfl; done) | (dsimp only [gP, gS]; unfold va_up; split <;> first | (rfl; done) | (exfalso; omega))
    refine ite_c (fun h_wea => ?_) (fun h_wea => ?_)
    · first | (rfl; done) | (dsimp only [gP, gS]; unfold va_up; split <;> first | (rfl; done) | (exfalso; omega))
    refine ite_c (fun h_sto => ?_) (fun h_sto => ?_)
    · first | (rfl; done) | (dsimp only [gP, gS]; unfold va_up; split <;> first | (rfl; done) | (exfalso; omega))
    refine ite_c (fun h_rou => ?_) (fun h_rou => ?_)
    · first | (rfl; done) | (dsimp only [gP, gS]; unfold va_up; split <;> first | (rfl; done) | (exfalso; omega))
    refine ite_c (fun h_ews => ?_) (fun h_ews => ?_)
    · first | rfl | (exfalso; omega)
    refine ite_c (fun h_cos => ?_) (fun h_cos => ?_)
    · first | rfl | (exfalso; omega)
    refine ite_c (fun h_coa => ?_) (fun h_coa => ?_)
    · have q0 : ¬ ((j - 19) / 4 = p ∧ (j - 19) % 4 = c) := by omega
      dsimp only [gP, gS]
      by_cases q1 : (j - 19) / 4 = p
      · have q2 : (j - 19) % 4 ≠ c := fun z => q0 ⟨q1, z⟩
        rw [q1, va_up_s, va_up_s]
        show ai _ _ (va_up C c D2 _) = _
        rw [va_up_n q2]
      · rw [va_up_n q1, va_up_n q1]
    refine ite_c (fun h_ewe => ?_) (fun h_ewe => ?_)
    · first | (rfl; done) | (dsimp only [gP, gS]; unfold va_up; split <;> first | (rfl; done) | (exfalso; omega))
    refine ite_c (fun h_fle => ?_) (fun h_fle => ?_)
    · first | (rfl; done) | (dsimp only [gP, gS]; unfold va_up; split <;> first | (rfl; done) | (exfalso; omega))
    refine ite_c (fun h_tap => ?_) (fun h_tap => ?_)
    · first | rfl | (exfalso; omega)
    refine ite_c (fun h_byt => ?_) (fun h_byt => ?_)
    · first | rfl | (exfalso; omega)
    refine ite_c (fun h_shs => ?_) (fun h_shs => ?_)
    · first | rfl | (exfalso; omega)
    refine ite_c (fun h_she => ?_) (fun h_she => ?_)
    · first | (rfl; done) | (dsimp only [gP, gS]; unfold va_up; split <;> first | (rfl; done) | (exfalso; omega))
    refine ite_c (fun h_num => ?_) (fun h_num => ?_)
    · first | (rfl; done) | (dsimp only [gP, gS]; unfold va_up; split <;> first | (rfl; done) | (exfalso; omega))
    refine ite_c (fun h_tol => ?_) (fun h_tol => ?_)
    · first | rfl | (exfalso; omega)
    refine ite_c (fun h_mod => ?_) (fun h_mod => ?_)
    · first | rfl | (exfalso; omega)
    refine ite_c (fun h_ms => ?_) (fun h_ms => ?_)
    · first | rfl | (exfalso; omega)
    refine ite_c (fun h_mk => ?_) (fun h_mk => ?_)
    · first | rfl | (exfalso; omega)
    refine ite_c (fun h_mo => ?_) (fun h_mo => ?_)
    · first | rfl | (exfalso; omega)
    refine ite_c (fun h_ma => ?_) (fun h_ma => ?_)
    · first | rfl | (exfalso; omega)
    refine ite_c (fun h_mf => ?_) (fun h_mf => ?_)
    · first | rfl | (exfalso; omega)
    refine ite_c (fun h_mt => ?_) (fun h_mt => ?_)
    · first | rfl | (exfalso; omega)
    refine ite_c (fun h_mb => ?_) (fun h_mb => ?_)
    · first | rfl | (exfalso; omega)
    refine ite_c (fun h_mz => ?_) (fun h_mz => ?_)
    · first | rfl | (exfalso; omega)
    refine ite_c (fun h_nu => ?_) (fun h_nu => ?_)
    · first | rfl | (exfalso; omega)
    refine ite_c (fun h_mv => ?_) (fun h_mv => ?_)
    · first | rfl | (exfalso; omega)
    rfl
set_option maxHeartbeats 1000000 in
theorem u_E {G : Gl} {par : Nat → Pa} {tp : Tp} {sh : Nat → Sh} {tl : Nat → Int32} {hi : Int32} {M : MS} {p mo sz : Nat} {W S R : Nat → Int32} {C : Nat → Nat → Int32} {E : Nat → Ew} {e : Nat} {k f x k2 f2 x2 : Int32} {fl : Nat → Int32} (hp : 8 * p + e < 25) (he : e < 8) : ∀ j, j < 104 → cel G ((va_up par p (mo, sz, W, S, R, C, va_up E e (k2, f2, x2, fl)), tp, sh, tl, hi), M) j = if j = 31 + (8 * p + e) then ob 0 [.int k2, .int f2, .int x2, .ref (ga G (56 + (8 * p + e)))] else cel G ((va_up par p (mo, sz, W, S, R, C, va_up E e (k, f, x, fl)), tp, sh, tl, hi), M) j := by
  intro j hj
  by_cases hjk : j = 31 + (8 * p + e)
  · rw [if_pos hjk, hjk]
    exact f_ewe hp he
  · rw [if_neg hjk]
    unfold cel
    refine ite_c (fun h_obj => ?_) (fun h_obj => ?_)
    · first | rfl | (exfalso; omega)
    refine ite_c (fun h_par => ?_) (fun h_par => ?_)
    · first | (rfl; done) | (dsimp only [gP, gS]; unfold va_up; split <;> first | (rfl; done) | (exfalso; omega))
    refine ite_c (fun h_wea => ?_) (fun h_wea => ?_)
    · first | (rfl; done) | (dsimp only [gP, gS]; unfold va_up; split <;> first | (rfl; done) | (exfalso; omega))
    refine ite_c (fun h_sto => ?_) (fun h_sto => ?_)
    · first | (rfl; done) | (dsimp only [gP, gS]; unfold va_up; split <;> first | (rfl; done) | (exfalso; omega))
    refine ite_c (fun h_rou => ?_) (fun h_rou => ?_)
    · first | (rfl; done) | (dsimp only [gP, gS]; unfold va_up; split <;> first | (rfl; done) | (exfalso; omega))
    refine ite_c (fun h_ews => ?_) (fun h_ews => ?_)
    · first | rfl | (exfalso; omega)
    refine ite_c (fun h_cos => ?_) (fun h_cos => ?_)
    · first | rfl | (exfalso; omega)
    refine ite_c (fun h_coa => ?_) (fun h_coa => ?_)
    · first | (rfl; done) | (dsimp only [gP, gS]; unfold va_up; split <;> first | (rfl; done) | (exfalso; omega))
    refine ite_c (fun h_ewe => ?_) (fun h_ewe => ?_)
    · dsimp only [gP, gS]
      by_cases q1 : (j - 31) / 8 = p
      · rw [q1, va_up_s, va_up_s]
        dsimp only
        by_cases q2 : (j - 31) % 8 = e
        · exact absurd (show j = 31 + (8 * p + e) by omega) hjk
        · rw [va_up_n q2, va_up_n q2]
      · rw [va_up_n q1, va_up_n q1]
    refine ite_c (fun h_fle => ?_) (fun h_fle => ?_)
    · dsimp only [gP, gS]
      by_cases q1 : (j - 56) / 8 = p
      · rw [q1, va_up_s, va_up_s]
        dsimp only
        by_cases q2 : (j - 56) % 8 = e
        · rw [q2, va_up_s, va_up_s]
        · rw [va_up_n q2, va_up_n q2]
      · rw [va_up_n q1, va_up_n q1]
    refine ite_c (fun h_tap => ?_) (fun h_tap => ?_)
    · first | rfl | (exfalso; omega)
    refine ite_c (fun h_byt => ?_) (fun h_byt => ?_)
    · first | rfl | (exfalso; omega)
    refine ite_c (fun h_shs => ?_) (fun h_shs => ?_)
    · first | rfl | (exfalso; omega)
    refine ite_c (fun h_she => ?_) (fun h_she => ?_)
    · first | (rfl; done) | (dsimp only [gP, gS]; unfold va_up; split <;> first | (rfl; done) | (exfalso; omega))
    refine ite_c (fun h_num => ?_) (fun h_num => ?_)
    · first | (rfl; done) | (dsimp only [gP, gS]; unfold va_up; split <;> first | (rfl; done) | (exfalso; omega))
    refine ite_c (fun h_tol => ?_) (fun h_tol => ?_)
    · first | rfl | (exfalso; omega)
    refine ite_c (fun h_mod => ?_) (fun h_mod => ?_)
    · first | rfl | (exfalso; omega)
    refine ite_c (fun h_ms => ?_) (fun h_ms => ?_)
    · first | rfl | (exfalso; omega)
    refine ite_c (fun h_mk => ?_) (fun h_mk => ?_)
    · first | rfl | (exfalso; omega)
    refine ite_c (fun h_mo => ?_) (fun h_mo => ?_)
    · first | rfl | (exfalso; omega)
    refine ite_c (fun h_ma => ?_) (fun h_ma => ?_)
    · first | rfl | (exfalso; omega)
    refine ite_c (fun h_mf => ?_) (fun h_mf => ?_)
    · first | rfl | (exfalso; omega)
    refine ite_c (fun h_mt => ?_) (fun h_mt => ?_)
    · first | rfl | (exfalso; omega)
    refine ite_c (fun h_mb => ?_) (fun h_mb => ?_)
    · first | rfl | (exfalso; omega)
    refine ite_c (fun h_mz => ?_) (fun h_mz => ?_)
    · first | rfl | (exfalso; omega)
    refine ite_c (fun h_nu => ?_) (fun h_nu => ?_)
    · first | rfl | (exfalso; omega)
    refine ite_c (fun h_mv => ?_) (fun h_mv => ?_)
    · first | rfl | (exfalso; omega)
    rfl
set_option maxHeartbeats 1000000 in
theorem u_fl {G : Gl} {par : Nat → Pa} {tp : Tp} {sh : Nat → Sh} {tl : Nat → Int32} {hi : Int32} {M : MS} {p mo sz : Nat} {W S R : Nat → Int32} {C : Nat → Nat → Int32} {E : Nat → Ew} {e : Nat} {k f x : Int32} {fl fl2 : Nat → Int32} (hp : 8 * p + e < 25) (he : e < 8) : ∀ j, j < 104 → cel G ((va_up par p (mo, sz, W, S, R, C, va_up E e (k, f, x, fl2)), tp, sh, tl, hi), M) j = if j = 56 + (8 * p + e) then ai (gcI G) 12 fl2 else cel G ((va_up par p (mo, sz, W, S, R, C, va_up E e (k, f, x, fl)), tp, sh, tl, hi), M) j := by
  intro j hj
  by_cases hjk : j = 56 + (8 * p + e)
  · rw [if_pos hjk, hjk]
    exact f_fle hp he
  · rw [if_neg hjk]
    unfold cel
    refine ite_c (fun h_obj => ?_) (fun h_obj => ?_)
    · first | rfl | (exfalso; omega)
    refine ite_c (fun h_par => ?_) (fun h_par => ?_)
    · first | (rfl; done) | (dsimp only [gP, gS]; unfold va_up; split <;> first | (rfl; done) | (exfalso; omega))
    refine ite_c (fun h_wea => ?_) (fun h_wea => ?_)
    · first | (rfl; done) | (dsimp only [gP, gS]; unfold va_up; split <;> first | (rfl; done) | (exfalso; omega))
    refine ite_c (fun h_sto => ?_) (fun h_sto => ?_)
    · first | (rfl; done) | (dsimp only [gP, gS]; unfold va_up; split <;> first | (rfl; done) | (exfalso; omega))
    refine ite_c (fun h_rou => ?_) (fun h_rou => ?_)
    · first | (rfl; done) | (dsimp only [gP, gS]; unfold va_up; split <;> first | (rfl; done) | (exfalso; omega))
    refine ite_c (fun h_ews => ?_) (fun h_ews => ?_)
    · first | rfl | (exfalso; omega)
    refine ite_c (fun h_cos => ?_) (fun h_cos => ?_)
    · first | rfl | (exfalso; omega)
    refine ite_c (fun h_coa => ?_) (fun h_coa => ?_)
    · first | (rfl; done) | (dsimp only [gP, gS]; unfold va_up; split <;> first | (rfl; done) | (exfalso; omega))
    refine ite_c (fun h_ewe => ?_) (fun h_ewe => ?_)
    · dsimp only [gP, gS]
      by_cases q1 : (j - 31) / 8 = p
      · rw [q1, va_up_s, va_up_s]
        dsimp only
        by_cases q2 : (j - 31) % 8 = e
        · rw [q2, va_up_s, va_up_s]
        · rw [va_up_n q2, va_up_n q2]
      · rw [va_up_n q1, va_up_n q1]
    refine ite_c (fun h_fle => ?_) (fun h_fle => ?_)
    · dsimp only [gP, gS]
      by_cases q1 : (j - 56) / 8 = p
      · rw [q1, va_up_s, va_up_s]
        dsimp only
        by_cases q2 : (j - 56) % 8 = e
        · exact absurd (show j = 56 + (8 * p + e) by omega) hjk
        · rw [va_up_n q2, va_up_n q2]
      · rw [va_up_n q1, va_up_n q1]
    refine ite_c (fun h_tap => ?_) (fun h_tap => ?_)
    · first | rfl | (exfalso; omega)
    refine ite_c (fun h_byt => ?_) (fun h_byt => ?_)
    · first | rfl | (exfalso; omega)
    refine ite_c (fun h_shs => ?_) (fun h_shs => ?_)
    · first | rfl | (exfalso; omega)
    refine ite_c (fun h_she => ?_) (fun h_she => ?_)
    · first | (rfl; done) | (dsimp only [gP, gS]; unfold va_up; split <;> first | (rfl; done) | (exfalso; omega))
    refine ite_c (fun h_num => ?_) (fun h_num => ?_)
    · first | (rfl; done) | (dsimp only [gP, gS]; unfold va_up; split <;> first | (rfl; done) | (exfalso; omega))
    refine ite_c (fun h_tol => ?_) (fun h_tol => ?_)
    · first | rfl | (exfalso; omega)
    refine ite_c (fun h_mod => ?_) (fun h_mod => ?_)
    · first | rfl | (exfalso; omega)
    refine ite_c (fun h_ms => ?_) (fun h_ms => ?_)
    · first | rfl | (exfalso; omega)
    refine ite_c (fun h_mk => ?_) (fun h_mk => ?_)
    · first | rfl | (exfalso; omega)
    refine ite_c (fun h_mo => ?_) (fun h_mo => ?_)
    · first | rfl | (exfalso; omega)
    refine ite_c (fun h_ma => ?_) (fun h_ma => ?_)
    · first | rfl | (exfalso; omega)
    refine ite_c (fun h_mf => ?_) (fun h_mf => ?_)
    · first | rfl | (exfalso; omega)
    refine ite_c (fun h_mt => ?_) (fun h_mt => ?_)
    · first | rfl | (exfalso; omega)
    refine ite_c (fun h_mb => ?_) (fun h_mb => ?_)
    · first | rfl | (exfalso; omega)
    refine ite_c (fun h_mz => ?_) (fun h_mz => ?_)
    · first | rfl | (exfalso; omega)
    refine ite_c (fun h_nu => ?_) (fun h_nu => ?_)
    · first | rfl | (exfalso; omega)
    refine ite_c (fun h_mv => ?_) (fun h_mv => ?_)
    · first | rfl | (exfalso; omega)
    rfl
set_option maxHeartbeats 1000000 in
theorem u_tp {G : Gl} {par : Nat → Pa} {tb : Nat → Int32} {tz ta te tz2 ta2 te2 : Nat} {tk tv tk2 tv2 : Int32} {sh : Nat → Sh} {tl : Nat → Int32} {hi : Int32} {M : MS}  : ∀ j, j < 104 → cel G ((par, (tb, tz2, tk2, ta2, te2, tv2), sh, tl, hi), M) j = if j = 81 then ob 3 [.ref (ga G 82), .int (nI tz2), .int tk2, .int (nI ta2), .int (nI te2), .int tv2] else cel G ((par, (tb, tz, tk, ta, te, tv), sh, tl, hi), M) j := by
  intro j hj
  by_cases hjk : j = 81
  · rw [if_pos hjk, hjk]
    exact rfl
  · rw [if_neg hjk]
    unfold cel
    refine ite_c (fun h_obj => ?_) (fun h_obj => ?_)
    · first | rfl | (exfalso; omega)
    refine ite_c (fun h_par => ?_) (fun h_par => ?_)
    · first | (rfl; done) | (dsimp only [gP, gS]; unfold va_up; split <;> first | (rfl; done) | (exfalso; omega))
    refine ite_c (fun h_wea => ?_) (fun h_wea => ?_)
    · first | (rfl; done) | (dsimp only [gP, gS]; unfold va_up; split <;> first | (rfl; done) | (exfalso; omega))
    refine ite_c (fun h_sto => ?_) (fun h_sto => ?_)
    · first | (rfl; done) | (dsimp only [gP, gS]; unfold va_up; split <;> first | (rfl; done) | (exfalso; omega))
    refine ite_c (fun h_rou => ?_) (fun h_rou => ?_)
    · first | (rfl; done) | (dsimp only [gP, gS]; unfold va_up; split <;> first | (rfl; done) | (exfalso; omega))
    refine ite_c (fun h_ews => ?_) (fun h_ews => ?_)
    · first | rfl | (exfalso; omega)
    refine ite_c (fun h_cos => ?_) (fun h_cos => ?_)
    · first | rfl | (exfalso; omega)
    refine ite_c (fun h_coa => ?_) (fun h_coa => ?_)
    · first | (rfl; done) | (dsimp only [gP, gS]; unfold va_up; split <;> first | (rfl; done) | (exfalso; omega))
    refine ite_c (fun h_ewe => ?_) (fun h_ewe => ?_)
    · first | (rfl; done) | (dsimp only [gP, gS]; unfold va_up; split <;> first | (rfl; done) | (exfalso; omega))
    refine ite_c (fun h_fle => ?_) (fun h_fle => ?_)
    · first | (rfl; done) | (dsimp only [gP, gS]; unfold va_up; split <;> first | (rfl; done) | (exfalso; omega))
    refine ite_c (fun h_tap => ?_) (fun h_tap => ?_)
    · first | rfl | (exfalso; omega)
    refine ite_c (fun h_byt => ?_) (fun h_byt => ?_)
    · first | rfl | (exfalso; omega)
    refine ite_c (fun h_shs => ?_) (fun h_shs => ?_)
    · first | rfl | (exfalso; omega)
    refine ite_c (fun h_she => ?_) (fun h_she => ?_)
    · first | (rfl; done) | (dsimp only [gP, gS]; unfold va_up; split <;> first | (rfl; done) | (exfalso; omega))
    refine ite_c (fun h_num => ?_) (fun h_num => ?_)
    · first | (rfl; done) | (dsimp only [gP, gS]; unfold va_up; split <;> first | (rfl; done) | (exfalso; omega))
    refine ite_c (fun h_tol => ?_) (fun h_tol => ?_)
    · first | rfl | (exfalso; omega)
    refine ite_c (fun h_mod => ?_) (fun h_mod => ?_)
    · first | rfl | (exfalso; omega)
    refine ite_c (fun h_ms => ?_) (fun h_ms => ?_)
    · first | rfl | (exfalso; omega)
    refine ite_c (fun h_mk => ?_) (fun h_mk => ?_)
    · first | rfl | (exfalso; omega)
    refine ite_c (fun h_mo => ?_) (fun h_mo => ?_)
    · first | rfl | (exfalso; omega)
    refine ite_c (fun h_ma => ?_) (fun h_ma => ?_)
    · first | rfl | (exfalso; omega)
    refine ite_c (fun h_mf => ?_) (fun h_mf => ?_)
    · first | rfl | (exfalso; omega)
    refine ite_c (fun h_mt => ?_) (fun h_mt => ?_)
    · first | rfl | (exfalso; omega)
    refine ite_c (fun h_mb => ?_) (fun h_mb => ?_)
    · first | rfl | (exfalso; omega)
    refine ite_c (fun h_mz => ?_) (fun h_mz => ?_)
    · first | rfl | (exfalso; omega)
    refine ite_c (fun h_nu => ?_) (fun h_nu => ?_)
    · first | rfl | (exfalso; omega)
    refine ite_c (fun h_mv => ?_) (fun h_mv => ?_)
    · first | rfl | (exfalso; omega)
    rfl
set_option maxHeartbeats 1000000 in
theorem u_tb {G : Gl} {par : Nat → Pa} {tb tb2 : Nat → Int32} {tz ta te : Nat} {tk tv : Int32} {sh : Nat → Sh} {tl : Nat → Int32} {hi : Int32} {M : MS}  : ∀ j, j < 104 → cel G ((par, (tb2, tz, tk, ta, te, tv), sh, tl, hi), M) j = if j = 82 then ai (gcB G) 120 tb2 else cel G ((par, (tb, tz, tk, ta, te, tv), sh, tl, hi), M) j := by
  intro j hj
  by_cases hjk : j = 82
  · rw [if_pos hjk, hjk]
    exact rfl
  · rw [if_neg hjk]
    unfold cel
    refine ite_c (fun h_obj => ?_) (fun h_obj => ?_)
    · first | rfl | (exfalso; omega)
    refine ite_c (fun h_par => ?_) (fun h_par => ?_)
    · first | (rfl; done) | (dsimp only [gP, gS]; unfold va_up; split <;> first | (rfl; done) | (exfalso; omega))
    refine ite_c (fun h_wea => ?_) (fun h_wea => ?_)
    · first | (rfl; done) | (dsimp only [gP, gS]; unfold va_up; split <;> first | (rfl; done) | (exfalso; omega))
    refine ite_c (fun h_sto => ?_) (fun h_sto => ?_)
    · first | (rfl; done) | (dsimp only [gP, gS]; unfold va_up; split <;> first | (rfl; done) | (exfalso; omega))
    refine ite_c (fun h_rou => ?_) (fun h_rou => ?_)
    · first | (rfl; done) | (dsimp only [gP, gS]; unfold va_up; split <;> first | (rfl; done) | (exfalso; omega))
    refine ite_c (fun h_ews => ?_) (fun h_ews => ?_)
    · first | rfl | (exfalso; omega)
    refine ite_c (fun h_cos => ?_) (fun h_cos => ?_)
    · first | rfl | (exfalso; omega)
    refine ite_c (fun h_coa => ?_) (fun h_coa => ?_)
    · first | (rfl; done) | (dsimp only [gP, gS]; unfold va_up; split <;> first | (rfl; done) | (exfalso; omega))
    refine ite_c (fun h_ewe => ?_) (fun h_ewe => ?_)
    · first | (rfl; done) | (dsimp only [gP, gS]; unfold va_up; split <;> first | (rfl; done) | (exfalso; omega))
    refine ite_c (fun h_fle => ?_) (fun h_fle => ?_)
    · first | (rfl; done) | (dsimp only [gP, gS]; unfold va_up; split <;> first | (rfl; done) | (exfalso; omega))
    refine ite_c (fun h_tap => ?_) (fun h_tap => ?_)
    · first | rfl | (exfalso; omega)
    refine ite_c (fun h_byt => ?_) (fun h_byt => ?_)
    · first | rfl | (exfalso; omega)
    refine ite_c (fun h_shs => ?_) (fun h_shs => ?_)
    · first | rfl | (exfalso; omega)
    refine ite_c (fun h_she => ?_) (fun h_she => ?_)
    · first | (rfl; done) | (dsimp only [gP, gS]; unfold va_up; split <;> first | (rfl; done) | (exfalso; omega))
    refine ite_c (fun h_num => ?_) (fun h_num => ?_)
    · first | (rfl; done) | (dsimp only [gP, gS]; unfold va_up; split <;> first | (rfl; done) | (exfalso; omega))
    refine ite_c (fun h_tol => ?_) (fun h_tol => ?_)
    · first | rfl | (exfalso; omega)
    refine ite_c (fun h_mod => ?_) (fun h_mod => ?_)
    · first | rfl | (exfalso; omega)
    refine ite_c (fun h_ms => ?_) (fun h_ms => ?_)
    · first | rfl | (exfalso; omega)
    refine ite_c (fun h_mk => ?_) (fun h_mk => ?_)
    · first | rfl | (exfalso; omega)
    refine ite_c (fun h_mo => ?_) (fun h_mo => ?_)
    · first | rfl | (exfalso; omega)
    refine ite_c (fun h_ma => ?_) (fun h_ma => ?_)
    · first | rfl | (exfalso; omega)
    refine ite_c (fun h_mf => ?_) (fun h_mf => ?_)
    · first | rfl | (exfalso; omega)
    refine ite_c (fun h_mt => ?_) (fun h_mt => ?_)
    · first | rfl | (exfalso; omega)
    refine ite_c (fun h_mb => ?_) (fun h_mb => ?_)
    · first | rfl | (exfalso; omega)
    refine ite_c (fun h_mz => ?_) (fun h_mz => ?_)
    · first | rfl | (exfalso; omega)
    refine ite_c (fun h_nu => ?_) (fun h_nu => ?_)
    · first | rfl | (exfalso; omega)
    refine ite_c (fun h_mv => ?_) (fun h_mv => ?_)
    · first | rfl | (exfalso; omega)
    rfl
set_option maxHeartbeats 1000000 in
theorem u_sh {G : Gl} {par : Nat → Pa} {tp : Tp} {sh : Nat → Sh} {tl : Nat → Int32} {hi : Int32} {M : MS} {s : Nat} {sn : Nat → Int64} {zz zz2 : Nat} {sb sb2 : Int32} (hs : s < 4) : ∀ j, j < 104 → cel G ((par, tp, va_up sh s (sn, zz2, sb2), tl, hi), M) j = if j = 84 + s then ob 2 [.ref (ga G (88 + s)), .int (nI zz2), .int sb2] else cel G ((par, tp, va_up sh s (sn, zz, sb), tl, hi), M) j := by
  intro j hj
  by_cases hjk : j = 84 + s
  · rw [if_pos hjk, hjk]
    exact f_she hs
  · rw [if_neg hjk]
    unfold cel
    refine ite_c (fun h_obj => ?_) (fun h_obj => ?_)
    · first | rfl | (exfalso; omega)
    refine ite_c (fun h_par => ?_) (fun h_par => ?_)
    · first | (rfl; done) | (dsimp only [gP, gS]; unfold va_up; split <;> first | (rfl; done) | (exfalso; omega))
    refine ite_c (fun h_wea => ?_) (fun h_wea => ?_)
    · first | (rfl; done) | (dsimp only [gP, gS]; unfold va_up; split <;> first | (rfl; done) | (exfalso; omega))
    refine ite_c (fun h_sto => ?_) (fun h_sto => ?_)
    · first | (rfl; done) | (dsimp only [gP, gS]; unfold va_up; split <;> first | (rfl; done) | (exfalso; omega))
    refine ite_c (fun h_rou => ?_) (fun h_rou => ?_)
    · first | (rfl; done) | (dsimp only [gP, gS]; unfold va_up; split <;> first | (rfl; done) | (exfalso; omega))
    refine ite_c (fun h_ews => ?_) (fun h_ews => ?_)
    · first | rfl | (exfalso; omega)
    refine ite_c (fun h_cos => ?_) (fun h_cos => ?_)
    · first | rfl | (exfalso; omega)
    refine ite_c (fun h_coa => ?_) (fun h_coa => ?_)
    · first | (rfl; done) | (dsimp only [gP, gS]; unfold va_up; split <;> first | (rfl; done) | (exfalso; omega))
    refine ite_c (fun h_ewe => ?_) (fun h_ewe => ?_)
    · first | (rfl; done) | (dsimp only [gP, gS]; unfold va_up; split <;> first | (rfl; done) | (exfalso; omega))
    refine ite_c (fun h_fle => ?_) (fun h_fle => ?_)
    · first | (rfl; done) | (dsimp only [gP, gS]; unfold va_up; split <;> first | (rfl; done) | (exfalso; omega))
    refine ite_c (fun h_tap => ?_) (fun h_tap => ?_)
    · first | rfl | (exfalso; omega)
    refine ite_c (fun h_byt => ?_) (fun h_byt => ?_)
    · first | rfl | (exfalso; omega)
    refine ite_c (fun h_shs => ?_) (fun h_shs => ?_)
    · first | rfl | (exfalso; omega)
    refine ite_c (fun h_she => ?_) (fun h_she => ?_)
    · first | (rfl; done) | (dsimp only [gP, gS]; unfold va_up; split <;> first | (rfl; done) | (exfalso; omega))
    refine ite_c (fun h_num => ?_) (fun h_num => ?_)
    · first | (rfl; done) | (dsimp only [gP, gS]; unfold va_up; split <;> first | (rfl; done) | (exfalso; omega))
    refine ite_c (fun h_tol => ?_) (fun h_tol => ?_)
    · first | rfl | (exfalso; omega)
    refine ite_c (fun h_mod => ?_) (fun h_mod => ?_)
    · first | rfl | (exfalso; omega)
    refine ite_c (fun h_ms => ?_) (fun h_ms => ?_)
    · first | rfl | (exfalso; omega)
    refine ite_c (fun h_mk => ?_) (fun h_mk => ?_)
    · first | rfl | (exfalso; omega)
    refine ite_c (fun h_mo => ?_) (fun h_mo => ?_)
    · first | rfl | (exfalso; omega)
    refine ite_c (fun h_ma => ?_) (fun h_ma => ?_)
    · first | rfl | (exfalso; omega)
    refine ite_c (fun h_mf => ?_) (fun h_mf => ?_)
    · first | rfl | (exfalso; omega)
    refine ite_c (fun h_mt => ?_) (fun h_mt => ?_)
    · first | rfl | (exfalso; omega)
    refine ite_c (fun h_mb => ?_) (fun h_mb => ?_)
    · first | rfl | (exfalso; omega)
    refine ite_c (fun h_mz => ?_) (fun h_mz => ?_)
    · first | rfl | (exfalso; omega)
    refine ite_c (fun h_nu => ?_) (fun h_nu => ?_)
    · first | rfl | (exfalso; omega)
    refine ite_c (fun h_mv => ?_) (fun h_mv => ?_)
    · first | rfl | (exfalso; omega)
    rfl
set_option maxHeartbeats 1000000 in
theorem u_sn {G : Gl} {par : Nat → Pa} {tp : Tp} {sh : Nat → Sh} {tl : Nat → Int32} {hi : Int32} {M : MS} {s : Nat} {sn sn2 : Nat → Int64} {zz : Nat} {sb : Int32} (hs : s < 4) : ∀ j, j < 104 → cel G ((par, tp, va_up sh s (sn2, zz, sb), tl, hi), M) j = if j = 88 + s then aj (gcJ G) 40 sn2 else cel G ((par, tp, va_up sh s (sn, zz, sb), tl, hi), M) j := by
  intro j hj
  by_cases hjk : j = 88 + s
  · rw [if_pos hjk, hjk]
    exact f_num hs
  · rw [if_neg hjk]
    unfold cel
    refine ite_c (fun h_obj => ?_) (fun h_obj => ?_)
    · first | rfl | (exfalso; omega)
    refine ite_c (fun h_par => ?_) (fun h_par => ?_)
    · first | (rfl; done) | (dsimp only [gP, gS]; unfold va_up; split <;> first | (rfl; done) | (exfalso; omega))
    refine ite_c (fun h_wea => ?_) (fun h_wea => ?_)
    · first | (rfl; done) | (dsimp only [gP, gS]; unfold va_up; split <;> first | (rfl; done) | (exfalso; omega))
    refine ite_c (fun h_sto => ?_) (fun h_sto => ?_)
    · first | (rfl; done) | (dsimp only [gP, gS]; unfold va_up; split <;> first | (rfl; done) | (exfalso; omega))
    refine ite_c (fun h_rou => ?_) (fun h_rou => ?_)
    · first | (rfl; done) | (dsimp only [gP, gS]; unfold va_up; split <;> first | (rfl; done) | (exfalso; omega))
    refine ite_c (fun h_ews => ?_) (fun h_ews => ?_)
    · first | rfl | (exfalso; omega)
    refine ite_c (fun h_cos => ?_) (fun h_cos => ?_)
    · first | rfl | (exfalso; omega)
    refine ite_c (fun h_coa => ?_) (fun h_coa => ?_)
    · first | (rfl; done) | (dsimp only [gP, gS]; unfold va_up; split <;> first | (rfl; done) | (exfalso; omega))
    refine ite_c (fun h_ewe => ?_) (fun h_ewe => ?_)
    · first | (rfl; done) | (dsimp only [gP, gS]; unfold va_up; split <;> first | (rfl; done) | (exfalso; omega))
    refine ite_c (fun h_fle => ?_) (fun h_fle => ?_)
    · first | (rfl; done) | (dsimp only [gP, gS]; unfold va_up; split <;> first | (rfl; done) | (exfalso; omega))
    refine ite_c (fun h_tap => ?_) (fun h_tap => ?_)
    · first | rfl | (exfalso; omega)
    refine ite_c (fun h_byt => ?_) (fun h_byt => ?_)
    · first | rfl | (exfalso; omega)
    refine ite_c (fun h_shs => ?_) (fun h_shs => ?_)
    · first | rfl | (exfalso; omega)
    refine ite_c (fun h_she => ?_) (fun h_she => ?_)
    · first | (rfl; done) | (dsimp only [gP, gS]; unfold va_up; split <;> first | (rfl; done) | (exfalso; omega))
    refine ite_c (fun h_num => ?_) (fun h_num => ?_)
    · first | (rfl; done) | (dsimp only [gP, gS]; unfold va_up; split <;> first | (rfl; done) | (exfalso; omega))
    refine ite_c (fun h_tol => ?_) (fun h_tol => ?_)
    · first | rfl | (exfalso; omega)
    refine ite_c (fun h_mod => ?_) (fun h_mod => ?_)
    · first | rfl | (exfalso; omega)
    refine ite_c (fun h_ms => ?_) (fun h_ms => ?_)
    · first | rfl | (exfalso; omega)
    refine ite_c (fun h_mk => ?_) (fun h_mk => ?_)
    · first | rfl | (exfalso; omega)
    refine ite_c (fun h_mo => ?_) (fun h_mo => ?_)
    · first | rfl | (exfalso; omega)
    refine ite_c (fun h_ma => ?_) (fun h_ma => ?_)
    · first | rfl | (exfalso; omega)
    refine ite_c (fun h_mf => ?_) (fun h_mf => ?_)
    · first | rfl | (exfalso; omega)
    refine ite_c (fun h_mt => ?_) (fun h_mt => ?_)
    · first | rfl | (exfalso; omega)
    refine ite_c (fun h_mb => ?_) (fun h_mb => ?_)
    · first | rfl | (exfalso; omega)
    refine ite_c (fun h_mz => ?_) (fun h_mz => ?_)
    · first | rfl | (exfalso; omega)
    refine ite_c (fun h_nu => ?_) (fun h_nu => ?_)
    · first | rfl | (exfalso; omega)
    refine ite_c (fun h_mv => ?_) (fun h_mv => ?_)
    · first | rfl | (exfalso; omega)
    rfl
set_option maxHeartbeats 1000000 in
theorem u_tl {G : Gl} {par : Nat → Pa} {tp : Tp} {sh : Nat → Sh} {tl : Nat → Int32} {hi : Int32} {M : MS} {tl2 : Nat → Int32}  : ∀ j, j < 104 → cel G ((par, tp, sh, tl2, hi), M) j = if j = 92 then ai (gcI G) 7 tl2 else cel G ((par, tp, sh, tl, hi), M) j := by
  intro j hj
  by_cases hjk : j = 92
  · rw [if_pos hjk, hjk]
    exact rfl
  · rw [if_neg hjk]
    unfold cel
    refine ite_c (fun h_obj => ?_) (fun h_obj => ?_)
    · first | rfl | (exfalso; omega)
    refine ite_c (fun h_par => ?_) (fun h_par => ?_)
    · first | (rfl; done) | (dsimp only [gP, gS]; unfold va_up; split <;> first | (rfl; done) | (exfalso; omega))
    refine ite_c (fun h_wea => ?_) (fun h_wea => ?_)
    · first | (rfl; done) | (dsimp only [gP, gS]; unfold va_up; split <;> first | (rfl; done) | (exfalso; omega))
    refine ite_c (fun h_sto => ?_) (fun h_sto => ?_)
    · first | (rfl; done) | (dsimp only [gP, gS]; unfold va_up; split <;> first | (rfl; done) | (exfalso; omega))
    refine ite_c (fun h_rou => ?_) (fun h_rou => ?_)
    · first | (rfl; done) | (dsimp only [gP, gS]; unfold va_up; split <;> first | (rfl; done) | (exfalso; omega))
    refine ite_c (fun h_ews => ?_) (fun h_ews => ?_)
    · first | rfl | (exfalso; omega)
    refine ite_c (fun h_cos => ?_) (fun h_cos => ?_)
    · first | rfl | (exfalso; omega)
    refine ite_c (fun h_coa => ?_) (fun h_coa => ?_)
    · first | (rfl; done) | (dsimp only [gP, gS]; unfold va_up; split <;> first | (rfl; done) | (exfalso; omega))
    refine ite_c (fun h_ewe => ?_) (fun h_ewe => ?_)
    · first | (rfl; done) | (dsimp only [gP, gS]; unfold va_up; split <;> first | (rfl; done) | (exfalso; omega))
    refine ite_c (fun h_fle => ?_) (fun h_fle => ?_)
    · first | (rfl; done) | (dsimp only [gP, gS]; unfold va_up; split <;> first | (rfl; done) | (exfalso; omega))
    refine ite_c (fun h_tap => ?_) (fun h_tap => ?_)
    · first | rfl | (exfalso; omega)
    refine ite_c (fun h_byt => ?_) (fun h_byt => ?_)
    · first | rfl | (exfalso; omega)
    refine ite_c (fun h_shs => ?_) (fun h_shs => ?_)
    · first | rfl | (exfalso; omega)
    refine ite_c (fun h_she => ?_) (fun h_she => ?_)
    · first | (rfl; done) | (dsimp only [gP, gS]; unfold va_up; split <;> first | (rfl; done) | (exfalso; omega))
    refine ite_c (fun h_num => ?_) (fun h_num => ?_)
    · first | (rfl; done) | (dsimp only [gP, gS]; unfold va_up; split <;> first | (rfl; done) | (exfalso; omega))
    refine ite_c (fun h_tol => ?_) (fun h_tol => ?_)
    · first | rfl | (exfalso; omega)
    refine ite_c (fun h_mod => ?_) (fun h_mod => ?_)
    · first | rfl | (exfalso; omega)
    refine ite_c (fun h_ms => ?_) (fun h_ms => ?_)
    · first | rfl | (exfalso; omega)
    refine ite_c (fun h_mk => ?_) (fun h_mk => ?_)
    · first | rfl | (exfalso; omega)
    refine ite_c (fun h_mo => ?_) (fun h_mo => ?_)
    · first | rfl | (exfalso; omega)
    refine ite_c (fun h_ma => ?_) (fun h_ma => ?_)
    · first | rfl | (exfalso; omega)
    refine ite_c (fun h_mf => ?_) (fun h_mf => ?_)
    · first | rfl | (exfalso; omega)
    refine ite_c (fun h_mt => ?_) (fun h_mt => ?_)
    · first | rfl | (exfalso; omega)
    refine ite_c (fun h_mb => ?_) (fun h_mb => ?_)
    · first | rfl | (exfalso; omega)
    refine ite_c (fun h_mz => ?_) (fun h_mz => ?_)
    · first | rfl | (exfalso; omega)
    refine ite_c (fun h_nu => ?_) (fun h_nu => ?_)
    · first | rfl | (exfalso; omega)
    refine ite_c (fun h_mv => ?_) (fun h_mv => ?_)
    · first | rfl | (exfalso; omega)
    rfl
set_option maxHeartbeats 1000000 in
theorem u_hi {G : Gl} {par : Nat → Pa} {tp : Tp} {sh : Nat → Sh} {tl : Nat → Int32} {hi : Int32} {M : MS} {hi2 : Int32}  : ∀ j, j < 104 → cel G ((par, tp, sh, tl, hi2), M) j = if j = 0 then ob 4 [.ref (ga G 1), .ref (ga G 2), .ref (ga G 3), .ref (ga G 55), .ref (ga G 81), .ref (ga G 83), .ref (ga G 92), .int hi2] else cel G ((par, tp, sh, tl, hi), M) j := by
  intro j hj
  by_cases hjk : j = 0
  · rw [if_pos hjk, hjk]
    exact rfl
  · rw [if_neg hjk]
    unfold cel
    refine ite_c (fun h_obj => ?_) (fun h_obj => ?_)
    · first | rfl | (exfalso; omega)
    refine ite_c (fun h_par => ?_) (fun h_par => ?_)
    · first | (rfl; done) | (dsimp only [gP, gS]; unfold va_up; split <;> first | (rfl; done) | (exfalso; omega))
    refine ite_c (fun h_wea => ?_) (fun h_wea => ?_)
    · first | (rfl; done) | (dsimp only [gP, gS]; unfold va_up; split <;> first | (rfl; done) | (exfalso; omega))
    refine ite_c (fun h_sto => ?_) (fun h_sto => ?_)
    · first | (rfl; done) | (dsimp only [gP, gS]; unfold va_up; split <;> first | (rfl; done) | (exfalso; omega))
    refine ite_c (fun h_rou => ?_) (fun h_rou => ?_)
    · first | (rfl; done) | (dsimp only [gP, gS]; unfold va_up; split <;> first | (rfl; done) | (exfalso; omega))
    refine ite_c (fun h_ews => ?_) (fun h_ews => ?_)
    · first | rfl | (exfalso; omega)
    refine ite_c (fun h_cos => ?_) (fun h_cos => ?_)
    · first | rfl | (exfalso; omega)
    refine ite_c (fun h_coa => ?_) (fun h_coa => ?_)
    · first | (rfl; done) | (dsimp only [gP, gS]; unfold va_up; split <;> first | (rfl; done) | (exfalso; omega))
    refine ite_c (fun h_ewe => ?_) (fun h_ewe => ?_)
    · first | (rfl; done) | (dsimp only [gP, gS]; unfold va_up; split <;> first | (rfl; done) | (exfalso; omega))
    refine ite_c (fun h_fle => ?_) (fun h_fle => ?_)
    · first | (rfl; done) | (dsimp only [gP, gS]; unfold va_up; split <;> first | (rfl; done) | (exfalso; omega))
    refine ite_c (fun h_tap => ?_) (fun h_tap => ?_)
    · first | rfl | (exfalso; omega)
    refine ite_c (fun h_byt => ?_) (fun h_byt => ?_)
    · first | rfl | (exfalso; omega)
    refine ite_c (fun h_shs => ?_) (fun h_shs => ?_)
    · first | rfl | (exfalso; omega)
    refine ite_c (fun h_she => ?_) (fun h_she => ?_)
    · first | (rfl; done) | (dsimp only [gP, gS]; unfold va_up; split <;> first | (rfl; done) | (exfalso; omega))
    refine ite_c (fun h_num => ?_) (fun h_num => ?_)
    · first | (rfl; done) | (dsimp only [gP, gS]; unfold va_up; split <;> first | (rfl; done) | (exfalso; omega))
    refine ite_c (fun h_tol => ?_) (fun h_tol => ?_)
    · first | rfl | (exfalso; omega)
    refine ite_c (fun h_mod => ?_) (fun h_mod => ?_)
    · first | rfl | (exfalso; omega)
    refine ite_c (fun h_ms => ?_) (fun h_ms => ?_)
    · first | rfl | (exfalso; omega)
    refine ite_c (fun h_mk => ?_) (fun h_mk => ?_)
    · first | rfl | (exfalso; omega)
    refine ite_c (fun h_mo => ?_) (fun h_mo => ?_)
    · first | rfl | (exfalso; omega)
    refine ite_c (fun h_ma => ?_) (fun h_ma => ?_)
    · first | rfl | (exfalso; omega)
    refine ite_c (fun h_mf => ?_) (fun h_mf => ?_)
    · first | rfl | (exfalso; omega)
    refine ite_c (fun h_mt => ?_) (fun h_mt => ?_)
    · first | rfl | (exfalso; omega)
    refine ite_c (fun h_mb => ?_) (fun h_mb => ?_)
    · first | rfl | (exfalso; omega)
    refine ite_c (fun h_mz => ?_) (fun h_mz => ?_)
    · first | rfl | (exfalso; omega)
    refine ite_c (fun h_nu => ?_) (fun h_nu => ?_)
    · first | rfl | (exfalso; omega)
    refine ite_c (fun h_mv => ?_) (fun h_mv => ?_)
    · first | rfl | (exfalso; omega)
    rfl
set_option maxHeartbeats 1000000 in
theorem u_m {G : Gl} {K : CS} {ms : Nat → Int32} {mk : Nat → Int32} {mo : Nat → Int32} {ma : Nat → Int32} {mf : Nat → Int32} {ik : Int32} {mt : Nat → Int32} {td : Nat} {fr : Nat} {tt : Nat} {vl : Int32} {wr : Int32} {mb : Nat → Int32} {mz : Nat → Int32} {nu : Nat → Int64} {mv : Nat → Int64} {ik2 vl2 wr2 : Int32} {td2 fr2 tt2 : Nat}  : ∀ j, j < 104 → cel G (K, (ms, mk, mo, ma, mf, ik2, mt, td2, fr2, tt2, vl2, wr2, mb, mz, nu, mv)) j = if j = 93 then ob 5 [.ref (ga G 94), .ref (ga G 95), .ref (ga G 96), .ref (ga G 97), .ref (ga G 98), .int ik2, .ref (ga G 99), .int (nI td2), .int (nI fr2), .int (nI tt2), .int vl2, .int wr2, .ref (ga G 100), .ref (ga G 101), .ref (ga G 102), .ref (ga G 103)] else cel G (K, (ms, mk, mo, ma, mf, ik, mt, td, fr, tt, vl, wr, mb, mz, nu, mv)) j := by
  intro j hj
  by_cases hjk : j = 93
  · rw [if_pos hjk, hjk]
    exact rfl
  · rw [if_neg hjk]
    unfold cel
    refine ite_c (fun h_obj => ?_) (fun h_obj => ?_)
    · first | rfl | (exfalso; omega)
    refine ite_c (fun h_par => ?_) (fun h_par => ?_)
    · first | (rfl; done) | (dsimp only [gP, gS]; unfold va_up; split <;> first | (rfl; done) | (exfalso; omega))
    refine ite_c (fun h_wea => ?_) (fun h_wea => ?_)
    · first | (rfl; done) | (dsimp only [gP, gS]; unfold va_up; split <;> first | (rfl; done) | (exfalso; omega))
    refine ite_c (fun h_sto => ?_) (fun h_sto => ?_)
    · first | (rfl; done) | (dsimp only [gP, gS]; unfold va_up; split <;> first | (rfl; done) | (exfalso; omega))
    refine ite_c (fun h_rou => ?_) (fun h_rou => ?_)
    · first | (rfl; done) | (dsimp only [gP, gS]; unfold va_up; split <;> first | (rfl; done) | (exfalso; omega))
    refine ite_c (fun h_ews => ?_) (fun h_ews => ?_)
    · first | rfl | (exfalso; omega)
    refine ite_c (fun h_cos => ?_) (fun h_cos => ?_)
    · first | rfl | (exfalso; omega)
    refine ite_c (fun h_coa => ?_) (fun h_coa => ?_)
    · first | (rfl; done) | (dsimp only [gP, gS]; unfold va_up; split <;> first | (rfl; done) | (exfalso; omega))
    refine ite_c (fun h_ewe => ?_) (fun h_ewe => ?_)
    · first | (rfl; done) | (dsimp only [gP, gS]; unfold va_up; split <;> first | (rfl; done) | (exfalso; omega))
    refine ite_c (fun h_fle => ?_) (fun h_fle => ?_)
    · first | (rfl; done) | (dsimp only [gP, gS]; unfold va_up; split <;> first | (rfl; done) | (exfalso; omega))
    refine ite_c (fun h_tap => ?_) (fun h_tap => ?_)
    · first | rfl | (exfalso; omega)
    refine ite_c (fun h_byt => ?_) (fun h_byt => ?_)
    · first | rfl | (exfalso; omega)
    refine ite_c (fun h_shs => ?_) (fun h_shs => ?_)
    · first | rfl | (exfalso; omega)
    refine ite_c (fun h_she => ?_) (fun h_she => ?_)
    · first | (rfl; done) | (dsimp only [gP, gS]; unfold va_up; split <;> first | (rfl; done) | (exfalso; omega))
    refine ite_c (fun h_num => ?_) (fun h_num => ?_)
    · first | (rfl; done) | (dsimp only [gP, gS]; unfold va_up; split <;> first | (rfl; done) | (exfalso; omega))
    refine ite_c (fun h_tol => ?_) (fun h_tol => ?_)
    · first | rfl | (exfalso; omega)
    refine ite_c (fun h_mod => ?_) (fun h_mod => ?_)
    · first | rfl | (exfalso; omega)
    refine ite_c (fun h_ms => ?_) (fun h_ms => ?_)
    · first | rfl | (exfalso; omega)
    refine ite_c (fun h_mk => ?_) (fun h_mk => ?_)
    · first | rfl | (exfalso; omega)
    refine ite_c (fun h_mo => ?_) (fun h_mo => ?_)
    · first | rfl | (exfalso; omega)
    refine ite_c (fun h_ma => ?_) (fun h_ma => ?_)
    · first | rfl | (exfalso; omega)
    refine ite_c (fun h_mf => ?_) (fun h_mf => ?_)
    · first | rfl | (exfalso; omega)
    refine ite_c (fun h_mt => ?_) (fun h_mt => ?_)
    · first | rfl | (exfalso; omega)
    refine ite_c (fun h_mb => ?_) (fun h_mb => ?_)
    · first | rfl | (exfalso; omega)
    refine ite_c (fun h_mz => ?_) (fun h_mz => ?_)
    · first | rfl | (exfalso; omega)
    refine ite_c (fun h_nu => ?_) (fun h_nu => ?_)
    · first | rfl | (exfalso; omega)
    refine ite_c (fun h_mv => ?_) (fun h_mv => ?_)
    · first | rfl | (exfalso; omega)
    rfl
set_option maxHeartbeats 1000000 in
theorem u_ms {G : Gl} {K : CS} {ms : Nat → Int32} {mk : Nat → Int32} {mo : Nat → Int32} {ma : Nat → Int32} {mf : Nat → Int32} {ik : Int32} {mt : Nat → Int32} {td : Nat} {fr : Nat} {tt : Nat} {vl : Int32} {wr : Int32} {mb : Nat → Int32} {mz : Nat → Int32} {nu : Nat → Int64} {mv : Nat → Int64} {ms2 : Nat → Int32}  : ∀ j, j < 104 → cel G (K, (ms2, mk, mo, ma, mf, ik, mt, td, fr, tt, vl, wr, mb, mz, nu, mv)) j = if j = 94 then ai (gcI G) 198 ms2 else cel G (K, (ms, mk, mo, ma, mf, ik, mt, td, fr, tt, vl, wr, mb, mz, nu, mv)) j := by
  intro j hj
  by_cases hjk : j = 94
  · rw [if_pos hjk, hjk]
    exact rfl
  · rw [if_neg hjk]
    unfold cel
    refine ite_c (fun h_obj => ?_) (fun h_obj => ?_)
    · first | rfl | (exfalso; omega)
    refine ite_c (fun h_par => ?_) (fun h_par => ?_)
    · first | (rfl; done) | (dsimp only [gP, gS]; unfold va_up; split <;> first | (rfl; done) | (exfalso; omega))
    refine ite_c (fun h_wea => ?_) (fun h_wea => ?_)
    · first | (rfl; done) | (dsimp only [gP, gS]; unfold va_up; split <;> first | (rfl; done) | (exfalso; omega))
    refine ite_c (fun h_sto => ?_) (fun h_sto => ?_)
    · first | (rfl; done) | (dsimp only [gP, gS]; unfold va_up; split <;> first | (rfl; done) | (exfalso; omega))
    refine ite_c (fun h_rou => ?_) (fun h_rou => ?_)
    · first | (rfl; done) | (dsimp only [gP, gS]; unfold va_up; split <;> first | (rfl; done) | (exfalso; omega))
    refine ite_c (fun h_ews => ?_) (fun h_ews => ?_)
    · first | rfl | (exfalso; omega)
    refine ite_c (fun h_cos => ?_) (fun h_cos => ?_)
    · first | rfl | (exfalso; omega)
    refine ite_c (fun h_coa => ?_) (fun h_coa => ?_)
    · first | (rfl; done) | (dsimp only [gP, gS]; unfold va_up; split <;> first | (rfl; done) | (exfalso; omega))
    refine ite_c (fun h_ewe => ?_) (fun h_ewe => ?_)
    · first | (rfl; done) | (dsimp only [gP, gS]; unfold va_up; split <;> first | (rfl; done) | (exfalso; omega))
    refine ite_c (fun h_fle => ?_) (fun h_fle => ?_)
    · first | (rfl; done) | (dsimp only [gP, gS]; unfold va_up; split <;> first | (rfl; done) | (exfalso; omega))
    refine ite_c (fun h_tap => ?_) (fun h_tap => ?_)
    · first | rfl | (exfalso; omega)
    refine ite_c (fun h_byt => ?_) (fun h_byt => ?_)
    · first | rfl | (exfalso; omega)
    refine ite_c (fun h_shs => ?_) (fun h_shs => ?_)
    · first | rfl | (exfalso; omega)
    refine ite_c (fun h_she => ?_) (fun h_she => ?_)
    · first | (rfl; done) | (dsimp only [gP, gS]; unfold va_up; split <;> first | (rfl; done) | (exfalso; omega))
    refine ite_c (fun h_num => ?_) (fun h_num => ?_)
    · first | (rfl; done) | (dsimp only [gP, gS]; unfold va_up; split <;> first | (rfl; done) | (exfalso; omega))
    refine ite_c (fun h_tol => ?_) (fun h_tol => ?_)
    · first | rfl | (exfalso; omega)
    refine ite_c (fun h_mod => ?_) (fun h_mod => ?_)
    · first | rfl | (exfalso; omega)
    refine ite_c (fun h_ms => ?_) (fun h_ms => ?_)
    · first | rfl | (exfalso; omega)
    refine ite_c (fun h_mk => ?_) (fun h_mk => ?_)
    · first | rfl | (exfalso; omega)
    refine ite_c (fun h_mo => ?_) (fun h_mo => ?_)
    · first | rfl | (exfalso; omega)
    refine ite_c (fun h_ma => ?_) (fun h_ma => ?_)
    · first | rfl | (exfalso; omega)
    refine ite_c (fun h_mf => ?_) (fun h_mf => ?_)
    · first | rfl | (exfalso; omega)
    refine ite_c (fun h_mt => ?_) (fun h_mt => ?_)
    · first | rfl | (exfalso; omega)
    refine ite_c (fun h_mb => ?_) (fun h_mb => ?_)
    · first | rfl | (exfalso; omega)
    refine ite_c (fun h_mz => ?_) (fun h_mz => ?_)
    · first | rfl | (exfalso; omega)
    refine ite_c (fun h_nu => ?_) (fun h_nu => ?_)
    · first | rfl | (exfalso; omega)
    refine ite_c (fun h_mv => ?_) (fun h_mv => ?_)
    · first | rfl | (exfalso; omega)
    rfl
set_option maxHeartbeats 1000000 in
theorem u_mk {G : Gl} {K : CS} {ms : Nat → Int32} {mk : Nat → Int32} {mo : Nat → Int32} {ma : Nat → Int32} {mf : Nat → Int32} {ik : Int32} {mt : Nat → Int32} {td : Nat} {fr : Nat} {tt : Nat} {vl : Int32} {wr : Int32} {mb : Nat → Int32} {mz : Nat → Int32} {nu : Nat → Int64} {mv : Nat → Int64} {mk2 : Nat → Int32}  : ∀ j, j < 104 → cel G (K, (ms, mk2, mo, ma, mf, ik, mt, td, fr, tt, vl, wr, mb, mz, nu, mv)) j = if j = 95 then ai (gcI G) 198 mk2 else cel G (K, (ms, mk, mo, ma, mf, ik, mt, td, fr, tt, vl, wr, mb, mz, nu, mv)) j := by
  intro j hj
  by_cases hjk : j = 95
  · rw [if_pos hjk, hjk]
    exact rfl
  · rw [if_neg hjk]
    unfold cel
    refine ite_c (fun h_obj => ?_) (fun h_obj => ?_)
    · first | rfl | (exfalso; omega)
    refine ite_c (fun h_par => ?_) (fun h_par => ?_)
    · first | (rfl; done) | (dsimp only [gP, gS]; unfold va_up; split <;> first | (rfl; done) | (exfalso; omega))
    refine ite_c (fun h_wea => ?_) (fun h_wea => ?_)
    · first | (rfl; done) | (dsimp only [gP, gS]; unfold va_up; split <;> first | (rfl; done) | (exfalso; omega))
    refine ite_c (fun h_sto => ?_) (fun h_sto => ?_)
    · first | (rfl; done) | (dsimp only [gP, gS]; unfold va_up; split <;> first | (rfl; done) | (exfalso; omega))
    refine ite_c (fun h_rou => ?_) (fun h_rou => ?_)
    · first | (rfl; done) | (dsimp only [gP, gS]; unfold va_up; split <;> first | (rfl; done) | (exfalso; omega))
    refine ite_c (fun h_ews => ?_) (fun h_ews => ?_)
    · first | rfl | (exfalso; omega)
    refine ite_c (fun h_cos => ?_) (fun h_cos => ?_)
    · first | rfl | (exfalso; omega)
    refine ite_c (fun h_coa => ?_) (fun h_coa => ?_)
    · first | (rfl; done) | (dsimp only [gP, gS]; unfold va_up; split <;> first | (rfl; done) | (exfalso; omega))
    refine ite_c (fun h_ewe => ?_) (fun h_ewe => ?_)
    · first | (rfl; done) | (dsimp only [gP, gS]; unfold va_up; split <;> first | (rfl; done) | (exfalso; omega))
    refine ite_c (fun h_fle => ?_) (fun h_fle => ?_)
    · first | (rfl; done) | (dsimp only [gP, gS]; unfold va_up; split <;> first | (rfl; done) | (exfalso; omega))
    refine ite_c (fun h_tap => ?_) (fun h_tap => ?_)
    · first | rfl | (exfalso; omega)
    refine ite_c (fun h_byt => ?_) (fun h_byt => ?_)
    · first | rfl | (exfalso; omega)
    refine ite_c (fun h_shs => ?_) (fun h_shs => ?_)
    · first | rfl | (exfalso; omega)
    refine ite_c (fun h_she => ?_) (fun h_she => ?_)
    · first | (rfl; done) | (dsimp only [gP, gS]; unfold va_up; split <;> first | (rfl; done) | (exfalso; omega))
    refine ite_c (fun h_num => ?_) (fun h_num => ?_)
    · first | (rfl; done) | (dsimp only [gP, gS]; unfold va_up; split <;> first | (rfl; done) | (exfalso; omega))
    refine ite_c (fun h_tol => ?_) (fun h_tol => ?_)
    · first | rfl | (exfalso; omega)
    refine ite_c (fun h_mod => ?_) (fun h_mod => ?_)
    · first | rfl | (exfalso; omega)
    refine ite_c (fun h_ms => ?_) (fun h_ms => ?_)
    · first | rfl | (exfalso; omega)
    refine ite_c (fun h_mk => ?_) (fun h_mk => ?_)
    · first | rfl | (exfalso; omega)
    refine ite_c (fun h_mo => ?_) (fun h_mo => ?_)
    · first | rfl | (exfalso; omega)
    refine ite_c (fun h_ma => ?_) (fun h_ma => ?_)
    · first | rfl | (exfalso; omega)
    refine ite_c (fun h_mf => ?_) (fun h_mf => ?_)
    · first | rfl | (exfalso; omega)
    refine ite_c (fun h_mt => ?_) (fun h_mt => ?_)
    · first | rfl | (exfalso; omega)
    refine ite_c (fun h_mb => ?_) (fun h_mb => ?_)
    · first | rfl | (exfalso; omega)
    refine ite_c (fun h_mz => ?_) (fun h_mz => ?_)
    · first | rfl | (exfalso; omega)
    refine ite_c (fun h_nu => ?_) (fun h_nu => ?_)
    · first | rfl | (exfalso; omega)
    refine ite_c (fun h_mv => ?_) (fun h_mv => ?_)
    · first | rfl | (exfalso; omega)
    rfl
set_option maxHeartbeats 1000000 in
theorem u_mot {G : Gl} {K : CS} {ms : Nat → Int32} {mk : Nat → Int32} {mo : Nat → Int32} {ma : Nat → Int32} {mf : Nat → Int32} {ik : Int32} {mt : Nat → Int32} {td : Nat} {fr : Nat} {tt : Nat} {vl : Int32} {wr : Int32} {mb : Nat → Int32} {mz : Nat → Int32} {nu : Nat → Int64} {mv : Nat → Int64} {mo2 : Nat → Int32}  : ∀ j, j < 104 → cel G (K, (ms, mk, mo2, ma, mf, ik, mt, td, fr, tt, vl, wr, mb, mz, nu, mv)) j = if j = 96 then ai (gcI G) 198 mo2 else cel G (K, (ms, mk, mo, ma, mf, ik, mt, td, fr, tt, vl, wr, mb, mz, nu, mv)) j := by
  intro j hj
  by_cases hjk : j = 96
  · rw [if_pos hjk, hjk]
    exact rfl
  · rw [if_neg hjk]
    unfold cel
    refine ite_c (fun h_obj => ?_) (fun h_obj => ?_)
    · first | rfl | (exfalso; omega)
    refine ite_c (fun h_par => ?_) (fun h_par => ?_)
    · first | (rfl; done) | (dsimp only [gP, gS]; unfold va_up; split <;> first | (rfl; done) | (exfalso; omega))
    refine ite_c (fun h_wea => ?_) (fun h_wea => ?_)
    · first | (rfl; done) | (dsimp only [gP, gS]; unfold va_up; split <;> first | (rfl; done) | (exfalso; omega))
    refine ite_c (fun h_sto => ?_) (fun h_sto => ?_)
    · first | (rfl; done) | (dsimp only [gP, gS]; unfold va_up; split <;> first | (rfl; done) | (exfalso; omega))
    refine ite_c (fun h_rou => ?_) (fun h_rou => ?_)
    · first | (rfl; done) | (dsimp only [gP, gS]; unfold va_up; split <;> first | (rfl; done) | (exfalso; omega))
    refine ite_c (fun h_ews => ?_) (fun h_ews => ?_)
    · first | rfl | (exfalso; omega)
    refine ite_c (fun h_cos => ?_) (fun h_cos => ?_)
    · first | rfl | (exfalso; omega)
    refine ite_c (fun h_coa => ?_) (fun h_coa => ?_)
    · first | (rfl; done) | (dsimp only [gP, gS]; unfold va_up; split <;> first | (rfl; done) | (exfalso; omega))
    refine ite_c (fun h_ewe => ?_) (fun h_ewe => ?_)
    · first | (rfl; done) | (dsimp only [gP, gS]; unfold va_up; split <;> first | (rfl; done) | (exfalso; omega))
    refine ite_c (fun h_fle => ?_) (fun h_fle => ?_)
    · first | (rfl; done) | (dsimp only [gP, gS]; unfold va_up; split <;> first | (rfl; done) | (exfalso; omega))
    refine ite_c (fun h_tap => ?_) (fun h_tap => ?_)
    · first | rfl | (exfalso; omega)
    refine ite_c (fun h_byt => ?_) (fun h_byt => ?_)
    · first | rfl | (exfalso; omega)
    refine ite_c (fun h_shs => ?_) (fun h_shs => ?_)
    · first | rfl | (exfalso; omega)
    refine ite_c (fun h_she => ?_) (fun h_she => ?_)
    · first | (rfl; done) | (dsimp only [gP, gS]; unfold va_up; split <;> first | (rfl; done) | (exfalso; omega))
    refine ite_c (fun h_num => ?_) (fun h_num => ?_)
    · first | (rfl; done) | (dsimp only [gP, gS]; unfold va_up; split <;> first | (rfl; done) | (exfalso; omega))
    refine ite_c (fun h_tol => ?_) (fun h_tol => ?_)
    · first | rfl | (exfalso; omega)
    refine ite_c (fun h_mod => ?_) (fun h_mod => ?_)
    · first | rfl | (exfalso; omega)
    refine ite_c (fun h_ms => ?_) (fun h_ms => ?_)
    · first | rfl | (exfalso; omega)
    refine ite_c (fun h_mk => ?_) (fun h_mk => ?_)
    · first | rfl | (exfalso; omega)
    refine ite_c (fun h_mo => ?_) (fun h_mo => ?_)
    · first | rfl | (exfalso; omega)
    refine ite_c (fun h_ma => ?_) (fun h_ma => ?_)
    · first | rfl | (exfalso; omega)
    refine ite_c (fun h_mf => ?_) (fun h_mf => ?_)
    · first | rfl | (exfalso; omega)
    refine ite_c (fun h_mt => ?_) (fun h_mt => ?_)
    · first | rfl | (exfalso; omega)
    refine ite_c (fun h_mb => ?_) (fun h_mb => ?_)
    · first | rfl | (exfalso; omega)
    refine ite_c (fun h_mz => ?_) (fun h_mz => ?_)
    · first | rfl | (exfalso; omega)
    refine ite_c (fun h_nu => ?_) (fun h_nu => ?_)
    · first | rfl | (exfalso; omega)
    refine ite_c (fun h_mv => ?_) (fun h_mv => ?_)
    · first | rfl | (exfalso; omega)
    rfl
set_option maxHeartbeats 1000000 in
theorem u_ma {G : Gl} {K : CS} {ms : Nat → Int32} {mk : Nat → Int32} {mo : Nat → Int32} {ma : Nat → Int32} {mf : Nat → Int32} {ik : Int32} {mt : Nat → Int32} {td : Nat} {fr : Nat} {tt : Nat} {vl : Int32} {wr : Int32} {mb : Nat → Int32} {mz : Nat → Int32} {nu : Nat → Int64} {mv : Nat → Int64} {ma2 : Nat → Int32}  : ∀ j, j < 104 → cel G (K, (ms, mk, mo, ma2, mf, ik, mt, td, fr, tt, vl, wr, mb, mz, nu, mv)) j = if j = 97 then ai (gcI G) 198 ma2 else cel G (K, (ms, mk, mo, ma, mf, ik, mt, td, fr, tt, vl, wr, mb, mz, nu, mv)) j := by
  intro j hj
  by_cases hjk : j = 97
  · rw [if_pos hjk, hjk]
    exact rfl
  · rw [if_neg hjk]
    unfold cel
    refine ite_c (fun h_obj => ?_) (fun h_obj => ?_)
    · first | rfl | (exfalso; omega)
    refine ite_c (fun h_par => ?_) (fun h_par => ?_)
    · first | (rfl; done) | (dsimp only [gP, gS]; unfold va_up; split <;> first | (rfl; done) | (exfalso; omega))
    refine ite_c (fun h_wea => ?_) (fun h_wea => ?_)
    · first | (rfl; done) | (dsimp only [gP, gS]; unfold va_up; split <;> first | (rfl; done) | (exfalso; omega))
    refine ite_c (fun h_sto => ?_) (fun h_sto => ?_)
    · first | (rfl; done) | (dsimp only [gP, gS]; unfold va_up; split <;> first | (rfl; done) | (exfalso; omega))
    refine ite_c (fun h_rou => ?_) (fun h_rou => ?_)
    · first | (rfl; done) | (dsimp only [gP, gS]; unfold va_up; split <;> first | (rfl; done) | (exfalso; omega))
    refine ite_c (fun h_ews => ?_) (fun h_ews => ?_)
    · first | rfl | (exfalso; omega)
    refine ite_c (fun h_cos => ?_) (fun h_cos => ?_)
    · first | rfl | (exfalso; omega)
    refine ite_c (fun h_coa => ?_) (fun h_coa => ?_)
    · first | (rfl; done) | (dsimp only [gP, gS]; unfold va_up; split <;> first | (rfl; done) | (exfalso; omega))
    refine ite_c (fun h_ewe => ?_) (fun h_ewe => ?_)
    · first | (rfl; done) | (dsimp only [gP, gS]; unfold va_up; split <;> first | (rfl; done) | (exfalso; omega))
    refine ite_c (fun h_fle => ?_) (fun h_fle => ?_)
    · first | (rfl; done) | (dsimp only [gP, gS]; unfold va_up; split <;> first | (rfl; done) | (exfalso; omega))
    refine ite_c (fun h_tap => ?_) (fun h_tap => ?_)
    · first | rfl | (exfalso; omega)
    refine ite_c (fun h_byt => ?_) (fun h_byt => ?_)
    · first | rfl | (exfalso; omega)
    refine ite_c (fun h_shs => ?_) (fun h_shs => ?_)
    · first | rfl | (exfalso; omega)
    refine ite_c (fun h_she => ?_) (fun h_she => ?_)
    · first | (rfl; done) | (dsimp only [gP, gS]; unfold va_up; split <;> first | (rfl; done) | (exfalso; omega))
    refine ite_c (fun h_num => ?_) (fun h_num => ?_)
    · first | (rfl; done) | (dsimp only [gP, gS]; unfold va_up; split <;> first | (rfl; done) | (exfalso; omega))
    refine ite_c (fun h_tol => ?_) (fun h_tol => ?_)
    · first | rfl | (exfalso; omega)
    refine ite_c (fun h_mod => ?_) (fun h_mod => ?_)
    · first | rfl | (exfalso; omega)
    refine ite_c (fun h_ms => ?_) (fun h_ms => ?_)
    · first | rfl | (exfalso; omega)
    refine ite_c (fun h_mk => ?_) (fun h_mk => ?_)
    · first | rfl | (exfalso; omega)
    refine ite_c (fun h_mo => ?_) (fun h_mo => ?_)
    · first | rfl | (exfalso; omega)
    refine ite_c (fun h_ma => ?_) (fun h_ma => ?_)
    · first | rfl | (exfalso; omega)
    refine ite_c (fun h_mf => ?_) (fun h_mf => ?_)
    · first | rfl | (exfalso; omega)
    refine ite_c (fun h_mt => ?_) (fun h_mt => ?_)
    · first | rfl | (exfalso; omega)
    refine ite_c (fun h_mb => ?_) (fun h_mb => ?_)
    · first | rfl | (exfalso; omega)
    refine ite_c (fun h_mz => ?_) (fun h_mz => ?_)
    · first | rfl | (exfalso; omega)
    refine ite_c (fun h_nu => ?_) (fun h_nu => ?_)
    · first | rfl | (exfalso; omega)
    refine ite_c (fun h_mv => ?_) (fun h_mv => ?_)
    · first | rfl | (exfalso; omega)
    rfl
set_option maxHeartbeats 1000000 in
theorem u_mf {G : Gl} {K : CS} {ms : Nat → Int32} {mk : Nat → Int32} {mo : Nat → Int32} {ma : Nat → Int32} {mf : Nat → Int32} {ik : Int32} {mt : Nat → Int32} {td : Nat} {fr : Nat} {tt : Nat} {vl : Int32} {wr : Int32} {mb : Nat → Int32} {mz : Nat → Int32} {nu : Nat → Int64} {mv : Nat → Int64} {mf2 : Nat → Int32}  : ∀ j, j < 104 → cel G (K, (ms, mk, mo, ma, mf2, ik, mt, td, fr, tt, vl, wr, mb, mz, nu, mv)) j = if j = 98 then ai (gcI G) 7 mf2 else cel G (K, (ms, mk, mo, ma, mf, ik, mt, td, fr, tt, vl, wr, mb, mz, nu, mv)) j := by
  intro j hj
  by_cases hjk : j = 98
  · rw [if_pos hjk, hjk]
    exact rfl
  · rw [if_neg hjk]
    unfold cel
    refine ite_c (fun h_obj => ?_) (fun h_obj => ?_)
    · first | rfl | (exfalso; omega)
    refine ite_c (fun h_par => ?_) (fun h_par => ?_)
    · first | (rfl; done) | (dsimp only [gP, gS]; unfold va_up; split <;> first | (rfl; done) | (exfalso; omega))
    refine ite_c (fun h_wea => ?_) (fun h_wea => ?_)
    · first | (rfl; done) | (dsimp only [gP, gS]; unfold va_up; split <;> first | (rfl; done) | (exfalso; omega))
    refine ite_c (fun h_sto => ?_) (fun h_sto => ?_)
    · first | (rfl; done) | (dsimp only [gP, gS]; unfold va_up; split <;> first | (rfl; done) | (exfalso; omega))
    refine ite_c (fun h_rou => ?_) (fun h_rou => ?_)
    · first | (rfl; done) | (dsimp only [gP, gS]; unfold va_up; split <;> first | (rfl; done) | (exfalso; omega))
    refine ite_c (fun h_ews => ?_) (fun h_ews => ?_)
    · first | rfl | (exfalso; omega)
    refine ite_c (fun h_cos => ?_) (fun h_cos => ?_)
    · first | rfl | (exfalso; omega)
    refine ite_c (fun h_coa => ?_) (fun h_coa => ?_)
    · first | (rfl; done) | (dsimp only [gP, gS]; unfold va_up; split <;> first | (rfl; done) | (exfalso; omega))
    refine ite_c (fun h_ewe => ?_) (fun h_ewe => ?_)
    · first | (rfl; done) | (dsimp only [gP, gS]; unfold va_up; split <;> first | (rfl; done) | (exfalso; omega))
    refine ite_c (fun h_fle => ?_) (fun h_fle => ?_)
    · first | (rfl; done) | (dsimp only [gP, gS]; unfold va_up; split <;> first | (rfl; done) | (exfalso; omega))
    refine ite_c (fun h_tap => ?_) (fun h_tap => ?_)
    · first | rfl | (exfalso; omega)
    refine ite_c (fun h_byt => ?_) (fun h_byt => ?_)
    · first | rfl | (exfalso; omega)
    refine ite_c (fun h_shs => ?_) (fun h_shs => ?_)
    · first | rfl | (exfalso; omega)
    refine ite_c (fun h_she => ?_) (fun h_she => ?_)
    · first | (rfl; done) | (dsimp only [gP, gS]; unfold va_up; split <;> first | (rfl; done) | (exfalso; omega))
    refine ite_c (fun h_num => ?_) (fun h_num => ?_)
    · first | (rfl; done) | (dsimp only [gP, gS]; unfold va_up; split <;> first | (rfl; done) | (exfalso; omega))
    refine ite_c (fun h_tol => ?_) (fun h_tol => ?_)
    · first | rfl | (exfalso; omega)
    refine ite_c (fun h_mod => ?_) (fun h_mod => ?_)
    · first | rfl | (exfalso; omega)
    refine ite_c (fun h_ms => ?_) (fun h_ms => ?_)
    · first | rfl | (exfalso; omega)
    refine ite_c (fun h_mk => ?_) (fun h_mk => ?_)
    · first | rfl | (exfalso; omega)
    refine ite_c (fun h_mo => ?_) (fun h_mo => ?_)
    · first | rfl | (exfalso; omega)
    refine ite_c (fun h_ma => ?_) (fun h_ma => ?_)
    · first | rfl | (exfalso; omega)
    refine ite_c (fun h_mf => ?_) (fun h_mf => ?_)
    · first | rfl | (exfalso; omega)
    refine ite_c (fun h_mt => ?_) (fun h_mt => ?_)
    · first | rfl | (exfalso; omega)
    refine ite_c (fun h_mb => ?_) (fun h_mb => ?_)
    · first | rfl | (exfalso; omega)
    refine ite_c (fun h_mz => ?_) (fun h_mz => ?_)
    · first | rfl | (exfalso; omega)
    refine ite_c (fun h_nu => ?_) (fun h_nu => ?_)
    · first | rfl | (exfalso; omega)
    refine ite_c (fun h_mv => ?_) (fun h_mv => ?_)
    · first | rfl | (exfalso; omega)
    rfl
set_option maxHeartbeats 1000000 in
theorem u_mt {G : Gl} {K : CS} {ms : Nat → Int32} {mk : Nat → Int32} {mo : Nat → Int32} {ma : Nat → Int32} {mf : Nat → Int32} {ik : Int32} {mt : Nat → Int32} {td : Nat} {fr : Nat} {tt : Nat} {vl : Int32} {wr : Int32} {mb : Nat → Int32} {mz : Nat → Int32} {nu : Nat → Int64} {mv : Nat → Int64} {mt2 : Nat → Int32}  : ∀ j, j < 104 → cel G (K, (ms, mk, mo, ma, mf, ik, mt2, td, fr, tt, vl, wr, mb, mz, nu, mv)) j = if j = 99 then ai (gcI G) 120 mt2 else cel G (K, (ms, mk, mo, ma, mf, ik, mt, td, fr, tt, vl, wr, mb, mz, nu, mv)) j := by
  intro j hj
  by_cases hjk : j = 99
  · rw [if_pos hjk, hjk]
    exact rfl
  · rw [if_neg hjk]
    unfold cel
    refine ite_c (fun h_obj => ?_) (fun h_obj => ?_)
    · first | rfl | (exfalso; omega)
    refine ite_c (fun h_par => ?_) (fun h_par => ?_)
    · first | (rfl; done) | (dsimp only [gP, gS]; unfold va_up; split <;> first | (rfl; done) | (exfalso; omega))
    refine ite_c (fun h_wea => ?_) (fun h_wea => ?_)
    · first | (rfl; done) | (dsimp only [gP, gS]; unfold va_up; split <;> first | (rfl; done) | (exfalso; omega))
    refine ite_c (fun h_sto => ?_) (fun h_sto => ?_)
    · first | (rfl; done) | (dsimp only [gP, gS]; unfold va_up; split <;> first | (rfl; done) | (exfalso; omega))
    refine ite_c (fun h_rou => ?_) (fun h_rou => ?_)
    · first | (rfl; done) | (dsimp only [gP, gS]; unfold va_up; split <;> first | (rfl; done) | (exfalso; omega))
    refine ite_c (fun h_ews => ?_) (fun h_ews => ?_)
    · first | rfl | (exfalso; omega)
    refine ite_c (fun h_cos => ?_) (fun h_cos => ?_)
    · first | rfl | (exfalso; omega)
    refine ite_c (fun h_coa => ?_) (fun h_coa => ?_)
    · first | (rfl; done) | (dsimp only [gP, gS]; unfold va_up; split <;> first | (rfl; done) | (exfalso; omega))
    refine ite_c (fun h_ewe => ?_) (fun h_ewe => ?_)
    · first | (rfl; done) | (dsimp only [gP, gS]; unfold va_up; split <;> first | (rfl; done) | (exfalso; omega))
    refine ite_c (fun h_fle => ?_) (fun h_fle => ?_)
    · first | (rfl; done) | (dsimp only [gP, gS]; unfold va_up; split <;> first | (rfl; done) | (exfalso; omega))
    refine ite_c (fun h_tap => ?_) (fun h_tap => ?_)
    · first | rfl | (exfalso; omega)
    refine ite_c (fun h_byt => ?_) (fun h_byt => ?_)
    · first | rfl | (exfalso; omega)
    refine ite_c (fun h_shs => ?_) (fun h_shs => ?_)
    · first | rfl | (exfalso; omega)
    refine ite_c (fun h_she => ?_) (fun h_she => ?_)
    · first | (rfl; done) | (dsimp only [gP, gS]; unfold va_up; split <;> first | (rfl; done) | (exfalso; omega))
    refine ite_c (fun h_num => ?_) (fun h_num => ?_)
    · first | (rfl; done) | (dsimp only [gP, gS]; unfold va_up; split <;> first | (rfl; done) | (exfalso; omega))
    refine ite_c (fun h_tol => ?_) (fun h_tol => ?_)
    · first | rfl | (exfalso; omega)
    refine ite_c (fun h_mod => ?_) (fun h_mod => ?_)
    · first | rfl | (exfalso; omega)
    refine ite_c (fun h_ms => ?_) (fun h_ms => ?_)
    · first | rfl | (exfalso; omega)
    refine ite_c (fun h_mk => ?_) (fun h_mk => ?_)
    · first | rfl | (exfalso; omega)
    refine ite_c (fun h_mo => ?_) (fun h_mo => ?_)
    · first | rfl | (exfalso; omega)
    refine ite_c (fun h_ma => ?_) (fun h_ma => ?_)
    · first | rfl | (exfalso; omega)
    refine ite_c (fun h_mf => ?_) (fun h_mf => ?_)
    · first | rfl | (exfalso; omega)
    refine ite_c (fun h_mt => ?_) (fun h_mt => ?_)
    · first | rfl | (exfalso; omega)
    refine ite_c (fun h_mb => ?_) (fun h_mb => ?_)
    · first | rfl | (exfalso; omega)
    refine ite_c (fun h_mz => ?_) (fun h_mz => ?_)
    · first | rfl | (exfalso; omega)
    refine ite_c (fun h_nu => ?_) (fun h_nu => ?_)
    · first | rfl | (exfalso; omega)
    refine ite_c (fun h_mv => ?_) (fun h_mv => ?_)
    · first | rfl | (exfalso; omega)
    rfl
set_option maxHeartbeats 1000000 in
theorem u_mb {G : Gl} {K : CS} {ms : Nat → Int32} {mk : Nat → Int32} {mo : Nat → Int32} {ma : Nat → Int32} {mf : Nat → Int32} {ik : Int32} {mt : Nat → Int32} {td : Nat} {fr : Nat} {tt : Nat} {vl : Int32} {wr : Int32} {mb : Nat → Int32} {mz : Nat → Int32} {nu : Nat → Int64} {mv : Nat → Int64} {mb2 : Nat → Int32}  : ∀ j, j < 104 → cel G (K, (ms, mk, mo, ma, mf, ik, mt, td, fr, tt, vl, wr, mb2, mz, nu, mv)) j = if j = 100 then ai (gcI G) 4 mb2 else cel G (K, (ms, mk, mo, ma, mf, ik, mt, td, fr, tt, vl, wr, mb, mz, nu, mv)) j := by
  intro j hj
  by_cases hjk : j = 100
  · rw [if_pos hjk, hjk]
    exact rfl
  · rw [if_neg hjk]
    unfold cel
    refine ite_c (fun h_obj => ?_) (fun h_obj => ?_)
    · first | rfl | (exfalso; omega)
    refine ite_c (fun h_par => ?_) (fun h_par => ?_)
    · first | (rfl; done) | (dsimp only [gP, gS]; unfold va_up; split <;> first | (rfl; done) | (exfalso; omega))
    refine ite_c (fun h_wea => ?_) (fun h_wea => ?_)
    · first | (rfl; done) | (dsimp only [gP, gS]; unfold va_up; split <;> first | (rfl; done) | (exfalso; omega))
    refine ite_c (fun h_sto => ?_) (fun h_sto => ?_)
    · first | (rfl; done) | (dsimp only [gP, gS]; unfold va_up; split <;> first | (rfl; done) | (exfalso; omega))
    refine ite_c (fun h_rou => ?_) (fun h_rou => ?_)
    · first | (rfl; done) | (dsimp only [gP, gS]; unfold va_up; split <;> first | (rfl; done) | (exfalso; omega))
    refine ite_c (fun h_ews => ?_) (fun h_ews => ?_)
    · first | rfl | (exfalso; omega)
    refine ite_c (fun h_cos => ?_) (fun h_cos => ?_)
    · first | rfl | (exfalso; omega)
    refine ite_c (fun h_coa => ?_) (fun h_coa => ?_)
    · first | (rfl; done) | (dsimp only [gP, gS]; unfold va_up; split <;> first | (rfl; done) | (exfalso; omega))
    refine ite_c (fun h_ewe => ?_) (fun h_ewe => ?_)
    · first | (rfl; done) | (dsimp only [gP, gS]; unfold va_up; split <;> first | (rfl; done) | (exfalso; omega))
    refine ite_c (fun h_fle => ?_) (fun h_fle => ?_)
    · first | (rfl; done) | (dsimp only [gP, gS]; unfold va_up; split <;> first | (rfl; done) | (exfalso; omega))
    refine ite_c (fun h_tap => ?_) (fun h_tap => ?_)
    · first | rfl | (exfalso; omega)
    refine ite_c (fun h_byt => ?_) (fun h_byt => ?_)
    · first | rfl | (exfalso; omega)
    refine ite_c (fun h_shs => ?_) (fun h_shs => ?_)
    · first | rfl | (exfalso; omega)
    refine ite_c (fun h_she => ?_) (fun h_she => ?_)
    · first | (rfl; done) | (dsimp only [gP, gS]; unfold va_up; split <;> first | (rfl; done) | (exfalso; omega))
    refine ite_c (fun h_num => ?_) (fun h_num => ?_)
    · first | (rfl; done) | (dsimp only [gP, gS]; unfold va_up; split <;> first | (rfl; done) | (exfalso; omega))
    refine ite_c (fun h_tol => ?_) (fun h_tol => ?_)
    · first | rfl | (exfalso; omega)
    refine ite_c (fun h_mod => ?_) (fun h_mod => ?_)
    · first | rfl | (exfalso; omega)
    refine ite_c (fun h_ms => ?_) (fun h_ms => ?_)
    · first | rfl | (exfalso; omega)
    refine ite_c (fun h_mk => ?_) (fun h_mk => ?_)
    · first | rfl | (exfalso; omega)
    refine ite_c (fun h_mo => ?_) (fun h_mo => ?_)
    · first | rfl | (exfalso; omega)
    refine ite_c (fun h_ma => ?_) (fun h_ma => ?_)
    · first | rfl | (exfalso; omega)
    refine ite_c (fun h_mf => ?_) (fun h_mf => ?_)
    · first | rfl | (exfalso; omega)
    refine ite_c (fun h_mt => ?_) (fun h_mt => ?_)
    · first | rfl | (exfalso; omega)
    refine ite_c (fun h_mb => ?_) (fun h_mb => ?_)
    · first | rfl | (exfalso; omega)
    refine ite_c (fun h_mz => ?_) (fun h_mz => ?_)
    · first | rfl | (exfalso; omega)
    refine ite_c (fun h_nu => ?_) (fun h_nu => ?_)
    · first | rfl | (exfalso; omega)
    refine ite_c (fun h_mv => ?_) (fun h_mv => ?_)
    · first | rfl | (exfalso; omega)
    rfl
set_option maxHeartbeats 1000000 in
theorem u_mz {G : Gl} {K : CS} {ms : Nat → Int32} {mk : Nat → Int32} {mo : Nat → Int32} {ma : Nat → Int32} {mf : Nat → Int32} {ik : Int32} {mt : Nat → Int32} {td : Nat} {fr : Nat} {tt : Nat} {vl : Int32} {wr : Int32} {mb : Nat → Int32} {mz : Nat → Int32} {nu : Nat → Int64} {mv : Nat → Int64} {mz2 : Nat → Int32}  : ∀ j, j < 104 → cel G (K, (ms, mk, mo, ma, mf, ik, mt, td, fr, tt, vl, wr, mb, mz2, nu, mv)) j = if j = 101 then ai (gcI G) 4 mz2 else cel G (K, (ms, mk, mo, ma, mf, ik, mt, td, fr, tt, vl, wr, mb, mz, nu, mv)) j := by
  intro j hj
  by_cases hjk : j = 101
  · rw [if_pos hjk, hjk]
    exact rfl
  · rw [if_neg hjk]
    unfold cel
    refine ite_c (fun h_obj => ?_) (fun h_obj => ?_)
    · first | rfl | (exfalso; omega)
    refine ite_c (fun h_par => ?_) (fun h_par => ?_)
    · first | (rfl; done) | (dsimp only [gP, gS]; unfold va_up; split <;> first | (rfl; done) | (exfalso; omega))
    refine ite_c (fun h_wea => ?_) (fun h_wea => ?_)
    · first | (rfl; done) | (dsimp only [gP, gS]; unfold va_up; split <;> first | (rfl; done) | (exfalso; omega))
    refine ite_c (fun h_sto => ?_) (fun h_sto => ?_)
    · first | (rfl; done) | (dsimp only [gP, gS]; unfold va_up; split <;> first | (rfl; done) | (exfalso; omega))
    refine ite_c (fun h_rou => ?_) (fun h_rou => ?_)
    · first | (rfl; done) | (dsimp only [gP, gS]; unfold va_up; split <;> first | (rfl; done) | (exfalso; omega))
    refine ite_c (fun h_ews => ?_) (fun h_ews => ?_)
    · first | rfl | (exfalso; omega)
    refine ite_c (fun h_cos => ?_) (fun h_cos => ?_)
    · first | rfl | (exfalso; omega)
    refine ite_c (fun h_coa => ?_) (fun h_coa => ?_)
    · first | (rfl; done) | (dsimp only [gP, gS]; unfold va_up; split <;> first | (rfl; done) | (exfalso; omega))
    refine ite_c (fun h_ewe => ?_) (fun h_ewe => ?_)
    · first | (rfl; done) | (dsimp only [gP, gS]; unfold va_up; split <;> first | (rfl; done) | (exfalso; omega))
    refine ite_c (fun h_fle => ?_) (fun h_fle => ?_)
    · first | (rfl; done) | (dsimp only [gP, gS]; unfold va_up; split <;> first | (rfl; done) | (exfalso; omega))
    refine ite_c (fun h_tap => ?_) (fun h_tap => ?_)
    · first | rfl | (exfalso; omega)
    refine ite_c (fun h_byt => ?_) (fun h_byt => ?_)
    · first | rfl | (exfalso; omega)
    refine ite_c (fun h_shs => ?_) (fun h_shs => ?_)
    · first | rfl | (exfalso; omega)
    refine ite_c (fun h_she => ?_) (fun h_she => ?_)
    · first | (rfl; done) | (dsimp only [gP, gS]; unfold va_up; split <;> first | (rfl; done) | (exfalso; omega))
    refine ite_c (fun h_num => ?_) (fun h_num => ?_)
    · first | (rfl; done) | (dsimp only [gP, gS]; unfold va_up; split <;> first | (rfl; done) | (exfalso; omega))
    refine ite_c (fun h_tol => ?_) (fun h_tol => ?_)
    · first | rfl | (exfalso; omega)
    refine ite_c (fun h_mod => ?_) (fun h_mod => ?_)
    · first | rfl | (exfalso; omega)
    refine ite_c (fun h_ms => ?_) (fun h_ms => ?_)
    · first | rfl | (exfalso; omega)
    refine ite_c (fun h_mk => ?_) (fun h_mk => ?_)
    · first | rfl | (exfalso; omega)
    refine ite_c (fun h_mo => ?_) (fun h_mo => ?_)
    · first | rfl | (exfalso; omega)
    refine ite_c (fun h_ma => ?_) (fun h_ma => ?_)
    · first | rfl | (exfalso; omega)
    refine ite_c (fun h_mf => ?_) (fun h_mf => ?_)
    · first | rfl | (exfalso; omega)
    refine ite_c (fun h_mt => ?_) (fun h_mt => ?_)
    · first | rfl | (exfalso; omega)
    refine ite_c (fun h_mb => ?_) (fun h_mb => ?_)
    · first | rfl | (exfalso; omega)
    refine ite_c (fun h_mz => ?_) (fun h_mz => ?_)
    · first | rfl | (exfalso; omega)
    refine ite_c (fun h_nu => ?_) (fun h_nu => ?_)
    · first | rfl | (exfalso; omega)
    refine ite_c (fun h_mv => ?_) (fun h_mv => ?_)
    · first | rfl | (exfalso; omega)
    rfl
set_option maxHeartbeats 1000000 in
theorem u_nu {G : Gl} {K : CS} {ms : Nat → Int32} {mk : Nat → Int32} {mo : Nat → Int32} {ma : Nat → Int32} {mf : Nat → Int32} {ik : Int32} {mt : Nat → Int32} {td : Nat} {fr : Nat} {tt : Nat} {vl : Int32} {wr : Int32} {mb : Nat → Int32} {mz : Nat → Int32} {nu : Nat → Int64} {mv : Nat → Int64} {nu2 : Nat → Int64}  : ∀ j, j < 104 → cel G (K, (ms, mk, mo, ma, mf, ik, mt, td, fr, tt, vl, wr, mb, mz, nu2, mv)) j = if j = 102 then aj (gcJ G) 160 nu2 else cel G (K, (ms, mk, mo, ma, mf, ik, mt, td, fr, tt, vl, wr, mb, mz, nu, mv)) j := by
  intro j hj
  by_cases hjk : j = 102
  · rw [if_pos hjk, hjk]
    exact rfl
  · rw [if_neg hjk]
    unfold cel
    refine ite_c (fun h_obj => ?_) (fun h_obj => ?_)
    · first | rfl | (exfalso; omega)
    refine ite_c (fun h_par => ?_) (fun h_par => ?_)
    · first | (rfl; done) | (dsimp only [gP, gS]; unfold va_up; split <;> first | (rfl; done) | (exfalso; omega))
    refine ite_c (fun h_wea => ?_) (fun h_wea => ?_)
    · first | (rfl; done) | (dsimp only [gP, gS]; unfold va_up; split <;> first | (rfl; done) | (exfalso; omega))
    refine ite_c (fun h_sto => ?_) (fun h_sto => ?_)
    · first | (rfl; done) | (dsimp only [gP, gS]; unfold va_up; split <;> first | (rfl; done) | (exfalso; omega))
    refine ite_c (fun h_rou => ?_) (fun h_rou => ?_)
    · first | (rfl; done) | (dsimp only [gP, gS]; unfold va_up; split <;> first | (rfl; done) | (exfalso; omega))
    refine ite_c (fun h_ews => ?_) (fun h_ews => ?_)
    · first | rfl | (exfalso; omega)
    refine ite_c (fun h_cos => ?_) (fun h_cos => ?_)
    · first | rfl | (exfalso; omega)
    refine ite_c (fun h_coa => ?_) (fun h_coa => ?_)
    · first | (rfl; done) | (dsimp only [gP, gS]; unfold va_up; split <;> first | (rfl; done) | (exfalso; omega))
    refine ite_c (fun h_ewe => ?_) (fun h_ewe => ?_)
    · first | (rfl; done) | (dsimp only [gP, gS]; unfold va_up; split <;> first | (rfl; done) | (exfalso; omega))
    refine ite_c (fun h_fle => ?_) (fun h_fle => ?_)
    · first | (rfl; done) | (dsimp only [gP, gS]; unfold va_up; split <;> first | (rfl; done) | (exfalso; omega))
    refine ite_c (fun h_tap => ?_) (fun h_tap => ?_)
    · first | rfl | (exfalso; omega)
    refine ite_c (fun h_byt => ?_) (fun h_byt => ?_)
    · first | rfl | (exfalso; omega)
    refine ite_c (fun h_shs => ?_) (fun h_shs => ?_)
    · first | rfl | (exfalso; omega)
    refine ite_c (fun h_she => ?_) (fun h_she => ?_)
    · first | (rfl; done) | (dsimp only [gP, gS]; unfold va_up; split <;> first | (rfl; done) | (exfalso; omega))
    refine ite_c (fun h_num => ?_) (fun h_num => ?_)
    · first | (rfl; done) | (dsimp only [gP, gS]; unfold va_up; split <;> first | (rfl; done) | (exfalso; omega))
    refine ite_c (fun h_tol => ?_) (fun h_tol => ?_)
    · first | rfl | (exfalso; omega)
    refine ite_c (fun h_mod => ?_) (fun h_mod => ?_)
    · first | rfl | (exfalso; omega)
    refine ite_c (fun h_ms => ?_) (fun h_ms => ?_)
    · first | rfl | (exfalso; omega)
    refine ite_c (fun h_mk => ?_) (fun h_mk => ?_)
    · first | rfl | (exfalso; omega)
    refine ite_c (fun h_mo => ?_) (fun h_mo => ?_)
    · first | rfl | (exfalso; omega)
    refine ite_c (fun h_ma => ?_) (fun h_ma => ?_)
    · first | rfl | (exfalso; omega)
    refine ite_c (fun h_mf => ?_) (fun h_mf => ?_)
    · first | rfl | (exfalso; omega)
    refine ite_c (fun h_mt => ?_) (fun h_mt => ?_)
    · first | rfl | (exfalso; omega)
    refine ite_c (fun h_mb => ?_) (fun h_mb => ?_)
    · first | rfl | (exfalso; omega)
    refine ite_c (fun h_mz => ?_) (fun h_mz => ?_)
    · first | rfl | (exfalso; omega)
    refine ite_c (fun h_nu => ?_) (fun h_nu => ?_)
    · first | rfl | (exfalso; omega)
    refine ite_c (fun h_mv => ?_) (fun h_mv => ?_)
    · first | rfl | (exfalso; omega)
    rfl
set_option maxHeartbeats 1000000 in
theorem u_mv {G : Gl} {K : CS} {ms : Nat → Int32} {mk : Nat → Int32} {mo : Nat → Int32} {ma : Nat → Int32} {mf : Nat → Int32} {ik : Int32} {mt : Nat → Int32} {td : Nat} {fr : Nat} {tt : Nat} {vl : Int32} {wr : Int32} {mb : Nat → Int32} {mz : Nat → Int32} {nu : Nat → Int64} {mv : Nat → Int64} {mv2 : Nat → Int64}  : ∀ j, j < 104 → cel G (K, (ms, mk, mo, ma, mf, ik, mt, td, fr, tt, vl, wr, mb, mz, nu, mv2)) j = if j = 103 then aj (gcJ G) 40 mv2 else cel G (K, (ms, mk, mo, ma, mf, ik, mt, td, fr, tt, vl, wr, mb, mz, nu, mv)) j := by
  intro j hj
  by_cases hjk : j = 103
  · rw [if_pos hjk, hjk]
    exact rfl
  · rw [if_neg hjk]
    unfold cel
    refine ite_c (fun h_obj => ?_) (fun h_obj => ?_)
    · first | rfl | (exfalso; omega)
    refine ite_c (fun h_par => ?_) (fun h_par => ?_)
    · first | (rfl; done) | (dsimp only [gP, gS]; unfold va_up; split <;> first | (rfl; done) | (exfalso; omega))
    refine ite_c (fun h_wea => ?_) (fun h_wea => ?_)
    · first | (rfl; done) | (dsimp only [gP, gS]; unfold va_up; split <;> first | (rfl; done) | (exfalso; omega))
    refine ite_c (fun h_sto => ?_) (fun h_sto => ?_)
    · first | (rfl; done) | (dsimp only [gP, gS]; unfold va_up; split <;> first | (rfl; done) | (exfalso; omega))
    refine ite_c (fun h_rou => ?_) (fun h_rou => ?_)
    · first | (rfl; done) | (dsimp only [gP, gS]; unfold va_up; split <;> first | (rfl; done) | (exfalso; omega))
    refine ite_c (fun h_ews => ?_) (fun h_ews => ?_)
    · first | rfl | (exfalso; omega)
    refine ite_c (fun h_cos => ?_) (fun h_cos => ?_)
    · first | rfl | (exfalso; omega)
    refine ite_c (fun h_coa => ?_) (fun h_coa => ?_)
    · first | (rfl; done) | (dsimp only [gP, gS]; unfold va_up; split <;> first | (rfl; done) | (exfalso; omega))
    refine ite_c (fun h_ewe => ?_) (fun h_ewe => ?_)
    · first | (rfl; done) | (dsimp only [gP, gS]; unfold va_up; split <;> first | (rfl; done) | (exfalso; omega))
    refine ite_c (fun h_fle => ?_) (fun h_fle => ?_)
    · first | (rfl; done) | (dsimp only [gP, gS]; unfold va_up; split <;> first | (rfl; done) | (exfalso; omega))
    refine ite_c (fun h_tap => ?_) (fun h_tap => ?_)
    · first | rfl | (exfalso; omega)
    refine ite_c (fun h_byt => ?_) (fun h_byt => ?_)
    · first | rfl | (exfalso; omega)
    refine ite_c (fun h_shs => ?_) (fun h_shs => ?_)
    · first | rfl | (exfalso; omega)
    refine ite_c (fun h_she => ?_) (fun h_she => ?_)
    · first | (rfl; done) | (dsimp only [gP, gS]; unfold va_up; split <;> first | (rfl; done) | (exfalso; omega))
    refine ite_c (fun h_num => ?_) (fun h_num => ?_)
    · first | (rfl; done) | (dsimp only [gP, gS]; unfold va_up; split <;> first | (rfl; done) | (exfalso; omega))
    refine ite_c (fun h_tol => ?_) (fun h_tol => ?_)
    · first | rfl | (exfalso; omega)
    refine ite_c (fun h_mod => ?_) (fun h_mod => ?_)
    · first | rfl | (exfalso; omega)
    refine ite_c (fun h_ms => ?_) (fun h_ms => ?_)
    · first | rfl | (exfalso; omega)
    refine ite_c (fun h_mk => ?_) (fun h_mk => ?_)
    · first | rfl | (exfalso; omega)
    refine ite_c (fun h_mo => ?_) (fun h_mo => ?_)
    · first | rfl | (exfalso; omega)
    refine ite_c (fun h_ma => ?_) (fun h_ma => ?_)
    · first | rfl | (exfalso; omega)
    refine ite_c (fun h_mf => ?_) (fun h_mf => ?_)
    · first | rfl | (exfalso; omega)
    refine ite_c (fun h_mt => ?_) (fun h_mt => ?_)
    · first | rfl | (exfalso; omega)
    refine ite_c (fun h_mb => ?_) (fun h_mb => ?_)
    · first | rfl | (exfalso; omega)
    refine ite_c (fun h_mz => ?_) (fun h_mz => ?_)
    · first | rfl | (exfalso; omega)
    refine ite_c (fun h_nu => ?_) (fun h_nu => ?_)
    · first | rfl | (exfalso; omega)
    refine ite_c (fun h_mv => ?_) (fun h_mv => ?_)
    · first | rfl | (exfalso; omega)
    rfl
