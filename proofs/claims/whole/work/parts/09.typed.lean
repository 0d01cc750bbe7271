theorem va_up_s {α : Type} (f : Nat → α) (k : Nat) (v : α) : va_up f k v k = v := if_pos rfl
theorem va_up_n {α : Type} {f : Nat → α} {k j : Nat} {v : α} (h : j ≠ k) : va_up f k v j = f j := if_neg h
theorem va_up_i {α : Type} (f : Nat → α) (k : Nat) : va_up f k (f k) = f := by
  funext j
  unfold va_up
  split
  · next h => rw [h]
  · rfl
theorem va_up_c {α : Type} (f : Nat → α) {i j : Nat} (h : i ≠ j) (a b : α) : va_up (va_up f i a) j b = va_up (va_up f j b) i a := by
  funext k
  unfold va_up
  by_cases h1 : k = i
  · subst h1
    rw [if_neg h, if_pos rfl, if_pos rfl]
  · rw [if_neg h1, if_neg h1]
theorem k_par {p : Nat} (h : p < 3) : 1 + p < 104 := by omega
theorem k_wea {p : Nat} (h : p < 3) : 4 + p < 104 := by omega
theorem k_sto {p : Nat} (h : p < 3) : 7 + p < 104 := by omega
theorem k_rou {p : Nat} (h : p < 3) : 10 + p < 104 := by omega
theorem k_ews {p : Nat} (h : p < 3) : 13 + p < 104 := by omega
theorem k_cos {p : Nat} (h : p < 3) : 16 + p < 104 := by omega
theorem k_coa {p c : Nat} (h : p < 3) (hc : c < 4) : 19 + (4 * p + c) < 104 := by omega
theorem k_ewe {p e : Nat} (h : 8 * p + e < 25) : 31 + (8 * p + e) < 104 := by omega
theorem k_fle {p e : Nat} (h : 8 * p + e < 25) : 56 + (8 * p + e) < 104 := by omega
theorem k_she {s : Nat} (h : s < 4) : 84 + s < 104 := by omega
theorem k_num {s : Nat} (h : s < 4) : 88 + s < 104 := by omega
theorem f_par {G : Gl} {par : Nat → Pa} {tp : Tp} {sh : Nat → Sh} {tl : Nat → Int32} {hi : Int32} {M : MS} {p mo sz : Nat} {W S R : Nat → Int32} {C : Nat → Nat → Int32} {E : Nat → Ew} (hp : p < 3) : cel G ((va_up par p (mo, sz, W, S, R, C, E), tp, sh, tl, hi), M) (1 + p) = ob 1 [.int (nI mo), .int (nI sz), .ref (ga G (4 + p)), .ref (ga G (7 + p)), .ref (ga G (10 + p)), .ref (ga G (13 + p)), .ref (ga G (16 + p))] := by
  rw [cel_par G _ hp]
  dsimp only [gP, gS]
  rw [va_up_s]
theorem f_wea {G : Gl} {par : Nat → Pa} {tp : Tp} {sh : Nat → Sh} {tl : Nat → Int32} {hi : Int32} {M : MS} {p mo sz : Nat} {W S R : Nat → Int32} {C : Nat → Nat → Int32} {E : Nat → Ew} (hp : p < 3) : cel G ((va_up par p (mo, sz, W, S, R, C, E), tp, sh, tl, hi), M) (4 + p) = ai (gcI G) 12 W := by
  rw [cel_wea G _ hp]
  dsimp only [gP, gS]
  rw [va_up_s]
theorem f_sto {G : Gl} {par : Nat → Pa} {tp : Tp} {sh : Nat → Sh} {tl : Nat → Int32} {hi : Int32} {M : MS} {p mo sz : Nat} {W S R : Nat → Int32} {C : Nat → Nat → Int32} {E : Nat → Ew} (hp : p < 3) : cel G ((va_up par p (mo, sz, W, S, R, C, E), tp, sh, tl, hi), M) (7 + p) = ai (gcI G) 12 S := by
  rw [cel_sto G _ hp]
  dsimp only [gP, gS]
  rw [va_up_s]
theorem f_rou {G : Gl} {par : Nat → Pa} {tp : Tp} {sh : Nat → Sh} {tl : Nat → Int32} {hi : Int32} {M : MS} {p mo sz : Nat} {W S R : Nat → Int32} {C : Nat → Nat → Int32} {E : Nat → Ew} (hp : p < 3) : cel G ((va_up par p (mo, sz, W, S, R, C, E), tp, sh, tl, hi), M) (10 + p) = ai (gcI G) 12 R := by
  rw [cel_rou G _ hp]
  dsimp only [gP, gS]
  rw [va_up_s]
theorem f_coa {G : Gl} {par : Nat → Pa} {tp : Tp} {sh : Nat → Sh} {tl : Nat → Int32} {hi : Int32} {M : MS} {p mo sz : Nat} {W S R : Nat → Int32} {C : Nat → Nat → Int32} {E : Nat → Ew} {c : Nat} (hp : p < 3) (hc : c < 4) : cel G ((va_up par p (mo, sz, W, S, R, C, E), tp, sh, tl, hi), M) (19 + (4 * p + c)) = ai (gcI G) 12 (C c) := by
  rw [cel_coa G _ hp hc]
  dsimp only [gP, gS]
  rw [va_up_s]
theorem f_ewe {G : Gl} {par : Nat → Pa} {tp : Tp} {sh : Nat → Sh} {tl : Nat → Int32} {hi : Int32} {M : MS} {p mo sz : Nat} {W S R : Nat → Int32} {C : Nat → Nat → Int32} {E : Nat → Ew} {e : Nat} {k f x : Int32} {fl : Nat → Int32} (hp : 8 * p + e < 25) (he : e < 8) : cel G ((va_up par p (mo, sz, W, S, R, C, va_up E e (k, f, x, fl)), tp, sh, tl, hi), M) (31 + (8 * p + e)) = ob 0 [.int k, .int f, .int x, .ref (ga G (56 + (8 * p + e)))] := by
  rw [cel_ewe G _ hp he]
  dsimp only [gP, gS]
  rw [va_up_s, va_up_s]
theorem f_fle {G : Gl} {par : Nat → Pa} {tp : Tp} {sh : Nat → Sh} {tl : Nat → Int32} {hi : Int32} {M : MS} {p mo sz : Nat} {W S R : Nat → Int32} {C : Nat → Nat → Int32} {E : Nat → Ew} {e : Nat} {k f x : Int32} {fl : Nat → Int32} (hp : 8 * p + e < 25) (he : e < 8) : cel G ((va_up par p (mo, sz, W, S, R, C, va_up E e (k, f, x, fl)), tp, sh, tl, hi), M) (56 + (8 * p + e)) = ai (gcI G) 12 fl := by
  rw [cel_fle G _ hp he]
  dsimp only [gP, gS]
  rw [va_up_s, va_up_s]
theorem f_she {G : Gl} {par : Nat → Pa} {tp : Tp} {sh : Nat → Sh} {tl : Nat → Int32} {hi : Int32} {M : MS} {s : Nat} {sn : Nat → Int64} {zz : Nat} {sb : Int32} (hs : s < 4) : cel G ((par, tp, va_up sh s (sn, zz, sb), tl, hi), M) (84 + s) = ob 2 [.ref (ga G (88 + s)), .int (nI zz), .int sb] := by
  rw [cel_she G _ hs]
  dsimp only [gP, gS]
  rw [va_up_s]
theorem f_num {G : Gl} {par : Nat → Pa} {tp : Tp} {sh : Nat → Sh} {tl : Nat → Int32} {hi : Int32} {M : MS} {s : Nat} {sn : Nat → Int64} {zz : Nat} {sb : Int32} (hs : s < 4) : cel G ((par, tp, va_up sh s (sn, zz, sb), tl, hi), M) (88 + s) = aj (gcJ G) 40 sn := by
  rw [cel_num G _ hs]
  dsimp only [gP, gS]
  rw [va_up_s]
set_option maxHeartbeats 1000000 in
theorem u_mo {G : Gl} {par : Nat → Pa} {tp : Tp} {sh : Nat → Sh} {tl : Nat → Int32} {hi : Int32} {M : MS} {p mo sz : Nat} {W S R : Nat → Int32} {C : Nat → Nat → Int32} {E : Nat → Ew} {mo2 : Nat} (hp : p < 3) : ∀ j, j < 104 → cel G ((va_up par p (mo2, sz, W, S, R, C, E), tp, sh, tl, hi), M) j = if j = 1 + p then ob 1 [.int (nI mo2), .int (nI sz), .ref (ga G (4 + p)), .ref (ga G (7 + p)), .ref (ga G (10 + p)), .ref (ga G (13 + p)), .ref (ga G (16 + p))] else cel G ((va_up par p (mo, sz, W, S, R, C, E), tp, sh, tl, hi), M) j := by
  intro j hj
  by_cases hjk : j = 1 + p
  · rw [if_pos hjk, hjk]
    exact f_par hp
  · rw [if_neg hjk]
    unfold cel
    by_cases h_obj : j = 0
    · rw [if_pos h_obj, if_pos h_obj]
      first | rfl | (exfalso; omega)
    rw [if_neg h_obj, if_neg h_obj]
    by_cases h_par : j < 4
    · rw [if_pos h_par, if_pos h_par]
      first | rfl | (dsimp only [gP, gS]; unfold va_up; repeat' split <;> first | rfl | (exfalso; omega)) | (dsimp only [gP, gS]; unfold va_up; split <;> (try split) <;> first | rfl | (exfalso; omega))
    rw [if_neg h_par, if_neg h_par]
    by_cases h_wea : j < 7
    · rw [if_pos h_wea, if_pos h_wea]
      first | rfl | (dsimp only [gP, gS]; unfold va_up; repeat' split <;> first | rfl | (exfalso; omega)) | (dsimp only [gP, gS]; unfold va_up; split <;> (try split) <;> first | rfl | (exfalso; omega))
    rw [if_neg h_wea, if_neg h_wea]
    by_cases h_sto : j < 10
    · rw [if_pos h_sto, if_pos h_sto]
      first | rfl | (dsimp only [gP, gS]; unfold va_up; repeat' split <;> first | rfl | (exfalso; omega)) | (dsimp only [gP, gS]; unfold va_up; split <;> (try split) <;> first | rfl | (exfalso; omega))
    rw [if_neg h_sto, if_neg h_sto]
    by_cases h_rou : j < 13
    · rw [if_pos h_rou, if_pos h_rou]
      first | rfl | (dsimp only [gP, gS]; unfold va_up; repeat' split <;> first | rfl | (exfalso; omega)) | (dsimp only [gP, gS]; unfold va_up; split <;> (try split) <;> first | rfl | (exfalso; omega))
    rw [if_neg h_rou, if_neg h_rou]
    by_cases h_ews : j < 16
    · rw [if_pos h_ews, if_pos h_ews]
      first | rfl | (exfalso; omega)
    rw [if_neg h_ews, if_neg h_ews]
    by_cases h_cos : j < 19
    · rw [if_pos h_cos, if_pos h_cos]
      first | rfl | (exfalso; omega)
    rw [if_neg h_cos, if_neg h_cos]
    by_cases h_coa : j < 31
    · rw [if_pos h_coa, if_pos h_coa]
      first | rfl | (dsimp only [gP, gS]; unfold va_up; repeat' split <;> first | rfl | (exfalso; omega)) | (dsimp only [gP, gS]; unfold va_up; split <;> (try split) <;> first | rfl | (exfalso; omega))
    rw [if_neg h_coa, if_neg h_coa]
    by_cases h_ewe : j < 56
    · rw [if_pos h_ewe, if_pos h_ewe]
      first | rfl | (dsimp only [gP, gS]; unfold va_up; repeat' split <;> first | rfl | (exfalso; omega)) | (dsimp only [gP, gS]; unfold va_up; split <;> (try split) <;> first | rfl | (exfalso; omega))
    rw [if_neg h_ewe, if_neg h_ewe]
    by_cases h_fle : j < 81
    · rw [if_pos h_fle, if_pos h_fle]
      first | rfl | (dsimp only [gP, gS]; unfold va_up; repeat' split <;> first | rfl | (exfalso; omega)) | (dsimp only [gP, gS]; unfold va_up; split <;> (try split) <;> first | rfl | (exfalso; omega))
    rw [if_neg h_fle, if_neg h_fle]
    by_cases h_tap : j = 81
    · rw [if_pos h_tap, if_pos h_tap]
      first | rfl | (exfalso; omega)
    rw [if_neg h_tap, if_neg h_tap]
    by_cases h_byt : j = 82
    · rw [if_pos h_byt, if_pos h_byt]
      first | rfl | (exfalso; omega)
    rw [if_neg h_byt, if_neg h_byt]
    by_cases h_shs : j = 83
    · rw [if_pos h_shs, if_pos h_shs]
      first | rfl | (exfalso; omega)
    rw [if_neg h_shs, if_neg h_shs]
    by_cases h_she : j < 88
    · rw [if_pos h_she, if_pos h_she]
      first | rfl | (dsimp only [gP, gS]; unfold va_up; repeat' split <;> first | rfl | (exfalso; omega)) | (dsimp only [gP, gS]; unfold va_up; split <;> (try split) <;> first | rfl | (exfalso; omega))
    rw [if_neg h_she, if_neg h_she]
    by_cases h_num : j < 92
    · rw [if_pos h_num, if_pos h_num]
      first | rfl | (dsimp only [gP, gS]; unfold va_up; repeat' split <;> first | rfl | (exfalso; omega)) | (dsimp only [gP, gS]; unfold va_up; split <;> (try split) <;> first | rfl | (exfalso; omega))
    rw [if_neg h_num, if_neg h_num]
    by_cases h_tol : j = 92
    · rw [if_pos h_tol, if_pos h_tol]
      first | rfl | (exfalso; omega)
    rw [if_neg h_tol, if_neg h_tol]
    by_cases h_mod : j = 93
    · rw [if_pos h_mod, if_pos h_mod]
      first | rfl | (exfalso; omega)
    rw [if_neg h_mod, if_neg h_mod]
    by_cases h_ms : j = 94
    · rw [if_pos h_ms, if_pos h_ms]
      first | rfl | (exfalso; omega)
    rw [if_neg h_ms, if_neg h_ms]
    by_cases h_mk : j = 95
    · rw [if_pos h_mk, if_pos h_mk]
      first | rfl | (exfalso; omega)
    rw [if_neg h_mk, if_neg h_mk]
    by_cases h_mo : j = 96
    · rw [if_pos h_mo, if_pos h_mo]
      first | rfl | (exfalso; omega)
    rw [if_neg h_mo, if_neg h_mo]
    by_cases h_ma : j = 97
    · rw [if_pos h_ma, if_pos h_ma]
      first | rfl | (exfalso; omega)
    rw [if_neg h_ma, if_neg h_ma]
    by_cases h_mf : j = 98
    · rw [if_pos h_mf, if_pos h_mf]
      first | rfl | (exfalso; omega)
    rw [if_neg h_mf, if_neg h_mf]
    by_cases h_mt : j = 99
    · rw [if_pos h_mt, if_pos h_mt]
      first | rfl | (exfalso; omega)
    rw [if_neg h_mt, if_neg h_mt]
    by_cases h_mb : j = 100
    · rw [if_pos h_mb, if_pos h_mb]
      first | rfl | (exfalso; omega)
    rw [if_neg h_mb, if_neg h_mb]
    by_cases h_mz : j = 101
    · rw [if_pos h_mz, if_pos h_mz]
      first | rfl | (exfalso; omega)
    rw [if_neg h_mz, if_neg h_mz]
    by_cases h_mn : j = 102
    · rw [if_pos h_mn, if_pos h_mn]
      first | rfl | (exfalso; omega)
    rw [if_neg h_mn, if_neg h_mn]
    by_cases h_mv : j = 103
    · rw [if_pos h_mv, if_pos h_mv]
      first | rfl | (exfalso; omega)
    rw [if_neg h_mv, if_neg h_mv]
set_option maxHeartbeats 1000000 in
theorem u_sz {G : Gl} {par : Nat → Pa} {tp : Tp} {sh : Nat → Sh} {tl : Nat → Int32} {hi : Int32} {M : MS} {p mo sz : Nat} {W S R : Nat → Int32} {C : Nat → Nat → Int32} {E : Nat → Ew} {sz2 : Nat} (hp : p < 3) : ∀ j, j < 104 → cel G ((va_up par p (mo, sz2, W, S, R, C, E), tp, sh, tl, hi), M) j = if j = 1 + p then ob 1 [.int (nI mo), .int (nI sz2), .ref (ga G (4 + p)), .ref (ga G (7 + p)), .ref (ga G (10 + p)), .ref (ga G (13 + p)), .ref (ga G (16 + p))] else cel G ((va_up par p (mo, sz, W, S, R, C, E), tp, sh, tl, hi), M) j := by
  intro j hj
  by_cases hjk : j = 1 + p
  · rw [if_pos hjk, hjk]
    exact f_par hp
  · rw [if_neg hjk]
    unfold cel
    by_cases h_obj : j = 0
    · rw [if_pos h_obj, if_pos h_obj]
      first | rfl | (exfalso; omega)
    rw [if_neg h_obj, if_neg h_obj]
    by_cases h_par : j < 4
    · rw [if_pos h_par, if_pos h_par]
      first | rfl | (dsimp only [gP, gS]; unfold va_up; repeat' split <;> first | rfl | (exfalso; omega)) | (dsimp only [gP, gS]; unfold va_up; split <;> (try split) <;> first | rfl | (exfalso; omega))
    rw [if_neg h_par, if_neg h_par]
    by_cases h_wea : j < 7
    · rw [if_pos h_wea, if_pos h_wea]
      first | rfl | (dsimp only [gP, gS]; unfold va_up; repeat' split <;> first | rfl | (exfalso; omega)) | (dsimp only [gP, gS]; unfold va_up; split <;> (try split) <;> first | rfl | (exfalso; omega))
    rw [if_neg h_wea, if_neg h_wea]
    by_cases h_sto : j < 10
    · rw [if_pos h_sto, if_pos h_sto]
      first | rfl | (dsimp only [gP, gS]; unfold va_up; repeat' split <;> first | rfl | (exfalso; omega)) | (dsimp only [gP, gS]; unfold va_up; split <;> (try split) <;> first | rfl | (exfalso; omega))
    rw [if_neg h_sto, if_neg h_sto]
    by_cases h_rou : j < 13
    · rw [if_pos h_rou, if_pos h_rou]
      first | rfl | (dsimp only [gP, gS]; unfold va_up; repeat' split <;> first | rfl | (exfalso; omega)) | (dsimp only [gP, gS]; unfold va_up; split <;> (try split) <;> first | rfl | (exfalso; omega))
    rw [if_neg h_rou, if_neg h_rou]
    by_cases h_ews : j < 16
    · rw [if_pos h_ews, if_pos h_ews]
      first | rfl | (exfalso; omega)
    rw [if_neg h_ews, if_neg h_ews]
    by_cases h_cos : j < 19
    · rw [if_pos h_cos, if_pos h_cos]
      first | rfl | (exfalso; omega)
    rw [if_neg h_cos, if_neg h_cos]
    by_cases h_coa : j < 31
    · rw [if_pos h_coa, if_pos h_coa]
      first | rfl | (dsimp only [gP, gS]; unfold va_up; repeat' split <;> first | rfl | (exfalso; omega)) | (dsimp only [gP, gS]; unfold va_up; split <;> (try split) <;> first | rfl | (exfalso; omega))
    rw [if_neg h_coa, if_neg h_coa]
    by_cases h_ewe : j < 56
    · rw [if_pos h_ewe, if_pos h_ewe]
      first | rfl | (dsimp only [gP, gS]; unfold va_up; repeat' split <;> first | rfl | (exfalso; omega)) | (dsimp only [gP, gS]; unfold va_up; split <;> (try split) <;> first | rfl | (exfalso; omega))
    rw [if_neg h_ewe, if_neg h_ewe]
    by_cases h_fle : j < 81
    · rw [if_pos h_fle, if_pos h_fle]
      first | rfl | (dsimp only [gP, gS]; unfold va_up; repeat' split <;> first | rfl | (exfalso; omega)) | (dsimp only [gP, gS]; unfold va_up; split <;> (try split) <;> first | rfl | (exfalso; omega))
    rw [if_neg h_fle, if_neg h_fle]
    by_cases h_tap : j = 81
    · rw [if_pos h_tap, if_pos h_tap]
      first | rfl | (exfalso; omega)
    rw [if_neg h_tap, if_neg h_tap]
    by_cases h_byt : j = 82
    · rw [if_pos h_byt, if_pos h_byt]
      first | rfl | (exfalso; omega)
    rw [if_neg h_byt, if_neg h_byt]
    by_cases h_shs : j = 83
    · rw [if_pos h_shs, if_pos h_shs]
      first | rfl | (exfalso; omega)
    rw [if_neg h_shs, if_neg h_shs]
    by_cases h_she : j < 88
    · rw [if_pos h_she, if_pos h_she]
      first | rfl | (dsimp only [gP, gS]; unfold va_up; repeat' split <;> first | rfl | (exfalso; omega)) | (dsimp only [gP, gS]; unfold va_up; split <;> (try split) <;> first | rfl | (exfalso; omega))
    rw [if_neg h_she, if_neg h_she]
    by_cases h_num : j < 92
    · rw [if_pos h_num, if_pos h_num]
      first | rfl | (dsimp only [gP, gS]; unfold va_up; repeat' split <;> first | rfl | (exfalso; omega)) | (dsimp only [gP, gS]; unfold va_up; split <;> (try split) <;> first | rfl | (exfalso; omega))
    rw [if_neg h_num, if_neg h_num]
    by_cases h_tol : j = 92
    · rw [if_pos h_tol, if_pos h_tol]
      first | rfl | (exfalso; omega)
    rw [if_neg h_tol, if_neg h_tol]
    by_cases h_mod : j = 93
    · rw [if_pos h_mod, if_pos h_mod]
      first | rfl | (exfalso; omega)
    rw [if_neg h_mod, if_neg h_mod]
    by_cases h_ms : j = 94
    · rw [if_pos h_ms, if_pos h_ms]
      first | rfl | (exfalso; omega)
    rw [if_neg h_ms, if_neg h_ms]
    by_cases h_mk : j = 95
    · rw [if_pos h_mk, if_pos h_mk]
      first | rfl | (exfalso; omega)
    rw [if_neg h_mk, if_neg h_mk]
    by_cases h_mo : j = 96
    · rw [if_pos h_mo, if_pos h_mo]
      first | rfl | (exfalso; omega)
    rw [if_neg h_mo, if_neg h_mo]
    by_cases h_ma : j = 97
    · rw [if_pos h_ma, if_pos h_ma]
      first | rfl | (exfalso; omega)
    rw [if_neg h_ma, if_neg h_ma]
    by_cases h_mf : j = 98
    · rw [if_pos h_mf, if_pos h_mf]
      first | rfl | (exfalso; omega)
    rw [if_neg h_mf, if_neg h_mf]
    by_cases h_mt : j = 99
    · rw [if_pos h_mt, if_pos h_mt]
      first | rfl | (exfalso; omega)
    rw [if_neg h_mt, if_neg h_mt]
    by_cases h_mb : j = 100
    · rw [if_pos h_mb, if_pos h_mb]
      first | rfl | (exfalso; omega)
    rw [if_neg h_mb, if_neg h_mb]
    by_cases h_mz : j = 101
    · rw [if_pos h_mz, if_pos h_mz]
      first | rfl | (exfalso; omega)
    rw [if_neg h_mz, if_neg h_mz]
    by_cases h_mn : j = 102
    · rw [if_pos h_mn, if_pos h_mn]
      first | rfl | (exfalso; omega)
    rw [if_neg h_mn, if_neg h_mn]
    by_cases h_mv : j = 103
    · rw [if_pos h_mv, if_pos h_mv]
      first | rfl | (exfalso; omega)
    rw [if_neg h_mv, if_neg h_mv]
set_option maxHeartbeats 1000000 in
theorem u_W {G : Gl} {par : Nat → Pa} {tp : Tp} {sh : Nat → Sh} {tl : Nat → Int32} {hi : Int32} {M : MS} {p mo sz : Nat} {W S R : Nat → Int32} {C : Nat → Nat → Int32} {E : Nat → Ew} {W2 : Nat → Int32} (hp : p < 3) : ∀ j, j < 104 → cel G ((va_up par p (mo, sz, W2, S, R, C, E), tp, sh, tl, hi), M) j = if j = 4 + p then ai (gcI G) 12 W2 else cel G ((va_up par p (mo, sz, W, S, R, C, E), tp, sh, tl, hi), M) j := by
  intro j hj
  by_cases hjk : j = 4 + p
  · rw [if_pos hjk, hjk]
    exact f_wea hp
  · rw [if_neg hjk]
    unfold cel
    by_cases h_obj : j = 0
    · rw [if_pos h_obj, if_pos h_obj]
      first | rfl | (exfalso; omega)
    rw [if_neg h_obj, if_neg h_obj]
    by_cases h_par : j < 4
    · rw [if_pos h_par, if_pos h_par]
      first | rfl | (dsimp only [gP, gS]; unfold va_up; repeat' split <;> first | rfl | (exfalso; omega)) | (dsimp only [gP, gS]; unfold va_up; split <;> (try split) <;> first | rfl | (exfalso; omega))
    rw [if_neg h_par, if_neg h_par]
    by_cases h_wea : j < 7
    · rw [if_pos h_wea, if_pos h_wea]
      first | rfl | (dsimp only [gP, gS]; unfold va_up; repeat' split <;> first | rfl | (exfalso; omega)) | (dsimp only [gP, gS]; unfold va_up; split <;> (try split) <;> first | rfl | (exfalso; omega))
    rw [if_neg h_wea, if_neg h_wea]
    by_cases h_sto : j < 10
    · rw [if_pos h_sto, if_pos h_sto]
      first | rfl | (dsimp only [gP, gS]; unfold va_up; repeat' split <;> first | rfl | (exfalso; omega)) | (dsimp only [gP, gS]; unfold va_up; split <;> (try split) <;> first | rfl | (exfalso; omega))
    rw [if_neg h_sto, if_neg h_sto]
    by_cases h_rou : j < 13
    · rw [if_pos h_rou, if_pos h_rou]
      first | rfl | (dsimp only [gP, gS]; unfold va_up; repeat' split <;> first | rfl | (exfalso; omega)) | (dsimp only [gP, gS]; unfold va_up; split <;> (try split) <;> first | rfl | (exfalso; omega))
    rw [if_neg h_rou, if_neg h_rou]
    by_cases h_ews : j < 16
    · rw [if_pos h_ews, if_pos h_ews]
      first | rfl | (exfalso; omega)
    rw [if_neg h_ews, if_neg h_ews]
    by_cases h_cos : j < 19
    · rw [if_pos h_cos, if_pos h_cos]
      first | rfl | (exfalso; omega)
    rw [if_neg h_cos, if_neg h_cos]
    by_cases h_coa : j < 31
    · rw [if_pos h_coa, if_pos h_coa]
      first | rfl | (dsimp only [gP, gS]; unfold va_up; repeat' split <;> first | rfl | (exfalso; omega)) | (dsimp only [gP, gS]; unfold va_up; split <;> (try split) <;> first | rfl | (exfalso; omega))
    rw [if_neg h_coa, if_neg h_coa]
    by_cases h_ewe : j < 56
    · rw [if_pos h_ewe, if_pos h_ewe]
      first | rfl | (dsimp only [gP, gS]; unfold va_up; repeat' split <;> first | rfl | (exfalso; omega)) | (dsimp only [gP, gS]; unfold va_up; split <;> (try split) <;> first | rfl | (exfalso; omega))
    rw [if_neg h_ewe, if_neg h_ewe]
    by_cases h_fle : j < 81
    · rw [if_pos h_fle, if_pos h_fle]
      first | rfl | (dsimp only [gP, gS]; unfold va_up; repeat' split <;> first | rfl | (exfalso; omega)) | (dsimp only [gP, gS]; unfold va_up; split <;> (try split) <;> first | rfl | (exfalso; omega))
    rw [if_neg h_fle, if_neg h_fle]
    by_cases h_tap : j = 81
    · rw [if_pos h_tap, if_pos h_tap]
      first | rfl | (exfalso; omega)
    rw [if_neg h_tap, if_neg h_tap]
    by_cases h_byt : j = 82
    · rw [if_pos h_byt, if_pos h_byt]
      first | rfl | (exfalso; omega)
    rw [if_neg h_byt, if_neg h_byt]
    by_cases h_shs : j = 83
    · rw [if_pos h_shs, if_pos h_shs]
      first | rfl | (exfalso; omega)
    rw [if_neg h_shs, if_neg h_shs]
    by_cases h_she : j < 88
    · rw [if_pos h_she, if_pos h_she]
      first | rfl | (dsimp only [gP, gS]; unfold va_up; repeat' split <;> first | rfl | (exfalso; omega)) | (dsimp only [gP, gS]; unfold va_up; split <;> (try split) <;> first | rfl | (exfalso; omega))
    rw [if_neg h_she, if_neg h_she]
    by_cases h_num : j < 92
    · rw [if_pos h_num, if_pos h_num]
      first | rfl | (dsimp only [gP, gS]; unfold va_up; repeat' split <;> first | rfl | (exfalso; omega)) | (dsimp only [gP, gS]; unfold va_up; split <;> (try split) <;> first | rfl | (exfalso; omega))
    rw [if_neg h_num, if_neg h_num]
    by_cases h_tol : j = 92
    · rw [if_pos h_tol, if_pos h_tol]
      first | rfl | (exfalso; omega)
    rw [if_neg h_tol, if_neg h_tol]
    by_cases h_mod : j = 93
    · rw [if_pos h_mod, if_pos h_mod]
      first | rfl | (exfalso; omega)
    rw [if_neg h_mod, if_neg h_mod]
    by_cases h_ms : j = 94
    · rw [if_pos h_ms, if_pos h_ms]
      first | rfl | (exfalso; omega)
    rw [if_neg h_ms, if_neg h_ms]
    by_cases h_mk : j = 95
    · rw [if_pos h_mk, if_pos h_mk]
      first | rfl | (exfalso; omega)
    rw [if_neg h_mk, if_neg h_mk]
    by_cases h_mo : j = 96
    · rw [if_pos h_mo, if_pos h_mo]
      first | rfl | (exfalso; omega)
    rw [if_neg h_mo, if_neg h_mo]
    by_cases h_ma : j = 97
    · rw [if_pos h_ma, if_pos h_ma]
      first | rfl | (exfalso; omega)
    rw [if_neg h_ma, if_neg h_ma]
    by_cases h_mf : j = 98
    · rw [if_pos h_mf, if_pos h_mf]
      first | rfl | (exfalso; omega)
    rw [if_neg h_mf, if_neg h_mf]
    by_cases h_mt : j = 99
    · rw [if_pos h_mt, if_pos h_mt]
      first | rfl | (exfalso; omega)
    rw [if_neg h_mt, if_neg h_mt]
    by_cases h_mb : j = 100
    · rw [if_pos h_mb, if_pos h_mb]
      first | rfl | (exfalso; omega)
    rw [if_neg h_mb, if_neg h_mb]
    by_cases h_mz : j = 101
    · rw [if_pos h_mz, if_pos h_mz]
      first | rfl | (exfalso; omega)
    rw [if_neg h_mz, if_neg h_mz]
    by_cases h_mn : j = 102
    · rw [if_pos h_mn, if_pos h_mn]
      first | rfl | (exfalso; omega)
    rw [if_neg h_mn, if_neg h_mn]
    by_cases h_mv : j = 103
    · rw [if_pos h_mv, if_pos h_mv]
      first | rfl | (exfalso; omega)
    rw [if_neg h_mv, if_neg h_mv]
set_option maxHeartbeats 1000000 in
theorem u_S {G : Gl} {par : Nat → Pa} {tp : Tp} {sh : Nat → Sh} {tl : Nat → Int32} {hi : Int32} {M : MS} {p mo sz : Nat} {W S R : Nat → Int32} {C : Nat → Nat → Int32} {E : Nat → Ew} {S2 : Nat → Int32} (hp : p < 3) : ∀ j, j < 104 → cel G ((va_up par p (mo, sz, W, S2, R, C, E), tp, sh, tl, hi), M) j = if j = 7 + p then ai (gcI G) 12 S2 else cel G ((va_up par p (mo, sz, W, S, R, C, E), tp, sh, tl, hi), M) j := by
  intro j hj
  by_cases hjk : j = 7 + p
  · rw [if_pos hjk, hjk]
    exact f_sto hp
  · rw [if_neg hjk]
    unfold cel
    by_cases h_obj : j = 0
    · rw [if_pos h_obj, if_pos h_obj]
      first | rfl | (exfalso; omega)
    rw [if_neg h_obj, if_neg h_obj]
    by_cases h_par : j < 4
    · rw [if_pos h_par, if_pos h_par]
      first | rfl | (dsimp only [gP, gS]; unfold va_up; repeat' split <;> first | rfl | (exfalso; omega)) | (dsimp only [gP, gS]; unfold va_up; split <;> (try split) <;> first | rfl | (exfalso; omega))
    rw [if_neg h_par, if_neg h_par]
    by_cases h_wea : j < 7
    · rw [if_pos h_wea, if_pos h_wea]
      first | rfl | (dsimp only [gP, gS]; unfold va_up; repeat' split <;> first | rfl | (exfalso; omega)) | (dsimp only [gP, gS]; unfold va_up; split <;> (try split) <;> first | rfl | (exfalso; omega))
    rw [if_neg h_wea, if_neg h_wea]
    by_cases h_sto : j < 10
    · rw [if_pos h_sto, if_pos h_sto]
      first | rfl | (dsimp only [gP, gS]; unfold va_up; repeat' split <;> first | rfl | (exfalso; omega)) | (dsimp only [gP, gS]; unfold va_up; split <;> (try split) <;> first | rfl | (exfalso; omega))
    rw [if_neg h_sto, if_neg h_sto]
    by_cases h_rou : j < 13
    · rw [if_pos h_rou, if_pos h_rou]
      first | rfl | (dsimp only [gP, gS]; unfold va_up; repeat' split <;> first | rfl | (exfalso; omega)) | (dsimp only [gP, gS]; unfold va_up; split <;> (try split) <;> first | rfl | (exfalso; omega))
    rw [if_neg h_rou, if_neg h_rou]
    by_cases h_ews : j < 16
    · rw [if_pos h_ews, if_pos h_ews]
      first | rfl | (exfalso; omega)
    rw [if_neg h_ews, if_neg h_ews]
    by_cases h_cos : j < 19
    · rw [if_pos h_cos, if_pos h_cos]
      first | rfl | (exfalso; omega)
    rw [if_neg h_cos, if_neg h_cos]
    by_cases h_coa : j < 31
    · rw [if_pos h_coa, if_pos h_coa]
      first | rfl | (dsimp only [gP, gS]; unfold va_up; repeat' split <;> first | rfl | (exfalso; omega)) | (dsimp only [gP, gS]; unfold va_up; split <;> (try split) <;> first | rfl | (exfalso; omega))
    rw [if_neg h_coa, if_neg h_coa]
    by_cases h_ewe : j < 56
    · rw [if_pos h_ewe, if_pos h_ewe]
      first | rfl | (dsimp only [gP, gS]; unfold va_up; repeat' split <;> first | rfl | (exfalso; omega)) | (dsimp only [gP, gS]; unfold va_up; split <;> (try split) <;> first | rfl | (exfalso; omega))
    rw [if_neg h_ewe, if_neg h_ewe]
    by_cases h_fle : j < 81
    · rw [if_pos h_fle, if_pos h_fle]
      first | rfl | (dsimp only [gP, gS]; unfold va_up; repeat' split <;> first | rfl | (exfalso; omega)) | (dsimp only [gP, gS]; unfold va_up; split <;> (try split) <;> first | rfl | (exfalso; omega))
    rw [if_neg h_fle, if_neg h_fle]
    by_cases h_tap : j = 81
    · rw [if_pos h_tap, if_pos h_tap]
      first | rfl | (exfalso; omega)
    rw [if_neg h_tap, if_neg h_tap]
    by_cases h_byt : j = 82
    · rw [if_pos h_byt, if_pos h_byt]
      first | rfl | (exfalso; omega)
    rw [if_neg h_byt, if_neg h_byt]
    by_cases h_shs : j = 83
    · rw [if_pos h_shs, if_pos h_shs]
      first | rfl | (exfalso; omega)
    rw [if_neg h_shs, if_neg h_shs]
    by_cases h_she : j < 88
    · rw [if_pos h_she, if_pos h_she]
      first | rfl | (dsimp only [gP, gS]; unfold va_up; repeat' split <;> first | rfl | (exfalso; omega)) | (dsimp only [gP, gS]; unfold va_up; split <;> (try split) <;> first | rfl | (exfalso; omega))
    rw [if_neg h_she, if_neg h_she]
    by_cases h_num : j < 92
    · rw [if_pos h_num, if_pos h_num]
      first | rfl | (dsimp only [gP, gS]; unfold va_up; repeat' split <;> first | rfl | (exfalso; omega)) | (dsimp only [gP, gS]; unfold va_up; split <;> (try split) <;> first | rfl | (exfalso; omega))
    rw [if_neg h_num, if_neg h_num]
    by_cases h_tol : j = 92
    · rw [if_pos h_tol, if_pos h_tol]
      first | rfl | (exfalso; omega)
    rw [if_neg h_tol, if_neg h_tol]
    by_cases h_mod : j = 93
    · rw [if_pos h_mod, if_pos h_mod]
      first | rfl | (exfalso; omega)
    rw [if_neg h_mod, if_neg h_mod]
    by_cases h_ms : j = 94
    · rw [if_pos h_ms, if_pos h_ms]
      first | rfl | (exfalso; omega)
    rw [if_neg h_ms, if_neg h_ms]
    by_cases h_mk : j = 95
    · rw [if_pos h_mk, if_pos h_mk]
      first | rfl | (exfalso; omega)
    rw [if_neg h_mk, if_neg h_mk]
    by_cases h_mo : j = 96
    · rw [if_pos h_mo, if_pos h_mo]
      first | rfl | (exfalso; omega)
    rw [if_neg h_mo, if_neg h_mo]
    by_cases h_ma : j = 97
    · rw [if_pos h_ma, if_pos h_ma]
      first | rfl | (exfalso; omega)
    rw [if_neg h_ma, if_neg h_ma]
    by_cases h_mf : j = 98
    · rw [if_pos h_mf, if_pos h_mf]
      first | rfl | (exfalso; omega)
    rw [if_neg h_mf, if_neg h_mf]
    by_cases h_mt : j = 99
    · rw [if_pos h_mt, if_pos h_mt]
      first | rfl | (exfalso; omega)
    rw [if_neg h_mt, if_neg h_mt]
    by_cases h_mb : j = 100
    · rw [if_pos h_mb, if_pos h_mb]
      first | rfl | (exfalso; omega)
    rw [if_neg h_mb, if_neg h_mb]
    by_cases h_mz : j = 101
    · rw [if_pos h_mz, if_pos h_mz]
      first | rfl | (exfalso; omega)
    rw [if_neg h_mz, if_neg h_mz]
    by_cases h_mn : j = 102
    · rw [if_pos h_mn, if_pos h_mn]
      first | rfl | (exfalso; omega)
    rw [if_neg h_mn, if_neg h_mn]
    by_cases h_mv : j = 103
    · rw [if_pos h_mv, if_pos h_mv]
      first | rfl | (exfalso; omega)
    rw [if_neg h_mv, if_neg h_mv]
set_option maxHeartbeats 1000000 in
theorem u_R {G : Gl} {par : Nat → Pa} {tp : Tp} {sh : Nat → Sh} {tl : Nat → Int32} {hi : Int32} {M : MS} {p mo sz : Nat} {W S R : Nat → Int32} {C : Nat → Nat → Int32} {E : Nat → Ew} {R2 : Nat → Int32} (hp : p < 3) : ∀ j, j < 104 → cel G ((va_up par p (mo, sz, W, S, R2, C, E), tp, sh, tl, hi), M) j = if j = 10 + p then ai (gcI G) 12 R2 else cel G ((va_up par p (mo, sz, W, S, R, C, E), tp, sh, tl, hi), M) j := by
  intro j hj
  by_cases hjk : j = 10 + p
  · rw [if_pos hjk, hjk]
    exact f_rou hp
  · rw [if_neg hjk]
    unfold cel
    by_cases h_obj : j = 0
    · rw [if_pos h_obj, if_pos h_obj]
      first | rfl | (exfalso; omega)
    rw [if_neg h_obj, if_neg h_obj]
    by_cases h_par : j < 4
    · rw [if_pos h_par, if_pos h_par]
      first | rfl | (dsimp only [gP, gS]; unfold va_up; repeat' split <;> first | rfl | (exfalso; omega)) | (dsimp only [gP, gS]; unfold va_up; split <;> (try split) <;> first | rfl | (exfalso; omega))
    rw [if_neg h_par, if_neg h_par]
    by_cases h_wea : j < 7
    · rw [if_pos h_wea, if_pos h_wea]
      first | rfl | (dsimp only [gP, gS]; unfold va_up; repeat' split <;> first | rfl | (exfalso; omega)) | (dsimp only [gP, gS]; unfold va_up; split <;> (try split) <;> first | rfl | (exfalso; omega))
    rw [if_neg h_wea, if_neg h_wea]
    by_cases h_sto : j < 10
    · rw [if_pos h_sto, if_pos h_sto]
      first | rfl | (dsimp only [gP, gS]; unfold va_up; repeat' split <;> first | rfl | (exfalso; omega)) | (dsimp only [gP, gS]; unfold va_up; split <;> (try split) <;> first | rfl | (exfalso; omega))
    rw [if_neg h_sto, if_neg h_sto]
    by_cases h_rou : j < 13
    · rw [if_pos h_rou, if_pos h_rou]
      first | rfl | (dsimp only [gP, gS]; unfold va_up; repeat' split <;> first | rfl | (exfalso; omega)) | (dsimp only [gP, gS]; unfold va_up; split <;> (try split) <;> first | rfl | (exfalso; omega))
    rw [if_neg h_rou, if_neg h_rou]
    by_cases h_ews : j < 16
    · rw [if_pos h_ews, if_pos h_ews]
      first | rfl | (exfalso; omega)
    rw [if_neg h_ews, if_neg h_ews]
    by_cases h_cos : j < 19
    · rw [if_pos h_cos, if_pos h_cos]
      first | rfl | (exfalso; omega)
    rw [if_neg h_cos, if_neg h_cos]
    by_cases h_coa : j < 31
    · rw [if_pos h_coa, if_pos h_coa]
      first | rfl | (dsimp only [gP, gS]; unfold va_up; repeat' split <;> first | rfl | (exfalso; omega)) | (dsimp only [gP, gS]; unfold va_up; split <;> (try split) <;> first | rfl | (exfalso; omega))
    rw [if_neg h_coa, if_neg h_coa]
    by_cases h_ewe : j < 56
    · rw [if_pos h_ewe, if_pos h_ewe]
      first | rfl | (dsimp only [gP, gS]; unfold va_up; repeat' split <;> first | rfl | (exfalso; omega)) | (dsimp only [gP, gS]; unfold va_up; split <;> (try split) <;> first | rfl | (exfalso; omega))
    rw [if_neg h_ewe, if_neg h_ewe]
    by_cases h_fle : j < 81
    · rw [if_pos h_fle, if_pos h_fle]
      first | rfl | (dsimp only [gP, gS]; unfold va_up; repeat' split <;> first | rfl | (exfalso; omega)) | (dsimp only [gP, gS]; unfold va_up; split <;> (try split) <;> first | rfl | (exfalso; omega))
    rw [if_neg h_fle, if_neg h_fle]
    by_cases h_tap : j = 81
    · rw [if_pos h_tap, if_pos h_tap]
      first | rfl | (exfalso; omega)
    rw [if_neg h_tap, if_neg h_tap]
    by_cases h_byt : j = 82
    · rw [if_pos h_byt, if_pos h_byt]
      first | rfl | (exfalso; omega)
    rw [if_neg h_byt, if_neg h_byt]
    by_cases h_shs : j = 83
    · rw [if_pos h_shs, if_pos h_shs]
      first | rfl | (exfalso; omega)
    rw [if_neg h_shs, if_neg h_shs]
    by_cases h_she : j < 88
    · rw [if_pos h_she, if_pos h_she]
      first | rfl | (dsimp only [gP, gS]; unfold va_up; repeat' split <;> first | rfl | (exfalso; omega)) | (dsimp only [gP, gS]; unfold va_up; split <;> (try split) <;> first | rfl | (exfalso; omega))
    rw [if_neg h_she, if_neg h_she]
    by_cases h_num : j < 92
    · rw [if_pos h_num, if_pos h_num]
      first | rfl | (dsimp only [gP, gS]; unfold va_up; repeat' split <;> first | rfl | (exfalso; omega)) | (dsimp only [gP, gS]; unfold va_up; split <;> (try split) <;> first | rfl | (exfalso; omega))
    rw [if_neg h_num, if_neg h_num]
    by_cases h_tol : j = 92
    · rw [if_pos h_tol, if_pos h_tol]
      first | rfl | (exfalso; omega)
    rw [if_neg h_tol, if_neg h_tol]
    by_cases h_mod : j = 93
    · rw [if_pos h_mod, if_pos h_mod]
      first | rfl | (exfalso; omega)
    rw [if_neg h_mod, if_neg h_mod]
    by_cases h_ms : j = 94
    · rw [if_pos h_ms, if_pos h_ms]
      first | rfl | (exfalso; omega)
    rw [if_neg h_ms, if_neg h_ms]
    by_cases h_mk : j = 95
    · rw [if_pos h_mk, if_pos h_mk]
      first | rfl | (exfalso; omega)
    rw [if_neg h_mk, if_neg h_mk]
    by_cases h_mo : j = 96
    · rw [if_pos h_mo, if_pos h_mo]
      first | rfl | (exfalso; omega)
    rw [if_neg h_mo, if_neg h_mo]
    by_cases h_ma : j = 97
    · rw [if_pos h_ma, if_pos h_ma]
      first | rfl | (exfalso; omega)
    rw [if_neg h_ma, if_neg h_ma]
    by_cases h_mf : j = 98
    · rw [if_pos h_mf, if_pos h_mf]
      first | rfl | (exfalso; omega)
    rw [if_neg h_mf, if_neg h_mf]
    by_cases h_mt : j = 99
    · rw [if_pos h_mt, if_pos h_mt]
      first | rfl | (exfalso; omega)
    rw [if_neg h_mt, if_neg h_mt]
    by_cases h_mb : j = 100
    · rw [if_pos h_mb, if_pos h_mb]
      first | rfl | (exfalso; omega)
    rw [if_neg h_mb, if_neg h_mb]
    by_cases h_mz : j = 101
    · rw [if_pos h_mz, if_pos h_mz]
      first | rfl | (exfalso; omega)
    rw [if_neg h_mz, if_neg h_mz]
    by_cases h_mn : j = 102
    · rw [if_pos h_mn, if_pos h_mn]
      first | rfl | (exfalso; omega)
    rw [if_neg h_mn, if_neg h_mn]
    by_cases h_mv : j = 103
    · rw [if_pos h_mv, if_pos h_mv]
      first | rfl | (exfalso; omega)
    rw [if_neg h_mv, if_neg h_mv]
set_option maxHeartbeats 1000000 in
theorem u_C {G : Gl} {par : Nat → Pa} {tp : Tp} {sh : Nat → Sh} {tl : Nat → Int32} {hi : Int32} {M : MS} {p mo sz : Nat} {W S R : Nat → Int32} {C : Nat → Nat → Int32} {E : Nat → Ew} {c : Nat} {D2 : Nat → Int32} (hp : p < 3) (hc : c < 4) : ∀ j, j < 104 → cel G ((va_up par p (mo, sz, W, S, R, va_up C c D2, E), tp, sh, tl, hi), M) j = if j = 19 + (4 * p + c) then ai (gcI G) 12 D2 else cel G ((va_up par p (mo, sz, W, S, R, C, E), tp, sh, tl, hi), M) j := by
  intro j hj
  by_cases hjk : j = 19 + (4 * p + c)
  · rw [if_pos hjk, hjk]
    exact (f_coa hp hc).trans (by rw [va_up_s])
  · rw [if_neg hjk]
    unfold cel
    by_cases h_obj : j = 0
    · rw [if_pos h_obj, if_pos h_obj]
      first | rfl | (exfalso; omega)
    rw [if_neg h_obj, if_neg h_obj]
    by_cases h_par : j < 4
    · rw [if_pos h_par, if_pos h_par]
      first | rfl | (dsimp only [gP, gS]; unfold va_up; repeat' split <;> first | rfl | (exfalso; omega)) | (dsimp only [gP, gS]; unfold va_up; split <;> (try split) <;> first | rfl | (exfalso; omega))
    rw [if_neg h_par, if_neg h_par]
    by_cases h_wea : j < 7
    · rw [if_pos h_wea, if_pos h_wea]
      first | rfl | (dsimp only [gP, gS]; unfold va_up; repeat' split <;> first | rfl | (exfalso; omega)) | (dsimp only [gP, gS]; unfold va_up; split <;> (try split) <;> first | rfl | (exfalso; omega))
    rw [if_neg h_wea, if_neg h_wea]
    by_cases h_sto : j < 10
    · rw [if_pos h_sto, if_pos h_sto]
      first | rfl | (dsimp only [gP, gS]; unfold va_up; repeat' split <;> first | rfl | (exfalso; omega)) | (dsimp only [gP, gS]; unfold va_up; split <;> (try split) <;> first | rfl | (exfalso; omega))
    rw [if_neg h_sto, if_neg h_sto]
    by_cases h_rou : j < 13
    · rw [if_pos h_rou, if_pos h_rou]
      first | rfl | (dsimp only [gP, gS]; unfold va_up; repeat' split <;> first | rfl | (exfalso; omega)) | (dsimp only [gP, gS]; unfold va_up; split <;> (try split) <;> first | rfl | (exfalso; omega))
    rw [if_neg h_rou, if_neg h_rou]
    by_cases h_ews : j < 16
    · rw [if_pos h_ews, if_pos h_ews]
      first | rfl | (exfalso; omega)
    rw [if_neg h_ews, if_neg h_ews]
    by_cases h_cos : j < 19
    · rw [if_pos h_cos, if_pos h_cos]
      first | rfl | (exfalso; omega)
    rw [if_neg h_cos, if_neg h_cos]
    by_cases h_coa : j < 31
    · rw [if_pos h_coa, if_pos h_coa]
      first | rfl | (dsimp only [gP, gS]; unfold va_up; repeat' split <;> first | rfl | (exfalso; omega)) | (dsimp only [gP, gS]; unfold va_up; split <;> (try split) <;> first | rfl | (exfalso; omega))
    rw [if_neg h_coa, if_neg h_coa]
    by_cases h_ewe : j < 56
    · rw [if_pos h_ewe, if_pos h_ewe]
      first | rfl | (dsimp only [gP, gS]; unfold va_up; repeat' split <;> first | rfl | (exfalso; omega)) | (dsimp only [gP, gS]; unfold va_up; split <;> (try split) <;> first | rfl | (exfalso; omega))
    rw [if_neg h_ewe, if_neg h_ewe]
    by_cases h_fle : j < 81
    · rw [if_pos h_fle, if_pos h_fle]
      first | rfl | (dsimp only [gP, gS]; unfold va_up; repeat' split <;> first | rfl | (exfalso; omega)) | (dsimp only [gP, gS]; unfold va_up; split <;> (try split) <;> first | rfl | (exfalso; omega))
    rw [if_neg h_fle, if_neg h_fle]
    by_cases h_tap : j = 81
    · rw [if_pos h_tap, if_pos h_tap]
      first | rfl | (exfalso; omega)
    rw [if_neg h_tap, if_neg h_tap]
    by_cases h_byt : j = 82
    · rw [if_pos h_byt, if_pos h_byt]
      first | rfl | (exfalso; omega)
    rw [if_neg h_byt, if_neg h_byt]
    by_cases h_shs : j = 83
    · rw [if_pos h_shs, if_pos h_shs]
      first | rfl | (exfalso; omega)
    rw [if_neg h_shs, if_neg h_shs]
    by_cases h_she : j < 88
    · rw [if_pos h_she, if_pos h_she]
      first | rfl | (dsimp only [gP, gS]; unfold va_up; repeat' split <;> first | rfl | (exfalso; omega)) | (dsimp only [gP, gS]; unfold va_up; split <;> (try split) <;> first | rfl | (exfalso; omega))
    rw [if_neg h_she, if_neg h_she]
    by_cases h_num : j < 92
    · rw [if_pos h_num, if_pos h_num]
      first | rfl | (dsimp only [gP, gS]; unfold va_up; repeat' split <;> first | rfl | (exfalso; omega)) | (dsimp only [gP, gS]; unfold va_up; split <;> (try split) <;> first | rfl | (exfalso; omega))
    rw [if_neg h_num, if_neg h_num]
    by_cases h_tol : j = 92
    · rw [if_pos h_tol, if_pos h_tol]
      first | rfl | (exfalso; omega)
    rw [if_neg h_tol, if_neg h_tol]
    by_cases h_mod : j = 93
    · rw [if_pos h_mod, if_pos h_mod]
      first | rfl | (exfalso; omega)
    rw [if_neg h_mod, if_neg h_mod]
    by_cases h_ms : j = 94
    · rw [if_pos h_ms, if_pos h_ms]
      first | rfl | (exfalso; omega)
    rw [if_neg h_ms, if_neg h_ms]
    by_cases h_mk : j = 95
    · rw [if_pos h_mk, if_pos h_mk]
      first | rfl | (exfalso; omega)
    rw [if_neg h_mk, if_neg h_mk]
    by_cases h_mo : j = 96
    · rw [if_pos h_mo, if_pos h_mo]
      first | rfl | (exfalso; omega)
    rw [if_neg h_mo, if_neg h_mo]
    by_cases h_ma : j = 97
    · rw [if_pos h_ma, if_pos h_ma]
      first | rfl | (exfalso; omega)
    rw [if_neg h_ma, if_neg h_ma]
    by_cases h_mf : j = 98
    · rw [if_pos h_mf, if_pos h_mf]
      first | rfl | (exfalso; omega)
    rw [if_neg h_mf, if_neg h_mf]
    by_cases h_mt : j = 99
    · rw [if_pos h_mt, if_pos h_mt]
      first | rfl | (exfalso; omega)
    rw [if_neg h_mt, if_neg h_mt]
    by_cases h_mb : j = 100
    · rw [if_pos h_mb, if_pos h_mb]
      first | rfl | (exfalso; omega)
    rw [if_neg h_mb, if_neg h_mb]
    by_cases h_mz : j = 101
    · rw [if_pos h_mz, if_pos h_mz]
      first | rfl | (exfalso; omega)
    rw [if_neg h_mz, if_neg h_mz]
    by_cases h_mn : j = 102
    · rw [if_pos h_mn, if_pos h_mn]
      first | rfl | (exfalso; omega)
    rw [if_neg h_mn, if_neg h_mn]
    by_cases h_mv : j = 103
    · rw [if_pos h_mv, if_pos h_mv]
      first | rfl | (exfalso; omega)
    rw [if_neg h_mv, if_neg h_mv]
set_option maxHeartbeats 1000000 in
theorem u_E {G : Gl} {par : Nat → Pa} {tp : Tp} {sh : Nat → Sh} {tl : Nat → Int32} {hi : Int32} {M : MS} {p mo sz : Nat} {W S R : Nat → Int32} {C : Nat → Nat → Int32} {E : Nat → Ew} {e : Nat} {k f x k2 f2 x2 : Int32} {fl : Nat → Int32} (hp : 8 * p + e < 25) (he : e < 8) : ∀ j, j < 104 → cel G ((va_up par p (mo, sz, W, S, R, C, va_up E e (k2, f2, x2, fl)), tp, sh, tl, hi), M) j = if j = 31 + (8 * p + e) then ob 0 [.int k2, .int f2, .int x2, .ref (ga G (56 + (8 * p + e)))] else cel G ((va_up par p (mo, sz, W, S, R, C, va_up E e (k, f, x, fl)), tp, sh, tl, hi), M) j := by
  intro j hj
  by_cases hjk : j = 31 + (8 * p + e)
  · rw [if_pos hjk, hjk]
    exact f_ewe hp he
  · rw [if_neg hjk]
    unfold cel
    by_cases h_obj : j = 0
    · rw [if_pos h_obj, if_pos h_obj]
      first | rfl | (exfalso; omega)
    rw [if_neg h_obj, if_neg h_obj]
    by_cases h_par : j < 4
    · rw [if_pos h_par, if_pos h_par]
      first | rfl | (dsimp only [gP, gS]; unfold va_up; repeat' split <;> first | rfl | (exfalso; omega)) | (dsimp only [gP, gS]; unfold va_up; split <;> (try split) <;> first | rfl | (exfalso; omega))
    rw [if_neg h_par, if_neg h_par]
    by_cases h_wea : j < 7
    · rw [if_pos h_wea, if_pos h_wea]
      first | rfl | (dsimp only [gP, gS]; unfold va_up; repeat' split <;> first | rfl | (exfalso; omega)) | (dsimp only [gP, gS]; unfold va_up; split <;> (try split) <;> first | rfl | (exfalso; omega))
    rw [if_neg h_wea, if_neg h_wea]
    by_cases h_sto : j < 10
    · rw [if_pos h_sto, if_pos h_sto]
      first | rfl | (dsimp only [gP, gS]; unfold va_up; repeat' split <;> first | rfl | (exfalso; omega)) | (dsimp only [gP, gS]; unfold va_up; split <;> (try split) <;> first | rfl | (exfalso; omega))
    rw [if_neg h_sto, if_neg h_sto]
    by_cases h_rou : j < 13
    · rw [if_pos h_rou, if_pos h_rou]
      first | rfl | (dsimp only [gP, gS]; unfold va_up; repeat' split <;> first | rfl | (exfalso; omega)) | (dsimp only [gP, gS]; unfold va_up; split <;> (try split) <;> first | rfl | (exfalso; omega))
    rw [if_neg h_rou, if_neg h_rou]
    by_cases h_ews : j < 16
    · rw [if_pos h_ews, if_pos h_ews]
      first | rfl | (exfalso; omega)
    rw [if_neg h_ews, if_neg h_ews]
    by_cases h_cos : j < 19
    · rw [if_pos h_cos, if_pos h_cos]
      first | rfl | (exfalso; omega)
    rw [if_neg h_cos, if_neg h_cos]
    by_cases h_coa : j < 31
    · rw [if_pos h_coa, if_pos h_coa]
      first | rfl | (dsimp only [gP, gS]; unfold va_up; repeat' split <;> first | rfl | (exfalso; omega)) | (dsimp only [gP, gS]; unfold va_up; split <;> (try split) <;> first | rfl | (exfalso; omega))
    rw [if_neg h_coa, if_neg h_coa]
    by_cases h_ewe : j < 56
    · rw [if_pos h_ewe, if_pos h_ewe]
      first | rfl | (dsimp only [gP, gS]; unfold va_up; repeat' split <;> first | rfl | (exfalso; omega)) | (dsimp only [gP, gS]; unfold va_up; split <;> (try split) <;> first | rfl | (exfalso; omega))
    rw [if_neg h_ewe, if_neg h_ewe]
    by_cases h_fle : j < 81
    · rw [if_pos h_fle, if_pos h_fle]
      first | rfl | (dsimp only [gP, gS]; unfold va_up; repeat' split <;> first | rfl | (exfalso; omega)) | (dsimp only [gP, gS]; unfold va_up; split <;> (try split) <;> first | rfl | (exfalso; omega))
    rw [if_neg h_fle, if_neg h_fle]
    by_cases h_tap : j = 81
    · rw [if_pos h_tap, if_pos h_tap]
      first | rfl | (exfalso; omega)
    rw [if_neg h_tap, if_neg h_tap]
    by_cases h_byt : j = 82
    · rw [if_pos h_byt, if_pos h_byt]
      first | rfl | (exfalso; omega)
    rw [if_neg h_byt, if_neg h_byt]
    by_cases h_shs : j = 83
    · rw [if_pos h_shs, if_pos h_shs]
      first | rfl | (exfalso; omega)
    rw [if_neg h_shs, if_neg h_shs]
    by_cases h_she : j < 88
    · rw [if_pos h_she, if_pos h_she]
      first | rfl | (dsimp only [gP, gS]; unfold va_up; repeat' split <;> first | rfl | (exfalso; omega)) | (dsimp only [gP, gS]; unfold va_up; split <;> (try split) <;> first | rfl | (exfalso; omega))
    rw [if_neg h_she, if_neg h_she]
    by_cases h_num : j < 92
    · rw [if_pos h_num, if_pos h_num]
      first | rfl | (dsimp only [gP, gS]; unfold va_up; repeat' split <;> first | rfl | (exfalso; omega)) | (dsimp only [gP, gS]; unfold va_up; split <;> (try split) <;> first | rfl | (exfalso; omega))
    rw [if_neg h_num, if_neg h_num]
    by_cases h_tol : j = 92
    · rw [if_pos h_tol, if_pos h_tol]
      first | rfl | (exfalso; omega)
    rw [if_neg h_tol, if_neg h_tol]
    by_cases h_mod : j = 93
    · rw [if_pos h_mod, if_pos h_mod]
      first | rfl | (exfalso; omega)
    rw [if_neg h_mod, if_neg h_mod]
    by_cases h_ms : j = 94
    · rw [if_pos h_ms, if_pos h_ms]
      first | rfl | (exfalso; omega)
    rw [if_neg h_ms, if_neg h_ms]
    by_cases h_mk : j = 95
    · rw [if_pos h_mk, if_pos h_mk]
      first | rfl | (exfalso; omega)
    rw [if_neg h_mk, if_neg h_mk]
    by_cases h_mo : j = 96
    · rw [if_pos h_mo, if_pos h_mo]
      first | rfl | (exfalso; omega)
    rw [if_neg h_mo, if_neg h_mo]
    by_cases h_ma : j = 97
    · rw [if_pos h_ma, if_pos h_ma]
      first | rfl | (exfalso; omega)
    rw [if_neg h_ma, if_neg h_ma]
    by_cases h_mf : j = 98
    · rw [if_pos h_mf, if_pos h_mf]
      first | rfl | (exfalso; omega)
    rw [if_neg h_mf, if_neg h_mf]
    by_cases h_mt : j = 99
    · rw [if_pos h_mt, if_pos h_mt]
      first | rfl | (exfalso; omega)
    rw [if_neg h_mt, if_neg h_mt]
    by_cases h_mb : j = 100
    · rw [if_pos h_mb, if_pos h_mb]
      first | rfl | (exfalso; omega)
    rw [if_neg h_mb, if_neg h_mb]
    by_cases h_mz : j = 101
    · rw [if_pos h_mz, if_pos h_mz]
      first | rfl | (exfalso; omega)
    rw [if_neg h_mz, if_neg h_mz]
    by_cases h_mn : j = 102
    · rw [if_pos h_mn, if_pos h_mn]
      first | rfl | (exfalso; omega)
    rw [if_neg h_mn, if_neg h_mn]
    by_cases h_mv : j = 103
    · rw [if_pos h_mv, if_pos h_mv]
      first | rfl | (exfalso; omega)
    rw [if_neg h_mv, if_neg h_mv]
set_option maxHeartbeats 1000000 in
theorem u_fl {G : Gl} {par : Nat → Pa} {tp : Tp} {sh : Nat → Sh} {tl : Nat → Int32} {hi : Int32} {M : MS} {p mo sz : Nat} {W S R : Nat → Int32} {C : Nat → Nat → Int32} {E : Nat → Ew} {e : Nat} {k f x : Int32} {fl fl2 : Nat → Int32} (hp : 8 * p + e < 25) (he : e < 8) : ∀ j, j < 104 → cel G ((va_up par p (mo, sz, W, S, R, C, va_up E e (k, f, x, fl2)), tp, sh, tl, hi), M) j = if j = 56 + (8 * p + e) then ai (gcI G) 12 fl2 else cel G ((va_up par p (mo, sz, W, S, R, C, va_up E e (k, f, x, fl)), tp, sh, tl, hi), M) j := by
  intro j hj
  by_cases hjk : j = 56 + (8 * p + e)
  · rw [if_pos hjk, hjk]
    exact f_fle hp he
  · rw [if_neg hjk]
    unfold cel
    by_cases h_obj : j = 0
    · rw [if_pos h_obj, if_pos h_obj]
      first | rfl | (exfalso; omega)
    rw [if_neg h_obj, if_neg h_obj]
    by_cases h_par : j < 4
    · rw [if_pos h_par, if_pos h_par]
      first | rfl | (dsimp only [gP, gS]; unfold va_up; repeat' split <;> first | rfl | (exfalso; omega)) | (dsimp only [gP, gS]; unfold va_up; split <;> (try split) <;> first | rfl | (exfalso; omega))
    rw [if_neg h_par, if_neg h_par]
    by_cases h_wea : j < 7
    · rw [if_pos h_wea, if_pos h_wea]
      first | rfl | (dsimp only [gP, gS]; unfold va_up; repeat' split <;> first | rfl | (exfalso; omega)) | (dsimp only [gP, gS]; unfold va_up; split <;> (try split) <;> first | rfl | (exfalso; omega))
    rw [if_neg h_wea, if_neg h_wea]
    by_cases h_sto : j < 10
    · rw [if_pos h_sto, if_pos h_sto]
      first | rfl | (dsimp only [gP, gS]; unfold va_up; repeat' split <;> first | rfl | (exfalso; omega)) | (dsimp only [gP, gS]; unfold va_up; split <;> (try split) <;> first | rfl | (exfalso; omega))
    rw [if_neg h_sto, if_neg h_sto]
    by_cases h_rou : j < 13
    · rw [if_pos h_rou, if_pos h_rou]
      first | rfl | (dsimp only [gP, gS]; unfold va_up; repeat' split <;> first | rfl | (exfalso; omega)) | (dsimp only [gP, gS]; unfold va_up; split <;> (try split) <;> first | rfl | (exfalso; omega))
    rw [if_neg h_rou, if_neg h_rou]
    by_cases h_ews : j < 16
    · rw [if_pos h_ews, if_pos h_ews]
      first | rfl | (exfalso; omega)
    rw [if_neg h_ews, if_neg h_ews]
    by_cases h_cos : j < 19
    · rw [if_pos h_cos, if_pos h_cos]
      first | rfl | (exfalso; omega)
    rw [if_neg h_cos, if_neg h_cos]
    by_cases h_coa : j < 31
    · rw [if_pos h_coa, if_pos h_coa]
      first | rfl | (dsimp only [gP, gS]; unfold va_up; repeat' split <;> first | rfl | (exfalso; omega)) | (dsimp only [gP, gS]; unfold va_up; split <;> (try split) <;> first | rfl | (exfalso; omega))
    rw [if_neg h_coa, if_neg h_coa]
    by_cases h_ewe : j < 56
    · rw [if_pos h_ewe, if_pos h_ewe]
      first | rfl | (dsimp only [gP, gS]; unfold va_up; repeat' split <;> first | rfl | (exfalso; omega)) | (dsimp only [gP, gS]; unfold va_up; split <;> (try split) <;> first | rfl | (exfalso; omega))
    rw [if_neg h_ewe, if_neg h_ewe]
    by_cases h_fle : j < 81
    · rw [if_pos h_fle, if_pos h_fle]
      first | rfl | (dsimp only [gP, gS]; unfold va_up; repeat' split <;> first | rfl | (exfalso; omega)) | (dsimp only [gP, gS]; unfold va_up; split <;> (try split) <;> first | rfl | (exfalso; omega))
    rw [if_neg h_fle, if_neg h_fle]
    by_cases h_tap : j = 81
    · rw [if_pos h_tap, if_pos h_tap]
      first | rfl | (exfalso; omega)
    rw [if_neg h_tap, if_neg h_tap]
    by_cases h_byt : j = 82
    · rw [if_pos h_byt, if_pos h_byt]
      first | rfl | (exfalso; omega)
    rw [if_neg h_byt, if_neg h_byt]
    by_cases h_shs : j = 83
    · rw [if_pos h_shs, if_pos h_shs]
      first | rfl | (exfalso; omega)
    rw [if_neg h_shs, if_neg h_shs]
    by_cases h_she : j < 88
    · rw [if_pos h_she, if_pos h_she]
      first | rfl | (dsimp only [gP, gS]; unfold va_up; repeat' split <;> first | rfl | (exfalso; omega)) | (dsimp only [gP, gS]; unfold va_up; split <;> (try split) <;> first | rfl | (exfalso; omega))
    rw [if_neg h_she, if_neg h_she]
    by_cases h_num : j < 92
    · rw [if_pos h_num, if_pos h_num]
      first | rfl | (dsimp only [gP, gS]; unfold va_up; repeat' split <;> first | rfl | (exfalso; omega)) | (dsimp only [gP, gS]; unfold va_up; split <;> (try split) <;> first | rfl | (exfalso; omega))
    rw [if_neg h_num, if_neg h_num]
    by_cases h_tol : j = 92
    · rw [if_pos h_tol, if_pos h_tol]
      first | rfl | (exfalso; omega)
    rw [if_neg h_tol, if_neg h_tol]
    by_cases h_mod : j = 93
    · rw [if_pos h_mod, if_pos h_mod]
      first | rfl | (exfalso; omega)
    rw [if_neg h_mod, if_neg h_mod]
    by_cases h_ms : j = 94
    · rw [if_pos h_ms, if_pos h_ms]
      first | rfl | (exfalso; omega)
    rw [if_neg h_ms, if_neg h_ms]
    by_cases h_mk : j = 95
    · rw [if_pos h_mk, if_pos h_mk]
      first | rfl | (exfalso; omega)
    rw [if_neg h_mk, if_neg h_mk]
    by_cases h_mo : j = 96
    · rw [if_pos h_mo, if_pos h_mo]
      first | rfl | (exfalso; omega)
    rw [if_neg h_mo, if_neg h_mo]
    by_cases h_ma : j = 97
    · rw [if_pos h_ma, if_pos h_ma]
      first | rfl | (exfalso; omega)
    rw [if_neg h_ma, if_neg h_ma]
    by_cases h_mf : j = 98
    · rw [if_pos h_mf, if_pos h_mf]
      first | rfl | (exfalso; omega)
    rw [if_neg h_mf, if_neg h_mf]
    by_cases h_mt : j = 99
    · rw [if_pos h_mt, if_pos h_mt]
      first | rfl | (exfalso; omega)
    rw [if_neg h_mt, if_neg h_mt]
    by_cases h_mb : j = 100
    · rw [if_pos h_mb, if_pos h_mb]
      first | rfl | (exfalso; omega)
    rw [if_neg h_mb, if_neg h_mb]
    by_cases h_mz : j = 101
    · rw [if_pos h_mz, if_pos h_mz]
      first | rfl | (exfalso; omega)
    rw [if_neg h_mz, if_neg h_mz]
    by_cases h_mn : j = 102
    · rw [if_pos h_mn, if_pos h_mn]
      first | rfl | (exfalso; omega)
    rw [if_neg h_mn, if_neg h_mn]
    by_cases h_mv : j = 103
    · rw [if_pos h_mv, if_pos h_mv]
      first | rfl | (exfalso; omega)
    rw [if_neg h_mv, if_neg h_mv]
set_option maxHeartbeats 1000000 in
theorem u_T {G : Gl} {par : Nat → Pa} {tb : Nat → Int32} {tz ta te tz2 ta2 te2 : Nat} {tk tv tk2 tv2 : Int32} {sh : Nat → Sh} {tl : Nat → Int32} {hi : Int32} {M : MS}  : ∀ j, j < 104 → cel G ((par, (tb, tz2, tk2, ta2, te2, tv2), sh, tl, hi), M) j = if j = 81 then ob 3 [.ref (ga G 82), .int (nI tz2), .int tk2, .int (nI ta2), .int (nI te2), .int tv2] else cel G ((par, (tb, tz, tk, ta, te, tv), sh, tl, hi), M) j := by
  intro j hj
  by_cases hjk : j = 81
  · rw [if_pos hjk, hjk]
    exact rfl
  · rw [if_neg hjk]
    unfold cel
    by_cases h_obj : j = 0
    · rw [if_pos h_obj, if_pos h_obj]
      first | rfl | (exfalso; omega)
    rw [if_neg h_obj, if_neg h_obj]
    by_cases h_par : j < 4
    · rw [if_pos h_par, if_pos h_par]
      first | rfl | (dsimp only [gP, gS]; unfold va_up; repeat' split <;> first | rfl | (exfalso; omega)) | (dsimp only [gP, gS]; unfold va_up; split <;> (try split) <;> first | rfl | (exfalso; omega))
    rw [if_neg h_par, if_neg h_par]
    by_cases h_wea : j < 7
    · rw [if_pos h_wea, if_pos h_wea]
      first | rfl | (dsimp only [gP, gS]; unfold va_up; repeat' split <;> first | rfl | (exfalso; omega)) | (dsimp only [gP, gS]; unfold va_up; split <;> (try split) <;> first | rfl | (exfalso; omega))
    rw [if_neg h_wea, if_neg h_wea]
    by_cases h_sto : j < 10
    · rw [if_pos h_sto, if_pos h_sto]
      first | rfl | (dsimp only [gP, gS]; unfold va_up; repeat' split <;> first | rfl | (exfalso; omega)) | (dsimp only [gP, gS]; unfold va_up; split <;> (try split) <;> first | rfl | (exfalso; omega))
    rw [if_neg h_sto, if_neg h_sto]
    by_cases h_rou : j < 13
    · rw [if_pos h_rou, if_pos h_rou]
      first | rfl | (dsimp only [gP, gS]; unfold va_up; repeat' split <;> first | rfl | (exfalso; omega)) | (dsimp only [gP, gS]; unfold va_up; split <;> (try split) <;> first | rfl | (exfalso; omega))
    rw [if_neg h_rou, if_neg h_rou]
    by_cases h_ews : j < 16
    · rw [if_pos h_ews, if_pos h_ews]
      first | rfl | (exfalso; omega)
    rw [if_neg h_ews, if_neg h_ews]
    by_cases h_cos : j < 19
    · rw [if_pos h_cos, if_pos h_cos]
      first | rfl | (exfalso; omega)
    rw [if_neg h_cos, if_neg h_cos]
    by_cases h_coa : j < 31
    · rw [if_pos h_coa, if_pos h_coa]
      first | rfl | (dsimp only [gP, gS]; unfold va_up; repeat' split <;> first | rfl | (exfalso; omega)) | (dsimp only [gP, gS]; unfold va_up; split <;> (try split) <;> first | rfl | (exfalso; omega))
    rw [if_neg h_coa, if_neg h_coa]
    by_cases h_ewe : j < 56
    · rw [if_pos h_ewe, if_pos h_ewe]
      first | rfl | (dsimp only [gP, gS]; unfold va_up; repeat' split <;> first | rfl | (exfalso; omega)) | (dsimp only [gP, gS]; unfold va_up; split <;> (try split) <;> first | rfl | (exfalso; omega))
    rw [if_neg h_ewe, if_neg h_ewe]
    by_cases h_fle : j < 81
    · rw [if_pos h_fle, if_pos h_fle]
      first | rfl | (dsimp only [gP, gS]; unfold va_up; repeat' split <;> first | rfl | (exfalso; omega)) | (dsimp only [gP, gS]; unfold va_up; split <;> (try split) <;> first | rfl | (exfalso; omega))
    rw [if_neg h_fle, if_neg h_fle]
    by_cases h_tap : j = 81
    · rw [if_pos h_tap, if_pos h_tap]
      first | rfl | (exfalso; omega)
    rw [if_neg h_tap, if_neg h_tap]
    by_cases h_byt : j = 82
    · rw [if_pos h_byt, if_pos h_byt]
      first | rfl | (exfalso; omega)
    rw [if_neg h_byt, if_neg h_byt]
    by_cases h_shs : j = 83
    · rw [if_pos h_shs, if_pos h_shs]
      first | rfl | (exfalso; omega)
    rw [if_neg h_shs, if_neg h_shs]
    by_cases h_she : j < 88
    · rw [if_pos h_she, if_pos h_she]
      first | rfl | (dsimp only [gP, gS]; unfold va_up; repeat' split <;> first | rfl | (exfalso; omega)) | (dsimp only [gP, gS]; unfold va_up; split <;> (try split) <;> first | rfl | (exfalso; omega))
    rw [if_neg h_she, if_neg h_she]
    by_cases h_num : j < 92
    · rw [if_pos h_num, if_pos h_num]
      first | rfl | (dsimp only [gP, gS]; unfold va_up; repeat' split <;> first | rfl | (exfalso; omega)) | (dsimp only [gP, gS]; unfold va_up; split <;> (try split) <;> first | rfl | (exfalso; omega))
    rw [if_neg h_num, if_neg h_num]
    by_cases h_tol : j = 92
    · rw [if_pos h_tol, if_pos h_tol]
      first | rfl | (exfalso; omega)
    rw [if_neg h_tol, if_neg h_tol]
    by_cases h_mod : j = 93
    · rw [if_pos h_mod, if_pos h_mod]
      first | rfl | (exfalso; omega)
    rw [if_neg h_mod, if_neg h_mod]
    by_cases h_ms : j = 94
    · rw [if_pos h_ms, if_pos h_ms]
      first | rfl | (exfalso; omega)
    rw [if_neg h_ms, if_neg h_ms]
    by_cases h_mk : j = 95
    · rw [if_pos h_mk, if_pos h_mk]
      first | rfl | (exfalso; omega)
    rw [if_neg h_mk, if_neg h_mk]
    by_cases h_mo : j = 96
    · rw [if_pos h_mo, if_pos h_mo]
      first | rfl | (exfalso; omega)
    rw [if_neg h_mo, if_neg h_mo]
    by_cases h_ma : j = 97
    · rw [if_pos h_ma, if_pos h_ma]
      first | rfl | (exfalso; omega)
    rw [if_neg h_ma, if_neg h_ma]
    by_cases h_mf : j = 98
    · rw [if_pos h_mf, if_pos h_mf]
      first | rfl | (exfalso; omega)
    rw [if_neg h_mf, if_neg h_mf]
    by_cases h_mt : j = 99
    · rw [if_pos h_mt, if_pos h_mt]
      first | rfl | (exfalso; omega)
    rw [if_neg h_mt, if_neg h_mt]
    by_cases h_mb : j = 100
    · rw [if_pos h_mb, if_pos h_mb]
      first | rfl | (exfalso; omega)
    rw [if_neg h_mb, if_neg h_mb]
    by_cases h_mz : j = 101
    · rw [if_pos h_mz, if_pos h_mz]
      first | rfl | (exfalso; omega)
    rw [if_neg h_mz, if_neg h_mz]
    by_cases h_mn : j = 102
    · rw [if_pos h_mn, if_pos h_mn]
      first | rfl | (exfalso; omega)
    rw [if_neg h_mn, if_neg h_mn]
    by_cases h_mv : j = 103
    · rw [if_pos h_mv, if_pos h_mv]
      first | rfl | (exfalso; omega)
    rw [if_neg h_mv, if_neg h_mv]
set_option maxHeartbeats 1000000 in
theorem u_tb {G : Gl} {par : Nat → Pa} {tb tb2 : Nat → Int32} {tz ta te : Nat} {tk tv : Int32} {sh : Nat → Sh} {tl : Nat → Int32} {hi : Int32} {M : MS}  : ∀ j, j < 104 → cel G ((par, (tb2, tz, tk, ta, te, tv), sh, tl, hi), M) j = if j = 82 then ai (gcB G) 120 tb2 else cel G ((par, (tb, tz, tk, ta, te, tv), sh, tl, hi), M) j := by
  intro j hj
  by_cases hjk : j = 82
  · rw [if_pos hjk, hjk]
    exact rfl
  · rw [if_neg hjk]
    unfold cel
    by_cases h_obj : j = 0
    · rw [if_pos h_obj, if_pos h_obj]
      first | rfl | (exfalso; omega)
    rw [if_neg h_obj, if_neg h_obj]
    by_cases h_par : j < 4
    · rw [if_pos h_par, if_pos h_par]
      first | rfl | (dsimp only [gP, gS]; unfold va_up; repeat' split <;> first | rfl | (exfalso; omega)) | (dsimp only [gP, gS]; unfold va_up; split <;> (try split) <;> first | rfl | (exfalso; omega))
    rw [if_neg h_par, if_neg h_par]
    by_cases h_wea : j < 7
    · rw [if_pos h_wea, if_pos h_wea]
      first | rfl | (dsimp only [gP, gS]; unfold va_up; repeat' split <;> first | rfl | (exfalso; omega)) | (dsimp only [gP, gS]; unfold va_up; split <;> (try split) <;> first | rfl | (exfalso; omega))
    rw [if_neg h_wea, if_neg h_wea]
    by_cases h_sto : j < 10
    · rw [if_pos h_sto, if_pos h_sto]
      first | rfl | (dsimp only [gP, gS]; unfold va_up; repeat' split <;> first | rfl | (exfalso; omega)) | (dsimp only [gP, gS]; unfold va_up; split <;> (try split) <;> first | rfl | (exfalso; omega))
    rw [if_neg h_sto, if_neg h_sto]
    by_cases h_rou : j < 13
    · rw [if_pos h_rou, if_pos h_rou]
      first | rfl | (dsimp only [gP, gS]; unfold va_up; repeat' split <;> first | rfl | (exfalso; omega)) | (dsimp only [gP, gS]; unfold va_up; split <;> (try split) <;> first | rfl | (exfalso; omega))
    rw [if_neg h_rou, if_neg h_rou]
    by_cases h_ews : j < 16
    · rw [if_pos h_ews, if_pos h_ews]
      first | rfl | (exfalso; omega)
    rw [if_neg h_ews, if_neg h_ews]
    by_cases h_cos : j < 19
    · rw [if_pos h_cos, if_pos h_cos]
      first | rfl | (exfalso; omega)
    rw [if_neg h_cos, if_neg h_cos]
    by_cases h_coa : j < 31
    · rw [if_pos h_coa, if_pos h_coa]
      first | rfl | (dsimp only [gP, gS]; unfold va_up; repeat' split <;> first | rfl | (exfalso; omega)) | (dsimp only [gP, gS]; unfold va_up; split <;> (try split) <;> first | rfl | (exfalso; omega))
    rw [if_neg h_coa, if_neg h_coa]
    by_cases h_ewe : j < 56
    · rw [if_pos h_ewe, if_pos h_ewe]
      first | rfl | (dsimp only [gP, gS]; unfold va_up; repeat' split <;> first | rfl | (exfalso; omega)) | (dsimp only [gP, gS]; unfold va_up; split <;> (try split) <;> first | rfl | (exfalso; omega))
    rw [if_neg h_ewe, if_neg h_ewe]
    by_cases h_fle : j < 81
    · rw [if_pos h_fle, if_pos h_fle]
      first | rfl | (dsimp only [gP, gS]; unfold va_up; repeat' split <;> first | rfl | (exfalso; omega)) | (dsimp only [gP, gS]; unfold va_up; split <;> (try split) <;> first | rfl | (exfalso; omega))
    rw [if_neg h_fle, if_neg h_fle]
    by_cases h_tap : j = 81
    · rw [if_pos h_tap, if_pos h_tap]
      first | rfl | (exfalso; omega)
    rw [if_neg h_tap, if_neg h_tap]
    by_cases h_byt : j = 82
    · rw [if_pos h_byt, if_pos h_byt]
      first | rfl | (exfalso; omega)
    rw [if_neg h_byt, if_neg h_byt]
    by_cases h_shs : j = 83
    · rw [if_pos h_shs, if_pos h_shs]
      first | rfl | (exfalso; omega)
    rw [if_neg h_shs, if_neg h_shs]
    by_cases h_she : j < 88
    · rw [if_pos h_she, if_pos h_she]
      first | rfl | (dsimp only [gP, gS]; unfold va_up; repeat' split <;> first | rfl | (exfalso; omega)) | (dsimp only [gP, gS]; unfold va_up; split <;> (try split) <;> first | rfl | (exfalso; omega))
    rw [if_neg h_she, if_neg h_she]
    by_cases h_num : j < 92
    · rw [if_pos h_num, if_pos h_num]
      first | rfl | (dsimp only [gP, gS]; unfold va_up; repeat' split <;> first | rfl | (exfalso; omega)) | (dsimp only [gP, gS]; unfold va_up; split <;> (try split) <;> first | rfl | (exfalso; omega))
    rw [if_neg h_num, if_neg h_num]
    by_cases h_tol : j = 92
    · rw [if_pos h_tol, if_pos h_tol]
      first | rfl | (exfalso; omega)
    rw [if_neg h_tol, if_neg h_tol]
    by_cases h_mod : j = 93
    · rw [if_pos h_mod, if_pos h_mod]
      first | rfl | (exfalso; omega)
    rw [if_neg h_mod, if_neg h_mod]
    by_cases h_ms : j = 94
    · rw [if_pos h_ms, if_pos h_ms]
      first | rfl | (exfalso; omega)
    rw [if_neg h_ms, if_neg h_ms]
    by_cases h_mk : j = 95
    · rw [if_pos h_mk, if_pos h_mk]
      first | rfl | (exfalso; omega)
    rw [if_neg h_mk, if_neg h_mk]
    by_cases h_mo : j = 96
    · rw [if_pos h_mo, if_pos h_mo]
      first | rfl | (exfalso; omega)
    rw [if_neg h_mo, if_neg h_mo]
    by_cases h_ma : j = 97
    · rw [if_pos h_ma, if_pos h_ma]
      first | rfl | (exfalso; omega)
    rw [if_neg h_ma, if_neg h_ma]
    by_cases h_mf : j = 98
    · rw [if_pos h_mf, if_pos h_mf]
      first | rfl | (exfalso; omega)
    rw [if_neg h_mf, if_neg h_mf]
    by_cases h_mt : j = 99
    · rw [if_pos h_mt, if_pos h_mt]
      first | rfl | (exfalso; omega)
    rw [if_neg h_mt, if_neg h_mt]
    by_cases h_mb : j = 100
    · rw [if_pos h_mb, if_pos h_mb]
      first | rfl | (exfalso; omega)
    rw [if_neg h_mb, if_neg h_mb]
    by_cases h_mz : j = 101
    · rw [if_pos h_mz, if_pos h_mz]
      first | rfl | (exfalso; omega)
    rw [if_neg h_mz, if_neg h_mz]
    by_cases h_mn : j = 102
    · rw [if_pos h_mn, if_pos h_mn]
      first | rfl | (exfalso; omega)
    rw [if_neg h_mn, if_neg h_mn]
    by_cases h_mv : j = 103
    · rw [if_pos h_mv, if_pos h_mv]
      first | rfl | (exfalso; omega)
    rw [if_neg h_mv, if_neg h_mv]
set_option maxHeartbeats 1000000 in
theorem u_sh {G : Gl} {par : Nat → Pa} {tp : Tp} {sh : Nat → Sh} {tl : Nat → Int32} {hi : Int32} {M : MS} {s : Nat} {sn : Nat → Int64} {zz zz2 : Nat} {sb sb2 : Int32} (hs : s < 4) : ∀ j, j < 104 → cel G ((par, tp, va_up sh s (sn, zz2, sb2), tl, hi), M) j = if j = 84 + s then ob 2 [.ref (ga G (88 + s)), .int (nI zz2), .int sb2] else cel G ((par, tp, va_up sh s (sn, zz, sb), tl, hi), M) j := by
  intro j hj
  by_cases hjk : j = 84 + s
  · rw [if_pos hjk, hjk]
    exact f_she hs
  · rw [if_neg hjk]
    unfold cel
    by_cases h_obj : j = 0
    · rw [if_pos h_obj, if_pos h_obj]
      first | rfl | (exfalso; omega)
    rw [if_neg h_obj, if_neg h_obj]
    by_cases h_par : j < 4
    · rw [if_pos h_par, if_pos h_par]
      first | rfl | (dsimp only [gP, gS]; unfold va_up; repeat' split <;> first | rfl | (exfalso; omega)) | (dsimp only [gP, gS]; unfold va_up; split <;> (try split) <;> first | rfl | (exfalso; omega))
    rw [if_neg h_par, if_neg h_par]
    by_cases h_wea : j < 7
    · rw [if_pos h_wea, if_pos h_wea]
      first | rfl | (dsimp only [gP, gS]; unfold va_up; repeat' split <;> first | rfl | (exfalso; omega)) | (dsimp only [gP, gS]; unfold va_up; split <;> (try split) <;> first | rfl | (exfalso; omega))
    rw [if_neg h_wea, if_neg h_wea]
    by_cases h_sto : j < 10
    · rw [if_pos h_sto, if_pos h_sto]
      first | rfl | (dsimp only [gP, gS]; unfold va_up; repeat' split <;> first | rfl | (exfalso; omega)) | (dsimp only [gP, gS]; unfold va_up; split <;> (try split) <;> first | rfl | (exfalso; omega))
    rw [if_neg h_sto, if_neg h_sto]
    by_cases h_rou : j < 13
    · rw [if_pos h_rou, if_pos h_rou]
      first | rfl | (dsimp only [gP, gS]; unfold va_up; repeat' split <;> first | rfl | (exfalso; omega)) | (dsimp only [gP, gS]; unfold va_up; split <;> (try split) <;> first | rfl | (exfalso; omega))
    rw [if_neg h_rou, if_neg h_rou]
    by_cases h_ews : j < 16
    · rw [if_pos h_ews, if_pos h_ews]
      first | rfl | (exfalso; omega)
    rw [if_neg h_ews, if_neg h_ews]
    by_cases h_cos : j < 19
    · rw [if_pos h_cos, if_pos h_cos]
      first | rfl | (exfalso; omega)
    rw [if_neg h_cos, if_neg h_cos]
    by_cases h_coa : j < 31
    · rw [if_pos h_coa, if_pos h_coa]
      first | rfl | (dsimp only [gP, gS]; unfold va_up; repeat' split <;> first | rfl | (exfalso; omega)) | (dsimp only [gP, gS]; unfold va_up; split <;> (try split) <;> first | rfl | (exfalso; omega))
    rw [if_neg h_coa, if_neg h_coa]
    by_cases h_ewe : j < 56
    · rw [if_pos h_ewe, if_pos h_ewe]
      first | rfl | (dsimp only [gP, gS]; unfold va_up; repeat' split <;> first | rfl | (exfalso; omega)) | (dsimp only [gP, gS]; unfold va_up; split <;> (try split) <;> first | rfl | (exfalso; omega))
    rw [if_neg h_ewe, if_neg h_ewe]
    by_cases h_fle : j < 81
    · rw [if_pos h_fle, if_pos h_fle]
      first | rfl | (dsimp only [gP, gS]; unfold va_up; repeat' split <;> first | rfl | (exfalso; omega)) | (dsimp only [gP, gS]; unfold va_up; split <;> (try split) <;> first | rfl | (exfalso; omega))
    rw [if_neg h_fle, if_neg h_fle]
    by_cases h_tap : j = 81
    · rw [if_pos h_tap, if_pos h_tap]
      first | rfl | (exfalso; omega)
    rw [if_neg h_tap, if_neg h_tap]
    by_cases h_byt : j = 82
    · rw [if_pos h_byt, if_pos h_byt]
      first | rfl | (exfalso; omega)
    rw [if_neg h_byt, if_neg h_byt]
    by_cases h_shs : j = 83
    · rw [if_pos h_shs, if_pos h_shs]
      first | rfl | (exfalso; omega)
    rw [if_neg h_shs, if_neg h_shs]
    by_cases h_she : j < 88
    · rw [if_pos h_she, if_pos h_she]
      first | rfl | (dsimp only [gP, gS]; unfold va_up; repeat' split <;> first | rfl | (exfalso; omega)) | (dsimp only [gP, gS]; unfold va_up; split <;> (try split) <;> first | rfl | (exfalso; omega))
    rw [if_neg h_she, if_neg h_she]
    by_cases h_num : j < 92
    · rw [if_pos h_num, if_pos h_num]
      first | rfl | (dsimp only [gP, gS]; unfold va_up; repeat' split <;> first | rfl | (exfalso; omega)) | (dsimp only [gP, gS]; unfold va_up; split <;> (try split) <;> first | rfl | (exfalso; omega))
    rw [if_neg h_num, if_neg h_num]
    by_cases h_tol : j = 92
    · rw [if_pos h_tol, if_pos h_tol]
      first | rfl | (exfalso; omega)
    rw [if_neg h_tol, if_neg h_tol]
    by_cases h_mod : j = 93
    · rw [if_pos h_mod, if_pos h_mod]
      first | rfl | (exfalso; omega)
    rw [if_neg h_mod, if_neg h_mod]
    by_cases h_ms : j = 94
    · rw [if_pos h_ms, if_pos h_ms]
      first | rfl | (exfalso; omega)
    rw [if_neg h_ms, if_neg h_ms]
    by_cases h_mk : j = 95
    · rw [if_pos h_mk, if_pos h_mk]
      first | rfl | (exfalso; omega)
    rw [if_neg h_mk, if_neg h_mk]
    by_cases h_mo : j = 96
    · rw [if_pos h_mo, if_pos h_mo]
      first | rfl | (exfalso; omega)
    rw [if_neg h_mo, if_neg h_mo]
    by_cases h_ma : j = 97
    · rw [if_pos h_ma, if_pos h_ma]
      first | rfl | (exfalso; omega)
    rw [if_neg h_ma, if_neg h_ma]
    by_cases h_mf : j = 98
    · rw [if_pos h_mf, if_pos h_mf]
      first | rfl | (exfalso; omega)
    rw [if_neg h_mf, if_neg h_mf]
    by_cases h_mt : j = 99
    · rw [if_pos h_mt, if_pos h_mt]
      first | rfl | (exfalso; omega)
    rw [if_neg h_mt, if_neg h_mt]
    by_cases h_mb : j = 100
    · rw [if_pos h_mb, if_pos h_mb]
      first | rfl | (exfalso; omega)
    rw [if_neg h_mb, if_neg h_mb]
    by_cases h_mz : j = 101
    · rw [if_pos h_mz, if_pos h_mz]
      first | rfl | (exfalso; omega)
    rw [if_neg h_mz, if_neg h_mz]
    by_cases h_mn : j = 102
    · rw [if_pos h_mn, if_pos h_mn]
      first | rfl | (exfalso; omega)
    rw [if_neg h_mn, if_neg h_mn]
    by_cases h_mv : j = 103
    · rw [if_pos h_mv, if_pos h_mv]
      first | rfl | (exfalso; omega)
    rw [if_neg h_mv, if_neg h_mv]
set_option maxHeartbeats 1000000 in
theorem u_sn {G : Gl} {par : Nat → Pa} {tp : Tp} {sh : Nat → Sh} {tl : Nat → Int32} {hi : Int32} {M : MS} {s : Nat} {sn sn2 : Nat → Int64} {zz : Nat} {sb : Int32} (hs : s < 4) : ∀ j, j < 104 → cel G ((par, tp, va_up sh s (sn2, zz, sb), tl, hi), M) j = if j = 88 + s then aj (gcJ G) 40 sn2 else cel G ((par, tp, va_up sh s (sn, zz, sb), tl, hi), M) j := by
  intro j hj
  by_cases hjk : j = 88 + s
  · rw [if_pos hjk, hjk]
    exact f_num hs
  · rw [if_neg hjk]
    unfold cel
    by_cases h_obj : j = 0
    · rw [if_pos h_obj, if_pos h_obj]
      first | rfl | (exfalso; omega)
    rw [if_neg h_obj, if_neg h_obj]
    by_cases h_par : j < 4
    · rw [if_pos h_par, if_pos h_par]
      first | rfl | (dsimp only [gP, gS]; unfold va_up; repeat' split <;> first | rfl | (exfalso; omega)) | (dsimp only [gP, gS]; unfold va_up; split <;> (try split) <;> first | rfl | (exfalso; omega))
    rw [if_neg h_par, if_neg h_par]
    by_cases h_wea : j < 7
    · rw [if_pos h_wea, if_pos h_wea]
      first | rfl | (dsimp only [gP, gS]; unfold va_up; repeat' split <;> first | rfl | (exfalso; omega)) | (dsimp only [gP, gS]; unfold va_up; split <;> (try split) <;> first | rfl | (exfalso; omega))
    rw [if_neg h_wea, if_neg h_wea]
    by_cases h_sto : j < 10
    · rw [if_pos h_sto, if_pos h_sto]
      first | rfl | (dsimp only [gP, gS]; unfold va_up; repeat' split <;> first | rfl | (exfalso; omega)) | (dsimp only [gP, gS]; unfold va_up; split <;> (try split) <;> first | rfl | (exfalso; omega))
    rw [if_neg h_sto, if_neg h_sto]
    by_cases h_rou : j < 13
    · rw [if_pos h_rou, if_pos h_rou]
      first | rfl | (dsimp only [gP, gS]; unfold va_up; repeat' split <;> first | rfl | (exfalso; omega)) | (dsimp only [gP, gS]; unfold va_up; split <;> (try split) <;> first | rfl | (exfalso; omega))
    rw [if_neg h_rou, if_neg h_rou]
    by_cases h_ews : j < 16
    · rw [if_pos h_ews, if_pos h_ews]
      first | rfl | (exfalso; omega)
    rw [if_neg h_ews, if_neg h_ews]
    by_cases h_cos : j < 19
    · rw [if_pos h_cos, if_pos h_cos]
      first | rfl | (exfalso; omega)
    rw [if_neg h_cos, if_neg h_cos]
    by_cases h_coa : j < 31
    · rw [if_pos h_coa, if_pos h_coa]
      first | rfl | (dsimp only [gP, gS]; unfold va_up; repeat' split <;> first | rfl | (exfalso; omega)) | (dsimp only [gP, gS]; unfold va_up; split <;> (try split) <;> first | rfl | (exfalso; omega))
    rw [if_neg h_coa, if_neg h_coa]
    by_cases h_ewe : j < 56
    · rw [if_pos h_ewe, if_pos h_ewe]
      first | rfl | (dsimp only [gP, gS]; unfold va_up; repeat' split <;> first | rfl | (exfalso; omega)) | (dsimp only [gP, gS]; unfold va_up; split <;> (try split) <;> first | rfl | (exfalso; omega))
    rw [if_neg h_ewe, if_neg h_ewe]
    by_cases h_fle : j < 81
    · rw [if_pos h_fle, if_pos h_fle]
      first | rfl | (dsimp only [gP, gS]; unfold va_up; repeat' split <;> first | rfl | (exfalso; omega)) | (dsimp only [gP, gS]; unfold va_up; split <;> (try split) <;> first | rfl | (exfalso; omega))
    rw [if_neg h_fle, if_neg h_fle]
    by_cases h_tap : j = 81
    · rw [if_pos h_tap, if_pos h_tap]
      first | rfl | (exfalso; omega)
    rw [if_neg h_tap, if_neg h_tap]
    by_cases h_byt : j = 82
    · rw [if_pos h_byt, if_pos h_byt]
      first | rfl | (exfalso; omega)
    rw [if_neg h_byt, if_neg h_byt]
    by_cases h_shs : j = 83
    · rw [if_pos h_shs, if_pos h_shs]
      first | rfl | (exfalso; omega)
    rw [if_neg h_shs, if_neg h_shs]
    by_cases h_she : j < 88
    · rw [if_pos h_she, if_pos h_she]
      first | rfl | (dsimp only [gP, gS]; unfold va_up; repeat' split <;> first | rfl | (exfalso; omega)) | (dsimp only [gP, gS]; unfold va_up; split <;> (try split) <;> first | rfl | (exfalso; omega))
    rw [if_neg h_she, if_neg h_she]
    by_cases h_num : j < 92
    · rw [if_pos h_num, if_pos h_num]
      first | rfl | (dsimp only [gP, gS]; unfold va_up; repeat' split <;> first | rfl | (exfalso; omega)) | (dsimp only [gP, gS]; unfold va_up; split <;> (try split) <;> first | rfl | (exfalso; omega))
    rw [if_neg h_num, if_neg h_num]
    by_cases h_tol : j = 92
    · rw [if_pos h_tol, if_pos h_tol]
      first | rfl | (exfalso; omega)
    rw [if_neg h_tol, if_neg h_tol]
    by_cases h_mod : j = 93
    · rw [if_pos h_mod, if_pos h_mod]
      first | rfl | (exfalso; omega)
    rw [if_neg h_mod, if_neg h_mod]
    by_cases h_ms : j = 94
    · rw [if_pos h_ms, if_pos h_ms]
      first | rfl | (exfalso; omega)
    rw [if_neg h_ms, if_neg h_ms]
    by_cases h_mk : j = 95
    · rw [if_pos h_mk, if_pos h_mk]
      first | rfl | (exfalso; omega)
    rw [if_neg h_mk, if_neg h_mk]
    by_cases h_mo : j = 96
    · rw [if_pos h_mo, if_pos h_mo]
      first | rfl | (exfalso; omega)
    rw [if_neg h_mo, if_neg h_mo]
    by_cases h_ma : j = 97
    · rw [if_pos h_ma, if_pos h_ma]
      first | rfl | (exfalso; omega)
    rw [if_neg h_ma, if_neg h_ma]
    by_cases h_mf : j = 98
    · rw [if_pos h_mf, if_pos h_mf]
      first | rfl | (exfalso; omega)
    rw [if_neg h_mf, if_neg h_mf]
    by_cases h_mt : j = 99
    · rw [if_pos h_mt, if_pos h_mt]
      first | rfl | (exfalso; omega)
    rw [if_neg h_mt, if_neg h_mt]
    by_cases h_mb : j = 100
    · rw [if_pos h_mb, if_pos h_mb]
      first | rfl | (exfalso; omega)
    rw [if_neg h_mb, if_neg h_mb]
    by_cases h_mz : j = 101
    · rw [if_pos h_mz, if_pos h_mz]
      first | rfl | (exfalso; omega)
    rw [if_neg h_mz, if_neg h_mz]
    by_cases h_mn : j = 102
    · rw [if_pos h_mn, if_pos h_mn]
      first | rfl | (exfalso; omega)
    rw [if_neg h_mn, if_neg h_mn]
    by_cases h_mv : j = 103
    · rw [if_pos h_mv, if_pos h_mv]
      first | rfl | (exfalso; omega)
    rw [if_neg h_mv, if_neg h_mv]
set_option maxHeartbeats 1000000 in
theorem u_tl {G : Gl} {par : Nat → Pa} {tp : Tp} {sh : Nat → Sh} {tl : Nat → Int32} {hi : Int32} {M : MS} {tl2 : Nat → Int32}  : ∀ j, j < 104 → cel G ((par, tp, sh, tl2, hi), M) j = if j = 92 then ai (gcI G) 7 tl2 else cel G ((par, tp, sh, tl, hi), M) j := by
  intro j hj
  by_cases hjk : j = 92
  · rw [if_pos hjk, hjk]
    exact rfl
  · rw [if_neg hjk]
    unfold cel
    by_cases h_obj : j = 0
    · rw [if_pos h_obj, if_pos h_obj]
      first | rfl | (exfalso; omega)
    rw [if_neg h_obj, if_neg h_obj]
    by_cases h_par : j < 4
    · rw [if_pos h_par, if_pos h_par]
      first | rfl | (dsimp only [gP, gS]; unfold va_up; repeat' split <;> first | rfl | (exfalso; omega)) | (dsimp only [gP, gS]; unfold va_up; split <;> (try split) <;> first | rfl | (exfalso; omega))
    rw [if_neg h_par, if_neg h_par]
    by_cases h_wea : j < 7
    · rw [if_pos h_wea, if_pos h_wea]
      first | rfl | (dsimp only [gP, gS]; unfold va_up; repeat' split <;> first | rfl | (exfalso; omega)) | (dsimp only [gP, gS]; unfold va_up; split <;> (try split) <;> first | rfl | (exfalso; omega))
    rw [if_neg h_wea, if_neg h_wea]
    by_cases h_sto : j < 10
    · rw [if_pos h_sto, if_pos h_sto]
      first | rfl | (dsimp only [gP, gS]; unfold va_up; repeat' split <;> first | rfl | (exfalso; omega)) | (dsimp only [gP, gS]; unfold va_up; split <;> (try split) <;> first | rfl | (exfalso; omega))
    rw [if_neg h_sto, if_neg h_sto]
    by_cases h_rou : j < 13
    · rw [if_pos h_rou, if_pos h_rou]
      first | rfl | (dsimp only [gP, gS]; unfold va_up; repeat' split <;> first | rfl | (exfalso; omega)) | (dsimp only [gP, gS]; unfold va_up; split <;> (try split) <;> first | rfl | (exfalso; omega))
    rw [if_neg h_rou, if_neg h_rou]
    by_cases h_ews : j < 16
    · rw [if_pos h_ews, if_pos h_ews]
      first | rfl | (exfalso; omega)
    rw [if_neg h_ews, if_neg h_ews]
    by_cases h_cos : j < 19
    · rw [if_pos h_cos, if_pos h_cos]
      first | rfl | (exfalso; omega)
    rw [if_neg h_cos, if_neg h_cos]
    by_cases h_coa : j < 31
    · rw [if_pos h_coa, if_pos h_coa]
      first | rfl | (dsimp only [gP, gS]; unfold va_up; repeat' split <;> first | rfl | (exfalso; omega)) | (dsimp only [gP, gS]; unfold va_up; split <;> (try split) <;> first | rfl | (exfalso; omega))
    rw [if_neg h_coa, if_neg h_coa]
    by_cases h_ewe : j < 56
    · rw [if_pos h_ewe, if_pos h_ewe]
      first | rfl | (dsimp only [gP, gS]; unfold va_up; repeat' split <;> first | rfl | (exfalso; omega)) | (dsimp only [gP, gS]; unfold va_up; split <;> (try split) <;> first | rfl | (exfalso; omega))
    rw [if_neg h_ewe, if_neg h_ewe]
    by_cases h_fle : j < 81
    · rw [if_pos h_fle, if_pos h_fle]
      first | rfl | (dsimp only [gP, gS]; unfold va_up; repeat' split <;> first | rfl | (exfalso; omega)) | (dsimp only [gP, gS]; unfold va_up; split <;> (try split) <;> first | rfl | (exfalso; omega))
    rw [if_neg h_fle, if_neg h_fle]
    by_cases h_tap : j = 81
    · rw [if_pos h_tap, if_pos h_tap]
      first | rfl | (exfalso; omega)
    rw [if_neg h_tap, if_neg h_tap]
    by_cases h_byt : j = 82
    · rw [if_pos h_byt, if_pos h_byt]
      first | rfl | (exfalso; omega)
    rw [if_neg h_byt, if_neg h_byt]
    by_cases h_shs : j = 83
    · rw [if_pos h_shs, if_pos h_shs]
      first | rfl | (exfalso; omega)
    rw [if_neg h_shs, if_neg h_shs]
    by_cases h_she : j < 88
    · rw [if_pos h_she, if_pos h_she]
      first | rfl | (dsimp only [gP, gS]; unfold va_up; repeat' split <;> first | rfl | (exfalso; omega)) | (dsimp only [gP, gS]; unfold va_up; split <;> (try split) <;> first | rfl | (exfalso; omega))
    rw [if_neg h_she, if_neg h_she]
    by_cases h_num : j < 92
    · rw [if_pos h_num, if_pos h_num]
      first | rfl | (dsimp only [gP, gS]; unfold va_up; repeat' split <;> first | rfl | (exfalso; omega)) | (dsimp only [gP, gS]; unfold va_up; split <;> (try split) <;> first | rfl | (exfalso; omega))
    rw [if_neg h_num, if_neg h_num]
    by_cases h_tol : j = 92
    · rw [if_pos h_tol, if_pos h_tol]
      first | rfl | (exfalso; omega)
    rw [if_neg h_tol, if_neg h_tol]
    by_cases h_mod : j = 93
    · rw [if_pos h_mod, if_pos h_mod]
      first | rfl | (exfalso; omega)
    rw [if_neg h_mod, if_neg h_mod]
    by_cases h_ms : j = 94
    · rw [if_pos h_ms, if_pos h_ms]
      first | rfl | (exfalso; omega)
    rw [if_neg h_ms, if_neg h_ms]
    by_cases h_mk : j = 95
    · rw [if_pos h_mk, if_pos h_mk]
      first | rfl | (exfalso; omega)
    rw [if_neg h_mk, if_neg h_mk]
    by_cases h_mo : j = 96
    · rw [if_pos h_mo, if_pos h_mo]
      first | rfl | (exfalso; omega)
    rw [if_neg h_mo, if_neg h_mo]
    by_cases h_ma : j = 97
    · rw [if_pos h_ma, if_pos h_ma]
      first | rfl | (exfalso; omega)
    rw [if_neg h_ma, if_neg h_ma]
    by_cases h_mf : j = 98
    · rw [if_pos h_mf, if_pos h_mf]
      first | rfl | (exfalso; omega)
    rw [if_neg h_mf, if_neg h_mf]
    by_cases h_mt : j = 99
    · rw [if_pos h_mt, if_pos h_mt]
      first | rfl | (exfalso; omega)
    rw [if_neg h_mt, if_neg h_mt]
    by_cases h_mb : j = 100
    · rw [if_pos h_mb, if_pos h_mb]
      first | rfl | (exfalso; omega)
    rw [if_neg h_mb, if_neg h_mb]
    by_cases h_mz : j = 101
    · rw [if_pos h_mz, if_pos h_mz]
      first | rfl | (exfalso; omega)
    rw [if_neg h_mz, if_neg h_mz]
    by_cases h_mn : j = 102
    · rw [if_pos h_mn, if_pos h_mn]
      first | rfl | (exfalso; omega)
    rw [if_neg h_mn, if_neg h_mn]
    by_cases h_mv : j = 103
    · rw [if_pos h_mv, if_pos h_mv]
      first | rfl | (exfalso; omega)
    rw [if_neg h_mv, if_neg h_mv]
set_option maxHeartbeats 1000000 in
theorem u_hi {G : Gl} {par : Nat → Pa} {tp : Tp} {sh : Nat → Sh} {tl : Nat → Int32} {hi : Int32} {M : MS} {hi2 : Int32}  : ∀ j, j < 104 → cel G ((par, tp, sh, tl, hi2), M) j = if j = 0 then ob 4 [.ref (ga G 1), .ref (ga G 2), .ref (ga G 3), .ref (ga G 55), .ref (ga G 81), .ref (ga G 83), .ref (ga G 92), .int hi2] else cel G ((par, tp, sh, tl, hi), M) j := by
  intro j hj
  by_cases hjk : j = 0
  · rw [if_pos hjk, hjk]
    exact rfl
  · rw [if_neg hjk]
    unfold cel
    by_cases h_obj : j = 0
    · rw [if_pos h_obj, if_pos h_obj]
      first | rfl | (exfalso; omega)
    rw [if_neg h_obj, if_neg h_obj]
    by_cases h_par : j < 4
    · rw [if_pos h_par, if_pos h_par]
      first | rfl | (dsimp only [gP, gS]; unfold va_up; repeat' split <;> first | rfl | (exfalso; omega)) | (dsimp only [gP, gS]; unfold va_up; split <;> (try split) <;> first | rfl | (exfalso; omega))
    rw [if_neg h_par, if_neg h_par]
    by_cases h_wea : j < 7
    · rw [if_pos h_wea, if_pos h_wea]
      first | rfl | (dsimp only [gP, gS]; unfold va_up; repeat' split <;> first | rfl | (exfalso; omega)) | (dsimp only [gP, gS]; unfold va_up; split <;> (try split) <;> first | rfl | (exfalso; omega))
    rw [if_neg h_wea, if_neg h_wea]
    by_cases h_sto : j < 10
    · rw [if_pos h_sto, if_pos h_sto]
      first | rfl | (dsimp only [gP, gS]; unfold va_up; repeat' split <;> first | rfl | (exfalso; omega)) | (dsimp only [gP, gS]; unfold va_up; split <;> (try split) <;> first | rfl | (exfalso; omega))
    rw [if_neg h_sto, if_neg h_sto]
    by_cases h_rou : j < 13
    · rw [if_pos h_rou, if_pos h_rou]
      first | rfl | (dsimp only [gP, gS]; unfold va_up; repeat' split <;> first | rfl | (exfalso; omega)) | (dsimp only [gP, gS]; unfold va_up; split <;> (try split) <;> first | rfl | (exfalso; omega))
    rw [if_neg h_rou, if_neg h_rou]
    by_cases h_ews : j < 16
    · rw [if_pos h_ews, if_pos h_ews]
      first | rfl | (exfalso; omega)
    rw [if_neg h_ews, if_neg h_ews]
    by_cases h_cos : j < 19
    · rw [if_pos h_cos, if_pos h_cos]
      first | rfl | (exfalso; omega)
    rw [if_neg h_cos, if_neg h_cos]
    by_cases h_coa : j < 31
    · rw [if_pos h_coa, if_pos h_coa]
      first | rfl | (dsimp only [gP, gS]; unfold va_up; repeat' split <;> first | rfl | (exfalso; omega)) | (dsimp only [gP, gS]; unfold va_up; split <;> (try split) <;> first | rfl | (exfalso; omega))
    rw [if_neg h_coa, if_neg h_coa]
    by_cases h_ewe : j < 56
    · rw [if_pos h_ewe, if_pos h_ewe]
      first | rfl | (dsimp only [gP, gS]; unfold va_up; repeat' split <;> first | rfl | (exfalso; omega)) | (dsimp only [gP, gS]; unfold va_up; split <;> (try split) <;> first | rfl | (exfalso; omega))
    rw [if_neg h_ewe, if_neg h_ewe]
    by_cases h_fle : j < 81
    · rw [if_pos h_fle, if_pos h_fle]
      first | rfl | (dsimp only [gP, gS]; unfold va_up; repeat' split <;> first | rfl | (exfalso; omega)) | (dsimp only [gP, gS]; unfold va_up; split <;> (try split) <;> first | rfl | (exfalso; omega))
    rw [if_neg h_fle, if_neg h_fle]
    by_cases h_tap : j = 81
    · rw [if_pos h_tap, if_pos h_tap]
      first | rfl | (exfalso; omega)
    rw [if_neg h_tap, if_neg h_tap]
    by_cases h_byt : j = 82
    · rw [if_pos h_byt, if_pos h_byt]
      first | rfl | (exfalso; omega)
    rw [if_neg h_byt, if_neg h_byt]
    by_cases h_shs : j = 83
    · rw [if_pos h_shs, if_pos h_shs]
      first | rfl | (exfalso; omega)
    rw [if_neg h_shs, if_neg h_shs]
    by_cases h_she : j < 88
    · rw [if_pos h_she, if_pos h_she]
      first | rfl | (dsimp only [gP, gS]; unfold va_up; repeat' split <;> first | rfl | (exfalso; omega)) | (dsimp only [gP, gS]; unfold va_up; split <;> (try split) <;> first | rfl | (exfalso; omega))
    rw [if_neg h_she, if_neg h_she]
    by_cases h_num : j < 92
    · rw [if_pos h_num, if_pos h_num]
      first | rfl | (dsimp only [gP, gS]; unfold va_up; repeat' split <;> first | rfl | (exfalso; omega)) | (dsimp only [gP, gS]; unfold va_up; split <;> (try split) <;> first | rfl | (exfalso; omega))
    rw [if_neg h_num, if_neg h_num]
    by_cases h_tol : j = 92
    · rw [if_pos h_tol, if_pos h_tol]
      first | rfl | (exfalso; omega)
    rw [if_neg h_tol, if_neg h_tol]
    by_cases h_mod : j = 93
    · rw [if_pos h_mod, if_pos h_mod]
      first | rfl | (exfalso; omega)
    rw [if_neg h_mod, if_neg h_mod]
    by_cases h_ms : j = 94
    · rw [if_pos h_ms, if_pos h_ms]
      first | rfl | (exfalso; omega)
    rw [if_neg h_ms, if_neg h_ms]
    by_cases h_mk : j = 95
    · rw [if_pos h_mk, if_pos h_mk]
      first | rfl | (exfalso; omega)
    rw [if_neg h_mk, if_neg h_mk]
    by_cases h_mo : j = 96
    · rw [if_pos h_mo, if_pos h_mo]
      first | rfl | (exfalso; omega)
    rw [if_neg h_mo, if_neg h_mo]
    by_cases h_ma : j = 97
    · rw [if_pos h_ma, if_pos h_ma]
      first | rfl | (exfalso; omega)
    rw [if_neg h_ma, if_neg h_ma]
    by_cases h_mf : j = 98
    · rw [if_pos h_mf, if_pos h_mf]
      first | rfl | (exfalso; omega)
    rw [if_neg h_mf, if_neg h_mf]
    by_cases h_mt : j = 99
    · rw [if_pos h_mt, if_pos h_mt]
      first | rfl | (exfalso; omega)
    rw [if_neg h_mt, if_neg h_mt]
    by_cases h_mb : j = 100
    · rw [if_pos h_mb, if_pos h_mb]
      first | rfl | (exfalso; omega)
    rw [if_neg h_mb, if_neg h_mb]
    by_cases h_mz : j = 101
    · rw [if_pos h_mz, if_pos h_mz]
      first | rfl | (exfalso; omega)
    rw [if_neg h_mz, if_neg h_mz]
    by_cases h_mn : j = 102
    · rw [if_pos h_mn, if_pos h_mn]
      first | rfl | (exfalso; omega)
    rw [if_neg h_mn, if_neg h_mn]
    by_cases h_mv : j = 103
    · rw [if_pos h_mv, if_pos h_mv]
      first | rfl | (exfalso; omega)
    rw [if_neg h_mv, if_neg h_mv]
set_option maxHeartbeats 1000000 in
theorem u_m {G : Gl} {K : CS} {ms : Nat → Int32} {mk : Nat → Int32} {mo : Nat → Int32} {ma : Nat → Int32} {mf : Nat → Int32} {ik : Int32} {mt : Nat → Int32} {td : Nat} {fr : Nat} {tt : Nat} {vl : Int32} {wr : Int32} {mb : Nat → Int32} {mz : Nat → Int32} {mn : Nat → Int64} {mv : Nat → Int64} {ik2 vl2 wr2 : Int32} {td2 fr2 tt2 : Nat}  : ∀ j, j < 104 → cel G (K, (ms, mk, mo, ma, mf, ik2, mt, td2, fr2, tt2, vl2, wr2, mb, mz, mn, mv)) j = if j = 93 then ob 5 [.ref (ga G 94), .ref (ga G 95), .ref (ga G 96), .ref (ga G 97), .ref (ga G 98), .int ik2, .ref (ga G 99), .int (nI td2), .int (nI fr2), .int (nI tt2), .int vl2, .int wr2, .ref (ga G 100), .ref (ga G 101), .ref (ga G 102), .ref (ga G 103)] else cel G (K, (ms, mk, mo, ma, mf, ik, mt, td, fr, tt, vl, wr, mb, mz, mn, mv)) j := by
  intro j hj
  by_cases hjk : j = 93
  · rw [if_pos hjk, hjk]
    exact rfl
  · rw [if_neg hjk]
    unfold cel
    by_cases h_obj : j = 0
    · rw [if_pos h_obj, if_pos h_obj]
      first | rfl | (exfalso; omega)
    rw [if_neg h_obj, if_neg h_obj]
    by_cases h_par : j < 4
    · rw [if_pos h_par, if_pos h_par]
      first | rfl | (dsimp only [gP, gS]; unfold va_up; repeat' split <;> first | rfl | (exfalso; omega)) | (dsimp only [gP, gS]; unfold va_up; split <;> (try split) <;> first | rfl | (exfalso; omega))
    rw [if_neg h_par, if_neg h_par]
    by_cases h_wea : j < 7
    · rw [if_pos h_wea, if_pos h_wea]
      first | rfl | (dsimp only [gP, gS]; unfold va_up; repeat' split <;> first | rfl | (exfalso; omega)) | (dsimp only [gP, gS]; unfold va_up; split <;> (try split) <;> first | rfl | (exfalso; omega))
    rw [if_neg h_wea, if_neg h_wea]
    by_cases h_sto : j < 10
    · rw [if_pos h_sto, if_pos h_sto]
      first | rfl | (dsimp only [gP, gS]; unfold va_up; repeat' split <;> first | rfl | (exfalso; omega)) | (dsimp only [gP, gS]; unfold va_up; split <;> (try split) <;> first | rfl | (exfalso; omega))
    rw [if_neg h_sto, if_neg h_sto]
    by_cases h_rou : j < 13
    · rw [if_pos h_rou, if_pos h_rou]
      first | rfl | (dsimp only [gP, gS]; unfold va_up; repeat' split <;> first | rfl | (exfalso; omega)) | (dsimp only [gP, gS]; unfold va_up; split <;> (try split) <;> first | rfl | (exfalso; omega))
    rw [if_neg h_rou, if_neg h_rou]
    by_cases h_ews : j < 16
    · rw [if_pos h_ews, if_pos h_ews]
      first | rfl | (exfalso; omega)
    rw [if_neg h_ews, if_neg h_ews]
    by_cases h_cos : j < 19
    · rw [if_pos h_cos, if_pos h_cos]
      first | rfl | (exfalso; omega)
    rw [if_neg h_cos, if_neg h_cos]
    by_cases h_coa : j < 31
    · rw [if_pos h_coa, if_pos h_coa]
      first | rfl | (dsimp only [gP, gS]; unfold va_up; repeat' split <;> first | rfl | (exfalso; omega)) | (dsimp only [gP, gS]; unfold va_up; split <;> (try split) <;> first | rfl | (exfalso; omega))
    rw [if_neg h_coa, if_neg h_coa]
    by_cases h_ewe : j < 56
    · rw [if_pos h_ewe, if_pos h_ewe]
      first | rfl | (dsimp only [gP, gS]; unfold va_up; repeat' split <;> first | rfl | (exfalso; omega)) | (dsimp only [gP, gS]; unfold va_up; split <;> (try split) <;> first | rfl | (exfalso; omega))
    rw [if_neg h_ewe, if_neg h_ewe]
    by_cases h_fle : j < 81
    · rw [if_pos h_fle, if_pos h_fle]
      first | rfl | (dsimp only [gP, gS]; unfold va_up; repeat' split <;> first | rfl | (exfalso; omega)) | (dsimp only [gP, gS]; unfold va_up; split <;> (try split) <;> first | rfl | (exfalso; omega))
    rw [if_neg h_fle, if_neg h_fle]
    by_cases h_tap : j = 81
    · rw [if_pos h_tap, if_pos h_tap]
      first | rfl | (exfalso; omega)
    rw [if_neg h_tap, if_neg h_tap]
    by_cases h_byt : j = 82
    · rw [if_pos h_byt, if_pos h_byt]
      first | rfl | (exfalso; omega)
    rw [if_neg h_byt, if_neg h_byt]
    by_cases h_shs : j = 83
    · rw [if_pos h_shs, if_pos h_shs]
      first | rfl | (exfalso; omega)
    rw [if_neg h_shs, if_neg h_shs]
    by_cases h_she : j < 88
    · rw [if_pos h_she, if_pos h_she]
      first | rfl | (dsimp only [gP, gS]; unfold va_up; repeat' split <;> first | rfl | (exfalso; omega)) | (dsimp only [gP, gS]; unfold va_up; split <;> (try split) <;> first | rfl | (exfalso; omega))
    rw [if_neg h_she, if_neg h_she]
    by_cases h_num : j < 92
    · rw [if_pos h_num, if_pos h_num]
      first | rfl | (dsimp only [gP, gS]; unfold va_up; repeat' split <;> first | rfl | (exfalso; omega)) | (dsimp only [gP, gS]; unfold va_up; split <;> (try split) <;> first | rfl | (exfalso; omega))
    rw [if_neg h_num, if_neg h_num]
    by_cases h_tol : j = 92
    · rw [if_pos h_tol, if_pos h_tol]
      first | rfl | (exfalso; omega)
    rw [if_neg h_tol, if_neg h_tol]
    by_cases h_mod : j = 93
    · rw [if_pos h_mod, if_pos h_mod]
      first | rfl | (exfalso; omega)
    rw [if_neg h_mod, if_neg h_mod]
    by_cases h_ms : j = 94
    · rw [if_pos h_ms, if_pos h_ms]
      first | rfl | (exfalso; omega)
    rw [if_neg h_ms, if_neg h_ms]
    by_cases h_mk : j = 95
    · rw [if_pos h_mk, if_pos h_mk]
      first | rfl | (exfalso; omega)
    rw [if_neg h_mk, if_neg h_mk]
    by_cases h_mo : j = 96
    · rw [if_pos h_mo, if_pos h_mo]
      first | rfl | (exfalso; omega)
    rw [if_neg h_mo, if_neg h_mo]
    by_cases h_ma : j = 97
    · rw [if_pos h_ma, if_pos h_ma]
      first | rfl | (exfalso; omega)
    rw [if_neg h_ma, if_neg h_ma]
    by_cases h_mf : j = 98
    · rw [if_pos h_mf, if_pos h_mf]
      first | rfl | (exfalso; omega)
    rw [if_neg h_mf, if_neg h_mf]
    by_cases h_mt : j = 99
    · rw [if_pos h_mt, if_pos h_mt]
      first | rfl | (exfalso; omega)
    rw [if_neg h_mt, if_neg h_mt]
    by_cases h_mb : j = 100
    · rw [if_pos h_mb, if_pos h_mb]
      first | rfl | (exfalso; omega)
    rw [if_neg h_mb, if_neg h_mb]
    by_cases h_mz : j = 101
    · rw [if_pos h_mz, if_pos h_mz]
      first | rfl | (exfalso; omega)
    rw [if_neg h_mz, if_neg h_mz]
    by_cases h_mn : j = 102
    · rw [if_pos h_mn, if_pos h_mn]
      first | rfl | (exfalso; omega)
    rw [if_neg h_mn, if_neg h_mn]
    by_cases h_mv : j = 103
    · rw [if_pos h_mv, if_pos h_mv]
      first | rfl | (exfalso; omega)
    rw [if_neg h_mv, if_neg h_mv]
set_option maxHeartbeats 1000000 in
theorem u_ms {G : Gl} {K : CS} {ms : Nat → Int32} {mk : Nat → Int32} {mo : Nat → Int32} {ma : Nat → Int32} {mf : Nat → Int32} {ik : Int32} {mt : Nat → Int32} {td : Nat} {fr : Nat} {tt : Nat} {vl : Int32} {wr : Int32} {mb : Nat → Int32} {mz : Nat → Int32} {mn : Nat → Int64} {mv : Nat → Int64} {ms2 : Nat → Int32}  : ∀ j, j < 104 → cel G (K, (ms2, mk, mo, ma, mf, ik, mt, td, fr, tt, vl, wr, mb, mz, mn, mv)) j = if j = 94 then ai (gcI G) 198 ms2 else cel G (K, (ms, mk, mo, ma, mf, ik, mt, td, fr, tt, vl, wr, mb, mz, mn, mv)) j := by
  intro j hj
  by_cases hjk : j = 94
  · rw [if_pos hjk, hjk]
    exact rfl
  · rw [if_neg hjk]
    unfold cel
    by_cases h_obj : j = 0
    · rw [if_pos h_obj, if_pos h_obj]
      first | rfl | (exfalso; omega)
    rw [if_neg h_obj, if_neg h_obj]
    by_cases h_par : j < 4
    · rw [if_pos h_par, if_pos h_par]
      first | rfl | (dsimp only [gP, gS]; unfold va_up; repeat' split <;> first | rfl | (exfalso; omega)) | (dsimp only [gP, gS]; unfold va_up; split <;> (try split) <;> first | rfl | (exfalso; omega))
    rw [if_neg h_par, if_neg h_par]
    by_cases h_wea : j < 7
    · rw [if_pos h_wea, if_pos h_wea]
      first | rfl | (dsimp only [gP, gS]; unfold va_up; repeat' split <;> first | rfl | (exfalso; omega)) | (dsimp only [gP, gS]; unfold va_up; split <;> (try split) <;> first | rfl | (exfalso; omega))
    rw [if_neg h_wea, if_neg h_wea]
    by_cases h_sto : j < 10
    · rw [if_pos h_sto, if_pos h_sto]
      first | rfl | (dsimp only [gP, gS]; unfold va_up; repeat' split <;> first | rfl | (exfalso; omega)) | (dsimp only [gP, gS]; unfold va_up; split <;> (try split) <;> first | rfl | (exfalso; omega))
    rw [if_neg h_sto, if_neg h_sto]
    by_cases h_rou : j < 13
    · rw [if_pos h_rou, if_pos h_rou]
      first | rfl | (dsimp only [gP, gS]; unfold va_up; repeat' split <;> first | rfl | (exfalso; omega)) | (dsimp only [gP, gS]; unfold va_up; split <;> (try split) <;> first | rfl | (exfalso; omega))
    rw [if_neg h_rou, if_neg h_rou]
    by_cases h_ews : j < 16
    · rw [if_pos h_ews, if_pos h_ews]
      first | rfl | (exfalso; omega)
    rw [if_neg h_ews, if_neg h_ews]
    by_cases h_cos : j < 19
    · rw [if_pos h_cos, if_pos h_cos]
      first | rfl | (exfalso; omega)
    rw [if_neg h_cos, if_neg h_cos]
    by_cases h_coa : j < 31
    · rw [if_pos h_coa, if_pos h_coa]
      first | rfl | (dsimp only [gP, gS]; unfold va_up; repeat' split <;> first | rfl | (exfalso; omega)) | (dsimp only [gP, gS]; unfold va_up; split <;> (try split) <;> first | rfl | (exfalso; omega))
    rw [if_neg h_coa, if_neg h_coa]
    by_cases h_ewe : j < 56
    · rw [if_pos h_ewe, if_pos h_ewe]
      first | rfl | (dsimp only [gP, gS]; unfold va_up; repeat' split <;> first | rfl | (exfalso; omega)) | (dsimp only [gP, gS]; unfold va_up; split <;> (try split) <;> first | rfl | (exfalso; omega))
    rw [if_neg h_ewe, if_neg h_ewe]
    by_cases h_fle : j < 81
    · rw [if_pos h_fle, if_pos h_fle]
      first | rfl | (dsimp only [gP, gS]; unfold va_up; repeat' split <;> first | rfl | (exfalso; omega)) | (dsimp only [gP, gS]; unfold va_up; split <;> (try split) <;> first | rfl | (exfalso; omega))
    rw [if_neg h_fle, if_neg h_fle]
    by_cases h_tap : j = 81
    · rw [if_pos h_tap, if_pos h_tap]
      first | rfl | (exfalso; omega)
    rw [if_neg h_tap, if_neg h_tap]
    by_cases h_byt : j = 82
    · rw [if_pos h_byt, if_pos h_byt]
      first | rfl | (exfalso; omega)
    rw [if_neg h_byt, if_neg h_byt]
    by_cases h_shs : j = 83
    · rw [if_pos h_shs, if_pos h_shs]
      first | rfl | (exfalso; omega)
    rw [if_neg h_shs, if_neg h_shs]
    by_cases h_she : j < 88
    · rw [if_pos h_she, if_pos h_she]
      first | rfl | (dsimp only [gP, gS]; unfold va_up; repeat' split <;> first | rfl | (exfalso; omega)) | (dsimp only [gP, gS]; unfold va_up; split <;> (try split) <;> first | rfl | (exfalso; omega))
    rw [if_neg h_she, if_neg h_she]
    by_cases h_num : j < 92
    · rw [if_pos h_num, if_pos h_num]
      first | rfl | (dsimp only [gP, gS]; unfold va_up; repeat' split <;> first | rfl | (exfalso; omega)) | (dsimp only [gP, gS]; unfold va_up; split <;> (try split) <;> first | rfl | (exfalso; omega))
    rw [if_neg h_num, if_neg h_num]
    by_cases h_tol : j = 92
    · rw [if_pos h_tol, if_pos h_tol]
      first | rfl | (exfalso; omega)
    rw [if_neg h_tol, if_neg h_tol]
    by_cases h_mod : j = 93
    · rw [if_pos h_mod, if_pos h_mod]
      first | rfl | (exfalso; omega)
    rw [if_neg h_mod, if_neg h_mod]
    by_cases h_ms : j = 94
    · rw [if_pos h_ms, if_pos h_ms]
      first | rfl | (exfalso; omega)
    rw [if_neg h_ms, if_neg h_ms]
    by_cases h_mk : j = 95
    · rw [if_pos h_mk, if_pos h_mk]
      first | rfl | (exfalso; omega)
    rw [if_neg h_mk, if_neg h_mk]
    by_cases h_mo : j = 96
    · rw [if_pos h_mo, if_pos h_mo]
      first | rfl | (exfalso; omega)
    rw [if_neg h_mo, if_neg h_mo]
    by_cases h_ma : j = 97
    · rw [if_pos h_ma, if_pos h_ma]
      first | rfl | (exfalso; omega)
    rw [if_neg h_ma, if_neg h_ma]
    by_cases h_mf : j = 98
    · rw [if_pos h_mf, if_pos h_mf]
      first | rfl | (exfalso; omega)
    rw [if_neg h_mf, if_neg h_mf]
    by_cases h_mt : j = 99
    · rw [if_pos h_mt, if_pos h_mt]
      first | rfl | (exfalso; omega)
    rw [if_neg h_mt, if_neg h_mt]
    by_cases h_mb : j = 100
    · rw [if_pos h_mb, if_pos h_mb]
      first | rfl | (exfalso; omega)
    rw [if_neg h_mb, if_neg h_mb]
    by_cases h_mz : j = 101
    · rw [if_pos h_mz, if_pos h_mz]
      first | rfl | (exfalso; omega)
    rw [if_neg h_mz, if_neg h_mz]
    by_cases h_mn : j = 102
    · rw [if_pos h_mn, if_pos h_mn]
      first | rfl | (exfalso; omega)
    rw [if_neg h_mn, if_neg h_mn]
    by_cases h_mv : j = 103
    · rw [if_pos h_mv, if_pos h_mv]
      first | rfl | (exfalso; omega)
    rw [if_neg h_mv, if_neg h_mv]
set_option maxHeartbeats 1000000 in
theorem u_mk {G : Gl} {K : CS} {ms : Nat → Int32} {mk : Nat → Int32} {mo : Nat → Int32} {ma : Nat → Int32} {mf : Nat → Int32} {ik : Int32} {mt : Nat → Int32} {td : Nat} {fr : Nat} {tt : Nat} {vl : Int32} {wr : Int32} {mb : Nat → Int32} {mz : Nat → Int32} {mn : Nat → Int64} {mv : Nat → Int64} {mk2 : Nat → Int32}  : ∀ j, j < 104 → cel G (K, (ms, mk2, mo, ma, mf, ik, mt, td, fr, tt, vl, wr, mb, mz, mn, mv)) j = if j = 95 then ai (gcI G) 198 mk2 else cel G (K, (ms, mk, mo, ma, mf, ik, mt, td, fr, tt, vl, wr, mb, mz, mn, mv)) j := by
  intro j hj
  by_cases hjk : j = 95
  · rw [if_pos hjk, hjk]
    exact rfl
  · rw [if_neg hjk]
    unfold cel
    by_cases h_obj : j = 0
    · rw [if_pos h_obj, if_pos h_obj]
      first | rfl | (exfalso; omega)
    rw [if_neg h_obj, if_neg h_obj]
    by_cases h_par : j < 4
    · rw [if_pos h_par, if_pos h_par]
      first | rfl | (dsimp only [gP, gS]; unfold va_up; repeat' split <;> first | rfl | (exfalso; omega)) | (dsimp only [gP, gS]; unfold va_up; split <;> (try split) <;> first | rfl | (exfalso; omega))
    rw [if_neg h_par, if_neg h_par]
    by_cases h_wea : j < 7
    · rw [if_pos h_wea, if_pos h_wea]
      first | rfl | (dsimp only [gP, gS]; unfold va_up; repeat' split <;> first | rfl | (exfalso; omega)) | (dsimp only [gP, gS]; unfold va_up; split <;> (try split) <;> first | rfl | (exfalso; omega))
    rw [if_neg h_wea, if_neg h_wea]
    by_cases h_sto : j < 10
    · rw [if_pos h_sto, if_pos h_sto]
      first | rfl | (dsimp only [gP, gS]; unfold va_up; repeat' split <;> first | rfl | (exfalso; omega)) | (dsimp only [gP, gS]; unfold va_up; split <;> (try split) <;> first | rfl | (exfalso; omega))
    rw [if_neg h_sto, if_neg h_sto]
    by_cases h_rou : j < 13
    · rw [if_pos h_rou, if_pos h_rou]
      first | rfl | (dsimp only [gP, gS]; unfold va_up; repeat' split <;> first | rfl | (exfalso; omega)) | (dsimp only [gP, gS]; unfold va_up; split <;> (try split) <;> first | rfl | (exfalso; omega))
    rw [if_neg h_rou, if_neg h_rou]
    by_cases h_ews : j < 16
    · rw [if_pos h_ews, if_pos h_ews]
      first | rfl | (exfalso; omega)
    rw [if_neg h_ews, if_neg h_ews]
    by_cases h_cos : j < 19
    · rw [if_pos h_cos, if_pos h_cos]
      first | rfl | (exfalso; omega)
    rw [if_neg h_cos, if_neg h_cos]
    by_cases h_coa : j < 31
    · rw [if_pos h_coa, if_pos h_coa]
      first | rfl | (dsimp only [gP, gS]; unfold va_up; repeat' split <;> first | rfl | (exfalso; omega)) | (dsimp only [gP, gS]; unfold va_up; split <;> (try split) <;> first | rfl | (exfalso; omega))
    rw [if_neg h_coa, if_neg h_coa]
    by_cases h_ewe : j < 56
    · rw [if_pos h_ewe, if_pos h_ewe]
      first | rfl | (dsimp only [gP, gS]; unfold va_up; repeat' split <;> first | rfl | (exfalso; omega)) | (dsimp only [gP, gS]; unfold va_up; split <;> (try split) <;> first | rfl | (exfalso; omega))
    rw [if_neg h_ewe, if_neg h_ewe]
    by_cases h_fle : j < 81
    · rw [if_pos h_fle, if_pos h_fle]
      first | rfl | (dsimp only [gP, gS]; unfold va_up; repeat' split <;> first | rfl | (exfalso; omega)) | (dsimp only [gP, gS]; unfold va_up; split <;> (try split) <;> first | rfl | (exfalso; omega))
    rw [if_neg h_fle, if_neg h_fle]
    by_cases h_tap : j = 81
    · rw [if_pos h_tap, if_pos h_tap]
      first | rfl | (exfalso; omega)
    rw [if_neg h_tap, if_neg h_tap]
    by_cases h_byt : j = 82
    · rw [if_pos h_byt, if_pos h_byt]
      first | rfl | (exfalso; omega)
    rw [if_neg h_byt, if_neg h_byt]
    by_cases h_shs : j = 83
    · rw [if_pos h_shs, if_pos h_shs]
      first | rfl | (exfalso; omega)
    rw [if_neg h_shs, if_neg h_shs]
    by_cases h_she : j < 88
    · rw [if_pos h_she, if_pos h_she]
      first | rfl | (dsimp only [gP, gS]; unfold va_up; repeat' split <;> first | rfl | (exfalso; omega)) | (dsimp only [gP, gS]; unfold va_up; split <;> (try split) <;> first | rfl | (exfalso; omega))
    rw [if_neg h_she, if_neg h_she]
    by_cases h_num : j < 92
    · rw [if_pos h_num, if_pos h_num]
      first | rfl | (dsimp only [gP, gS]; unfold va_up; repeat' split <;> first | rfl | (exfalso; omega)) | (dsimp only [gP, gS]; unfold va_up; split <;> (try split) <;> first | rfl | (exfalso; omega))
    rw [if_neg h_num, if_neg h_num]
    by_cases h_tol : j = 92
    · rw [if_pos h_tol, if_pos h_tol]
      first | rfl | (exfalso; omega)
    rw [if_neg h_tol, if_neg h_tol]
    by_cases h_mod : j = 93
    · rw [if_pos h_mod, if_pos h_mod]
      first | rfl | (exfalso; omega)
    rw [if_neg h_mod, if_neg h_mod]
    by_cases h_ms : j = 94
    · rw [if_pos h_ms, if_pos h_ms]
      first | rfl | (exfalso; omega)
    rw [if_neg h_ms, if_neg h_ms]
    by_cases h_mk : j = 95
    · rw [if_pos h_mk, if_pos h_mk]
      first | rfl | (exfalso; omega)
    rw [if_neg h_mk, if_neg h_mk]
    by_cases h_mo : j = 96
    · rw [if_pos h_mo, if_pos h_mo]
      first | rfl | (exfalso; omega)
    rw [if_neg h_mo, if_neg h_mo]
    by_cases h_ma : j = 97
    · rw [if_pos h_ma, if_pos h_ma]
      first | rfl | (exfalso; omega)
    rw [if_neg h_ma, if_neg h_ma]
    by_cases h_mf : j = 98
    · rw [if_pos h_mf, if_pos h_mf]
      first | rfl | (exfalso; omega)
    rw [if_neg h_mf, if_neg h_mf]
    by_cases h_mt : j = 99
    · rw [if_pos h_mt, if_pos h_mt]
      first | rfl | (exfalso; omega)
    rw [if_neg h_mt, if_neg h_mt]
    by_cases h_mb : j = 100
    · rw [if_pos h_mb, if_pos h_mb]
      first | rfl | (exfalso; omega)
    rw [if_neg h_mb, if_neg h_mb]
    by_cases h_mz : j = 101
    · rw [if_pos h_mz, if_pos h_mz]
      first | rfl | (exfalso; omega)
    rw [if_neg h_mz, if_neg h_mz]
    by_cases h_mn : j = 102
    · rw [if_pos h_mn, if_pos h_mn]
      first | rfl | (exfalso; omega)
    rw [if_neg h_mn, if_neg h_mn]
    by_cases h_mv : j = 103
    · rw [if_pos h_mv, if_pos h_mv]
      first | rfl | (exfalso; omega)
    rw [if_neg h_mv, if_neg h_mv]
set_option maxHeartbeats 1000000 in
theorem u_mot {G : Gl} {K : CS} {ms : Nat → Int32} {mk : Nat → Int32} {mo : Nat → Int32} {ma : Nat → Int32} {mf : Nat → Int32} {ik : Int32} {mt : Nat → Int32} {td : Nat} {fr : Nat} {tt : Nat} {vl : Int32} {wr : Int32} {mb : Nat → Int32} {mz : Nat → Int32} {mn : Nat → Int64} {mv : Nat → Int64} {mo2 : Nat → Int32}  : ∀ j, j < 104 → cel G (K, (ms, mk, mo2, ma, mf, ik, mt, td, fr, tt, vl, wr, mb, mz, mn, mv)) j = if j = 96 then ai (gcI G) 198 mo2 else cel G (K, (ms, mk, mo, ma, mf, ik, mt, td, fr, tt, vl, wr, mb, mz, mn, mv)) j := by
  intro j hj
  by_cases hjk : j = 96
  · rw [if_pos hjk, hjk]
    exact rfl
  · rw [if_neg hjk]
    unfold cel
    by_cases h_obj : j = 0
    · rw [if_pos h_obj, if_pos h_obj]
      first | rfl | (exfalso; omega)
    rw [if_neg h_obj, if_neg h_obj]
    by_cases h_par : j < 4
    · rw [if_pos h_par, if_pos h_par]
      first | rfl | (dsimp only [gP, gS]; unfold va_up; repeat' split <;> first | rfl | (exfalso; omega)) | (dsimp only [gP, gS]; unfold va_up; split <;> (try split) <;> first | rfl | (exfalso; omega))
    rw [if_neg h_par, if_neg h_par]
    by_cases h_wea : j < 7
    · rw [if_pos h_wea, if_pos h_wea]
      first | rfl | (dsimp only [gP, gS]; unfold va_up; repeat' split <;> first | rfl | (exfalso; omega)) | (dsimp only [gP, gS]; unfold va_up; split <;> (try split) <;> first | rfl | (exfalso; omega))
    rw [if_neg h_wea, if_neg h_wea]
    by_cases h_sto : j < 10
    · rw [if_pos h_sto, if_pos h_sto]
      first | rfl | (dsimp only [gP, gS]; unfold va_up; repeat' split <;> first | rfl | (exfalso; omega)) | (dsimp only [gP, gS]; unfold va_up; split <;> (try split) <;> first | rfl | (exfalso; omega))
    rw [if_neg h_sto, if_neg h_sto]
    by_cases h_rou : j < 13
    · rw [if_pos h_rou, if_pos h_rou]
      first | rfl | (dsimp only [gP, gS]; unfold va_up; repeat' split <;> first | rfl | (exfalso; omega)) | (dsimp only [gP, gS]; unfold va_up; split <;> (try split) <;> first | rfl | (exfalso; omega))
    rw [if_neg h_rou, if_neg h_rou]
    by_cases h_ews : j < 16
    · rw [if_pos h_ews, if_pos h_ews]
      first | rfl | (exfalso; omega)
    rw [if_neg h_ews, if_neg h_ews]
    by_cases h_cos : j < 19
    · rw [if_pos h_cos, if_pos h_cos]
      first | rfl | (exfalso; omega)
    rw [if_neg h_cos, if_neg h_cos]
    by_cases h_coa : j < 31
    · rw [if_pos h_coa, if_pos h_coa]
      first | rfl | (dsimp only [gP, gS]; unfold va_up; repeat' split <;> first | rfl | (exfalso; omega)) | (dsimp only [gP, gS]; unfold va_up; split <;> (try split) <;> first | rfl | (exfalso; omega))
    rw [if_neg h_coa, if_neg h_coa]
    by_cases h_ewe : j < 56
    · rw [if_pos h_ewe, if_pos h_ewe]
      first | rfl | (dsimp only [gP, gS]; unfold va_up; repeat' split <;> first | rfl | (exfalso; omega)) | (dsimp only [gP, gS]; unfold va_up; split <;> (try split) <;> first | rfl | (exfalso; omega))
    rw [if_neg h_ewe, if_neg h_ewe]
    by_cases h_fle : j < 81
    · rw [if_pos h_fle, if_pos h_fle]
      first | rfl | (dsimp only [gP, gS]; unfold va_up; repeat' split <;> first | rfl | (exfalso; omega)) | (dsimp only [gP, gS]; unfold va_up; split <;> (try split) <;> first | rfl | (exfalso; omega))
    rw [if_neg h_fle, if_neg h_fle]
    by_cases h_tap : j = 81
    · rw [if_pos h_tap, if_pos h_tap]
      first | rfl | (exfalso; omega)
    rw [if_neg h_tap, if_neg h_tap]
    by_cases h_byt : j = 82
    · rw [if_pos h_byt, if_pos h_byt]
      first | rfl | (exfalso; omega)
    rw [if_neg h_byt, if_neg h_byt]
    by_cases h_shs : j = 83
    · rw [if_pos h_shs, if_pos h_shs]
      first | rfl | (exfalso; omega)
    rw [if_neg h_shs, if_neg h_shs]
    by_cases h_she : j < 88
    · rw [if_pos h_she, if_pos h_she]
      first | rfl | (dsimp only [gP, gS]; unfold va_up; repeat' split <;> first | rfl | (exfalso; omega)) | (dsimp only [gP, gS]; unfold va_up; split <;> (try split) <;> first | rfl | (exfalso; omega))
    rw [if_neg h_she, if_neg h_she]
    by_cases h_num : j < 92
    · rw [if_pos h_num, if_pos h_num]
      first | rfl | (dsimp only [gP, gS]; unfold va_up; repeat' split <;> first | rfl | (exfalso; omega)) | (dsimp only [gP, gS]; unfold va_up; split <;> (try split) <;> first | rfl | (exfalso; omega))
    rw [if_neg h_num, if_neg h_num]
    by_cases h_tol : j = 92
    · rw [if_pos h_tol, if_pos h_tol]
      first | rfl | (exfalso; omega)
    rw [if_neg h_tol, if_neg h_tol]
    by_cases h_mod : j = 93
    · rw [if_pos h_mod, if_pos h_mod]
      first | rfl | (exfalso; omega)
    rw [if_neg h_mod, if_neg h_mod]
    by_cases h_ms : j = 94
    · rw [if_pos h_ms, if_pos h_ms]
      first | rfl | (exfalso; omega)
    rw [if_neg h_ms, if_neg h_ms]
    by_cases h_mk : j = 95
    · rw [if_pos h_mk, if_pos h_mk]
      first | rfl | (exfalso; omega)
    rw [if_neg h_mk, if_neg h_mk]
    by_cases h_mo : j = 96
    · rw [if_pos h_mo, if_pos h_mo]
      first | rfl | (exfalso; omega)
    rw [if_neg h_mo, if_neg h_mo]
    by_cases h_ma : j = 97
    · rw [if_pos h_ma, if_pos h_ma]
      first | rfl | (exfalso; omega)
    rw [if_neg h_ma, if_neg h_ma]
    by_cases h_mf : j = 98
    · rw [if_pos h_mf, if_pos h_mf]
      first | rfl | (exfalso; omega)
    rw [if_neg h_mf, if_neg h_mf]
    by_cases h_mt : j = 99
    · rw [if_pos h_mt, if_pos h_mt]
      first | rfl | (exfalso; omega)
    rw [if_neg h_mt, if_neg h_mt]
    by_cases h_mb : j = 100
    · rw [if_pos h_mb, if_pos h_mb]
      first | rfl | (exfalso; omega)
    rw [if_neg h_mb, if_neg h_mb]
    by_cases h_mz : j = 101
    · rw [if_pos h_mz, if_pos h_mz]
      first | rfl | (exfalso; omega)
    rw [if_neg h_mz, if_neg h_mz]
    by_cases h_mn : j = 102
    · rw [if_pos h_mn, if_pos h_mn]
      first | rfl | (exfalso; omega)
    rw [if_neg h_mn, if_neg h_mn]
    by_cases h_mv : j = 103
    · rw [if_pos h_mv, if_pos h_mv]
      first | rfl | (exfalso; omega)
    rw [if_neg h_mv, if_neg h_mv]
set_option maxHeartbeats 1000000 in
theorem u_ma {G : Gl} {K : CS} {ms : Nat → Int32} {mk : Nat → Int32} {mo : Nat → Int32} {ma : Nat → Int32} {mf : Nat → Int32} {ik : Int32} {mt : Nat → Int32} {td : Nat} {fr : Nat} {tt : Nat} {vl : Int32} {wr : Int32} {mb : Nat → Int32} {mz : Nat → Int32} {mn : Nat → Int64} {mv : Nat → Int64} {ma2 : Nat → Int32}  : ∀ j, j < 104 → cel G (K, (ms, mk, mo, ma2, mf, ik, mt, td, fr, tt, vl, wr, mb, mz, mn, mv)) j = if j = 97 then ai (gcI G) 198 ma2 else cel G (K, (ms, mk, mo, ma, mf, ik, mt, td, fr, tt, vl, wr, mb, mz, mn, mv)) j := by
  intro j hj
  by_cases hjk : j = 97
  · rw [if_pos hjk, hjk]
    exact rfl
  · rw [if_neg hjk]
    unfold cel
    by_cases h_obj : j = 0
    · rw [if_pos h_obj, if_pos h_obj]
      first | rfl | (exfalso; omega)
    rw [if_neg h_obj, if_neg h_obj]
    by_cases h_par : j < 4
    · rw [if_pos h_par, if_pos h_par]
      first | rfl | (dsimp only [gP, gS]; unfold va_up; repeat' split <;> first | rfl | (exfalso; omega)) | (dsimp only [gP, gS]; unfold va_up; split <;> (try split) <;> first | rfl | (exfalso; omega))
    rw [if_neg h_par, if_neg h_par]
    by_cases h_wea : j < 7
    · rw [if_pos h_wea, if_pos h_wea]
      first | rfl | (dsimp only [gP, gS]; unfold va_up; repeat' split <;> first | rfl | (exfalso; omega)) | (dsimp only [gP, gS]; unfold va_up; split <;> (try split) <;> first | rfl | (exfalso; omega))
    rw [if_neg h_wea, if_neg h_wea]
    by_cases h_sto : j < 10
    · rw [if_pos h_sto, if_pos h_sto]
      first | rfl | (dsimp only [gP, gS]; unfold va_up; repeat' split <;> first | rfl | (exfalso; omega)) | (dsimp only [gP, gS]; unfold va_up; split <;> (try split) <;> first | rfl | (exfalso; omega))
    rw [if_neg h_sto, if_neg h_sto]
    by_cases h_rou : j < 13
    · rw [if_pos h_rou, if_pos h_rou]
      first | rfl | (dsimp only [gP, gS]; unfold va_up; repeat' split <;> first | rfl | (exfalso; omega)) | (dsimp only [gP, gS]; unfold va_up; split <;> (try split) <;> first | rfl | (exfalso; omega))
    rw [if_neg h_rou, if_neg h_rou]
    by_cases h_ews : j < 16
    · rw [if_pos h_ews, if_pos h_ews]
      first | rfl | (exfalso; omega)
    rw [if_neg h_ews, if_neg h_ews]
    by_cases h_cos : j < 19
    · rw [if_pos h_cos, if_pos h_cos]
      first | rfl | (exfalso; omega)
    rw [if_neg h_cos, if_neg h_cos]
    by_cases h_coa : j < 31
    · rw [if_pos h_coa, if_pos h_coa]
      first | rfl | (dsimp only [gP, gS]; unfold va_up; repeat' split <;> first | rfl | (exfalso; omega)) | (dsimp only [gP, gS]; unfold va_up; split <;> (try split) <;> first | rfl | (exfalso; omega))
    rw [if_neg h_coa, if_neg h_coa]
    by_cases h_ewe : j < 56
    · rw [if_pos h_ewe, if_pos h_ewe]
      first | rfl | (dsimp only [gP, gS]; unfold va_up; repeat' split <;> first | rfl | (exfalso; omega)) | (dsimp only [gP, gS]; unfold va_up; split <;> (try split) <;> first | rfl | (exfalso; omega))
    rw [if_neg h_ewe, if_neg h_ewe]
    by_cases h_fle : j < 81
    · rw [if_pos h_fle, if_pos h_fle]
      first | rfl | (dsimp only [gP, gS]; unfold va_up; repeat' split <;> first | rfl | (exfalso; omega)) | (dsimp only [gP, gS]; unfold va_up; split <;> (try split) <;> first | rfl | (exfalso; omega))
    rw [if_neg h_fle, if_neg h_fle]
    by_cases h_tap : j = 81
    · rw [if_pos h_tap, if_pos h_tap]
      first | rfl | (exfalso; omega)
    rw [if_neg h_tap, if_neg h_tap]
    by_cases h_byt : j = 82
    · rw [if_pos h_byt, if_pos h_byt]
      first | rfl | (exfalso; omega)
    rw [if_neg h_byt, if_neg h_byt]
    by_cases h_shs : j = 83
    · rw [if_pos h_shs, if_pos h_shs]
      first | rfl | (exfalso; omega)
    rw [if_neg h_shs, if_neg h_shs]
    by_cases h_she : j < 88
    · rw [if_pos h_she, if_pos h_she]
      first | rfl | (dsimp only [gP, gS]; unfold va_up; repeat' split <;> first | rfl | (exfalso; omega)) | (dsimp only [gP, gS]; unfold va_up; split <;> (try split) <;> first | rfl | (exfalso; omega))
    rw [if_neg h_she, if_neg h_she]
    by_cases h_num : j < 92
    · rw [if_pos h_num, if_pos h_num]
      first | rfl | (dsimp only [gP, gS]; unfold va_up; repeat' split <;> first | rfl | (exfalso; omega)) | (dsimp only [gP, gS]; unfold va_up; split <;> (try split) <;> first | rfl | (exfalso; omega))
    rw [if_neg h_num, if_neg h_num]
    by_cases h_tol : j = 92
    · rw [if_pos h_tol, if_pos h_tol]
      first | rfl | (exfalso; omega)
    rw [if_neg h_tol, if_neg h_tol]
    by_cases h_mod : j = 93
    · rw [if_pos h_mod, if_pos h_mod]
      first | rfl | (exfalso; omega)
    rw [if_neg h_mod, if_neg h_mod]
    by_cases h_ms : j = 94
    · rw [if_pos h_ms, if_pos h_ms]
      first | rfl | (exfalso; omega)
    rw [if_neg h_ms, if_neg h_ms]
    by_cases h_mk : j = 95
    · rw [if_pos h_mk, if_pos h_mk]
      first | rfl | (exfalso; omega)
    rw [if_neg h_mk, if_neg h_mk]
    by_cases h_mo : j = 96
    · rw [if_pos h_mo, if_pos h_mo]
      first | rfl | (exfalso; omega)
    rw [if_neg h_mo, if_neg h_mo]
    by_cases h_ma : j = 97
    · rw [if_pos h_ma, if_pos h_ma]
      first | rfl | (exfalso; omega)
    rw [if_neg h_ma, if_neg h_ma]
    by_cases h_mf : j = 98
    · rw [if_pos h_mf, if_pos h_mf]
      first | rfl | (exfalso; omega)
    rw [if_neg h_mf, if_neg h_mf]
    by_cases h_mt : j = 99
    · rw [if_pos h_mt, if_pos h_mt]
      first | rfl | (exfalso; omega)
    rw [if_neg h_mt, if_neg h_mt]
    by_cases h_mb : j = 100
    · rw [if_pos h_mb, if_pos h_mb]
      first | rfl | (exfalso; omega)
    rw [if_neg h_mb, if_neg h_mb]
    by_cases h_mz : j = 101
    · rw [if_pos h_mz, if_pos h_mz]
      first | rfl | (exfalso; omega)
    rw [if_neg h_mz, if_neg h_mz]
    by_cases h_mn : j = 102
    · rw [if_pos h_mn, if_pos h_mn]
      first | rfl | (exfalso; omega)
    rw [if_neg h_mn, if_neg h_mn]
    by_cases h_mv : j = 103
    · rw [if_pos h_mv, if_pos h_mv]
      first | rfl | (exfalso; omega)
    rw [if_neg h_mv, if_neg h_mv]
set_option maxHeartbeats 1000000 in
theorem u_mf {G : Gl} {K : CS} {ms : Nat → Int32} {mk : Nat → Int32} {mo : Nat → Int32} {ma : Nat → Int32} {mf : Nat → Int32} {ik : Int32} {mt : Nat → Int32} {td : Nat} {fr : Nat} {tt : Nat} {vl : Int32} {wr : Int32} {mb : Nat → Int32} {mz : Nat → Int32} {mn : Nat → Int64} {mv : Nat → Int64} {mf2 : Nat → Int32}  : ∀ j, j < 104 → cel G (K, (ms, mk, mo, ma, mf2, ik, mt, td, fr, tt, vl, wr, mb, mz, mn, mv)) j = if j = 98 then ai (gcI G) 7 mf2 else cel G (K, (ms, mk, mo, ma, mf, ik, mt, td, fr, tt, vl, wr, mb, mz, mn, mv)) j := by
  intro j hj
  by_cases hjk : j = 98
  · rw [if_pos hjk, hjk]
    exact rfl
  · rw [if_neg hjk]
    unfold cel
    by_cases h_obj : j = 0
    · rw [if_pos h_obj, if_pos h_obj]
      first | rfl | (exfalso; omega)
    rw [if_neg h_obj, if_neg h_obj]
    by_cases h_par : j < 4
    · rw [if_pos h_par, if_pos h_par]
      first | rfl | (dsimp only [gP, gS]; unfold va_up; repeat' split <;> first | rfl | (exfalso; omega)) | (dsimp only [gP, gS]; unfold va_up; split <;> (try split) <;> first | rfl | (exfalso; omega))
    rw [if_neg h_par, if_neg h_par]
    by_cases h_wea : j < 7
    · rw [if_pos h_wea, if_pos h_wea]
      first | rfl | (dsimp only [gP, gS]; unfold va_up; repeat' split <;> first | rfl | (exfalso; omega)) | (dsimp only [gP, gS]; unfold va_up; split <;> (try split) <;> first | rfl | (exfalso; omega))
    rw [if_neg h_wea, if_neg h_wea]
    by_cases h_sto : j < 10
    · rw [if_pos h_sto, if_pos h_sto]
      first | rfl | (dsimp only [gP, gS]; unfold va_up; repeat' split <;> first | rfl | (exfalso; omega)) | (dsimp only [gP, gS]; unfold va_up; split <;> (try split) <;> first | rfl | (exfalso; omega))
    rw [if_neg h_sto, if_neg h_sto]
    by_cases h_rou : j < 13
    · rw [if_pos h_rou, if_pos h_rou]
      first | rfl | (dsimp only [gP, gS]; unfold va_up; repeat' split <;> first | rfl | (exfalso; omega)) | (dsimp only [gP, gS]; unfold va_up; split <;> (try split) <;> first | rfl | (exfalso; omega))
    rw [if_neg h_rou, if_neg h_rou]
    by_cases h_ews : j < 16
    · rw [if_pos h_ews, if_pos h_ews]
      first | rfl | (exfalso; omega)
    rw [if_neg h_ews, if_neg h_ews]
    by_cases h_cos : j < 19
    · rw [if_pos h_cos, if_pos h_cos]
      first | rfl | (exfalso; omega)
    rw [if_neg h_cos, if_neg h_cos]
    by_cases h_coa : j < 31
    · rw [if_pos h_coa, if_pos h_coa]
      first | rfl | (dsimp only [gP, gS]; unfold va_up; repeat' split <;> first | rfl | (exfalso; omega)) | (dsimp only [gP, gS]; unfold va_up; split <;> (try split) <;> first | rfl | (exfalso; omega))
    rw [if_neg h_coa, if_neg h_coa]
    by_cases h_ewe : j < 56
    · rw [if_pos h_ewe, if_pos h_ewe]
      first | rfl | (dsimp only [gP, gS]; unfold va_up; repeat' split <;> first | rfl | (exfalso; omega)) | (dsimp only [gP, gS]; unfold va_up; split <;> (try split) <;> first | rfl | (exfalso; omega))
    rw [if_neg h_ewe, if_neg h_ewe]
    by_cases h_fle : j < 81
    · rw [if_pos h_fle, if_pos h_fle]
      first | rfl | (dsimp only [gP, gS]; unfold va_up; repeat' split <;> first | rfl | (exfalso; omega)) | (dsimp only [gP, gS]; unfold va_up; split <;> (try split) <;> first | rfl | (exfalso; omega))
    rw [if_neg h_fle, if_neg h_fle]
    by_cases h_tap : j = 81
    · rw [if_pos h_tap, if_pos h_tap]
      first | rfl | (exfalso; omega)
    rw [if_neg h_tap, if_neg h_tap]
    by_cases h_byt : j = 82
    · rw [if_pos h_byt, if_pos h_byt]
      first | rfl | (exfalso; omega)
    rw [if_neg h_byt, if_neg h_byt]
    by_cases h_shs : j = 83
    · rw [if_pos h_shs, if_pos h_shs]
      first | rfl | (exfalso; omega)
    rw [if_neg h_shs, if_neg h_shs]
    by_cases h_she : j < 88
    · rw [if_pos h_she, if_pos h_she]
      first | rfl | (dsimp only [gP, gS]; unfold va_up; repeat' split <;> first | rfl | (exfalso; omega)) | (dsimp only [gP, gS]; unfold va_up; split <;> (try split) <;> first | rfl | (exfalso; omega))
    rw [if_neg h_she, if_neg h_she]
    by_cases h_num : j < 92
    · rw [if_pos h_num, if_pos h_num]
      first | rfl | (dsimp only [gP, gS]; unfold va_up; repeat' split <;> first | rfl | (exfalso; omega)) | (dsimp only [gP, gS]; unfold va_up; split <;> (try split) <;> first | rfl | (exfalso; omega))
    rw [if_neg h_num, if_neg h_num]
    by_cases h_tol : j = 92
    · rw [if_pos h_tol, if_pos h_tol]
      first | rfl | (exfalso; omega)
    rw [if_neg h_tol, if_neg h_tol]
    by_cases h_mod : j = 93
    · rw [if_pos h_mod, if_pos h_mod]
      first | rfl | (exfalso; omega)
    rw [if_neg h_mod, if_neg h_mod]
    by_cases h_ms : j = 94
    · rw [if_pos h_ms, if_pos h_ms]
      first | rfl | (exfalso; omega)
    rw [if_neg h_ms, if_neg h_ms]
    by_cases h_mk : j = 95
    · rw [if_pos h_mk, if_pos h_mk]
      first | rfl | (exfalso; omega)
    rw [if_neg h_mk, if_neg h_mk]
    by_cases h_mo : j = 96
    · rw [if_pos h_mo, if_pos h_mo]
      first | rfl | (exfalso; omega)
    rw [if_neg h_mo, if_neg h_mo]
    by_cases h_ma : j = 97
    · rw [if_pos h_ma, if_pos h_ma]
      first | rfl | (exfalso; omega)
    rw [if_neg h_ma, if_neg h_ma]
    by_cases h_mf : j = 98
    · rw [if_pos h_mf, if_pos h_mf]
      first | rfl | (exfalso; omega)
    rw [if_neg h_mf, if_neg h_mf]
    by_cases h_mt : j = 99
    · rw [if_pos h_mt, if_pos h_mt]
      first | rfl | (exfalso; omega)
    rw [if_neg h_mt, if_neg h_mt]
    by_cases h_mb : j = 100
    · rw [if_pos h_mb, if_pos h_mb]
      first | rfl | (exfalso; omega)
    rw [if_neg h_mb, if_neg h_mb]
    by_cases h_mz : j = 101
    · rw [if_pos h_mz, if_pos h_mz]
      first | rfl | (exfalso; omega)
    rw [if_neg h_mz, if_neg h_mz]
    by_cases h_mn : j = 102
    · rw [if_pos h_mn, if_pos h_mn]
      first | rfl | (exfalso; omega)
    rw [if_neg h_mn, if_neg h_mn]
    by_cases h_mv : j = 103
    · rw [if_pos h_mv, if_pos h_mv]
      first | rfl | (exfalso; omega)
    rw [if_neg h_mv, if_neg h_mv]
set_option maxHeartbeats 1000000 in
theorem u_mt {G : Gl} {K : CS} {ms : Nat → Int32} {mk : Nat → Int32} {mo : Nat → Int32} {ma : Nat → Int32} {mf : Nat → Int32} {ik : Int32} {mt : Nat → Int32} {td : Nat} {fr : Nat} {tt : Nat} {vl : Int32} {wr : Int32} {mb : Nat → Int32} {mz : Nat → Int32} {mn : Nat → Int64} {mv : Nat → Int64} {mt2 : Nat → Int32}  : ∀ j, j < 104 → cel G (K, (ms, mk, mo, ma, mf, ik, mt2, td, fr, tt, vl, wr, mb, mz, mn, mv)) j = if j = 99 then ai (gcI G) 120 mt2 else cel G (K, (ms, mk, mo, ma, mf, ik, mt, td, fr, tt, vl, wr, mb, mz, mn, mv)) j := by
  intro j hj
  by_cases hjk : j = 99
  · rw [if_pos hjk, hjk]
    exact rfl
  · rw [if_neg hjk]
    unfold cel
    by_cases h_obj : j = 0
    · rw [if_pos h_obj, if_pos h_obj]
      first | rfl | (exfalso; omega)
    rw [if_neg h_obj, if_neg h_obj]
    by_cases h_par : j < 4
    · rw [if_pos h_par, if_pos h_par]
      first | rfl | (dsimp only [gP, gS]; unfold va_up; repeat' split <;> first | rfl | (exfalso; omega)) | (dsimp only [gP, gS]; unfold va_up; split <;> (try split) <;> first | rfl | (exfalso; omega))
    rw [if_neg h_par, if_neg h_par]
    by_cases h_wea : j < 7
    · rw [if_pos h_wea, if_pos h_wea]
      first | rfl | (dsimp only [gP, gS]; unfold va_up; repeat' split <;> first | rfl | (exfalso; omega)) | (dsimp only [gP, gS]; unfold va_up; split <;> (try split) <;> first | rfl | (exfalso; omega))
    rw [if_neg h_wea, if_neg h_wea]
    by_cases h_sto : j < 10
    · rw [if_pos h_sto, if_pos h_sto]
      first | rfl | (dsimp only [gP, gS]; unfold va_up; repeat' split <;> first | rfl | (exfalso; omega)) | (dsimp only [gP, gS]; unfold va_up; split <;> (try split) <;> first | rfl | (exfalso; omega))
    rw [if_neg h_sto, if_neg h_sto]
    by_cases h_rou : j < 13
    · rw [if_pos h_rou, if_pos h_rou]
      first | rfl | (dsimp only [gP, gS]; unfold va_up; repeat' split <;> first | rfl | (exfalso; omega)) | (dsimp only [gP, gS]; unfold va_up; split <;> (try split) <;> first | rfl | (exfalso; omega))
    rw [if_neg h_rou, if_neg h_rou]
    by_cases h_ews : j < 16
    · rw [if_pos h_ews, if_pos h_ews]
      first | rfl | (exfalso; omega)
    rw [if_neg h_ews, if_neg h_ews]
    by_cases h_cos : j < 19
    · rw [if_pos h_cos, if_pos h_cos]
      first | rfl | (exfalso; omega)
    rw [if_neg h_cos, if_neg h_cos]
    by_cases h_coa : j < 31
    · rw [if_pos h_coa, if_pos h_coa]
      first | rfl | (dsimp only [gP, gS]; unfold va_up; repeat' split <;> first | rfl | (exfalso; omega)) | (dsimp only [gP, gS]; unfold va_up; split <;> (try split) <;> first | rfl | (exfalso; omega))
    rw [if_neg h_coa, if_neg h_coa]
    by_cases h_ewe : j < 56
    · rw [if_pos h_ewe, if_pos h_ewe]
      first | rfl | (dsimp only [gP, gS]; unfold va_up; repeat' split <;> first | rfl | (exfalso; omega)) | (dsimp only [gP, gS]; unfold va_up; split <;> (try split) <;> first | rfl | (exfalso; omega))
    rw [if_neg h_ewe, if_neg h_ewe]
    by_cases h_fle : j < 81
    · rw [if_pos h_fle, if_pos h_fle]
      first | rfl | (dsimp only [gP, gS]; unfold va_up; repeat' split <;> first | rfl | (exfalso; omega)) | (dsimp only [gP, gS]; unfold va_up; split <;> (try split) <;> first | rfl | (exfalso; omega))
    rw [if_neg h_fle, if_neg h_fle]
    by_cases h_tap : j = 81
    · rw [if_pos h_tap, if_pos h_tap]
      first | rfl | (exfalso; omega)
    rw [if_neg h_tap, if_neg h_tap]
    by_cases h_byt : j = 82
    · rw [if_pos h_byt, if_pos h_byt]
      first | rfl | (exfalso; omega)
    rw [if_neg h_byt, if_neg h_byt]
    by_cases h_shs : j = 83
    · rw [if_pos h_shs, if_pos h_shs]
      first | rfl | (exfalso; omega)
    rw [if_neg h_shs, if_neg h_shs]
    by_cases h_she : j < 88
    · rw [if_pos h_she, if_pos h_she]
      first | rfl | (dsimp only [gP, gS]; unfold va_up; repeat' split <;> first | rfl | (exfalso; omega)) | (dsimp only [gP, gS]; unfold va_up; split <;> (try split) <;> first | rfl | (exfalso; omega))
    rw [if_neg h_she, if_neg h_she]
    by_cases h_num : j < 92
    · rw [if_pos h_num, if_pos h_num]
      first | rfl | (dsimp only [gP, gS]; unfold va_up; repeat' split <;> first | rfl | (exfalso; omega)) | (dsimp only [gP, gS]; unfold va_up; split <;> (try split) <;> first | rfl | (exfalso; omega))
    rw [if_neg h_num, if_neg h_num]
    by_cases h_tol : j = 92
    · rw [if_pos h_tol, if_pos h_tol]
      first | rfl | (exfalso; omega)
    rw [if_neg h_tol, if_neg h_tol]
    by_cases h_mod : j = 93
    · rw [if_pos h_mod, if_pos h_mod]
      first | rfl | (exfalso; omega)
    rw [if_neg h_mod, if_neg h_mod]
    by_cases h_ms : j = 94
    · rw [if_pos h_ms, if_pos h_ms]
      first | rfl | (exfalso; omega)
    rw [if_neg h_ms, if_neg h_ms]
    by_cases h_mk : j = 95
    · rw [if_pos h_mk, if_pos h_mk]
      first | rfl | (exfalso; omega)
    rw [if_neg h_mk, if_neg h_mk]
    by_cases h_mo : j = 96
    · rw [if_pos h_mo, if_pos h_mo]
      first | rfl | (exfalso; omega)
    rw [if_neg h_mo, if_neg h_mo]
    by_cases h_ma : j = 97
    · rw [if_pos h_ma, if_pos h_ma]
      first | rfl | (exfalso; omega)
    rw [if_neg h_ma, if_neg h_ma]
    by_cases h_mf : j = 98
    · rw [if_pos h_mf, if_pos h_mf]
      first | rfl | (exfalso; omega)
    rw [if_neg h_mf, if_neg h_mf]
    by_cases h_mt : j = 99
    · rw [if_pos h_mt, if_pos h_mt]
      first | rfl | (exfalso; omega)
    rw [if_neg h_mt, if_neg h_mt]
    by_cases h_mb : j = 100
    · rw [if_pos h_mb, if_pos h_mb]
      first | rfl | (exfalso; omega)
    rw [if_neg h_mb, if_neg h_mb]
    by_cases h_mz : j = 101
    · rw [if_pos h_mz, if_pos h_mz]
      first | rfl | (exfalso; omega)
    rw [if_neg h_mz, if_neg h_mz]
    by_cases h_mn : j = 102
    · rw [if_pos h_mn, if_pos h_mn]
      first | rfl | (exfalso; omega)
    rw [if_neg h_mn, if_neg h_mn]
    by_cases h_mv : j = 103
    · rw [if_pos h_mv, if_pos h_mv]
      first | rfl | (exfalso; omega)
    rw [if_neg h_mv, if_neg h_mv]
set_option maxHeartbeats 1000000 in
theorem u_mb {G : Gl} {K : CS} {ms : Nat → Int32} {mk : Nat → Int32} {mo : Nat → Int32} {ma : Nat → Int32} {mf : Nat → Int32} {ik : Int32} {mt : Nat → Int32} {td : Nat} {fr : Nat} {tt : Nat} {vl : Int32} {wr : Int32} {mb : Nat → Int32} {mz : Nat → Int32} {mn : Nat → Int64} {mv : Nat → Int64} {mb2 : Nat → Int32}  : ∀ j, j < 104 → cel G (K, (ms, mk, mo, ma, mf, ik, mt, td, fr, tt, vl, wr, mb2, mz, mn, mv)) j = if j = 100 then ai (gcI G) 4 mb2 else cel G (K, (ms, mk, mo, ma, mf, ik, mt, td, fr, tt, vl, wr, mb, mz, mn, mv)) j := by
  intro j hj
  by_cases hjk : j = 100
  · rw [if_pos hjk, hjk]
    exact rfl
  · rw [if_neg hjk]
    unfold cel
    by_cases h_obj : j = 0
    · rw [if_pos h_obj, if_pos h_obj]
      first | rfl | (exfalso; omega)
    rw [if_neg h_obj, if_neg h_obj]
    by_cases h_par : j < 4
    · rw [if_pos h_par, if_pos h_par]
      first | rfl | (dsimp only [gP, gS]; unfold va_up; repeat' split <;> first | rfl | (exfalso; omega)) | (dsimp only [gP, gS]; unfold va_up; split <;> (try split) <;> first | rfl | (exfalso; omega))
    rw [if_neg h_par, if_neg h_par]
    by_cases h_wea : j < 7
    · rw [if_pos h_wea, if_pos h_wea]
      first | rfl | (dsimp only [gP, gS]; unfold va_up; repeat' split <;> first | rfl | (exfalso; omega)) | (dsimp only [gP, gS]; unfold va_up; split <;> (try split) <;> first | rfl | (exfalso; omega))
    rw [if_neg h_wea, if_neg h_wea]
    by_cases h_sto : j < 10
    · rw [if_pos h_sto, if_pos h_sto]
      first | rfl | (dsimp only [gP, gS]; unfold va_up; repeat' split <;> first | rfl | (exfalso; omega)) | (dsimp only [gP, gS]; unfold va_up; split <;> (try split) <;> first | rfl | (exfalso; omega))
    rw [if_neg h_sto, if_neg h_sto]
    by_cases h_rou : j < 13
    · rw [if_pos h_rou, if_pos h_rou]
      first | rfl | (dsimp only [gP, gS]; unfold va_up; repeat' split <;> first | rfl | (exfalso; omega)) | (dsimp only [gP, gS]; unfold va_up; split <;> (try split) <;> first | rfl | (exfalso; omega))
    rw [if_neg h_rou, if_neg h_rou]
    by_cases h_ews : j < 16
    · rw [if_pos h_ews, if_pos h_ews]
      first | rfl | (exfalso; omega)
    rw [if_neg h_ews, if_neg h_ews]
    by_cases h_cos : j < 19
    · rw [if_pos h_cos, if_pos h_cos]
      first | rfl | (exfalso; omega)
    rw [if_neg h_cos, if_neg h_cos]
    by_cases h_coa : j < 31
    · rw [if_pos h_coa, if_pos h_coa]
      first | rfl | (dsimp only [gP, gS]; unfold va_up; repeat' split <;> first | rfl | (exfalso; omega)) | (dsimp only [gP, gS]; unfold va_up; split <;> (try split) <;> first | rfl | (exfalso; omega))
    rw [if_neg h_coa, if_neg h_coa]
    by_cases h_ewe : j < 56
    · rw [if_pos h_ewe, if_pos h_ewe]
      first | rfl | (dsimp only [gP, gS]; unfold va_up; repeat' split <;> first | rfl | (exfalso; omega)) | (dsimp only [gP, gS]; unfold va_up; split <;> (try split) <;> first | rfl | (exfalso; omega))
    rw [if_neg h_ewe, if_neg h_ewe]
    by_cases h_fle : j < 81
    · rw [if_pos h_fle, if_pos h_fle]
      first | rfl | (dsimp only [gP, gS]; unfold va_up; repeat' split <;> first | rfl | (exfalso; omega)) | (dsimp only [gP, gS]; unfold va_up; split <;> (try split) <;> first | rfl | (exfalso; omega))
    rw [if_neg h_fle, if_neg h_fle]
    by_cases h_tap : j = 81
    · rw [if_pos h_tap, if_pos h_tap]
      first | rfl | (exfalso; omega)
    rw [if_neg h_tap, if_neg h_tap]
    by_cases h_byt : j = 82
    · rw [if_pos h_byt, if_pos h_byt]
      first | rfl | (exfalso; omega)
    rw [if_neg h_byt, if_neg h_byt]
    by_cases h_shs : j = 83
    · rw [if_pos h_shs, if_pos h_shs]
      first | rfl | (exfalso; omega)
    rw [if_neg h_shs, if_neg h_shs]
    by_cases h_she : j < 88
    · rw [if_pos h_she, if_pos h_she]
      first | rfl | (dsimp only [gP, gS]; unfold va_up; repeat' split <;> first | rfl | (exfalso; omega)) | (dsimp only [gP, gS]; unfold va_up; split <;> (try split) <;> first | rfl | (exfalso; omega))
    rw [if_neg h_she, if_neg h_she]
    by_cases h_num : j < 92
    · rw [if_pos h_num, if_pos h_num]
      first | rfl | (dsimp only [gP, gS]; unfold va_up; repeat' split <;> first | rfl | (exfalso; omega)) | (dsimp only [gP, gS]; unfold va_up; split <;> (try split) <;> first | rfl | (exfalso; omega))
    rw [if_neg h_num, if_neg h_num]
    by_cases h_tol : j = 92
    · rw [if_pos h_tol, if_pos h_tol]
      first | rfl | (exfalso; omega)
    rw [if_neg h_tol, if_neg h_tol]
    by_cases h_mod : j = 93
    · rw [if_pos h_mod, if_pos h_mod]
      first | rfl | (exfalso; omega)
    rw [if_neg h_mod, if_neg h_mod]
    by_cases h_ms : j = 94
    · rw [if_pos h_ms, if_pos h_ms]
      first | rfl | (exfalso; omega)
    rw [if_neg h_ms, if_neg h_ms]
    by_cases h_mk : j = 95
    · rw [if_pos h_mk, if_pos h_mk]
      first | rfl | (exfalso; omega)
    rw [if_neg h_mk, if_neg h_mk]
    by_cases h_mo : j = 96
    · rw [if_pos h_mo, if_pos h_mo]
      first | rfl | (exfalso; omega)
    rw [if_neg h_mo, if_neg h_mo]
    by_cases h_ma : j = 97
    · rw [if_pos h_ma, if_pos h_ma]
      first | rfl | (exfalso; omega)
    rw [if_neg h_ma, if_neg h_ma]
    by_cases h_mf : j = 98
    · rw [if_pos h_mf, if_pos h_mf]
      first | rfl | (exfalso; omega)
    rw [if_neg h_mf, if_neg h_mf]
    by_cases h_mt : j = 99
    · rw [if_pos h_mt, if_pos h_mt]
      first | rfl | (exfalso; omega)
    rw [if_neg h_mt, if_neg h_mt]
    by_cases h_mb : j = 100
    · rw [if_pos h_mb, if_pos h_mb]
      first | rfl | (exfalso; omega)
    rw [if_neg h_mb, if_neg h_mb]
    by_cases h_mz : j = 101
    · rw [if_pos h_mz, if_pos h_mz]
      first | rfl | (exfalso; omega)
    rw [if_neg h_mz, if_neg h_mz]
    by_cases h_mn : j = 102
    · rw [if_pos h_mn, if_pos h_mn]
      first | rfl | (exfalso; omega)
    rw [if_neg h_mn, if_neg h_mn]
    by_cases h_mv : j = 103
    · rw [if_pos h_mv, if_pos h_mv]
      first | rfl | (exfalso; omega)
    rw [if_neg h_mv, if_neg h_mv]
set_option maxHeartbeats 1000000 in
theorem u_mz {G : Gl} {K : CS} {ms : Nat → Int32} {mk : Nat → Int32} {mo : Nat → Int32} {ma : Nat → Int32} {mf : Nat → Int32} {ik : Int32} {mt : Nat → Int32} {td : Nat} {fr : Nat} {tt : Nat} {vl : Int32} {wr : Int32} {mb : Nat → Int32} {mz : Nat → Int32} {mn : Nat → Int64} {mv : Nat → Int64} {mz2 : Nat → Int32}  : ∀ j, j < 104 → cel G (K, (ms, mk, mo, ma, mf, ik, mt, td, fr, tt, vl, wr, mb, mz2, mn, mv)) j = if j = 101 then ai (gcI G) 4 mz2 else cel G (K, (ms, mk, mo, ma, mf, ik, mt, td, fr, tt, vl, wr, mb, mz, mn, mv)) j := by
  intro j hj
  by_cases hjk : j = 101
  · rw [if_pos hjk, hjk]
    exact rfl
  · rw [if_neg hjk]
    unfold cel
    by_cases h_obj : j = 0
    · rw [if_pos h_obj, if_pos h_obj]
      first | rfl | (exfalso; omega)
    rw [if_neg h_obj, if_neg h_obj]
    by_cases h_par : j < 4
    · rw [if_pos h_par, if_pos h_par]
      first | rfl | (dsimp only [gP, gS]; unfold va_up; repeat' split <;> first | rfl | (exfalso; omega)) | (dsimp only [gP, gS]; unfold va_up; split <;> (try split) <;> first | rfl | (exfalso; omega))
    rw [if_neg h_par, if_neg h_par]
    by_cases h_wea : j < 7
    · rw [if_pos h_wea, if_pos h_wea]
      first | rfl | (dsimp only [gP, gS]; unfold va_up; repeat' split <;> first | rfl | (exfalso; omega)) | (dsimp only [gP, gS]; unfold va_up; split <;> (try split) <;> first | rfl | (exfalso; omega))
    rw [if_neg h_wea, if_neg h_wea]
    by_cases h_sto : j < 10
    · rw [if_pos h_sto, if_pos h_sto]
      first | rfl | (dsimp only [gP, gS]; unfold va_up; repeat' split <;> first | rfl | (exfalso; omega)) | (dsimp only [gP, gS]; unfold va_up; split <;> (try split) <;> first | rfl | (exfalso; omega))
    rw [if_neg h_sto, if_neg h_sto]
    by_cases h_rou : j < 13
    · rw [if_pos h_rou, if_pos h_rou]
      first | rfl | (dsimp only [gP, gS]; unfold va_up; repeat' split <;> first | rfl | (exfalso; omega)) | (dsimp only [gP, gS]; unfold va_up; split <;> (try split) <;> first | rfl | (exfalso; omega))
    rw [if_neg h_rou, if_neg h_rou]
    by_cases h_ews : j < 16
    · rw [if_pos h_ews, if_pos h_ews]
      first | rfl | (exfalso; omega)
    rw [if_neg h_ews, if_neg h_ews]
    by_cases h_cos : j < 19
    · rw [if_pos h_cos, if_pos h_cos]
      first | rfl | (exfalso; omega)
    rw [if_neg h_cos, if_neg h_cos]
    by_cases h_coa : j < 31
    · rw [if_pos h_coa, if_pos h_coa]
      first | rfl | (dsimp only [gP, gS]; unfold va_up; repeat' split <;> first | rfl | (exfalso; omega)) | (dsimp only [gP, gS]; unfold va_up; split <;> (try split) <;> first | rfl | (exfalso; omega))
    rw [if_neg h_coa, if_neg h_coa]
    by_cases h_ewe : j < 56
    · rw [if_pos h_ewe, if_pos h_ewe]
      first | rfl | (dsimp only [gP, gS]; unfold va_up; repeat' split <;> first | rfl | (exfalso; omega)) | (dsimp only [gP, gS]; unfold va_up; split <;> (try split) <;> first | rfl | (exfalso; omega))
    rw [if_neg h_ewe, if_neg h_ewe]
    by_cases h_fle : j < 81
    · rw [if_pos h_fle, if_pos h_fle]
      first | rfl | (dsimp only [gP, gS]; unfold va_up; repeat' split <;> first | rfl | (exfalso; omega)) | (dsimp only [gP, gS]; unfold va_up; split <;> (try split) <;> first | rfl | (exfalso; omega))
    rw [if_neg h_fle, if_neg h_fle]
    by_cases h_tap : j = 81
    · rw [if_pos h_tap, if_pos h_tap]
      first | rfl | (exfalso; omega)
    rw [if_neg h_tap, if_neg h_tap]
    by_cases h_byt : j = 82
    · rw [if_pos h_byt, if_pos h_byt]
      first | rfl | (exfalso; omega)
    rw [if_neg h_byt, if_neg h_byt]
    by_cases h_shs : j = 83
    · rw [if_pos h_shs, if_pos h_shs]
      first | rfl | (exfalso; omega)
    rw [if_neg h_shs, if_neg h_shs]
    by_cases h_she : j < 88
    · rw [if_pos h_she, if_pos h_she]
      first | rfl | (dsimp only [gP, gS]; unfold va_up; repeat' split <;> first | rfl | (exfalso; omega)) | (dsimp only [gP, gS]; unfold va_up; split <;> (try split) <;> first | rfl | (exfalso; omega))
    rw [if_neg h_she, if_neg h_she]
    by_cases h_num : j < 92
    · rw [if_pos h_num, if_pos h_num]
      first | rfl | (dsimp only [gP, gS]; unfold va_up; repeat' split <;> first | rfl | (exfalso; omega)) | (dsimp only [gP, gS]; unfold va_up; split <;> (try split) <;> first | rfl | (exfalso; omega))
    rw [if_neg h_num, if_neg h_num]
    by_cases h_tol : j = 92
    · rw [if_pos h_tol, if_pos h_tol]
      first | rfl | (exfalso; omega)
    rw [if_neg h_tol, if_neg h_tol]
    by_cases h_mod : j = 93
    · rw [if_pos h_mod, if_pos h_mod]
      first | rfl | (exfalso; omega)
    rw [if_neg h_mod, if_neg h_mod]
    by_cases h_ms : j = 94
    · rw [if_pos h_ms, if_pos h_ms]
      first | rfl | (exfalso; omega)
    rw [if_neg h_ms, if_neg h_ms]
    by_cases h_mk : j = 95
    · rw [if_pos h_mk, if_pos h_mk]
      first | rfl | (exfalso; omega)
    rw [if_neg h_mk, if_neg h_mk]
    by_cases h_mo : j = 96
    · rw [if_pos h_mo, if_pos h_mo]
      first | rfl | (exfalso; omega)
    rw [if_neg h_mo, if_neg h_mo]
    by_cases h_ma : j = 97
    · rw [if_pos h_ma, if_pos h_ma]
      first | rfl | (exfalso; omega)
    rw [if_neg h_ma, if_neg h_ma]
    by_cases h_mf : j = 98
    · rw [if_pos h_mf, if_pos h_mf]
      first | rfl | (exfalso; omega)
    rw [if_neg h_mf, if_neg h_mf]
    by_cases h_mt : j = 99
    · rw [if_pos h_mt, if_pos h_mt]
      first | rfl | (exfalso; omega)
    rw [if_neg h_mt, if_neg h_mt]
    by_cases h_mb : j = 100
    · rw [if_pos h_mb, if_pos h_mb]
      first | rfl | (exfalso; omega)
    rw [if_neg h_mb, if_neg h_mb]
    by_cases h_mz : j = 101
    · rw [if_pos h_mz, if_pos h_mz]
      first | rfl | (exfalso; omega)
    rw [if_neg h_mz, if_neg h_mz]
    by_cases h_mn : j = 102
    · rw [if_pos h_mn, if_pos h_mn]
      first | rfl | (exfalso; omega)
    rw [if_neg h_mn, if_neg h_mn]
    by_cases h_mv : j = 103
    · rw [if_pos h_mv, if_pos h_mv]
      first | rfl | (exfalso; omega)
    rw [if_neg h_mv, if_neg h_mv]
set_option maxHeartbeats 1000000 in
theorem u_mn {G : Gl} {K : CS} {ms : Nat → Int32} {mk : Nat → Int32} {mo : Nat → Int32} {ma : Nat → Int32} {mf : Nat → Int32} {ik : Int32} {mt : Nat → Int32} {td : Nat} {fr : Nat} {tt : Nat} {vl : Int32} {wr : Int32} {mb : Nat → Int32} {mz : Nat → Int32} {mn : Nat → Int64} {mv : Nat → Int64} {mn2 : Nat → Int64}  : ∀ j, j < 104 → cel G (K, (ms, mk, mo, ma, mf, ik, mt, td, fr, tt, vl, wr, mb, mz, mn2, mv)) j = if j = 102 then aj (gcJ G) 160 mn2 else cel G (K, (ms, mk, mo, ma, mf, ik, mt, td, fr, tt, vl, wr, mb, mz, mn, mv)) j := by
  intro j hj
  by_cases hjk : j = 102
  · rw [if_pos hjk, hjk]
    exact rfl
  · rw [if_neg hjk]
    unfold cel
    by_cases h_obj : j = 0
    · rw [if_pos h_obj, if_pos h_obj]
      first | rfl | (exfalso; omega)
    rw [if_neg h_obj, if_neg h_obj]
    by_cases h_par : j < 4
    · rw [if_pos h_par, if_pos h_par]
      first | rfl | (dsimp only [gP, gS]; unfold va_up; repeat' split <;> first | rfl | (exfalso; omega)) | (dsimp only [gP, gS]; unfold va_up; split <;> (try split) <;> first | rfl | (exfalso; omega))
    rw [if_neg h_par, if_neg h_par]
    by_cases h_wea : j < 7
    · rw [if_pos h_wea, if_pos h_wea]
      first | rfl | (dsimp only [gP, gS]; unfold va_up; repeat' split <;> first | rfl | (exfalso; omega)) | (dsimp only [gP, gS]; unfold va_up; split <;> (try split) <;> first | rfl | (exfalso; omega))
    rw [if_neg h_wea, if_neg h_wea]
    by_cases h_sto : j < 10
    · rw [if_pos h_sto, if_pos h_sto]
      first | rfl | (dsimp only [gP, gS]; unfold va_up; repeat' split <;> first | rfl | (exfalso; omega)) | (dsimp only [gP, gS]; unfold va_up; split <;> (try split) <;> first | rfl | (exfalso; omega))
    rw [if_neg h_sto, if_neg h_sto]
    by_cases h_rou : j < 13
    · rw [if_pos h_rou, if_pos h_rou]
      first | rfl | (dsimp only [gP, gS]; unfold va_up; repeat' split <;> first | rfl | (exfalso; omega)) | (dsimp only [gP, gS]; unfold va_up; split <;> (try split) <;> first | rfl | (exfalso; omega))
    rw [if_neg h_rou, if_neg h_rou]
    by_cases h_ews : j < 16
    · rw [if_pos h_ews, if_pos h_ews]
      first | rfl | (exfalso; omega)
    rw [if_neg h_ews, if_neg h_ews]
    by_cases h_cos : j < 19
    · rw [if_pos h_cos, if_pos h_cos]
      first | rfl | (exfalso; omega)
    rw [if_neg h_cos, if_neg h_cos]
    by_cases h_coa : j < 31
    · rw [if_pos h_coa, if_pos h_coa]
      first | rfl | (dsimp only [gP, gS]; unfold va_up; repeat' split <;> first | rfl | (exfalso; omega)) | (dsimp only [gP, gS]; unfold va_up; split <;> (try split) <;> first | rfl | (exfalso; omega))
    rw [if_neg h_coa, if_neg h_coa]
    by_cases h_ewe : j < 56
    · rw [if_pos h_ewe, if_pos h_ewe]
      first | rfl | (dsimp only [gP, gS]; unfold va_up; repeat' split <;> first | rfl | (exfalso; omega)) | (dsimp only [gP, gS]; unfold va_up; split <;> (try split) <;> first | rfl | (exfalso; omega))
    rw [if_neg h_ewe, if_neg h_ewe]
    by_cases h_fle : j < 81
    · rw [if_pos h_fle, if_pos h_fle]
      first | rfl | (dsimp only [gP, gS]; unfold va_up; repeat' split <;> first | rfl | (exfalso; omega)) | (dsimp only [gP, gS]; unfold va_up; split <;> (try split) <;> first | rfl | (exfalso; omega))
    rw [if_neg h_fle, if_neg h_fle]
    by_cases h_tap : j = 81
    · rw [if_pos h_tap, if_pos h_tap]
      first | rfl | (exfalso; omega)
    rw [if_neg h_tap, if_neg h_tap]
    by_cases h_byt : j = 82
    · rw [if_pos h_byt, if_pos h_byt]
      first | rfl | (exfalso; omega)
    rw [if_neg h_byt, if_neg h_byt]
    by_cases h_shs : j = 83
    · rw [if_pos h_shs, if_pos h_shs]
      first | rfl | (exfalso; omega)
    rw [if_neg h_shs, if_neg h_shs]
    by_cases h_she : j < 88
    · rw [if_pos h_she, if_pos h_she]
      first | rfl | (dsimp only [gP, gS]; unfold va_up; repeat' split <;> first | rfl | (exfalso; omega)) | (dsimp only [gP, gS]; unfold va_up; split <;> (try split) <;> first | rfl | (exfalso; omega))
    rw [if_neg h_she, if_neg h_she]
    by_cases h_num : j < 92
    · rw [if_pos h_num, if_pos h_num]
      first | rfl | (dsimp only [gP, gS]; unfold va_up; repeat' split <;> first | rfl | (exfalso; omega)) | (dsimp only [gP, gS]; unfold va_up; split <;> (try split) <;> first | rfl | (exfalso; omega))
    rw [if_neg h_num, if_neg h_num]
    by_cases h_tol : j = 92
    · rw [if_pos h_tol, if_pos h_tol]
      first | rfl | (exfalso; omega)
    rw [if_neg h_tol, if_neg h_tol]
    by_cases h_mod : j = 93
    · rw [if_pos h_mod, if_pos h_mod]
      first | rfl | (exfalso; omega)
    rw [if_neg h_mod, if_neg h_mod]
    by_cases h_ms : j = 94
    · rw [if_pos h_ms, if_pos h_ms]
      first | rfl | (exfalso; omega)
    rw [if_neg h_ms, if_neg h_ms]
    by_cases h_mk : j = 95
    · rw [if_pos h_mk, if_pos h_mk]
      first | rfl | (exfalso; omega)
    rw [if_neg h_mk, if_neg h_mk]
    by_cases h_mo : j = 96
    · rw [if_pos h_mo, if_pos h_mo]
      first | rfl | (exfalso; omega)
    rw [if_neg h_mo, if_neg h_mo]
    by_cases h_ma : j = 97
    · rw [if_pos h_ma, if_pos h_ma]
      first | rfl | (exfalso; omega)
    rw [if_neg h_ma, if_neg h_ma]
    by_cases h_mf : j = 98
    · rw [if_pos h_mf, if_pos h_mf]
      first | rfl | (exfalso; omega)
    rw [if_neg h_mf, if_neg h_mf]
    by_cases h_mt : j = 99
    · rw [if_pos h_mt, if_pos h_mt]
      first | rfl | (exfalso; omega)
    rw [if_neg h_mt, if_neg h_mt]
    by_cases h_mb : j = 100
    · rw [if_pos h_mb, if_pos h_mb]
      first | rfl | (exfalso; omega)
    rw [if_neg h_mb, if_neg h_mb]
    by_cases h_mz : j = 101
    · rw [if_pos h_mz, if_pos h_mz]
      first | rfl | (exfalso; omega)
    rw [if_neg h_mz, if_neg h_mz]
    by_cases h_mn : j = 102
    · rw [if_pos h_mn, if_pos h_mn]
      first | rfl | (exfalso; omega)
    rw [if_neg h_mn, if_neg h_mn]
    by_cases h_mv : j = 103
    · rw [if_pos h_mv, if_pos h_mv]
      first | rfl | (exfalso; omega)
    rw [if_neg h_mv, if_neg h_mv]
set_option maxHeartbeats 1000000 in
theorem u_mv {G : Gl} {K : CS} {ms : Nat → Int32} {mk : Nat → Int32} {mo : Nat → Int32} {ma : Nat → Int32} {mf : Nat → Int32} {ik : Int32} {mt : Nat → Int32} {td : Nat} {fr : Nat} {tt : Nat} {vl : Int32} {wr : Int32} {mb : Nat → Int32} {mz : Nat → Int32} {mn : Nat → Int64} {mv : Nat → Int64} {mv2 : Nat → Int64}  : ∀ j, j < 104 → cel G (K, (ms, mk, mo, ma, mf, ik, mt, td, fr, tt, vl, wr, mb, mz, mn, mv2)) j = if j = 103 then aj (gcJ G) 40 mv2 else cel G (K, (ms, mk, mo, ma, mf, ik, mt, td, fr, tt, vl, wr, mb, mz, mn, mv)) j := by
  intro j hj
  by_cases hjk : j = 103
  · rw [if_pos hjk, hjk]
    exact rfl
  · rw [if_neg hjk]
    unfold cel
    by_cases h_obj : j = 0
    · rw [if_pos h_obj, if_pos h_obj]
      first | rfl | (exfalso; omega)
    rw [if_neg h_obj, if_neg h_obj]
    by_cases h_par : j < 4
    · rw [if_pos h_par, if_pos h_par]
      first | rfl | (dsimp only [gP, gS]; unfold va_up; repeat' split <;> first | rfl | (exfalso; omega)) | (dsimp only [gP, gS]; unfold va_up; split <;> (try split) <;> first | rfl | (exfalso; omega))
    rw [if_neg h_par, if_neg h_par]
    by_cases h_wea : j < 7
    · rw [if_pos h_wea, if_pos h_wea]
      first | rfl | (dsimp only [gP, gS]; unfold va_up; repeat' split <;> first | rfl | (exfalso; omega)) | (dsimp only [gP, gS]; unfold va_up; split <;> (try split) <;> first | rfl | (exfalso; omega))
    rw [if_neg h_wea, if_neg h_wea]
    by_cases h_sto : j < 10
    · rw [if_pos h_sto, if_pos h_sto]
      first | rfl | (dsimp only [gP, gS]; unfold va_up; repeat' split <;> first | rfl | (exfalso; omega)) | (dsimp only [gP, gS]; unfold va_up; split <;> (try split) <;> first | rfl | (exfalso; omega))
    rw [if_neg h_sto, if_neg h_sto]
    by_cases h_rou : j < 13
    · rw [if_pos h_rou, if_pos h_rou]
      first | rfl | (dsimp only [gP, gS]; unfold va_up; repeat' split <;> first | rfl | (exfalso; omega)) | (dsimp only [gP, gS]; unfold va_up; split <;> (try split) <;> first | rfl | (exfalso; omega))
    rw [if_neg h_rou, if_neg h_rou]
    by_cases h_ews : j < 16
    · rw [if_pos h_ews, if_pos h_ews]
      first | rfl | (exfalso; omega)
    rw [if_neg h_ews, if_neg h_ews]
    by_cases h_cos : j < 19
    · rw [if_pos h_cos, if_pos h_cos]
      first | rfl | (exfalso; omega)
    rw [if_neg h_cos, if_neg h_cos]
    by_cases h_coa : j < 31
    · rw [if_pos h_coa, if_pos h_coa]
      first | rfl | (dsimp only [gP, gS]; unfold va_up; repeat' split <;> first | rfl | (exfalso; omega)) | (dsimp only [gP, gS]; unfold va_up; split <;> (try split) <;> first | rfl | (exfalso; omega))
    rw [if_neg h_coa, if_neg h_coa]
    by_cases h_ewe : j < 56
    · rw [if_pos h_ewe, if_pos h_ewe]
      first | rfl | (dsimp only [gP, gS]; unfold va_up; repeat' split <;> first | rfl | (exfalso; omega)) | (dsimp only [gP, gS]; unfold va_up; split <;> (try split) <;> first | rfl | (exfalso; omega))
    rw [if_neg h_ewe, if_neg h_ewe]
    by_cases h_fle : j < 81
    · rw [if_pos h_fle, if_pos h_fle]
      first | rfl | (dsimp only [gP, gS]; unfold va_up; repeat' split <;> first | rfl | (exfalso; omega)) | (dsimp only [gP, gS]; unfold va_up; split <;> (try split) <;> first | rfl | (exfalso; omega))
    rw [if_neg h_fle, if_neg h_fle]
    by_cases h_tap : j = 81
    · rw [if_pos h_tap, if_pos h_tap]
      first | rfl | (exfalso; omega)
    rw [if_neg h_tap, if_neg h_tap]
    by_cases h_byt : j = 82
    · rw [if_pos h_byt, if_pos h_byt]
      first | rfl | (exfalso; omega)
    rw [if_neg h_byt, if_neg h_byt]
    by_cases h_shs : j = 83
    · rw [if_pos h_shs, if_pos h_shs]
      first | rfl | (exfalso; omega)
    rw [if_neg h_shs, if_neg h_shs]
    by_cases h_she : j < 88
    · rw [if_pos h_she, if_pos h_she]
      first | rfl | (dsimp only [gP, gS]; unfold va_up; repeat' split <;> first | rfl | (exfalso; omega)) | (dsimp only [gP, gS]; unfold va_up; split <;> (try split) <;> first | rfl | (exfalso; omega))
    rw [if_neg h_she, if_neg h_she]
    by_cases h_num : j < 92
    · rw [if_pos h_num, if_pos h_num]
      first | rfl | (dsimp only [gP, gS]; unfold va_up; repeat' split <;> first | rfl | (exfalso; omega)) | (dsimp only [gP, gS]; unfold va_up; split <;> (try split) <;> first | rfl | (exfalso; omega))
    rw [if_neg h_num, if_neg h_num]
    by_cases h_tol : j = 92
    · rw [if_pos h_tol, if_pos h_tol]
      first | rfl | (exfalso; omega)
    rw [if_neg h_tol, if_neg h_tol]
    by_cases h_mod : j = 93
    · rw [if_pos h_mod, if_pos h_mod]
      first | rfl | (exfalso; omega)
    rw [if_neg h_mod, if_neg h_mod]
    by_cases h_ms : j = 94
    · rw [if_pos h_ms, if_pos h_ms]
      first | rfl | (exfalso; omega)
    rw [if_neg h_ms, if_neg h_ms]
    by_cases h_mk : j = 95
    · rw [if_pos h_mk, if_pos h_mk]
      first | rfl | (exfalso; omega)
    rw [if_neg h_mk, if_neg h_mk]
    by_cases h_mo : j = 96
    · rw [if_pos h_mo, if_pos h_mo]
      first | rfl | (exfalso; omega)
    rw [if_neg h_mo, if_neg h_mo]
    by_cases h_ma : j = 97
    · rw [if_pos h_ma, if_pos h_ma]
      first | rfl | (exfalso; omega)
    rw [if_neg h_ma, if_neg h_ma]
    by_cases h_mf : j = 98
    · rw [if_pos h_mf, if_pos h_mf]
      first | rfl | (exfalso; omega)
    rw [if_neg h_mf, if_neg h_mf]
    by_cases h_mt : j = 99
    · rw [if_pos h_mt, if_pos h_mt]
      first | rfl | (exfalso; omega)
    rw [if_neg h_mt, if_neg h_mt]
    by_cases h_mb : j = 100
    · rw [if_pos h_mb, if_pos h_mb]
      first | rfl | (exfalso; omega)
    rw [if_neg h_mb, if_neg h_mb]
    by_cases h_mz : j = 101
    · rw [if_pos h_mz, if_pos h_mz]
      first | rfl | (exfalso; omega)
    rw [if_neg h_mz, if_neg h_mz]
    by_cases h_mn : j = 102
    · rw [if_pos h_mn, if_pos h_mn]
      first | rfl | (exfalso; omega)
    rw [if_neg h_mn, if_neg h_mn]
    by_cases h_mv : j = 103
    · rw [if_pos h_mv, if_pos h_mv]
      first | rfl | (exfalso; omega)
    rw [if_neg h_mv, if_neg h_mv]
