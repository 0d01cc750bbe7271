set_option maxHeartbeats 1000000 in
set_option maxRecDepth 4000 in
theorem lp_fillF (l : Launch) {G : Gl} {X : VX} {ov : Option Value} {wF : WS} {par : Nat → Pa} {tp : Tp} {sh : Nat → Sh} {tl : Nat → Int32} {hi : Int32} {M : MS} {p mo sz : Nat} {W S R : Nat → Int32} {C : Nat → Nat → Int32} {E : Nat → Ew} {e : Nat} {k f x : Int32} {fl : Nat → Int32} (hp : 8 * p + e < 25) (he : e < 8) : ∀ n i : Nat, i + n = 12 → V l X 0 0 cJ7_fill_53178 4 RJ7 none G ov wF ((va_up par p (mo, sz, W, S, R, C, va_up E e (k, f, x, (z12 fl 12))), tp, sh, tl, hi), M) 20 [(2, .int (nI 12)), (3, .int (nI 12)), (0, .ref (ga G (56 + (8 * p + e)))), (1, .int 0)] [] → V l X 0 0 cJ7_fill_53178 4 RJ7 none G ov wF ((va_up par p (mo, sz, W, S, R, C, va_up E e (k, f, x, (z12 fl i))), tp, sh, tl, hi), M) 5 [(2, .int (nI i)), (3, .int (nI 12)), (0, .ref (ga G (56 + (8 * p + e)))), (1, .int 0)] [] := by
  intro n
  induction n with
  | zero =>
    intro i hin hk
    obtain rfl : 12 = i := by omega
    refine v_iload_n dJ7_fill_53178_5 0 rfl 6 rfl ?_
    refine v_iload_n dJ7_fill_53178_6 1 rfl 7 rfl ?_
    refine n_icmp_ge dJ7_fill_53178_7 12 12 rfl rfl (by omega) (by omega) 20 (by decide) 10 rfl (fun c1 => ?_) (fun c1 => absurd c1 (by omega))
    exact hk
  | succ n ih =>
    intro i hin hk
    refine v_iload_n dJ7_fill_53178_5 0 rfl 6 rfl ?_
    refine v_iload_n dJ7_fill_53178_6 1 rfl 7 rfl ?_
    refine n_icmp_ge dJ7_fill_53178_7 i 12 rfl rfl (by omega) (by omega) 20 (by decide) 10 rfl (fun c1 => absurd c1 (by omega)) (fun c1 => ?_)
    refine v_aload_n dJ7_fill_53178_10 2 rfl 11 rfl ?_
    refine v_iload_n dJ7_fill_53178_11 0 rfl 12 rfl ?_
    refine v_iload_n dJ7_fill_53178_12 3 rfl 13 rfl ?_
    refine v_iast (w2 := ((va_up par p (mo, sz, W, S, R, C, va_up E e (k, f, x, (upd (z12 fl i) i 0))), tp, sh, tl, hi), M)) dJ7_fill_53178_13 (k_fle (by omega)) (f_fle (by omega) (by omega)) i rfl (by omega) (by decide) (u_fl (by omega) (by omega)) 14 rfl ?_
    refine v_iinc dJ7_fill_53178_14 0 rfl (nI (i + 1)) (nI_1 _) (by decide) [(2, .int (nI (i + 1))), (3, .int (nI 12)), (0, .ref (ga G (56 + (8 * p + e)))), (1, .int 0)] rfl 17 rfl ?_
    refine v_goto dJ7_fill_53178_17 5 (by decide) ?_
    refine v_w (w2 := ((va_up par p (mo, sz, W, S, R, C, va_up E e (k, f, x, (z12 fl (i + 1)))), tp, sh, tl, hi), M)) (by rw [z12_s]) ?_
    exact ih (i + 1) (by omega) hk
set_option maxHeartbeats 1000000 in
set_option maxRecDepth 4000 in
theorem c_J7_fill_53178 (l : Launch) {G : Gl} {par : Nat → Pa} {tp : Tp} {sh : Nat → Sh} {tl : Nat → Int32} {hi : Int32} {M : MS} {p mo sz : Nat} {W S R : Nat → Int32} {C : Nat → Nat → Int32} {E : Nat → Ew} {e : Nat} {k f x : Int32} {fl : Nat → Int32} (hp : 8 * p + e < 25) (he : e < 8) : Ct l G yJ7_fill_53178 cJ7_fill_53178 4 none 0 0 [.ref (ga G (56 + (8 * p + e))), .int 0] ((va_up par p (mo, sz, W, S, R, C, va_up E e (k, f, x, fl)), tp, sh, tl, hi), M) (none) ((va_up par p (mo, sz, W, S, R, C, va_up E e (k, f, x, (z12 fl 12))), tp, sh, tl, hi), M) := by
  refine Ct.of (own := RJ7) (by decide) rfl (Nat.le_of_ble_eq_true rfl) rfl (fun X => ?_)
  refine v_iconst dJ7_fill_53178_0 0 rfl 1 rfl ?_
  refine v_istore_n dJ7_fill_53178_1 2 rfl (by decide) [(2, .int 0), (0, .ref (ga G (56 + (8 * p + e)))), (1, .int 0)] rfl 2 rfl ?_
  refine v_aload_n dJ7_fill_53178_2 1 rfl 3 rfl ?_
  refine v_alen (a := fl) (N := 12) dJ7_fill_53178_3 (k_fle (by omega)) (f_fle (by omega) (by omega)) 4 rfl ?_
  refine v_istore_n dJ7_fill_53178_4 3 rfl (by decide) [(3, .int (nI 12)), (2, .int 0), (0, .ref (ga G (56 + (8 * p + e)))), (1, .int 0)] rfl 5 rfl ?_
  refine v_pick [1, 0, 2, 3] [(2, .int 0), (3, .int (nI 12)), (0, .ref (ga G (56 + (8 * p + e)))), (1, .int 0)] rfl ?_
  refine v_w (w2 := ((va_up par p (mo, sz, W, S, R, C, va_up E e (k, f, x, (z12 fl 0))), tp, sh, tl, hi), M)) (by rw [z12_0]) ?_
  refine lp_fillF l hp he 12 0 (by omega) ?_
  exact v_vret dJ7_fill_53178_20 (by rfl) (by rfl)
set_option maxHeartbeats 1000000 in
set_option maxRecDepth 4000 in
theorem c_X0_bare (l : Launch) {G : Gl} {par : Nat → Pa} {tp : Tp} {sh : Nat → Sh} {tl : Nat → Int32} {hi : Int32} {M : MS} {p mo sz : Nat} {W S R : Nat → Int32} {C : Nat → Nat → Int32} {E : Nat → Ew} {e : Nat} {k f x : Int32} {fl : Nat → Int32} (hp : 8 * p + e < 25) (he : e < 8) : Ct l G yX0_bare cX0_bare 1 none 1 23 [.ref (ga G (31 + (8 * p + e)))] ((va_up par p (mo, sz, W, S, R, C, va_up E e (k, f, x, fl)), tp, sh, tl, hi), M) (none) ((va_up par p (mo, sz, W, S, R, C, va_up E e (k, f, 0, (z12 fl 12))), tp, sh, tl, hi), M) := by
  refine Ct.of (own := RX0) (by decide) rfl (Nat.le_of_ble_eq_true rfl) rfl (fun X => ?_)
  refine v_aload_n dX0_bare_0 0 rfl 1 rfl ?_
  refine v_iconst dX0_bare_1 0 rfl 2 rfl ?_
  refine v_put (i := 2) (ci := 0) (T := TX0) (C := RX0) (N := 4) (ty := .int) (w2 := ((va_up par p (mo, sz, W, S, R, C, va_up E e (k, f, 0, fl)), tp, sh, tl, hi), M)) dX0_bare_2 inB0 tyX0 tyX0_ok nmX0 rfl qw_99 rfl rfl rfl rfl rfl (by decide) (k_ewe (by omega)) (f_ewe (by omega) (by omega)) (Nat.le_of_ble_eq_true rfl) (u_E (by omega) (by omega)) 5 rfl ?_
  refine v_aload_n dX0_bare_5 0 rfl 6 rfl ?_
  refine v_get (i := 3) (ci := 0) (T := TX0) (C := RX0) (N := 4) (v := .ref (ga G (56 + (8 * p + e)))) dX0_bare_6 inB0 rfl qw_102 rfl (by decide) (k_ewe (by omega)) (f_ewe (by omega) (by omega)) rfl 9 rfl ?_
  refine v_iconst dX0_bare_9 0 rfl 10 rfl ?_
  refine v_callS (c_J7_fill_53178 l (by omega) (by omega)) kal_J7_fill_53178 rfl dX0_bare_10 qw_278 qw_279 (by decide) [] (Nat.le_of_ble_eq_true rfl) rfl rfl 13 rfl ?_
  exact v_vret dX0_bare_13 (by rfl) (by rfl)
set_option maxHeartbeats 1000000 in
set_option maxRecDepth 4000 in
theorem c_X0_grow (l : Launch) {G : Gl} {par : Nat → Pa} {tp : Tp} {sh : Nat → Sh} {tl : Nat → Int32} {hi : Int32} {M : MS} {p mo sz : Nat} {W S R : Nat → Int32} {C : Nat → Nat → Int32} {E : Nat → Ew} {e : Nat} {k f x : Int32} {fl : Nat → Int32} (hp : 8 * p + e < 25) (he : e < 8) (m : Nat) (hm : m < 12) (x9 : Int32) : Ct l G yX0_grow cX0_grow 5 none 2 43 [.ref (ga G (31 + (8 * p + e))), .int (nI m), .int x9] ((va_up par p (mo, sz, W, S, R, C, va_up E e (k, f, x, fl)), tp, sh, tl, hi), M) (none) ((va_up par p (mo, sz, W, S, R, C, (va_up E e (eGrow (k, f, x, fl) m x9))), tp, sh, tl, hi), M) := by
  refine Ct.of (own := RX0) (by decide) rfl (Nat.le_of_ble_eq_true rfl) rfl (fun X => ?_)
  refine v_aload_n dX0_grow_0 0 rfl 1 rfl ?_
  refine v_get (i := 0) (ci := 0) (T := TX0) (C := RX0) (N := 4) (v := .int k) dX0_grow_1 inB0 rfl qw_93 rfl (by decide) (k_ewe (by omega)) (f_ewe (by omega) (by omega)) rfl 4 rfl ?_
  refine v_iload_n dX0_grow_4 2 rfl 5 rfl ?_
  refine v_callSN (c_X4_grows l k x9) kal_X4_grows rfl dX0_grow_5 (fun _ h => h.1) qw_301 (by decide) [] (Nat.le_of_ble_eq_true rfl) rfl rfl 8 rfl ?_
  refine v_istore_n dX0_grow_8 3 rfl (by decide) [(3, .int (kGrows k x9)), (0, .ref (ga G (31 + (8 * p + e)))), (1, .int (nI m)), (2, .int x9)] rfl 9 rfl ?_
  refine v_iload_n dX0_grow_9 0 rfl 10 rfl ?_
  refine v_iload_n dX0_grow_10 0 rfl 11 rfl ?_
  refine v_aload_n dX0_grow_11 1 rfl 12 rfl ?_
  refine v_get (i := 0) (ci := 0) (T := TX0) (C := RX0) (N := 4) (v := .int k) dX0_grow_12 inB0 rfl qw_93 rfl (by decide) (k_ewe (by omega)) (f_ewe (by omega) (by omega)) rfl 15 rfl ?_
  refine v_aload_n dX0_grow_15 1 rfl 16 rfl ?_
  refine v_get (i := 1) (ci := 0) (T := TX0) (C := RX0) (N := 4) (v := .int f) dX0_grow_16 inB0 rfl qw_96 rfl (by decide) (k_ewe (by omega)) (f_ewe (by omega) (by omega)) rfl 19 rfl ?_
  refine v_callSN (c_X4_loses l k f) kal_X4_loses rfl dX0_grow_19 (fun _ h => h.2.1) qw_304 (by decide) [.int (kGrows k x9), .int (kGrows k x9)] (Nat.le_of_ble_eq_true rfl) rfl rfl 22 rfl ?_
  refine v_mmin dX0_grow_22 qw_395 (by decide) (Nat.le_of_ble_eq_true rfl) 25 rfl ?_
  refine v_isub dX0_grow_25 26 rfl ?_
  obtain ⟨z1, ez1⟩ : ∃ y : Int32, y = (kGrows k x9) - (if kLoses k f < kGrows k x9 then kLoses k f else kGrows k x9) := ⟨_, rfl⟩
  rw [← ez1]
  refine v_istore dX0_grow_26 (by decide) [(4, .int z1), (3, .int (kGrows k x9)), (0, .ref (ga G (31 + (8 * p + e)))), (1, .int (nI m)), (2, .int x9)] rfl 28 rfl ?_
  refine v_aload_n dX0_grow_28 2 rfl 29 rfl ?_
  refine v_dup dX0_grow_29 rfl 30 rfl ?_
  refine v_get (i := 2) (ci := 0) (T := TX0) (C := RX0) (N := 4) (v := .int x) dX0_grow_30 inB0 rfl qw_99 rfl (by decide) (k_ewe (by omega)) (f_ewe (by omega) (by omega)) rfl 33 rfl ?_
  refine v_iload dX0_grow_33 0 rfl 35 rfl ?_
  refine v_aload_n dX0_grow_35 2 rfl 36 rfl ?_
  refine v_get (i := 3) (ci := 0) (T := TX0) (C := RX0) (N := 4) (v := .ref (ga G (56 + (8 * p + e)))) dX0_grow_36 inB0 rfl qw_102 rfl (by decide) (k_ewe (by omega)) (f_ewe (by omega) (by omega)) rfl 39 rfl ?_
  refine v_iload_n dX0_grow_39 3 rfl 40 rfl ?_
  refine v_iald (a := fl) dX0_grow_40 (k_fle (by omega)) (f_fle (by omega) (by omega)) m rfl (by omega) (by decide) 41 rfl ?_
  refine v_isub dX0_grow_41 42 rfl ?_
  refine v_iadd dX0_grow_42 43 rfl ?_
  refine v_put (i := 2) (ci := 0) (T := TX0) (C := RX0) (N := 4) (ty := .int) (w2 := ((va_up par p (mo, sz, W, S, R, C, va_up E e (k, f, (x + (z1 - (fl m))), fl)), tp, sh, tl, hi), M)) dX0_grow_43 inB0 tyX0 tyX0_ok nmX0 rfl qw_99 rfl rfl rfl rfl rfl (by decide) (k_ewe (by omega)) (f_ewe (by omega) (by omega)) (Nat.le_of_ble_eq_true rfl) (u_E (by omega) (by omega)) 46 rfl ?_
  refine v_aload_n dX0_grow_46 2 rfl 47 rfl ?_
  refine v_get (i := 3) (ci := 0) (T := TX0) (C := RX0) (N := 4) (v := .ref (ga G (56 + (8 * p + e)))) dX0_grow_47 inB0 rfl qw_102 rfl (by decide) (k_ewe (by omega)) (f_ewe (by omega) (by omega)) rfl 50 rfl ?_
  refine v_iload_n dX0_grow_50 3 rfl 51 rfl ?_
  refine v_iload dX0_grow_51 0 rfl 53 rfl ?_
  refine v_iast (w2 := ((va_up par p (mo, sz, W, S, R, C, va_up E e (k, f, (x + (z1 - (fl m))), (upd fl m z1))), tp, sh, tl, hi), M)) dX0_grow_53 (k_fle (by omega)) (f_fle (by omega) (by omega)) m rfl (by omega) (by decide) (u_fl (by omega) (by omega)) 54 rfl ?_
  refine v_aload_n dX0_grow_54 2 rfl 55 rfl ?_
  refine v_iconst dX0_grow_55 0 rfl 56 rfl ?_
  refine v_aload_n dX0_grow_56 2 rfl 57 rfl ?_
  refine v_get (i := 1) (ci := 0) (T := TX0) (C := RX0) (N := 4) (v := .int f) dX0_grow_57 inB0 rfl qw_96 rfl (by decide) (k_ewe (by omega)) (f_ewe (by omega) (by omega)) rfl 60 rfl ?_
  refine v_aload_n dX0_grow_60 2 rfl 61 rfl ?_
  refine v_get (i := 0) (ci := 0) (T := TX0) (C := RX0) (N := 4) (v := .int k) dX0_grow_61 inB0 rfl qw_93 rfl (by decide) (k_ewe (by omega)) (f_ewe (by omega) (by omega)) rfl 64 rfl ?_
  refine v_callSN (c_X4_calms l k) kal_X4_calms rfl dX0_grow_64 (fun _ h => h.2.2.1) qw_290 (by decide) [.int f, .int 0, .ref (ga G (31 + (8 * p + e)))] (Nat.le_of_ble_eq_true rfl) rfl rfl 67 rfl ?_
  refine v_isub dX0_grow_67 68 rfl ?_
  refine v_mmax dX0_grow_68 qw_397 (by decide) (Nat.le_of_ble_eq_true rfl) 71 rfl ?_
  refine v_put (i := 1) (ci := 0) (T := TX0) (C := RX0) (N := 4) (ty := .int) (w2 := ((va_up par p (mo, sz, W, S, R, C, va_up E e (k, (if 0 < f - (kCalms k) then f - (kCalms k) else 0), (x + (z1 - (fl m))), (upd fl m z1))), tp, sh, tl, hi), M)) dX0_grow_71 inB0 tyX0 tyX0_ok nmX0 rfl qw_96 rfl rfl rfl rfl rfl (by decide) (k_ewe (by omega)) (f_ewe (by omega) (by omega)) (Nat.le_of_ble_eq_true rfl) (u_E (by omega) (by omega)) 74 rfl ?_
  subst ez1
  exact v_vret dX0_grow_74 (by rfl) (by rfl)
