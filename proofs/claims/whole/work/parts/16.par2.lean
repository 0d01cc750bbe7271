set_option maxHeartbeats 1000000 in
set_option maxRecDepth 4000 in
theorem lp_pass (l : Launch) {G : Gl} {X : VX} {ov : Option Value} {wF : WS} {par : Nat → Pa} {tp : Tp} {sh : Nat → Sh} {tl : Nat → Int32} {hi : Int32} {M : MS} {p mo sz : Nat} {W S R : Nat → Int32} {C : Nat → Nat → Int32} {E : Nat → Ew} (hp : p < 3) {nn : Nat} (hsz : sz ≤ 8) (hmo : mo + nn < 2 ^ 30) : ∀ n i : Nat, i + n = nn → V l X 4 89 cX1_pass 3 RX1 none G ov wF ((va_up par p ((pPass (mo, sz, W, S, R, C, E) nn).1, (pPass (mo, sz, W, S, R, C, E) nn).2.1, (pPass (mo, sz, W, S, R, C, E) nn).2.2.1, (pPass (mo, sz, W, S, R, C, E) nn).2.2.2.1, (pPass (mo, sz, W, S, R, C, E) nn).2.2.2.2.1, (pPass (mo, sz, W, S, R, C, E) nn).2.2.2.2.2.1, (pPass (mo, sz, W, S, R, C, E) nn).2.2.2.2.2.2), tp, sh, tl, hi), M) 17 [(2, .int (nI nn)), (0, .ref (ga G (1 + p))), (1, .int (nI nn))] [] → V l X 4 89 cX1_pass 3 RX1 none G ov wF ((va_up par p ((pPass (mo, sz, W, S, R, C, E) i).1, (pPass (mo, sz, W, S, R, C, E) i).2.1, (pPass (mo, sz, W, S, R, C, E) i).2.2.1, (pPass (mo, sz, W, S, R, C, E) i).2.2.2.1, (pPass (mo, sz, W, S, R, C, E) i).2.2.2.2.1, (pPass (mo, sz, W, S, R, C, E) i).2.2.2.2.2.1, (pPass (mo, sz, W, S, R, C, E) i).2.2.2.2.2.2), tp, sh, tl, hi), M) 2 [(2, .int (nI i)), (0, .ref (ga G (1 + p))), (1, .int (nI nn))] [] := by
  intro n
  induction n with
  | zero =>
    intro i hin hk
    obtain rfl : nn = i := by omega
    refine v_iload_n dX1_pass_2 0 rfl 3 rfl ?_
    refine v_iload_n dX1_pass_3 2 rfl 4 rfl ?_
    refine n_icmp_ge dX1_pass_4 nn nn rfl rfl (by omega) (by omega) 17 (by decide) 7 rfl (fun c1 => ?_) (fun c1 => absurd c1 (by omega))
    exact hk
  | succ n ih =>
    intro i hin hk
    refine v_iload_n dX1_pass_2 0 rfl 3 rfl ?_
    refine v_iload_n dX1_pass_3 2 rfl 4 rfl ?_
    refine n_icmp_ge dX1_pass_4 i nn rfl rfl (by omega) (by omega) 17 (by decide) 7 rfl (fun c1 => absurd c1 (by omega)) (fun c1 => ?_)
    refine v_aload_n dX1_pass_7 1 rfl 8 rfl ?_
    refine v_callV (c_X1_passOne l hp (by have q1 := pPass_sz (mo, sz, W, S, R, C, E) i; dsimp only at q1; omega) (by have q2 := pPass_mo (mo, sz, W, S, R, C, E) i; dsimp only at q2; omega)) kal_X1_passOne rfl dX1_pass_8 qw_384 qw_385 qw_386 rfl (k_par hp) (f_par hp) (by decide) [] (Nat.le_of_ble_eq_true rfl) rfl rfl 11 rfl ?_
    refine v_iinc dX1_pass_11 0 rfl (nI (i + 1)) (nI_1 _) (by decide) [(2, .int (nI (i + 1))), (0, .ref (ga G (1 + p))), (1, .int (nI nn))] rfl 14 rfl ?_
    refine v_goto dX1_pass_14 2 (by decide) ?_
    exact ih (i + 1) (by omega) hk
set_option maxHeartbeats 1000000 in
set_option maxRecDepth 4000 in
theorem c_X1_pass (l : Launch) {G : Gl} {par : Nat → Pa} {tp : Tp} {sh : Nat → Sh} {tl : Nat → Int32} {hi : Int32} {M : MS} {p mo sz : Nat} {W S R : Nat → Int32} {C : Nat → Nat → Int32} {E : Nat → Ew} (hp : p < 3) {nn : Nat} (hsz : sz ≤ 8) (hmo : mo + nn < 2 ^ 30) : Ct l G yX1_pass cX1_pass 3 none 4 89 [.ref (ga G (1 + p)), .int (nI nn)] ((va_up par p (mo, sz, W, S, R, C, E), tp, sh, tl, hi), M) (none) ((va_up par p (pPass (mo, sz, W, S, R, C, E) nn), tp, sh, tl, hi), M) := by
  refine Ct.of (own := RX1) (by decide) rfl (Nat.le_of_ble_eq_true rfl) rfl (fun X => ?_)
  refine v_iconst dX1_pass_0 0 rfl 1 rfl ?_
  refine v_istore_n dX1_pass_1 2 rfl (by decide) [(2, .int 0), (0, .ref (ga G (1 + p))), (1, .int (nI nn))] rfl 2 rfl ?_
  refine lp_pass l hp hsz hmo nn 0 (by omega) ?_
  exact v_vret dX1_pass_17 (by rfl) (by rfl)
set_option maxHeartbeats 1000000 in
set_option maxRecDepth 4000 in
theorem c_X1_add (l : Launch) {G : Gl} {par : Nat → Pa} {tp : Tp} {sh : Nat → Sh} {tl : Nat → Int32} {hi : Int32} {M : MS} {p mo sz : Nat} {W S R : Nat → Int32} {C : Nat → Nat → Int32} {E : Nat → Ew} (hp : p < 3) (hsz : sz < 8) (x y : Int32) : Ct l G yX1_add cX1_add 3 none 2 43 [.ref (ga G (1 + p)), .int x, .int y] ((va_up par p (mo, sz, W, S, R, C, E), tp, sh, tl, hi), M) (none) ((va_up par p (mo, sz + 1, W, S, R, C, va_up E sz (x, y, 0, z12 (E sz).2.2.2 12)), tp, sh, tl, hi), M) := by
  refine Ct.of (own := RX1) (by decide) rfl (Nat.le_of_ble_eq_true rfl) rfl (fun X => ?_)
  refine v_aload_n dX1_add_0 0 rfl 1 rfl ?_
  refine v_callV (c_X1_isFull l hp (by omega) ) kal_X1_isFull rfl dX1_add_1 qw_273 qw_266 qw_267 rfl (k_par hp) (f_par hp) (by decide) [] (Nat.le_of_ble_eq_true rfl) rfl rfl 4 rfl ?_
  refine v_ifb_eq dX1_add_4 8 (by decide) 7 rfl (fun c1 => ?_) (fun c1 => absurd c1 (by simp; omega))
  refine v_aload_n dX1_add_8 0 rfl 9 rfl ?_
  refine v_get (i := 5) (ci := 1) (T := TX1) (C := RX1) (N := 7) (v := .ref (ga G (13 + p))) dX1_add_9 inB1 rfl qw_127 rfl (by decide) (k_par hp) (f_par hp) rfl 12 rfl ?_
  refine v_aload_n dX1_add_12 0 rfl 13 rfl ?_
  refine v_get (i := 1) (ci := 1) (T := TX1) (C := RX1) (N := 7) (v := .int (nI sz)) dX1_add_13 inB1 rfl qw_117 rfl (by decide) (k_par hp) (f_par hp) rfl 16 rfl ?_
  refine v_aaldE dX1_add_16 (k_ews hp) (cel_ews G _ hp) sz rfl (by omega) (by decide) rfl 17 rfl ?_
  refine v_w (w2 := ((va_up par p (mo, sz, W, S, R, C, va_up E sz ((E sz).1, (E sz).2.1, (E sz).2.2.1, (E sz).2.2.2)), tp, sh, tl, hi), M)) (congrArg (fun z => ((va_up par p (mo, sz, W, S, R, C, z), tp, sh, tl, hi), M)) (va_up_i E sz).symm) ?_
  refine v_callV (c_X0_bare l (by omega) (by omega) ) kal_X0_bare rfl dX1_add_17 qw_274 qw_275 qw_276 rfl (k_ewe (by omega)) (f_ewe (by omega) (by omega)) (by decide) [] (Nat.le_of_ble_eq_true rfl) rfl rfl 20 rfl ?_
  refine v_aload_n dX1_add_20 0 rfl 21 rfl ?_
  refine v_get (i := 5) (ci := 1) (T := TX1) (C := RX1) (N := 7) (v := .ref (ga G (13 + p))) dX1_add_21 inB1 rfl qw_127 rfl (by decide) (k_par hp) (f_par hp) rfl 24 rfl ?_
  refine v_aload_n dX1_add_24 0 rfl 25 rfl ?_
  refine v_get (i := 1) (ci := 1) (T := TX1) (C := RX1) (N := 7) (v := .int (nI sz)) dX1_add_25 inB1 rfl qw_117 rfl (by decide) (k_par hp) (f_par hp) rfl 28 rfl ?_
  refine v_aaldE dX1_add_28 (k_ews hp) (cel_ews G _ hp) sz rfl (by omega) (by decide) rfl 29 rfl ?_
  refine v_iload_n dX1_add_29 1 rfl 30 rfl ?_
  refine v_put (i := 0) (ci := 0) (T := TX0) (C := RX0) (N := 4) (ty := .int) (w2 := ((va_up par p (mo, sz, W, S, R, C, va_up E sz (x, (E sz).2.1, 0, (z12 (E sz).2.2.2 12))), tp, sh, tl, hi), M)) dX1_add_30 inB0 tyX0 tyX0_ok nmX0 rfl qw_94 rfl rfl rfl rfl rfl (by decide) (k_ewe (by omega)) (f_ewe (by omega) (by omega)) (Nat.le_of_ble_eq_true rfl) (u_E (by omega) (by omega)) 33 rfl ?_
  refine v_aload_n dX1_add_33 0 rfl 34 rfl ?_
  refine v_get (i := 5) (ci := 1) (T := TX1) (C := RX1) (N := 7) (v := .ref (ga G (13 + p))) dX1_add_34 inB1 rfl qw_127 rfl (by decide) (k_par hp) (f_par hp) rfl 37 rfl ?_
  refine v_aload_n dX1_add_37 0 rfl 38 rfl ?_
  refine v_get (i := 1) (ci := 1) (T := TX1) (C := RX1) (N := 7) (v := .int (nI sz)) dX1_add_38 inB1 rfl qw_117 rfl (by decide) (k_par hp) (f_par hp) rfl 41 rfl ?_
  refine v_aaldE dX1_add_41 (k_ews hp) (cel_ews G _ hp) sz rfl (by omega) (by decide) rfl 42 rfl ?_
  refine v_iload_n dX1_add_42 2 rfl 43 rfl ?_
  refine v_put (i := 1) (ci := 0) (T := TX0) (C := RX0) (N := 4) (ty := .int) (w2 := ((va_up par p (mo, sz, W, S, R, C, va_up E sz (x, y, 0, (z12 (E sz).2.2.2 12))), tp, sh, tl, hi), M)) dX1_add_43 inB0 tyX0 tyX0_ok nmX0 rfl qw_97 rfl rfl rfl rfl rfl (by decide) (k_ewe (by omega)) (f_ewe (by omega) (by omega)) (Nat.le_of_ble_eq_true rfl) (u_E (by omega) (by omega)) 46 rfl ?_
  refine v_aload_n dX1_add_46 0 rfl 47 rfl ?_
  refine v_dup dX1_add_47 rfl 48 rfl ?_
  refine v_get (i := 1) (ci := 1) (T := TX1) (C := RX1) (N := 7) (v := .int (nI sz)) dX1_add_48 inB1 rfl qw_117 rfl (by decide) (k_par hp) (f_par hp) rfl 51 rfl ?_
  refine v_iconst dX1_add_51 1 rfl 52 rfl ?_
  refine n_iadd dX1_add_52 sz 1 rfl rfl 53 rfl ?_
  refine v_put (i := 1) (ci := 1) (T := TX1) (C := RX1) (N := 7) (ty := .int) (w2 := ((va_up par p (mo, (sz + 1), W, S, R, C, va_up E sz (x, y, 0, (z12 (E sz).2.2.2 12))), tp, sh, tl, hi), M)) dX1_add_53 inB1 tyX1 tyX1_ok nmX1 rfl qw_117 rfl rfl rfl rfl rfl (by decide) (k_par hp) (f_par hp) (Nat.le_of_ble_eq_true rfl) (u_sz hp) 56 rfl ?_
  exact v_vret dX1_add_56 (by rfl) (by rfl)
set_option maxHeartbeats 1000000 in
set_option maxRecDepth 4000 in
theorem c_X0_become (l : Launch) {G : Gl} {par : Nat → Pa} {tp : Tp} {sh : Nat → Sh} {tl : Nat → Int32} {hi : Int32} {M : MS} {p mo sz : Nat} {W S R : Nat → Int32} {C : Nat → Nat → Int32} {E : Nat → Ew} {e : Nat} {k f x : Int32} {fl : Nat → Int32} (hp : 8 * p + e < 25) (he : e < 8) {q d : Nat} (hqd : 8 * q + d < 25) (hd8 : d < 8) (hpq : q ≠ p) : Ct l G yX0_become cX0_become 2 none 1 26 [.ref (ga G (31 + (8 * p + e))), .ref (ga G (31 + (8 * q + d)))] ((va_up par p (mo, sz, W, S, R, C, va_up E e (k, f, x, fl)), tp, sh, tl, hi), M) (none) ((va_up par p (mo, sz, W, S, R, C, (va_up E e (eBecome (k, f, x, fl) ((par q).2.2.2.2.2.2 d)))), tp, sh, tl, hi), M) := by
  refine Ct.of (own := RX0) (by decide) rfl (Nat.le_of_ble_eq_true rfl) rfl (fun X => ?_)
  refine v_aload_n dX0_become_0 0 rfl 1 rfl ?_
  refine v_aload_n dX0_become_1 1 rfl 2 rfl ?_
  refine v_get (i := 0) (ci := 0) (T := TX0) (C := RX0) (N := 4) (v := .int ((par q).2.2.2.2.2.2 d).1) dX0_become_2 inB0 rfl qw_93 rfl (by decide) (k_ewe hqd) (f1_ewe hqd hd8 hpq) rfl 5 rfl ?_
  refine v_put (i := 0) (ci := 0) (T := TX0) (C := RX0) (N := 4) (ty := .int) (w2 := ((va_up par p (mo, sz, W, S, R, C, va_up E e (((par q).2.2.2.2.2.2 d).1, f, x, fl)), tp, sh, tl, hi), M)) dX0_become_5 inB0 tyX0 tyX0_ok nmX0 rfl qw_93 rfl rfl rfl rfl rfl (by decide) (k_ewe (by omega)) (f_ewe (by omega) (by omega)) (Nat.le_of_ble_eq_true rfl) (u_E (by omega) (by omega)) 8 rfl ?_
  refine v_aload_n dX0_become_8 0 rfl 9 rfl ?_
  refine v_aload_n dX0_become_9 1 rfl 10 rfl ?_
  refine v_get (i := 1) (ci := 0) (T := TX0) (C := RX0) (N := 4) (v := .int ((par q).2.2.2.2.2.2 d).2.1) dX0_become_10 inB0 rfl qw_96 rfl (by decide) (k_ewe hqd) (f1_ewe hqd hd8 hpq) rfl 13 rfl ?_
  refine v_put (i := 1) (ci := 0) (T := TX0) (C := RX0) (N := 4) (ty := .int) (w2 := ((va_up par p (mo, sz, W, S, R, C, va_up E e (((par q).2.2.2.2.2.2 d).1, ((par q).2.2.2.2.2.2 d).2.1, x, fl)), tp, sh, tl, hi), M)) dX0_become_13 inB0 tyX0 tyX0_ok nmX0 rfl qw_96 rfl rfl rfl rfl rfl (by decide) (k_ewe (by omega)) (f_ewe (by omega) (by omega)) (Nat.le_of_ble_eq_true rfl) (u_E (by omega) (by omega)) 16 rfl ?_
  refine v_aload_n dX0_become_16 0 rfl 17 rfl ?_
  refine v_aload_n dX0_become_17 1 rfl 18 rfl ?_
  refine v_get (i := 2) (ci := 0) (T := TX0) (C := RX0) (N := 4) (v := .int ((par q).2.2.2.2.2.2 d).2.2.1) dX0_become_18 inB0 rfl qw_99 rfl (by decide) (k_ewe hqd) (f1_ewe hqd hd8 hpq) rfl 21 rfl ?_
  refine v_put (i := 2) (ci := 0) (T := TX0) (C := RX0) (N := 4) (ty := .int) (w2 := ((va_up par p (mo, sz, W, S, R, C, va_up E e (((par q).2.2.2.2.2.2 d).1, ((par q).2.2.2.2.2.2 d).2.1, ((par q).2.2.2.2.2.2 d).2.2.1, fl)), tp, sh, tl, hi), M)) dX0_become_21 inB0 tyX0 tyX0_ok nmX0 rfl qw_99 rfl rfl rfl rfl rfl (by decide) (k_ewe (by omega)) (f_ewe (by omega) (by omega)) (Nat.le_of_ble_eq_true rfl) (u_E (by omega) (by omega)) 24 rfl ?_
  refine v_aload_n dX0_become_24 1 rfl 25 rfl ?_
  refine v_get (i := 3) (ci := 0) (T := TX0) (C := RX0) (N := 4) (v := .ref (ga G (56 + (8 * q + d)))) dX0_become_25 inB0 rfl qw_102 rfl (by decide) (k_ewe hqd) (f1_ewe hqd hd8 hpq) rfl 28 rfl ?_
  refine v_iconst dX0_become_28 0 rfl 29 rfl ?_
  refine v_aload_n dX0_become_29 0 rfl 30 rfl ?_
  refine v_get (i := 3) (ci := 0) (T := TX0) (C := RX0) (N := 4) (v := .ref (ga G (56 + (8 * p + e)))) dX0_become_30 inB0 rfl qw_102 rfl (by decide) (k_ewe (by omega)) (f_ewe (by omega) (by omega)) rfl 33 rfl ?_
  refine v_iconst dX0_become_33 0 rfl 34 rfl ?_
  refine v_bipush dX0_become_34 12 rfl 36 rfl ?_
  refine v_copyi (w2 := ((va_up par p (mo, sz, W, S, R, C, va_up E e (((par q).2.2.2.2.2.2 d).1, ((par q).2.2.2.2.2.2 d).2.1, ((par q).2.2.2.2.2.2 d).2.2.1, (va_cpy ((par q).2.2.2.2.2.2 d).2.2.2 fl 0 0 12))), tp, sh, tl, hi), M)) (a := ((par q).2.2.2.2.2.2 d).2.2.2) (b := fl) dX0_become_36 qw_411 (by decide) (Nat.le_of_ble_eq_true rfl) (k_fle hqd) (f1_fle hqd hd8 hpq) (k_fle (by omega)) (f_fle (by omega) (by omega)) 0 0 12 rfl rfl rfl (by omega) (by omega) (by decide) (by decide) (u_fl (by omega) (by omega)) 39 rfl ?_
  exact v_vret dX0_become_39 (by rfl) (by rfl)
set_option maxHeartbeats 1000000 in
set_option maxRecDepth 4000 in
theorem lp_bec1 (l : Launch) {G : Gl} {X : VX} {ov : Option Value} {wF : WS} {par : Nat → Pa} {tp : Tp} {sh : Nat → Sh} {tl : Nat → Int32} {hi : Int32} {M : MS} {p mo sz : Nat} {W S R : Nat → Int32} {C : Nat → Nat → Int32} {E : Nat → Ew} (hp : p < 3) {q : Nat} (hq : q < 3) (hpq : q ≠ p) (hsz : (par q).2.1 ≤ 8) : ∀ n i : Nat, i + n = (par q).2.1 → V l X 2 47 cX1_become 3 RX1 none G ov wF ((va_up par p ((par q).1, (par q).2.1, (va_cpy (par q).2.2.1 W 0 0 12), (va_cpy (par q).2.2.2.1 S 0 0 12), (va_cpy (par q).2.2.2.2.1 R 0 0 12), C, (fa_fill (fun e => eBecome (E e) ((par q).2.2.2.2.2.2 e)) E (par q).2.1)), tp, sh, tl, hi), M) 92 [(2, .int (nI (par q).2.1)), (0, .ref (ga G (1 + p))), (1, .ref (ga G (1 + q)))] [] → V l X 2 47 cX1_become 3 RX1 none G ov wF ((va_up par p ((par q).1, (par q).2.1, (va_cpy (par q).2.2.1 W 0 0 12), (va_cpy (par q).2.2.2.1 S 0 0 12), (va_cpy (par q).2.2.2.2.1 R 0 0 12), C, (fa_fill (fun e => eBecome (E e) ((par q).2.2.2.2.2.2 e)) E i)), tp, sh, tl, hi), M) 63 [(2, .int (nI i)), (0, .ref (ga G (1 + p))), (1, .ref (ga G (1 + q)))] [] := by
  intro n
  induction n with
  | zero =>
    intro i hin hk
    obtain rfl : (par q).2.1 = i := by omega
    refine v_iload_n dX1_become_63 0 rfl 64 rfl ?_
    refine v_aload_n dX1_become_64 1 rfl 65 rfl ?_
    refine v_get (i := 1) (ci := 1) (T := TX1) (C := RX1) (N := 7) (v := .int (nI (par q).2.1)) dX1_become_65 inB1 rfl qw_117 rfl (by decide) (k_par hp) (f_par hp) rfl 68 rfl ?_
    refine n_icmp_ge dX1_become_68 (par q).2.1 (par q).2.1 rfl rfl (by omega) (by omega) 92 (by decide) 71 rfl (fun c1 => ?_) (fun c1 => absurd c1 (by omega))
    exact hk
  | succ n ih =>
    intro i hin hk
    refine v_iload_n dX1_become_63 0 rfl 64 rfl ?_
    refine v_aload_n dX1_become_64 1 rfl 65 rfl ?_
    refine v_get (i := 1) (ci := 1) (T := TX1) (C := RX1) (N := 7) (v := .int (nI (par q).2.1)) dX1_become_65 inB1 rfl qw_117 rfl (by decide) (k_par hp) (f_par hp) rfl 68 rfl ?_
    refine n_icmp_ge dX1_become_68 i (par q).2.1 rfl rfl (by omega) (by omega) 92 (by decide) 71 rfl (fun c1 => absurd c1 (by omega)) (fun c1 => ?_)
    refine v_aload_n dX1_become_71 1 rfl 72 rfl ?_
    refine v_get (i := 5) (ci := 1) (T := TX1) (C := RX1) (N := 7) (v := .ref (ga G (13 + p))) dX1_become_72 inB1 rfl qw_127 rfl (by decide) (k_par hp) (f_par hp) rfl 75 rfl ?_
    refine v_iload_n dX1_become_75 0 rfl 76 rfl ?_
    refine v_aaldE dX1_become_76 (k_ews hp) (cel_ews G _ hp) i rfl (by omega) (by decide) rfl 77 rfl ?_
    refine v_aload_n dX1_become_77 2 rfl 78 rfl ?_
    refine v_get (i := 5) (ci := 1) (T := TX1) (C := RX1) (N := 7) (v := .ref (ga G (13 + q))) dX1_become_78 inB1 rfl qw_127 rfl (by decide) (k_par hq) (f1_par hq hpq) rfl 81 rfl ?_
    refine v_iload_n dX1_become_81 0 rfl 82 rfl ?_
    refine v_aaldE dX1_become_82 (k_ews hq) (cel_ews G _ hq) i rfl (by omega) (by decide) rfl 83 rfl ?_
    refine v_w (w2 := ((va_up par p ((par q).1, (par q).2.1, (va_cpy (par q).2.2.1 W 0 0 12), (va_cpy (par q).2.2.2.1 S 0 0 12), (va_cpy (par q).2.2.2.2.1 R 0 0 12), C, va_up (fa_fill (fun e => eBecome (E e) ((par q).2.2.2.2.2.2 e)) E i) i (((fa_fill (fun e => eBecome (E e) ((par q).2.2.2.2.2.2 e)) E i) i).1, ((fa_fill (fun e => eBecome (E e) ((par q).2.2.2.2.2.2 e)) E i) i).2.1, ((fa_fill (fun e => eBecome (E e) ((par q).2.2.2.2.2.2 e)) E i) i).2.2.1, ((fa_fill (fun e => eBecome (E e) ((par q).2.2.2.2.2.2 e)) E i) i).2.2.2)), tp, sh, tl, hi), M)) (congrArg (fun z => ((va_up par p ((par q).1, (par q).2.1, (va_cpy (par q).2.2.1 W 0 0 12), (va_cpy (par q).2.2.2.1 S 0 0 12), (va_cpy (par q).2.2.2.2.1 R 0 0 12), C, z), tp, sh, tl, hi), M)) (va_up_i (fa_fill (fun e => eBecome (E e) ((par q).2.2.2.2.2.2 e)) E i) i).symm) ?_
    refine v_callV (c_X0_become l (by omega) (by omega) (q := q) (d := i) (by omega) (by omega) hpq) kal_X0_become rfl dX1_become_83 qw_433 qw_408 qw_409 rfl (k_ewe (by omega)) (f_ewe (by omega) (by omega)) (by decide) [] (Nat.le_of_ble_eq_true rfl) rfl rfl 86 rfl ?_
    refine v_iinc dX1_become_86 0 rfl (nI (i + 1)) (nI_1 _) (by decide) [(2, .int (nI (i + 1))), (0, .ref (ga G (1 + p))), (1, .ref (ga G (1 + q)))] rfl 89 rfl ?_
    refine v_goto dX1_become_89 63 (by decide) ?_
    have e91 : va_up (fa_fill (fun e => eBecome (E e) ((par q).2.2.2.2.2.2 e)) E i) i ((eBecome (((fa_fill (fun e => eBecome (E e) ((par q).2.2.2.2.2.2 e)) E i) i).1, ((fa_fill (fun e => eBecome (E e) ((par q).2.2.2.2.2.2 e)) E i) i).2.1, ((fa_fill (fun e => eBecome (E e) ((par q).2.2.2.2.2.2 e)) E i) i).2.2.1, ((fa_fill (fun e => eBecome (E e) ((par q).2.2.2.2.2.2 e)) E i) i).2.2.2) ((par q).2.2.2.2.2.2 i)).1, (eBecome (((fa_fill (fun e => eBecome (E e) ((par q).2.2.2.2.2.2 e)) E i) i).1, ((fa_fill (fun e => eBecome (E e) ((par q).2.2.2.2.2.2 e)) E i) i).2.1, ((fa_fill (fun e => eBecome (E e) ((par q).2.2.2.2.2.2 e)) E i) i).2.2.1, ((fa_fill (fun e => eBecome (E e) ((par q).2.2.2.2.2.2 e)) E i) i).2.2.2) ((par q).2.2.2.2.2.2 i)).2.1, (eBecome (((fa_fill (fun e => eBecome (E e) ((par q).2.2.2.2.2.2 e)) E i) i).1, ((fa_fill (fun e => eBecome (E e) ((par q).2.2.2.2.2.2 e)) E i) i).2.1, ((fa_fill (fun e => eBecome (E e) ((par q).2.2.2.2.2.2 e)) E i) i).2.2.1, ((fa_fill (fun e => eBecome (E e) ((par q).2.2.2.2.2.2 e)) E i) i).2.2.2) ((par q).2.2.2.2.2.2 i)).2.2.1, (eBecome (((fa_fill (fun e => eBecome (E e) ((par q).2.2.2.2.2.2 e)) E i) i).1, ((fa_fill (fun e => eBecome (E e) ((par q).2.2.2.2.2.2 e)) E i) i).2.1, ((fa_fill (fun e => eBecome (E e) ((par q).2.2.2.2.2.2 e)) E i) i).2.2.1, ((fa_fill (fun e => eBecome (E e) ((par q).2.2.2.2.2.2 e)) E i) i).2.2.2) ((par q).2.2.2.2.2.2 i)).2.2.2) = (fa_fill (fun e => eBecome (E e) ((par q).2.2.2.2.2.2 e)) E (i + 1)) := fa_va (by rw [fa_here])
    refine v_w (w2 := ((va_up par p ((par q).1, (par q).2.1, (va_cpy (par q).2.2.1 W 0 0 12), (va_cpy (par q).2.2.2.1 S 0 0 12), (va_cpy (par q).2.2.2.2.1 R 0 0 12), C, (fa_fill (fun e => eBecome (E e) ((par q).2.2.2.2.2.2 e)) E (i + 1))), tp, sh, tl, hi), M)) (by rw [e91]) ?_
    exact ih (i + 1) (by omega) hk
set_option maxHeartbeats 1000000 in
set_option maxRecDepth 4000 in
theorem lp_bec2 (l : Launch) {G : Gl} {X : VX} {ov : Option Value} {wF : WS} {par : Nat → Pa} {tp : Tp} {sh : Nat → Sh} {tl : Nat → Int32} {hi : Int32} {M : MS} {p mo sz : Nat} {W S R : Nat → Int32} {C : Nat → Nat → Int32} {E : Nat → Ew} (hp : p < 3) {q : Nat} (hq : q < 3) (hpq : q ≠ p) (hsz : (par q).2.1 ≤ 8) : ∀ n i : Nat, i + n = 4 → V l X 2 47 cX1_become 3 RX1 none G ov wF ((va_up par p ((par q).1, (par q).2.1, (va_cpy (par q).2.2.1 W 0 0 12), (va_cpy (par q).2.2.2.1 S 0 0 12), (va_cpy (par q).2.2.2.2.1 R 0 0 12), (fa_fill (fun c => va_cpy ((par q).2.2.2.2.2.1 c) (C c) 0 0 12) C 4), (fa_fill (fun e => eBecome (E e) ((par q).2.2.2.2.2.2 e)) E (par q).2.1)), tp, sh, tl, hi), M) 124 [(2, .int (nI 4)), (0, .ref (ga G (1 + p))), (1, .ref (ga G (1 + q)))] [] → V l X 2 47 cX1_become 3 RX1 none G ov wF ((va_up par p ((par q).1, (par q).2.1, (va_cpy (par q).2.2.1 W 0 0 12), (va_cpy (par q).2.2.2.1 S 0 0 12), (va_cpy (par q).2.2.2.2.1 R 0 0 12), (fa_fill (fun c => va_cpy ((par q).2.2.2.2.2.1 c) (C c) 0 0 12) C i), (fa_fill (fun e => eBecome (E e) ((par q).2.2.2.2.2.2 e)) E (par q).2.1)), tp, sh, tl, hi), M) 94 [(2, .int (nI i)), (0, .ref (ga G (1 + p))), (1, .ref (ga G (1 + q)))] [] := by
  intro n
  induction n with
  | zero =>
    intro i hin hk
    obtain rfl : 4 = i := by omega
    refine v_iload_n dX1_become_94 0 rfl 95 rfl ?_
    refine v_iconst dX1_become_95 4 rfl 96 rfl ?_
    refine n_icmp_ge dX1_become_96 4 4 rfl rfl (by omega) (by omega) 124 (by decide) 99 rfl (fun c1 => ?_) (fun c1 => absurd c1 (by omega))
    exact hk
  | succ n ih =>
    intro i hin hk
    refine v_iload_n dX1_become_94 0 rfl 95 rfl ?_
    refine v_iconst dX1_become_95 4 rfl 96 rfl ?_
    refine n_icmp_ge dX1_become_96 i 4 rfl rfl (by omega) (by omega) 124 (by decide) 99 rfl (fun c1 => absurd c1 (by omega)) (fun c1 => ?_)
    refine v_aload_n dX1_become_99 2 rfl 100 rfl ?_
    refine v_get (i := 6) (ci := 1) (T := TX1) (C := RX1) (N := 7) (v := .ref (ga G (16 + q))) dX1_become_100 inB1 rfl qw_129 rfl (by decide) (k_par hq) (f1_par hq hpq) rfl 103 rfl ?_
    refine v_iload_n dX1_become_103 0 rfl 104 rfl ?_
    refine v_aaldG dX1_become_104 (k_cos hq) (cel_cos G _ hq) i rfl (by omega) (by decide) rfl 105 rfl ?_
    refine v_iconst dX1_become_105 0 rfl 106 rfl ?_
    refine v_aload_n dX1_become_106 1 rfl 107 rfl ?_
    refine v_get (i := 6) (ci := 1) (T := TX1) (C := RX1) (N := 7) (v := .ref (ga G (16 + p))) dX1_become_107 inB1 rfl qw_129 rfl (by decide) (k_par hp) (f_par hp) rfl 110 rfl ?_
    refine v_iload_n dX1_become_110 0 rfl 111 rfl ?_
    refine v_aaldG dX1_become_111 (k_cos hp) (cel_cos G _ hp) i rfl (by omega) (by decide) rfl 112 rfl ?_
    refine v_iconst dX1_become_112 0 rfl 113 rfl ?_
    refine v_bipush dX1_become_113 12 rfl 115 rfl ?_
    refine v_copyi (w2 := ((va_up par p ((par q).1, (par q).2.1, (va_cpy (par q).2.2.1 W 0 0 12), (va_cpy (par q).2.2.2.1 S 0 0 12), (va_cpy (par q).2.2.2.2.1 R 0 0 12), (va_up (fa_fill (fun c => va_cpy ((par q).2.2.2.2.2.1 c) (C c) 0 0 12) C i) i (va_cpy ((par q).2.2.2.2.2.1 i) ((fa_fill (fun c => va_cpy ((par q).2.2.2.2.2.1 c) (C c) 0 0 12) C i) i) 0 0 12)), (fa_fill (fun e => eBecome (E e) ((par q).2.2.2.2.2.2 e)) E (par q).2.1)), tp, sh, tl, hi), M)) (a := (par q).2.2.2.2.2.1 i) (b := (fa_fill (fun c => va_cpy ((par q).2.2.2.2.2.1 c) (C c) 0 0 12) C i) i) dX1_become_115 qw_432 (by decide) (Nat.le_of_ble_eq_true rfl) (k_coa hq (by omega)) (f1_coa hq (by omega) hpq) (k_coa hp (by omega)) (f_coa hp (by omega)) 0 0 12 rfl rfl rfl (by omega) (by omega) (by decide) (by decide) (u_C hp (by omega)) 118 rfl ?_
    refine v_iinc dX1_become_118 0 rfl (nI (i + 1)) (nI_1 _) (by decide) [(2, .int (nI (i + 1))), (0, .ref (ga G (1 + p))), (1, .ref (ga G (1 + q)))] rfl 121 rfl ?_
    refine v_goto dX1_become_121 94 (by decide) ?_
    have e91 : (va_up (fa_fill (fun c => va_cpy ((par q).2.2.2.2.2.1 c) (C c) 0 0 12) C i) i (va_cpy ((par q).2.2.2.2.2.1 i) ((fa_fill (fun c => va_cpy ((par q).2.2.2.2.2.1 c) (C c) 0 0 12) C i) i) 0 0 12)) = (fa_fill (fun c => va_cpy ((par q).2.2.2.2.2.1 c) (C c) 0 0 12) C (i + 1)) := fa_va (by rw [fa_here])
    refine v_w (w2 := ((va_up par p ((par q).1, (par q).2.1, (va_cpy (par q).2.2.1 W 0 0 12), (va_cpy (par q).2.2.2.1 S 0 0 12), (va_cpy (par q).2.2.2.2.1 R 0 0 12), (fa_fill (fun c => va_cpy ((par q).2.2.2.2.2.1 c) (C c) 0 0 12) C (i + 1)), (fa_fill (fun e => eBecome (E e) ((par q).2.2.2.2.2.2 e)) E (par q).2.1)), tp, sh, tl, hi), M)) (by rw [e91]) ?_
    exact ih (i + 1) (by omega) hk
set_option maxHeartbeats 1000000 in
set_option maxRecDepth 4000 in
theorem c_X1_become (l : Launch) {G : Gl} {par : Nat → Pa} {tp : Tp} {sh : Nat → Sh} {tl : Nat → Int32} {hi : Int32} {M : MS} {p mo sz : Nat} {W S R : Nat → Int32} {C : Nat → Nat → Int32} {E : Nat → Ew} (hp : p < 3) {q : Nat} (hq : q < 3) (hpq : q ≠ p) (hsz : (par q).2.1 ≤ 8) : Ct l G yX1_become cX1_become 3 none 2 47 [.ref (ga G (1 + p)), .ref (ga G (1 + q))] ((va_up par p (mo, sz, W, S, R, C, E), tp, sh, tl, hi), M) (none) ((va_up par p (pCopy (mo, sz, W, S, R, C, E) (par q)), tp, sh, tl, hi), M) := by
  refine Ct.of (own := RX1) (by decide) rfl (Nat.le_of_ble_eq_true rfl) rfl (fun X => ?_)
  refine v_aload_n dX1_become_0 0 rfl 1 rfl ?_
  refine v_aload_n dX1_become_1 1 rfl 2 rfl ?_
  refine v_get (i := 0) (ci := 1) (T := TX1) (C := RX1) (N := 7) (v := .int (nI (par q).1)) dX1_become_2 inB1 rfl qw_115 rfl (by decide) (k_par hq) (f1_par hq hpq) rfl 5 rfl ?_
  refine v_put (i := 0) (ci := 1) (T := TX1) (C := RX1) (N := 7) (ty := .int) (w2 := ((va_up par p ((par q).1, sz, W, S, R, C, E), tp, sh, tl, hi), M)) dX1_become_5 inB1 tyX1 tyX1_ok nmX1 rfl qw_115 rfl rfl rfl rfl rfl (by decide) (k_par hp) (f_par hp) (Nat.le_of_ble_eq_true rfl) (u_mo hp) 8 rfl ?_
  refine v_aload_n dX1_become_8 0 rfl 9 rfl ?_
  refine v_aload_n dX1_become_9 1 rfl 10 rfl ?_
  refine v_get (i := 1) (ci := 1) (T := TX1) (C := RX1) (N := 7) (v := .int (nI (par q).2.1)) dX1_become_10 inB1 rfl qw_117 rfl (by decide) (k_par hq) (f1_par hq hpq) rfl 13 rfl ?_
  refine v_put (i := 1) (ci := 1) (T := TX1) (C := RX1) (N := 7) (ty := .int) (w2 := ((va_up par p ((par q).1, (par q).2.1, W, S, R, C, E), tp, sh, tl, hi), M)) dX1_become_13 inB1 tyX1 tyX1_ok nmX1 rfl qw_117 rfl rfl rfl rfl rfl (by decide) (k_par hp) (f_par hp) (Nat.le_of_ble_eq_true rfl) (u_sz hp) 16 rfl ?_
  refine v_aload_n dX1_become_16 1 rfl 17 rfl ?_
  refine v_get (i := 2) (ci := 1) (T := TX1) (C := RX1) (N := 7) (v := .ref (ga G (4 + q))) dX1_become_17 inB1 rfl qw_119 rfl (by decide) (k_par hq) (f1_par hq hpq) rfl 20 rfl ?_
  refine v_iconst dX1_become_20 0 rfl 21 rfl ?_
  refine v_aload_n dX1_become_21 0 rfl 22 rfl ?_
  refine v_get (i := 2) (ci := 1) (T := TX1) (C := RX1) (N := 7) (v := .ref (ga G (4 + p))) dX1_become_22 inB1 rfl qw_119 rfl (by decide) (k_par hp) (f_par hp) rfl 25 rfl ?_
  refine v_iconst dX1_become_25 0 rfl 26 rfl ?_
  refine v_bipush dX1_become_26 12 rfl 28 rfl ?_
  refine v_copyi (w2 := ((va_up par p ((par q).1, (par q).2.1, (va_cpy (par q).2.2.1 W 0 0 12), S, R, C, E), tp, sh, tl, hi), M)) (a := (par q).2.2.1) (b := W) dX1_become_28 qw_432 (by decide) (Nat.le_of_ble_eq_true rfl) (k_wea hq) (f1_wea hq hpq) (k_wea hp) (f_wea hp) 0 0 12 rfl rfl rfl (by omega) (by omega) (by decide) (by decide) (u_W hp) 31 rfl ?_
  refine v_aload_n dX1_become_31 1 rfl 32 rfl ?_
  refine v_get (i := 3) (ci := 1) (T := TX1) (C := RX1) (N := 7) (v := .ref (ga G (7 + q))) dX1_become_32 inB1 rfl qw_122 rfl (by decide) (k_par hq) (f1_par hq hpq) rfl 35 rfl ?_
  refine v_iconst dX1_become_35 0 rfl 36 rfl ?_
  refine v_aload_n dX1_become_36 0 rfl 37 rfl ?_
  refine v_get (i := 3) (ci := 1) (T := TX1) (C := RX1) (N := 7) (v := .ref (ga G (7 + p))) dX1_become_37 inB1 rfl qw_122 rfl (by decide) (k_par hp) (f_par hp) rfl 40 rfl ?_
  refine v_iconst dX1_become_40 0 rfl 41 rfl ?_
  refine v_bipush dX1_become_41 12 rfl 43 rfl ?_
  refine v_copyi (w2 := ((va_up par p ((par q).1, (par q).2.1, (va_cpy (par q).2.2.1 W 0 0 12), (va_cpy (par q).2.2.2.1 S 0 0 12), R, C, E), tp, sh, tl, hi), M)) (a := (par q).2.2.2.1) (b := S) dX1_become_43 qw_432 (by decide) (Nat.le_of_ble_eq_true rfl) (k_sto hq) (f1_sto hq hpq) (k_sto hp) (f_sto hp) 0 0 12 rfl rfl rfl (by omega) (by omega) (by decide) (by decide) (u_S hp) 46 rfl ?_
  refine v_aload_n dX1_become_46 1 rfl 47 rfl ?_
  refine v_get (i := 4) (ci := 1) (T := TX1) (C := RX1) (N := 7) (v := .ref (ga G (10 + q))) dX1_become_47 inB1 rfl qw_125 rfl (by decide) (k_par hq) (f1_par hq hpq) rfl 50 rfl ?_
  refine v_iconst dX1_become_50 0 rfl 51 rfl ?_
  refine v_aload_n dX1_become_51 0 rfl 52 rfl ?_
  refine v_get (i := 4) (ci := 1) (T := TX1) (C := RX1) (N := 7) (v := .ref (ga G (10 + p))) dX1_become_52 inB1 rfl qw_125 rfl (by decide) (k_par hp) (f_par hp) rfl 55 rfl ?_
  refine v_iconst dX1_become_55 0 rfl 56 rfl ?_
  refine v_bipush dX1_become_56 12 rfl 58 rfl ?_
  refine v_copyi (w2 := ((va_up par p ((par q).1, (par q).2.1, (va_cpy (par q).2.2.1 W 0 0 12), (va_cpy (par q).2.2.2.1 S 0 0 12), (va_cpy (par q).2.2.2.2.1 R 0 0 12), C, E), tp, sh, tl, hi), M)) (a := (par q).2.2.2.2.1) (b := R) dX1_become_58 qw_432 (by decide) (Nat.le_of_ble_eq_true rfl) (k_rou hq) (f1_rou hq hpq) (k_rou hp) (f_rou hp) 0 0 12 rfl rfl rfl (by omega) (by omega) (by decide) (by decide) (u_R hp) 61 rfl ?_
  refine v_iconst dX1_become_61 0 rfl 62 rfl ?_
  refine v_istore_n dX1_become_62 2 rfl (by decide) [(2, .int 0), (0, .ref (ga G (1 + p))), (1, .ref (ga G (1 + q)))] rfl 63 rfl ?_
  refine v_w (w2 := ((va_up par p ((par q).1, (par q).2.1, (va_cpy (par q).2.2.1 W 0 0 12), (va_cpy (par q).2.2.2.1 S 0 0 12), (va_cpy (par q).2.2.2.2.1 R 0 0 12), C, (fa_fill (fun e => eBecome (E e) ((par q).2.2.2.2.2.2 e)) E 0)), tp, sh, tl, hi), M)) (by rw [fa_fill_0]) ?_
  refine lp_bec1 l (mo := mo) (sz := sz) hp hq hpq hsz (par q).2.1 0 (by omega) ?_
  refine v_iconst dX1_become_92 0 rfl 93 rfl ?_
  refine v_istore_n dX1_become_93 2 rfl (by decide) [(2, .int 0), (0, .ref (ga G (1 + p))), (1, .ref (ga G (1 + q)))] rfl 94 rfl ?_
  refine v_w (w2 := ((va_up par p ((par q).1, (par q).2.1, (va_cpy (par q).2.2.1 W 0 0 12), (va_cpy (par q).2.2.2.1 S 0 0 12), (va_cpy (par q).2.2.2.2.1 R 0 0 12), (fa_fill (fun c => va_cpy ((par q).2.2.2.2.2.1 c) (C c) 0 0 12) C 0), (fa_fill (fun e => eBecome (E e) ((par q).2.2.2.2.2.2 e)) E (par q).2.1)), tp, sh, tl, hi), M)) (by rw [fa_fill_0]) ?_
  refine lp_bec2 l (mo := mo) (sz := sz) hp hq hpq hsz 4 0 (by omega) ?_
  exact v_vret dX1_become_124 (by rfl) (by rfl)
