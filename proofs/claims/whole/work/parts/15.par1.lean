set_option maxHeartbeats 1000000 in
set_option maxRecDepth 4000 in
theorem c_X1_monthOfYear (l : Launch) {G : Gl} {par : Nat → Pa} {tp : Tp} {sh : Nat → Sh} {tl : Nat → Int32} {hi : Int32} {M : MS} {p mo sz : Nat} {W S R : Nat → Int32} {C : Nat → Nat → Int32} {E : Nat → Ew} (hp : p < 3) (hmo : mo < 2 ^ 31) : Ct l G yX1_monthOfYear cX1_monthOfYear 1 (some .int) 0 0 [.ref (ga G (1 + p))] ((va_up par p (mo, sz, W, S, R, C, E), tp, sh, tl, hi), M) (some (.int (nI (mo % 12)))) ((va_up par p (mo, sz, W, S, R, C, E), tp, sh, tl, hi), M) := by
  refine Ct.of (own := RX1) (by decide) rfl (Nat.le_of_ble_eq_true rfl) rfl (fun X => ?_)
  refine v_aload_n dX1_monthOfYear_0 0 rfl 1 rfl ?_
  refine v_get (i := 0) (ci := 1) (T := TX1) (C := RX1) (N := 7) (v := .int (nI mo)) dX1_monthOfYear_1 inB1 rfl qw_115 rfl (by decide) (k_par hp) (f_par hp) rfl 4 rfl ?_
  refine v_bipush dX1_monthOfYear_4 12 rfl 6 rfl ?_
  refine n_irem dX1_monthOfYear_6 mo 12 rfl rfl (by omega) (by decide) (by decide) 7 rfl ?_
  exact v_iret dX1_monthOfYear_7 (by rfl) (by rfl)
set_option maxHeartbeats 1000000 in
set_option maxRecDepth 4000 in
theorem c_X1_isFull (l : Launch) {G : Gl} {par : Nat → Pa} {tp : Tp} {sh : Nat → Sh} {tl : Nat → Int32} {hi : Int32} {M : MS} {p mo sz : Nat} {W S R : Nat → Int32} {C : Nat → Nat → Int32} {E : Nat → Ew} (hp : p < 3) (hsz : sz < 2 ^ 31) : Ct l G yX1_isFull cX1_isFull 1 (some .boolean) 0 0 [.ref (ga G (1 + p))] ((va_up par p (mo, sz, W, S, R, C, E), tp, sh, tl, hi), M) (some (.int (b2 (decide (8 ≤ sz))))) ((va_up par p (mo, sz, W, S, R, C, E), tp, sh, tl, hi), M) := by
  refine Ct.of (own := RX1) (by decide) rfl (Nat.le_of_ble_eq_true rfl) rfl (fun X => ?_)
  refine v_aload_n dX1_isFull_0 0 rfl 1 rfl ?_
  refine v_get (i := 1) (ci := 1) (T := TX1) (C := RX1) (N := 7) (v := .int (nI sz)) dX1_isFull_1 inB1 rfl qw_117 rfl (by decide) (k_par hp) (f_par hp) rfl 4 rfl ?_
  refine v_bipush dX1_isFull_4 8 rfl 6 rfl ?_
  refine n_icmp_lt dX1_isFull_6 sz 8 rfl rfl (by omega) (by omega) 13 (by decide) 9 rfl (fun c1 => ?_) (fun c1 => ?_)
  · skip
    refine v_iconst dX1_isFull_13 0 rfl 14 rfl ?_
    exact v_zret dX1_isFull_14 rfl (by simp [b2, c1, Nat.not_le.mpr c1]; try omega) (by rfl)
  · skip
    refine v_iconst dX1_isFull_9 1 rfl 10 rfl ?_
    refine v_goto dX1_isFull_10 14 (by decide) ?_
    exact v_zret dX1_isFull_14 rfl (by simp [b2, c1, Nat.not_lt.mpr c1]; try omega) (by rfl)
set_option maxHeartbeats 1000000 in
set_option maxRecDepth 4000 in
theorem c_X1_roomInCoat (l : Launch) {G : Gl} {par : Nat → Pa} {tp : Tp} {sh : Nat → Sh} {tl : Nat → Int32} {hi : Int32} {M : MS} {p mo sz : Nat} {W S R : Nat → Int32} {C : Nat → Nat → Int32} {E : Nat → Ew} (hp : p < 3) {c m : Nat} (hc : c < 4) (hm : m < 12) : Ct l G yX1_roomInCoat cX1_roomInCoat 3 (some .int) 0 0 [.ref (ga G (1 + p)), .int (nI c), .int (nI m)] ((va_up par p (mo, sz, W, S, R, C, E), tp, sh, tl, hi), M) (some (.int (999 - C c m))) ((va_up par p (mo, sz, W, S, R, C, E), tp, sh, tl, hi), M) := by
  refine Ct.of (own := RX1) (by decide) rfl (Nat.le_of_ble_eq_true rfl) rfl (fun X => ?_)
  refine v_sipush dX1_roomInCoat_0 999 rfl 3 rfl ?_
  refine v_aload_n dX1_roomInCoat_3 0 rfl 4 rfl ?_
  refine v_get (i := 6) (ci := 1) (T := TX1) (C := RX1) (N := 7) (v := .ref (ga G (16 + p))) dX1_roomInCoat_4 inB1 rfl qw_129 rfl (by decide) (k_par hp) (f_par hp) rfl 7 rfl ?_
  refine v_iload_n dX1_roomInCoat_7 1 rfl 8 rfl ?_
  refine v_aaldG dX1_roomInCoat_8 (k_cos hp) (cel_cos G _ hp) c rfl (by omega) (by decide) rfl 9 rfl ?_
  refine v_iload_n dX1_roomInCoat_9 2 rfl 10 rfl ?_
  refine v_iald (a := C c) dX1_roomInCoat_10 (k_coa hp (by omega)) (f_coa hp (by omega)) m rfl (by omega) (by decide) 11 rfl ?_
  refine v_isub dX1_roomInCoat_11 12 rfl ?_
  exact v_iret dX1_roomInCoat_12 (by rfl) (by rfl)
set_option maxHeartbeats 1000000 in
set_option maxRecDepth 4000 in
theorem c_X1_warmthOf (l : Launch) {G : Gl} {par : Nat → Pa} {tp : Tp} {sh : Nat → Sh} {tl : Nat → Int32} {hi : Int32} {M : MS} {p mo sz : Nat} {W S R : Nat → Int32} {C : Nat → Nat → Int32} {E : Nat → Ew} (hp : p < 3) {m : Nat} (hm : m < 12) (x : Int32) : Ct l G yX1_warmthOf cX1_warmthOf 3 (some .int) 0 0 [.ref (ga G (1 + p)), .int (nI m), .int x] ((va_up par p (mo, sz, W, S, R, C, E), tp, sh, tl, hi), M) (some (.int (wOf (W m) x))) ((va_up par p (mo, sz, W, S, R, C, E), tp, sh, tl, hi), M) := by
  refine Ct.of (own := RX1) (by decide) rfl (Nat.le_of_ble_eq_true rfl) rfl (fun X => ?_)
  refine v_aload_n dX1_warmthOf_0 0 rfl 1 rfl ?_
  refine v_get (i := 2) (ci := 1) (T := TX1) (C := RX1) (N := 7) (v := .ref (ga G (4 + p))) dX1_warmthOf_1 inB1 rfl qw_119 rfl (by decide) (k_par hp) (f_par hp) rfl 4 rfl ?_
  refine v_iload_n dX1_warmthOf_4 1 rfl 5 rfl ?_
  refine v_iald (a := W) dX1_warmthOf_5 (k_wea hp) (f_wea hp) m rfl (by omega) (by decide) 6 rfl ?_
  refine v_if_ge dX1_warmthOf_6 13 (by decide) 9 rfl (fun c1 => ?_) (fun c1 => ?_)
  · skip
    refine v_aload_n dX1_warmthOf_13 0 rfl 14 rfl ?_
    refine v_get (i := 2) (ci := 1) (T := TX1) (C := RX1) (N := 7) (v := .ref (ga G (4 + p))) dX1_warmthOf_14 inB1 rfl qw_119 rfl (by decide) (k_par hp) (f_par hp) rfl 17 rfl ?_
    refine v_iload_n dX1_warmthOf_17 1 rfl 18 rfl ?_
    refine v_iald (a := W) dX1_warmthOf_18 (k_wea hp) (f_wea hp) m rfl (by omega) (by decide) 19 rfl ?_
    refine v_bipush dX1_warmthOf_19 10 rfl 21 rfl ?_
    refine v_icmp_le dX1_warmthOf_21 30 (by decide) 24 rfl (fun c2 => ?_) (fun c2 => ?_)
    · skip
      refine v_iload_n dX1_warmthOf_30 2 rfl 31 rfl ?_
      exact v_iret dX1_warmthOf_31 (by simp [wOf, c1, Int32.not_lt.mpr c1, c2, Int32.not_lt.mpr c2]) (by rfl)
    · skip
      refine v_iload_n dX1_warmthOf_24 2 rfl 25 rfl ?_
      refine v_iconst dX1_warmthOf_25 2 rfl 26 rfl ?_
      refine v_idiv dX1_warmthOf_26 (by decide) 27 rfl ?_
      refine v_goto dX1_warmthOf_27 31 (by decide) ?_
      exact v_iret dX1_warmthOf_31 (by simp [wOf, c1, Int32.not_lt.mpr c1, c2, Int32.not_le.mp c2]) (by rfl)
  · skip
    refine v_iconst dX1_warmthOf_9 2 rfl 10 rfl ?_
    refine v_iload_n dX1_warmthOf_10 2 rfl 11 rfl ?_
    refine v_imul dX1_warmthOf_11 12 rfl ?_
    exact v_iret dX1_warmthOf_12 (by simp [wOf, c1, Int32.not_le.mp c1]) (by rfl)
set_option maxHeartbeats 1000000 in
set_option maxRecDepth 4000 in
theorem lp_warmthOfCoat (l : Launch) {G : Gl} {X : VX} {ov : Option Value} {wF : WS} {par : Nat → Pa} {tp : Tp} {sh : Nat → Sh} {tl : Nat → Int32} {hi : Int32} {M : MS} {p mo sz : Nat} {W S R : Nat → Int32} {C : Nat → Nat → Int32} {E : Nat → Ew} (hp : p < 3) {c : Nat} (hc : c < 4) : ∀ n i : Nat, i + n = 12 → V l X 1 22 cX1_warmthOfCoat 4 RX1 (some .int) G ov wF ((va_up par p (mo, sz, W, S, R, C, E), tp, sh, tl, hi), M) 32 [(3, .int (nI 12)), (2, .int (sm (fun m => wOf (W m) (C c m)) 12)), (0, .ref (ga G (1 + p))), (1, .int (nI c))] [] → V l X 1 22 cX1_warmthOfCoat 4 RX1 (some .int) G ov wF ((va_up par p (mo, sz, W, S, R, C, E), tp, sh, tl, hi), M) 4 [(3, .int (nI i)), (2, .int (sm (fun m => wOf (W m) (C c m)) i)), (0, .ref (ga G (1 + p))), (1, .int (nI c))] [] := by
  intro n
  induction n with
  | zero =>
    intro i hin hk
    obtain rfl : 12 = i := by omega
    refine v_iload_n dX1_warmthOfCoat_4 0 rfl 5 rfl ?_
    refine v_bipush dX1_warmthOfCoat_5 12 rfl 7 rfl ?_
    refine n_icmp_ge dX1_warmthOfCoat_7 12 12 rfl rfl (by omega) (by omega) 32 (by decide) 10 rfl (fun c1 => ?_) (fun c1 => absurd c1 (by omega))
    exact hk
  | succ n ih =>
    intro i hin hk
    refine v_iload_n dX1_warmthOfCoat_4 0 rfl 5 rfl ?_
    refine v_bipush dX1_warmthOfCoat_5 12 rfl 7 rfl ?_
    refine n_icmp_ge dX1_warmthOfCoat_7 i 12 rfl rfl (by omega) (by omega) 32 (by decide) 10 rfl (fun c1 => absurd c1 (by omega)) (fun c1 => ?_)
    refine v_iload_n dX1_warmthOfCoat_10 1 rfl 11 rfl ?_
    refine v_aload_n dX1_warmthOfCoat_11 2 rfl 12 rfl ?_
    refine v_iload_n dX1_warmthOfCoat_12 0 rfl 13 rfl ?_
    refine v_aload_n dX1_warmthOfCoat_13 2 rfl 14 rfl ?_
    refine v_get (i := 6) (ci := 1) (T := TX1) (C := RX1) (N := 7) (v := .ref (ga G (16 + p))) dX1_warmthOfCoat_14 inB1 rfl qw_129 rfl (by decide) (k_par hp) (f_par hp) rfl 17 rfl ?_
    refine v_iload_n dX1_warmthOfCoat_17 3 rfl 18 rfl ?_
    refine v_aaldG dX1_warmthOfCoat_18 (k_cos hp) (cel_cos G _ hp) c rfl (by omega) (by decide) rfl 19 rfl ?_
    refine v_iload_n dX1_warmthOfCoat_19 0 rfl 20 rfl ?_
    refine v_iald (a := C c) dX1_warmthOfCoat_20 (k_coa hp (by omega)) (f_coa hp (by omega)) i rfl (by omega) (by decide) 21 rfl ?_
    refine v_callV (c_X1_warmthOf l hp (m := i) (by omega) ((C c) i) ) kal_X1_warmthOf rfl dX1_warmthOfCoat_21 qw_353 qw_354 qw_355 rfl (k_par hp) (f_par hp) (by decide) [.int (sm (fun m => wOf (W m) (C c m)) i)] (Nat.le_of_ble_eq_true rfl) rfl rfl 24 rfl ?_
    refine v_iadd dX1_warmthOfCoat_24 25 rfl ?_
    refine v_istore_n dX1_warmthOfCoat_25 2 rfl (by decide) [(2, .int ((sm (fun m => wOf (W m) (C c m)) i) + (wOf (W i) ((C c) i)))), (3, .int (nI i)), (0, .ref (ga G (1 + p))), (1, .int (nI c))] rfl 26 rfl ?_
    refine v_iinc dX1_warmthOfCoat_26 1 rfl (nI (i + 1)) (nI_1 _) (by decide) [(3, .int (nI (i + 1))), (2, .int ((sm (fun m => wOf (W m) (C c m)) i) + (wOf (W i) ((C c) i)))), (0, .ref (ga G (1 + p))), (1, .int (nI c))] rfl 29 rfl ?_
    refine v_goto dX1_warmthOfCoat_29 4 (by decide) ?_
    exact ih (i + 1) (by omega) hk
set_option maxHeartbeats 1000000 in
set_option maxRecDepth 4000 in
theorem c_X1_warmthOfCoat (l : Launch) {G : Gl} {par : Nat → Pa} {tp : Tp} {sh : Nat → Sh} {tl : Nat → Int32} {hi : Int32} {M : MS} {p mo sz : Nat} {W S R : Nat → Int32} {C : Nat → Nat → Int32} {E : Nat → Ew} (hp : p < 3) {c : Nat} (hc : c < 4) : Ct l G yX1_warmthOfCoat cX1_warmthOfCoat 4 (some .int) 1 22 [.ref (ga G (1 + p)), .int (nI c)] ((va_up par p (mo, sz, W, S, R, C, E), tp, sh, tl, hi), M) (some (.int (sm (fun m => wOf (W m) (C c m)) 12))) ((va_up par p (mo, sz, W, S, R, C, E), tp, sh, tl, hi), M) := by
  refine Ct.of (own := RX1) (by decide) rfl (Nat.le_of_ble_eq_true rfl) rfl (fun X => ?_)
  refine v_iconst dX1_warmthOfCoat_0 0 rfl 1 rfl ?_
  refine v_istore_n dX1_warmthOfCoat_1 2 rfl (by decide) [(2, .int 0), (0, .ref (ga G (1 + p))), (1, .int (nI c))] rfl 2 rfl ?_
  refine v_iconst dX1_warmthOfCoat_2 0 rfl 3 rfl ?_
  refine v_istore_n dX1_warmthOfCoat_3 3 rfl (by decide) [(3, .int 0), (2, .int 0), (0, .ref (ga G (1 + p))), (1, .int (nI c))] rfl 4 rfl ?_
  refine lp_warmthOfCoat l hp hc 12 0 (by omega) ?_
  refine v_iload_n dX1_warmthOfCoat_32 1 rfl 33 rfl ?_
  exact v_iret dX1_warmthOfCoat_33 (by rfl) (by rfl)
set_option maxHeartbeats 1000000 in
set_option maxRecDepth 4000 in
theorem lp_harshnessOfCoat (l : Launch) {G : Gl} {X : VX} {ov : Option Value} {wF : WS} {par : Nat → Pa} {tp : Tp} {sh : Nat → Sh} {tl : Nat → Int32} {hi : Int32} {M : MS} {p mo sz : Nat} {W S R : Nat → Int32} {C : Nat → Nat → Int32} {E : Nat → Ew} (hp : p < 3) {c : Nat} (hc : c < 4) : ∀ n i : Nat, i + n = 12 → V l X 0 0 cX1_harshnessOfCoat 4 RX1 (some .int) G ov wF ((va_up par p (mo, sz, W, S, R, C, E), tp, sh, tl, hi), M) 37 [(3, .int (nI 12)), (2, .int (sm (fun m => C c m * R m / 100) 12)), (0, .ref (ga G (1 + p))), (1, .int (nI c))] [] → V l X 0 0 cX1_harshnessOfCoat 4 RX1 (some .int) G ov wF ((va_up par p (mo, sz, W, S, R, C, E), tp, sh, tl, hi), M) 4 [(3, .int (nI i)), (2, .int (sm (fun m => C c m * R m / 100) i)), (0, .ref (ga G (1 + p))), (1, .int (nI c))] [] := by
  intro n
  induction n with
  | zero =>
    intro i hin hk
    obtain rfl : 12 = i := by omega
    refine v_iload_n dX1_harshnessOfCoat_4 0 rfl 5 rfl ?_
    refine v_bipush dX1_harshnessOfCoat_5 12 rfl 7 rfl ?_
    refine n_icmp_ge dX1_harshnessOfCoat_7 12 12 rfl rfl (by omega) (by omega) 37 (by decide) 10 rfl (fun c1 => ?_) (fun c1 => absurd c1 (by omega))
    exact hk
  | succ n ih =>
    intro i hin hk
    refine v_iload_n dX1_harshnessOfCoat_4 0 rfl 5 rfl ?_
    refine v_bipush dX1_harshnessOfCoat_5 12 rfl 7 rfl ?_
    refine n_icmp_ge dX1_harshnessOfCoat_7 i 12 rfl rfl (by omega) (by omega) 37 (by decide) 10 rfl (fun c1 => absurd c1 (by omega)) (fun c1 => ?_)
    refine v_iload_n dX1_harshnessOfCoat_10 1 rfl 11 rfl ?_
    refine v_aload_n dX1_harshnessOfCoat_11 2 rfl 12 rfl ?_
    refine v_get (i := 6) (ci := 1) (T := TX1) (C := RX1) (N := 7) (v := .ref (ga G (16 + p))) dX1_harshnessOfCoat_12 inB1 rfl qw_129 rfl (by decide) (k_par hp) (f_par hp) rfl 15 rfl ?_
    refine v_iload_n dX1_harshnessOfCoat_15 3 rfl 16 rfl ?_
    refine v_aaldG dX1_harshnessOfCoat_16 (k_cos hp) (cel_cos G _ hp) c rfl (by omega) (by decide) rfl 17 rfl ?_
    refine v_iload_n dX1_harshnessOfCoat_17 0 rfl 18 rfl ?_
    refine v_iald (a := C c) dX1_harshnessOfCoat_18 (k_coa hp (by omega)) (f_coa hp (by omega)) i rfl (by omega) (by decide) 19 rfl ?_
    refine v_aload_n dX1_harshnessOfCoat_19 2 rfl 20 rfl ?_
    refine v_get (i := 4) (ci := 1) (T := TX1) (C := RX1) (N := 7) (v := .ref (ga G (10 + p))) dX1_harshnessOfCoat_20 inB1 rfl qw_125 rfl (by decide) (k_par hp) (f_par hp) rfl 23 rfl ?_
    refine v_iload_n dX1_harshnessOfCoat_23 0 rfl 24 rfl ?_
    refine v_iald (a := R) dX1_harshnessOfCoat_24 (k_rou hp) (f_rou hp) i rfl (by omega) (by decide) 25 rfl ?_
    refine v_imul dX1_harshnessOfCoat_25 26 rfl ?_
    refine v_bipush dX1_harshnessOfCoat_26 100 rfl 28 rfl ?_
    refine v_idiv dX1_harshnessOfCoat_28 (by decide) 29 rfl ?_
    refine v_iadd dX1_harshnessOfCoat_29 30 rfl ?_
    obtain ⟨z2, ez2⟩ : ∃ y : Int32, y = (sm (fun m => C c m * R m / 100) i) + ((((C c) i) * (R i)) / 100) := ⟨_, rfl⟩
    rw [← ez2]
    refine v_istore_n dX1_harshnessOfCoat_30 2 rfl (by decide) [(2, .int z2), (3, .int (nI i)), (0, .ref (ga G (1 + p))), (1, .int (nI c))] rfl 31 rfl ?_
    refine v_iinc dX1_harshnessOfCoat_31 1 rfl (nI (i + 1)) (nI_1 _) (by decide) [(3, .int (nI (i + 1))), (2, .int z2), (0, .ref (ga G (1 + p))), (1, .int (nI c))] rfl 34 rfl ?_
    refine v_goto dX1_harshnessOfCoat_34 4 (by decide) ?_
    subst ez2
    exact ih (i + 1) (by omega) hk
set_option maxHeartbeats 1000000 in
set_option maxRecDepth 4000 in
theorem c_X1_harshnessOfCoat (l : Launch) {G : Gl} {par : Nat → Pa} {tp : Tp} {sh : Nat → Sh} {tl : Nat → Int32} {hi : Int32} {M : MS} {p mo sz : Nat} {W S R : Nat → Int32} {C : Nat → Nat → Int32} {E : Nat → Ew} (hp : p < 3) {c : Nat} (hc : c < 4) : Ct l G yX1_harshnessOfCoat cX1_harshnessOfCoat 4 (some .int) 0 0 [.ref (ga G (1 + p)), .int (nI c)] ((va_up par p (mo, sz, W, S, R, C, E), tp, sh, tl, hi), M) (some (.int (sm (fun m => C c m * R m / 100) 12))) ((va_up par p (mo, sz, W, S, R, C, E), tp, sh, tl, hi), M) := by
  refine Ct.of (own := RX1) (by decide) rfl (Nat.le_of_ble_eq_true rfl) rfl (fun X => ?_)
  refine v_iconst dX1_harshnessOfCoat_0 0 rfl 1 rfl ?_
  refine v_istore_n dX1_harshnessOfCoat_1 2 rfl (by decide) [(2, .int 0), (0, .ref (ga G (1 + p))), (1, .int (nI c))] rfl 2 rfl ?_
  refine v_iconst dX1_harshnessOfCoat_2 0 rfl 3 rfl ?_
  refine v_istore_n dX1_harshnessOfCoat_3 3 rfl (by decide) [(3, .int 0), (2, .int 0), (0, .ref (ga G (1 + p))), (1, .int (nI c))] rfl 4 rfl ?_
  refine lp_harshnessOfCoat l hp hc 12 0 (by omega) ?_
  refine v_iload_n dX1_harshnessOfCoat_37 1 rfl 38 rfl ?_
  exact v_iret dX1_harshnessOfCoat_38 (by rfl) (by rfl)
set_option maxHeartbeats 1000000 in
set_option maxRecDepth 4000 in
theorem lp_monthsInCoat (l : Launch) {G : Gl} {X : VX} {ov : Option Value} {wF : WS} {par : Nat → Pa} {tp : Tp} {sh : Nat → Sh} {tl : Nat → Int32} {hi : Int32} {M : MS} {p mo sz : Nat} {W S R : Nat → Int32} {C : Nat → Nat → Int32} {E : Nat → Ew} (hp : p < 3) {c : Nat} (hc : c < 4) : ∀ n i : Nat, i + n = 12 → V l X 0 0 cX1_monthsInCoat 4 RX1 (some .int) G ov wF ((va_up par p (mo, sz, W, S, R, C, E), tp, sh, tl, hi), M) 33 [(3, .int (nI 12)), (2, .int (msk (C c) 12)), (0, .ref (ga G (1 + p))), (1, .int (nI c))] [] → V l X 0 0 cX1_monthsInCoat 4 RX1 (some .int) G ov wF ((va_up par p (mo, sz, W, S, R, C, E), tp, sh, tl, hi), M) 4 [(3, .int (nI i)), (2, .int (msk (C c) i)), (0, .ref (ga G (1 + p))), (1, .int (nI c))] [] := by
  intro n
  induction n with
  | zero =>
    intro i hin hk
    obtain rfl : 12 = i := by omega
    refine v_iload_n dX1_monthsInCoat_4 0 rfl 5 rfl ?_
    refine v_bipush dX1_monthsInCoat_5 12 rfl 7 rfl ?_
    refine n_icmp_ge dX1_monthsInCoat_7 12 12 rfl rfl (by omega) (by omega) 33 (by decide) 10 rfl (fun c1 => ?_) (fun c1 => absurd c1 (by omega))
    exact hk
  | succ n ih =>
    intro i hin hk
    refine v_iload_n dX1_monthsInCoat_4 0 rfl 5 rfl ?_
    refine v_bipush dX1_monthsInCoat_5 12 rfl 7 rfl ?_
    refine n_icmp_ge dX1_monthsInCoat_7 i 12 rfl rfl (by omega) (by omega) 33 (by decide) 10 rfl (fun c1 => absurd c1 (by omega)) (fun c1 => ?_)
    refine v_aload_n dX1_monthsInCoat_10 2 rfl 11 rfl ?_
    refine v_get (i := 6) (ci := 1) (T := TX1) (C := RX1) (N := 7) (v := .ref (ga G (16 + p))) dX1_monthsInCoat_11 inB1 rfl qw_129 rfl (by decide) (k_par hp) (f_par hp) rfl 14 rfl ?_
    refine v_iload_n dX1_monthsInCoat_14 3 rfl 15 rfl ?_
    refine v_aaldG dX1_monthsInCoat_15 (k_cos hp) (cel_cos G _ hp) c rfl (by omega) (by decide) rfl 16 rfl ?_
    refine v_iload_n dX1_monthsInCoat_16 0 rfl 17 rfl ?_
    refine v_iald (a := C c) dX1_monthsInCoat_17 (k_coa hp (by omega)) (f_coa hp (by omega)) i rfl (by omega) (by decide) 18 rfl ?_
    refine v_if_le dX1_monthsInCoat_18 27 (by decide) 21 rfl (fun c2 => ?_) (fun c2 => ?_)
    · skip
      refine v_iinc dX1_monthsInCoat_27 0 rfl (nI (i + 1)) (nI_1 _) (by decide) [(3, .int (nI (i + 1))), (2, .int (msk (C c) i)), (0, .ref (ga G (1 + p))), (1, .int (nI c))] rfl 30 rfl ?_
      refine v_goto dX1_monthsInCoat_30 4 (by decide) ?_
      have e9 : msk (C c) (i + 1) = msk (C c) i := by simp [msk, c2, Int32.not_lt.mpr c2]
      rw [← e9]
      exact ih (i + 1) (by omega) hk
    · skip
      refine v_iload_n dX1_monthsInCoat_21 1 rfl 22 rfl ?_
      refine v_iconst dX1_monthsInCoat_22 1 rfl 23 rfl ?_
      refine v_iload_n dX1_monthsInCoat_23 0 rfl 24 rfl ?_
      refine v_ishl dX1_monthsInCoat_24 25 rfl ?_
      refine v_ior dX1_monthsInCoat_25 26 rfl ?_
      refine v_istore_n dX1_monthsInCoat_26 2 rfl (by decide) [(2, .int ((msk (C c) i) ||| (1 <<< ((nI i) &&& 31)))), (3, .int (nI i)), (0, .ref (ga G (1 + p))), (1, .int (nI c))] rfl 27 rfl ?_
      refine v_iinc dX1_monthsInCoat_27 1 rfl (nI (i + 1)) (nI_1 _) (by decide) [(3, .int (nI (i + 1))), (2, .int ((msk (C c) i) ||| (1 <<< ((nI i) &&& 31)))), (0, .ref (ga G (1 + p))), (1, .int (nI c))] rfl 30 rfl ?_
      refine v_goto dX1_monthsInCoat_30 4 (by decide) ?_
      have e9 : msk (C c) (i + 1) = (msk (C c) i) ||| (1 <<< ((nI i) &&& 31)) := by simp [msk, c2, Int32.not_le.mp c2]
      rw [← e9]
      exact ih (i + 1) (by omega) hk
set_option maxHeartbeats 1000000 in
set_option maxRecDepth 4000 in
theorem c_X1_monthsInCoat (l : Launch) {G : Gl} {par : Nat → Pa} {tp : Tp} {sh : Nat → Sh} {tl : Nat → Int32} {hi : Int32} {M : MS} {p mo sz : Nat} {W S R : Nat → Int32} {C : Nat → Nat → Int32} {E : Nat → Ew} (hp : p < 3) {c : Nat} (hc : c < 4) : Ct l G yX1_monthsInCoat cX1_monthsInCoat 4 (some .int) 0 0 [.ref (ga G (1 + p)), .int (nI c)] ((va_up par p (mo, sz, W, S, R, C, E), tp, sh, tl, hi), M) (some (.int (msk (C c) 12))) ((va_up par p (mo, sz, W, S, R, C, E), tp, sh, tl, hi), M) := by
  refine Ct.of (own := RX1) (by decide) rfl (Nat.le_of_ble_eq_true rfl) rfl (fun X => ?_)
  refine v_iconst dX1_monthsInCoat_0 0 rfl 1 rfl ?_
  refine v_istore_n dX1_monthsInCoat_1 2 rfl (by decide) [(2, .int 0), (0, .ref (ga G (1 + p))), (1, .int (nI c))] rfl 2 rfl ?_
  refine v_iconst dX1_monthsInCoat_2 0 rfl 3 rfl ?_
  refine v_istore_n dX1_monthsInCoat_3 3 rfl (by decide) [(3, .int 0), (2, .int 0), (0, .ref (ga G (1 + p))), (1, .int (nI c))] rfl 4 rfl ?_
  refine lp_monthsInCoat l hp hc 12 0 (by omega) ?_
  refine v_iload_n dX1_monthsInCoat_33 1 rfl 34 rfl ?_
  exact v_iret dX1_monthsInCoat_34 (by rfl) (by rfl)
set_option maxHeartbeats 1000000 in
set_option maxRecDepth 4000 in
theorem lp_coatsWithWool (l : Launch) {G : Gl} {X : VX} {ov : Option Value} {wF : WS} {par : Nat → Pa} {tp : Tp} {sh : Nat → Sh} {tl : Nat → Int32} {hi : Int32} {M : MS} {p mo sz : Nat} {W S R : Nat → Int32} {C : Nat → Nat → Int32} {E : Nat → Ew} (hp : p < 3) : ∀ n i : Nat, i + n = 4 → V l X 1 23 cX1_coatsWithWool 3 RX1 (some .int) G ov wF ((va_up par p (mo, sz, W, S, R, C, E), tp, sh, tl, hi), M) 26 [(2, .int (nI 4)), (1, .int (cwl C 4)), (0, .ref (ga G (1 + p)))] [] → V l X 1 23 cX1_coatsWithWool 3 RX1 (some .int) G ov wF ((va_up par p (mo, sz, W, S, R, C, E), tp, sh, tl, hi), M) 4 [(2, .int (nI i)), (1, .int (cwl C i)), (0, .ref (ga G (1 + p)))] [] := by
  intro n
  induction n with
  | zero =>
    intro i hin hk
    obtain rfl : 4 = i := by omega
    refine v_iload_n dX1_coatsWithWool_4 0 rfl 5 rfl ?_
    refine v_iconst dX1_coatsWithWool_5 4 rfl 6 rfl ?_
    refine n_icmp_ge dX1_coatsWithWool_6 4 4 rfl rfl (by omega) (by omega) 26 (by decide) 9 rfl (fun c1 => ?_) (fun c1 => absurd c1 (by omega))
    exact hk
  | succ n ih =>
    intro i hin hk
    refine v_iload_n dX1_coatsWithWool_4 0 rfl 5 rfl ?_
    refine v_iconst dX1_coatsWithWool_5 4 rfl 6 rfl ?_
    refine n_icmp_ge dX1_coatsWithWool_6 i 4 rfl rfl (by omega) (by omega) 26 (by decide) 9 rfl (fun c1 => absurd c1 (by omega)) (fun c1 => ?_)
    refine v_aload_n dX1_coatsWithWool_9 2 rfl 10 rfl ?_
    refine v_iload_n dX1_coatsWithWool_10 0 rfl 11 rfl ?_
    refine v_callV (c_X1_monthsInCoat l hp (c := i) (by omega) ) kal_X1_monthsInCoat rfl dX1_coatsWithWool_11 qw_671 qw_362 qw_363 rfl (k_par hp) (f_par hp) (by decide) [] (Nat.le_of_ble_eq_true rfl) rfl rfl 14 rfl ?_
    refine v_if_eq dX1_coatsWithWool_14 20 (by decide) 17 rfl (fun c2 => ?_) (fun c2 => ?_)
    · skip
      refine v_iinc dX1_coatsWithWool_20 0 rfl (nI (i + 1)) (nI_1 _) (by decide) [(2, .int (nI (i + 1))), (1, .int (cwl C i)), (0, .ref (ga G (1 + p)))] rfl 23 rfl ?_
      refine v_goto dX1_coatsWithWool_23 4 (by decide) ?_
      have e9 : cwl C (i + 1) = cwl C i := by simp [cwl, c2]
      rw [← e9]
      exact ih (i + 1) (by omega) hk
    · skip
      refine v_iinc dX1_coatsWithWool_17 1 rfl ((cwl C i) + 1) rfl (by decide) [(1, .int ((cwl C i) + 1)), (2, .int (nI i)), (0, .ref (ga G (1 + p)))] rfl 20 rfl ?_
      refine v_iinc dX1_coatsWithWool_20 1 rfl (nI (i + 1)) (nI_1 _) (by decide) [(2, .int (nI (i + 1))), (1, .int ((cwl C i) + 1)), (0, .ref (ga G (1 + p)))] rfl 23 rfl ?_
      refine v_goto dX1_coatsWithWool_23 4 (by decide) ?_
      have e9 : cwl C (i + 1) = (cwl C i) + 1 := by simp [cwl, c2, Ne.symm c2]
      rw [← e9]
      exact ih (i + 1) (by omega) hk
set_option maxHeartbeats 1000000 in
set_option maxRecDepth 4000 in
theorem c_X1_coatsWithWool (l : Launch) {G : Gl} {par : Nat → Pa} {tp : Tp} {sh : Nat → Sh} {tl : Nat → Int32} {hi : Int32} {M : MS} {p mo sz : Nat} {W S R : Nat → Int32} {C : Nat → Nat → Int32} {E : Nat → Ew} (hp : p < 3)  : Ct l G yX1_coatsWithWool cX1_coatsWithWool 3 (some .int) 1 23 [.ref (ga G (1 + p))] ((va_up par p (mo, sz, W, S, R, C, E), tp, sh, tl, hi), M) (some (.int (cwl C 4))) ((va_up par p (mo, sz, W, S, R, C, E), tp, sh, tl, hi), M) := by
  refine Ct.of (own := RX1) (by decide) rfl (Nat.le_of_ble_eq_true rfl) rfl (fun X => ?_)
  refine v_iconst dX1_coatsWithWool_0 0 rfl 1 rfl ?_
  refine v_istore_n dX1_coatsWithWool_1 1 rfl (by decide) [(1, .int 0), (0, .ref (ga G (1 + p)))] rfl 2 rfl ?_
  refine v_iconst dX1_coatsWithWool_2 0 rfl 3 rfl ?_
  refine v_istore_n dX1_coatsWithWool_3 2 rfl (by decide) [(2, .int 0), (1, .int 0), (0, .ref (ga G (1 + p)))] rfl 4 rfl ?_
  refine lp_coatsWithWool l hp 4 0 (by omega) ?_
  refine v_iload_n dX1_coatsWithWool_26 1 rfl 27 rfl ?_
  exact v_iret dX1_coatsWithWool_27 (by rfl) (by rfl)
set_option maxHeartbeats 1000000 in
set_option maxRecDepth 4000 in
theorem lp_woolOnAll (l : Launch) {G : Gl} {X : VX} {ov : Option Value} {wF : WS} {par : Nat → Pa} {tp : Tp} {sh : Nat → Sh} {tl : Nat → Int32} {hi : Int32} {M : MS} {p mo sz : Nat} {W S R : Nat → Int32} {C : Nat → Nat → Int32} {E : Nat → Ew} (hp : p < 3) (hsz : sz ≤ 8) : ∀ n i : Nat, i + n = sz → V l X 0 0 cX1_woolOnAll 3 RX1 (some .int) G ov wF ((va_up par p (mo, sz, W, S, R, C, E), tp, sh, tl, hi), M) 30 [(2, .int (nI sz)), (1, .int (sm (fun e => (E e).2.2.1) sz)), (0, .ref (ga G (1 + p)))] [] → V l X 0 0 cX1_woolOnAll 3 RX1 (some .int) G ov wF ((va_up par p (mo, sz, W, S, R, C, E), tp, sh, tl, hi), M) 4 [(2, .int (nI i)), (1, .int (sm (fun e => (E e).2.2.1) i)), (0, .ref (ga G (1 + p)))] [] := by
  intro n
  induction n with
  | zero =>
    intro i hin hk
    obtain rfl : sz = i := by omega
    refine v_iload_n dX1_woolOnAll_4 0 rfl 5 rfl ?_
    refine v_aload_n dX1_woolOnAll_5 2 rfl 6 rfl ?_
    refine v_get (i := 1) (ci := 1) (T := TX1) (C := RX1) (N := 7) (v := .int (nI sz)) dX1_woolOnAll_6 inB1 rfl qw_117 rfl (by decide) (k_par hp) (f_par hp) rfl 9 rfl ?_
    refine n_icmp_ge dX1_woolOnAll_9 sz sz rfl rfl (by omega) (by omega) 30 (by decide) 12 rfl (fun c1 => ?_) (fun c1 => absurd c1 (by omega))
    exact hk
  | succ n ih =>
    intro i hin hk
    refine v_iload_n dX1_woolOnAll_4 0 rfl 5 rfl ?_
    refine v_aload_n dX1_woolOnAll_5 2 rfl 6 rfl ?_
    refine v_get (i := 1) (ci := 1) (T := TX1) (C := RX1) (N := 7) (v := .int (nI sz)) dX1_woolOnAll_6 inB1 rfl qw_117 rfl (by decide) (k_par hp) (f_par hp) rfl 9 rfl ?_
    refine n_icmp_ge dX1_woolOnAll_9 i sz rfl rfl (by omega) (by omega) 30 (by decide) 12 rfl (fun c1 => absurd c1 (by omega)) (fun c1 => ?_)
    refine v_iload_n dX1_woolOnAll_12 1 rfl 13 rfl ?_
    refine v_aload_n dX1_woolOnAll_13 2 rfl 14 rfl ?_
    refine v_get (i := 5) (ci := 1) (T := TX1) (C := RX1) (N := 7) (v := .ref (ga G (13 + p))) dX1_woolOnAll_14 inB1 rfl qw_127 rfl (by decide) (k_par hp) (f_par hp) rfl 17 rfl ?_
    refine v_iload_n dX1_woolOnAll_17 0 rfl 18 rfl ?_
    refine v_aaldE dX1_woolOnAll_18 (k_ews hp) (cel_ews G _ hp) i rfl (by omega) (by decide) rfl 19 rfl ?_
    refine v_get (i := 2) (ci := 0) (T := TX0) (C := RX0) (N := 4) (v := .int (E i).2.2.1) dX1_woolOnAll_19 inB0 rfl qw_101 rfl (by decide) (k_ewe (by omega)) (f0_ewe (by omega) (by omega)) rfl 22 rfl ?_
    refine v_iadd dX1_woolOnAll_22 23 rfl ?_
    refine v_istore_n dX1_woolOnAll_23 1 rfl (by decide) [(1, .int ((sm (fun e => (E e).2.2.1) i) + (E i).2.2.1)), (2, .int (nI i)), (0, .ref (ga G (1 + p)))] rfl 24 rfl ?_
    refine v_iinc dX1_woolOnAll_24 1 rfl (nI (i + 1)) (nI_1 _) (by decide) [(2, .int (nI (i + 1))), (1, .int ((sm (fun e => (E e).2.2.1) i) + (E i).2.2.1)), (0, .ref (ga G (1 + p)))] rfl 27 rfl ?_
    refine v_goto dX1_woolOnAll_27 4 (by decide) ?_
    exact ih (i + 1) (by omega) hk
set_option maxHeartbeats 1000000 in
set_option maxRecDepth 4000 in
theorem c_X1_woolOnAll (l : Launch) {G : Gl} {par : Nat → Pa} {tp : Tp} {sh : Nat → Sh} {tl : Nat → Int32} {hi : Int32} {M : MS} {p mo sz : Nat} {W S R : Nat → Int32} {C : Nat → Nat → Int32} {E : Nat → Ew} (hp : p < 3) (hsz : sz ≤ 8) : Ct l G yX1_woolOnAll cX1_woolOnAll 3 (some .int) 0 0 [.ref (ga G (1 + p))] ((va_up par p (mo, sz, W, S, R, C, E), tp, sh, tl, hi), M) (some (.int (sm (fun e => (E e).2.2.1) sz))) ((va_up par p (mo, sz, W, S, R, C, E), tp, sh, tl, hi), M) := by
  refine Ct.of (own := RX1) (by decide) rfl (Nat.le_of_ble_eq_true rfl) rfl (fun X => ?_)
  refine v_iconst dX1_woolOnAll_0 0 rfl 1 rfl ?_
  refine v_istore_n dX1_woolOnAll_1 1 rfl (by decide) [(1, .int 0), (0, .ref (ga G (1 + p)))] rfl 2 rfl ?_
  refine v_iconst dX1_woolOnAll_2 0 rfl 3 rfl ?_
  refine v_istore_n dX1_woolOnAll_3 2 rfl (by decide) [(2, .int 0), (1, .int 0), (0, .ref (ga G (1 + p)))] rfl 4 rfl ?_
  refine lp_woolOnAll l hp hsz sz 0 (by omega) ?_
  refine v_iload_n dX1_woolOnAll_30 1 rfl 31 rfl ?_
  exact v_iret dX1_woolOnAll_31 (by rfl) (by rfl)
set_option maxHeartbeats 1000000 in
set_option maxRecDepth 4000 in
theorem lp_frightOfAll (l : Launch) {G : Gl} {X : VX} {ov : Option Value} {wF : WS} {par : Nat → Pa} {tp : Tp} {sh : Nat → Sh} {tl : Nat → Int32} {hi : Int32} {M : MS} {p mo sz : Nat} {W S R : Nat → Int32} {C : Nat → Nat → Int32} {E : Nat → Ew} (hp : p < 3) (hsz : sz ≤ 8) : ∀ n i : Nat, i + n = sz → V l X 0 0 cX1_frightOfAll 3 RX1 (some .int) G ov wF ((va_up par p (mo, sz, W, S, R, C, E), tp, sh, tl, hi), M) 30 [(2, .int (nI sz)), (1, .int (sm (fun e => (E e).2.1) sz)), (0, .ref (ga G (1 + p)))] [] → V l X 0 0 cX1_frightOfAll 3 RX1 (some .int) G ov wF ((va_up par p (mo, sz, W, S, R, C, E), tp, sh, tl, hi), M) 4 [(2, .int (nI i)), (1, .int (sm (fun e => (E e).2.1) i)), (0, .ref (ga G (1 + p)))] [] := by
  intro n
  induction n with
  | zero =>
    intro i hin hk
    obtain rfl : sz = i := by omega
    refine v_iload_n dX1_frightOfAll_4 0 rfl 5 rfl ?_
    refine v_aload_n dX1_frightOfAll_5 2 rfl 6 rfl ?_
    refine v_get (i := 1) (ci := 1) (T := TX1) (C := RX1) (N := 7) (v := .int (nI sz)) dX1_frightOfAll_6 inB1 rfl qw_117 rfl (by decide) (k_par hp) (f_par hp) rfl 9 rfl ?_
    refine n_icmp_ge dX1_frightOfAll_9 sz sz rfl rfl (by omega) (by omega) 30 (by decide) 12 rfl (fun c1 => ?_) (fun c1 => absurd c1 (by omega))
    exact hk
  | succ n ih =>
    intro i hin hk
    refine v_iload_n dX1_frightOfAll_4 0 rfl 5 rfl ?_
    refine v_aload_n dX1_frightOfAll_5 2 rfl 6 rfl ?_
    refine v_get (i := 1) (ci := 1) (T := TX1) (C := RX1) (N := 7) (v := .int (nI sz)) dX1_frightOfAll_6 inB1 rfl qw_117 rfl (by decide) (k_par hp) (f_par hp) rfl 9 rfl ?_
    refine n_icmp_ge dX1_frightOfAll_9 i sz rfl rfl (by omega) (by omega) 30 (by decide) 12 rfl (fun c1 => absurd c1 (by omega)) (fun c1 => ?_)
    refine v_iload_n dX1_frightOfAll_12 1 rfl 13 rfl ?_
    refine v_aload_n dX1_frightOfAll_13 2 rfl 14 rfl ?_
    refine v_get (i := 5) (ci := 1) (T := TX1) (C := RX1) (N := 7) (v := .ref (ga G (13 + p))) dX1_frightOfAll_14 inB1 rfl qw_127 rfl (by decide) (k_par hp) (f_par hp) rfl 17 rfl ?_
    refine v_iload_n dX1_frightOfAll_17 0 rfl 18 rfl ?_
    refine v_aaldE dX1_frightOfAll_18 (k_ews hp) (cel_ews G _ hp) i rfl (by omega) (by decide) rfl 19 rfl ?_
    refine v_get (i := 1) (ci := 0) (T := TX0) (C := RX0) (N := 4) (v := .int (E i).2.1) dX1_frightOfAll_19 inB0 rfl qw_97 rfl (by decide) (k_ewe (by omega)) (f0_ewe (by omega) (by omega)) rfl 22 rfl ?_
    refine v_iadd dX1_frightOfAll_22 23 rfl ?_
    refine v_istore_n dX1_frightOfAll_23 1 rfl (by decide) [(1, .int ((sm (fun e => (E e).2.1) i) + (E i).2.1)), (2, .int (nI i)), (0, .ref (ga G (1 + p)))] rfl 24 rfl ?_
    refine v_iinc dX1_frightOfAll_24 1 rfl (nI (i + 1)) (nI_1 _) (by decide) [(2, .int (nI (i + 1))), (1, .int ((sm (fun e => (E e).2.1) i) + (E i).2.1)), (0, .ref (ga G (1 + p)))] rfl 27 rfl ?_
    refine v_goto dX1_frightOfAll_27 4 (by decide) ?_
    exact ih (i + 1) (by omega) hk
set_option maxHeartbeats 1000000 in
set_option maxRecDepth 4000 in
theorem c_X1_frightOfAll (l : Launch) {G : Gl} {par : Nat → Pa} {tp : Tp} {sh : Nat → Sh} {tl : Nat → Int32} {hi : Int32} {M : MS} {p mo sz : Nat} {W S R : Nat → Int32} {C : Nat → Nat → Int32} {E : Nat → Ew} (hp : p < 3) (hsz : sz ≤ 8) : Ct l G yX1_frightOfAll cX1_frightOfAll 3 (some .int) 0 0 [.ref (ga G (1 + p))] ((va_up par p (mo, sz, W, S, R, C, E), tp, sh, tl, hi), M) (some (.int (sm (fun e => (E e).2.1) sz))) ((va_up par p (mo, sz, W, S, R, C, E), tp, sh, tl, hi), M) := by
  refine Ct.of (own := RX1) (by decide) rfl (Nat.le_of_ble_eq_true rfl) rfl (fun X => ?_)
  refine v_iconst dX1_frightOfAll_0 0 rfl 1 rfl ?_
  refine v_istore_n dX1_frightOfAll_1 1 rfl (by decide) [(1, .int 0), (0, .ref (ga G (1 + p)))] rfl 2 rfl ?_
  refine v_iconst dX1_frightOfAll_2 0 rfl 3 rfl ?_
  refine v_istore_n dX1_frightOfAll_3 2 rfl (by decide) [(2, .int 0), (1, .int 0), (0, .ref (ga G (1 + p)))] rfl 4 rfl ?_
  refine lp_frightOfAll l hp hsz sz 0 (by omega) ?_
  refine v_iload_n dX1_frightOfAll_30 1 rfl 31 rfl ?_
  exact v_iret dX1_frightOfAll_31 (by rfl) (by rfl)
set_option maxHeartbeats 1000000 in
set_option maxRecDepth 4000 in
theorem lp_sum (l : Launch) {G : Gl} {X : VX} {ov : Option Value} {wF : WS} {w : WS} {k9 N9 : Nat} {a9 : Nat → Int32} (hk9 : k9 < 104) (hc9 : cel G w k9 = ai (gcI G) N9 a9) (hN9 : N9 < 2 ^ 31) : ∀ n i : Nat, i + n = N9 → V l X 0 0 cX4_sum 6 RX4 (some .int) G ov wF w 33 [(4, .int (nI N9)), (1, .int (sm a9 N9)), (3, .int (nI N9)), (2, .ref (ga G (k9))), (0, .ref (ga G (k9)))] [] → V l X 0 0 cX4_sum 6 RX4 (some .int) G ov wF w 10 [(4, .int (nI i)), (1, .int (sm a9 i)), (3, .int (nI N9)), (2, .ref (ga G (k9))), (0, .ref (ga G (k9)))] [] := by
  intro n
  induction n with
  | zero =>
    intro i hin hk
    obtain rfl : N9 = i := by omega
    refine v_iload dX4_sum_10 0 rfl 12 rfl ?_
    refine v_iload_n dX4_sum_12 2 rfl 13 rfl ?_
    refine n_icmp_ge dX4_sum_13 N9 N9 rfl rfl (by omega) (by omega) 33 (by decide) 16 rfl (fun c1 => ?_) (fun c1 => absurd c1 (by omega))
    exact hk
  | succ n ih =>
    intro i hin hk
    refine v_iload dX4_sum_10 0 rfl 12 rfl ?_
    refine v_iload_n dX4_sum_12 2 rfl 13 rfl ?_
    refine n_icmp_ge dX4_sum_13 i N9 rfl rfl (by omega) (by omega) 33 (by decide) 16 rfl (fun c1 => absurd c1 (by omega)) (fun c1 => ?_)
    refine v_aload_n dX4_sum_16 3 rfl 17 rfl ?_
    refine v_iload dX4_sum_17 0 rfl 19 rfl ?_
    refine v_iald (a := a9) dX4_sum_19 hk9 hc9 i rfl (by omega) hN9 20 rfl ?_
    refine v_istore dX4_sum_20 (by decide) [(5, .int (a9 i)), (4, .int (nI i)), (1, .int (sm a9 i)), (3, .int (nI N9)), (2, .ref (ga G (k9))), (0, .ref (ga G (k9)))] rfl 22 rfl ?_
    refine v_iload_n dX4_sum_22 2 rfl 23 rfl ?_
    refine v_iload dX4_sum_23 0 rfl 25 rfl ?_
    refine v_iadd dX4_sum_25 26 rfl ?_
    refine v_istore_n dX4_sum_26 1 rfl (by decide) [(1, .int ((sm a9 i) + (a9 i))), (5, .int (a9 i)), (4, .int (nI i)), (3, .int (nI N9)), (2, .ref (ga G (k9))), (0, .ref (ga G (k9)))] rfl 27 rfl ?_
    refine v_iinc dX4_sum_27 2 rfl (nI (i + 1)) (nI_1 _) (by decide) [(4, .int (nI (i + 1))), (1, .int ((sm a9 i) + (a9 i))), (5, .int (a9 i)), (3, .int (nI N9)), (2, .ref (ga G (k9))), (0, .ref (ga G (k9)))] rfl 30 rfl ?_
    refine v_goto dX4_sum_30 10 (by decide) ?_
    refine v_pick [0, 1, 3, 4, 5] [(4, .int (nI (i + 1))), (1, .int (sm a9 (i + 1))), (3, .int (nI N9)), (2, .ref (ga G (k9))), (0, .ref (ga G (k9)))] rfl ?_
    exact ih (i + 1) (by omega) hk
set_option maxHeartbeats 1000000 in
set_option maxRecDepth 4000 in
theorem c_X4_sum (l : Launch) {G : Gl} {w : WS} {k9 N9 : Nat} {a9 : Nat → Int32} (hk9 : k9 < 104) (hc9 : cel G w k9 = ai (gcI G) N9 a9) (hN9 : N9 < 2 ^ 31) : Ct l G yX4_sum cX4_sum 6 (some .int) 0 0 [.ref (ga G (k9))] w (some (.int (sm a9 N9))) w := by
  refine Ct.of (own := RX4) (by decide) rfl (Nat.le_of_ble_eq_true rfl) rfl (fun X => ?_)
  refine v_iconst dX4_sum_0 0 rfl 1 rfl ?_
  refine v_istore_n dX4_sum_1 1 rfl (by decide) [(1, .int 0), (0, .ref (ga G (k9)))] rfl 2 rfl ?_
  refine v_aload_n dX4_sum_2 1 rfl 3 rfl ?_
  refine v_astore_n dX4_sum_3 2 rfl (by decide) [(2, .ref (ga G (k9))), (1, .int 0), (0, .ref (ga G (k9)))] rfl 4 rfl ?_
  refine v_aload_n dX4_sum_4 0 rfl 5 rfl ?_
  refine v_alen (a := a9) (N := N9) dX4_sum_5 hk9 hc9 6 rfl ?_
  refine v_istore_n dX4_sum_6 3 rfl (by decide) [(3, .int (nI N9)), (2, .ref (ga G (k9))), (1, .int 0), (0, .ref (ga G (k9)))] rfl 7 rfl ?_
  refine v_iconst dX4_sum_7 0 rfl 8 rfl ?_
  refine v_istore dX4_sum_8 (by decide) [(4, .int 0), (3, .int (nI N9)), (2, .ref (ga G (k9))), (1, .int 0), (0, .ref (ga G (k9)))] rfl 10 rfl ?_
  refine v_pick [0, 3, 1, 2, 4] [(4, .int 0), (1, .int 0), (3, .int (nI N9)), (2, .ref (ga G (k9))), (0, .ref (ga G (k9)))] rfl ?_
  refine lp_sum l hk9 hc9 hN9 N9 0 (by omega) ?_
  refine v_iload_n dX4_sum_33 1 rfl 34 rfl ?_
  exact v_iret dX4_sum_34 (by rfl) (by rfl)
set_option maxHeartbeats 1000000 in
set_option maxRecDepth 4000 in
theorem c_X1_cutFor (l : Launch) {G : Gl} {par : Nat → Pa} {tp : Tp} {sh : Nat → Sh} {tl : Nat → Int32} {hi : Int32} {M : MS} {p mo sz : Nat} {W S R : Nat → Int32} {C : Nat → Nat → Int32} {E : Nat → Ew} (hp : p < 3) {c m : Nat} (hc : c < 4) (hm : m < 12) (x : Int32) : Ct l G yX1_cutFor cX1_cutFor 4 none 0 0 [.ref (ga G (1 + p)), .int (nI c), .int (nI m), .int x] ((va_up par p (mo, sz, W, S, R, C, E), tp, sh, tl, hi), M) (none) ((va_up par p (mo, sz, W, (upd S m (S m - x)), R, (va_up C c (upd (C c) m (C c m + x))), E), tp, sh, tl, hi), M) := by
  refine Ct.of (own := RX1) (by decide) rfl (Nat.le_of_ble_eq_true rfl) rfl (fun X => ?_)
  refine v_aload_n dX1_cutFor_0 0 rfl 1 rfl ?_
  refine v_get (i := 3) (ci := 1) (T := TX1) (C := RX1) (N := 7) (v := .ref (ga G (7 + p))) dX1_cutFor_1 inB1 rfl qw_122 rfl (by decide) (k_par hp) (f_par hp) rfl 4 rfl ?_
  refine v_iload_n dX1_cutFor_4 2 rfl 5 rfl ?_
  refine v_dup2 dX1_cutFor_5 rfl rfl 6 rfl ?_
  refine v_iald (a := S) dX1_cutFor_6 (k_sto hp) (f_sto hp) m rfl (by omega) (by decide) 7 rfl ?_
  refine v_iload_n dX1_cutFor_7 3 rfl 8 rfl ?_
  refine v_isub dX1_cutFor_8 9 rfl ?_
  refine v_iast (w2 := ((va_up par p (mo, sz, W, (upd S m ((S m) - x)), R, C, E), tp, sh, tl, hi), M)) dX1_cutFor_9 (k_sto hp) (f_sto hp) m rfl (by omega) (by decide) (u_S hp) 10 rfl ?_
  refine v_aload_n dX1_cutFor_10 0 rfl 11 rfl ?_
  refine v_get (i := 6) (ci := 1) (T := TX1) (C := RX1) (N := 7) (v := .ref (ga G (16 + p))) dX1_cutFor_11 inB1 rfl qw_129 rfl (by decide) (k_par hp) (f_par hp) rfl 14 rfl ?_
  refine v_iload_n dX1_cutFor_14 1 rfl 15 rfl ?_
  refine v_aaldG dX1_cutFor_15 (k_cos hp) (cel_cos G _ hp) c rfl (by omega) (by decide) rfl 16 rfl ?_
  refine v_iload_n dX1_cutFor_16 2 rfl 17 rfl ?_
  refine v_dup2 dX1_cutFor_17 rfl rfl 18 rfl ?_
  refine v_iald (a := C c) dX1_cutFor_18 (k_coa hp (by omega)) (f_coa hp (by omega)) m rfl (by omega) (by decide) 19 rfl ?_
  refine v_iload_n dX1_cutFor_19 3 rfl 20 rfl ?_
  refine v_iadd dX1_cutFor_20 21 rfl ?_
  refine v_iast (w2 := ((va_up par p (mo, sz, W, (upd S m ((S m) - x)), R, (va_up C c (upd (C c) m (((C c) m) + x))), E), tp, sh, tl, hi), M)) dX1_cutFor_21 (k_coa hp (by omega)) (f_coa hp (by omega)) m rfl (by omega) (by decide) (u_C hp (by omega)) 22 rfl ?_
  exact v_vret dX1_cutFor_22 (by rfl) (by rfl)
set_option maxHeartbeats 1000000 in
set_option maxRecDepth 4000 in
theorem lp_undoCoat (l : Launch) {G : Gl} {X : VX} {ov : Option Value} {wF : WS} {par : Nat → Pa} {tp : Tp} {sh : Nat → Sh} {tl : Nat → Int32} {hi : Int32} {M : MS} {p mo sz : Nat} {W S R : Nat → Int32} {C : Nat → Nat → Int32} {E : Nat → Ew} (hp : p < 3) {c : Nat} (hc : c < 4) : ∀ n i : Nat, i + n = 12 → V l X 1 21 cX1_undoCoat 3 RX1 none G ov wF ((va_up par p (mo, sz, W, (fa_fill (gU1 S (C c)) S 12), R, (va_up C c (fa_fill (fun _ => 0) (C c) 12)), E), tp, sh, tl, hi), M) 50 [(2, .int (nI 12)), (0, .ref (ga G (1 + p))), (1, .int (nI c))] [] → V l X 1 21 cX1_undoCoat 3 RX1 none G ov wF ((va_up par p (mo, sz, W, (fa_fill (gU1 S (C c)) S i), R, (va_up C c (fa_fill (fun _ => 0) (C c) i)), E), tp, sh, tl, hi), M) 2 [(2, .int (nI i)), (0, .ref (ga G (1 + p))), (1, .int (nI c))] [] := by
  intro n
  induction n with
  | zero =>
    intro i hin hk
    obtain rfl : 12 = i := by omega
    refine v_iload_n dX1_undoCoat_2 0 rfl 3 rfl ?_
    refine v_bipush dX1_undoCoat_3 12 rfl 5 rfl ?_
    refine n_icmp_ge dX1_undoCoat_5 12 12 rfl rfl (by omega) (by omega) 50 (by decide) 8 rfl (fun c1 => ?_) (fun c1 => absurd c1 (by omega))
    exact hk
  | succ n ih =>
    intro i hin hk
    refine v_iload_n dX1_undoCoat_2 0 rfl 3 rfl ?_
    refine v_bipush dX1_undoCoat_3 12 rfl 5 rfl ?_
    refine n_icmp_ge dX1_undoCoat_5 i 12 rfl rfl (by omega) (by omega) 50 (by decide) 8 rfl (fun c1 => absurd c1 (by omega)) (fun c1 => ?_)
    refine v_aload_n dX1_undoCoat_8 1 rfl 9 rfl ?_
    refine v_get (i := 3) (ci := 1) (T := TX1) (C := RX1) (N := 7) (v := .ref (ga G (7 + p))) dX1_undoCoat_9 inB1 rfl qw_122 rfl (by decide) (k_par hp) (f_par hp) rfl 12 rfl ?_
    refine v_iload_n dX1_undoCoat_12 0 rfl 13 rfl ?_
    refine v_sipush dX1_undoCoat_13 9999 rfl 16 rfl ?_
    refine v_aload_n dX1_undoCoat_16 1 rfl 17 rfl ?_
    refine v_get (i := 3) (ci := 1) (T := TX1) (C := RX1) (N := 7) (v := .ref (ga G (7 + p))) dX1_undoCoat_17 inB1 rfl qw_122 rfl (by decide) (k_par hp) (f_par hp) rfl 20 rfl ?_
    refine v_iload_n dX1_undoCoat_20 0 rfl 21 rfl ?_
    refine v_iald (a := (fa_fill (gU1 S (C c)) S i)) dX1_undoCoat_21 (k_sto hp) (f_sto hp) i rfl (by omega) (by decide) 22 rfl ?_
    refine v_aload_n dX1_undoCoat_22 1 rfl 23 rfl ?_
    refine v_get (i := 6) (ci := 1) (T := TX1) (C := RX1) (N := 7) (v := .ref (ga G (16 + p))) dX1_undoCoat_23 inB1 rfl qw_129 rfl (by decide) (k_par hp) (f_par hp) rfl 26 rfl ?_
    refine v_iload_n dX1_undoCoat_26 2 rfl 27 rfl ?_
    refine v_aaldG dX1_undoCoat_27 (k_cos hp) (cel_cos G _ hp) c rfl (by omega) (by decide) rfl 28 rfl ?_
    refine v_iload_n dX1_undoCoat_28 0 rfl 29 rfl ?_
    refine v_iald (a := (va_up C c (fa_fill (fun _ => 0) (C c) i)) c) dX1_undoCoat_29 (k_coa hp (by omega)) (f_coa hp (by omega)) i rfl (by omega) (by decide) 30 rfl ?_
    refine v_iadd dX1_undoCoat_30 31 rfl ?_
    refine v_mmin dX1_undoCoat_31 qw_373 (by decide) (Nat.le_of_ble_eq_true rfl) 34 rfl ?_
    refine v_iast (w2 := ((va_up par p (mo, sz, W, (upd (fa_fill (gU1 S (C c)) S i) i (if ((fa_fill (gU1 S (C c)) S i) i) + (((va_up C c (fa_fill (fun _ => 0) (C c) i)) c) i) < 9999 then ((fa_fill (gU1 S (C c)) S i) i) + (((va_up C c (fa_fill (fun _ => 0) (C c) i)) c) i) else 9999)), R, (va_up C c (fa_fill (fun _ => 0) (C c) i)), E), tp, sh, tl, hi), M)) dX1_undoCoat_34 (k_sto hp) (f_sto hp) i rfl (by omega) (by decide) (u_S hp) 35 rfl ?_
    refine v_aload_n dX1_undoCoat_35 1 rfl 36 rfl ?_
    refine v_get (i := 6) (ci := 1) (T := TX1) (C := RX1) (N := 7) (v := .ref (ga G (16 + p))) dX1_undoCoat_36 inB1 rfl qw_129 rfl (by decide) (k_par hp) (f_par hp) rfl 39 rfl ?_
    refine v_iload_n dX1_undoCoat_39 2 rfl 40 rfl ?_
    refine v_aaldG dX1_undoCoat_40 (k_cos hp) (cel_cos G _ hp) c rfl (by omega) (by decide) rfl 41 rfl ?_
    refine v_iload_n dX1_undoCoat_41 0 rfl 42 rfl ?_
    refine v_iconst dX1_undoCoat_42 0 rfl 43 rfl ?_
    refine v_iast (w2 := ((va_up par p (mo, sz, W, (upd (fa_fill (gU1 S (C c)) S i) i (if ((fa_fill (gU1 S (C c)) S i) i) + (((va_up C c (fa_fill (fun _ => 0) (C c) i)) c) i) < 9999 then ((fa_fill (gU1 S (C c)) S i) i) + (((va_up C c (fa_fill (fun _ => 0) (C c) i)) c) i) else 9999)), R, (va_up (va_up C c (fa_fill (fun _ => 0) (C c) i)) c (upd ((va_up C c (fa_fill (fun _ => 0) (C c) i)) c) i 0)), E), tp, sh, tl, hi), M)) dX1_undoCoat_43 (k_coa hp (by omega)) (f_coa hp (by omega)) i rfl (by omega) (by decide) (u_C hp (by omega)) 44 rfl ?_
    refine v_iinc dX1_undoCoat_44 0 rfl (nI (i + 1)) (nI_1 _) (by decide) [(2, .int (nI (i + 1))), (0, .ref (ga G (1 + p))), (1, .int (nI c))] rfl 47 rfl ?_
    refine v_goto dX1_undoCoat_47 2 (by decide) ?_
    have e91 : (upd (fa_fill (gU1 S (C c)) S i) i (if ((fa_fill (gU1 S (C c)) S i) i) + (((va_up C c (fa_fill (fun _ => 0) (C c) i)) c) i) < 9999 then ((fa_fill (gU1 S (C c)) S i) i) + (((va_up C c (fa_fill (fun _ => 0) (C c) i)) c) i) else 9999)) = (fa_fill (gU1 S (C c)) S (i + 1)) := fa_upd (by simp only [fa_here, va_up_s, gU1, mn])
    have e92 : (va_up (va_up C c (fa_fill (fun _ => 0) (C c) i)) c (upd ((va_up C c (fa_fill (fun _ => 0) (C c) i)) c) i 0)) = (va_up C c (fa_fill (fun _ => 0) (C c) (i + 1))) := by rw [va_up_s, bx_uu, fa_upd rfl]
    refine v_w (w2 := ((va_up par p (mo, sz, W, (fa_fill (gU1 S (C c)) S (i + 1)), R, (va_up C c (fa_fill (fun _ => 0) (C c) (i + 1))), E), tp, sh, tl, hi), M)) (by rw [e91, e92]) ?_
    exact ih (i + 1) (by omega) hk
set_option maxHeartbeats 1000000 in
set_option maxRecDepth 4000 in
theorem c_X1_undoCoat (l : Launch) {G : Gl} {par : Nat → Pa} {tp : Tp} {sh : Nat → Sh} {tl : Nat → Int32} {hi : Int32} {M : MS} {p mo sz : Nat} {W S R : Nat → Int32} {C : Nat → Nat → Int32} {E : Nat → Ew} (hp : p < 3) {c : Nat} (hc : c < 4) : Ct l G yX1_undoCoat cX1_undoCoat 3 none 1 21 [.ref (ga G (1 + p)), .int (nI c)] ((va_up par p (mo, sz, W, S, R, C, E), tp, sh, tl, hi), M) (none) ((va_up par p (mo, sz, W, (fa_fill (gU1 S (C c)) S 12), R, (va_up C c (fa_fill (fun _ => 0) (C c) 12)), E), tp, sh, tl, hi), M) := by
  refine Ct.of (own := RX1) (by decide) rfl (Nat.le_of_ble_eq_true rfl) rfl (fun X => ?_)
  refine v_iconst dX1_undoCoat_0 0 rfl 1 rfl ?_
  refine v_istore_n dX1_undoCoat_1 2 rfl (by decide) [(2, .int 0), (0, .ref (ga G (1 + p))), (1, .int (nI c))] rfl 2 rfl ?_
  refine v_w (w2 := ((va_up par p (mo, sz, W, (fa_fill (gU1 S (C c)) S 0), R, (va_up C c (fa_fill (fun _ => 0) (C c) 0)), E), tp, sh, tl, hi), M)) (by rw [fa_fill_0, fa_fill_0, va_up_i]) ?_
  refine lp_undoCoat l hp hc 12 0 (by omega) ?_
  exact v_vret dX1_undoCoat_50 (by rfl) (by rfl)
set_option maxHeartbeats 1000000 in
set_option maxRecDepth 4000 in
theorem lp_shear (l : Launch) {G : Gl} {X : VX} {ov : Option Value} {wF : WS} {par : Nat → Pa} {tp : Tp} {sh : Nat → Sh} {tl : Nat → Int32} {hi : Int32} {M : MS} {p mo sz : Nat} {W S R : Nat → Int32} {C : Nat → Nat → Int32} {E : Nat → Ew} (hp : p < 3) {e : Nat} {k f x : Int32} {fl : Nat → Int32} (he : e < 8) : ∀ n i : Nat, i + n = 12 → V l X 2 43 cX1_shear 3 RX1 none G ov wF ((va_up par p (mo, sz, W, (fa_fill (gS1 S fl) S 12), (fa_fill (gR1 R W fl k) R 12), C, va_up E e (k, f, x, fl)), tp, sh, tl, hi), M) 80 [(2, .int (nI 12)), (0, .ref (ga G (1 + p))), (1, .ref (ga G (31 + (8 * p + e))))] [] → V l X 2 43 cX1_shear 3 RX1 none G ov wF ((va_up par p (mo, sz, W, (fa_fill (gS1 S fl) S i), (fa_fill (gR1 R W fl k) R i), C, va_up E e (k, f, x, fl)), tp, sh, tl, hi), M) 2 [(2, .int (nI i)), (0, .ref (ga G (1 + p))), (1, .ref (ga G (31 + (8 * p + e))))] [] := by
  intro n
  induction n with
  | zero =>
    intro i hin hk
    obtain rfl : 12 = i := by omega
    refine v_iload_n dX1_shear_2 0 rfl 3 rfl ?_
    refine v_bipush dX1_shear_3 12 rfl 5 rfl ?_
    refine n_icmp_ge dX1_shear_5 12 12 rfl rfl (by omega) (by omega) 80 (by decide) 8 rfl (fun c1 => ?_) (fun c1 => absurd c1 (by omega))
    exact hk
  | succ n ih =>
    intro i hin hk
    refine v_iload_n dX1_shear_2 0 rfl 3 rfl ?_
    refine v_bipush dX1_shear_3 12 rfl 5 rfl ?_
    refine n_icmp_ge dX1_shear_5 i 12 rfl rfl (by omega) (by omega) 80 (by decide) 8 rfl (fun c1 => absurd c1 (by omega)) (fun c1 => ?_)
    refine v_aload_n dX1_shear_8 2 rfl 9 rfl ?_
    refine v_get (i := 3) (ci := 0) (T := TX0) (C := RX0) (N := 4) (v := .ref (ga G (56 + (8 * p + e)))) dX1_shear_9 inB0 rfl qw_104 rfl (by decide) (k_ewe (by omega)) (f_ewe (by omega) (by omega)) rfl 12 rfl ?_
    refine v_iload_n dX1_shear_12 0 rfl 13 rfl ?_
    refine v_iald (a := fl) dX1_shear_13 (k_fle (by omega)) (f_fle (by omega) (by omega)) i rfl (by omega) (by decide) 14 rfl ?_
    refine v_if_le dX1_shear_14 74 (by decide) 17 rfl (fun c2 => ?_) (fun c2 => ?_)
    · skip
      refine v_iinc dX1_shear_74 0 rfl (nI (i + 1)) (nI_1 _) (by decide) [(2, .int (nI (i + 1))), (0, .ref (ga G (1 + p))), (1, .ref (ga G (31 + (8 * p + e))))] rfl 77 rfl ?_
      refine v_goto dX1_shear_77 2 (by decide) ?_
      have e91 : (fa_fill (gS1 S fl) S i) = (fa_fill (gS1 S fl) S (i + 1)) := fa_skip (by simp [gS1, gR1, c2, Int32.not_lt.mpr c2])
      have e92 : (fa_fill (gR1 R W fl k) R i) = (fa_fill (gR1 R W fl k) R (i + 1)) := fa_skip (by simp [gS1, gR1, c2, Int32.not_lt.mpr c2])
      refine v_w (w2 := ((va_up par p (mo, sz, W, (fa_fill (gS1 S fl) S (i + 1)), (fa_fill (gR1 R W fl k) R (i + 1)), C, va_up E e (k, f, x, fl)), tp, sh, tl, hi), M)) (by rw [e91, e92]) ?_
      exact ih (i + 1) (by omega) hk
    · skip
      refine v_aload_n dX1_shear_17 1 rfl 18 rfl ?_
      refine v_get (i := 3) (ci := 1) (T := TX1) (C := RX1) (N := 7) (v := .ref (ga G (7 + p))) dX1_shear_18 inB1 rfl qw_122 rfl (by decide) (k_par hp) (f_par hp) rfl 21 rfl ?_
      refine v_iload_n dX1_shear_21 0 rfl 22 rfl ?_
      refine v_sipush dX1_shear_22 9999 rfl 25 rfl ?_
      refine v_aload_n dX1_shear_25 1 rfl 26 rfl ?_
      refine v_get (i := 3) (ci := 1) (T := TX1) (C := RX1) (N := 7) (v := .ref (ga G (7 + p))) dX1_shear_26 inB1 rfl qw_122 rfl (by decide) (k_par hp) (f_par hp) rfl 29 rfl ?_
      refine v_iload_n dX1_shear_29 0 rfl 30 rfl ?_
      refine v_iald (a := (fa_fill (gS1 S fl) S i)) dX1_shear_30 (k_sto hp) (f_sto hp) i rfl (by omega) (by decide) 31 rfl ?_
      refine v_aload_n dX1_shear_31 2 rfl 32 rfl ?_
      refine v_get (i := 3) (ci := 0) (T := TX0) (C := RX0) (N := 4) (v := .ref (ga G (56 + (8 * p + e)))) dX1_shear_32 inB0 rfl qw_104 rfl (by decide) (k_ewe (by omega)) (f_ewe (by omega) (by omega)) rfl 35 rfl ?_
      refine v_iload_n dX1_shear_35 0 rfl 36 rfl ?_
      refine v_iald (a := fl) dX1_shear_36 (k_fle (by omega)) (f_fle (by omega) (by omega)) i rfl (by omega) (by decide) 37 rfl ?_
      refine v_iadd dX1_shear_37 38 rfl ?_
      refine v_mmin dX1_shear_38 qw_373 (by decide) (Nat.le_of_ble_eq_true rfl) 41 rfl ?_
      refine v_iast (w2 := ((va_up par p (mo, sz, W, (upd (fa_fill (gS1 S fl) S i) i (if ((fa_fill (gS1 S fl) S i) i) + (fl i) < 9999 then ((fa_fill (gS1 S fl) S i) i) + (fl i) else 9999)), (fa_fill (gR1 R W fl k) R i), C, va_up E e (k, f, x, fl)), tp, sh, tl, hi), M)) dX1_shear_41 (k_sto hp) (f_sto hp) i rfl (by omega) (by decide) (u_S hp) 42 rfl ?_
      refine v_aload_n dX1_shear_42 1 rfl 43 rfl ?_
      refine v_get (i := 4) (ci := 1) (T := TX1) (C := RX1) (N := 7) (v := .ref (ga G (10 + p))) dX1_shear_43 inB1 rfl qw_125 rfl (by decide) (k_par hp) (f_par hp) rfl 46 rfl ?_
      refine v_iload_n dX1_shear_46 0 rfl 47 rfl ?_
      refine v_sipush dX1_shear_47 9999 rfl 50 rfl ?_
      refine v_aload_n dX1_shear_50 1 rfl 51 rfl ?_
      refine v_get (i := 4) (ci := 1) (T := TX1) (C := RX1) (N := 7) (v := .ref (ga G (10 + p))) dX1_shear_51 inB1 rfl qw_125 rfl (by decide) (k_par hp) (f_par hp) rfl 54 rfl ?_
      refine v_iload_n dX1_shear_54 0 rfl 55 rfl ?_
      refine v_iald (a := (fa_fill (gR1 R W fl k) R i)) dX1_shear_55 (k_rou hp) (f_rou hp) i rfl (by omega) (by decide) 56 rfl ?_
      refine v_aload_n dX1_shear_56 2 rfl 57 rfl ?_
      refine v_get (i := 0) (ci := 0) (T := TX0) (C := RX0) (N := 4) (v := .int k) dX1_shear_57 inB0 rfl qw_94 rfl (by decide) (k_ewe (by omega)) (f_ewe (by omega) (by omega)) rfl 60 rfl ?_
      refine v_aload_n dX1_shear_60 1 rfl 61 rfl ?_
      refine v_get (i := 2) (ci := 1) (T := TX1) (C := RX1) (N := 7) (v := .ref (ga G (4 + p))) dX1_shear_61 inB1 rfl qw_119 rfl (by decide) (k_par hp) (f_par hp) rfl 64 rfl ?_
      refine v_iload_n dX1_shear_64 0 rfl 65 rfl ?_
      refine v_iald (a := W) dX1_shear_65 (k_wea hp) (f_wea hp) i rfl (by omega) (by decide) 66 rfl ?_
      refine v_callSN (c_X4_burrs l k (W i)) kal_X4_burrs rfl dX1_shear_66 (fun _ h => h.2.2.2) qw_310 (by decide) [.int ((fa_fill (gR1 R W fl k) R i) i), .int 9999, .int (nI i), .ref (ga G (10 + p))] (Nat.le_of_ble_eq_true rfl) rfl rfl 69 rfl ?_
      refine v_iadd dX1_shear_69 70 rfl ?_
      refine v_mmin dX1_shear_70 qw_373 (by decide) (Nat.le_of_ble_eq_true rfl) 73 rfl ?_
      refine v_iast (w2 := ((va_up par p (mo, sz, W, (upd (fa_fill (gS1 S fl) S i) i (if ((fa_fill (gS1 S fl) S i) i) + (fl i) < 9999 then ((fa_fill (gS1 S fl) S i) i) + (fl i) else 9999)), (upd (fa_fill (gR1 R W fl k) R i) i (if ((fa_fill (gR1 R W fl k) R i) i) + (kBurrs k (W i)) < 9999 then ((fa_fill (gR1 R W fl k) R i) i) + (kBurrs k (W i)) else 9999)), C, va_up E e (k, f, x, fl)), tp, sh, tl, hi), M)) dX1_shear_73 (k_rou hp) (f_rou hp) i rfl (by omega) (by decide) (u_R hp) 74 rfl ?_
      refine v_iinc dX1_shear_74 0 rfl (nI (i + 1)) (nI_1 _) (by decide) [(2, .int (nI (i + 1))), (0, .ref (ga G (1 + p))), (1, .ref (ga G (31 + (8 * p + e))))] rfl 77 rfl ?_
      refine v_goto dX1_shear_77 2 (by decide) ?_
      have e91 : (upd (fa_fill (gS1 S fl) S i) i (if ((fa_fill (gS1 S fl) S i) i) + (fl i) < 9999 then ((fa_fill (gS1 S fl) S i) i) + (fl i) else 9999)) = (fa_fill (gS1 S fl) S (i + 1)) := fa_upd (by simp [fa_here, gS1, gR1, mn, c2, Int32.not_le.mp c2])
      have e92 : (upd (fa_fill (gR1 R W fl k) R i) i (if ((fa_fill (gR1 R W fl k) R i) i) + (kBurrs k (W i)) < 9999 then ((fa_fill (gR1 R W fl k) R i) i) + (kBurrs k (W i)) else 9999)) = (fa_fill (gR1 R W fl k) R (i + 1)) := fa_upd (by simp [fa_here, gS1, gR1, mn, c2, Int32.not_le.mp c2])
      refine v_w (w2 := ((va_up par p (mo, sz, W, (fa_fill (gS1 S fl) S (i + 1)), (fa_fill (gR1 R W fl k) R (i + 1)), C, va_up E e (k, f, x, fl)), tp, sh, tl, hi), M)) (by rw [e91, e92]) ?_
      exact ih (i + 1) (by omega) hk
set_option maxHeartbeats 1000000 in
set_option maxRecDepth 4000 in
theorem c_X1_shear (l : Launch) {G : Gl} {par : Nat → Pa} {tp : Tp} {sh : Nat → Sh} {tl : Nat → Int32} {hi : Int32} {M : MS} {p mo sz : Nat} {W S R : Nat → Int32} {C : Nat → Nat → Int32} {E : Nat → Ew} (hp : p < 3) {e : Nat} {k f x : Int32} {fl : Nat → Int32} (he : e < 8) : Ct l G yX1_shear cX1_shear 3 none 2 43 [.ref (ga G (1 + p)), .ref (ga G (31 + (8 * p + e)))] ((va_up par p (mo, sz, W, S, R, C, va_up E e (k, f, x, fl)), tp, sh, tl, hi), M) (none) ((va_up par p (mo, sz, W, (fa_fill (gS1 S fl) S 12), (fa_fill (gR1 R W fl k) R 12), C, va_up E e (k, f, 0, (z12 fl 12))), tp, sh, tl, hi), M) := by
  refine Ct.of (own := RX1) (by decide) rfl (Nat.le_of_ble_eq_true rfl) rfl (fun X => ?_)
  refine v_iconst dX1_shear_0 0 rfl 1 rfl ?_
  refine v_istore_n dX1_shear_1 2 rfl (by decide) [(2, .int 0), (0, .ref (ga G (1 + p))), (1, .ref (ga G (31 + (8 * p + e))))] rfl 2 rfl ?_
  refine v_w (w2 := ((va_up par p (mo, sz, W, (fa_fill (gS1 S fl) S 0), (fa_fill (gR1 R W fl k) R 0), C, va_up E e (k, f, x, fl)), tp, sh, tl, hi), M)) (by rw [fa_fill_0, fa_fill_0]) ?_
  refine lp_shear l hp he 12 0 (by omega) ?_
  refine v_aload_n dX1_shear_80 2 rfl 81 rfl ?_
  refine v_callV (c_X0_bare l (by omega) (by omega) ) kal_X0_bare rfl dX1_shear_81 qw_274 qw_275 qw_276 rfl (k_ewe (by omega)) (f_ewe (by omega) (by omega)) (by decide) [] (Nat.le_of_ble_eq_true rfl) rfl rfl 84 rfl ?_
  exact v_vret dX1_shear_84 (by rfl) (by rfl)
set_option maxHeartbeats 1000000 in
set_option maxRecDepth 4000 in
theorem lp_grow (l : Launch) {G : Gl} {X : VX} {ov : Option Value} {wF : WS} {par : Nat → Pa} {tp : Tp} {sh : Nat → Sh} {tl : Nat → Int32} {hi : Int32} {M : MS} {p mo sz : Nat} {W S R : Nat → Int32} {C : Nat → Nat → Int32} {E : Nat → Ew} (hp : p < 3) (hsz : sz ≤ 8) (hmo : mo < 2 ^ 30) : ∀ n i : Nat, i + n = sz → V l X 3 67 cX1_passOne 3 RX1 none G ov wF ((va_up par p (mo, sz, W, S, R, C, (fa_fill (fun e => eGrow (E e) (mo % 12) (W (mo % 12))) E sz)), tp, sh, tl, hi), M) 37 [(2, .int (nI sz)), (1, .int (nI (mo % 12))), (0, .ref (ga G (1 + p)))] [] → V l X 3 67 cX1_passOne 3 RX1 none G ov wF ((va_up par p (mo, sz, W, S, R, C, (fa_fill (fun e => eGrow (E e) (mo % 12) (W (mo % 12))) E i)), tp, sh, tl, hi), M) 7 [(2, .int (nI i)), (1, .int (nI (mo % 12))), (0, .ref (ga G (1 + p)))] [] := by
  intro n
  induction n with
  | zero =>
    intro i hin hk
    obtain rfl : sz = i := by omega
    refine v_iload_n dX1_passOne_7 0 rfl 8 rfl ?_
    refine v_aload_n dX1_passOne_8 2 rfl 9 rfl ?_
    refine v_get (i := 1) (ci := 1) (T := TX1) (C := RX1) (N := 7) (v := .int (nI sz)) dX1_passOne_9 inB1 rfl qw_117 rfl (by decide) (k_par hp) (f_par hp) rfl 12 rfl ?_
    refine n_icmp_ge dX1_passOne_12 sz sz rfl rfl (by omega) (by omega) 37 (by decide) 15 rfl (fun c1 => ?_) (fun c1 => absurd c1 (by omega))
    exact hk
  | succ n ih =>
    intro i hin hk
    refine v_iload_n dX1_passOne_7 0 rfl 8 rfl ?_
    refine v_aload_n dX1_passOne_8 2 rfl 9 rfl ?_
    refine v_get (i := 1) (ci := 1) (T := TX1) (C := RX1) (N := 7) (v := .int (nI sz)) dX1_passOne_9 inB1 rfl qw_117 rfl (by decide) (k_par hp) (f_par hp) rfl 12 rfl ?_
    refine n_icmp_ge dX1_passOne_12 i sz rfl rfl (by omega) (by omega) 37 (by decide) 15 rfl (fun c1 => absurd c1 (by omega)) (fun c1 => ?_)
    refine v_aload_n dX1_passOne_15 2 rfl 16 rfl ?_
    refine v_get (i := 5) (ci := 1) (T := TX1) (C := RX1) (N := 7) (v := .ref (ga G (13 + p))) dX1_passOne_16 inB1 rfl qw_127 rfl (by decide) (k_par hp) (f_par hp) rfl 19 rfl ?_
    refine v_iload_n dX1_passOne_19 0 rfl 20 rfl ?_
    refine v_aaldE dX1_passOne_20 (k_ews hp) (cel_ews G _ hp) i rfl (by omega) (by decide) rfl 21 rfl ?_
    refine v_iload_n dX1_passOne_21 1 rfl 22 rfl ?_
    refine v_aload_n dX1_passOne_22 2 rfl 23 rfl ?_
    refine v_get (i := 2) (ci := 1) (T := TX1) (C := RX1) (N := 7) (v := .ref (ga G (4 + p))) dX1_passOne_23 inB1 rfl qw_119 rfl (by decide) (k_par hp) (f_par hp) rfl 26 rfl ?_
    refine v_iload_n dX1_passOne_26 1 rfl 27 rfl ?_
    refine v_iald (a := W) dX1_passOne_27 (k_wea hp) (f_wea hp) (mo % 12) rfl (by omega) (by decide) 28 rfl ?_
    refine v_w (w2 := ((va_up par p (mo, sz, W, S, R, C, va_up (fa_fill (fun e => eGrow (E e) (mo % 12) (W (mo % 12))) E i) i (((fa_fill (fun e => eGrow (E e) (mo % 12) (W (mo % 12))) E i) i).1, ((fa_fill (fun e => eGrow (E e) (mo % 12) (W (mo % 12))) E i) i).2.1, ((fa_fill (fun e => eGrow (E e) (mo % 12) (W (mo % 12))) E i) i).2.2.1, ((fa_fill (fun e => eGrow (E e) (mo % 12) (W (mo % 12))) E i) i).2.2.2)), tp, sh, tl, hi), M)) (congrArg (fun z => ((va_up par p (mo, sz, W, S, R, C, z), tp, sh, tl, hi), M)) (va_up_i (fa_fill (fun e => eGrow (E e) (mo % 12) (W (mo % 12))) E i) i).symm) ?_
    refine v_callV (c_X0_grow l (by omega) (by omega) (mo % 12) (by omega) (W (mo % 12))) kal_X0_grow rfl dX1_passOne_28 qw_389 qw_390 qw_391 rfl (k_ewe (by omega)) (f_ewe (by omega) (by omega)) (by decide) [] (Nat.le_of_ble_eq_true rfl) rfl rfl 31 rfl ?_
    refine v_iinc dX1_passOne_31 0 rfl (nI (i + 1)) (nI_1 _) (by decide) [(2, .int (nI (i + 1))), (1, .int (nI (mo % 12))), (0, .ref (ga G (1 + p)))] rfl 34 rfl ?_
    refine v_goto dX1_passOne_34 7 (by decide) ?_
    have e91 : va_up (fa_fill (fun e => eGrow (E e) (mo % 12) (W (mo % 12))) E i) i ((eGrow (((fa_fill (fun e => eGrow (E e) (mo % 12) (W (mo % 12))) E i) i).1, ((fa_fill (fun e => eGrow (E e) (mo % 12) (W (mo % 12))) E i) i).2.1, ((fa_fill (fun e => eGrow (E e) (mo % 12) (W (mo % 12))) E i) i).2.2.1, ((fa_fill (fun e => eGrow (E e) (mo % 12) (W (mo % 12))) E i) i).2.2.2) (mo % 12) (W (mo % 12))).1, (eGrow (((fa_fill (fun e => eGrow (E e) (mo % 12) (W (mo % 12))) E i) i).1, ((fa_fill (fun e => eGrow (E e) (mo % 12) (W (mo % 12))) E i) i).2.1, ((fa_fill (fun e => eGrow (E e) (mo % 12) (W (mo % 12))) E i) i).2.2.1, ((fa_fill (fun e => eGrow (E e) (mo % 12) (W (mo % 12))) E i) i).2.2.2) (mo % 12) (W (mo % 12))).2.1, (eGrow (((fa_fill (fun e => eGrow (E e) (mo % 12) (W (mo % 12))) E i) i).1, ((fa_fill (fun e => eGrow (E e) (mo % 12) (W (mo % 12))) E i) i).2.1, ((fa_fill (fun e => eGrow (E e) (mo % 12) (W (mo % 12))) E i) i).2.2.1, ((fa_fill (fun e => eGrow (E e) (mo % 12) (W (mo % 12))) E i) i).2.2.2) (mo % 12) (W (mo % 12))).2.2.1, (eGrow (((fa_fill (fun e => eGrow (E e) (mo % 12) (W (mo % 12))) E i) i).1, ((fa_fill (fun e => eGrow (E e) (mo % 12) (W (mo % 12))) E i) i).2.1, ((fa_fill (fun e => eGrow (E e) (mo % 12) (W (mo % 12))) E i) i).2.2.1, ((fa_fill (fun e => eGrow (E e) (mo % 12) (W (mo % 12))) E i) i).2.2.2) (mo % 12) (W (mo % 12))).2.2.2) = (fa_fill (fun e => eGrow (E e) (mo % 12) (W (mo % 12))) E (i + 1)) := fa_va (by rw [fa_here])
    refine v_w (w2 := ((va_up par p (mo, sz, W, S, R, C, (fa_fill (fun e => eGrow (E e) (mo % 12) (W (mo % 12))) E (i + 1))), tp, sh, tl, hi), M)) (by rw [e91]) ?_
    exact ih (i + 1) (by omega) hk
set_option maxHeartbeats 1000000 in
set_option maxRecDepth 4000 in
theorem lp_shearAll (l : Launch) {G : Gl} {X : VX} {ov : Option Value} {wF : WS} {par : Nat → Pa} {tp : Tp} {sh : Nat → Sh} {tl : Nat → Int32} {hi : Int32} {M : MS} {p mo sz : Nat} {W S R : Nat → Int32} {C : Nat → Nat → Int32} {E : Nat → Ew} (hp : p < 3) (hsz : sz ≤ 8) (hmo : mo < 2 ^ 30) : ∀ n i : Nat, i + n = sz → V l X 3 67 cX1_passOne 3 RX1 none G ov wF ((va_up par p (mo, sz, W, (shT W S R E sz).1, (shT W S R E sz).2.1, C, (shT W S R E sz).2.2), tp, sh, tl, hi), M) 68 [(2, .int (nI sz)), (1, .int (nI (mo % 12))), (0, .ref (ga G (1 + p)))] [] → V l X 3 67 cX1_passOne 3 RX1 none G ov wF ((va_up par p (mo, sz, W, (shT W S R E i).1, (shT W S R E i).2.1, C, (shT W S R E i).2.2), tp, sh, tl, hi), M) 44 [(2, .int (nI i)), (1, .int (nI (mo % 12))), (0, .ref (ga G (1 + p)))] [] := by
  intro n
  induction n with
  | zero =>
    intro i hin hk
    obtain rfl : sz = i := by omega
    refine v_iload_n dX1_passOne_44 0 rfl 45 rfl ?_
    refine v_aload_n dX1_passOne_45 2 rfl 46 rfl ?_
    refine v_get (i := 1) (ci := 1) (T := TX1) (C := RX1) (N := 7) (v := .int (nI sz)) dX1_passOne_46 inB1 rfl qw_117 rfl (by decide) (k_par hp) (f_par hp) rfl 49 rfl ?_
    refine n_icmp_ge dX1_passOne_49 sz sz rfl rfl (by omega) (by omega) 68 (by decide) 52 rfl (fun c1 => ?_) (fun c1 => absurd c1 (by omega))
    exact hk
  | succ n ih =>
    intro i hin hk
    refine v_iload_n dX1_passOne_44 0 rfl 45 rfl ?_
    refine v_aload_n dX1_passOne_45 2 rfl 46 rfl ?_
    refine v_get (i := 1) (ci := 1) (T := TX1) (C := RX1) (N := 7) (v := .int (nI sz)) dX1_passOne_46 inB1 rfl qw_117 rfl (by decide) (k_par hp) (f_par hp) rfl 49 rfl ?_
    refine n_icmp_ge dX1_passOne_49 i sz rfl rfl (by omega) (by omega) 68 (by decide) 52 rfl (fun c1 => absurd c1 (by omega)) (fun c1 => ?_)
    refine v_aload_n dX1_passOne_52 2 rfl 53 rfl ?_
    refine v_aload_n dX1_passOne_53 2 rfl 54 rfl ?_
    refine v_get (i := 5) (ci := 1) (T := TX1) (C := RX1) (N := 7) (v := .ref (ga G (13 + p))) dX1_passOne_54 inB1 rfl qw_127 rfl (by decide) (k_par hp) (f_par hp) rfl 57 rfl ?_
    refine v_iload_n dX1_passOne_57 0 rfl 58 rfl ?_
    refine v_aaldE dX1_passOne_58 (k_ews hp) (cel_ews G _ hp) i rfl (by omega) (by decide) rfl 59 rfl ?_
    refine v_w (w2 := ((va_up par p (mo, sz, W, (shT W S R E i).1, (shT W S R E i).2.1, C, va_up (shT W S R E i).2.2 i (((shT W S R E i).2.2 i).1, ((shT W S R E i).2.2 i).2.1, ((shT W S R E i).2.2 i).2.2.1, ((shT W S R E i).2.2 i).2.2.2)), tp, sh, tl, hi), M)) (congrArg (fun z => ((va_up par p (mo, sz, W, (shT W S R E i).1, (shT W S R E i).2.1, C, z), tp, sh, tl, hi), M)) (va_up_i (shT W S R E i).2.2 i).symm) ?_
    refine v_callV (c_X1_shear l hp (by omega)) kal_X1_shear rfl dX1_passOne_59 qw_398 qw_399 qw_400 rfl (k_par hp) (f_par hp) (by decide) [] (Nat.le_of_ble_eq_true rfl) rfl rfl 62 rfl ?_
    refine v_iinc dX1_passOne_62 0 rfl (nI (i + 1)) (nI_1 _) (by decide) [(2, .int (nI (i + 1))), (1, .int (nI (mo % 12))), (0, .ref (ga G (1 + p)))] rfl 65 rfl ?_
    refine v_goto dX1_passOne_65 44 (by decide) ?_
    exact ih (i + 1) (by omega) hk
set_option maxHeartbeats 1000000 in
set_option maxRecDepth 4000 in
theorem c_X1_passOne (l : Launch) {G : Gl} {par : Nat → Pa} {tp : Tp} {sh : Nat → Sh} {tl : Nat → Int32} {hi : Int32} {M : MS} {p mo sz : Nat} {W S R : Nat → Int32} {C : Nat → Nat → Int32} {E : Nat → Ew} (hp : p < 3) (hsz : sz ≤ 8) (hmo : mo < 2 ^ 30) : Ct l G yX1_passOne cX1_passOne 3 none 3 67 [.ref (ga G (1 + p))] ((va_up par p (mo, sz, W, S, R, C, E), tp, sh, tl, hi), M) (none) ((va_up par p (pOne (mo, sz, W, S, R, C, E)), tp, sh, tl, hi), M) := by
  refine Ct.of (own := RX1) (by decide) rfl (Nat.le_of_ble_eq_true rfl) rfl (fun X => ?_)
  refine v_aload_n dX1_passOne_0 0 rfl 1 rfl ?_
  refine v_callV (c_X1_monthOfYear l hp (by omega) ) kal_X1_monthOfYear rfl dX1_passOne_1 qw_388 qw_248 qw_249 rfl (k_par hp) (f_par hp) (by decide) [] (Nat.le_of_ble_eq_true rfl) rfl rfl 4 rfl ?_
  refine v_istore_n dX1_passOne_4 1 rfl (by decide) [(1, .int (nI (mo % 12))), (0, .ref (ga G (1 + p)))] rfl 5 rfl ?_
  refine v_iconst dX1_passOne_5 0 rfl 6 rfl ?_
  refine v_istore_n dX1_passOne_6 2 rfl (by decide) [(2, .int 0), (1, .int (nI (mo % 12))), (0, .ref (ga G (1 + p)))] rfl 7 rfl ?_
  refine v_w (w2 := ((va_up par p (mo, sz, W, S, R, C, (fa_fill (fun e => eGrow (E e) (mo % 12) (W (mo % 12))) E 0)), tp, sh, tl, hi), M)) (by rw [fa_fill_0]) ?_
  refine lp_grow l hp hsz hmo sz 0 (by omega) ?_
  refine v_iload_n dX1_passOne_37 1 rfl 38 rfl ?_
  refine v_iconst dX1_passOne_38 5 rfl 39 rfl ?_
  refine n_icmp_ne dX1_passOne_39 (mo % 12) 5 rfl rfl (by omega) (by omega) 68 (by decide) 42 rfl (fun c1 => ?_) (fun c1 => ?_)
  · skip
    refine v_aload_n dX1_passOne_68 2 rfl 69 rfl ?_
    refine v_dup dX1_passOne_69 rfl 70 rfl ?_
    refine v_get (i := 0) (ci := 1) (T := TX1) (C := RX1) (N := 7) (v := .int (nI mo)) dX1_passOne_70 inB1 rfl qw_115 rfl (by decide) (k_par hp) (f_par hp) rfl 73 rfl ?_
    refine v_iconst dX1_passOne_73 1 rfl 74 rfl ?_
    refine n_iadd dX1_passOne_74 mo 1 rfl rfl 75 rfl ?_
    refine v_put (i := 0) (ci := 1) (T := TX1) (C := RX1) (N := 7) (ty := .int) (w2 := ((va_up par p ((mo + 1), sz, W, S, R, C, (fa_fill (fun e => eGrow (E e) (mo % 12) (W (mo % 12))) E sz)), tp, sh, tl, hi), M)) dX1_passOne_75 inB1 tyX1 tyX1_ok nmX1 rfl qw_115 rfl rfl rfl rfl rfl (by decide) (k_par hp) (f_par hp) (Nat.le_of_ble_eq_true rfl) (u_mo hp) 78 rfl ?_
    exact v_vret dX1_passOne_78 (by rfl) (by simp [pOne, pSh, pGr, c1])
  · skip
    refine v_iconst dX1_passOne_42 0 rfl 43 rfl ?_
    refine v_istore_n dX1_passOne_43 2 rfl (by decide) [(2, .int 0), (1, .int (nI (mo % 12))), (0, .ref (ga G (1 + p)))] rfl 44 rfl ?_
    refine lp_shearAll l (E := (fa_fill (fun e => eGrow (E e) (mo % 12) (W (mo % 12))) E sz)) hp hsz hmo sz 0 (by omega) ?_
    refine v_aload_n dX1_passOne_68 2 rfl 69 rfl ?_
    refine v_dup dX1_passOne_69 rfl 70 rfl ?_
    refine v_get (i := 0) (ci := 1) (T := TX1) (C := RX1) (N := 7) (v := .int (nI mo)) dX1_passOne_70 inB1 rfl qw_115 rfl (by decide) (k_par hp) (f_par hp) rfl 73 rfl ?_
    refine v_iconst dX1_passOne_73 1 rfl 74 rfl ?_
    refine n_iadd dX1_passOne_74 mo 1 rfl rfl 75 rfl ?_
    refine v_put (i := 0) (ci := 1) (T := TX1) (C := RX1) (N := 7) (ty := .int) (w2 := ((va_up par p ((mo + 1), sz, W, (shT W S R (fa_fill (fun e => eGrow (E e) (mo % 12) (W (mo % 12))) E sz) sz).1, (shT W S R (fa_fill (fun e => eGrow (E e) (mo % 12) (W (mo % 12))) E sz) sz).2.1, C, (shT W S R (fa_fill (fun e => eGrow (E e) (mo % 12) (W (mo % 12))) E sz) sz).2.2), tp, sh, tl, hi), M)) dX1_passOne_75 inB1 tyX1 tyX1_ok nmX1 rfl qw_115 rfl rfl rfl rfl rfl (by decide) (k_par hp) (f_par hp) (Nat.le_of_ble_eq_true rfl) (u_mo hp) 78 rfl ?_
    exact v_vret dX1_passOne_78 (by rfl) (by simp [pOne, pSh, pGr, c1])
