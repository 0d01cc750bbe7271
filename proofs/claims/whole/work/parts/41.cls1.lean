set_option maxHeartbeats 1000000 in
set_option maxRecDepth 4000 in
theorem c_X4_found (l : Launch) {G : Gl} {par : Nat → Pa} {tp : Tp} {sh : Nat → Sh} {tl : Nat → Int32} {hi : Int32} {M : MS} {k : Nat} (hk : k < 7) : Ct l G yX4_found cX4_found 2 (some .int) 0 0 [.ref (ga G (0)), .int (nI k)] ((par, tp, sh, tl, hi), M) (some (.int (-1000000001 - nI k))) ((par, tp, sh, upd tl k (tl k + 1), hi), M) := by
  refine Ct.of (own := RX4) (by decide) rfl (Nat.le_of_ble_eq_true rfl) rfl (fun X => ?_)
  refine v_aload_n dX4_found_0 0 rfl 1 rfl ?_
  refine v_get (i := 6) (ci := 4) (T := TX4) (C := RX4) (N := 8) (v := .ref (ga G (92))) dX4_found_1 inB4 rfl qw_202 rfl (by decide) (by decide) (cel_obj G _) rfl 4 rfl ?_
  refine v_iload_n dX4_found_4 1 rfl 5 rfl ?_
  refine v_dup2 dX4_found_5 rfl rfl 6 rfl ?_
  refine v_iald (a := tl) dX4_found_6 (by decide) (cel_tol G _) k rfl (by omega) (by decide) 7 rfl ?_
  refine v_iconst dX4_found_7 1 rfl 8 rfl ?_
  refine v_iadd dX4_found_8 9 rfl ?_
  refine v_iast (w2 := ((par, tp, sh, upd tl k ((tl k) + 1), hi), M)) dX4_found_9 (by decide) (cel_tol G _) k rfl (by omega) (by decide) u_tl 10 rfl ?_
  refine v_ldc dX4_found_10 (-1000000001) qw_238 12 rfl ?_
  refine v_iload_n dX4_found_12 1 rfl 13 rfl ?_
  refine v_isub dX4_found_13 14 rfl ?_
  exact v_iret dX4_found_14 (by rfl) (by rfl)
set_option maxHeartbeats 1000000 in
set_option maxRecDepth 4000 in
theorem c_X4_isEwe (l : Launch) {G : Gl} {K : CS} {M : MS} (hsz : (K.1 0).2.1 ≤ 8) (a : Int32) : Ct l G yX4_isEwe cX4_isEwe 2 (some .boolean) 1 22 [.ref (ga G (0)), .int a] (K, M) (some (.int ((b2 (inE (K.1 0).2.1 a), K)).1)) (((b2 (inE (K.1 0).2.1 a), K)).2, M) := by
  obtain ⟨par, tp, sh, tl, hi⟩ := K
  dsimp only at hsz
  refine Ct.of (own := RX4) (by decide) rfl (Nat.le_of_ble_eq_true rfl) rfl (fun X => ?_)
  refine v_iload_n dX4_isEwe_0 1 rfl 1 rfl ?_
  refine v_iconst dX4_isEwe_1 0 rfl 2 rfl ?_
  refine v_aload_n dX4_isEwe_2 0 rfl 3 rfl ?_
  refine v_get (i := 0) (ci := 4) (T := TX4) (C := RX4) (N := 8) (v := .ref (ga G (1 + 0))) dX4_isEwe_3 inB4 rfl qw_196 rfl (by decide) (by decide) (cel_obj G _) rfl 6 rfl ?_
  refine v_get (i := 1) (ci := 1) (T := TX1) (C := RX1) (N := 7) (v := .int (nI (par 0).2.1)) dX4_isEwe_6 inB1 rfl qw_118 rfl (by decide) (k_par h03) (cel_par G _ h03) rfl 9 rfl ?_
  refine v_iconst dX4_isEwe_9 1 rfl 10 rfl ?_
  refine v_isub dX4_isEwe_10 11 rfl ?_
  refine v_callS (c_X4_isWithin l a 0 ((nI (par 0).2.1) - 1) (lo := 0) (hi := ((((par 0).2.1 : Nat) : Int) - 1)) rfl (nI_m1 (by omega))) kal_X4_isWithin rfl dX4_isEwe_11 qw_228 qw_229 (by decide) [] (Nat.le_of_ble_eq_true rfl) rfl rfl 14 rfl ?_
  exact v_zret dX4_isEwe_14 (g_nar _) (by rfl) (by rfl)
set_option maxHeartbeats 1000000 in
set_option maxRecDepth 4000 in
theorem c_X4_weather (l : Launch) {G : Gl} {K : CS} {M : MS} (a b : Int32) : Ct l G yX4_weather cX4_weather 4 (some .int) 2 42 [.ref (ga G (0)), .int a, .int b] (K, M) (some (.int (cWeather K a b).1)) ((cWeather K a b).2, M) := by
  obtain ⟨par, tp, sh, tl, hi⟩ := K
  refine Ct.of (own := RX4) (by decide) rfl (Nat.le_of_ble_eq_true rfl) rfl (fun X => ?_)
  refine v_iload_n dX4_weather_0 1 rfl 1 rfl ?_
  refine v_callS (c_X4_isMonth l a) kal_X4_isMonth rfl dX4_weather_1 qw_225 qw_226 (by decide) [] (Nat.le_of_ble_eq_true rfl) rfl rfl 4 rfl ?_
  refine v_ifb_eq dX4_weather_4 14 (by decide) 7 rfl (fun c1 => ?_) (fun c1 => ?_)
  · skip
    refine v_aload_n dX4_weather_14 0 rfl 15 rfl ?_
    refine v_iconst dX4_weather_15 0 rfl 16 rfl ?_
    refine v_callV (c_X4_found l (k := 0) (by decide)) kal_X4_found rfl dX4_weather_16 qw_234 qw_236 qw_0 rfl (by decide) (cel_obj G _) (by decide) [] (Nat.le_of_ble_eq_true rfl) rfl rfl 19 rfl ?_
    exact v_iret dX4_weather_19 (by simp only [cWeather, c1, Bool.and_self, Bool.and_true, Bool.true_and, Bool.and_false, Bool.false_and, if_true, if_false, Bool.false_eq_true, ↓reduceIte] <;> simp [cFind, kP, kL, sW, sE, pAdd, pCut, pUndo, va_up_i, va_up_s, bx_uu, true_and]) (by simp only [cWeather, c1, Bool.and_self, Bool.and_true, Bool.true_and, Bool.and_false, Bool.false_and, if_true, if_false, Bool.false_eq_true, ↓reduceIte] <;> simp [cFind, kP, kL, sW, sE, pAdd, pCut, pUndo, va_up_i, va_up_s, bx_uu, true_and])
  · skip
    obtain ⟨ja, h1ja, h2ja, rfl⟩ := inb_ix (lo := 0) (hi := 11) c1
    have eja : (nI ja).toNatClampNeg = ja := nI_clamp (by omega)
    refine v_iload_n dX4_weather_7 2 rfl 8 rfl ?_
    refine v_callS (c_X4_isWeather l b) kal_X4_isWeather rfl dX4_weather_8 qw_231 qw_232 (by decide) [] (Nat.le_of_ble_eq_true rfl) rfl rfl 11 rfl ?_
    refine v_ifb_ne dX4_weather_11 20 (by decide) 14 rfl (fun c2 => ?_) (fun c2 => ?_)
    · skip
      refine v_aload_n dX4_weather_20 0 rfl 21 rfl ?_
      refine v_get (i := 0) (ci := 4) (T := TX4) (C := RX4) (N := 8) (v := .ref (ga G (1 + 0))) dX4_weather_21 inB4 rfl qw_196 rfl (by decide) (by decide) (cel_obj G _) rfl 24 rfl ?_
      refine v_get (i := 2) (ci := 1) (T := TX1) (C := RX1) (N := 7) (v := .ref (ga G (4 + 0))) dX4_weather_24 inB1 rfl qw_120 rfl (by decide) (k_par h03) (cel_par G _ h03) rfl 27 rfl ?_
      refine v_iload_n dX4_weather_27 1 rfl 28 rfl ?_
      refine v_iald (a := (par 0).2.2.1) dX4_weather_28 (k_wea h03) (cel_wea G _ h03) ja rfl (by omega) (by decide) 29 rfl ?_
      refine v_istore_n dX4_weather_29 3 rfl (by decide) [(3, .int ((par 0).2.2.1 ja)), (0, .ref (ga G (0))), (1, .int (nI ja)), (2, .int b)] rfl 30 rfl ?_
      refine v_aload_n dX4_weather_30 1 rfl 31 rfl ?_
      refine v_get (i := 0) (ci := 4) (T := TX4) (C := RX4) (N := 8) (v := .ref (ga G (1 + 0))) dX4_weather_31 inB4 rfl qw_196 rfl (by decide) (by decide) (cel_obj G _) rfl 34 rfl ?_
      refine v_get (i := 2) (ci := 1) (T := TX1) (C := RX1) (N := 7) (v := .ref (ga G (4 + 0))) dX4_weather_34 inB1 rfl qw_120 rfl (by decide) (k_par h03) (cel_par G _ h03) rfl 37 rfl ?_
      refine v_iload_n dX4_weather_37 2 rfl 38 rfl ?_
      refine v_iload_n dX4_weather_38 3 rfl 39 rfl ?_
      refine v_w (w2 := ((va_up par 0 ((par 0).1, (par 0).2.1, (par 0).2.2.1, (par 0).2.2.2.1, (par 0).2.2.2.2.1, (par 0).2.2.2.2.2.1, (par 0).2.2.2.2.2.2), tp, sh, tl, hi), M)) (congrArg (fun z => ((z, tp, sh, tl, hi), M)) (va_up_i par 0).symm) ?_
      refine v_iast (w2 := ((va_up par 0 ((par 0).1, (par 0).2.1, (upd (par 0).2.2.1 ja b), (par 0).2.2.2.1, (par 0).2.2.2.2.1, (par 0).2.2.2.2.2.1, (par 0).2.2.2.2.2.2), tp, sh, tl, hi), M)) dX4_weather_39 (k_wea h03) (f_wea h03) ja rfl (by omega) (by decide) (u_W h03) 40 rfl ?_
      refine v_iload_n dX4_weather_40 0 rfl 41 rfl ?_
      exact v_iret dX4_weather_41 (by simp only [cWeather, c1, c2, eja, Bool.and_self, Bool.and_true, Bool.true_and, Bool.and_false, Bool.false_and, if_true, if_false, Bool.false_eq_true, ↓reduceIte] <;> simp [cFind, kP, kL, sW, sE, pAdd, pCut, pUndo, va_up_i, va_up_s, bx_uu, eja]) (by simp only [cWeather, c1, c2, eja, Bool.and_self, Bool.and_true, Bool.true_and, Bool.and_false, Bool.false_and, if_true, if_false, Bool.false_eq_true, ↓reduceIte] <;> simp [cFind, kP, kL, sW, sE, pAdd, pCut, pUndo, va_up_i, va_up_s, bx_uu, eja])
    · skip
      refine v_aload_n dX4_weather_14 0 rfl 15 rfl ?_
      refine v_iconst dX4_weather_15 0 rfl 16 rfl ?_
      refine v_callV (c_X4_found l (k := 0) (by decide)) kal_X4_found rfl dX4_weather_16 qw_234 qw_236 qw_0 rfl (by decide) (cel_obj G _) (by decide) [] (Nat.le_of_ble_eq_true rfl) rfl rfl 19 rfl ?_
      exact v_iret dX4_weather_19 (by simp only [cWeather, c1, c2, eja, Bool.and_self, Bool.and_true, Bool.true_and, Bool.and_false, Bool.false_and, if_true, if_false, Bool.false_eq_true, ↓reduceIte] <;> simp [cFind, kP, kL, sW, sE, pAdd, pCut, pUndo, va_up_i, va_up_s, bx_uu, eja]) (by simp only [cWeather, c1, c2, eja, Bool.and_self, Bool.and_true, Bool.true_and, Bool.and_false, Bool.false_and, if_true, if_false, Bool.false_eq_true, ↓reduceIte] <;> simp [cFind, kP, kL, sW, sE, pAdd, pCut, pUndo, va_up_i, va_up_s, bx_uu, eja])
set_option maxHeartbeats 1000000 in
set_option maxRecDepth 4000 in
theorem c_X4_monthOf (l : Launch) {G : Gl} {K : CS} {M : MS} (a b : Int32) : Ct l G yX4_monthOf cX4_monthOf 3 (some .int) 2 42 [.ref (ga G (0)), .int a, .int b] (K, M) (some (.int (cMonthOf K a b).1)) ((cMonthOf K a b).2, M) := by
  obtain ⟨par, tp, sh, tl, hi⟩ := K
  refine Ct.of (own := RX4) (by decide) rfl (Nat.le_of_ble_eq_true rfl) rfl (fun X => ?_)
  refine v_iload_n dX4_monthOf_0 1 rfl 1 rfl ?_
  refine v_callS (c_X4_isMonth l a) kal_X4_isMonth rfl dX4_monthOf_1 qw_225 qw_226 (by decide) [] (Nat.le_of_ble_eq_true rfl) rfl rfl 4 rfl ?_
  refine v_ifb_ne dX4_monthOf_4 13 (by decide) 7 rfl (fun c1 => ?_) (fun c1 => ?_)
  · skip
    obtain ⟨ja, h1ja, h2ja, rfl⟩ := inb_ix (lo := 0) (hi := 11) c1
    have eja : (nI ja).toNatClampNeg = ja := nI_clamp (by omega)
    refine v_iload_n dX4_monthOf_13 2 rfl 14 rfl ?_
    by_cases c2_0 : b = 0
    · refine v_topi 0 c2_0 ?_
      refine v_tabIn dX4_monthOf_14 (by decide) (by decide) (off := 26) (by decide) 40 (by decide) ?_
      refine v_bipush dX4_monthOf_40 100 rfl 42 rfl ?_
      refine v_aload_n dX4_monthOf_42 0 rfl 43 rfl ?_
      refine v_get (i := 0) (ci := 4) (T := TX4) (C := RX4) (N := 8) (v := .ref (ga G (1 + 0))) dX4_monthOf_43 inB4 rfl qw_196 rfl (by decide) (by decide) (cel_obj G _) rfl 46 rfl ?_
      refine v_get (i := 2) (ci := 1) (T := TX1) (C := RX1) (N := 7) (v := .ref (ga G (4 + 0))) dX4_monthOf_46 inB1 rfl qw_120 rfl (by decide) (k_par h03) (cel_par G _ h03) rfl 49 rfl ?_
      refine v_iload_n dX4_monthOf_49 1 rfl 50 rfl ?_
      refine v_iald (a := (par 0).2.2.1) dX4_monthOf_50 (k_wea h03) (cel_wea G _ h03) ja rfl (by omega) (by decide) 51 rfl ?_
      refine v_iadd dX4_monthOf_51 52 rfl ?_
      exact v_iret dX4_monthOf_52 (by simp only [cMonthOf, c1, eja, Bool.and_self, Bool.and_true, Bool.true_and, Bool.and_false, Bool.false_and, if_true, if_false, Bool.false_eq_true, ↓reduceIte] <;> simp [cFind, kP, kL, sW, sE, pAdd, pCut, pUndo, va_up_i, va_up_s, bx_uu, c2_0, eja]) (by simp only [cMonthOf, c1, eja, Bool.and_self, Bool.and_true, Bool.true_and, Bool.and_false, Bool.false_and, if_true, if_false, Bool.false_eq_true, ↓reduceIte] <;> simp [cFind, kP, kL, sW, sE, pAdd, pCut, pUndo, va_up_i, va_up_s, bx_uu, c2_0, eja])
    by_cases c2_1 : b = 1
    · refine v_topi 1 c2_1 ?_
      refine v_tabIn dX4_monthOf_14 (by decide) (by decide) (off := 39) (by decide) 53 (by decide) ?_
      refine v_aload_n dX4_monthOf_53 0 rfl 54 rfl ?_
      refine v_get (i := 0) (ci := 4) (T := TX4) (C := RX4) (N := 8) (v := .ref (ga G (1 + 0))) dX4_monthOf_54 inB4 rfl qw_196 rfl (by decide) (by decide) (cel_obj G _) rfl 57 rfl ?_
      refine v_get (i := 3) (ci := 1) (T := TX1) (C := RX1) (N := 7) (v := .ref (ga G (7 + 0))) dX4_monthOf_57 inB1 rfl qw_123 rfl (by decide) (k_par h03) (cel_par G _ h03) rfl 60 rfl ?_
      refine v_iload_n dX4_monthOf_60 1 rfl 61 rfl ?_
      refine v_iald (a := (par 0).2.2.2.1) dX4_monthOf_61 (k_sto h03) (cel_sto G _ h03) ja rfl (by omega) (by decide) 62 rfl ?_
      exact v_iret dX4_monthOf_62 (by simp only [cMonthOf, c1, eja, Bool.and_self, Bool.and_true, Bool.true_and, Bool.and_false, Bool.false_and, if_true, if_false, Bool.false_eq_true, ↓reduceIte] <;> simp [cFind, kP, kL, sW, sE, pAdd, pCut, pUndo, va_up_i, va_up_s, bx_uu, c2_0, c2_1, eja]) (by simp only [cMonthOf, c1, eja, Bool.and_self, Bool.and_true, Bool.true_and, Bool.and_false, Bool.false_and, if_true, if_false, Bool.false_eq_true, ↓reduceIte] <;> simp [cFind, kP, kL, sW, sE, pAdd, pCut, pUndo, va_up_i, va_up_s, bx_uu, c2_0, c2_1, eja])
    by_cases c2_2 : b = 2
    · refine v_topi 2 c2_2 ?_
      refine v_tabIn dX4_monthOf_14 (by decide) (by decide) (off := 49) (by decide) 63 (by decide) ?_
      refine v_aload_n dX4_monthOf_63 0 rfl 64 rfl ?_
      refine v_get (i := 0) (ci := 4) (T := TX4) (C := RX4) (N := 8) (v := .ref (ga G (1 + 0))) dX4_monthOf_64 inB4 rfl qw_196 rfl (by decide) (by decide) (cel_obj G _) rfl 67 rfl ?_
      refine v_get (i := 4) (ci := 1) (T := TX1) (C := RX1) (N := 7) (v := .ref (ga G (10 + 0))) dX4_monthOf_67 inB1 rfl qw_126 rfl (by decide) (k_par h03) (cel_par G _ h03) rfl 70 rfl ?_
      refine v_iload_n dX4_monthOf_70 1 rfl 71 rfl ?_
      refine v_iald (a := (par 0).2.2.2.2.1) dX4_monthOf_71 (k_rou h03) (cel_rou G _ h03) ja rfl (by omega) (by decide) 72 rfl ?_
      exact v_iret dX4_monthOf_72 (by simp only [cMonthOf, c1, eja, Bool.and_self, Bool.and_true, Bool.true_and, Bool.and_false, Bool.false_and, if_true, if_false, Bool.false_eq_true, ↓reduceIte] <;> simp [cFind, kP, kL, sW, sE, pAdd, pCut, pUndo, va_up_i, va_up_s, bx_uu, c2_0, c2_1, c2_2, eja]) (by simp only [cMonthOf, c1, eja, Bool.and_self, Bool.and_true, Bool.true_and, Bool.and_false, Bool.false_and, if_true, if_false, Bool.false_eq_true, ↓reduceIte] <;> simp [cFind, kP, kL, sW, sE, pAdd, pCut, pUndo, va_up_i, va_up_s, bx_uu, c2_0, c2_1, c2_2, eja])
    refine v_tabOut dX4_monthOf_14 (sw_out (lo := 0) (hi := 2) (by decide) (by decide) (fun k h1 h2 => by rcases (show k = 0 ∨ k = 1 ∨ k = 2 by omega) with rfl | rfl | rfl <;> first | exact c2_0 | exact c2_1 | exact c2_2)) 73 (by decide) ?_
    refine v_aload_n dX4_monthOf_73 0 rfl 74 rfl ?_
    refine v_iconst dX4_monthOf_74 0 rfl 75 rfl ?_
    refine v_callV (c_X4_found l (k := 0) (by decide)) kal_X4_found rfl dX4_monthOf_75 qw_234 qw_236 qw_0 rfl (by decide) (cel_obj G _) (by decide) [] (Nat.le_of_ble_eq_true rfl) rfl rfl 78 rfl ?_
    exact v_iret dX4_monthOf_78 (by simp only [cMonthOf, c1, eja, Bool.and_self, Bool.and_true, Bool.true_and, Bool.and_false, Bool.false_and, if_true, if_false, Bool.false_eq_true, ↓reduceIte] <;> simp [cFind, kP, kL, sW, sE, pAdd, pCut, pUndo, va_up_i, va_up_s, bx_uu, c2_0, c2_1, c2_2, eja]) (by simp only [cMonthOf, c1, eja, Bool.and_self, Bool.and_true, Bool.true_and, Bool.and_false, Bool.false_and, if_true, if_false, Bool.false_eq_true, ↓reduceIte] <;> simp [cFind, kP, kL, sW, sE, pAdd, pCut, pUndo, va_up_i, va_up_s, bx_uu, c2_0, c2_1, c2_2, eja])
  · skip
    refine v_aload_n dX4_monthOf_7 0 rfl 8 rfl ?_
    refine v_iconst dX4_monthOf_8 0 rfl 9 rfl ?_
    refine v_callV (c_X4_found l (k := 0) (by decide)) kal_X4_found rfl dX4_monthOf_9 qw_234 qw_236 qw_0 rfl (by decide) (cel_obj G _) (by decide) [] (Nat.le_of_ble_eq_true rfl) rfl rfl 12 rfl ?_
    exact v_iret dX4_monthOf_12 (by simp only [cMonthOf, c1, Bool.and_self, Bool.and_true, Bool.true_and, Bool.and_false, Bool.false_and, if_true, if_false, Bool.false_eq_true, ↓reduceIte] <;> simp [cFind, kP, kL, sW, sE, pAdd, pCut, pUndo, va_up_i, va_up_s, bx_uu, true_and]) (by simp only [cMonthOf, c1, Bool.and_self, Bool.and_true, Bool.true_and, Bool.and_false, Bool.false_and, if_true, if_false, Bool.false_eq_true, ↓reduceIte] <;> simp [cFind, kP, kL, sW, sE, pAdd, pCut, pUndo, va_up_i, va_up_s, bx_uu, true_and])
set_option maxHeartbeats 1000000 in
set_option maxRecDepth 4000 in
theorem c_X4_now (l : Launch) {G : Gl} {K : CS} {M : MS} (hsz : (K.1 0).2.1 ≤ 8) (hmo : (K.1 0).1 < 2 ^ 20) (a : Int32) : Ct l G yX4_now cX4_now 2 (some .int) 1 25 [.ref (ga G (0)), .int a] (K, M) (some (.int (cNow K a).1)) ((cNow K a).2, M) := by
  obtain ⟨par, tp, sh, tl, hi⟩ := K
  dsimp only at hsz hmo
  refine Ct.of (own := RX4) (by decide) rfl (Nat.le_of_ble_eq_true rfl) rfl (fun X => ?_)
  refine v_iload_n dX4_now_0 1 rfl 1 rfl ?_
  by_cases c1_0 : a = 0
  · refine v_topi 0 c1_0 ?_
    refine v_tabIn dX4_now_1 (by decide) (by decide) (off := 39) (by decide) 40 (by decide) ?_
    refine v_aload_n dX4_now_40 0 rfl 41 rfl ?_
    refine v_get (i := 0) (ci := 4) (T := TX4) (C := RX4) (N := 8) (v := .ref (ga G (1 + 0))) dX4_now_41 inB4 rfl qw_196 rfl (by decide) (by decide) (cel_obj G _) rfl 44 rfl ?_
    refine v_get (i := 0) (ci := 1) (T := TX1) (C := RX1) (N := 7) (v := .int (nI (par 0).1)) dX4_now_44 inB1 rfl qw_116 rfl (by decide) (k_par h03) (cel_par G _ h03) rfl 47 rfl ?_
    exact v_iret dX4_now_47 (by simp only [cNow, true_and, Bool.and_self, Bool.and_true, Bool.true_and, Bool.and_false, Bool.false_and, if_true, if_false, Bool.false_eq_true, ↓reduceIte] <;> simp [cFind, kP, kL, sW, sE, pAdd, pCut, pUndo, va_up_i, va_up_s, bx_uu, c1_0]) (by simp only [cNow, true_and, Bool.and_self, Bool.and_true, Bool.true_and, Bool.and_false, Bool.false_and, if_true, if_false, Bool.false_eq_true, ↓reduceIte] <;> simp [cFind, kP, kL, sW, sE, pAdd, pCut, pUndo, va_up_i, va_up_s, bx_uu, c1_0])
  by_cases c1_1 : a = 1
  · refine v_topi 1 c1_1 ?_
    refine v_tabIn dX4_now_1 (by decide) (by decide) (off := 47) (by decide) 48 (by decide) ?_
    refine v_aload_n dX4_now_48 0 rfl 49 rfl ?_
    refine v_get (i := 0) (ci := 4) (T := TX4) (C := RX4) (N := 8) (v := .ref (ga G (1 + 0))) dX4_now_49 inB4 rfl qw_196 rfl (by decide) (by decide) (cel_obj G _) rfl 52 rfl ?_
    refine v_w (w2 := ((va_up par 0 ((par 0).1, (par 0).2.1, (par 0).2.2.1, (par 0).2.2.2.1, (par 0).2.2.2.2.1, (par 0).2.2.2.2.2.1, (par 0).2.2.2.2.2.2), tp, sh, tl, hi), M)) (congrArg (fun z => ((z, tp, sh, tl, hi), M)) (va_up_i par 0).symm) ?_
    refine v_callV (c_X1_monthOfYear l h03 (by omega) ) kal_X1_monthOfYear rfl dX4_now_52 qw_247 qw_248 qw_249 rfl (k_par h03) (f_par h03) (by decide) [] (Nat.le_of_ble_eq_true rfl) rfl rfl 55 rfl ?_
    exact v_iret dX4_now_55 (by simp only [cNow, true_and, Bool.and_self, Bool.and_true, Bool.true_and, Bool.and_false, Bool.false_and, if_true, if_false, Bool.false_eq_true, ↓reduceIte] <;> simp [cFind, kP, kL, sW, sE, pAdd, pCut, pUndo, va_up_i, va_up_s, bx_uu, c1_0, c1_1]) (by simp only [cNow, true_and, Bool.and_self, Bool.and_true, Bool.true_and, Bool.and_false, Bool.false_and, if_true, if_false, Bool.false_eq_true, ↓reduceIte] <;> simp [cFind, kP, kL, sW, sE, pAdd, pCut, pUndo, va_up_i, va_up_s, bx_uu, c1_0, c1_1])
  by_cases c1_2 : a = 2
  · refine v_topi 2 c1_2 ?_
    refine v_tabIn dX4_now_1 (by decide) (by decide) (off := 55) (by decide) 56 (by decide) ?_
    refine v_bipush dX4_now_56 100 rfl 58 rfl ?_
    refine v_aload_n dX4_now_58 0 rfl 59 rfl ?_
    refine v_get (i := 0) (ci := 4) (T := TX4) (C := RX4) (N := 8) (v := .ref (ga G (1 + 0))) dX4_now_59 inB4 rfl qw_196 rfl (by decide) (by decide) (cel_obj G _) rfl 62 rfl ?_
    refine v_get (i := 2) (ci := 1) (T := TX1) (C := RX1) (N := 7) (v := .ref (ga G (4 + 0))) dX4_now_62 inB1 rfl qw_120 rfl (by decide) (k_par h03) (cel_par G _ h03) rfl 65 rfl ?_
    refine v_aload_n dX4_now_65 0 rfl 66 rfl ?_
    refine v_get (i := 0) (ci := 4) (T := TX4) (C := RX4) (N := 8) (v := .ref (ga G (1 + 0))) dX4_now_66 inB4 rfl qw_196 rfl (by decide) (by decide) (cel_obj G _) rfl 69 rfl ?_
    refine v_w (w2 := ((va_up par 0 ((par 0).1, (par 0).2.1, (par 0).2.2.1, (par 0).2.2.2.1, (par 0).2.2.2.2.1, (par 0).2.2.2.2.2.1, (par 0).2.2.2.2.2.2), tp, sh, tl, hi), M)) (congrArg (fun z => ((z, tp, sh, tl, hi), M)) (va_up_i par 0).symm) ?_
    refine v_callV (c_X1_monthOfYear l h03 (by omega) ) kal_X1_monthOfYear rfl dX4_now_69 qw_247 qw_248 qw_249 rfl (k_par h03) (f_par h03) (by decide) [.ref (ga G (4 + 0)), .int 100] (Nat.le_of_ble_eq_true rfl) rfl rfl 72 rfl ?_
    refine v_iald (a := (par 0).2.2.1) dX4_now_72 (k_wea h03) (f_wea h03) ((par 0).1 % 12) rfl (by omega) (by decide) 73 rfl ?_
    refine v_iadd dX4_now_73 74 rfl ?_
    exact v_iret dX4_now_74 (by simp only [cNow, true_and, Bool.and_self, Bool.and_true, Bool.true_and, Bool.and_false, Bool.false_and, if_true, if_false, Bool.false_eq_true, ↓reduceIte] <;> simp [cFind, kP, kL, sW, sE, pAdd, pCut, pUndo, va_up_i, va_up_s, bx_uu, c1_0, c1_1, c1_2]) (by simp only [cNow, true_and, Bool.and_self, Bool.and_true, Bool.true_and, Bool.and_false, Bool.false_and, if_true, if_false, Bool.false_eq_true, ↓reduceIte] <;> simp [cFind, kP, kL, sW, sE, pAdd, pCut, pUndo, va_up_i, va_up_s, bx_uu, c1_0, c1_1, c1_2])
  by_cases c1_3 : a = 3
  · refine v_topi 3 c1_3 ?_
    refine v_tabIn dX4_now_1 (by decide) (by decide) (off := 74) (by decide) 75 (by decide) ?_
    refine v_aload_n dX4_now_75 0 rfl 76 rfl ?_
    refine v_get (i := 0) (ci := 4) (T := TX4) (C := RX4) (N := 8) (v := .ref (ga G (1 + 0))) dX4_now_76 inB4 rfl qw_196 rfl (by decide) (by decide) (cel_obj G _) rfl 79 rfl ?_
    refine v_get (i := 3) (ci := 1) (T := TX1) (C := RX1) (N := 7) (v := .ref (ga G (7 + 0))) dX4_now_79 inB1 rfl qw_123 rfl (by decide) (k_par h03) (cel_par G _ h03) rfl 82 rfl ?_
    refine v_callS (c_X4_sum l (w := ((par, tp, sh, tl, hi), M)) (k9 := 7 + 0) (N9 := 12) (a9 := (par 0).2.2.2.1) (k_sto h03) (cel_sto G _ h03) (by decide)) kal_X4_sum rfl dX4_now_82 qw_251 qw_252 (by decide) [] (Nat.le_of_ble_eq_true rfl) rfl rfl 85 rfl ?_
    exact v_iret dX4_now_85 (by simp only [cNow, true_and, Bool.and_self, Bool.and_true, Bool.true_and, Bool.and_false, Bool.false_and, if_true, if_false, Bool.false_eq_true, ↓reduceIte] <;> simp [cFind, kP, kL, sW, sE, pAdd, pCut, pUndo, va_up_i, va_up_s, bx_uu, c1_0, c1_1, c1_2, c1_3]) (by simp only [cNow, true_and, Bool.and_self, Bool.and_true, Bool.true_and, Bool.and_false, Bool.false_and, if_true, if_false, Bool.false_eq_true, ↓reduceIte] <;> simp [cFind, kP, kL, sW, sE, pAdd, pCut, pUndo, va_up_i, va_up_s, bx_uu, c1_0, c1_1, c1_2, c1_3])
  by_cases c1_4 : a = 4
  · refine v_topi 4 c1_4 ?_
    refine v_tabIn dX4_now_1 (by decide) (by decide) (off := 85) (by decide) 86 (by decide) ?_
    refine v_aload_n dX4_now_86 0 rfl 87 rfl ?_
    refine v_get (i := 0) (ci := 4) (T := TX4) (C := RX4) (N := 8) (v := .ref (ga G (1 + 0))) dX4_now_87 inB4 rfl qw_196 rfl (by decide) (by decide) (cel_obj G _) rfl 90 rfl ?_
    refine v_get (i := 4) (ci := 1) (T := TX1) (C := RX1) (N := 7) (v := .ref (ga G (10 + 0))) dX4_now_90 inB1 rfl qw_126 rfl (by decide) (k_par h03) (cel_par G _ h03) rfl 93 rfl ?_
    refine v_callS (c_X4_sum l (w := ((par, tp, sh, tl, hi), M)) (k9 := 10 + 0) (N9 := 12) (a9 := (par 0).2.2.2.2.1) (k_rou h03) (cel_rou G _ h03) (by decide)) kal_X4_sum rfl dX4_now_93 qw_251 qw_252 (by decide) [] (Nat.le_of_ble_eq_true rfl) rfl rfl 96 rfl ?_
    exact v_iret dX4_now_96 (by simp only [cNow, true_and, Bool.and_self, Bool.and_true, Bool.true_and, Bool.and_false, Bool.false_and, if_true, if_false, Bool.false_eq_true, ↓reduceIte] <;> simp [cFind, kP, kL, sW, sE, pAdd, pCut, pUndo, va_up_i, va_up_s, bx_uu, c1_0, c1_1, c1_2, c1_3, c1_4]) (by simp only [cNow, true_and, Bool.and_self, Bool.and_true, Bool.true_and, Bool.and_false, Bool.false_and, if_true, if_false, Bool.false_eq_true, ↓reduceIte] <;> simp [cFind, kP, kL, sW, sE, pAdd, pCut, pUndo, va_up_i, va_up_s, bx_uu, c1_0, c1_1, c1_2, c1_3, c1_4])
  by_cases c1_5 : a = 5
  · refine v_topi 5 c1_5 ?_
    refine v_tabIn dX4_now_1 (by decide) (by decide) (off := 96) (by decide) 97 (by decide) ?_
    refine v_aload_n dX4_now_97 0 rfl 98 rfl ?_
    refine v_get (i := 0) (ci := 4) (T := TX4) (C := RX4) (N := 8) (v := .ref (ga G (1 + 0))) dX4_now_98 inB4 rfl qw_196 rfl (by decide) (by decide) (cel_obj G _) rfl 101 rfl ?_
    refine v_w (w2 := ((va_up par 0 ((par 0).1, (par 0).2.1, (par 0).2.2.1, (par 0).2.2.2.1, (par 0).2.2.2.2.1, (par 0).2.2.2.2.2.1, (par 0).2.2.2.2.2.2), tp, sh, tl, hi), M)) (congrArg (fun z => ((z, tp, sh, tl, hi), M)) (va_up_i par 0).symm) ?_
    refine v_callV (c_X1_woolOnAll l h03 (by omega) ) kal_X1_woolOnAll rfl dX4_now_101 qw_254 qw_255 qw_256 rfl (k_par h03) (f_par h03) (by decide) [] (Nat.le_of_ble_eq_true rfl) rfl rfl 104 rfl ?_
    exact v_iret dX4_now_104 (by simp only [cNow, true_and, Bool.and_self, Bool.and_true, Bool.true_and, Bool.and_false, Bool.false_and, if_true, if_false, Bool.false_eq_true, ↓reduceIte] <;> simp [cFind, kP, kL, sW, sE, pAdd, pCut, pUndo, va_up_i, va_up_s, bx_uu, c1_0, c1_1, c1_2, c1_3, c1_4, c1_5]) (by simp only [cNow, true_and, Bool.and_self, Bool.and_true, Bool.true_and, Bool.and_false, Bool.false_and, if_true, if_false, Bool.false_eq_true, ↓reduceIte] <;> simp [cFind, kP, kL, sW, sE, pAdd, pCut, pUndo, va_up_i, va_up_s, bx_uu, c1_0, c1_1, c1_2, c1_3, c1_4, c1_5])
  refine v_tabOut dX4_now_1 (sw_out (lo := 0) (hi := 5) (by decide) (by decide) (fun k h1 h2 => by rcases (show k = 0 ∨ k = 1 ∨ k = 2 ∨ k = 3 ∨ k = 4 ∨ k = 5 by omega) with rfl | rfl | rfl | rfl | rfl | rfl <;> first | exact c1_0 | exact c1_1 | exact c1_2 | exact c1_3 | exact c1_4 | exact c1_5)) 105 (by decide) ?_
  refine v_aload_n dX4_now_105 0 rfl 106 rfl ?_
  refine v_iconst dX4_now_106 0 rfl 107 rfl ?_
  refine v_callV (c_X4_found l (k := 0) (by decide)) kal_X4_found rfl dX4_now_107 qw_234 qw_236 qw_0 rfl (by decide) (cel_obj G _) (by decide) [] (Nat.le_of_ble_eq_true rfl) rfl rfl 110 rfl ?_
  exact v_iret dX4_now_110 (by simp only [cNow, true_and, Bool.and_self, Bool.and_true, Bool.true_and, Bool.and_false, Bool.false_and, if_true, if_false, Bool.false_eq_true, ↓reduceIte] <;> simp [cFind, kP, kL, sW, sE, pAdd, pCut, pUndo, va_up_i, va_up_s, bx_uu, c1_0, c1_1, c1_2, c1_3, c1_4, c1_5]) (by simp only [cNow, true_and, Bool.and_self, Bool.and_true, Bool.true_and, Bool.and_false, Bool.false_and, if_true, if_false, Bool.false_eq_true, ↓reduceIte] <;> simp [cFind, kP, kL, sW, sE, pAdd, pCut, pUndo, va_up_i, va_up_s, bx_uu, c1_0, c1_1, c1_2, c1_3, c1_4, c1_5])
set_option maxHeartbeats 1000000 in
set_option maxRecDepth 4000 in
theorem c_X4_ewe (l : Launch) {G : Gl} {K : CS} {M : MS} (hsz : (K.1 0).2.1 ≤ 8) (a : Int32) : Ct l G yX4_ewe cX4_ewe 2 (some .int) 3 65 [.ref (ga G (0)), .int a] (K, M) (some (.int (cEwe K a).1)) ((cEwe K a).2, M) := by
  obtain ⟨par, tp, sh, tl, hi⟩ := K
  dsimp only at hsz
  refine Ct.of (own := RX4) (by decide) rfl (Nat.le_of_ble_eq_true rfl) rfl (fun X => ?_)
  refine v_iload_n dX4_ewe_0 1 rfl 1 rfl ?_
  refine v_callS (c_X4_isKind l a) kal_X4_isKind rfl dX4_ewe_1 qw_262 qw_263 (by decide) [] (Nat.le_of_ble_eq_true rfl) rfl rfl 4 rfl ?_
  refine v_ifb_ne dX4_ewe_4 13 (by decide) 7 rfl (fun c1 => ?_) (fun c1 => ?_)
  · skip
    refine v_aload_n dX4_ewe_13 0 rfl 14 rfl ?_
    refine v_get (i := 0) (ci := 4) (T := TX4) (C := RX4) (N := 8) (v := .ref (ga G (1 + 0))) dX4_ewe_14 inB4 rfl qw_196 rfl (by decide) (by decide) (cel_obj G _) rfl 17 rfl ?_
    refine v_w (w2 := ((va_up par 0 ((par 0).1, (par 0).2.1, (par 0).2.2.1, (par 0).2.2.2.1, (par 0).2.2.2.2.1, (par 0).2.2.2.2.2.1, (par 0).2.2.2.2.2.2), tp, sh, tl, hi), M)) (congrArg (fun z => ((z, tp, sh, tl, hi), M)) (va_up_i par 0).symm) ?_
    refine v_callV (c_X1_isFull l h03 (by omega) ) kal_X1_isFull rfl dX4_ewe_17 qw_265 qw_266 qw_267 rfl (k_par h03) (f_par h03) (by decide) [] (Nat.le_of_ble_eq_true rfl) rfl rfl 20 rfl ?_
    refine v_ifb_eq dX4_ewe_20 29 (by decide) 23 rfl (fun c2 => ?_) (fun c2 => ?_)
    · skip
      have dc2 := of_decide_eq_false c2
      refine v_aload_n dX4_ewe_29 0 rfl 30 rfl ?_
      refine v_get (i := 0) (ci := 4) (T := TX4) (C := RX4) (N := 8) (v := .ref (ga G (1 + 0))) dX4_ewe_30 inB4 rfl qw_196 rfl (by decide) (by decide) (cel_obj G _) rfl 33 rfl ?_
      refine v_iload_n dX4_ewe_33 1 rfl 34 rfl ?_
      refine v_iconst dX4_ewe_34 0 rfl 35 rfl ?_
      refine v_callV (c_X1_add l h03 (by omega) a 0) kal_X1_add rfl dX4_ewe_35 qw_269 qw_270 qw_271 rfl (k_par h03) (f_par h03) (by decide) [] (Nat.le_of_ble_eq_true rfl) rfl rfl 38 rfl ?_
      refine v_aload_n dX4_ewe_38 0 rfl 39 rfl ?_
      refine v_get (i := 0) (ci := 4) (T := TX4) (C := RX4) (N := 8) (v := .ref (ga G (1 + 0))) dX4_ewe_39 inB4 rfl qw_196 rfl (by decide) (by decide) (cel_obj G _) rfl 42 rfl ?_
      refine v_get (i := 1) (ci := 1) (T := TX1) (C := RX1) (N := 7) (v := .int (nI ((par 0).2.1 + 1))) dX4_ewe_42 inB1 rfl qw_118 rfl (by decide) (k_par h03) (f_par h03) rfl 45 rfl ?_
      refine v_iconst dX4_ewe_45 1 rfl 46 rfl ?_
      refine n_isub dX4_ewe_46 ((par 0).2.1 + 1) 1 rfl rfl (by omega) 47 rfl ?_
      exact v_iret dX4_ewe_47 (by simp only [cEwe, c1, c2, Bool.and_self, Bool.and_true, Bool.true_and, Bool.and_false, Bool.false_and, if_true, if_false, Bool.false_eq_true, ↓reduceIte] <;> simp [cFind, kP, kL, sW, sE, pAdd, pCut, pUndo, va_up_i, va_up_s, bx_uu, dc2]) (by simp only [cEwe, c1, c2, Bool.and_self, Bool.and_true, Bool.true_and, Bool.and_false, Bool.false_and, if_true, if_false, Bool.false_eq_true, ↓reduceIte] <;> simp [cFind, kP, kL, sW, sE, pAdd, pCut, pUndo, va_up_i, va_up_s, bx_uu, dc2])
    · skip
      have dc2 := of_decide_eq_true c2
      refine v_aload_n dX4_ewe_23 0 rfl 24 rfl ?_
      refine v_iconst dX4_ewe_24 1 rfl 25 rfl ?_
      refine v_callV (c_X4_found l (k := 1) (by decide)) kal_X4_found rfl dX4_ewe_25 qw_234 qw_236 qw_0 rfl (by decide) (cel_obj G _) (by decide) [] (Nat.le_of_ble_eq_true rfl) rfl rfl 28 rfl ?_
      exact v_iret dX4_ewe_28 (by simp only [cEwe, c1, c2, Bool.and_self, Bool.and_true, Bool.true_and, Bool.and_false, Bool.false_and, if_true, if_false, Bool.false_eq_true, ↓reduceIte] <;> simp [cFind, kP, kL, sW, sE, pAdd, pCut, pUndo, va_up_i, va_up_s, bx_uu, dc2]) (by simp only [cEwe, c1, c2, Bool.and_self, Bool.and_true, Bool.true_and, Bool.and_false, Bool.false_and, if_true, if_false, Bool.false_eq_true, ↓reduceIte] <;> simp [cFind, kP, kL, sW, sE, pAdd, pCut, pUndo, va_up_i, va_up_s, bx_uu, dc2])
  · skip
    refine v_aload_n dX4_ewe_7 0 rfl 8 rfl ?_
    refine v_iconst dX4_ewe_8 0 rfl 9 rfl ?_
    refine v_callV (c_X4_found l (k := 0) (by decide)) kal_X4_found rfl dX4_ewe_9 qw_234 qw_236 qw_0 rfl (by decide) (cel_obj G _) (by decide) [] (Nat.le_of_ble_eq_true rfl) rfl rfl 12 rfl ?_
    exact v_iret dX4_ewe_12 (by simp only [cEwe, c1, Bool.and_self, Bool.and_true, Bool.true_and, Bool.and_false, Bool.false_and, if_true, if_false, Bool.false_eq_true, ↓reduceIte] <;> simp [cFind, kP, kL, sW, sE, pAdd, pCut, pUndo, va_up_i, va_up_s, bx_uu, true_and]) (by simp only [cEwe, c1, Bool.and_self, Bool.and_true, Bool.true_and, Bool.and_false, Bool.false_and, if_true, if_false, Bool.false_eq_true, ↓reduceIte] <;> simp [cFind, kP, kL, sW, sE, pAdd, pCut, pUndo, va_up_i, va_up_s, bx_uu, true_and])
set_option maxHeartbeats 1000000 in
set_option maxRecDepth 4000 in
theorem c_X4_of (l : Launch) {G : Gl} {K : CS} {M : MS} (hsz : (K.1 0).2.1 ≤ 8) (a b : Int32) : Ct l G yX4_of cX4_of 4 (some .int) 2 43 [.ref (ga G (0)), .int a, .int b] (K, M) (some (.int (cOf K a b).1)) ((cOf K a b).2, M) := by
  obtain ⟨par, tp, sh, tl, hi⟩ := K
  dsimp only at hsz
  refine Ct.of (own := RX4) (by decide) rfl (Nat.le_of_ble_eq_true rfl) rfl (fun X => ?_)
  refine v_aload_n dX4_of_0 0 rfl 1 rfl ?_
  refine v_iload_n dX4_of_1 1 rfl 2 rfl ?_
  refine v_callV (c_X4_isEwe l (K := (par, tp, sh, tl, hi)) (by first | exact hsz | assumption) a) kal_X4_isEwe rfl dX4_of_2 qw_285 qw_287 qw_1 rfl (by decide) (cel_obj G _) (by decide) [] (Nat.le_of_ble_eq_true rfl) rfl rfl 5 rfl ?_
  refine v_topi (b2 (inE (par 0).2.1 a)) rfl ?_
  refine v_w (w2 := ((par, tp, sh, tl, hi), M)) rfl ?_
  refine v_ifb_ne dX4_of_5 14 (by decide) 8 rfl (fun c1 => ?_) (fun c1 => ?_)
  · skip
    obtain ⟨ja, h2ja, rfl⟩ := inE_ix c1
    have eja : (nI ja).toNatClampNeg = ja := nI_clamp (by omega)
    refine v_aload_n dX4_of_14 0 rfl 15 rfl ?_
    refine v_get (i := 0) (ci := 4) (T := TX4) (C := RX4) (N := 8) (v := .ref (ga G (1 + 0))) dX4_of_15 inB4 rfl qw_196 rfl (by decide) (by decide) (cel_obj G _) rfl 18 rfl ?_
    refine v_get (i := 5) (ci := 1) (T := TX1) (C := RX1) (N := 7) (v := .ref (ga G (13 + 0))) dX4_of_18 inB1 rfl qw_128 rfl (by decide) (k_par h03) (cel_par G _ h03) rfl 21 rfl ?_
    refine v_iload_n dX4_of_21 1 rfl 22 rfl ?_
    refine v_aaldE dX4_of_22 (k_ews h03) (cel_ews G _ h03) ja rfl (by omega) (by decide) rfl 23 rfl ?_
    refine v_astore_n dX4_of_23 3 rfl (by decide) [(3, .ref (ga G (31 + (8 * 0 + ja)))), (0, .ref (ga G (0))), (1, .int (nI ja)), (2, .int b)] rfl 24 rfl ?_
    refine v_iload_n dX4_of_24 3 rfl 25 rfl ?_
    by_cases c2_0 : b = 0
    · refine v_topi 0 c2_0 ?_
      refine v_tabIn dX4_of_25 (by decide) (by decide) (off := 31) (by decide) 56 (by decide) ?_
      refine v_aload_n dX4_of_56 0 rfl 57 rfl ?_
      refine v_get (i := 0) (ci := 0) (T := TX0) (C := RX0) (N := 4) (v := .int ((par 0).2.2.2.2.2.2 ja).1) dX4_of_57 inB0 rfl qw_95 rfl (by decide) (k_ewe (by omega)) (cel_ewe G _ (by omega) (by omega)) rfl 60 rfl ?_
      exact v_iret dX4_of_60 (by simp only [cOf, c1, eja, Bool.and_self, Bool.and_true, Bool.true_and, Bool.and_false, Bool.false_and, if_true, if_false, Bool.false_eq_true, ↓reduceIte] <;> simp [cFind, kP, kL, sW, sE, pAdd, pCut, pUndo, va_up_i, va_up_s, bx_uu, c2_0, eja]) (by simp only [cOf, c1, eja, Bool.and_self, Bool.and_true, Bool.true_and, Bool.and_false, Bool.false_and, if_true, if_false, Bool.false_eq_true, ↓reduceIte] <;> simp [cFind, kP, kL, sW, sE, pAdd, pCut, pUndo, va_up_i, va_up_s, bx_uu, c2_0, eja])
    by_cases c2_1 : b = 1
    · refine v_topi 1 c2_1 ?_
      refine v_tabIn dX4_of_25 (by decide) (by decide) (off := 36) (by decide) 61 (by decide) ?_
      refine v_aload_n dX4_of_61 0 rfl 62 rfl ?_
      refine v_get (i := 1) (ci := 0) (T := TX0) (C := RX0) (N := 4) (v := .int ((par 0).2.2.2.2.2.2 ja).2.1) dX4_of_62 inB0 rfl qw_98 rfl (by decide) (k_ewe (by omega)) (cel_ewe G _ (by omega) (by omega)) rfl 65 rfl ?_
      exact v_iret dX4_of_65 (by simp only [cOf, c1, eja, Bool.and_self, Bool.and_true, Bool.true_and, Bool.and_false, Bool.false_and, if_true, if_false, Bool.false_eq_true, ↓reduceIte] <;> simp [cFind, kP, kL, sW, sE, pAdd, pCut, pUndo, va_up_i, va_up_s, bx_uu, c2_0, c2_1, eja]) (by simp only [cOf, c1, eja, Bool.and_self, Bool.and_true, Bool.true_and, Bool.and_false, Bool.false_and, if_true, if_false, Bool.false_eq_true, ↓reduceIte] <;> simp [cFind, kP, kL, sW, sE, pAdd, pCut, pUndo, va_up_i, va_up_s, bx_uu, c2_0, c2_1, eja])
    by_cases c2_2 : b = 2
    · refine v_topi 2 c2_2 ?_
      refine v_tabIn dX4_of_25 (by decide) (by decide) (off := 41) (by decide) 66 (by decide) ?_
      refine v_aload_n dX4_of_66 0 rfl 67 rfl ?_
      refine v_get (i := 2) (ci := 0) (T := TX0) (C := RX0) (N := 4) (v := .int ((par 0).2.2.2.2.2.2 ja).2.2.1) dX4_of_67 inB0 rfl qw_100 rfl (by decide) (k_ewe (by omega)) (cel_ewe G _ (by omega) (by omega)) rfl 70 rfl ?_
      exact v_iret dX4_of_70 (by simp only [cOf, c1, eja, Bool.and_self, Bool.and_true, Bool.true_and, Bool.and_false, Bool.false_and, if_true, if_false, Bool.false_eq_true, ↓reduceIte] <;> simp [cFind, kP, kL, sW, sE, pAdd, pCut, pUndo, va_up_i, va_up_s, bx_uu, c2_0, c2_1, c2_2, eja]) (by simp only [cOf, c1, eja, Bool.and_self, Bool.and_true, Bool.true_and, Bool.and_false, Bool.false_and, if_true, if_false, Bool.false_eq_true, ↓reduceIte] <;> simp [cFind, kP, kL, sW, sE, pAdd, pCut, pUndo, va_up_i, va_up_s, bx_uu, c2_0, c2_1, c2_2, eja])
    by_cases c2_3 : b = 3
    · refine v_topi 3 c2_3 ?_
      refine v_tabIn dX4_of_25 (by decide) (by decide) (off := 46) (by decide) 71 (by decide) ?_
      refine v_aload_n dX4_of_71 0 rfl 72 rfl ?_
      refine v_get (i := 0) (ci := 0) (T := TX0) (C := RX0) (N := 4) (v := .int ((par 0).2.2.2.2.2.2 ja).1) dX4_of_72 inB0 rfl qw_95 rfl (by decide) (k_ewe (by omega)) (cel_ewe G _ (by omega) (by omega)) rfl 75 rfl ?_
      refine v_callS (c_X4_calms l ((par 0).2.2.2.2.2.2 ja).1) kal_X4_calms rfl dX4_of_75 qw_289 qw_290 (by decide) [] (Nat.le_of_ble_eq_true rfl) rfl rfl 78 rfl ?_
      exact v_iret dX4_of_78 (by simp only [cOf, c1, eja, Bool.and_self, Bool.and_true, Bool.true_and, Bool.and_false, Bool.false_and, if_true, if_false, Bool.false_eq_true, ↓reduceIte] <;> simp [cFind, kP, kL, sW, sE, pAdd, pCut, pUndo, va_up_i, va_up_s, bx_uu, c2_0, c2_1, c2_2, c2_3, eja]) (by simp only [cOf, c1, eja, Bool.and_self, Bool.and_true, Bool.true_and, Bool.and_false, Bool.false_and, if_true, if_false, Bool.false_eq_true, ↓reduceIte] <;> simp [cFind, kP, kL, sW, sE, pAdd, pCut, pUndo, va_up_i, va_up_s, bx_uu, c2_0, c2_1, c2_2, c2_3, eja])
    refine v_tabOut dX4_of_25 (sw_out (lo := 0) (hi := 3) (by decide) (by decide) (fun k h1 h2 => by rcases (show k = 0 ∨ k = 1 ∨ k = 2 ∨ k = 3 by omega) with rfl | rfl | rfl | rfl <;> first | exact c2_0 | exact c2_1 | exact c2_2 | exact c2_3)) 79 (by decide) ?_
    refine v_aload_n dX4_of_79 1 rfl 80 rfl ?_
    refine v_iconst dX4_of_80 0 rfl 81 rfl ?_
    refine v_callV (c_X4_found l (k := 0) (by decide)) kal_X4_found rfl dX4_of_81 qw_234 qw_236 qw_0 rfl (by decide) (cel_obj G _) (by decide) [] (Nat.le_of_ble_eq_true rfl) rfl rfl 84 rfl ?_
    exact v_iret dX4_of_84 (by simp only [cOf, c1, eja, Bool.and_self, Bool.and_true, Bool.true_and, Bool.and_false, Bool.false_and, if_true, if_false, Bool.false_eq_true, ↓reduceIte] <;> simp [cFind, kP, kL, sW, sE, pAdd, pCut, pUndo, va_up_i, va_up_s, bx_uu, c2_0, c2_1, c2_2, c2_3, eja]) (by simp only [cOf, c1, eja, Bool.and_self, Bool.and_true, Bool.true_and, Bool.and_false, Bool.false_and, if_true, if_false, Bool.false_eq_true, ↓reduceIte] <;> simp [cFind, kP, kL, sW, sE, pAdd, pCut, pUndo, va_up_i, va_up_s, bx_uu, c2_0, c2_1, c2_2, c2_3, eja])
  · skip
    refine v_aload_n dX4_of_8 0 rfl 9 rfl ?_
    refine v_iconst dX4_of_9 0 rfl 10 rfl ?_
    refine v_callV (c_X4_found l (k := 0) (by decide)) kal_X4_found rfl dX4_of_10 qw_234 qw_236 qw_0 rfl (by decide) (cel_obj G _) (by decide) [] (Nat.le_of_ble_eq_true rfl) rfl rfl 13 rfl ?_
    exact v_iret dX4_of_13 (by simp only [cOf, c1, Bool.and_self, Bool.and_true, Bool.true_and, Bool.and_false, Bool.false_and, if_true, if_false, Bool.false_eq_true, ↓reduceIte] <;> simp [cFind, kP, kL, sW, sE, pAdd, pCut, pUndo, va_up_i, va_up_s, bx_uu, true_and]) (by simp only [cOf, c1, Bool.and_self, Bool.and_true, Bool.true_and, Bool.and_false, Bool.false_and, if_true, if_false, Bool.false_eq_true, ↓reduceIte] <;> simp [cFind, kP, kL, sW, sE, pAdd, pCut, pUndo, va_up_i, va_up_s, bx_uu, true_and])
set_option maxHeartbeats 1000000 in
set_option maxRecDepth 4000 in
theorem c_X4_fleece (l : Launch) {G : Gl} {K : CS} {M : MS} (hsz : (K.1 0).2.1 ≤ 8) (a b : Int32) : Ct l G yX4_fleece cX4_fleece 3 (some .int) 2 43 [.ref (ga G (0)), .int a, .int b] (K, M) (some (.int (cFleece K a b).1)) ((cFleece K a b).2, M) := by
  obtain ⟨par, tp, sh, tl, hi⟩ := K
  dsimp only at hsz
  refine Ct.of (own := RX4) (by decide) rfl (Nat.le_of_ble_eq_true rfl) rfl (fun X => ?_)
  refine v_aload_n dX4_fleece_0 0 rfl 1 rfl ?_
  refine v_iload_n dX4_fleece_1 1 rfl 2 rfl ?_
  refine v_callV (c_X4_isEwe l (K := (par, tp, sh, tl, hi)) (by first | exact hsz | assumption) a) kal_X4_isEwe rfl dX4_fleece_2 qw_285 qw_287 qw_1 rfl (by decide) (cel_obj G _) (by decide) [] (Nat.le_of_ble_eq_true rfl) rfl rfl 5 rfl ?_
  refine v_topi (b2 (inE (par 0).2.1 a)) rfl ?_
  refine v_w (w2 := ((par, tp, sh, tl, hi), M)) rfl ?_
  refine v_ifb_eq dX4_fleece_5 15 (by decide) 8 rfl (fun c1 => ?_) (fun c1 => ?_)
  · skip
    refine v_aload_n dX4_fleece_15 0 rfl 16 rfl ?_
    refine v_iconst dX4_fleece_16 0 rfl 17 rfl ?_
    refine v_callV (c_X4_found l (k := 0) (by decide)) kal_X4_found rfl dX4_fleece_17 qw_234 qw_236 qw_0 rfl (by decide) (cel_obj G _) (by decide) [] (Nat.le_of_ble_eq_true rfl) rfl rfl 20 rfl ?_
    exact v_iret dX4_fleece_20 (by simp only [cFleece, c1, Bool.and_self, Bool.and_true, Bool.true_and, Bool.and_false, Bool.false_and, if_true, if_false, Bool.false_eq_true, ↓reduceIte] <;> simp [cFind, kP, kL, sW, sE, pAdd, pCut, pUndo, va_up_i, va_up_s, bx_uu, true_and]) (by simp only [cFleece, c1, Bool.and_self, Bool.and_true, Bool.true_and, Bool.and_false, Bool.false_and, if_true, if_false, Bool.false_eq_true, ↓reduceIte] <;> simp [cFind, kP, kL, sW, sE, pAdd, pCut, pUndo, va_up_i, va_up_s, bx_uu, true_and])
  · skip
    obtain ⟨ja, h2ja, rfl⟩ := inE_ix c1
    have eja : (nI ja).toNatClampNeg = ja := nI_clamp (by omega)
    refine v_iload_n dX4_fleece_8 2 rfl 9 rfl ?_
    refine v_callS (c_X4_isMonth l b) kal_X4_isMonth rfl dX4_fleece_9 qw_225 qw_226 (by decide) [] (Nat.le_of_ble_eq_true rfl) rfl rfl 12 rfl ?_
    refine v_ifb_ne dX4_fleece_12 21 (by decide) 15 rfl (fun c2 => ?_) (fun c2 => ?_)
    · skip
      obtain ⟨jb, h1jb, h2jb, rfl⟩ := inb_ix (lo := 0) (hi := 11) c2
      have ejb : (nI jb).toNatClampNeg = jb := nI_clamp (by omega)
      refine v_aload_n dX4_fleece_21 0 rfl 22 rfl ?_
      refine v_get (i := 0) (ci := 4) (T := TX4) (C := RX4) (N := 8) (v := .ref (ga G (1 + 0))) dX4_fleece_22 inB4 rfl qw_196 rfl (by decide) (by decide) (cel_obj G _) rfl 25 rfl ?_
      refine v_get (i := 5) (ci := 1) (T := TX1) (C := RX1) (N := 7) (v := .ref (ga G (13 + 0))) dX4_fleece_25 inB1 rfl qw_128 rfl (by decide) (k_par h03) (cel_par G _ h03) rfl 28 rfl ?_
      refine v_iload_n dX4_fleece_28 1 rfl 29 rfl ?_
      refine v_aaldE dX4_fleece_29 (k_ews h03) (cel_ews G _ h03) ja rfl (by omega) (by decide) rfl 30 rfl ?_
      refine v_get (i := 3) (ci := 0) (T := TX0) (C := RX0) (N := 4) (v := .ref (ga G (56 + (8 * 0 + ja)))) dX4_fleece_30 inB0 rfl qw_103 rfl (by decide) (k_ewe (by omega)) (cel_ewe G _ (by omega) (by omega)) rfl 33 rfl ?_
      refine v_iload_n dX4_fleece_33 2 rfl 34 rfl ?_
      refine v_iald (a := ((par 0).2.2.2.2.2.2 ja).2.2.2) dX4_fleece_34 (k_fle (by omega)) (cel_fle G _ (by omega) (by omega)) jb rfl (by omega) (by decide) 35 rfl ?_
      exact v_iret dX4_fleece_35 (by simp only [cFleece, c1, c2, eja, ejb, Bool.and_self, Bool.and_true, Bool.true_and, Bool.and_false, Bool.false_and, if_true, if_false, Bool.false_eq_true, ↓reduceIte] <;> simp [cFind, kP, kL, sW, sE, pAdd, pCut, pUndo, va_up_i, va_up_s, bx_uu, eja, ejb]) (by simp only [cFleece, c1, c2, eja, ejb, Bool.and_self, Bool.and_true, Bool.true_and, Bool.and_false, Bool.false_and, if_true, if_false, Bool.false_eq_true, ↓reduceIte] <;> simp [cFind, kP, kL, sW, sE, pAdd, pCut, pUndo, va_up_i, va_up_s, bx_uu, eja, ejb])
    · skip
      refine v_aload_n dX4_fleece_15 0 rfl 16 rfl ?_
      refine v_iconst dX4_fleece_16 0 rfl 17 rfl ?_
      refine v_callV (c_X4_found l (k := 0) (by decide)) kal_X4_found rfl dX4_fleece_17 qw_234 qw_236 qw_0 rfl (by decide) (cel_obj G _) (by decide) [] (Nat.le_of_ble_eq_true rfl) rfl rfl 20 rfl ?_
      exact v_iret dX4_fleece_20 (by simp only [cFleece, c1, c2, eja, Bool.and_self, Bool.and_true, Bool.true_and, Bool.and_false, Bool.false_and, if_true, if_false, Bool.false_eq_true, ↓reduceIte] <;> simp [cFind, kP, kL, sW, sE, pAdd, pCut, pUndo, va_up_i, va_up_s, bx_uu, eja]) (by simp only [cFleece, c1, c2, eja, Bool.and_self, Bool.and_true, Bool.true_and, Bool.and_false, Bool.false_and, if_true, if_false, Bool.false_eq_true, ↓reduceIte] <;> simp [cFind, kP, kL, sW, sE, pAdd, pCut, pUndo, va_up_i, va_up_s, bx_uu, eja])
set_option maxHeartbeats 1000000 in
set_option maxRecDepth 4000 in
theorem c_X4_can (l : Launch) {G : Gl} {K : CS} {M : MS} (hsz : (K.1 0).2.1 ≤ 8) (a b c : Int32) : Ct l G yX4_can cX4_can 5 (some .int) 2 43 [.ref (ga G (0)), .int a, .int b, .int c] (K, M) (some (.int (cCan K a b c).1)) ((cCan K a b c).2, M) := by
  obtain ⟨par, tp, sh, tl, hi⟩ := K
  dsimp only at hsz
  refine Ct.of (own := RX4) (by decide) rfl (Nat.le_of_ble_eq_true rfl) rfl (fun X => ?_)
  refine v_aload_n dX4_can_0 0 rfl 1 rfl ?_
  refine v_iload_n dX4_can_1 1 rfl 2 rfl ?_
  refine v_callV (c_X4_isEwe l (K := (par, tp, sh, tl, hi)) (by first | exact hsz | assumption) a) kal_X4_isEwe rfl dX4_can_2 qw_285 qw_287 qw_1 rfl (by decide) (cel_obj G _) (by decide) [] (Nat.le_of_ble_eq_true rfl) rfl rfl 5 rfl ?_
  refine v_topi (b2 (inE (par 0).2.1 a)) rfl ?_
  refine v_w (w2 := ((par, tp, sh, tl, hi), M)) rfl ?_
  refine v_ifb_eq dX4_can_5 15 (by decide) 8 rfl (fun c1 => ?_) (fun c1 => ?_)
  · skip
    refine v_aload_n dX4_can_15 0 rfl 16 rfl ?_
    refine v_iconst dX4_can_16 0 rfl 17 rfl ?_
    refine v_callV (c_X4_found l (k := 0) (by decide)) kal_X4_found rfl dX4_can_17 qw_234 qw_236 qw_0 rfl (by decide) (cel_obj G _) (by decide) [] (Nat.le_of_ble_eq_true rfl) rfl rfl 20 rfl ?_
    exact v_iret dX4_can_20 (by simp only [cCan, c1, Bool.and_self, Bool.and_true, Bool.true_and, Bool.and_false, Bool.false_and, if_true, if_false, Bool.false_eq_true, ↓reduceIte] <;> simp [cFind, kP, kL, sW, sE, pAdd, pCut, pUndo, va_up_i, va_up_s, bx_uu, true_and]) (by simp only [cCan, c1, Bool.and_self, Bool.and_true, Bool.true_and, Bool.and_false, Bool.false_and, if_true, if_false, Bool.false_eq_true, ↓reduceIte] <;> simp [cFind, kP, kL, sW, sE, pAdd, pCut, pUndo, va_up_i, va_up_s, bx_uu, true_and])
  · skip
    obtain ⟨ja, h2ja, rfl⟩ := inE_ix c1
    have eja : (nI ja).toNatClampNeg = ja := nI_clamp (by omega)
    refine v_iload_n dX4_can_8 3 rfl 9 rfl ?_
    refine v_callS (c_X4_isWeather l c) kal_X4_isWeather rfl dX4_can_9 qw_231 qw_232 (by decide) [] (Nat.le_of_ble_eq_true rfl) rfl rfl 12 rfl ?_
    refine v_ifb_ne dX4_can_12 21 (by decide) 15 rfl (fun c2 => ?_) (fun c2 => ?_)
    · skip
      refine v_aload_n dX4_can_21 0 rfl 22 rfl ?_
      refine v_get (i := 0) (ci := 4) (T := TX4) (C := RX4) (N := 8) (v := .ref (ga G (1 + 0))) dX4_can_22 inB4 rfl qw_196 rfl (by decide) (by decide) (cel_obj G _) rfl 25 rfl ?_
      refine v_get (i := 5) (ci := 1) (T := TX1) (C := RX1) (N := 7) (v := .ref (ga G (13 + 0))) dX4_can_25 inB1 rfl qw_128 rfl (by decide) (k_par h03) (cel_par G _ h03) rfl 28 rfl ?_
      refine v_iload_n dX4_can_28 1 rfl 29 rfl ?_
      refine v_aaldE dX4_can_29 (k_ews h03) (cel_ews G _ h03) ja rfl (by omega) (by decide) rfl 30 rfl ?_
      refine v_astore dX4_can_30 (by decide) [(4, .ref (ga G (31 + (8 * 0 + ja)))), (0, .ref (ga G (0))), (1, .int (nI ja)), (2, .int b), (3, .int c)] rfl 32 rfl ?_
      refine v_iload_n dX4_can_32 3 rfl 33 rfl ?_
      by_cases c3_0 : b = 0
      · refine v_topi 0 c3_0 ?_
        refine v_tabIn dX4_can_33 (by decide) (by decide) (off := 27) (by decide) 60 (by decide) ?_
        refine v_aload dX4_can_60 0 rfl 62 rfl ?_
        refine v_get (i := 0) (ci := 0) (T := TX0) (C := RX0) (N := 4) (v := .int ((par 0).2.2.2.2.2.2 ja).1) dX4_can_62 inB0 rfl qw_95 rfl (by decide) (k_ewe (by omega)) (cel_ewe G _ (by omega) (by omega)) rfl 65 rfl ?_
        refine v_iload_n dX4_can_65 4 rfl 66 rfl ?_
        refine v_callS (c_X4_grows l ((par 0).2.2.2.2.2.2 ja).1 c) kal_X4_grows rfl dX4_can_66 qw_300 qw_301 (by decide) [] (Nat.le_of_ble_eq_true rfl) rfl rfl 69 rfl ?_
        exact v_iret dX4_can_69 (by simp only [cCan, c1, c2, eja, Bool.and_self, Bool.and_true, Bool.true_and, Bool.and_false, Bool.false_and, if_true, if_false, Bool.false_eq_true, ↓reduceIte] <;> simp [cFind, kP, kL, sW, sE, pAdd, pCut, pUndo, va_up_i, va_up_s, bx_uu, c3_0, eja]) (by simp only [cCan, c1, c2, eja, Bool.and_self, Bool.and_true, Bool.true_and, Bool.and_false, Bool.false_and, if_true, if_false, Bool.false_eq_true, ↓reduceIte] <;> simp [cFind, kP, kL, sW, sE, pAdd, pCut, pUndo, va_up_i, va_up_s, bx_uu, c3_0, eja])
      by_cases c3_1 : b = 1
      · refine v_topi 1 c3_1 ?_
        refine v_tabIn dX4_can_33 (by decide) (by decide) (off := 37) (by decide) 70 (by decide) ?_
        refine v_aload dX4_can_70 0 rfl 72 rfl ?_
        refine v_get (i := 0) (ci := 0) (T := TX0) (C := RX0) (N := 4) (v := .int ((par 0).2.2.2.2.2.2 ja).1) dX4_can_72 inB0 rfl qw_95 rfl (by decide) (k_ewe (by omega)) (cel_ewe G _ (by omega) (by omega)) rfl 75 rfl ?_
        refine v_aload dX4_can_75 0 rfl 77 rfl ?_
        refine v_get (i := 1) (ci := 0) (T := TX0) (C := RX0) (N := 4) (v := .int ((par 0).2.2.2.2.2.2 ja).2.1) dX4_can_77 inB0 rfl qw_98 rfl (by decide) (k_ewe (by omega)) (cel_ewe G _ (by omega) (by omega)) rfl 80 rfl ?_
        refine v_callS (c_X4_loses l ((par 0).2.2.2.2.2.2 ja).1 ((par 0).2.2.2.2.2.2 ja).2.1) kal_X4_loses rfl dX4_can_80 qw_303 qw_304 (by decide) [] (Nat.le_of_ble_eq_true rfl) rfl rfl 83 rfl ?_
        exact v_iret dX4_can_83 (by simp only [cCan, c1, c2, eja, Bool.and_self, Bool.and_true, Bool.true_and, Bool.and_false, Bool.false_and, if_true, if_false, Bool.false_eq_true, ↓reduceIte] <;> simp [cFind, kP, kL, sW, sE, pAdd, pCut, pUndo, va_up_i, va_up_s, bx_uu, c3_0, c3_1, eja]) (by simp only [cCan, c1, c2, eja, Bool.and_self, Bool.and_true, Bool.true_and, Bool.and_false, Bool.false_and, if_true, if_false, Bool.false_eq_true, ↓reduceIte] <;> simp [cFind, kP, kL, sW, sE, pAdd, pCut, pUndo, va_up_i, va_up_s, bx_uu, c3_0, c3_1, eja])
      by_cases c3_2 : b = 2
      · refine v_topi 2 c3_2 ?_
        refine v_tabIn dX4_can_33 (by decide) (by decide) (off := 51) (by decide) 84 (by decide) ?_
        refine v_aload dX4_can_84 0 rfl 86 rfl ?_
        refine v_get (i := 0) (ci := 0) (T := TX0) (C := RX0) (N := 4) (v := .int ((par 0).2.2.2.2.2.2 ja).1) dX4_can_86 inB0 rfl qw_95 rfl (by decide) (k_ewe (by omega)) (cel_ewe G _ (by omega) (by omega)) rfl 89 rfl ?_
        refine v_iload_n dX4_can_89 4 rfl 90 rfl ?_
        refine v_callS (c_X4_burrs l ((par 0).2.2.2.2.2.2 ja).1 c) kal_X4_burrs rfl dX4_can_90 qw_309 qw_310 (by decide) [] (Nat.le_of_ble_eq_true rfl) rfl rfl 93 rfl ?_
        exact v_iret dX4_can_93 (by simp only [cCan, c1, c2, eja, Bool.and_self, Bool.and_true, Bool.true_and, Bool.and_false, Bool.false_and, if_true, if_false, Bool.false_eq_true, ↓reduceIte] <;> simp [cFind, kP, kL, sW, sE, pAdd, pCut, pUndo, va_up_i, va_up_s, bx_uu, c3_0, c3_1, c3_2, eja]) (by simp only [cCan, c1, c2, eja, Bool.and_self, Bool.and_true, Bool.true_and, Bool.and_false, Bool.false_and, if_true, if_false, Bool.false_eq_true, ↓reduceIte] <;> simp [cFind, kP, kL, sW, sE, pAdd, pCut, pUndo, va_up_i, va_up_s, bx_uu, c3_0, c3_1, c3_2, eja])
      refine v_tabOut dX4_can_33 (sw_out (lo := 0) (hi := 2) (by decide) (by decide) (fun k h1 h2 => by rcases (show k = 0 ∨ k = 1 ∨ k = 2 by omega) with rfl | rfl | rfl <;> first | exact c3_0 | exact c3_1 | exact c3_2)) 94 (by decide) ?_
      refine v_aload_n dX4_can_94 1 rfl 95 rfl ?_
      refine v_iconst dX4_can_95 0 rfl 96 rfl ?_
      refine v_callV (c_X4_found l (k := 0) (by decide)) kal_X4_found rfl dX4_can_96 qw_234 qw_236 qw_0 rfl (by decide) (cel_obj G _) (by decide) [] (Nat.le_of_ble_eq_true rfl) rfl rfl 99 rfl ?_
      exact v_iret dX4_can_99 (by simp only [cCan, c1, c2, eja, Bool.and_self, Bool.and_true, Bool.true_and, Bool.and_false, Bool.false_and, if_true, if_false, Bool.false_eq_true, ↓reduceIte] <;> simp [cFind, kP, kL, sW, sE, pAdd, pCut, pUndo, va_up_i, va_up_s, bx_uu, c3_0, c3_1, c3_2, eja]) (by simp only [cCan, c1, c2, eja, Bool.and_self, Bool.and_true, Bool.true_and, Bool.and_false, Bool.false_and, if_true, if_false, Bool.false_eq_true, ↓reduceIte] <;> simp [cFind, kP, kL, sW, sE, pAdd, pCut, pUndo, va_up_i, va_up_s, bx_uu, c3_0, c3_1, c3_2, eja])
    · skip
      refine v_aload_n dX4_can_15 0 rfl 16 rfl ?_
      refine v_iconst dX4_can_16 0 rfl 17 rfl ?_
      refine v_callV (c_X4_found l (k := 0) (by decide)) kal_X4_found rfl dX4_can_17 qw_234 qw_236 qw_0 rfl (by decide) (cel_obj G _) (by decide) [] (Nat.le_of_ble_eq_true rfl) rfl rfl 20 rfl ?_
      exact v_iret dX4_can_20 (by simp only [cCan, c1, c2, eja, Bool.and_self, Bool.and_true, Bool.true_and, Bool.and_false, Bool.false_and, if_true, if_false, Bool.false_eq_true, ↓reduceIte] <;> simp [cFind, kP, kL, sW, sE, pAdd, pCut, pUndo, va_up_i, va_up_s, bx_uu, eja]) (by simp only [cCan, c1, c2, eja, Bool.and_self, Bool.and_true, Bool.true_and, Bool.and_false, Bool.false_and, if_true, if_false, Bool.false_eq_true, ↓reduceIte] <;> simp [cFind, kP, kL, sW, sE, pAdd, pCut, pUndo, va_up_i, va_up_s, bx_uu, eja])
set_option maxHeartbeats 1000000 in
set_option maxRecDepth 4000 in
theorem c_X4_scare (l : Launch) {G : Gl} {K : CS} {M : MS} (hsz : (K.1 0).2.1 ≤ 8) (a b : Int32) : Ct l G yX4_scare cX4_scare 4 (some .int) 2 43 [.ref (ga G (0)), .int a, .int b] (K, M) (some (.int (cScare K a b).1)) ((cScare K a b).2, M) := by
  obtain ⟨par, tp, sh, tl, hi⟩ := K
  dsimp only at hsz
  refine Ct.of (own := RX4) (by decide) rfl (Nat.le_of_ble_eq_true rfl) rfl (fun X => ?_)
  refine v_aload_n dX4_scare_0 0 rfl 1 rfl ?_
  refine v_iload_n dX4_scare_1 1 rfl 2 rfl ?_
  refine v_callV (c_X4_isEwe l (K := (par, tp, sh, tl, hi)) (by first | exact hsz | assumption) a) kal_X4_isEwe rfl dX4_scare_2 qw_285 qw_287 qw_1 rfl (by decide) (cel_obj G _) (by decide) [] (Nat.le_of_ble_eq_true rfl) rfl rfl 5 rfl ?_
  refine v_topi (b2 (inE (par 0).2.1 a)) rfl ?_
  refine v_w (w2 := ((par, tp, sh, tl, hi), M)) rfl ?_
  refine v_ifb_eq dX4_scare_5 18 (by decide) 8 rfl (fun c1 => ?_) (fun c1 => ?_)
  · skip
    refine v_aload_n dX4_scare_18 0 rfl 19 rfl ?_
    refine v_iconst dX4_scare_19 0 rfl 20 rfl ?_
    refine v_callV (c_X4_found l (k := 0) (by decide)) kal_X4_found rfl dX4_scare_20 qw_234 qw_236 qw_0 rfl (by decide) (cel_obj G _) (by decide) [] (Nat.le_of_ble_eq_true rfl) rfl rfl 23 rfl ?_
    exact v_iret dX4_scare_23 (by simp only [cScare, c1, Bool.and_self, Bool.and_true, Bool.true_and, Bool.and_false, Bool.false_and, if_true, if_false, Bool.false_eq_true, ↓reduceIte] <;> simp [cFind, kP, kL, sW, sE, pAdd, pCut, pUndo, va_up_i, va_up_s, bx_uu, true_and]) (by simp only [cScare, c1, Bool.and_self, Bool.and_true, Bool.true_and, Bool.and_false, Bool.false_and, if_true, if_false, Bool.false_eq_true, ↓reduceIte] <;> simp [cFind, kP, kL, sW, sE, pAdd, pCut, pUndo, va_up_i, va_up_s, bx_uu, true_and])
  · skip
    obtain ⟨ja, h2ja, rfl⟩ := inE_ix c1
    have eja : (nI ja).toNatClampNeg = ja := nI_clamp (by omega)
    refine v_iload_n dX4_scare_8 2 rfl 9 rfl ?_
    refine v_iconst dX4_scare_9 0 rfl 10 rfl ?_
    refine v_bipush dX4_scare_10 99 rfl 12 rfl ?_
    refine v_callS (c_X4_isWithin l b 0 99 (lo := 0) (hi := 99) rfl rfl) kal_X4_isWithin rfl dX4_scare_12 qw_228 qw_229 (by decide) [] (Nat.le_of_ble_eq_true rfl) rfl rfl 15 rfl ?_
    refine v_ifb_ne dX4_scare_15 24 (by decide) 18 rfl (fun c2 => ?_) (fun c2 => ?_)
    · skip
      refine v_aload_n dX4_scare_24 0 rfl 25 rfl ?_
      refine v_get (i := 0) (ci := 4) (T := TX4) (C := RX4) (N := 8) (v := .ref (ga G (1 + 0))) dX4_scare_25 inB4 rfl qw_196 rfl (by decide) (by decide) (cel_obj G _) rfl 28 rfl ?_
      refine v_get (i := 5) (ci := 1) (T := TX1) (C := RX1) (N := 7) (v := .ref (ga G (13 + 0))) dX4_scare_28 inB1 rfl qw_128 rfl (by decide) (k_par h03) (cel_par G _ h03) rfl 31 rfl ?_
      refine v_iload_n dX4_scare_31 1 rfl 32 rfl ?_
      refine v_aaldE dX4_scare_32 (k_ews h03) (cel_ews G _ h03) ja rfl (by omega) (by decide) rfl 33 rfl ?_
      refine v_get (i := 1) (ci := 0) (T := TX0) (C := RX0) (N := 4) (v := .int ((par 0).2.2.2.2.2.2 ja).2.1) dX4_scare_33 inB0 rfl qw_98 rfl (by decide) (k_ewe (by omega)) (cel_ewe G _ (by omega) (by omega)) rfl 36 rfl ?_
      refine v_istore_n dX4_scare_36 3 rfl (by decide) [(3, .int ((par 0).2.2.2.2.2.2 ja).2.1), (0, .ref (ga G (0))), (1, .int (nI ja)), (2, .int b)] rfl 37 rfl ?_
      refine v_aload_n dX4_scare_37 1 rfl 38 rfl ?_
      refine v_get (i := 0) (ci := 4) (T := TX4) (C := RX4) (N := 8) (v := .ref (ga G (1 + 0))) dX4_scare_38 inB4 rfl qw_196 rfl (by decide) (by decide) (cel_obj G _) rfl 41 rfl ?_
      refine v_get (i := 5) (ci := 1) (T := TX1) (C := RX1) (N := 7) (v := .ref (ga G (13 + 0))) dX4_scare_41 inB1 rfl qw_128 rfl (by decide) (k_par h03) (cel_par G _ h03) rfl 44 rfl ?_
      refine v_iload_n dX4_scare_44 2 rfl 45 rfl ?_
      refine v_aaldE dX4_scare_45 (k_ews h03) (cel_ews G _ h03) ja rfl (by omega) (by decide) rfl 46 rfl ?_
      refine v_iload_n dX4_scare_46 3 rfl 47 rfl ?_
      refine v_w (w2 := ((va_up par 0 ((par 0).1, (par 0).2.1, (par 0).2.2.1, (par 0).2.2.2.1, (par 0).2.2.2.2.1, (par 0).2.2.2.2.2.1, (par 0).2.2.2.2.2.2), tp, sh, tl, hi), M)) (congrArg (fun z => ((z, tp, sh, tl, hi), M)) (va_up_i par 0).symm) ?_
      refine v_w (w2 := ((va_up par 0 ((par 0).1, (par 0).2.1, (par 0).2.2.1, (par 0).2.2.2.1, (par 0).2.2.2.2.1, (par 0).2.2.2.2.2.1, va_up (par 0).2.2.2.2.2.2 ja (((par 0).2.2.2.2.2.2 ja).1, ((par 0).2.2.2.2.2.2 ja).2.1, ((par 0).2.2.2.2.2.2 ja).2.2.1, ((par 0).2.2.2.2.2.2 ja).2.2.2)), tp, sh, tl, hi), M)) (congrArg (fun z => ((va_up par 0 ((par 0).1, (par 0).2.1, (par 0).2.2.1, (par 0).2.2.2.1, (par 0).2.2.2.2.1, (par 0).2.2.2.2.2.1, z), tp, sh, tl, hi), M)) (va_up_i (par 0).2.2.2.2.2.2 ja).symm) ?_
      refine v_put (i := 1) (ci := 0) (T := TX0) (C := RX0) (N := 4) (ty := .int) (w2 := ((va_up par 0 ((par 0).1, (par 0).2.1, (par 0).2.2.1, (par 0).2.2.2.1, (par 0).2.2.2.2.1, (par 0).2.2.2.2.2.1, va_up (par 0).2.2.2.2.2.2 ja (((par 0).2.2.2.2.2.2 ja).1, b, ((par 0).2.2.2.2.2.2 ja).2.2.1, ((par 0).2.2.2.2.2.2 ja).2.2.2)), tp, sh, tl, hi), M)) dX4_scare_47 inB0 tyX0 tyX0_ok nmX0 rfl qw_98 rfl rfl rfl rfl rfl (by decide) (k_ewe (by omega)) (f_ewe (by omega) (by omega)) (Nat.le_of_ble_eq_true rfl) (u_E (by omega) (by omega)) 50 rfl ?_
      refine v_iload_n dX4_scare_50 0 rfl 51 rfl ?_
      exact v_iret dX4_scare_51 (by simp only [cScare, c1, c2, eja, Bool.and_self, Bool.and_true, Bool.true_and, Bool.and_false, Bool.false_and, if_true, if_false, Bool.false_eq_true, ↓reduceIte] <;> simp [cFind, kP, kL, sW, sE, pAdd, pCut, pUndo, va_up_i, va_up_s, bx_uu, eja]) (by simp only [cScare, c1, c2, eja, Bool.and_self, Bool.and_true, Bool.true_and, Bool.and_false, Bool.false_and, if_true, if_false, Bool.false_eq_true, ↓reduceIte] <;> simp [cFind, kP, kL, sW, sE, pAdd, pCut, pUndo, va_up_i, va_up_s, bx_uu, eja])
    · skip
      refine v_aload_n dX4_scare_18 0 rfl 19 rfl ?_
      refine v_iconst dX4_scare_19 0 rfl 20 rfl ?_
      refine v_callV (c_X4_found l (k := 0) (by decide)) kal_X4_found rfl dX4_scare_20 qw_234 qw_236 qw_0 rfl (by decide) (cel_obj G _) (by decide) [] (Nat.le_of_ble_eq_true rfl) rfl rfl 23 rfl ?_
      exact v_iret dX4_scare_23 (by simp only [cScare, c1, c2, eja, Bool.and_self, Bool.and_true, Bool.true_and, Bool.and_false, Bool.false_and, if_true, if_false, Bool.false_eq_true, ↓reduceIte] <;> simp [cFind, kP, kL, sW, sE, pAdd, pCut, pUndo, va_up_i, va_up_s, bx_uu, eja]) (by simp only [cScare, c1, c2, eja, Bool.and_self, Bool.and_true, Bool.true_and, Bool.and_false, Bool.false_and, if_true, if_false, Bool.false_eq_true, ↓reduceIte] <;> simp [cFind, kP, kL, sW, sE, pAdd, pCut, pUndo, va_up_i, va_up_s, bx_uu, eja])
set_option maxHeartbeats 1000000 in
set_option maxRecDepth 4000 in
theorem c_X4_turn (l : Launch) {G : Gl} {K : CS} {M : MS} (hsz : (K.1 0).2.1 ≤ 8) (a b : Int32) : Ct l G yX4_turn cX4_turn 4 (some .int) 2 43 [.ref (ga G (0)), .int a, .int b] (K, M) (some (.int (cTurn K a b).1)) ((cTurn K a b).2, M) := by
  obtain ⟨par, tp, sh, tl, hi⟩ := K
  dsimp only at hsz
  refine Ct.of (own := RX4) (by decide) rfl (Nat.le_of_ble_eq_true rfl) rfl (fun X => ?_)
  refine v_aload_n dX4_turn_0 0 rfl 1 rfl ?_
  refine v_iload_n dX4_turn_1 1 rfl 2 rfl ?_
  refine v_callV (c_X4_isEwe l (K := (par, tp, sh, tl, hi)) (by first | exact hsz | assumption) a) kal_X4_isEwe rfl dX4_turn_2 qw_285 qw_287 qw_1 rfl (by decide) (cel_obj G _) (by decide) [] (Nat.le_of_ble_eq_true rfl) rfl rfl 5 rfl ?_
  refine v_topi (b2 (inE (par 0).2.1 a)) rfl ?_
  refine v_w (w2 := ((par, tp, sh, tl, hi), M)) rfl ?_
  refine v_ifb_eq dX4_turn_5 15 (by decide) 8 rfl (fun c1 => ?_) (fun c1 => ?_)
  · skip
    refine v_aload_n dX4_turn_15 0 rfl 16 rfl ?_
    refine v_iconst dX4_turn_16 0 rfl 17 rfl ?_
    refine v_callV (c_X4_found l (k := 0) (by decide)) kal_X4_found rfl dX4_turn_17 qw_234 qw_236 qw_0 rfl (by decide) (cel_obj G _) (by decide) [] (Nat.le_of_ble_eq_true rfl) rfl rfl 20 rfl ?_
    exact v_iret dX4_turn_20 (by simp only [cTurn, c1, Bool.and_self, Bool.and_true, Bool.true_and, Bool.and_false, Bool.false_and, if_true, if_false, Bool.false_eq_true, ↓reduceIte] <;> simp [cFind, kP, kL, sW, sE, pAdd, pCut, pUndo, va_up_i, va_up_s, bx_uu, true_and]) (by simp only [cTurn, c1, Bool.and_self, Bool.and_true, Bool.true_and, Bool.and_false, Bool.false_and, if_true, if_false, Bool.false_eq_true, ↓reduceIte] <;> simp [cFind, kP, kL, sW, sE, pAdd, pCut, pUndo, va_up_i, va_up_s, bx_uu, true_and])
  · skip
    obtain ⟨ja, h2ja, rfl⟩ := inE_ix c1
    have eja : (nI ja).toNatClampNeg = ja := nI_clamp (by omega)
    refine v_iload_n dX4_turn_8 2 rfl 9 rfl ?_
    refine v_callS (c_X4_isKind l b) kal_X4_isKind rfl dX4_turn_9 qw_262 qw_263 (by decide) [] (Nat.le_of_ble_eq_true rfl) rfl rfl 12 rfl ?_
    refine v_ifb_ne dX4_turn_12 21 (by decide) 15 rfl (fun c2 => ?_) (fun c2 => ?_)
    · skip
      refine v_aload_n dX4_turn_21 0 rfl 22 rfl ?_
      refine v_get (i := 0) (ci := 4) (T := TX4) (C := RX4) (N := 8) (v := .ref (ga G (1 + 0))) dX4_turn_22 inB4 rfl qw_196 rfl (by decide) (by decide) (cel_obj G _) rfl 25 rfl ?_
      refine v_get (i := 5) (ci := 1) (T := TX1) (C := RX1) (N := 7) (v := .ref (ga G (13 + 0))) dX4_turn_25 inB1 rfl qw_128 rfl (by decide) (k_par h03) (cel_par G _ h03) rfl 28 rfl ?_
      refine v_iload_n dX4_turn_28 1 rfl 29 rfl ?_
      refine v_aaldE dX4_turn_29 (k_ews h03) (cel_ews G _ h03) ja rfl (by omega) (by decide) rfl 30 rfl ?_
      refine v_get (i := 0) (ci := 0) (T := TX0) (C := RX0) (N := 4) (v := .int ((par 0).2.2.2.2.2.2 ja).1) dX4_turn_30 inB0 rfl qw_95 rfl (by decide) (k_ewe (by omega)) (cel_ewe G _ (by omega) (by omega)) rfl 33 rfl ?_
      refine v_istore_n dX4_turn_33 3 rfl (by decide) [(3, .int ((par 0).2.2.2.2.2.2 ja).1), (0, .ref (ga G (0))), (1, .int (nI ja)), (2, .int b)] rfl 34 rfl ?_
      refine v_aload_n dX4_turn_34 1 rfl 35 rfl ?_
      refine v_get (i := 0) (ci := 4) (T := TX4) (C := RX4) (N := 8) (v := .ref (ga G (1 + 0))) dX4_turn_35 inB4 rfl qw_196 rfl (by decide) (by decide) (cel_obj G _) rfl 38 rfl ?_
      refine v_get (i := 5) (ci := 1) (T := TX1) (C := RX1) (N := 7) (v := .ref (ga G (13 + 0))) dX4_turn_38 inB1 rfl qw_128 rfl (by decide) (k_par h03) (cel_par G _ h03) rfl 41 rfl ?_
      refine v_iload_n dX4_turn_41 2 rfl 42 rfl ?_
      refine v_aaldE dX4_turn_42 (k_ews h03) (cel_ews G _ h03) ja rfl (by omega) (by decide) rfl 43 rfl ?_
      refine v_iload_n dX4_turn_43 3 rfl 44 rfl ?_
      refine v_w (w2 := ((va_up par 0 ((par 0).1, (par 0).2.1, (par 0).2.2.1, (par 0).2.2.2.1, (par 0).2.2.2.2.1, (par 0).2.2.2.2.2.1, (par 0).2.2.2.2.2.2), tp, sh, tl, hi), M)) (congrArg (fun z => ((z, tp, sh, tl, hi), M)) (va_up_i par 0).symm) ?_
      refine v_w (w2 := ((va_up par 0 ((par 0).1, (par 0).2.1, (par 0).2.2.1, (par 0).2.2.2.1, (par 0).2.2.2.2.1, (par 0).2.2.2.2.2.1, va_up (par 0).2.2.2.2.2.2 ja (((par 0).2.2.2.2.2.2 ja).1, ((par 0).2.2.2.2.2.2 ja).2.1, ((par 0).2.2.2.2.2.2 ja).2.2.1, ((par 0).2.2.2.2.2.2 ja).2.2.2)), tp, sh, tl, hi), M)) (congrArg (fun z => ((va_up par 0 ((par 0).1, (par 0).2.1, (par 0).2.2.1, (par 0).2.2.2.1, (par 0).2.2.2.2.1, (par 0).2.2.2.2.2.1, z), tp, sh, tl, hi), M)) (va_up_i (par 0).2.2.2.2.2.2 ja).symm) ?_
      refine v_put (i := 0) (ci := 0) (T := TX0) (C := RX0) (N := 4) (ty := .int) (w2 := ((va_up par 0 ((par 0).1, (par 0).2.1, (par 0).2.2.1, (par 0).2.2.2.1, (par 0).2.2.2.2.1, (par 0).2.2.2.2.2.1, va_up (par 0).2.2.2.2.2.2 ja (b, ((par 0).2.2.2.2.2.2 ja).2.1, ((par 0).2.2.2.2.2.2 ja).2.2.1, ((par 0).2.2.2.2.2.2 ja).2.2.2)), tp, sh, tl, hi), M)) dX4_turn_44 inB0 tyX0 tyX0_ok nmX0 rfl qw_95 rfl rfl rfl rfl rfl (by decide) (k_ewe (by omega)) (f_ewe (by omega) (by omega)) (Nat.le_of_ble_eq_true rfl) (u_E (by omega) (by omega)) 47 rfl ?_
      refine v_iload_n dX4_turn_47 0 rfl 48 rfl ?_
      exact v_iret dX4_turn_48 (by simp only [cTurn, c1, c2, eja, Bool.and_self, Bool.and_true, Bool.true_and, Bool.and_false, Bool.false_and, if_true, if_false, Bool.false_eq_true, ↓reduceIte] <;> simp [cFind, kP, kL, sW, sE, pAdd, pCut, pUndo, va_up_i, va_up_s, bx_uu, eja]) (by simp only [cTurn, c1, c2, eja, Bool.and_self, Bool.and_true, Bool.true_and, Bool.and_false, Bool.false_and, if_true, if_false, Bool.false_eq_true, ↓reduceIte] <;> simp [cFind, kP, kL, sW, sE, pAdd, pCut, pUndo, va_up_i, va_up_s, bx_uu, eja])
    · skip
      refine v_aload_n dX4_turn_15 0 rfl 16 rfl ?_
      refine v_iconst dX4_turn_16 0 rfl 17 rfl ?_
      refine v_callV (c_X4_found l (k := 0) (by decide)) kal_X4_found rfl dX4_turn_17 qw_234 qw_236 qw_0 rfl (by decide) (cel_obj G _) (by decide) [] (Nat.le_of_ble_eq_true rfl) rfl rfl 20 rfl ?_
      exact v_iret dX4_turn_20 (by simp only [cTurn, c1, c2, eja, Bool.and_self, Bool.and_true, Bool.true_and, Bool.and_false, Bool.false_and, if_true, if_false, Bool.false_eq_true, ↓reduceIte] <;> simp [cFind, kP, kL, sW, sE, pAdd, pCut, pUndo, va_up_i, va_up_s, bx_uu, eja]) (by simp only [cTurn, c1, c2, eja, Bool.and_self, Bool.and_true, Bool.true_and, Bool.and_false, Bool.false_and, if_true, if_false, Bool.false_eq_true, ↓reduceIte] <;> simp [cFind, kP, kL, sW, sE, pAdd, pCut, pUndo, va_up_i, va_up_s, bx_uu, eja])
set_option maxHeartbeats 1000000 in
set_option maxRecDepth 4000 in
theorem lp_ofkind (l : Launch) {G : Gl} {X : VX} {w : WS} (k0 a : Int32) : ∀ (n i : Nat) (k : Int32), i + n = 6 → V l X 1 20 cX4_isOfKind 4 RX4 (some .boolean) G (some (.int (b2 (ofK n k a)))) w w 4 [(3, .int (nI i)), (2, .int k), (0, .int k0), (1, .int a)] [] := by
  intro n
  induction n with
  | zero =>
    intro i k hin
    obtain rfl : 6 = i := by omega
    refine v_iload_n dX4_isOfKind_4 0 rfl 5 rfl ?_
    refine v_bipush dX4_isOfKind_5 6 rfl 7 rfl ?_
    refine n_icmp_ge dX4_isOfKind_7 6 6 rfl rfl (by omega) (by omega) 32 (by decide) 10 rfl (fun c1 => ?_) (fun c1 => absurd c1 (by omega))
    refine v_iconst dX4_isOfKind_32 0 rfl 33 rfl ?_
    exact v_zret dX4_isOfKind_33 rfl (by simp [ofK, b2, true_and]) (by rfl)
  | succ n ih =>
    intro i k hin
    refine v_iload_n dX4_isOfKind_4 0 rfl 5 rfl ?_
    refine v_bipush dX4_isOfKind_5 6 rfl 7 rfl ?_
    refine n_icmp_ge dX4_isOfKind_7 i 6 rfl rfl (by omega) (by omega) 32 (by decide) 10 rfl (fun c1 => absurd c1 (by omega)) (fun c1 => ?_)
    refine v_iload_n dX4_isOfKind_10 1 rfl 11 rfl ?_
    refine v_if_lt dX4_isOfKind_11 32 (by decide) 14 rfl (fun c2 => ?_) (fun c2 => ?_)
    · skip
      refine v_iconst dX4_isOfKind_32 0 rfl 33 rfl ?_
      exact v_zret dX4_isOfKind_33 rfl (by first | (simp [ofK, b2, c2, Int32.not_le.mpr c2]; done) | (simp only [ofK]; rw [if_neg c2, if_pos c3]; rfl)) (by rfl)
    · skip
      refine v_iload_n dX4_isOfKind_14 1 rfl 15 rfl ?_
      refine v_iload_n dX4_isOfKind_15 3 rfl 16 rfl ?_
      refine v_icmp_ne dX4_isOfKind_16 21 (by decide) 19 rfl (fun c3 => ?_) (fun c3 => ?_)
      · skip
        refine v_iload_n dX4_isOfKind_21 1 rfl 22 rfl ?_
        refine v_callS (c_X4_kindAbove l k) kal_X4_kindAbove rfl dX4_isOfKind_22 qw_327 qw_328 (by decide) [] (Nat.le_of_ble_eq_true rfl) rfl rfl 25 rfl ?_
        refine v_istore_n dX4_isOfKind_25 2 rfl (by decide) [(2, .int (kAbove k)), (3, .int (nI i)), (0, .int k0), (1, .int a)] rfl 26 rfl ?_
        refine v_iinc dX4_isOfKind_26 1 rfl (nI (i + 1)) (nI_1 _) (by decide) [(3, .int (nI (i + 1))), (2, .int (kAbove k)), (0, .int k0), (1, .int a)] rfl 29 rfl ?_
        refine v_goto dX4_isOfKind_29 4 (by decide) ?_
        have e9 : (b2 (ofK (n + 1) k a)) = (b2 (ofK n (kAbove k) a)) := by simp [ofK, b2, c2, Int32.not_lt.mp c2, c3, Ne.symm c3]
        rw [e9]
        exact ih (i + 1) (kAbove k) (by omega)
      · skip
        refine v_iconst dX4_isOfKind_19 1 rfl 20 rfl ?_
        exact v_zret dX4_isOfKind_20 rfl (by first | (simp [ofK, b2, c2, Int32.not_lt.mp c2, c3]; done) | (simp only [ofK]; rw [if_neg c2, if_pos c3]; rfl)) (by rfl)
set_option maxHeartbeats 1000000 in
set_option maxRecDepth 4000 in
theorem c_X4_isOfKind (l : Launch) {G : Gl} {w : WS} (k a : Int32) : Ct l G yX4_isOfKind cX4_isOfKind 4 (some .boolean) 1 20 [.int k, .int a] w (some (.int (b2 (ofK 6 k a)))) w := by
  refine Ct.of (own := RX4) (by decide) rfl (Nat.le_of_ble_eq_true rfl) rfl (fun X => ?_)
  refine v_iload_n dX4_isOfKind_0 0 rfl 1 rfl ?_
  refine v_istore_n dX4_isOfKind_1 2 rfl (by decide) [(2, .int k), (0, .int k), (1, .int a)] rfl 2 rfl ?_
  refine v_iconst dX4_isOfKind_2 0 rfl 3 rfl ?_
  refine v_istore_n dX4_isOfKind_3 3 rfl (by decide) [(3, .int 0), (2, .int k), (0, .int k), (1, .int a)] rfl 4 rfl ?_
  exact lp_ofkind l k a 6 0 k (by omega)
set_option maxHeartbeats 1000000 in
set_option maxRecDepth 4000 in
theorem c_X4_as (l : Launch) {G : Gl} {K : CS} {M : MS} (hsz : (K.1 0).2.1 ≤ 8) (a b : Int32) : Ct l G yX4_as cX4_as 4 (some .int) 2 43 [.ref (ga G (0)), .int a, .int b] (K, M) (some (.int (cAs K a b).1)) ((cAs K a b).2, M) := by
  obtain ⟨par, tp, sh, tl, hi⟩ := K
  dsimp only at hsz
  refine Ct.of (own := RX4) (by decide) rfl (Nat.le_of_ble_eq_true rfl) rfl (fun X => ?_)
  refine v_aload_n dX4_as_0 0 rfl 1 rfl ?_
  refine v_iload_n dX4_as_1 1 rfl 2 rfl ?_
  refine v_callV (c_X4_isEwe l (K := (par, tp, sh, tl, hi)) (by first | exact hsz | assumption) a) kal_X4_isEwe rfl dX4_as_2 qw_285 qw_287 qw_1 rfl (by decide) (cel_obj G _) (by decide) [] (Nat.le_of_ble_eq_true rfl) rfl rfl 5 rfl ?_
  refine v_topi (b2 (inE (par 0).2.1 a)) rfl ?_
  refine v_w (w2 := ((par, tp, sh, tl, hi), M)) rfl ?_
  refine v_ifb_eq dX4_as_5 15 (by decide) 8 rfl (fun c1 => ?_) (fun c1 => ?_)
  · skip
    refine v_aload_n dX4_as_15 0 rfl 16 rfl ?_
    refine v_iconst dX4_as_16 0 rfl 17 rfl ?_
    refine v_callV (c_X4_found l (k := 0) (by decide)) kal_X4_found rfl dX4_as_17 qw_234 qw_236 qw_0 rfl (by decide) (cel_obj G _) (by decide) [] (Nat.le_of_ble_eq_true rfl) rfl rfl 20 rfl ?_
    exact v_iret dX4_as_20 (by simp only [cAs, c1, Bool.and_self, Bool.and_true, Bool.true_and, Bool.and_false, Bool.false_and, if_true, if_false, Bool.false_eq_true, ↓reduceIte] <;> simp [cFind, kP, kL, sW, sE, pAdd, pCut, pUndo, va_up_i, va_up_s, bx_uu, true_and]) (by simp only [cAs, c1, Bool.and_self, Bool.and_true, Bool.true_and, Bool.and_false, Bool.false_and, if_true, if_false, Bool.false_eq_true, ↓reduceIte] <;> simp [cFind, kP, kL, sW, sE, pAdd, pCut, pUndo, va_up_i, va_up_s, bx_uu, true_and])
  · skip
    obtain ⟨ja, h2ja, rfl⟩ := inE_ix c1
    have eja : (nI ja).toNatClampNeg = ja := nI_clamp (by omega)
    refine v_iload_n dX4_as_8 2 rfl 9 rfl ?_
    refine v_callS (c_X4_isKind l b) kal_X4_isKind rfl dX4_as_9 qw_262 qw_263 (by decide) [] (Nat.le_of_ble_eq_true rfl) rfl rfl 12 rfl ?_
    refine v_ifb_ne dX4_as_12 21 (by decide) 15 rfl (fun c2 => ?_) (fun c2 => ?_)
    · skip
      refine v_aload_n dX4_as_21 0 rfl 22 rfl ?_
      refine v_get (i := 0) (ci := 4) (T := TX4) (C := RX4) (N := 8) (v := .ref (ga G (1 + 0))) dX4_as_22 inB4 rfl qw_196 rfl (by decide) (by decide) (cel_obj G _) rfl 25 rfl ?_
      refine v_get (i := 5) (ci := 1) (T := TX1) (C := RX1) (N := 7) (v := .ref (ga G (13 + 0))) dX4_as_25 inB1 rfl qw_128 rfl (by decide) (k_par h03) (cel_par G _ h03) rfl 28 rfl ?_
      refine v_iload_n dX4_as_28 1 rfl 29 rfl ?_
      refine v_aaldE dX4_as_29 (k_ews h03) (cel_ews G _ h03) ja rfl (by omega) (by decide) rfl 30 rfl ?_
      refine v_astore_n dX4_as_30 3 rfl (by decide) [(3, .ref (ga G (31 + (8 * 0 + ja)))), (0, .ref (ga G (0))), (1, .int (nI ja)), (2, .int b)] rfl 31 rfl ?_
      refine v_aload_n dX4_as_31 0 rfl 32 rfl ?_
      refine v_get (i := 0) (ci := 0) (T := TX0) (C := RX0) (N := 4) (v := .int ((par 0).2.2.2.2.2.2 ja).1) dX4_as_32 inB0 rfl qw_95 rfl (by decide) (k_ewe (by omega)) (cel_ewe G _ (by omega) (by omega)) rfl 35 rfl ?_
      refine v_iload_n dX4_as_35 3 rfl 36 rfl ?_
      refine v_callS (c_X4_isOfKind l ((par 0).2.2.2.2.2.2 ja).1 b) kal_X4_isOfKind rfl dX4_as_36 qw_324 qw_325 (by decide) [] (Nat.le_of_ble_eq_true rfl) rfl rfl 39 rfl ?_
      refine v_ifb_eq dX4_as_39 49 (by decide) 42 rfl (fun c3 => ?_) (fun c3 => ?_)
      · skip
        refine v_aload_n dX4_as_49 1 rfl 50 rfl ?_
        refine v_iconst dX4_as_50 2 rfl 51 rfl ?_
        refine v_callV (c_X4_found l (k := 2) (by decide)) kal_X4_found rfl dX4_as_51 qw_234 qw_236 qw_0 rfl (by decide) (cel_obj G _) (by decide) [] (Nat.le_of_ble_eq_true rfl) rfl rfl 54 rfl ?_
        exact v_iret dX4_as_54 (by simp only [cAs, c1, c2, c3, eja, Bool.and_self, Bool.and_true, Bool.true_and, Bool.and_false, Bool.false_and, if_true, if_false, Bool.false_eq_true, ↓reduceIte] <;> simp [cFind, kP, kL, sW, sE, pAdd, pCut, pUndo, va_up_i, va_up_s, bx_uu, eja]) (by simp only [cAs, c1, c2, c3, eja, Bool.and_self, Bool.and_true, Bool.true_and, Bool.and_false, Bool.false_and, if_true, if_false, Bool.false_eq_true, ↓reduceIte] <;> simp [cFind, kP, kL, sW, sE, pAdd, pCut, pUndo, va_up_i, va_up_s, bx_uu, eja])
      · skip
        refine v_aload_n dX4_as_42 0 rfl 43 rfl ?_
        refine v_get (i := 1) (ci := 0) (T := TX0) (C := RX0) (N := 4) (v := .int ((par 0).2.2.2.2.2.2 ja).2.1) dX4_as_43 inB0 rfl qw_98 rfl (by decide) (k_ewe (by omega)) (cel_ewe G _ (by omega) (by omega)) rfl 46 rfl ?_
        refine v_goto dX4_as_46 54 (by decide) ?_
        exact v_iret dX4_as_54 (by simp only [cAs, c1, c2, c3, eja, Bool.and_self, Bool.and_true, Bool.true_and, Bool.and_false, Bool.false_and, if_true, if_false, Bool.false_eq_true, ↓reduceIte] <;> simp [cFind, kP, kL, sW, sE, pAdd, pCut, pUndo, va_up_i, va_up_s, bx_uu, eja]) (by simp only [cAs, c1, c2, c3, eja, Bool.and_self, Bool.and_true, Bool.true_and, Bool.and_false, Bool.false_and, if_true, if_false, Bool.false_eq_true, ↓reduceIte] <;> simp [cFind, kP, kL, sW, sE, pAdd, pCut, pUndo, va_up_i, va_up_s, bx_uu, eja])
    · skip
      refine v_aload_n dX4_as_15 0 rfl 16 rfl ?_
      refine v_iconst dX4_as_16 0 rfl 17 rfl ?_
      refine v_callV (c_X4_found l (k := 0) (by decide)) kal_X4_found rfl dX4_as_17 qw_234 qw_236 qw_0 rfl (by decide) (cel_obj G _) (by decide) [] (Nat.le_of_ble_eq_true rfl) rfl rfl 20 rfl ?_
      exact v_iret dX4_as_20 (by simp only [cAs, c1, c2, eja, Bool.and_self, Bool.and_true, Bool.true_and, Bool.and_false, Bool.false_and, if_true, if_false, Bool.false_eq_true, ↓reduceIte] <;> simp [cFind, kP, kL, sW, sE, pAdd, pCut, pUndo, va_up_i, va_up_s, bx_uu, eja]) (by simp only [cAs, c1, c2, eja, Bool.and_self, Bool.and_true, Bool.true_and, Bool.and_false, Bool.false_and, if_true, if_false, Bool.false_eq_true, ↓reduceIte] <;> simp [cFind, kP, kL, sW, sE, pAdd, pCut, pUndo, va_up_i, va_up_s, bx_uu, eja])
set_option maxHeartbeats 1000000 in
set_option maxRecDepth 4000 in
theorem c_X4_cut (l : Launch) {G : Gl} {K : CS} {M : MS} (a b c : Int32) : Ct l G yX4_cut cX4_cut 4 (some .int) 2 42 [.ref (ga G (0)), .int a, .int b, .int c] (K, M) (some (.int (cCut K a b c).1)) ((cCut K a b c).2, M) := by
  obtain ⟨par, tp, sh, tl, hi⟩ := K
  refine Ct.of (own := RX4) (by decide) rfl (Nat.le_of_ble_eq_true rfl) rfl (fun X => ?_)
  refine v_iload_n dX4_cut_0 1 rfl 1 rfl ?_
  refine v_callS (c_X4_isCoat l a) kal_X4_isCoat rfl dX4_cut_1 qw_334 qw_335 (by decide) [] (Nat.le_of_ble_eq_true rfl) rfl rfl 4 rfl ?_
  refine v_ifb_eq dX4_cut_4 25 (by decide) 7 rfl (fun c1 => ?_) (fun c1 => ?_)
  · skip
    refine v_aload_n dX4_cut_25 0 rfl 26 rfl ?_
    refine v_iconst dX4_cut_26 0 rfl 27 rfl ?_
    refine v_callV (c_X4_found l (k := 0) (by decide)) kal_X4_found rfl dX4_cut_27 qw_234 qw_236 qw_0 rfl (by decide) (cel_obj G _) (by decide) [] (Nat.le_of_ble_eq_true rfl) rfl rfl 30 rfl ?_
    exact v_iret dX4_cut_30 (by simp only [cCut, c1, Bool.and_self, Bool.and_true, Bool.true_and, Bool.and_false, Bool.false_and, if_true, if_false, Bool.false_eq_true, ↓reduceIte] <;> simp [cFind, kP, kL, sW, sE, pAdd, pCut, pUndo, va_up_i, va_up_s, bx_uu, true_and]) (by simp only [cCut, c1, Bool.and_self, Bool.and_true, Bool.true_and, Bool.and_false, Bool.false_and, if_true, if_false, Bool.false_eq_true, ↓reduceIte] <;> simp [cFind, kP, kL, sW, sE, pAdd, pCut, pUndo, va_up_i, va_up_s, bx_uu, true_and])
  · skip
    obtain ⟨ja, h1ja, h2ja, rfl⟩ := inb_ix (lo := 0) (hi := 3) c1
    have eja : (nI ja).toNatClampNeg = ja := nI_clamp (by omega)
    refine v_iload_n dX4_cut_7 2 rfl 8 rfl ?_
    refine v_callS (c_X4_isMonth l b) kal_X4_isMonth rfl dX4_cut_8 qw_225 qw_226 (by decide) [] (Nat.le_of_ble_eq_true rfl) rfl rfl 11 rfl ?_
    refine v_ifb_eq dX4_cut_11 25 (by decide) 14 rfl (fun c2 => ?_) (fun c2 => ?_)
    · skip
      refine v_aload_n dX4_cut_25 0 rfl 26 rfl ?_
      refine v_iconst dX4_cut_26 0 rfl 27 rfl ?_
      refine v_callV (c_X4_found l (k := 0) (by decide)) kal_X4_found rfl dX4_cut_27 qw_234 qw_236 qw_0 rfl (by decide) (cel_obj G _) (by decide) [] (Nat.le_of_ble_eq_true rfl) rfl rfl 30 rfl ?_
      exact v_iret dX4_cut_30 (by simp only [cCut, c1, c2, eja, Bool.and_self, Bool.and_true, Bool.true_and, Bool.and_false, Bool.false_and, if_true, if_false, Bool.false_eq_true, ↓reduceIte] <;> simp [cFind, kP, kL, sW, sE, pAdd, pCut, pUndo, va_up_i, va_up_s, bx_uu, eja]) (by simp only [cCut, c1, c2, eja, Bool.and_self, Bool.and_true, Bool.true_and, Bool.and_false, Bool.false_and, if_true, if_false, Bool.false_eq_true, ↓reduceIte] <;> simp [cFind, kP, kL, sW, sE, pAdd, pCut, pUndo, va_up_i, va_up_s, bx_uu, eja])
    · skip
      obtain ⟨jb, h1jb, h2jb, rfl⟩ := inb_ix (lo := 0) (hi := 11) c2
      have ejb : (nI jb).toNatClampNeg = jb := nI_clamp (by omega)
      refine v_iload_n dX4_cut_14 3 rfl 15 rfl ?_
      refine v_iconst dX4_cut_15 1 rfl 16 rfl ?_
      refine v_sipush dX4_cut_16 999 rfl 19 rfl ?_
      refine v_callS (c_X4_isWithin l c 1 999 (lo := 1) (hi := 999) rfl rfl) kal_X4_isWithin rfl dX4_cut_19 qw_228 qw_229 (by decide) [] (Nat.le_of_ble_eq_true rfl) rfl rfl 22 rfl ?_
      refine v_ifb_ne dX4_cut_22 31 (by decide) 25 rfl (fun c3 => ?_) (fun c3 => ?_)
      · skip
        refine v_iload_n dX4_cut_31 3 rfl 32 rfl ?_
        refine v_aload_n dX4_cut_32 0 rfl 33 rfl ?_
        refine v_get (i := 0) (ci := 4) (T := TX4) (C := RX4) (N := 8) (v := .ref (ga G (1 + 0))) dX4_cut_33 inB4 rfl qw_196 rfl (by decide) (by decide) (cel_obj G _) rfl 36 rfl ?_
        refine v_get (i := 3) (ci := 1) (T := TX1) (C := RX1) (N := 7) (v := .ref (ga G (7 + 0))) dX4_cut_36 inB1 rfl qw_123 rfl (by decide) (k_par h03) (cel_par G _ h03) rfl 39 rfl ?_
        refine v_iload_n dX4_cut_39 2 rfl 40 rfl ?_
        refine v_iald (a := (par 0).2.2.2.1) dX4_cut_40 (k_sto h03) (cel_sto G _ h03) jb rfl (by omega) (by decide) 41 rfl ?_
        refine v_icmp_le dX4_cut_41 50 (by decide) 44 rfl (fun c4 => ?_) (fun c4 => ?_)
        · skip
          refine v_iload_n dX4_cut_50 3 rfl 51 rfl ?_
          refine v_aload_n dX4_cut_51 0 rfl 52 rfl ?_
          refine v_get (i := 0) (ci := 4) (T := TX4) (C := RX4) (N := 8) (v := .ref (ga G (1 + 0))) dX4_cut_52 inB4 rfl qw_196 rfl (by decide) (by decide) (cel_obj G _) rfl 55 rfl ?_
          refine v_iload_n dX4_cut_55 1 rfl 56 rfl ?_
          refine v_iload_n dX4_cut_56 2 rfl 57 rfl ?_
          refine v_w (w2 := ((va_up par 0 ((par 0).1, (par 0).2.1, (par 0).2.2.1, (par 0).2.2.2.1, (par 0).2.2.2.2.1, (par 0).2.2.2.2.2.1, (par 0).2.2.2.2.2.2), tp, sh, tl, hi), M)) (congrArg (fun z => ((z, tp, sh, tl, hi), M)) (va_up_i par 0).symm) ?_
          refine v_callV (c_X1_roomInCoat l h03 (c := ja) (m := jb) (by omega) (by omega) ) kal_X1_roomInCoat rfl dX4_cut_57 qw_337 qw_338 qw_339 rfl (k_par h03) (f_par h03) (by decide) [.int c] (Nat.le_of_ble_eq_true rfl) rfl rfl 60 rfl ?_
          refine v_icmp_le dX4_cut_60 69 (by decide) 63 rfl (fun c5 => ?_) (fun c5 => ?_)
          · skip
            refine v_aload_n dX4_cut_69 0 rfl 70 rfl ?_
            refine v_get (i := 0) (ci := 4) (T := TX4) (C := RX4) (N := 8) (v := .ref (ga G (1 + 0))) dX4_cut_70 inB4 rfl qw_196 rfl (by decide) (by decide) (cel_obj G _) rfl 73 rfl ?_
            refine v_iload_n dX4_cut_73 1 rfl 74 rfl ?_
            refine v_iload_n dX4_cut_74 2 rfl 75 rfl ?_
            refine v_iload_n dX4_cut_75 3 rfl 76 rfl ?_
            refine v_callV (c_X1_cutFor l h03 (c := ja) (m := jb) (by omega) (by omega) c) kal_X1_cutFor rfl dX4_cut_76 qw_341 qw_342 qw_343 rfl (k_par h03) (f_par h03) (by decide) [] (Nat.le_of_ble_eq_true rfl) rfl rfl 79 rfl ?_
            refine v_aload_n dX4_cut_79 0 rfl 80 rfl ?_
            refine v_get (i := 0) (ci := 4) (T := TX4) (C := RX4) (N := 8) (v := .ref (ga G (1 + 0))) dX4_cut_80 inB4 rfl qw_196 rfl (by decide) (by decide) (cel_obj G _) rfl 83 rfl ?_
            refine v_get (i := 6) (ci := 1) (T := TX1) (C := RX1) (N := 7) (v := .ref (ga G (16 + 0))) dX4_cut_83 inB1 rfl qw_130 rfl (by decide) (k_par h03) (f_par h03) rfl 86 rfl ?_
            refine v_iload_n dX4_cut_86 1 rfl 87 rfl ?_
            refine v_aaldG dX4_cut_87 (k_cos h03) (cel_cos G _ h03) ja rfl (by omega) (by decide) rfl 88 rfl ?_
            refine v_iload_n dX4_cut_88 2 rfl 89 rfl ?_
            refine v_iald (a := (va_up (par 0).2.2.2.2.2.1 ja (upd ((par 0).2.2.2.2.2.1 ja) jb ((par 0).2.2.2.2.2.1 ja jb + c))) ja) dX4_cut_89 (k_coa h03 (by omega)) (f_coa h03 (by omega)) jb rfl (by omega) (by decide) 90 rfl ?_
            exact v_iret dX4_cut_90 (by simp only [cCut, c1, c2, c3, eja, ejb, Bool.and_self, Bool.and_true, Bool.true_and, Bool.and_false, Bool.false_and, if_true, if_false, Bool.false_eq_true, ↓reduceIte] <;> simp [cFind, kP, kL, sW, sE, pAdd, pCut, pUndo, va_up_i, va_up_s, bx_uu, c4, Int32.not_lt.mpr c4, c5, Int32.not_lt.mpr c5, eja, ejb]) (by simp only [cCut, c1, c2, c3, eja, ejb, Bool.and_self, Bool.and_true, Bool.true_and, Bool.and_false, Bool.false_and, if_true, if_false, Bool.false_eq_true, ↓reduceIte] <;> simp [cFind, kP, kL, sW, sE, pAdd, pCut, pUndo, va_up_i, va_up_s, bx_uu, c4, Int32.not_lt.mpr c4, c5, Int32.not_lt.mpr c5, eja, ejb])
          · skip
            refine v_aload_n dX4_cut_63 0 rfl 64 rfl ?_
            refine v_iconst dX4_cut_64 1 rfl 65 rfl ?_
            refine v_callV (c_X4_found l (k := 1) (by decide)) kal_X4_found rfl dX4_cut_65 qw_234 qw_236 qw_0 rfl (by decide) (cel_obj G _) (by decide) [] (Nat.le_of_ble_eq_true rfl) rfl rfl 68 rfl ?_
            exact v_iret dX4_cut_68 (by simp only [cCut, c1, c2, c3, eja, ejb, Bool.and_self, Bool.and_true, Bool.true_and, Bool.and_false, Bool.false_and, if_true, if_false, Bool.false_eq_true, ↓reduceIte] <;> simp [cFind, kP, kL, sW, sE, pAdd, pCut, pUndo, va_up_i, va_up_s, bx_uu, c4, Int32.not_lt.mpr c4, c5, Int32.not_le.mp c5, eja, ejb]) (by simp only [cCut, c1, c2, c3, eja, ejb, Bool.and_self, Bool.and_true, Bool.true_and, Bool.and_false, Bool.false_and, if_true, if_false, Bool.false_eq_true, ↓reduceIte] <;> simp [cFind, kP, kL, sW, sE, pAdd, pCut, pUndo, va_up_i, va_up_s, bx_uu, c4, Int32.not_lt.mpr c4, c5, Int32.not_le.mp c5, eja, ejb])
        · skip
          refine v_aload_n dX4_cut_44 0 rfl 45 rfl ?_
          refine v_iconst dX4_cut_45 4 rfl 46 rfl ?_
          refine v_callV (c_X4_found l (k := 4) (by decide)) kal_X4_found rfl dX4_cut_46 qw_234 qw_236 qw_0 rfl (by decide) (cel_obj G _) (by decide) [] (Nat.le_of_ble_eq_true rfl) rfl rfl 49 rfl ?_
          exact v_iret dX4_cut_49 (by simp only [cCut, c1, c2, c3, eja, ejb, Bool.and_self, Bool.and_true, Bool.true_and, Bool.and_false, Bool.false_and, if_true, if_false, Bool.false_eq_true, ↓reduceIte] <;> simp [cFind, kP, kL, sW, sE, pAdd, pCut, pUndo, va_up_i, va_up_s, bx_uu, c4, Int32.not_le.mp c4, eja, ejb]) (by simp only [cCut, c1, c2, c3, eja, ejb, Bool.and_self, Bool.and_true, Bool.true_and, Bool.and_false, Bool.false_and, if_true, if_false, Bool.false_eq_true, ↓reduceIte] <;> simp [cFind, kP, kL, sW, sE, pAdd, pCut, pUndo, va_up_i, va_up_s, bx_uu, c4, Int32.not_le.mp c4, eja, ejb])
      · skip
        refine v_aload_n dX4_cut_25 0 rfl 26 rfl ?_
        refine v_iconst dX4_cut_26 0 rfl 27 rfl ?_
        refine v_callV (c_X4_found l (k := 0) (by decide)) kal_X4_found rfl dX4_cut_27 qw_234 qw_236 qw_0 rfl (by decide) (cel_obj G _) (by decide) [] (Nat.le_of_ble_eq_true rfl) rfl rfl 30 rfl ?_
        exact v_iret dX4_cut_30 (by simp only [cCut, c1, c2, c3, eja, ejb, Bool.and_self, Bool.and_true, Bool.true_and, Bool.and_false, Bool.false_and, if_true, if_false, Bool.false_eq_true, ↓reduceIte] <;> simp [cFind, kP, kL, sW, sE, pAdd, pCut, pUndo, va_up_i, va_up_s, bx_uu, eja, ejb]) (by simp only [cCut, c1, c2, c3, eja, ejb, Bool.and_self, Bool.and_true, Bool.true_and, Bool.and_false, Bool.false_and, if_true, if_false, Bool.false_eq_true, ↓reduceIte] <;> simp [cFind, kP, kL, sW, sE, pAdd, pCut, pUndo, va_up_i, va_up_s, bx_uu, eja, ejb])
set_option maxHeartbeats 1000000 in
set_option maxRecDepth 4000 in
theorem c_X4_coatOf (l : Launch) {G : Gl} {K : CS} {M : MS} (a b : Int32) : Ct l G yX4_coatOf cX4_coatOf 3 (some .int) 2 45 [.ref (ga G (0)), .int a, .int b] (K, M) (some (.int (cCoatOf K a b).1)) ((cCoatOf K a b).2, M) := by
  obtain ⟨par, tp, sh, tl, hi⟩ := K
  refine Ct.of (own := RX4) (by decide) rfl (Nat.le_of_ble_eq_true rfl) rfl (fun X => ?_)
  refine v_iload_n dX4_coatOf_0 1 rfl 1 rfl ?_
  refine v_callS (c_X4_isCoat l a) kal_X4_isCoat rfl dX4_coatOf_1 qw_334 qw_335 (by decide) [] (Nat.le_of_ble_eq_true rfl) rfl rfl 4 rfl ?_
  refine v_ifb_ne dX4_coatOf_4 13 (by decide) 7 rfl (fun c1 => ?_) (fun c1 => ?_)
  · skip
    obtain ⟨ja, h1ja, h2ja, rfl⟩ := inb_ix (lo := 0) (hi := 3) c1
    have eja : (nI ja).toNatClampNeg = ja := nI_clamp (by omega)
    refine v_iload_n dX4_coatOf_13 2 rfl 14 rfl ?_
    by_cases c2_0 : b = 0
    · refine v_topi 0 c2_0 ?_
      refine v_tabIn dX4_coatOf_14 (by decide) (by decide) (off := 30) (by decide) 44 (by decide) ?_
      refine v_aload_n dX4_coatOf_44 0 rfl 45 rfl ?_
      refine v_get (i := 0) (ci := 4) (T := TX4) (C := RX4) (N := 8) (v := .ref (ga G (1 + 0))) dX4_coatOf_45 inB4 rfl qw_196 rfl (by decide) (by decide) (cel_obj G _) rfl 48 rfl ?_
      refine v_iload_n dX4_coatOf_48 1 rfl 49 rfl ?_
      refine v_w (w2 := ((va_up par 0 ((par 0).1, (par 0).2.1, (par 0).2.2.1, (par 0).2.2.2.1, (par 0).2.2.2.2.1, (par 0).2.2.2.2.2.1, (par 0).2.2.2.2.2.2), tp, sh, tl, hi), M)) (congrArg (fun z => ((z, tp, sh, tl, hi), M)) (va_up_i par 0).symm) ?_
      refine v_callV (c_X1_warmthOfCoat l h03 (c := ja) (by omega) ) kal_X1_warmthOfCoat rfl dX4_coatOf_49 qw_349 qw_350 qw_351 rfl (k_par h03) (f_par h03) (by decide) [] (Nat.le_of_ble_eq_true rfl) rfl rfl 52 rfl ?_
      exact v_iret dX4_coatOf_52 (by simp only [cCoatOf, c1, eja, Bool.and_self, Bool.and_true, Bool.true_and, Bool.and_false, Bool.false_and, if_true, if_false, Bool.false_eq_true, ↓reduceIte] <;> simp [cFind, kP, kL, sW, sE, pAdd, pCut, pUndo, va_up_i, va_up_s, bx_uu, c2_0, eja]) (by simp only [cCoatOf, c1, eja, Bool.and_self, Bool.and_true, Bool.true_and, Bool.and_false, Bool.false_and, if_true, if_false, Bool.false_eq_true, ↓reduceIte] <;> simp [cFind, kP, kL, sW, sE, pAdd, pCut, pUndo, va_up_i, va_up_s, bx_uu, c2_0, eja])
    by_cases c2_1 : b = 1
    · refine v_topi 1 c2_1 ?_
      refine v_tabIn dX4_coatOf_14 (by decide) (by decide) (off := 39) (by decide) 53 (by decide) ?_
      refine v_aload_n dX4_coatOf_53 0 rfl 54 rfl ?_
      refine v_get (i := 0) (ci := 4) (T := TX4) (C := RX4) (N := 8) (v := .ref (ga G (1 + 0))) dX4_coatOf_54 inB4 rfl qw_196 rfl (by decide) (by decide) (cel_obj G _) rfl 57 rfl ?_
      refine v_iload_n dX4_coatOf_57 1 rfl 58 rfl ?_
      refine v_w (w2 := ((va_up par 0 ((par 0).1, (par 0).2.1, (par 0).2.2.1, (par 0).2.2.2.1, (par 0).2.2.2.2.1, (par 0).2.2.2.2.2.1, (par 0).2.2.2.2.2.2), tp, sh, tl, hi), M)) (congrArg (fun z => ((z, tp, sh, tl, hi), M)) (va_up_i par 0).symm) ?_
      refine v_callV (c_X1_harshnessOfCoat l h03 (c := ja) (by omega) ) kal_X1_harshnessOfCoat rfl dX4_coatOf_58 qw_357 qw_358 qw_359 rfl (k_par h03) (f_par h03) (by decide) [] (Nat.le_of_ble_eq_true rfl) rfl rfl 61 rfl ?_
      exact v_iret dX4_coatOf_61 (by simp only [cCoatOf, c1, eja, Bool.and_self, Bool.and_true, Bool.true_and, Bool.and_false, Bool.false_and, if_true, if_false, Bool.false_eq_true, ↓reduceIte] <;> simp [cFind, kP, kL, sW, sE, pAdd, pCut, pUndo, va_up_i, va_up_s, bx_uu, c2_0, c2_1, eja]) (by simp only [cCoatOf, c1, eja, Bool.and_self, Bool.and_true, Bool.true_and, Bool.and_false, Bool.false_and, if_true, if_false, Bool.false_eq_true, ↓reduceIte] <;> simp [cFind, kP, kL, sW, sE, pAdd, pCut, pUndo, va_up_i, va_up_s, bx_uu, c2_0, c2_1, eja])
    by_cases c2_2 : b = 2
    · refine v_topi 2 c2_2 ?_
      refine v_tabIn dX4_coatOf_14 (by decide) (by decide) (off := 48) (by decide) 62 (by decide) ?_
      refine v_aload_n dX4_coatOf_62 0 rfl 63 rfl ?_
      refine v_get (i := 0) (ci := 4) (T := TX4) (C := RX4) (N := 8) (v := .ref (ga G (1 + 0))) dX4_coatOf_63 inB4 rfl qw_196 rfl (by decide) (by decide) (cel_obj G _) rfl 66 rfl ?_
      refine v_get (i := 6) (ci := 1) (T := TX1) (C := RX1) (N := 7) (v := .ref (ga G (16 + 0))) dX4_coatOf_66 inB1 rfl qw_130 rfl (by decide) (k_par h03) (cel_par G _ h03) rfl 69 rfl ?_
      refine v_iload_n dX4_coatOf_69 1 rfl 70 rfl ?_
      refine v_aaldG dX4_coatOf_70 (k_cos h03) (cel_cos G _ h03) ja rfl (by omega) (by decide) rfl 71 rfl ?_
      refine v_callS (c_X4_sum l (w := ((par, tp, sh, tl, hi), M)) (k9 := 19 + (4 * 0 + ja)) (N9 := 12) (a9 := (par 0).2.2.2.2.2.1 ja) (k_coa h03 (by omega)) (cel_coa G _ h03 (by omega)) (by decide)) kal_X4_sum rfl dX4_coatOf_71 qw_251 qw_252 (by decide) [] (Nat.le_of_ble_eq_true rfl) rfl rfl 74 rfl ?_
      exact v_iret dX4_coatOf_74 (by simp only [cCoatOf, c1, eja, Bool.and_self, Bool.and_true, Bool.true_and, Bool.and_false, Bool.false_and, if_true, if_false, Bool.false_eq_true, ↓reduceIte] <;> simp [cFind, kP, kL, sW, sE, pAdd, pCut, pUndo, va_up_i, va_up_s, bx_uu, c2_0, c2_1, c2_2, eja]) (by simp only [cCoatOf, c1, eja, Bool.and_self, Bool.and_true, Bool.true_and, Bool.and_false, Bool.false_and, if_true, if_false, Bool.false_eq_true, ↓reduceIte] <;> simp [cFind, kP, kL, sW, sE, pAdd, pCut, pUndo, va_up_i, va_up_s, bx_uu, c2_0, c2_1, c2_2, eja])
    by_cases c2_3 : b = 3
    · refine v_topi 3 c2_3 ?_
      refine v_tabIn dX4_coatOf_14 (by decide) (by decide) (off := 61) (by decide) 75 (by decide) ?_
      refine v_aload_n dX4_coatOf_75 0 rfl 76 rfl ?_
      refine v_get (i := 0) (ci := 4) (T := TX4) (C := RX4) (N := 8) (v := .ref (ga G (1 + 0))) dX4_coatOf_76 inB4 rfl qw_196 rfl (by decide) (by decide) (cel_obj G _) rfl 79 rfl ?_
      refine v_iload_n dX4_coatOf_79 1 rfl 80 rfl ?_
      refine v_w (w2 := ((va_up par 0 ((par 0).1, (par 0).2.1, (par 0).2.2.1, (par 0).2.2.2.1, (par 0).2.2.2.2.1, (par 0).2.2.2.2.2.1, (par 0).2.2.2.2.2.2), tp, sh, tl, hi), M)) (congrArg (fun z => ((z, tp, sh, tl, hi), M)) (va_up_i par 0).symm) ?_
      refine v_callV (c_X1_monthsInCoat l h03 (c := ja) (by omega) ) kal_X1_monthsInCoat rfl dX4_coatOf_80 qw_361 qw_362 qw_363 rfl (k_par h03) (f_par h03) (by decide) [] (Nat.le_of_ble_eq_true rfl) rfl rfl 83 rfl ?_
      exact v_iret dX4_coatOf_83 (by simp only [cCoatOf, c1, eja, Bool.and_self, Bool.and_true, Bool.true_and, Bool.and_false, Bool.false_and, if_true, if_false, Bool.false_eq_true, ↓reduceIte] <;> simp [cFind, kP, kL, sW, sE, pAdd, pCut, pUndo, va_up_i, va_up_s, bx_uu, c2_0, c2_1, c2_2, c2_3, eja]) (by simp only [cCoatOf, c1, eja, Bool.and_self, Bool.and_true, Bool.true_and, Bool.and_false, Bool.false_and, if_true, if_false, Bool.false_eq_true, ↓reduceIte] <;> simp [cFind, kP, kL, sW, sE, pAdd, pCut, pUndo, va_up_i, va_up_s, bx_uu, c2_0, c2_1, c2_2, c2_3, eja])
    refine v_tabOut dX4_coatOf_14 (sw_out (lo := 0) (hi := 3) (by decide) (by decide) (fun k h1 h2 => by rcases (show k = 0 ∨ k = 1 ∨ k = 2 ∨ k = 3 by omega) with rfl | rfl | rfl | rfl <;> first | exact c2_0 | exact c2_1 | exact c2_2 | exact c2_3)) 84 (by decide) ?_
    refine v_aload_n dX4_coatOf_84 0 rfl 85 rfl ?_
    refine v_iconst dX4_coatOf_85 0 rfl 86 rfl ?_
    refine v_callV (c_X4_found l (k := 0) (by decide)) kal_X4_found rfl dX4_coatOf_86 qw_234 qw_236 qw_0 rfl (by decide) (cel_obj G _) (by decide) [] (Nat.le_of_ble_eq_true rfl) rfl rfl 89 rfl ?_
    exact v_iret dX4_coatOf_89 (by simp only [cCoatOf, c1, eja, Bool.and_self, Bool.and_true, Bool.true_and, Bool.and_false, Bool.false_and, if_true, if_false, Bool.false_eq_true, ↓reduceIte] <;> simp [cFind, kP, kL, sW, sE, pAdd, pCut, pUndo, va_up_i, va_up_s, bx_uu, c2_0, c2_1, c2_2, c2_3, eja]) (by simp only [cCoatOf, c1, eja, Bool.and_self, Bool.and_true, Bool.true_and, Bool.and_false, Bool.false_and, if_true, if_false, Bool.false_eq_true, ↓reduceIte] <;> simp [cFind, kP, kL, sW, sE, pAdd, pCut, pUndo, va_up_i, va_up_s, bx_uu, c2_0, c2_1, c2_2, c2_3, eja])
  · skip
    refine v_aload_n dX4_coatOf_7 0 rfl 8 rfl ?_
    refine v_iconst dX4_coatOf_8 0 rfl 9 rfl ?_
    refine v_callV (c_X4_found l (k := 0) (by decide)) kal_X4_found rfl dX4_coatOf_9 qw_234 qw_236 qw_0 rfl (by decide) (cel_obj G _) (by decide) [] (Nat.le_of_ble_eq_true rfl) rfl rfl 12 rfl ?_
    exact v_iret dX4_coatOf_12 (by simp only [cCoatOf, c1, Bool.and_self, Bool.and_true, Bool.true_and, Bool.and_false, Bool.false_and, if_true, if_false, Bool.false_eq_true, ↓reduceIte] <;> simp [cFind, kP, kL, sW, sE, pAdd, pCut, pUndo, va_up_i, va_up_s, bx_uu, true_and]) (by simp only [cCoatOf, c1, Bool.and_self, Bool.and_true, Bool.true_and, Bool.and_false, Bool.false_and, if_true, if_false, Bool.false_eq_true, ↓reduceIte] <;> simp [cFind, kP, kL, sW, sE, pAdd, pCut, pUndo, va_up_i, va_up_s, bx_uu, true_and])
set_option maxHeartbeats 1000000 in
set_option maxRecDepth 4000 in
theorem c_X4_unpick (l : Launch) {G : Gl} {K : CS} {M : MS} (a : Int32) : Ct l G yX4_unpick cX4_unpick 3 (some .int) 2 43 [.ref (ga G (0)), .int a] (K, M) (some (.int (cUnpick K a).1)) ((cUnpick K a).2, M) := by
  obtain ⟨par, tp, sh, tl, hi⟩ := K
  refine Ct.of (own := RX4) (by decide) rfl (Nat.le_of_ble_eq_true rfl) rfl (fun X => ?_)
  refine v_iload_n dX4_unpick_0 1 rfl 1 rfl ?_
  refine v_callS (c_X4_isCoat l a) kal_X4_isCoat rfl dX4_unpick_1 qw_334 qw_335 (by decide) [] (Nat.le_of_ble_eq_true rfl) rfl rfl 4 rfl ?_
  refine v_ifb_ne dX4_unpick_4 13 (by decide) 7 rfl (fun c1 => ?_) (fun c1 => ?_)
  · skip
    obtain ⟨ja, h1ja, h2ja, rfl⟩ := inb_ix (lo := 0) (hi := 3) c1
    have eja : (nI ja).toNatClampNeg = ja := nI_clamp (by omega)
    refine v_aload_n dX4_unpick_13 0 rfl 14 rfl ?_
    refine v_get (i := 0) (ci := 4) (T := TX4) (C := RX4) (N := 8) (v := .ref (ga G (1 + 0))) dX4_unpick_14 inB4 rfl qw_196 rfl (by decide) (by decide) (cel_obj G _) rfl 17 rfl ?_
    refine v_get (i := 6) (ci := 1) (T := TX1) (C := RX1) (N := 7) (v := .ref (ga G (16 + 0))) dX4_unpick_17 inB1 rfl qw_130 rfl (by decide) (k_par h03) (cel_par G _ h03) rfl 20 rfl ?_
    refine v_iload_n dX4_unpick_20 1 rfl 21 rfl ?_
    refine v_aaldG dX4_unpick_21 (k_cos h03) (cel_cos G _ h03) ja rfl (by omega) (by decide) rfl 22 rfl ?_
    refine v_callS (c_X4_sum l (w := ((par, tp, sh, tl, hi), M)) (k9 := 19 + (4 * 0 + ja)) (N9 := 12) (a9 := (par 0).2.2.2.2.2.1 ja) (k_coa h03 (by omega)) (cel_coa G _ h03 (by omega)) (by decide)) kal_X4_sum rfl dX4_unpick_22 qw_251 qw_252 (by decide) [] (Nat.le_of_ble_eq_true rfl) rfl rfl 25 rfl ?_
    refine v_istore_n dX4_unpick_25 2 rfl (by decide) [(2, .int (sm ((par 0).2.2.2.2.2.1 ja) 12)), (0, .ref (ga G (0))), (1, .int (nI ja))] rfl 26 rfl ?_
    refine v_aload_n dX4_unpick_26 1 rfl 27 rfl ?_
    refine v_get (i := 0) (ci := 4) (T := TX4) (C := RX4) (N := 8) (v := .ref (ga G (1 + 0))) dX4_unpick_27 inB4 rfl qw_196 rfl (by decide) (by decide) (cel_obj G _) rfl 30 rfl ?_
    refine v_iload_n dX4_unpick_30 2 rfl 31 rfl ?_
    refine v_w (w2 := ((va_up par 0 ((par 0).1, (par 0).2.1, (par 0).2.2.1, (par 0).2.2.2.1, (par 0).2.2.2.2.1, (par 0).2.2.2.2.2.1, (par 0).2.2.2.2.2.2), tp, sh, tl, hi), M)) (congrArg (fun z => ((z, tp, sh, tl, hi), M)) (va_up_i par 0).symm) ?_
    refine v_callV (c_X1_undoCoat l h03 (c := ja) (by omega)) kal_X1_undoCoat rfl dX4_unpick_31 qw_369 qw_370 qw_371 rfl (k_par h03) (f_par h03) (by decide) [] (Nat.le_of_ble_eq_true rfl) rfl rfl 34 rfl ?_
    refine v_iload_n dX4_unpick_34 0 rfl 35 rfl ?_
    exact v_iret dX4_unpick_35 (by simp only [cUnpick, c1, eja, Bool.and_self, Bool.and_true, Bool.true_and, Bool.and_false, Bool.false_and, if_true, if_false, Bool.false_eq_true, ↓reduceIte] <;> simp [cFind, kP, kL, sW, sE, pAdd, pCut, pUndo, va_up_i, va_up_s, bx_uu, eja]) (by simp only [cUnpick, c1, eja, Bool.and_self, Bool.and_true, Bool.true_and, Bool.and_false, Bool.false_and, if_true, if_false, Bool.false_eq_true, ↓reduceIte] <;> simp [cFind, kP, kL, sW, sE, pAdd, pCut, pUndo, va_up_i, va_up_s, bx_uu, eja])
  · skip
    refine v_aload_n dX4_unpick_7 0 rfl 8 rfl ?_
    refine v_iconst dX4_unpick_8 0 rfl 9 rfl ?_
    refine v_callV (c_X4_found l (k := 0) (by decide)) kal_X4_found rfl dX4_unpick_9 qw_234 qw_236 qw_0 rfl (by decide) (cel_obj G _) (by decide) [] (Nat.le_of_ble_eq_true rfl) rfl rfl 12 rfl ?_
    exact v_iret dX4_unpick_12 (by simp only [cUnpick, c1, Bool.and_self, Bool.and_true, Bool.true_and, Bool.and_false, Bool.false_and, if_true, if_false, Bool.false_eq_true, ↓reduceIte] <;> simp [cFind, kP, kL, sW, sE, pAdd, pCut, pUndo, va_up_i, va_up_s, bx_uu, true_and]) (by simp only [cUnpick, c1, Bool.and_self, Bool.and_true, Bool.true_and, Bool.and_false, Bool.false_and, if_true, if_false, Bool.false_eq_true, ↓reduceIte] <;> simp [cFind, kP, kL, sW, sE, pAdd, pCut, pUndo, va_up_i, va_up_s, bx_uu, true_and])
set_option maxHeartbeats 1000000 in
set_option maxRecDepth 4000 in
theorem c_X4_months (l : Launch) {G : Gl} {K : CS} {M : MS} (hsz : (K.1 0).2.1 ≤ 8) (hmo : (K.1 0).1 < 2 ^ 20) (a : Int32) : Ct l G yX4_months cX4_months 2 (some .int) 5 111 [.ref (ga G (0)), .int a] (K, M) (some (.int (cMonths K a).1)) ((cMonths K a).2, M) := by
  obtain ⟨par, tp, sh, tl, hi⟩ := K
  dsimp only at hsz hmo
  refine Ct.of (own := RX4) (by decide) rfl (Nat.le_of_ble_eq_true rfl) rfl (fun X => ?_)
  refine v_iload_n dX4_months_0 1 rfl 1 rfl ?_
  refine v_iconst dX4_months_1 1 rfl 2 rfl ?_
  refine v_bipush dX4_months_2 60 rfl 4 rfl ?_
  refine v_callS (c_X4_isWithin l a 1 60 (lo := 1) (hi := 60) rfl rfl) kal_X4_isWithin rfl dX4_months_4 qw_228 qw_229 (by decide) [] (Nat.le_of_ble_eq_true rfl) rfl rfl 7 rfl ?_
  refine v_ifb_ne dX4_months_7 16 (by decide) 10 rfl (fun c1 => ?_) (fun c1 => ?_)
  · skip
    obtain ⟨ja, h1ja, h2ja, rfl⟩ := inb_ix (lo := 1) (hi := 60) c1
    have eja : (nI ja).toNatClampNeg = ja := nI_clamp (by omega)
    refine v_aload_n dX4_months_16 0 rfl 17 rfl ?_
    refine v_get (i := 0) (ci := 4) (T := TX4) (C := RX4) (N := 8) (v := .ref (ga G (1 + 0))) dX4_months_17 inB4 rfl qw_196 rfl (by decide) (by decide) (cel_obj G _) rfl 20 rfl ?_
    refine v_get (i := 0) (ci := 1) (T := TX1) (C := RX1) (N := 7) (v := .int (nI (par 0).1)) dX4_months_20 inB1 rfl qw_116 rfl (by decide) (k_par h03) (cel_par G _ h03) rfl 23 rfl ?_
    refine v_iload_n dX4_months_23 1 rfl 24 rfl ?_
    refine n_iadd dX4_months_24 (par 0).1 ja rfl rfl 25 rfl ?_
    refine v_sipush dX4_months_25 9999 rfl 28 rfl ?_
    refine n_icmp_le dX4_months_28 ((par 0).1 + ja) 9999 rfl rfl (by omega) (by omega) 37 (by decide) 31 rfl (fun c2 => ?_) (fun c2 => ?_)
    · skip
      refine v_aload_n dX4_months_37 0 rfl 38 rfl ?_
      refine v_get (i := 0) (ci := 4) (T := TX4) (C := RX4) (N := 8) (v := .ref (ga G (1 + 0))) dX4_months_38 inB4 rfl qw_196 rfl (by decide) (by decide) (cel_obj G _) rfl 41 rfl ?_
      refine v_iload_n dX4_months_41 1 rfl 42 rfl ?_
      refine v_w (w2 := ((va_up par 0 ((par 0).1, (par 0).2.1, (par 0).2.2.1, (par 0).2.2.2.1, (par 0).2.2.2.2.1, (par 0).2.2.2.2.2.1, (par 0).2.2.2.2.2.2), tp, sh, tl, hi), M)) (congrArg (fun z => ((z, tp, sh, tl, hi), M)) (va_up_i par 0).symm) ?_
      refine v_callV (c_X1_pass l h03 (by omega) (by omega)) kal_X1_pass rfl dX4_months_42 qw_380 qw_381 qw_382 rfl (k_par h03) (f_par h03) (by decide) [] (Nat.le_of_ble_eq_true rfl) rfl rfl 45 rfl ?_
      refine v_aload_n dX4_months_45 0 rfl 46 rfl ?_
      refine v_get (i := 0) (ci := 4) (T := TX4) (C := RX4) (N := 8) (v := .ref (ga G (1 + 0))) dX4_months_46 inB4 rfl qw_196 rfl (by decide) (by decide) (cel_obj G _) rfl 49 rfl ?_
      refine v_get (i := 3) (ci := 1) (T := TX1) (C := RX1) (N := 7) (v := .ref (ga G (7 + 0))) dX4_months_49 inB1 rfl qw_123 rfl (by decide) (k_par h03) (f_par h03) rfl 52 rfl ?_
      refine v_callS (c_X4_sum l (w := ((va_up par 0 ((pPass ((par 0).1, (par 0).2.1, (par 0).2.2.1, (par 0).2.2.2.1, (par 0).2.2.2.2.1, (par 0).2.2.2.2.2.1, (par 0).2.2.2.2.2.2) ja).1, (pPass ((par 0).1, (par 0).2.1, (par 0).2.2.1, (par 0).2.2.2.1, (par 0).2.2.2.2.1, (par 0).2.2.2.2.2.1, (par 0).2.2.2.2.2.2) ja).2.1, (pPass ((par 0).1, (par 0).2.1, (par 0).2.2.1, (par 0).2.2.2.1, (par 0).2.2.2.2.1, (par 0).2.2.2.2.2.1, (par 0).2.2.2.2.2.2) ja).2.2.1, (pPass ((par 0).1, (par 0).2.1, (par 0).2.2.1, (par 0).2.2.2.1, (par 0).2.2.2.2.1, (par 0).2.2.2.2.2.1, (par 0).2.2.2.2.2.2) ja).2.2.2.1, (pPass ((par 0).1, (par 0).2.1, (par 0).2.2.1, (par 0).2.2.2.1, (par 0).2.2.2.2.1, (par 0).2.2.2.2.2.1, (par 0).2.2.2.2.2.2) ja).2.2.2.2.1, (pPass ((par 0).1, (par 0).2.1, (par 0).2.2.1, (par 0).2.2.2.1, (par 0).2.2.2.2.1, (par 0).2.2.2.2.2.1, (par 0).2.2.2.2.2.2) ja).2.2.2.2.2.1, (pPass ((par 0).1, (par 0).2.1, (par 0).2.2.1, (par 0).2.2.2.1, (par 0).2.2.2.2.1, (par 0).2.2.2.2.2.1, (par 0).2.2.2.2.2.2) ja).2.2.2.2.2.2), tp, sh, tl, hi), M)) (k9 := 7 + 0) (N9 := 12) (a9 := (pPass ((par 0).1, (par 0).2.1, (par 0).2.2.1, (par 0).2.2.2.1, (par 0).2.2.2.2.1, (par 0).2.2.2.2.2.1, (par 0).2.2.2.2.2.2) ja).2.2.2.1) (k_sto h03) (f_sto h03) (by decide)) kal_X4_sum rfl dX4_months_52 qw_251 qw_252 (by decide) [] (Nat.le_of_ble_eq_true rfl) rfl rfl 55 rfl ?_
      exact v_iret dX4_months_55 (by simp only [cMonths, c1, eja, Bool.and_self, Bool.and_true, Bool.true_and, Bool.and_false, Bool.false_and, if_true, if_false, Bool.false_eq_true, ↓reduceIte] <;> simp [cFind, kP, kL, sW, sE, pAdd, pCut, pUndo, va_up_i, va_up_s, bx_uu, c2, Nat.not_lt.mpr c2, eja]) (by simp only [cMonths, c1, eja, Bool.and_self, Bool.and_true, Bool.true_and, Bool.and_false, Bool.false_and, if_true, if_false, Bool.false_eq_true, ↓reduceIte] <;> simp [cFind, kP, kL, sW, sE, pAdd, pCut, pUndo, va_up_i, va_up_s, bx_uu, c2, Nat.not_lt.mpr c2, eja])
    · skip
      refine v_aload_n dX4_months_31 0 rfl 32 rfl ?_
      refine v_iconst dX4_months_32 4 rfl 33 rfl ?_
      refine v_callV (c_X4_found l (k := 4) (by decide)) kal_X4_found rfl dX4_months_33 qw_234 qw_236 qw_0 rfl (by decide) (cel_obj G _) (by decide) [] (Nat.le_of_ble_eq_true rfl) rfl rfl 36 rfl ?_
      exact v_iret dX4_months_36 (by simp only [cMonths, c1, eja, Bool.and_self, Bool.and_true, Bool.true_and, Bool.and_false, Bool.false_and, if_true, if_false, Bool.false_eq_true, ↓reduceIte] <;> simp [cFind, kP, kL, sW, sE, pAdd, pCut, pUndo, va_up_i, va_up_s, bx_uu, c2, Nat.not_le.mpr c2, eja]) (by simp only [cMonths, c1, eja, Bool.and_self, Bool.and_true, Bool.true_and, Bool.and_false, Bool.false_and, if_true, if_false, Bool.false_eq_true, ↓reduceIte] <;> simp [cFind, kP, kL, sW, sE, pAdd, pCut, pUndo, va_up_i, va_up_s, bx_uu, c2, Nat.not_le.mpr c2, eja])
  · skip
    refine v_aload_n dX4_months_10 0 rfl 11 rfl ?_
    refine v_iconst dX4_months_11 0 rfl 12 rfl ?_
    refine v_callV (c_X4_found l (k := 0) (by decide)) kal_X4_found rfl dX4_months_12 qw_234 qw_236 qw_0 rfl (by decide) (cel_obj G _) (by decide) [] (Nat.le_of_ble_eq_true rfl) rfl rfl 15 rfl ?_
    exact v_iret dX4_months_15 (by simp only [cMonths, c1, Bool.and_self, Bool.and_true, Bool.true_and, Bool.and_false, Bool.false_and, if_true, if_false, Bool.false_eq_true, ↓reduceIte] <;> simp [cFind, kP, kL, sW, sE, pAdd, pCut, pUndo, va_up_i, va_up_s, bx_uu, true_and]) (by simp only [cMonths, c1, Bool.and_self, Bool.and_true, Bool.true_and, Bool.and_false, Bool.false_and, if_true, if_false, Bool.false_eq_true, ↓reduceIte] <;> simp [cFind, kP, kL, sW, sE, pAdd, pCut, pUndo, va_up_i, va_up_s, bx_uu, true_and])
set_option maxHeartbeats 1000000 in
set_option maxRecDepth 4000 in
theorem lp_alone (l : Launch) {G : Gl} {X : VX} {ov : Option Value} {wF : WS} {par : Nat → Pa} {tp : Tp} {sh : Nat → Sh} {tl : Nat → Int32} {hi : Int32} {M : MS} {mo sz : Nat} {W S R : Nat → Int32} {C : Nat → Nat → Int32} {E : Nat → Ew} {k f x : Int32} {fl : Nat → Int32} {ja jn : Nat} (ht : (par 0).1 + ja + jn < 2 ^ 30) : ∀ n i : Nat, i + n = jn → V l X 3 67 cX4_passAloneFrom 6 RX4 none G ov wF ((va_up par 3 (mo, sz, W, S, R, C, va_up E 0 ((aGo (k, f, x, fl) (par 0).2.2.1 ((par 0).1 + ja) jn).1, (aGo (k, f, x, fl) (par 0).2.2.1 ((par 0).1 + ja) jn).2.1, (aGo (k, f, x, fl) (par 0).2.2.1 ((par 0).1 + ja) jn).2.2.1, (aGo (k, f, x, fl) (par 0).2.2.1 ((par 0).1 + ja) jn).2.2.2)), tp, sh, tl, hi), M) 66 [(4, .int (nI jn)), (3, .int (nI ((par 0).1 + ja))), (0, .ref (ga G (0))), (1, .int (nI ja)), (2, .int (nI jn))] [] → V l X 3 67 cX4_passAloneFrom 6 RX4 none G ov wF ((va_up par 3 (mo, sz, W, S, R, C, va_up E 0 ((aGo (k, f, x, fl) (par 0).2.2.1 ((par 0).1 + ja) i).1, (aGo (k, f, x, fl) (par 0).2.2.1 ((par 0).1 + ja) i).2.1, (aGo (k, f, x, fl) (par 0).2.2.1 ((par 0).1 + ja) i).2.2.1, (aGo (k, f, x, fl) (par 0).2.2.1 ((par 0).1 + ja) i).2.2.2)), tp, sh, tl, hi), M) 13 [(4, .int (nI i)), (3, .int (nI ((par 0).1 + ja))), (0, .ref (ga G (0))), (1, .int (nI ja)), (2, .int (nI jn))] [] := by
  intro n
  induction n with
  | zero =>
    intro i hin hk
    obtain rfl : jn = i := by omega
    refine v_iload dX4_passAloneFrom_13 0 rfl 15 rfl ?_
    refine v_iload_n dX4_passAloneFrom_15 4 rfl 16 rfl ?_
    refine n_icmp_ge dX4_passAloneFrom_16 jn jn rfl rfl (by omega) (by omega) 66 (by decide) 19 rfl (fun c1 => ?_) (fun c1 => absurd c1 (by omega))
    exact hk
  | succ n ih =>
    intro i hin hk
    refine v_iload dX4_passAloneFrom_13 0 rfl 15 rfl ?_
    refine v_iload_n dX4_passAloneFrom_15 4 rfl 16 rfl ?_
    refine n_icmp_ge dX4_passAloneFrom_16 i jn rfl rfl (by omega) (by omega) 66 (by decide) 19 rfl (fun c1 => absurd c1 (by omega)) (fun c1 => ?_)
    refine v_iload_n dX4_passAloneFrom_19 1 rfl 20 rfl ?_
    refine v_iload dX4_passAloneFrom_20 0 rfl 22 rfl ?_
    refine n_iadd dX4_passAloneFrom_22 ((par 0).1 + ja) i rfl rfl 23 rfl ?_
    refine v_bipush dX4_passAloneFrom_23 12 rfl 25 rfl ?_
    refine n_irem dX4_passAloneFrom_25 (((par 0).1 + ja) + i) 12 rfl rfl (by omega) (by decide) (by decide) 26 rfl ?_
    refine v_istore dX4_passAloneFrom_26 (by decide) [(5, .int (nI ((((par 0).1 + ja) + i) % 12))), (4, .int (nI i)), (3, .int (nI ((par 0).1 + ja))), (0, .ref (ga G (0))), (1, .int (nI ja)), (2, .int (nI jn))] rfl 28 rfl ?_
    refine v_aload_n dX4_passAloneFrom_28 3 rfl 29 rfl ?_
    refine v_get (i := 3) (ci := 4) (T := TX4) (C := RX4) (N := 8) (v := .ref (ga G (31 + (8 * 3 + 0)))) dX4_passAloneFrom_29 inB4 rfl qw_199 rfl (by decide) (by decide) (cel_obj G _) rfl 32 rfl ?_
    refine v_iload dX4_passAloneFrom_32 0 rfl 34 rfl ?_
    refine v_aload_n dX4_passAloneFrom_34 3 rfl 35 rfl ?_
    refine v_get (i := 0) (ci := 4) (T := TX4) (C := RX4) (N := 8) (v := .ref (ga G (1 + 0))) dX4_passAloneFrom_35 inB4 rfl qw_196 rfl (by decide) (by decide) (cel_obj G _) rfl 38 rfl ?_
    refine v_get (i := 2) (ci := 1) (T := TX1) (C := RX1) (N := 7) (v := .ref (ga G (4 + 0))) dX4_passAloneFrom_38 inB1 rfl qw_120 rfl (by decide) (k_par h03) (cel_par G _ h03) rfl 41 rfl ?_
    refine v_iload dX4_passAloneFrom_41 0 rfl 43 rfl ?_
    refine v_iald (a := (par 0).2.2.1) dX4_passAloneFrom_43 (k_wea h03) (cel_wea G _ h03) ((((par 0).1 + ja) + i) % 12) rfl (by omega) (by decide) 44 rfl ?_
    refine v_callV (c_X0_grow l h30 h08 ((((par 0).1 + ja) + i) % 12) (by omega) ((par 0).2.2.1 ((((par 0).1 + ja) + i) % 12))) kal_X0_grow rfl dX4_passAloneFrom_44 qw_422 qw_390 qw_391 rfl (k_ewe h30) (f_ewe h30 h08) (by decide) [] (Nat.le_of_ble_eq_true rfl) rfl rfl 47 rfl ?_
    refine v_iload dX4_passAloneFrom_47 0 rfl 49 rfl ?_
    refine v_iconst dX4_passAloneFrom_49 5 rfl 50 rfl ?_
    refine n_icmp_ne dX4_passAloneFrom_50 ((((par 0).1 + ja) + i) % 12) 5 rfl rfl (by omega) (by omega) 60 (by decide) 53 rfl (fun c2 => ?_) (fun c2 => ?_)
    · skip
      refine v_iinc dX4_passAloneFrom_60 1 rfl (nI (i + 1)) (nI_1 _) (by decide) [(4, .int (nI (i + 1))), (5, .int (nI ((((par 0).1 + ja) + i) % 12))), (3, .int (nI ((par 0).1 + ja))), (0, .ref (ga G (0))), (1, .int (nI ja)), (2, .int (nI jn))] rfl 63 rfl ?_
      refine v_goto dX4_passAloneFrom_63 13 (by decide) ?_
      refine v_pick [0, 2, 3, 4, 5] [(4, .int (nI (i + 1))), (3, .int (nI ((par 0).1 + ja))), (0, .ref (ga G (0))), (1, .int (nI ja)), (2, .int (nI jn))] rfl ?_
      have e91 : (((eGrow ((aGo (k, f, x, fl) (par 0).2.2.1 ((par 0).1 + ja) i).1, (aGo (k, f, x, fl) (par 0).2.2.1 ((par 0).1 + ja) i).2.1, (aGo (k, f, x, fl) (par 0).2.2.1 ((par 0).1 + ja) i).2.2.1, (aGo (k, f, x, fl) (par 0).2.2.1 ((par 0).1 + ja) i).2.2.2) ((((par 0).1 + ja) + i) % 12) ((par 0).2.2.1 ((((par 0).1 + ja) + i) % 12))).1, (eGrow ((aGo (k, f, x, fl) (par 0).2.2.1 ((par 0).1 + ja) i).1, (aGo (k, f, x, fl) (par 0).2.2.1 ((par 0).1 + ja) i).2.1, (aGo (k, f, x, fl) (par 0).2.2.1 ((par 0).1 + ja) i).2.2.1, (aGo (k, f, x, fl) (par 0).2.2.1 ((par 0).1 + ja) i).2.2.2) ((((par 0).1 + ja) + i) % 12) ((par 0).2.2.1 ((((par 0).1 + ja) + i) % 12))).2.1, (eGrow ((aGo (k, f, x, fl) (par 0).2.2.1 ((par 0).1 + ja) i).1, (aGo (k, f, x, fl) (par 0).2.2.1 ((par 0).1 + ja) i).2.1, (aGo (k, f, x, fl) (par 0).2.2.1 ((par 0).1 + ja) i).2.2.1, (aGo (k, f, x, fl) (par 0).2.2.1 ((par 0).1 + ja) i).2.2.2) ((((par 0).1 + ja) + i) % 12) ((par 0).2.2.1 ((((par 0).1 + ja) + i) % 12))).2.2.1, (eGrow ((aGo (k, f, x, fl) (par 0).2.2.1 ((par 0).1 + ja) i).1, (aGo (k, f, x, fl) (par 0).2.2.1 ((par 0).1 + ja) i).2.1, (aGo (k, f, x, fl) (par 0).2.2.1 ((par 0).1 + ja) i).2.2.1, (aGo (k, f, x, fl) (par 0).2.2.1 ((par 0).1 + ja) i).2.2.2) ((((par 0).1 + ja) + i) % 12) ((par 0).2.2.1 ((((par 0).1 + ja) + i) % 12))).2.2.2) : Ew) = aGo (k, f, x, fl) (par 0).2.2.1 ((par 0).1 + ja) (i + 1) := by show _ = aOne (aGo (k, f, x, fl) (par 0).2.2.1 ((par 0).1 + ja) i) (par 0).2.2.1 (((par 0).1 + ja) + i); unfold aOne; first | (rw [if_pos (by omega)] <;> rfl) | (rw [if_neg (by omega)] <;> rfl)
      refine v_w (w2 := ((va_up par 3 (mo, sz, W, S, R, C, va_up E 0 ((aGo (k, f, x, fl) (par 0).2.2.1 ((par 0).1 + ja) (i + 1)).1, (aGo (k, f, x, fl) (par 0).2.2.1 ((par 0).1 + ja) (i + 1)).2.1, (aGo (k, f, x, fl) (par 0).2.2.1 ((par 0).1 + ja) (i + 1)).2.2.1, (aGo (k, f, x, fl) (par 0).2.2.1 ((par 0).1 + ja) (i + 1)).2.2.2)), tp, sh, tl, hi), M)) (congrArg (fun z : Ew => ((va_up par 3 (mo, sz, W, S, R, C, va_up E 0 (z.1, z.2.1, z.2.2.1, z.2.2.2)), tp, sh, tl, hi), M)) e91) ?_
      exact ih (i + 1) (by omega) hk
    · skip
      refine v_aload_n dX4_passAloneFrom_53 3 rfl 54 rfl ?_
      refine v_get (i := 3) (ci := 4) (T := TX4) (C := RX4) (N := 8) (v := .ref (ga G (31 + (8 * 3 + 0)))) dX4_passAloneFrom_54 inB4 rfl qw_199 rfl (by decide) (by decide) (cel_obj G _) rfl 57 rfl ?_
      refine v_callV (c_X0_bare l h30 h08 ) kal_X0_bare rfl dX4_passAloneFrom_57 qw_423 qw_275 qw_276 rfl (k_ewe h30) (f_ewe h30 h08) (by decide) [] (Nat.le_of_ble_eq_true rfl) rfl rfl 60 rfl ?_
      refine v_iinc dX4_passAloneFrom_60 1 rfl (nI (i + 1)) (nI_1 _) (by decide) [(4, .int (nI (i + 1))), (5, .int (nI ((((par 0).1 + ja) + i) % 12))), (3, .int (nI ((par 0).1 + ja))), (0, .ref (ga G (0))), (1, .int (nI ja)), (2, .int (nI jn))] rfl 63 rfl ?_
      refine v_goto dX4_passAloneFrom_63 13 (by decide) ?_
      refine v_pick [0, 2, 3, 4, 5] [(4, .int (nI (i + 1))), (3, .int (nI ((par 0).1 + ja))), (0, .ref (ga G (0))), (1, .int (nI ja)), (2, .int (nI jn))] rfl ?_
      have e91 : (((eGrow ((aGo (k, f, x, fl) (par 0).2.2.1 ((par 0).1 + ja) i).1, (aGo (k, f, x, fl) (par 0).2.2.1 ((par 0).1 + ja) i).2.1, (aGo (k, f, x, fl) (par 0).2.2.1 ((par 0).1 + ja) i).2.2.1, (aGo (k, f, x, fl) (par 0).2.2.1 ((par 0).1 + ja) i).2.2.2) ((((par 0).1 + ja) + i) % 12) ((par 0).2.2.1 ((((par 0).1 + ja) + i) % 12))).1, (eGrow ((aGo (k, f, x, fl) (par 0).2.2.1 ((par 0).1 + ja) i).1, (aGo (k, f, x, fl) (par 0).2.2.1 ((par 0).1 + ja) i).2.1, (aGo (k, f, x, fl) (par 0).2.2.1 ((par 0).1 + ja) i).2.2.1, (aGo (k, f, x, fl) (par 0).2.2.1 ((par 0).1 + ja) i).2.2.2) ((((par 0).1 + ja) + i) % 12) ((par 0).2.2.1 ((((par 0).1 + ja) + i) % 12))).2.1, 0, (z12 (eGrow ((aGo (k, f, x, fl) (par 0).2.2.1 ((par 0).1 + ja) i).1, (aGo (k, f, x, fl) (par 0).2.2.1 ((par 0).1 + ja) i).2.1, (aGo (k, f, x, fl) (par 0).2.2.1 ((par 0).1 + ja) i).2.2.1, (aGo (k, f, x, fl) (par 0).2.2.1 ((par 0).1 + ja) i).2.2.2) ((((par 0).1 + ja) + i) % 12) ((par 0).2.2.1 ((((par 0).1 + ja) + i) % 12))).2.2.2 12)) : Ew) = aGo (k, f, x, fl) (par 0).2.2.1 ((par 0).1 + ja) (i + 1) := by show _ = aOne (aGo (k, f, x, fl) (par 0).2.2.1 ((par 0).1 + ja) i) (par 0).2.2.1 (((par 0).1 + ja) + i); unfold aOne; first | (rw [if_pos (by omega)] <;> rfl) | (rw [if_neg (by omega)] <;> rfl)
      refine v_w (w2 := ((va_up par 3 (mo, sz, W, S, R, C, va_up E 0 ((aGo (k, f, x, fl) (par 0).2.2.1 ((par 0).1 + ja) (i + 1)).1, (aGo (k, f, x, fl) (par 0).2.2.1 ((par 0).1 + ja) (i + 1)).2.1, (aGo (k, f, x, fl) (par 0).2.2.1 ((par 0).1 + ja) (i + 1)).2.2.1, (aGo (k, f, x, fl) (par 0).2.2.1 ((par 0).1 + ja) (i + 1)).2.2.2)), tp, sh, tl, hi), M)) (congrArg (fun z : Ew => ((va_up par 3 (mo, sz, W, S, R, C, va_up E 0 (z.1, z.2.1, z.2.2.1, z.2.2.2)), tp, sh, tl, hi), M)) e91) ?_
      exact ih (i + 1) (by omega) hk
set_option maxHeartbeats 1000000 in
set_option maxRecDepth 4000 in
theorem c_X4_passAloneFrom (l : Launch) {G : Gl} {par : Nat → Pa} {tp : Tp} {sh : Nat → Sh} {tl : Nat → Int32} {hi : Int32} {M : MS} {mo sz : Nat} {W S R : Nat → Int32} {C : Nat → Nat → Int32} {E : Nat → Ew} {k f x : Int32} {fl : Nat → Int32} {ja jn : Nat} (ht : (par 0).1 + ja + jn < 2 ^ 30) : Ct l G yX4_passAloneFrom cX4_passAloneFrom 6 none 3 67 [.ref (ga G (0)), .int (nI ja), .int (nI jn)] ((va_up par 3 (mo, sz, W, S, R, C, va_up E 0 (k, f, x, fl)), tp, sh, tl, hi), M) (none) ((va_up par 3 (mo, sz, W, S, R, C, va_up E 0 ((aGo (k, f, x, fl) (par 0).2.2.1 ((par 0).1 + ja) jn).1, (aGo (k, f, x, fl) (par 0).2.2.1 ((par 0).1 + ja) jn).2.1, (aGo (k, f, x, fl) (par 0).2.2.1 ((par 0).1 + ja) jn).2.2.1, (aGo (k, f, x, fl) (par 0).2.2.1 ((par 0).1 + ja) jn).2.2.2)), tp, sh, tl, hi), M) := by
  refine Ct.of (own := RX4) (by decide) rfl (Nat.le_of_ble_eq_true rfl) rfl (fun X => ?_)
  refine v_aload_n dX4_passAloneFrom_0 0 rfl 1 rfl ?_
  refine v_get (i := 0) (ci := 4) (T := TX4) (C := RX4) (N := 8) (v := .ref (ga G (1 + 0))) dX4_passAloneFrom_1 inB4 rfl qw_196 rfl (by decide) (by decide) (cel_obj G _) rfl 4 rfl ?_
  refine v_get (i := 0) (ci := 1) (T := TX1) (C := RX1) (N := 7) (v := .int (nI (par 0).1)) dX4_passAloneFrom_4 inB1 rfl qw_116 rfl (by decide) (k_par h03) (cel_par G _ h03) rfl 7 rfl ?_
  refine v_iload_n dX4_passAloneFrom_7 1 rfl 8 rfl ?_
  refine n_iadd dX4_passAloneFrom_8 (par 0).1 ja rfl rfl 9 rfl ?_
  refine v_istore_n dX4_passAloneFrom_9 3 rfl (by decide) [(3, .int (nI ((par 0).1 + ja))), (0, .ref (ga G (0))), (1, .int (nI ja)), (2, .int (nI jn))] rfl 10 rfl ?_
  refine v_iconst dX4_passAloneFrom_10 0 rfl 11 rfl ?_
  refine v_istore dX4_passAloneFrom_11 (by decide) [(4, .int 0), (3, .int (nI ((par 0).1 + ja))), (0, .ref (ga G (0))), (1, .int (nI ja)), (2, .int (nI jn))] rfl 13 rfl ?_
  refine lp_alone l ht jn 0 (by omega) ?_
  exact v_vret dX4_passAloneFrom_66 (by rfl) (by rfl)
set_option maxHeartbeats 1000000 in
set_option maxRecDepth 4000 in
theorem c_X4_passAlone (l : Launch) {G : Gl} {par : Nat → Pa} {tp : Tp} {sh : Nat → Sh} {tl : Nat → Int32} {hi : Int32} {M : MS} {mo sz : Nat} {W S R : Nat → Int32} {C : Nat → Nat → Int32} {E : Nat → Ew} {k f x : Int32} {fl : Nat → Int32} {jn : Nat} (ht : (par 0).1 + jn < 2 ^ 30) : Ct l G yX4_passAlone cX4_passAlone 2 none 4 92 [.ref (ga G (0)), .int (nI jn)] ((va_up par 3 (mo, sz, W, S, R, C, va_up E 0 (k, f, x, fl)), tp, sh, tl, hi), M) (none) ((va_up par 3 (mo, sz, W, S, R, C, va_up E 0 ((aGo (k, f, x, fl) (par 0).2.2.1 ((par 0).1 + 0) jn).1, (aGo (k, f, x, fl) (par 0).2.2.1 ((par 0).1 + 0) jn).2.1, (aGo (k, f, x, fl) (par 0).2.2.1 ((par 0).1 + 0) jn).2.2.1, (aGo (k, f, x, fl) (par 0).2.2.1 ((par 0).1 + 0) jn).2.2.2)), tp, sh, tl, hi), M) := by
  refine Ct.of (own := RX4) (by decide) rfl (Nat.le_of_ble_eq_true rfl) rfl (fun X => ?_)
  refine v_aload_n dX4_passAlone_0 0 rfl 1 rfl ?_
  refine v_iconst dX4_passAlone_1 0 rfl 2 rfl ?_
  refine v_iload_n dX4_passAlone_2 1 rfl 3 rfl ?_
  refine v_callV (c_X4_passAloneFrom l (by first | omega | (dsimp only; omega))) kal_X4_passAloneFrom rfl dX4_passAlone_3 qw_418 qw_420 qw_3 rfl (by decide) (cel_obj G _) (by decide) [] (Nat.le_of_ble_eq_true rfl) rfl rfl 6 rfl ?_
  exact v_vret dX4_passAlone_6 (by rfl) (by rfl)
set_option maxHeartbeats 1000000 in
set_option maxRecDepth 4000 in
theorem c_X4_on (l : Launch) {G : Gl} {K : CS} {M : MS} (hsz : (K.1 0).2.1 ≤ 8) (hmo : (K.1 0).1 < 2 ^ 20) (a b c : Int32) : Ct l G yX4_on cX4_on 4 (some .int) 5 113 [.ref (ga G (0)), .int a, .int b, .int c] (K, M) (some (.int (cOn K a b c).1)) ((cOn K a b c).2, M) := by
  obtain ⟨par, tp, sh, tl, hi⟩ := K
  dsimp only at hsz hmo
  refine Ct.of (own := RX4) (by decide) rfl (Nat.le_of_ble_eq_true rfl) rfl (fun X => ?_)
  refine v_aload_n dX4_on_0 0 rfl 1 rfl ?_
  refine v_iload_n dX4_on_1 1 rfl 2 rfl ?_
  refine v_callV (c_X4_isEwe l (K := (par, tp, sh, tl, hi)) (by first | exact hsz | assumption) a) kal_X4_isEwe rfl dX4_on_2 qw_285 qw_287 qw_1 rfl (by decide) (cel_obj G _) (by decide) [] (Nat.le_of_ble_eq_true rfl) rfl rfl 5 rfl ?_
  refine v_topi (b2 (inE (par 0).2.1 a)) rfl ?_
  refine v_w (w2 := ((par, tp, sh, tl, hi), M)) rfl ?_
  refine v_ifb_eq dX4_on_5 27 (by decide) 8 rfl (fun c1 => ?_) (fun c1 => ?_)
  · skip
    refine v_aload_n dX4_on_27 0 rfl 28 rfl ?_
    refine v_iconst dX4_on_28 0 rfl 29 rfl ?_
    refine v_callV (c_X4_found l (k := 0) (by decide)) kal_X4_found rfl dX4_on_29 qw_234 qw_236 qw_0 rfl (by decide) (cel_obj G _) (by decide) [] (Nat.le_of_ble_eq_true rfl) rfl rfl 32 rfl ?_
    exact v_iret dX4_on_32 (by simp only [cOn, c1, Bool.and_self, Bool.and_true, Bool.true_and, Bool.and_false, Bool.false_and, if_true, if_false, Bool.false_eq_true, ↓reduceIte] <;> first | rfl | (simp only [true_and, if_true, if_false, ↓reduceIte] <;> rfl) | (simp [cFind, kP, kL, sE, cLone, true_and]; done)) (by simp only [cOn, c1, Bool.and_self, Bool.and_true, Bool.true_and, Bool.and_false, Bool.false_and, if_true, if_false, Bool.false_eq_true, ↓reduceIte] <;> first | rfl | (simp only [true_and, if_true, if_false, ↓reduceIte] <;> rfl) | (simp [cFind, kP, kL, sE, cLone, true_and]; done))
  · skip
    obtain ⟨ja, h2ja, rfl⟩ := inE_ix c1
    have eja : (nI ja).toNatClampNeg = ja := nI_clamp (by omega)
    refine v_iload_n dX4_on_8 2 rfl 9 rfl ?_
    refine v_iconst dX4_on_9 0 rfl 10 rfl ?_
    refine v_bipush dX4_on_10 120 rfl 12 rfl ?_
    refine v_callS (c_X4_isWithin l b 0 120 (lo := 0) (hi := 120) rfl rfl) kal_X4_isWithin rfl dX4_on_12 qw_228 qw_229 (by decide) [] (Nat.le_of_ble_eq_true rfl) rfl rfl 15 rfl ?_
    refine v_ifb_eq dX4_on_15 27 (by decide) 18 rfl (fun c2 => ?_) (fun c2 => ?_)
    · skip
      refine v_aload_n dX4_on_27 0 rfl 28 rfl ?_
      refine v_iconst dX4_on_28 0 rfl 29 rfl ?_
      refine v_callV (c_X4_found l (k := 0) (by decide)) kal_X4_found rfl dX4_on_29 qw_234 qw_236 qw_0 rfl (by decide) (cel_obj G _) (by decide) [] (Nat.le_of_ble_eq_true rfl) rfl rfl 32 rfl ?_
      exact v_iret dX4_on_32 (by simp only [cOn, c1, c2, eja, Bool.and_self, Bool.and_true, Bool.true_and, Bool.and_false, Bool.false_and, if_true, if_false, Bool.false_eq_true, ↓reduceIte] <;> first | rfl | (simp only [eja, if_true, if_false, ↓reduceIte] <;> rfl) | (simp [cFind, kP, kL, sE, cLone, eja]; done)) (by simp only [cOn, c1, c2, eja, Bool.and_self, Bool.and_true, Bool.true_and, Bool.and_false, Bool.false_and, if_true, if_false, Bool.false_eq_true, ↓reduceIte] <;> first | rfl | (simp only [eja, if_true, if_false, ↓reduceIte] <;> rfl) | (simp [cFind, kP, kL, sE, cLone, eja]; done))
    · skip
      obtain ⟨jb, h1jb, h2jb, rfl⟩ := inb_ix (lo := 0) (hi := 120) c2
      have ejb : (nI jb).toNatClampNeg = jb := nI_clamp (by omega)
      refine v_iload_n dX4_on_18 3 rfl 19 rfl ?_
      refine v_iconst dX4_on_19 0 rfl 20 rfl ?_
      refine v_iconst dX4_on_20 1 rfl 21 rfl ?_
      refine v_callS (c_X4_isWithin l c 0 1 (lo := 0) (hi := 1) rfl rfl) kal_X4_isWithin rfl dX4_on_21 qw_228 qw_229 (by decide) [] (Nat.le_of_ble_eq_true rfl) rfl rfl 24 rfl ?_
      refine v_ifb_ne dX4_on_24 33 (by decide) 27 rfl (fun c3 => ?_) (fun c3 => ?_)
      · skip
        refine v_aload_n dX4_on_33 0 rfl 34 rfl ?_
        refine v_get (i := 3) (ci := 4) (T := TX4) (C := RX4) (N := 8) (v := .ref (ga G (31 + (8 * 3 + 0)))) dX4_on_34 inB4 rfl qw_199 rfl (by decide) (by decide) (cel_obj G _) rfl 37 rfl ?_
        refine v_aload_n dX4_on_37 0 rfl 38 rfl ?_
        refine v_get (i := 0) (ci := 4) (T := TX4) (C := RX4) (N := 8) (v := .ref (ga G (1 + 0))) dX4_on_38 inB4 rfl qw_196 rfl (by decide) (by decide) (cel_obj G _) rfl 41 rfl ?_
        refine v_get (i := 5) (ci := 1) (T := TX1) (C := RX1) (N := 7) (v := .ref (ga G (13 + 0))) dX4_on_41 inB1 rfl qw_128 rfl (by decide) (k_par h03) (cel_par G _ h03) rfl 44 rfl ?_
        refine v_iload_n dX4_on_44 1 rfl 45 rfl ?_
        refine v_aaldE dX4_on_45 (k_ews h03) (cel_ews G _ h03) ja rfl (by omega) (by decide) rfl 46 rfl ?_
        refine v_w (w2 := ((va_up par 3 ((par 3).1, (par 3).2.1, (par 3).2.2.1, (par 3).2.2.2.1, (par 3).2.2.2.2.1, (par 3).2.2.2.2.2.1, (par 3).2.2.2.2.2.2), tp, sh, tl, hi), M)) (congrArg (fun z => ((z, tp, sh, tl, hi), M)) (va_up_i par 3).symm) ?_
        refine v_w (w2 := ((va_up par 3 ((par 3).1, (par 3).2.1, (par 3).2.2.1, (par 3).2.2.2.1, (par 3).2.2.2.2.1, (par 3).2.2.2.2.2.1, va_up (par 3).2.2.2.2.2.2 0 (((par 3).2.2.2.2.2.2 0).1, ((par 3).2.2.2.2.2.2 0).2.1, ((par 3).2.2.2.2.2.2 0).2.2.1, ((par 3).2.2.2.2.2.2 0).2.2.2)), tp, sh, tl, hi), M)) (congrArg (fun z => ((va_up par 3 ((par 3).1, (par 3).2.1, (par 3).2.2.1, (par 3).2.2.2.1, (par 3).2.2.2.2.1, (par 3).2.2.2.2.2.1, z), tp, sh, tl, hi), M)) (va_up_i (par 3).2.2.2.2.2.2 0).symm) ?_
        refine v_callV (c_X0_become l h30 h08 (q := 0) (d := ja) (by omega) (by omega) (by decide)) kal_X0_become rfl dX4_on_46 qw_407 qw_408 qw_409 rfl (k_ewe h30) (f_ewe h30 h08) (by decide) [] (Nat.le_of_ble_eq_true rfl) rfl rfl 49 rfl ?_
        refine v_aload_n dX4_on_49 0 rfl 50 rfl ?_
        refine v_iload_n dX4_on_50 2 rfl 51 rfl ?_
        refine v_callV (c_X4_passAlone l (by first | omega | (dsimp only; omega))) kal_X4_passAlone rfl dX4_on_51 qw_414 qw_416 qw_2 rfl (by decide) (cel_obj G _) (by decide) [] (Nat.le_of_ble_eq_true rfl) rfl rfl 54 rfl ?_
        refine v_iload_n dX4_on_54 3 rfl 55 rfl ?_
        refine v_if_ne dX4_on_55 68 (by decide) 58 rfl (fun c4 => ?_) (fun c4 => ?_)
        · skip
          refine v_aload_n dX4_on_68 0 rfl 69 rfl ?_
          refine v_get (i := 3) (ci := 4) (T := TX4) (C := RX4) (N := 8) (v := .ref (ga G (31 + (8 * 3 + 0)))) dX4_on_69 inB4 rfl qw_199 rfl (by decide) (by decide) (cel_obj G _) rfl 72 rfl ?_
          refine v_get (i := 1) (ci := 0) (T := TX0) (C := RX0) (N := 4) (v := .int (aGo ((eBecome (((par 3).2.2.2.2.2.2 0).1, ((par 3).2.2.2.2.2.2 0).2.1, ((par 3).2.2.2.2.2.2 0).2.2.1, ((par 3).2.2.2.2.2.2 0).2.2.2) ((par 0).2.2.2.2.2.2 ja)).1, (eBecome (((par 3).2.2.2.2.2.2 0).1, ((par 3).2.2.2.2.2.2 0).2.1, ((par 3).2.2.2.2.2.2 0).2.2.1, ((par 3).2.2.2.2.2.2 0).2.2.2) ((par 0).2.2.2.2.2.2 ja)).2.1, (eBecome (((par 3).2.2.2.2.2.2 0).1, ((par 3).2.2.2.2.2.2 0).2.1, ((par 3).2.2.2.2.2.2 0).2.2.1, ((par 3).2.2.2.2.2.2 0).2.2.2) ((par 0).2.2.2.2.2.2 ja)).2.2.1, (eBecome (((par 3).2.2.2.2.2.2 0).1, ((par 3).2.2.2.2.2.2 0).2.1, ((par 3).2.2.2.2.2.2 0).2.2.1, ((par 3).2.2.2.2.2.2 0).2.2.2) ((par 0).2.2.2.2.2.2 ja)).2.2.2) (par 0).2.2.1 ((par 0).1 + 0) jb).2.1) dX4_on_72 inB0 rfl qw_98 rfl (by decide) (k_ewe h30) (f_ewe h30 h08) rfl 75 rfl ?_
          exact v_iret dX4_on_75 (by simp only [cOn, c1, c2, c3, eja, ejb, Bool.and_self, Bool.and_true, Bool.true_and, Bool.and_false, Bool.false_and, if_true, if_false, Bool.false_eq_true, ↓reduceIte] <;> first | rfl | (simp only [c4, Ne.symm c4, eja, ejb, if_true, if_false, ↓reduceIte] <;> rfl) | (simp [cFind, kP, kL, sE, cLone, c4, Ne.symm c4, eja, ejb]; done)) (by simp only [cOn, c1, c2, c3, eja, ejb, Bool.and_self, Bool.and_true, Bool.true_and, Bool.and_false, Bool.false_and, if_true, if_false, Bool.false_eq_true, ↓reduceIte] <;> first | rfl | (simp only [c4, Ne.symm c4, eja, ejb, if_true, if_false, ↓reduceIte] <;> rfl) | (simp [cFind, kP, kL, sE, cLone, c4, Ne.symm c4, eja, ejb]; done))
        · skip
          refine v_aload_n dX4_on_58 0 rfl 59 rfl ?_
          refine v_get (i := 3) (ci := 4) (T := TX4) (C := RX4) (N := 8) (v := .ref (ga G (31 + (8 * 3 + 0)))) dX4_on_59 inB4 rfl qw_199 rfl (by decide) (by decide) (cel_obj G _) rfl 62 rfl ?_
          refine v_get (i := 2) (ci := 0) (T := TX0) (C := RX0) (N := 4) (v := .int (aGo ((eBecome (((par 3).2.2.2.2.2.2 0).1, ((par 3).2.2.2.2.2.2 0).2.1, ((par 3).2.2.2.2.2.2 0).2.2.1, ((par 3).2.2.2.2.2.2 0).2.2.2) ((par 0).2.2.2.2.2.2 ja)).1, (eBecome (((par 3).2.2.2.2.2.2 0).1, ((par 3).2.2.2.2.2.2 0).2.1, ((par 3).2.2.2.2.2.2 0).2.2.1, ((par 3).2.2.2.2.2.2 0).2.2.2) ((par 0).2.2.2.2.2.2 ja)).2.1, (eBecome (((par 3).2.2.2.2.2.2 0).1, ((par 3).2.2.2.2.2.2 0).2.1, ((par 3).2.2.2.2.2.2 0).2.2.1, ((par 3).2.2.2.2.2.2 0).2.2.2) ((par 0).2.2.2.2.2.2 ja)).2.2.1, (eBecome (((par 3).2.2.2.2.2.2 0).1, ((par 3).2.2.2.2.2.2 0).2.1, ((par 3).2.2.2.2.2.2 0).2.2.1, ((par 3).2.2.2.2.2.2 0).2.2.2) ((par 0).2.2.2.2.2.2 ja)).2.2.2) (par 0).2.2.1 ((par 0).1 + 0) jb).2.2.1) dX4_on_62 inB0 rfl qw_100 rfl (by decide) (k_ewe h30) (f_ewe h30 h08) rfl 65 rfl ?_
          refine v_goto dX4_on_65 75 (by decide) ?_
          exact v_iret dX4_on_75 (by simp only [cOn, c1, c2, c3, eja, ejb, Bool.and_self, Bool.and_true, Bool.true_and, Bool.and_false, Bool.false_and, if_true, if_false, Bool.false_eq_true, ↓reduceIte] <;> first | rfl | (simp only [c4, eja, ejb, if_true, if_false, ↓reduceIte] <;> rfl) | (simp [cFind, kP, kL, sE, cLone, c4, eja, ejb]; done)) (by simp only [cOn, c1, c2, c3, eja, ejb, Bool.and_self, Bool.and_true, Bool.true_and, Bool.and_false, Bool.false_and, if_true, if_false, Bool.false_eq_true, ↓reduceIte] <;> first | rfl | (simp only [c4, eja, ejb, if_true, if_false, ↓reduceIte] <;> rfl) | (simp [cFind, kP, kL, sE, cLone, c4, eja, ejb]; done))
      · skip
        refine v_aload_n dX4_on_27 0 rfl 28 rfl ?_
        refine v_iconst dX4_on_28 0 rfl 29 rfl ?_
        refine v_callV (c_X4_found l (k := 0) (by decide)) kal_X4_found rfl dX4_on_29 qw_234 qw_236 qw_0 rfl (by decide) (cel_obj G _) (by decide) [] (Nat.le_of_ble_eq_true rfl) rfl rfl 32 rfl ?_
        exact v_iret dX4_on_32 (by simp only [cOn, c1, c2, c3, eja, ejb, Bool.and_self, Bool.and_true, Bool.true_and, Bool.and_false, Bool.false_and, if_true, if_false, Bool.false_eq_true, ↓reduceIte] <;> first | rfl | (simp only [eja, ejb, if_true, if_false, ↓reduceIte] <;> rfl) | (simp [cFind, kP, kL, sE, cLone, eja, ejb]; done)) (by simp only [cOn, c1, c2, c3, eja, ejb, Bool.and_self, Bool.and_true, Bool.true_and, Bool.and_false, Bool.false_and, if_true, if_false, Bool.false_eq_true, ↓reduceIte] <;> first | rfl | (simp only [eja, ejb, if_true, if_false, ↓reduceIte] <;> rfl) | (simp [cFind, kP, kL, sE, cLone, eja, ejb]; done))
set_option maxHeartbeats 1000000 in
set_option maxRecDepth 4000 in
theorem c_X4_then (l : Launch) {G : Gl} {K : CS} {M : MS} (hsz : (K.1 0).2.1 ≤ 8) (hmo : (K.1 0).1 < 2 ^ 20) (a b c : Int32) : Ct l G yX4_then cX4_then 4 (some .int) 5 111 [.ref (ga G (0)), .int a, .int b, .int c] (K, M) (some (.int (cThen K a b c).1)) ((cThen K a b c).2, M) := by
  obtain ⟨par, tp, sh, tl, hi⟩ := K
  dsimp only at hsz hmo
  refine Ct.of (own := RX4) (by decide) rfl (Nat.le_of_ble_eq_true rfl) rfl (fun X => ?_)
  refine v_iload_n dX4_then_0 1 rfl 1 rfl ?_
  refine v_callS (c_X4_isMonth l a) kal_X4_isMonth rfl dX4_then_1 qw_225 qw_226 (by decide) [] (Nat.le_of_ble_eq_true rfl) rfl rfl 4 rfl ?_
  refine v_ifb_eq dX4_then_4 26 (by decide) 7 rfl (fun c1 => ?_) (fun c1 => ?_)
  · skip
    refine v_aload_n dX4_then_26 0 rfl 27 rfl ?_
    refine v_iconst dX4_then_27 0 rfl 28 rfl ?_
    refine v_callV (c_X4_found l (k := 0) (by decide)) kal_X4_found rfl dX4_then_28 qw_234 qw_236 qw_0 rfl (by decide) (cel_obj G _) (by decide) [] (Nat.le_of_ble_eq_true rfl) rfl rfl 31 rfl ?_
    exact v_iret dX4_then_31 (by simp only [cThen, c1, Bool.and_self, Bool.and_true, Bool.true_and, Bool.and_false, Bool.false_and, if_true, if_false, Bool.false_eq_true, ↓reduceIte] <;> first | rfl | (simp only [true_and, if_true, if_false, ↓reduceIte] <;> rfl) | (simp [cFind, kP, va_up_i, true_and]; done)) (by simp only [cThen, c1, Bool.and_self, Bool.and_true, Bool.true_and, Bool.and_false, Bool.false_and, if_true, if_false, Bool.false_eq_true, ↓reduceIte] <;> first | rfl | (simp only [true_and, if_true, if_false, ↓reduceIte] <;> rfl) | (simp [cFind, kP, va_up_i, true_and]; done))
  · skip
    obtain ⟨ja, h1ja, h2ja, rfl⟩ := inb_ix (lo := 0) (hi := 11) c1
    have eja : (nI ja).toNatClampNeg = ja := nI_clamp (by omega)
    refine v_iload_n dX4_then_7 2 rfl 8 rfl ?_
    refine v_iconst dX4_then_8 0 rfl 9 rfl ?_
    refine v_bipush dX4_then_9 120 rfl 11 rfl ?_
    refine v_callS (c_X4_isWithin l b 0 120 (lo := 0) (hi := 120) rfl rfl) kal_X4_isWithin rfl dX4_then_11 qw_228 qw_229 (by decide) [] (Nat.le_of_ble_eq_true rfl) rfl rfl 14 rfl ?_
    refine v_ifb_eq dX4_then_14 26 (by decide) 17 rfl (fun c2 => ?_) (fun c2 => ?_)
    · skip
      refine v_aload_n dX4_then_26 0 rfl 27 rfl ?_
      refine v_iconst dX4_then_27 0 rfl 28 rfl ?_
      refine v_callV (c_X4_found l (k := 0) (by decide)) kal_X4_found rfl dX4_then_28 qw_234 qw_236 qw_0 rfl (by decide) (cel_obj G _) (by decide) [] (Nat.le_of_ble_eq_true rfl) rfl rfl 31 rfl ?_
      exact v_iret dX4_then_31 (by simp only [cThen, c1, c2, eja, Bool.and_self, Bool.and_true, Bool.true_and, Bool.and_false, Bool.false_and, if_true, if_false, Bool.false_eq_true, ↓reduceIte] <;> first | rfl | (simp only [eja, if_true, if_false, ↓reduceIte] <;> rfl) | (simp [cFind, kP, va_up_i, eja]; done)) (by simp only [cThen, c1, c2, eja, Bool.and_self, Bool.and_true, Bool.true_and, Bool.and_false, Bool.false_and, if_true, if_false, Bool.false_eq_true, ↓reduceIte] <;> first | rfl | (simp only [eja, if_true, if_false, ↓reduceIte] <;> rfl) | (simp [cFind, kP, va_up_i, eja]; done))
    · skip
      obtain ⟨jb, h1jb, h2jb, rfl⟩ := inb_ix (lo := 0) (hi := 120) c2
      have ejb : (nI jb).toNatClampNeg = jb := nI_clamp (by omega)
      refine v_iload_n dX4_then_17 3 rfl 18 rfl ?_
      refine v_iconst dX4_then_18 0 rfl 19 rfl ?_
      refine v_iconst dX4_then_19 1 rfl 20 rfl ?_
      refine v_callS (c_X4_isWithin l c 0 1 (lo := 0) (hi := 1) rfl rfl) kal_X4_isWithin rfl dX4_then_20 qw_228 qw_229 (by decide) [] (Nat.le_of_ble_eq_true rfl) rfl rfl 23 rfl ?_
      refine v_ifb_ne dX4_then_23 32 (by decide) 26 rfl (fun c3 => ?_) (fun c3 => ?_)
      · skip
        refine v_aload_n dX4_then_32 0 rfl 33 rfl ?_
        refine v_get (i := 2) (ci := 4) (T := TX4) (C := RX4) (N := 8) (v := .ref (ga G (1 + 2))) dX4_then_33 inB4 rfl qw_198 rfl (by decide) (by decide) (cel_obj G _) rfl 36 rfl ?_
        refine v_aload_n dX4_then_36 0 rfl 37 rfl ?_
        refine v_get (i := 0) (ci := 4) (T := TX4) (C := RX4) (N := 8) (v := .ref (ga G (1 + 0))) dX4_then_37 inB4 rfl qw_196 rfl (by decide) (by decide) (cel_obj G _) rfl 40 rfl ?_
        refine v_w (w2 := ((va_up par 2 ((par 2).1, (par 2).2.1, (par 2).2.2.1, (par 2).2.2.2.1, (par 2).2.2.2.2.1, (par 2).2.2.2.2.2.1, (par 2).2.2.2.2.2.2), tp, sh, tl, hi), M)) (congrArg (fun z => ((z, tp, sh, tl, hi), M)) (va_up_i par 2).symm) ?_
        refine v_callV (c_X1_become l h23 (q := 0) h03 (by decide) (by omega)) kal_X1_become rfl dX4_then_40 qw_428 qw_429 qw_430 rfl (k_par h23) (f_par h23) (by decide) [] (Nat.le_of_ble_eq_true rfl) rfl rfl 43 rfl ?_
        refine v_aload_n dX4_then_43 0 rfl 44 rfl ?_
        refine v_get (i := 2) (ci := 4) (T := TX4) (C := RX4) (N := 8) (v := .ref (ga G (1 + 2))) dX4_then_44 inB4 rfl qw_198 rfl (by decide) (by decide) (cel_obj G _) rfl 47 rfl ?_
        refine v_iload_n dX4_then_47 2 rfl 48 rfl ?_
        refine v_callV (c_X1_pass l h23 (by omega) (by omega)) kal_X1_pass rfl dX4_then_48 qw_380 qw_381 qw_382 rfl (k_par h23) (f_par h23) (by decide) [] (Nat.le_of_ble_eq_true rfl) rfl rfl 51 rfl ?_
        refine v_iload_n dX4_then_51 3 rfl 52 rfl ?_
        refine v_if_ne dX4_then_52 67 (by decide) 55 rfl (fun c4 => ?_) (fun c4 => ?_)
        · skip
          refine v_aload_n dX4_then_67 0 rfl 68 rfl ?_
          refine v_get (i := 2) (ci := 4) (T := TX4) (C := RX4) (N := 8) (v := .ref (ga G (1 + 2))) dX4_then_68 inB4 rfl qw_198 rfl (by decide) (by decide) (cel_obj G _) rfl 71 rfl ?_
          refine v_get (i := 4) (ci := 1) (T := TX1) (C := RX1) (N := 7) (v := .ref (ga G (10 + 2))) dX4_then_71 inB1 rfl qw_126 rfl (by decide) (k_par h23) (f_par h23) rfl 74 rfl ?_
          refine v_iload_n dX4_then_74 1 rfl 75 rfl ?_
          refine v_iald (a := (pPass ((pCopy (par 2) (par 0)).1, (pCopy (par 2) (par 0)).2.1, (pCopy (par 2) (par 0)).2.2.1, (pCopy (par 2) (par 0)).2.2.2.1, (pCopy (par 2) (par 0)).2.2.2.2.1, (pCopy (par 2) (par 0)).2.2.2.2.2.1, (pCopy (par 2) (par 0)).2.2.2.2.2.2) jb).2.2.2.2.1) dX4_then_75 (k_rou h23) (f_rou h23) ja rfl (by omega) (by decide) 76 rfl ?_
          exact v_iret dX4_then_76 (by simp only [cThen, c1, c2, c3, eja, ejb, Bool.and_self, Bool.and_true, Bool.true_and, Bool.and_false, Bool.false_and, if_true, if_false, Bool.false_eq_true, ↓reduceIte] <;> first | rfl | (simp only [c4, Ne.symm c4, eja, ejb, if_true, if_false, ↓reduceIte] <;> rfl) | (simp [cFind, kP, va_up_i, c4, Ne.symm c4, eja, ejb]; done)) (by simp only [cThen, c1, c2, c3, eja, ejb, Bool.and_self, Bool.and_true, Bool.true_and, Bool.and_false, Bool.false_and, if_true, if_false, Bool.false_eq_true, ↓reduceIte] <;> first | rfl | (simp only [c4, Ne.symm c4, eja, ejb, if_true, if_false, ↓reduceIte] <;> rfl) | (simp [cFind, kP, va_up_i, c4, Ne.symm c4, eja, ejb]; done))
        · skip
          refine v_aload_n dX4_then_55 0 rfl 56 rfl ?_
          refine v_get (i := 2) (ci := 4) (T := TX4) (C := RX4) (N := 8) (v := .ref (ga G (1 + 2))) dX4_then_56 inB4 rfl qw_198 rfl (by decide) (by decide) (cel_obj G _) rfl 59 rfl ?_
          refine v_get (i := 3) (ci := 1) (T := TX1) (C := RX1) (N := 7) (v := .ref (ga G (7 + 2))) dX4_then_59 inB1 rfl qw_123 rfl (by decide) (k_par h23) (f_par h23) rfl 62 rfl ?_
          refine v_iload_n dX4_then_62 1 rfl 63 rfl ?_
          refine v_iald (a := (pPass ((pCopy (par 2) (par 0)).1, (pCopy (par 2) (par 0)).2.1, (pCopy (par 2) (par 0)).2.2.1, (pCopy (par 2) (par 0)).2.2.2.1, (pCopy (par 2) (par 0)).2.2.2.2.1, (pCopy (par 2) (par 0)).2.2.2.2.2.1, (pCopy (par 2) (par 0)).2.2.2.2.2.2) jb).2.2.2.1) dX4_then_63 (k_sto h23) (f_sto h23) ja rfl (by omega) (by decide) 64 rfl ?_
          refine v_goto dX4_then_64 76 (by decide) ?_
          exact v_iret dX4_then_76 (by simp only [cThen, c1, c2, c3, eja, ejb, Bool.and_self, Bool.and_true, Bool.true_and, Bool.and_false, Bool.false_and, if_true, if_false, Bool.false_eq_true, ↓reduceIte] <;> first | rfl | (simp only [c4, eja, ejb, if_true, if_false, ↓reduceIte] <;> rfl) | (simp [cFind, kP, va_up_i, c4, eja, ejb]; done)) (by simp only [cThen, c1, c2, c3, eja, ejb, Bool.and_self, Bool.and_true, Bool.true_and, Bool.and_false, Bool.false_and, if_true, if_false, Bool.false_eq_true, ↓reduceIte] <;> first | rfl | (simp only [c4, eja, ejb, if_true, if_false, ↓reduceIte] <;> rfl) | (simp [cFind, kP, va_up_i, c4, eja, ejb]; done))
      · skip
        refine v_aload_n dX4_then_26 0 rfl 27 rfl ?_
        refine v_iconst dX4_then_27 0 rfl 28 rfl ?_
        refine v_callV (c_X4_found l (k := 0) (by decide)) kal_X4_found rfl dX4_then_28 qw_234 qw_236 qw_0 rfl (by decide) (cel_obj G _) (by decide) [] (Nat.le_of_ble_eq_true rfl) rfl rfl 31 rfl ?_
        exact v_iret dX4_then_31 (by simp only [cThen, c1, c2, c3, eja, ejb, Bool.and_self, Bool.and_true, Bool.true_and, Bool.and_false, Bool.false_and, if_true, if_false, Bool.false_eq_true, ↓reduceIte] <;> first | rfl | (simp only [eja, ejb, if_true, if_false, ↓reduceIte] <;> rfl) | (simp [cFind, kP, va_up_i, eja, ejb]; done)) (by simp only [cThen, c1, c2, c3, eja, ejb, Bool.and_self, Bool.and_true, Bool.true_and, Bool.and_false, Bool.false_and, if_true, if_false, Bool.false_eq_true, ↓reduceIte] <;> first | rfl | (simp only [eja, ejb, if_true, if_false, ↓reduceIte] <;> rfl) | (simp [cFind, kP, va_up_i, eja, ejb]; done))
