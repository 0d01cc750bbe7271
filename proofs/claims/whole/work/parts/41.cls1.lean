set_option maxHeartbeats 1000000 in
set_option maxRecDepth 4000 in
theorem c_X4_found (l : Launch) {G : Gl} {par : Nat → Pa} {tp : Tp} {sh : Nat → Sh} {tl : Nat → Int32} {hi : Int32} {M : MS} {k : Nat} (hk : k < 7) : Ct l G yX4_found cX4_found 2 (some .int) 0 0 [.ref (ga G (0)), .int (nI k)] ((par, tp, sh, tl, hi), M) (some (.int (-1000000001 - nI k))) ((par, tp, sh, upd tl k (tl k + 1), hi), M) := by
  refine Ct.of (own := RX4) (by decide) rfl (Nat.le_of_ble_eq_true rfl) rfl (fun X => ?_)
  refine v_aload_n dX4_found_0 0 rfl 1 rfl ?_
  refine v_get (i := 6) (ci := 4) (T := TX4) (C := RX4) (N := 8) (v := .ref (ga G (92))) dX4_found_1 inB4 rfl qw_202 rfl (by decide) (by decide) (cel_obj G _) rfl 4 rfl ?_
  refine v_iload_n dX4_found_4 1 rfl 5 rfl ?_
  refine v_dup2 dX4_found_5 rfl rfl 6 rfl ?_
  refine v_iald (a := tl) dX4_found_6 (by decide) (cel_tol G _) k rfl (by omega) (by decide) 7 rfl ?_
  refine v_iconst dX4_found_7 1 rfl 8 rfl ?_
  refine v_iadd dX4_found_8 9 rfl ?_
  refine v_iast (w2 := ((par, tp, sh, upd tl k ((tl k) + 1), hi), M)) dX4_found_9 (by decide) (cel_tol G _) k rfl (by omega) (by decide) u_tl 10 rfl ?_
  refine v_ldc dX4_found_10 (-1000000001) qw_238 12 rfl ?_
  refine v_iload_n dX4_found_12 1 rfl 13 rfl ?_
  refine v_isub dX4_found_13 14 rfl ?_
  exact v_iret dX4_found_14 (by rfl) (by rfl)
set_option maxHeartbeats 1000000 in
set_option maxRecDepth 4000 in
theorem c_X4_isEwe (l : Launch) {G : Gl} {K : CS} {M : MS} (hsz : (K.1 0).2.1 ≤ 8) (a : Int32) : Ct l G yX4_isEwe cX4_isEwe 2 (some .boolean) 1 22 [.ref (ga G (0)), .int a] (K, M) (some (.int ((b2 (inE (K.1 0).2.1 a), K)).1)) (((b2 (inE (K.1 0).2.1 a), K)).2, M) := by
  obtain ⟨par, tp, sh, tl, hi⟩ := K
  dsimp only at hsz
  refine Ct.of (own := RX4) (by decide) rfl (Nat.le_of_ble_eq_true rfl) rfl (fun X => ?_)
  refine v_iload_n dX4_isEwe_0 1 rfl 1 rfl ?_
  refine v_iconst dX4_isEwe_1 0 rfl 2 rfl ?_
  refine v_aload_n dX4_isEwe_2 0 rfl 3 rfl ?_
  refine v_get (i := 0) (ci := 4) (T := TX4) (C := RX4) (N := 8) (v := .ref (ga G (1 + 0))) dX4_isEwe_3 inB4 rfl qw_196 rfl (by decide) (by decide) (cel_obj G _) rfl 6 rfl ?_
  refine v_get (i := 1) (ci := 1) (T := TX1) (C := RX1) (N := 7) (v := .int (nI (par 0).2.1)) dX4_isEwe_6 inB1 rfl qw_118 rfl (by decide) (k_par h03) (cel_par G _ h03) rfl 9 rfl ?_
  refine v_iconst dX4_isEwe_9 1 rfl 10 rfl ?_
  refine v_isub dX4_isEwe_10 11 rfl ?_
  refine v_callS (c_X4_isWithin l a 0 ((nI (par 0).2.1) - 1) (lo := 0) (hi := ((((par 0).2.1 : Nat) : Int) - 1)) rfl (nI_m1 (by omega))) kal_X4_isWithin rfl dX4_isEwe_11 qw_228 qw_229 (by decide) [] (Nat.le_of_ble_eq_true rfl) rfl rfl 14 rfl ?_
  exact v_zret dX4_isEwe_14 (g_nar _) (by rfl) (by rfl)
set_option maxHeartbeats 1000000 in
set_option maxRecDepth 4000 in
theorem c_X4_weather (l : Launch) {G : Gl} {K : CS} {M : MS} (a b : Int32) : Ct l G yX4_weather cX4_weather 4 (some .int) 2 42 [.ref (ga G (0)), .int a, .int b] (K, M) (some (.int (cWeather K a b).1)) ((cWeather K a b).2, M) := by
  obtain ⟨par, tp, sh, tl, hi⟩ := K
  refine Ct.of (own := RX4) (by decide) rfl (Nat.le_of_ble_eq_true rfl) rfl (fun X => ?_)
  refine v_iload_n dX4_weather_0 1 rfl 1 rfl ?_
  refine v_callS (c_X4_isMonth l a) kal_X4_isMonth rfl dX4_weather_1 qw_225 qw_226 (by decide) [] (Nat.le_of_ble_eq_true rfl) rfl rfl 4 rfl ?_
  refine v_ifb_eq dX4_weather_4 14 (by decide) 7 rfl (fun c1 => ?_) (fun c1 => ?_)
  · skip
    refine v_aload_n dX4_weather_14 0 rfl 15 rfl ?_
    refine v_iconst dX4_weather_15 0 rfl 16 rfl ?_
    refine v_callV (c_X4_found l (k := 0) (by decide)) kal_X4_found rfl dX4_weather_16 qw_234 qw_236 qw_0 rfl (by decide) (cel_obj G _) (by decide) [] (Nat.le_of_ble_eq_true rfl) rfl rfl 19 rfl ?_
    exact v_iret dX4_weather_19 (by simp only [cWeather, c1, Bool.and_self, Bool.and_true, Bool.true_and, Bool.and_false, Bool.false_and, if_true, if_false, Bool.false_eq_true, ↓reduceIte] <;> simp [cFind, kP, kL, sW, sE, pAdd, pCut, pUndo, va_up_i, va_up_s, bx_uu, true_and]) (by simp only [cWeather, c1, Bool.and_self, Bool.and_true, Bool.true_and, Bool.and_false, Bool.false_and, if_true, if_false, Bool.false_eq_true, ↓reduceIte] <;> simp [cFind, kP, kL, sW, sE, pAdd, pCut, pUndo, va_up_i, va_up_s, bx_uu, true_and])
  · skip
    obtain ⟨ja, h1ja, h2ja, rfl⟩ := inb_ix (lo := 0) (hi := 11) c1
    have eja : (nI ja).toNatClampNeg = ja := nI_clamp (by omega)
    refine v_iload_n dX4_weather_7 2 rfl 8 rfl ?_
    refine v_callS (c_X4_isWeather l b) kal_X4_isWeather rfl dX4_weather_8 qw_231 qw_232 (by decide) [] (Nat.le_of_ble_eq_true rfl) rfl rfl 11 rfl ?_
    refine v_ifb_ne dX4_weather_11 20 (by decide) 14 rfl (fun c2 => ?_) (fun c2 => ?_)
    · skip
      refine v_aload_n dX4_weather_20 0 rfl 21 rfl ?_
      refine v_get (i := 0) (ci := 4) (T := TX4) (C := RX4) (N := 8) (v := .ref (ga G (1 + 0))) dX4_weather_21 inB4 rfl qw_196 rfl (by decide) (by decide) (cel_obj G _) rfl 24 rfl ?_
      refine v_get (i := 2) (ci := 1) (T := TX1) (C := RX1) (N := 7) (v := .ref (ga G (4 + 0))) dX4_weather_24 inB1 rfl qw_120 rfl (by decide) (k_par h03) (cel_par G _ h03) rfl 27 rfl ?_
      refine v_iload_n dX4_weather_27 1 rfl 28 rfl ?_
      refine v_iald (a := (par 0).2.2.1) dX4_weather_28 (k_wea h03) (cel_wea G _ h03) ja rfl (by omega) (by decide) 29 rfl ?_
      refine v_istore_n dX4_weather_29 3 rfl (by decide) [(3, .int ((par 0).2.2.1 ja)), (0, .ref (ga G (0))), (1, .int (nI ja)), (2, .int b)] rfl 30 rfl ?_
      refine v_aload_n dX4_weather_30 1 rfl 31 rfl ?_
      refine v_get (i := 0) (ci := 4) (T := TX4) (C := RX4) (N := 8) (v := .ref (ga G (1 + 0))) dX4_weather_31 inB4 rfl qw_196 rfl (by decide) (by decide) (cel_obj G _) rfl 34 rfl ?_
      refine v_get (i := 2) (ci := 1) (T := TX1) (C := RX1) (N := 7) (v := .ref (ga G (4 + 0))) dX4_weather_34 inB1 rfl qw_120 rfl (by decide) (k_par h03) (cel_par G _ h03) rfl 37 rfl ?_
      refine v_iload_n dX4_weather_37 2 rfl 38 rfl ?_
      refine v_iload_n dX4_weather_38 3 rfl 39 rfl ?_
      refine v_w (w2 := ((va_up par 0 ((par 0).1, (par 0).2.1, (par 0).2.2.1, (par 0).2.2.2.1, (par 0).2.2.2.2.1, (par 0).2.2.2.2.2.1, (par 0).2.2.2.2.2.2), tp, sh, tl, hi), M)) (congrArg (fun z => ((z, tp, sh, tl, hi), M)) (va_up_i par 0).symm) ?_
      refine v_iast (w2 := ((va_up par 0 ((par 0).1, (par 0).2.1, (upd (par 0).2.2.1 ja b), (par 0).2.2.2.1, (par 0).2.2.2.2.1, (par 0).2.2.2.2.2.1, (par 0).2.2.2.2.2.2), tp, sh, tl, hi), M)) dX4_weather_39 (k_wea h03) (f_wea h03) ja rfl (by omega) (by decide) (u_W h03) 40 rfl ?_
      refine v_iload_n dX4_weather_40 0 rfl 41 rfl ?_
      exact v_iret dX4_weather_41 (by simp only [cWeather, c1, c2, eja, Bool.and_self, Bool.and_true, Bool.true_and, Bool.and_false, Bool.false_and, if_true, if_false, Bool.false_eq_true, ↓reduceIte] <;> simp [cFind, kP, kL, sW, sE, pAdd, pCut, pUndo, va_up_i, va_up_s, bx_uu, eja]) (by simp only [cWeather, c1, c2, eja, Bool.and_self, Bool.and_true, Bool.true_and, Bool.and_false, Bool.false_and, if_true, if_false, Bool.false_eq_true, ↓reduceIte] <;> simp [cFind, kP, kL, sW, sE, pAdd, pCut, pUndo, va_up_i, va_up_s, bx_uu, eja])
    · skip
      refine v_aload_n dX4_weather_14 0 rfl 15 rfl ?_
      refine v_iconst dX4_weather_15 0 rfl 16 rfl ?_
      refine v_callV (c_X4_found l (k := 0) (by decide)) kal_X4_found rfl dX4_weather_16 qw_234 qw_236 qw_0 rfl (by decide) (cel_obj G _) (by decide) [] (Nat.le_of_ble_eq_true rfl) rfl rfl 19 rfl ?_
      exact v_iret dX4_weather_19 (by simp only [cWeather, c1, c2, eja, Bool.and_self, Bool.and_true, Bool.true_and, Bool.and_false, Bool.false_and, if_true, if_false, Bool.false_eq_true, ↓reduceIte] <;> simp [cFind, kP, kL, sW, sE, pAdd, pCut, pUndo, va_up_i, va_up_s, bx_uu, eja]) (by simp only [cWeather, c1, c2, eja, Bool.and_self, Bool.and_true, Bool.true_and, Bool.and_false, Bool.false_and, if_true, if_false, Bool.false_eq_true, ↓reduceIte] <;> simp [cFind, kP, kL, sW, sE, pAdd, pCut, pUndo, va_up_i, va_up_s, bx_uu, eja])
set_option maxHeartbeats 1000000 in
set_option maxRecDepth 4000 in
theorem c_X4_monthOf (l : Launch) {G : Gl} {K : CS} {M : MS} (a b : Int32) : Ct l G yX4_monthOf cX4_monthOf 3 (some .int) 2 42 [.ref (ga G (0)), .int a, .int b] (K, M) (some (.int (cMonthOf K a b).1)) ((cMonthOf K a b).2, M) := by
  obtain ⟨par, tp, sh, tl, hi⟩ := K
  refine Ct.of (own := RX4) (by decide) rfl (Nat.le_of_ble_eq_true rfl) rfl (fun X => ?_)
  refine v_iload_n dX4_monthOf_0 1 rfl 1 rfl ?_
  refine v_callS (c_X4_isMonth l a) kal_X4_isMonth rfl dX4_monthOf_1 qw_225 qw_226 (by decide) [] (Nat.le_of_ble_eq_true rfl) rfl rfl 4 rfl ?_
  refine v_ifb_ne dX4_monthOf_4 13 (by decide) 7 rfl (fun c1 => ?_) (fun c1 => ?_)
  · skip
    obtain ⟨ja, h1ja, h2ja, rfl⟩ := inb_ix (lo := 0) (hi := 11) c1
    have eja : (nI ja).toNatClampNeg = ja := nI_clamp (by omega)
    refine v_iload_n dX4_monthOf_13 2 rfl 14 rfl ?_
    by_cases c2_0 : b = 0
    · refine v_topi 0 c2_0 ?_
      refine v_tabIn dX4_monthOf_14 (by decide) (by decide) (off := 26) (by decide) 40 (by decide) ?_
      refine v_bipush dX4_monthOf_40 100 rfl 42 rfl ?_
      refine v_aload_n dX4_monthOf_42 0 rfl 43 rfl ?_
      refine v_get (i := 0) (ci := 4) (T := TX4) (C := RX4) (N := 8) (v := .ref (ga G (1 + 0))) dX4_monthOf_43 inB4 rfl qw_196 rfl (by decide) (by decide) (cel_obj G _) rfl 46 rfl ?_
      refine v_get (i := 2) (ci := 1) (T := TX1) (C := RX1) (N := 7) (v := .ref (ga G (4 + 0))) dX4_monthOf_46 inB1 rfl qw_120 rfl (by decide) (k_par h03) (cel_par G _ h03) rfl 49 rfl ?_
      refine v_iload_n dX4_monthOf_49 1 rfl 50 rfl ?_
      refine v_iald (a := (par 0).2.2.1) dX4_monthOf_50 (k_wea h03) (cel_wea G _ h03) ja rfl (by omega) (by decide) 51 rfl ?_
      refine v_iadd dX4_monthOf_51 52 rfl ?_
      exact v_iret dX4_monthOf_52 (by simp only [cMonthOf, c1, eja, Bool.and_self, Bool.and_true, Bool.true_and, Bool.and_false, Bool.false_and, if_true, if_false, Bool.false_eq_true, ↓reduceIte] <;> simp [cFind, kP, kL, sW, sE, pAdd, pCut, pUndo, va_up_i, va_up_s, bx_uu, c2_0, eja]) (by simp only [cMonthOf, c1, eja, Bool.and_self, Bool.and_true, Bool.true_and, Bool.and_false, Bool.false_and, if_true, if_false, Bool.false_eq_true, ↓reduceIte] <;> simp [cFind, kP, kL, sW, sE, pAdd, pCut, pUndo, va_up_i, va_up_s, bx_uu, c2_0, eja])
    by_cases c2_1 : b = 1
    · refine v_topi 1 c2_1 ?_
      refine v_tabIn dX4_monthOf_14 (by decide) (by decide) (off := 39) (by decide) 53 (by decide) ?_
      refine v_aload_n dX4_monthOf_53 0 rfl 54 rfl ?_
      refine v_get (i := 0) (ci := 4) (T := TX4) (C := RX4) (N := 8) (v := .ref (ga G (1 + 0))) dX4_monthOf_54 inB4 rfl qw_196 rfl (by decide) (by decide) (cel_obj G _) rfl 57 rfl ?_
      refine v_get (i := 3) (ci := 1) (T := TX1) (C := RX1) (N := 7) (v := .ref (ga G (7 + 0))) dX4_monthOf_57 inB1 rfl qw_123 rfl (by decide) (k_par h03) (cel_par G _ h03) rfl 60 rfl ?_
      refine v_iload_n dX4_monthOf_60 1 rfl 61 rfl ?_
      refine v_iald (a := (par 0).2.2.2.1) dX4_monthOf_61 (k_sto h03) (cel_sto G _ h03) ja rfl (by omega) (by decide) 62 rfl ?_
      exact v_iret dX4_monthOf_62 (by simp only [cMonthOf, c1, eja, Bool.and_self, Bool.and_true, Bool.true_and, Bool.and_false, Bool.false_and, if_true, if_false, Bool.false_eq_true, ↓reduceIte] <;> simp [cFind, kP, kL, sW, sE, pAdd, pCut, pUndo, va_up_i, va_up_s, bx_uu, c2_0, c2_1, eja]) (by simp only [cMonthOf, c1, eja, Bool.and_self, Bool.and_true, Bool.true_and, Bool.and_false, Bool.false_and, if_true, if_false, Bool.false_eq_true, ↓reduceIte] <;> simp [cFind, kP, kL, sW, sE, pAdd, pCut, pUndo, va_up_i, va_up_s, bx_uu, c2_0, c2_1, eja])
    by_cases c2_2 : b = 2
    · refine v_topi 2 c2_2 ?_
      refine v_tabIn dX4_monthOf_14 (by decide) (by decide) (off := 49) (by decide) 63 (by decide) ?_
      refine v_aload_n dX4_monthOf_63 0 rfl 64 rfl ?_
      refine v_get (i := 0) (ci := 4) (T := TX4) (C := RX4) (N := 8) (v := .ref (ga G (1 + 0))) dX4_monthOf_64 inB4 rfl qw_196 rfl (by decide) (by decide) (cel_obj G _) rfl 67 rfl ?_
      refine v_get (i := 4) (ci := 1) (T := TX1) (C := RX1) (N := 7) (v := .ref (ga G (10 + 0))) dX4_monthOf_67 inB1 rfl qw_126 rfl (by decide) (k_par h03) (cel_par G _ h03) rfl 70 rfl ?_
      refine v_iload_n dX4_monthOf_70 1 rfl 71 rfl ?_
      refine v_iald (a := (par 0).2.2.2.2.1) dX4_monthOf_71 (k_rou h03) (cel_rou G _ h03) ja rfl (by omega) (by decide) 72 rfl ?_
      exact v_iret dX4_monthOf_72 (by simp only [cMonthOf, c1, eja, Bool.and_self, Bool.and_true, Bool.true_and, Bool.and_false, Bool.false_and, if_true, if_false, Bool.false_eq_true, ↓reduceIte] <;> simp [cFind, kP, kL, sW, sE, pAdd, pCut, pUndo, va_up_i, va_up_s, bx_uu, c2_0, c2_1, c2_2, eja]) (by simp only [cMonthOf, c1, eja, Bool.and_self, Bool.and_true, Bool.true_and, Bool.and_false, Bool.false_and, if_true, if_false, Bool.false_eq_true, ↓reduceIte] <;> simp [cFind, kP, kL, sW, sE, pAdd, pCut, pUndo, va_up_i, va_up_s, bx_uu, c2_0, c2_1, c2_2, eja])
    refine v_tabOut dX4_monthOf_14 (sw_out (lo := 0) (hi := 2) (by decide) (by decide) (fun k h1 h2 => by rcases (show k = 0 ∨ k = 1 ∨ k = 2 by omega) with rfl | rfl | rfl <;> first | exact c2_0 | exact c2_1 | exact c2_2)) 73 (by decide) ?_
    refine v_aload_n dX4_monthOf_73 0 rfl 74 rfl ?_
    refine v_iconst dX4_monthOf_74 0 rfl 75 rfl ?_
    refine v_callV (c_X4_found l (k := 0) (by decide)) kal_X4_found rfl dX4_monthOf_75 qw_234 qw_236 qw_0 rfl (by decide) (cel_obj G _) (by decide) [] (Nat.le_of_ble_eq_true rfl) rfl rfl 78 rfl ?_
    exact v_iret dX4_monthOf_78 (by simp only [cMonthOf, c1, eja, Bool.and_self, Bool.and_true, Bool.true_and, Bool.and_false, Bool.false_and, if_true, if_false, Bool.false_eq_true, ↓reduceIte] <;> simp [cFind, kP, kL, sW, sE, pAdd, pCut, pUndo, va_up_i, va_up_s, bx_uu, c2_0, c2_1, c2_2, eja]) (by simp only [cMonthOf, c1, eja, Bool.and_self, Bool.and_true, Bool.true_and, Bool.and_false, Bool.false_and, if_true, if_false, Bool.false_eq_true, ↓reduceIte] <;> simp [cFind, kP, kL, sW, sE, pAdd, pCut, pUndo, va_up_i, va_up_s, bx_uu, c2_0, c2_1, c2_2, eja])
  · skip
    refine v_aload_n dX4_monthOf_7 0 rfl 8 rfl ?_
    refine v_iconst dX4_monthOf_8 0 rfl 9 rfl ?_
    refine v_callV (c_X4_found l (k := 0) (by decide)) kal_X4_found rfl dX4_monthOf_9 qw_234 qw_236 qw_0 rfl (by decide) (cel_obj G _) (by decide) [] (Nat.le_of_ble_eq_true rfl) rfl rfl 12 rfl ?_
    exact v_iret dX4_monthOf_12 (by simp only [cMonthOf, c1, Bool.and_self, Bool.and_true, Bool.true_and, Bool.and_false, Bool.false_and, if_true, if_false, Bool.false_eq_true, ↓reduceIte] <;> simp [cFind, kP, kL, sW, sE, pAdd, pCut, pUndo, va_up_i, va_up_s, bx_uu, true_and]) (by simp only [cMonthOf, c1, Bool.and_self, Bool.and_true, Bool.true_and, Bool.and_false, Bool.false_and, if_true, if_false, Bool.false_eq_true, ↓reduceIte] <;> simp [cFind, kP, kL, sW, sE, pAdd, pCut, pUndo, va_up_i, va_up_s, bx_uu, true_and])
set_option maxHeartbeats 1000000 in
set_option maxRecDepth 4000 in
theorem c_X4_now (l : Launch) {G : Gl} {K : CS} {M : MS} (hsz : (K.1 0).2.1 ≤ 8) (hmo : (K.1 0).1 < 2 ^ 20) (a : Int32) : Ct l G yX4_now cX4_now 2 (some .int) 1 25 [.ref (ga G (0)), .int a] (K, M) (some (.int (cNow K a).1)) ((cNow K a).2, M) := by
  obtain ⟨par, tp, sh, tl, hi⟩ := K
  dsimp only at hsz hmo
  refine Ct.of (own := RX4) (by decide) rfl (Nat.le_of_ble_eq_true rfl) rfl (fun X => ?_)
  refine v_iload_n dX4_now_0 1 rfl 1 rfl ?_
  by_cases c1_0 : a = 0
  · refine v_topi 0 c1_0 ?_
    refine v_tabIn dX4_now_1 (by decide) (by decide) (off := 39) (by decide) 40 (by decide) ?_
    refine v_aload_n dX4_now_40 0 rfl 41 rfl ?_
    refine v_get (i := 0) (ci := 4) (T := TX4) (C := RX4) (N := 8) (v := .ref (ga G (1 + 0))) dX4_now_41 inB4 rfl qw_196 rfl (by decide) (by decide) (cel_obj G _) rfl 44 rfl ?_
    refine v_get (i := 0) (ci := 1) (T := TX1) (C := RX1) (N := 7) (v := .int (nI (par 0).1)) dX4_now_44 inB1 rfl qw_116 rfl (by decide) (k_par h03) (cel_par G _ h03) rfl 47 rfl ?_
    exact v_iret dX4_now_47 (by simp only [cNow, true_and, Bool.and_self, Bool.and_true, Bool.true_and, Bool.and_false, Bool.false_and, if_true, if_false, Bool.false_eq_true, ↓reduceIte] <;> simp [cFind, kP, kL, sW, sE, pAdd, pCut, pUndo, va_up_i, va_up_s, bx_uu, c1_0]) (by simp only [cNow, true_and, Bool.and_self, Bool.and_true, Bool.true_and, Bool.and_false, Bool.false_and, if_true, if_false, Bool.false_eq_true, ↓reduceIte] <;> simp [cFind, kP, kL, sW, sE, pAdd, pCut, pUndo, va_up_i, va_up_s, bx_uu, c1_0])
  by_cases c1_1 : a = 1
  · refine v_topi 1 c1_1 ?_
    refine v_tabIn dX4_now_1 (by decide) (by decide) (off := 47) (by decide) 48 (by decide) ?_
    refine v_aload_n dX4_now_48 0 rfl 49 rfl ?_
    refine v_get (i := 0) (ci := 4) (T := TX4) (C := RX4) (N := 8) (v := .ref (ga G (1 + 0))) dX4_now_49 inB4 rfl qw_196 rfl (by decide) (by decide) (cel_obj G _) rfl 52 rfl ?_
    refine v_w (w2 := ((va_up par 0 ((par 0).1, (par 0).2.1, (par 0).2.2.1, (par 0).2.2.2.1, (par 0).2.2.2.2.1, (par 0).2.2.2.2.2.1, (par 0).2.2.2.2.2.2), tp, sh, tl, hi), M)) (congrArg (fun z => ((z, tp, sh, tl, hi), M)) (va_up_i par 0).symm) ?_
    refine v_callV (c_X1_monthOfYear l h03 (by omega) ) kal_X1_monthOfYear rfl dX4_now_52 qw_247 qw_248 qw_249 rfl (k_par h03) (f_par h03) (by decide) [] (Nat.le_of_ble_eq_true rfl) rfl rfl 55 rfl ?_
    exact v_iret dX4_now_55 (by simp only [cNow, true_and, Bool.and_self, Bool.and_true, Bool.true_and, Bool.and_false, Bool.false_and, if_true, if_false, Bool.false_eq_true, ↓reduceIte] <;> simp [cFind, kP, kL, sW, sE, pAdd, pCut, pUndo, va_up_i, va_up_s, bx_uu, c1_0, c1_1]) (by simp only [cNow, true_and, Bool.and_self, Bool.and_true, Bool.true_and, Bool.and_false, Bool.false_and, if_true, if_false, Bool.false_eq_true, ↓reduceIte] <;> simp [cFind, kP, kL, sW, sE, pAdd, pCut, pUndo, va_up_i, va_up_s, bx_uu, c1_0, c1_1])
  by_cases c1_2 : a = 2
  · refine v_topi 2 c1_2 ?_
    refine v_tabIn dX4_now_1 (by decide) (by decide) (off := 55) (by decide) 56 (by decide) ?_
    refine v_bipush dX4_now_56 100 rfl 58 rfl ?_
    refine v_aload_n dX4_now_58 0 rfl 59 rfl ?_
    refine v_get (i := 0) (ci := 4) (T := TX4) (C := RX4) (N := 8) (v := .ref (ga G (1 + 0))) dX4_now_59 inB4 rfl qw_196 rfl (by decide) (by decide) (cel_obj G _) rfl 62 rfl ?_
    refine v_get (i := 2) (ci := 1) (T := TX1) (C := RX1) (N := 7) (v := .ref (ga G (4 + 0))) dX4_now_62 inB1 rfl qw_120 rfl (by decide) (k_par h03) (cel_par G _ h03) rfl 65 rfl ?_
    refine v_aload_n dX4_now_65 0 rfl 66 rfl ?_
    refine v_get (i := 0) (ci := 4) (T := TX4) (C := RX4) (N := 8) (v := .ref (ga G (1 + 0))) dX4_now_66 inB4 rfl qw_196 rfl (by decide) (by decide) (cel_obj G _) rfl 69 rfl ?_
    refine v_w (w2 := ((va_up par 0 ((par 0).1, (par 0).2.1, (par 0).2.2.1, (par 0).2.2.2.1, (par 0).2.2.2.2.1, (par 0).2.2.2.2.2.1, (par 0).2.2.2.2.2.2), tp, sh, tl, hi), M)) (congrArg (fun z => ((z, tp, sh, tl, hi), M)) (va_up_i par 0).symm) ?_
    refine v_callV (c_X1_monthOfYear l h03 (by omega) ) kal_X1_monthOfYear rfl dX4_now_69 qw_247 qw_248 qw_249 rfl (k_par h03) (f_par h03) (by decide) [.ref (ga G (4 + 0)), .int 100] (Nat.le_of_ble_eq_true rfl) rfl rfl 72 rfl ?_
    refine v_iald (a := (par 0).2.2.1) dX4_now_72 (k_wea h03) (f_wea h03) ((par 0).1 % 12) rfl (by omega) (by decide) 73 rfl ?_
    refine v_iadd dX4_now_73 74 rfl ?_
    exact v_iret dX4_now_74 (by simp only [cNow, true_and, Bool.and_self, Bool.and_true, Bool.true_and, Bool.and_false, Bool.false_and, if_true, if_false, Bool.false_eq_true, ↓reduceIte] <;> simp [cFind, kP, kL, sW, sE, pAdd, pCut, pUndo, va_up_i, va_up_s, bx_uu, c1_0, c1_1, c1_2]) (by simp only [cNow, true_and, Bool.and_self, Bool.and_true, Bool.true_and, Bool.and_false, Bool.false_and, if_true, if_false, Bool.false_eq_true, ↓reduceIte] <;> simp [cFind, kP, kL, sW, sE, pAdd, pCut, pUndo, va_up_i, va_up_s, bx_uu, c1_0, c1_1, c1_2])
  by_cases c1_3 : a = 3
  · refine v_topi 3 c1_3 ?_
    refine v_tabIn dX4_now_1 (by decide) (by decide) (off := 74) (by decide) 75 (by decide) ?_
    refine v_aload_n dX4_now_75 0 rfl 76 rfl ?_
    refine v_get (i := 0) (ci := 4) (T := TX4) (C := RX4) (N := 8) (v := .ref (ga G (1 + 0))) dX4_now_76 inB4 rfl qw_196 rfl (by decide) (by decide) (cel_obj G _) rfl 79 rfl ?_
    refine v_get (i := 3) (ci := 1) (T := TX1) (C := RX1) (N := 7) (v := .ref (ga G (7 + 0))) dX4_now_79 inB1 rfl qw_123 rfl (by decide) (k_par h03) (cel_par G _ h03) rfl 82 rfl ?_
    refine v_callS (c_X4_sum l (w := ((par, tp, sh, tl, hi), M)) (k9 := 7 + 0) (N9 := 12) (a9 := (par 0).2.2.2.1) (k_sto h03) (cel_sto G _ h03) (by decide)) kal_X4_sum rfl dX4_now_82 qw_251 qw_252 (by decide) [] (Nat.le_of_ble_eq_true rfl) rfl rfl 85 rfl ?_
    exact v_iret dX4_now_85 (by simp only [cNow, true_and, Bool.and_self, Bool.and_true, Bool.true_and, Bool.and_false, Bool.false_and, if_true, if_false, Bool.false_eq_true, ↓reduceIte] <;> simp [cFind, kP, kL, sW, sE, pAdd, pCut, pUndo, va_up_i, va_up_s, bx_uu, c1_0, c1_1, c1_2, c1_3]) (by simp only [cNow, true_and, Bool.and_self, Bool.and_true, Bool.true_and, Bool.and_false, Bool.false_and, if_true, if_false, Bool.false_eq_true, ↓reduceIte] <;> simp [cFind, kP, kL, sW, sE, pAdd, pCut, pUndo, va_up_i, va_up_s, bx_uu, c1_0, c1_1, c1_2, c1_3])
  by_cases c1_4 : a = 4
  · refine v_topi 4 c1_4 ?_
    refine v_tabIn dX4_now_1 (by decide) (by decide) (off := 85) (by decide) 86 (by decide) ?_
    refine v_aload_n dX4_now_86 0 rfl 87 rfl ?_
    refine v_get (i := 0) (ci := 4) (T := TX4) (C := RX4) (N := 8) (v := .ref (ga G (1 + 0))) dX4_now_87 inB4 rfl qw_196 rfl (by decide) (by decide) (cel_obj G _) rfl 90 rfl ?_
    refine v_get (i := 4) (ci := 1) (T := TX1) (C := RX1) (N := 7) (v := .ref (ga G (10 + 0))) dX4_now_90 inB1 rfl qw_126 rfl (by decide) (k_par h03) (cel_par G _ h03) rfl 93 rfl ?_
    refine v_callS (c_X4_sum l (w := ((par, tp, sh, tl, hi), M)) (k9 := 10 + 0) (N9 := 12) (a9 := (par 0).2.2.2.2.1) (k_rou h03) (cel_rou G _ h03) (by decide)) kal_X4_sum rfl dX4_now_93 qw_251 qw_252 (by decide) [] (Nat.le_of_ble_eq_true rfl) rfl rfl 96 rfl ?_
    exact v_iret dX4_now_96 (by simp only [cNow, true_and, Bool.and_self, Bool.and_true, Bool.true_and, Bool.and_false, Bool.false_and, if_true, if_false, Bool.false_eq_true, ↓reduceIte] <;> simp [cFind, kP, kL, sW, sE, pAdd, pCut, pUndo, va_up_i, va_up_s, bx_uu, c1_0, c1_1, c1_2, c1_3, c1_4]) (by simp only [cNow, true_and, Bool.and_self, Bool.and_true, Bool.true_and, Bool.and_false, Bool.false_and, if_true, if_false, Bool.false_eq_true, ↓reduceIte] <;> simp [cFind, kP, kL, sW, sE, pAdd, pCut, pUndo, va_up_i, va_up_s, bx_uu, c1_0, c1_1, c1_2, c1_3, c1_4])
  by_cases c1_5 : a = 5
  · refine v_topi 5 c1_5 ?_
    refine v_tabIn dX4_now_1 (by decide) (by decide) (off := 96) (by decide) 97 (by decide) ?_
    refine v_aload_n dX4_now_97 0 rfl 98 rfl ?_
    refine v_get (i := 0) (ci := 4) (T := TX4) (C := RX4) (N := 8) (v := .ref (ga G (1 + 0))) dX4_now_98 inB4 rfl qw_196 rfl (by decide) (by decide) (cel_obj G _) rfl 101 rfl ?_
    refine v_w (w2 := ((va_up par 0 ((par 0).1, (par 0).2.1, (par 0).2.2.1, (par 0).2.2.2.1, (par 0).2.2.2.2.1, (par 0).2.2.2.2.2.1, (par 0).2.2.2.2.2.2), tp, sh, tl, hi), M)) (congrArg (fun z => ((z, tp, sh, tl, hi), M)) (va_up_i par 0).symm) ?_
    refine v_callV (c_X1_woolOnAll l h03 (by omega) ) kal_X1_woolOnAll rfl dX4_now_101 qw_254 qw_255 qw_256 rfl (k_par h03) (f_par h03) (by decide) [] (Nat.le_of_ble_eq_true rfl) rfl rfl 104 rfl ?_
    exact v_iret dX4_now_104 (by simp only [cNow, true_and, Bool.and_self, Bool.and_true, Bool.true_and, Bool.and_false, Bool.false_and, if_true, if_false, Bool.false_eq_true, ↓reduceIte] <;> simp [cFind, kP, kL, sW, sE, pAdd, pCut, pUndo, va_up_i, va_up_s, bx_uu, c1_0, c1_1, c1_2, c1_3, c1_4, c1_5]) (by simp only [cNow, true_and, Bool.and_self, Bool.and_true, Bool.true_and, Bool.and_false, Bool.false_and, if_true, if_false, Bool.false_eq_true, ↓reduceIte] <;> simp [cFind, kP, kL, sW, sE, pAdd, pCut, pUndo, va_up_i, va_up_s, bx_uu, c1_0, c1_1, c1_2, c1_3, c1_4, c1_5])
  refine v_tabOut dX4_now_1 (sw_out (lo := 0) (hi := 5) (by decide) (by decide) (fun k h1 h2 => by rcases (show k = 0 ∨ k = 1 ∨ k = 2 ∨ k = 3 ∨ k = 4 ∨ k = 5 by omega) with rfl | rfl | rfl | rfl | rfl | rfl <;> first | exact c1_0 | exact c1_1 | exact c1_2 | exact c1_3 | exact c1_4 | exact c1_5)) 105 (by decide) ?_
  refine v_aload_n dX4_now_105 0 rfl 106 rfl ?_
  refine v_iconst dX4_now_106 0 rfl 107 rfl ?_
  refine v_callV (c_X4_found l (k := 0) (by decide)) kal_X4_found rfl dX4_now_107 qw_234 qw_236 qw_0 rfl (by decide) (cel_obj G _) (by decide) [] (Nat.le_of_ble_eq_true rfl) rfl rfl 110 rfl ?_
  exact v_iret dX4_now_110 (by simp only [cNow, true_and, Bool.and_self, Bool.and_true, Bool.true_and, Bool.and_false, Bool.false_and, if_true, if_false, Bool.false_eq_true, ↓reduceIte] <;> simp [cFind, kP, kL, sW, sE, pAdd, pCut, pUndo, va_up_i, va_up_s, bx_uu, c1_0, c1_1, c1_2, c1_3, c1_4, c1_5]) (by simp only [cNow, true_and, Bool.and_self, Bool.and_true, Bool.true_and, Bool.and_false, Bool.false_and, if_true, if_false, Bool.false_eq_true, ↓reduceIte] <;> simp [cFind, kP, kL, sW, sE, pAdd, pCut, pUndo, va_up_i, va_up_s, bx_uu, c1_0, c1_1, c1_2, c1_3, c1_4, c1_5])
set_option maxHeartbeats 1000000 in
set_option maxRecDepth 4000 in
theorem c_X4_ewe (l : Launch) {G : Gl} {K : CS} {M : MS} (hsz : (K.1 0).2.1 ≤ 8) (a : Int32) : Ct l G yX4_ewe cX4_ewe 2 (some .int) 3 65 [.ref (ga G (0)), .int a] (K, M) (some (.int (cEwe K a).1)) ((cEwe K a).2, M) := by
  obtain ⟨par, tp, sh, tl, hi⟩ := K
  dsimp only at hsz
  refine Ct.of (own := RX4) (by decide) rfl (Nat.le_of_ble_eq_true rfl) rfl (fun X => ?_)
  refine v_iload_n dX4_ewe_0 1 rfl 1 rfl ?_
  refine v_callS (c_X4_isKind l a) kal_X4_isKind rfl dX4_ewe_1 qw_262 qw_263 (by decide) [] (Nat.le_of_ble_eq_true rfl) rfl rfl 4 rfl ?_
  refine v_ifb_ne dX4_ewe_4 13 (by decide) 7 rfl (fun c1 => ?_) (fun c1 => ?_)
  · skip
    refine v_aload_n dX4_ewe_13 0 rfl 14 rfl ?_
    refine v_get (i := 0) (ci := 4) (T := TX4) (C := RX4) (N := 8) (v := .ref (ga G (1 + 0))) dX4_ewe_14 inB4 rfl qw_196 rfl (by decide) (by decide) (cel_obj G _) rfl 17 rfl ?_
    refine v_w (w2 := ((va_up par 0 ((par 0).1, (par 0).2.1, (par 0).2.2.1, (par 0).2.2.2.1, (par 0).2.2.2.2.1, (par 0).2.2.2.2.2.1, (par 0).2.2.2.2.2.2), tp, sh, tl, hi), M)) (congrArg (fun z => ((z, tp, sh, tl, hi), M)) (va_up_i par 0).symm) ?_
    refine v_callV (c_X1_isFull l h03 (by omega) ) kal_X1_isFull rfl dX4_ewe_17 qw_265 qw_266 qw_267 rfl (k_par h03) (f_par h03) (by decide) [] (Nat.le_of_ble_eq_true rfl) rfl rfl 20 rfl ?_
    refine v_ifb_eq dX4_ewe_20 29 (by decide) 23 rfl (fun c2 => ?_) (fun c2 => ?_)
    · skip
      have dc2 := of_decide_eq_false c2
      refine v_aload_n dX4_ewe_29 0 rfl 30 rfl ?_
      refine v_get (i := 0) (ci := 4) (T := TX4) (C := RX4) (N := 8) (v := .ref (ga G (1 + 0))) dX4_ewe_30 inB4 rfl qw_196 rfl (by decide) (by decide) (cel_obj G _) rfl 33 rfl ?_
      refine v_iload_n dX4_ewe_33 1 rfl 34 rfl ?_
      refine v_iconst dX4_ewe_34 0 rfl 35 rfl ?_
      refine v_callV (c_X1_add l h03 (by omega) a 0) kal_X1_add rfl dX4_ewe_35 qw_269 qw_270 qw_271 rfl (k_par h03) (f_par h03) (by decide) [] (Nat.le_of_ble_eq_true rfl) rfl rfl 38 rfl ?_
      refine v_aload_n dX4_ewe_38 0 rfl 39 rfl ?_
      refine v_get (i := 0) (ci := 4) (T := TX4) (C := RX4) (N := 8) (v := .ref (ga G (1 + 0))) dX4_ewe_39 inB4 rfl qw_196 rfl (by decide) (by decide) (cel_obj G _) rfl 42 rfl ?_
      refine v_get (i := 1) (ci := 1) (T := TX1) (C := RX1) (N := 7) (v := .int (nI ((par 0).2.1 + 1))) dX4_ewe_42 inB1 rfl qw_118 rfl (by decide) (k_par h03) (f_par h03) rfl 45 rfl ?_
      refine v_iconst dX4_ewe_45 1 rfl 46 rfl ?_
      refine n_isub dX4_ewe_46 ((par 0).2.1 + 1) 1 rfl rfl (by omega) 47 rfl ?_
      exact v_iret dX4_ewe_47 (by simp only [cEwe, c1, c2, Bool.and_self, Bool.and_true, Bool.true_and, Bool.and_false, Bool.false_and, if_true, if_false, Bool.false_eq_true, ↓reduceIte] <;> simp [cFind, kP, kL, sW, sE, pAdd, pCut, pUndo, va_up_i, va_up_s, bx_uu, dc2]) (by simp only [cEwe, c1, c2, Bool.and_self, Bool.and_true, Bool.true_and, Bool.and_false, Bool.false_and, if_true, if_false, Bool.false_eq_true, ↓reduceIte] <;> simp [cFind, kP, kL, sW, sE, pAdd, pCut, pUndo, va_up_i, va_up_s, bx_uu, dc2])
    · skip
      have dc2 := of_decide_eq_true c2
      refine v_aload_n dX4_ewe_23 0 rfl 24 rfl ?_
      refine v_iconst dX4_ewe_24 1 rfl 25 rfl ?_
      refine v_callV (c_X4_found l (k := 1) (by decide)) kal_X4_found rfl dX4_ewe_25 qw_234 qw_236 qw_0 rfl (by decide) (cel_obj G _) (by decide) [] (Nat.le_of_ble_eq_true rfl) rfl rfl 28 rfl ?_
      exact v_iret dX4_ewe_28 (by simp only [cEwe, c1, c2, Bool.and_self, Bool.and_true, Bool.true_and, Bool.and_false, Bool.false_and, if_true, if_false, Bool.false_eq_true, ↓reduceIte] <;> simp [cFind, kP, kL, sW, sE, pAdd, pCut, pUndo, va_up_i, va_up_s, bx_uu, dc2]) (by simp only [cEwe, c1, c2, Bool.and_self, Bool.and_true, Bool.true_and, Bool.and_false, Bool.false_and, if_true, if_false, Bool.false_eq_true, ↓reduceIte] <;> simp [cFind, kP, kL, sW, sE, pAdd, pCut, pUndo, va_up_i, va_up_s, bx_uu, dc2])
  · skip
    refine v_aload_n dX4_ewe_7 0 rfl 8 rfl ?_
    refine v_iconst dX4_ewe_8 0 rfl 9 rfl ?_
    refine v_callV (c_X4_found l (k := 0) (by decide)) kal_X4_found rfl dX4_ewe_9 qw_234 qw_236 qw_0 rfl (by decide) (cel_obj G _) (by decide) [] (Nat.le_of_ble_eq_true rfl) rfl rfl 12 rfl ?_
    exact v_iret dX4_ewe_12 (by simp only [cEwe, c1, Bool.and_self, Bool.and_true, Bool.true_and, Bool.and_false, Bool.false_and, if_true, if_false, Bool.false_eq_true, ↓reduceIte] <;> simp [cFind, kP, kL, sW, sE, pAdd, pCut, pUndo, va_up_i, va_up_s, bx_uu, true_and]) (by simp only [cEwe, c1, Bool.and_self, Bool.and_true, Bool.true_and, Bool.and_false, Bool.false_and, if_true, if_false, Bool.false_eq_true, ↓reduceIte] <;> simp [cFind, kP, kL, sW, sE, pAdd, pCut, pUndo, va_up_i, va_up_s, bx_uu, true_and])
set_option maxHeartbeats 1000000 in
set_option maxRecDepth 4000 in
theorem c_X4_of (l : Launch) {G : Gl} {K : CS} {M : MS} (hsz : (K.1 0).2.1 ≤ 8) (a b : Int32) : Ct l G yX4_of cX4_of 4 (some .int) 2 43 [.ref (ga G (0)), .int a, .int b] (K, M) (some (.int (cOf K a b).1)) ((cOf K a b).2, M) := by
  obtain ⟨par, tp, sh, tl, hi⟩ := K
  dsimp only at hsz
  refine Ct.of (own := RX4) (by decide) rfl (Nat.le_of_ble_eq_true rfl) rfl (fun X => ?_)
  refine v_aload_n dX4_of_0 0 rfl 1 rfl ?_
  refine v_iload_n dX4_of_1 1 rfl 2 rfl ?_
  refine v_callV (c_X4_isEwe l (K := (par, tp, sh, tl, hi)) (by first | exact hsz | assumption) a) kal_X4_isEwe rfl dX4_of_2 qw_285 qw_287 qw_1 rfl (by decide) (cel_obj G _) (by decide) [] (Nat.le_of_ble_eq_true rfl) rfl rfl 5 rfl ?_
  refine v_topi (b2 (inE (par 0).2.1 a)) rfl ?_
  refine v_w (w2 := ((par, tp, sh, tl, hi), M)) rfl ?_
  refine v_ifb_ne dX4_of_5 14 (by decide) 8 rfl (fun c1 => ?_) (fun c1 => ?_)
  · skip
    obtain ⟨ja, h2ja, rfl⟩ := inE_ix c1
    have eja : (nI ja).toNatClampNeg = ja := nI_clamp (by omega)
    refine v_aload_n dX4_of_14 0 rfl 15 rfl ?_
    refine v_get (i := 0) (ci := 4) (T := TX4) (C := RX4) (N := 8) (v := .ref (ga G (1 + 0))) dX4_of_15 inB4 rfl qw_196 rfl (by decide) (by decide) (cel_obj G _) rfl 18 rfl ?_
    refine v_get (i := 5) (ci := 1) (T := TX1) (C := RX1) (N := 7) (v := .ref (ga G (13 + 0))) dX4_of_18 inB1 rfl qw_128 rfl (by decide) (k_par h03) (cel_par G _ h03) rfl 21 rfl ?_
    refine v_iload_n dX4_of_21 1 rfl 22 rfl ?_
    refine v_aaldE dX4_of_22 (k_ews h03) (cel_ews G _ h03) ja rfl (by omega) (by decide) rfl 23 rfl ?_
    refine v_astore_n dX4_of_23 3 rfl (by decide) [(3, .ref (ga G (31 + (8 * 0 + ja)))), (0, .ref (ga G (0))), (1, .int (nI ja)), (2, .int b)] rfl 24 rfl ?_
    refine v_iload_n dX4_of_24 3 rfl 25 rfl ?_
    by_cases c2_0 : b = 0
    · refine v_topi 0 c2_0 ?_
      refine v_tabIn dX4_of_25 (by decide) (by decide) (off := 31) (by decide) 56 (by decide) ?_
      refine v_aload_n dX4_of_56 0 rfl 57 rfl ?_
      refine v_get (i := 0) (ci := 0) (T := TX0) (C := RX0) (N := 4) (v := .int ((par 0).2.2.2.2.2.2 ja).1) dX4_of_57 inB0 rfl qw_95 rfl (by decide) (k_ewe (by omega)) (cel_ewe G _ (by omega) (by omega)) rfl 60 rfl ?_
      exact v_iret dX4_of_60 (by simp only [cOf, c1, eja, Bool.and_self, Bool.and_true, Bool.true_and, Bool.and_false, Bool.false_and, if_true, if_false, Bool.false_eq_true, ↓reduceIte] <;> simp [cFind, kP, kL, sW, sE, pAdd, pCut, pUndo, va_up_i, va_up_s, bx_uu, c2_0, eja]) (by simp only [cOf, c1, eja, Bool.and_self, Bool.and_true, Bool.true_and, Bool.and_false, Bool.false_and, if_true, if_false, Bool.false_eq_true, ↓reduceIte] <;> simp [cFind, kP, kL, sW, sE, pAdd, pCut, pUndo, va_up_i, va_up_s, bx_uu, c2_0, eja])
    by_cases c2_1 : b = 1
    · refine v_topi 1 c2_1 ?_
      refine v_tabIn dX4_of_25 (by decide) (by decide) (off := 36) (by decide) 61 (by decide) ?_
      refine v_aload_n dX4_of_61 0 rfl 62 rfl ?_
      refine v_get (i := 1) (ci := 0) (T := TX0) (C := RX0) (N := 4) (v := .int ((par 0).2.2.2.2.2.2 ja).2.1) dX4_of_62 inB0 rfl qw_98 rfl (by decide) (k_ewe (by omega)) (cel_ewe G _ (by omega) (by omega)) rfl 65 rfl ?_
      exact v_iret dX4_of_65 (by simp only [cOf, c1, eja, Bool.and_self, Bool.and_true, Bool.true_and, Bool.and_false, Bool.false_and, if_true, if_false, Bool.false_eq_true, ↓reduceIte] <;> simp [cFind, kP, kL, sW, sE, pAdd, pCut, pUndo, va_up_i, va_up_s, bx_uu, c2_0, c2_1, eja]) (by simp only [cOf, c1, eja, Bool.and_self, Bool.and_true, Bool.true_and, Bool.and_false, Bool.false_and, if_true, if_false, Bool.false_eq_true, ↓reduceIte] <;> simp [cFind, kP, kL, sW, sE, pAdd, pCut, pUndo, va_up_i, va_up_s, bx_uu, c2_0, c2_1, eja])
    by_cases c2_2 : b = 2
    · refine v_topi 2 c2_2 ?_
      refine v_tabIn dX4_of_25 (by decide) (by decide) (off := 41) (by decide) 66 (by decide) ?_
      refine v_aload_n dX4_of_66 0 rfl 67 rfl ?_
      refine v_get (i := 2) (ci := 0) (T := TX0) (C := RX0) (N := 4) (v := .int ((par 0).2.2.2.2.2.2 ja).2.2.1) dX4_of_67 inB0 rfl qw_100 rfl (by decide) (k_ewe (by omega)) (cel_ewe G _ (by omega) (by omega)) rfl 70 rfl ?_
      exact v_iret dX4_of_70 (by simp only [cOf, c1, eja, Bool.and_self, Bool.and_true, Bool.true_and, Bool.and_false, Bool.false_and, if_true, if_false, Bool.false_eq_true, ↓reduceIte] <;> simp [cFind, kP, kL, sW, sE, pAdd, pCut, pUndo, va_up_i, va_up_s, bx_uu, c2_0, c2_1, c2_2, eja]) (by simp only [cOf, c1, eja, Bool.and_self, Bool.and_true, Bool.true_and, Bool.and_false, Bool.false_and, if_true, if_false, Bool.false_eq_true, ↓reduceIte] <;> simp [cFind, kP, kL, sW, sE, pAdd, pCut, pUndo, va_up_i, va_up_s, bx_uu, c2_0, c2_1, c2_2, eja])
    by_cases c2_3 : b = 3
    · refine v_topi 3 c2_3 ?_
      refine v_tabIn dX4_of_25 (by decide) (by decide) (off := 46) (by decide) 71 (by decide) ?_
      refine v_aload_n dX4_of_71 0 rfl 72 rfl ?_
      refine v_get (i := 0) (ci := 0) (T := TX0) (C := RX0) (N := 4) (v := .int ((par 0).2.2.2.2.2.2 ja).1) dX4_of_72 inB0 rfl qw_95 rfl (by decide) (k_ewe (by omega)) (cel_ewe G _ (by omega) (by omega)) rfl 75 rfl ?_
      refine v_callS (c_X4_calms l ((par 0).2.2.2.2.2.2 ja).1) kal_X4_calms rfl dX4_of_75 qw_289 qw_290 (by decide) [] (Nat.le_of_ble_eq_true rfl) rfl rfl 78 rfl ?_
      exact v_iret dX4_of_78 (by simp only [cOf, c1, eja, Bool.and_self, Bool.and_true, Bool.true_and, Bool.and_false, Bool.false_and, if_true, if_false, Bool.false_eq_true, ↓reduceIte] <;> simp [cFind, kP, kL, sW, sE, pAdd, pCut, pUndo, va_up_i, va_up_s, bx_uu, c2_0, c2_1, c2_2, c2_3, eja]) (by simp only [cOf, c1, eja, Bool.and_self, Bool.and_true, Bool.true_and, Bool.and_false, Bool.false_and, if_true, if_false, Bool.false_eq_true, ↓reduceIte] <;> simp [cFind, kP, kL, sW, sE, pAdd, pCut, pUndo, va_up_i, va_up_s, bx_uu, c2_0, c2_1, c2_2, c2_3, eja])
    refine v_tabOut dX4_of_25 (sw_out (lo := 0) (hi := 3) (by decide) (by decide) (fun k h1 h2 => by rcases (show k = 0 ∨ k = 1 ∨ k = 2 ∨ k = 3 by omega) with rfl | rfl | rfl | rfl <;> first | exact c2_0 | exact c2_1 | exact c2_2 | exact c2_3)) 79 (by decide) ?_
    refine v_aload_n dX4_of_79 1 rfl 80 rfl ?_
    refine v_iconst dX4_of_80 0 rfl 81 rfl ?_
    refine v_callV (c_X4_found l (k := 0) (by decide)) kal_X4_found rfl dX4_of_81 qw_234 qw_236 qw_0 rfl (by decide) (cel_obj G _) (by decide) [] (Nat.le_of_ble_eq_true rfl) rfl rfl 84 rfl ?_
    exact v_iret dX4_of_84 (by simp only [cOf, c1, eja, Bool.and_self, Bool.and_true, Bool.true_and, Bool.and_false, Bool.false_and, if_true, if_false, Bool.false_eq_true, ↓reduceIte] <;> simp [cFind, kP, kL, sW, sE, pAdd, pCut, pUndo, va_up_i, va_up_s, bx_uu, c2_0, c2_1, c2_2, c2_3, eja]) (by simp only [cOf, c1, eja, Bool.and_self, Bool.and_true, Bool.true_and, Bool.and_false, Bool.false_and, if_true, if_false, Bool.false_eq_true, ↓reduceIte] <;> simp [cFind, kP, kL, sW, sE, pAdd, pCut, pUndo, va_up_i, va_up_s, bx_uu, c2_0, c2_1, c2_2, c2_3, eja])
  · skip
    refine v_aload_n dX4_of_8 0 rfl 9 rfl ?_
    refine v_iconst dX4_of_9 0 rfl 10 rfl ?_
    refine v_callV (c_X4_found l (k := 0) (by decide)) kal_X4_found rfl dX4_of_10 qw_234 qw_236 qw_0 rfl (by decide) (cel_obj G _) (by decide) [] (Nat.le_of_ble_eq_true rfl) rfl rfl 13 rfl ?_
    exact v_iret dX4_of_13 (by simp only [cOf, c1, Bool.and_self, Bool.and_true, Bool.true_and, Bool.and_false, Bool.false_and, if_true, if_false, Bool.false_eq_true, ↓reduceIte] <;> simp [cFind, kP, kL, sW, sE, pAdd, pCut, pUndo, va_up_i, va_up_s, bx_uu, true_and]) (by simp only [cOf, c1, Bool.and_self, Bool.and_true, Bool.true_and, Bool.and_false, Bool.false_and, if_true, if_false, Bool.false_eq_true, ↓reduceIte] <;> simp [cFind, kP, kL, sW, sE, pAdd, pCut, pUndo, va_up_i, va_up_s, bx_uu, true_and])
set_option maxHeartbeats 1000000 in
set_option maxRecDepth 4000 in
theorem c_X4_fleece (l : Launch) {G : Gl} {K : CS} {M : MS} (hsz : (K.1 0).2.1 ≤ 8) (a b : Int32) : Ct l G yX4_fleece cX4_fleece 3 (some .int) 2 43 [.ref (ga G (0)), .int a, .int b] (K, M) (some (.int (cFleece K a b).1)) ((cFleece K a b).2, M) := by
  obtain ⟨par, tp, sh, tl, hi⟩ := K
  dsimp only at hsz
  refine Ct.of (own := RX4) (by decide) rfl (Nat.le_of_ble_eq_true rfl) rfl (fun X => ?_)
  refine v_aload_n dX4_fleece_0 0 rfl 1 rfl ?_
  refine v_iload_n dX4_fleece_1 1 rfl 2 rfl ?_
  refine v_callV (c_X4_isEwe l (K := (par, tp, sh, tl, hi)) (by first | exact hsz | assumption) a) kal_X4_isEwe rfl dX4_fleece_2 qw_285 qw_287 qw_1 rfl (by decide) (cel_obj G _) (by decide) [] (Nat.le_of_ble_eq_true rfl) rfl rfl 5 rfl ?_
  refine v_topi (b2 (inE (par 0).2.1 a)) rfl ?_
  refine v_w (w2 := ((par, tp, sh, tl, hi), M)) rfl ?_
  refine v_ifb_eq dX4_fleece_5 15 (by decide) 8 rfl (fun c1 => ?_) (fun c1 => ?_)
  · skip
    refine v_aload_n dX4_fleece_15 0 rfl 16 rfl ?_
    refine v_iconst dX4_fleece_16 0 rfl 17 rfl ?_
    refine v_callV (c_X4_found l (k := 0) (by decide)) kal_X4_found rfl dX4_fleece_17 qw_234 qw_236 qw_0 rfl (by decide) (cel_obj G _) (by decide) [] (Nat.le_of_ble_eq_true rfl) rfl rfl 20 rfl ?_
    exact v_iret dX4_fleece_20 (by simp only [cFleece, c1, Bool.and_self, Bool.and_true, Bool.true_and, Bool.and_false, Bool.false_and, if_true, if_false, Bool.false_eq_true, ↓reduceIte] <;> simp [cFind, kP, kL, sW, sE, pAdd, pCut, pUndo, va_up_i, va_up_s, bx_uu, true_and]) (by simp only [cFleece, c1, Bool.and_self, Bool.and_true, Bool.true_and, Bool.and_false, Bool.false_and, if_true, if_false, Bool.false_eq_true, ↓reduceIte] <;> simp [cFind, kP, kL, sW, sE, pAdd, pCut, pUndo, va_up_i, va_up_s, bx_uu, true_and])
  · skip
    obtain ⟨ja, h2ja, rfl⟩ := inE_ix c1
    have eja : (nI ja).toNatClampNeg = ja := nI_clamp (by omega)
    refine v_iload_n dX4_fleece_8 2 rfl 9 rfl ?_
    refine v_callS (c_X4_isMonth l b) kal_X4_isMonth rfl dX4_fleece_9 qw_225 qw_226 (by decide) [] (Nat.le_of_ble_eq_true rfl) rfl rfl 12 rfl ?_
    refine v_ifb_ne dX4_fleece_12 21 (by decide) 15 rfl (fun c2 => ?_) (fun c2 => ?_)
    · skip
      obtain ⟨jb, h1jb, h2jb, rfl⟩ := inb_ix (lo := 0) (hi := 11) c2
      have ejb : (nI jb).toNatClampNeg = jb := nI_clamp (by omega)
      refine v_aload_n dX4_fleece_21 0 rfl 22 rfl ?_
      refine v_get (i := 0) (ci := 4) (T := TX4) (C := RX4) (N := 8) (v := .ref (ga G (1 + 0))) dX4_fleece_22 inB4 rfl qw_196 rfl (by decide) (by decide) (cel_obj G _) rfl 25 rfl ?_
      refine v_get (i := 5) (ci := 1) (T := TX1) (C := RX1) (N := 7) (v := .ref (ga G (13 + 0))) dX4_fleece_25 inB1 rfl qw_128 rfl (by decide) (k_par h03) (cel_par G _ h03) rfl 28 rfl ?_
      refine v_iload_n dX4_fleece_28 1 rfl 29 rfl ?_
      refine v_aaldE dX4_fleece_29 (k_ews h03) (cel_ews G _ h03) ja rfl (by omega) (by decide) rfl 30 rfl ?_
      refine v_get (i := 3) (ci := 0) (T := TX0) (C := RX0) (N := 4) (v := .ref (ga G (56 + (8 * 0 + ja)))) dX4_fleece_30 inB0 rfl qw_103 rfl (by decide) (k_ewe (by omega)) (cel_ewe G _ (by omega) (by omega)) rfl 33 rfl ?_
      refine v_iload_n dX4_fleece_33 2 rfl 34 rfl ?_
      refine v_iald (a := ((par 0).2.2.2.2.2.2 ja).2.2.2) dX4_fleece_34 (k_fle (by omega)) (cel_fle G _ (by omega) (by omega)) jb rfl (by omega) (by decide) 35 rfl ?_
      exact v_iret dX4_fleece_35 (by simp only [cFleece, c1, c2, eja, ejb, Bool.and_self, Bool.and_true, Bool.true_and, Bool.and_false, Bool.false_and, if_true, if_false, Bool.false_eq_true, ↓reduceIte] <;> simp [cFind, kP, kL, sW, sE, pAdd, pCut, pUndo, va_up_i, va_up_s, bx_uu, eja, ejb]) (by simp only [cFleece, c1, c2, eja, ejb, Bool.and_self, Bool.and_true, Bool.true_and, Bool.and_false, Bool.false_and, if_true, if_false, Bool.false_eq_true, ↓reduceIte] <;> simp [cFind, kP, kL, sW, sE, pAdd, pCut, pUndo, va_up_i, va_up_s, bx_uu, eja, ejb])
    · skip
      refine v_aload_n dX4_fleece_15 0 rfl 16 rfl ?_
      refine v_iconst dX4_fleece_16 0 rfl 17 rfl ?_
      refine v_callV (c_X4_found l (k := 0) (by decide)) kal_X4_found rfl dX4_fleece_17 qw_234 qw_236 qw_0 rfl (by decide) (cel_obj G _) (by decide) [] (Nat.le_of_ble_eq_true rfl) rfl rfl 20 rfl ?_
      exact v_iret dX4_fleece_20 (by simp only [cFleece, c1, c2, eja, Bool.and_self, Bool.and_true, Bool.true_and, Bool.and_false, Bool.false_and, if_true, if_false, Bool.false_eq_true, ↓reduceIte] <;> simp [cFind, kP, kL, sW, sE, pAdd, pCut, pUndo, va_up_i, va_up_s, bx_uu, eja]) (by simp only [cFleece, c1, c2, eja, Bool.and_self, Bool.and_true, Bool.true_and, Bool.and_false, Bool.false_and, if_true, if_false, Bool.false_eq_true, ↓reduceIte] <;> simp [cFind, kP, kL, sW, sE, pAdd, pCut, pUndo, va_up_i, va_up_s, bx_uu, eja])
set_option maxHeartbeats 1000000 in
set_option maxRecDepth 4000 in
theorem c_X4_can (l : Launch) {G : Gl} {K : CS} {M : MS} (hsz : (K.1 0).2.1 ≤ 8) (a b c : Int32) : Ct l G yX4_can cX4_can 5 (some .int) 2 43 [.ref (ga G (0)), .int a, .int b, .int c] (K, M) (some (.int (cCan K a b c).1)) ((cCan K a b c).2, M) := by
  obtain ⟨par, tp, sh, tl, hi⟩ := K
  dsimp only at hsz
  refine Ct.of (own := RX4) (by decide) rfl (Nat.le_of_ble_eq_true rfl) rfl (fun X => ?_)
  refine v_aload_n dX4_can_0 0 rfl 1 rfl ?_
  refine v_iload_n dX4_can_1 1 rfl 2 rfl ?_
  refine v_callV (c_X4_isEwe l (K := (par, tp, sh, tl, hi)) (by first | exact hsz | assumption) a) kal_X4_isEwe rfl dX4_can_2 qw_285 qw_287 qw_1 rfl (by decide) (cel_obj G _) (by decide) [] (Nat.le_of_ble_eq_true rfl) rfl rfl 5 rfl ?_
  refine v_topi (b2 (inE (par 0).2.1 a)) rfl ?_
  refine v_w (w2 := ((par, tp, sh, tl, hi), M)) rfl ?_
  refine v_ifb_eq dX4_can_5 15 (by decide) 8 rfl (fun c1 => ?_) (fun c1 => ?_)
  · skip
    refine v_aload_n dX4_can_15 0 rfl 16 rfl ?_
    refine v_iconst dX4_can_16 0 rfl 17 rfl ?_
    refine v_callV (c_X4_found l (k := 0) (by decide)) kal_X4_found rfl dX4_can_17 qw_234 qw_236 qw_0 rfl (by decide) (cel_obj G _) (by decide) [] (Nat.le_of_ble_eq_true rfl) rfl rfl 20 rfl ?_
    exact v_iret dX4_can_20 (by simp only [cCan, c1, Bool.and_self, Bool.and_true, Bool.true_and, Bool.and_false, Bool.false_and, if_true, if_false, Bool.false_eq_true, ↓reduceIte] <;> simp [cFind, kP, kL, sW, sE, pAdd, pCut, pUndo, va_up_i, va_up_s, bx_uu, true_and]) (by simp only [cCan, c1, Bool.and_self, Bool.and_true, Bool.true_and, Bool.and_false, Bool.false_and, if_true, if_false, Bool.false_eq_true, ↓reduceIte] <;> simp [cFind, kP, kL, sW, sE, pAdd, pCut, pUndo, va_up_i, va_up_s, bx_uu, true_and])
  · skip
    obtain ⟨ja, h2ja, rfl⟩ := inE_ix c1
    have eja : (nI ja).toNatClampNeg = ja := nI_clamp (by omega)
    refine v_iload_n dX4_can_8 3 rfl 9 rfl ?_
    refine v_callS (c_X4_isWeather l c) kal_X4_isWeather rfl dX4_can_9 qw_231 qw_232 (by decide) [] (Nat.le_of_ble_eq_true rfl) rfl rfl 12 rfl ?_
    refine v_ifb_ne dX4_can_12 21 (by decide) 15 rfl (fun c2 => ?_) (fun c2 => ?_)
    · skip
      refine v_aload_n dX4_can_21 0 rfl 22 rfl ?_
      refine v_get (i := 0) (ci := 4) (T := TX4) (C := RX4) (N := 8) (v := .ref (ga G (1 + 0))) dX4_can_22 inB4 rfl qw_196 rfl (by decide) (by decide) (cel_obj G _) rfl 25 rfl ?_
      refine v_get (i := 5) (ci := 1) (T := TX1) (C := RX1) (N := 7) (v := .ref (ga G (13 + 0))) dX4_can_25 inB1 rfl qw_128 rfl (by decide) (k_par h03) (cel_par G _ h03) rfl 28 rfl ?_
      refine v_iload_n dX4_can_28 1 rfl 29 rfl ?_
      refine v_aaldE dX4_can_29 (k_ews h03) (cel_ews G _ h03) ja rfl (by omega) (by decide) rfl 30 rfl ?_
      refine v_astore dX4_can_30 (by decide) [(4, .ref (ga G (31 + (8 * 0 + ja)))), (0, .ref (ga G (0))), (1, .int (nI ja)), (2, .int b), (3, .int c)] rfl 32 rfl ?_
      refine v_iload_n dX4_can_32 3 rfl 33 rfl ?_
      by_cases c3_0 : b = 0
      · refine v_topi 0 c3_0 ?_
        refine v_tabIn dX4_can_33 (by decide) (by decide) (off := 27) (by decide) 60 (by decide) ?_
        refine v_aload dX4_can_60 0 rfl 62 rfl ?_
        refine v_get (i := 0) (ci := 0) (T := TX0) (C := RX0) (N := 4) (v := .int ((par 0).2.2.2.2.2.2 ja).1) dX4_can_62 inB0 rfl qw_95 rfl (by decide) (k_ewe (by omega)) (cel_ewe G _ (by omega) (by omega)) rfl 65 rfl ?_
        refine v_iload_n dX4_can_65 4 rfl 66 rfl ?_
        refine v_callS (c_X4_grows l ((par 0).2.2.2.2.2.2 ja).1 c) kal_X4_grows rfl dX4_can_66 qw_300 qw_301 (by decide) [] (Nat.le_of_ble_eq_true rfl) rfl rfl 69 rfl ?_
        exact v_iret dX4_can_69 (by simp only [cCan, c1, c2, eja, Bool.and_self, Bool.and_true, Bool.true_and, Bool.and_false, Bool.false_and, if_true, if_false, Bool.false_eq_true, ↓reduceIte] <;> simp [cFind, kP, kL, sW, sE, pAdd, pCut, pUndo, va_up_i, va_up_s, bx_uu, c3_0, eja]) (by simp only [cCan, c1, c2, eja, Bool.and_self, Bool.and_true, Bool.true_and, Bool.and_false, Bool.false_and, if_true, if_false, Bool.false_eq_true, ↓reduceIte] <;> simp [cFind, kP, kL, sW, sE, pAdd, pCut, pUndo, va_up_i, va_up_s, bx_uu, c3_0, eja])
      by_cases c3_1 : b = 1
      · refine v_topi 1 c3_1 ?_
        refine v_tabIn dX4_can_33 (by decide) (by decide) (off := 37) (by decide) 70 (by decide) ?_
        refine v_aload dX4_can_70 0 rfl 72 rfl ?_
        refine v_get (i := 0) (ci := 0) (T := TX0) (C := RX0) (N := 4) (v := .int ((par 0).2.2.2.2.2.2 ja).1) dX4_can_72 inB0 rfl qw_95 rfl (by decide) (k_ewe (by omega)) (cel_ewe G _ (by omega) (by omega)) rfl 75 rfl ?_
        refine v_aload dX4_can_75 0 rfl 77 rfl ?_
        refine v_get (i := 1) (ci := 0) (T := TX0) (C := RX0) (N := 4) (v := .int ((par 0).2.2.2.2.2.2 ja).2.1) dX4_can_77 inB0 rfl qw_98 rfl (by decide) (k_ewe (by omega)) (cel_ewe G _ (by omega) (by omega)) rfl 80 rfl ?_
        refine v_callS (c_X4_loses l ((par 0).2.2.2.2.2.2 ja).1 ((par 0).2.2.2.2.2.2 ja).2.1) kal_X4_loses rfl dX4_can_80 qw_303 qw_304 (by decide) [] (Nat.le_of_ble_eq_true rfl) rfl rfl 83 rfl ?_
        exact v_iret dX4_can_83 (by simp only [cCan, c1, c2, eja, Bool.and_self, Bool.and_true, Bool.true_and, Bool.and_false, Bool.false_and, if_true, if_false, Bool.false_eq_true, ↓reduceIte] <;> simp [cFind, kP, kL, sW, sE, pAdd, pCut, pUndo, va_up_i, va_up_s, bx_uu, c3_0, c3_1, eja]) (by simp only [cCan, c1, c2, eja, Bool.and_self, Bool.and_true, Bool.true_and, Bool.and_false, Bool.false_and, if_true, if_false, Bool.false_eq_true, ↓reduceIte] <;> simp [cFind, kP, kL, sW, sE, pAdd, pCut, pUndo, va_up_i, va_up_s, bx_uu, c3_0, c3_1, eja])
      by_cases c3_2 : b = 2
      · refine v_topi 2 c3_2 ?_
        refine v_tabIn dX4_can_33 (by decide) (by decide) (off := 51) (by decide) 84 (by decide) ?_
        refine v_aload dX4_can_84 0 rfl 86 rfl ?_
        refine v_get (i := 0) (ci := 0) (T := TX0) (C := RX0) (N := 4) (v := .int ((par 0).2.2.2.2.2.2 ja).1) dX4_can_86 inB0 rfl qw_95 rfl (by decide) (k_ewe (by omega)) (cel_ewe G _ (by omega) (by omega)) rfl 89 rfl ?_
        refine v_iload_n dX4_can_89 4 rfl 90 rfl ?_
        refine v_callS (c_X4_burrs l ((par 0).2.2.2.2.2.2 ja).1 c) kal_X4_burrs rfl dX4_can_90 qw_309 qw_310 (by decide) [] (Nat.le_of_ble_eq_true rfl) rfl rfl 93 rfl ?_
        exact v_iret dX4_can_93 (by simp only [cCan, c1, c2, eja, Bool.and_self, Bool.and_true, Bool.true_and, Bool.and_false, Bool.false_and, if_true, if_false, Bool.false_eq_true, ↓reduceIte] <;> simp [cFind, kP, kL, sW, sE, pAdd, pCut, pUndo, va_up_i, va_up_s, bx_uu, c3_0, c3_1, c3_2, eja]) (by simp only [cCan, c1, c2, eja, Bool.and_self, Bool.and_true, Bool.true_and, Bool.and_false, Bool.false_and, if_true, if_false, Bool.false_eq_true, ↓reduceIte] <;> simp [cFind, kP, kL, sW, sE, pAdd, pCut, pUndo, va_up_i, va_up_s, bx_uu, c3_0, c3_1, c3_2, eja])
      refine v_tabOut dX4_can_33 (sw_out (lo := 0) (hi := 2) (by decide) (by decide) (fun k h1 h2 => by rcases (show k = 0 ∨ k = 1 ∨ k = 2 by omega) with rfl | rfl | rfl <;> first | exact c3_0 | exact c3_1 | exact c3_2)) 94 (by decide) ?_
      refine v_aload_n dX4_can_94 1 rfl 95 rfl ?_
      refine v_iconst dX4_can_95 0 rfl 96 rfl ?_
      refine v_callV (c_X4_found l (k := 0) (by decide)) kal_X4_found rfl dX4_can_96 qw_234 qw_236 qw_0 rfl (by decide) (cel_obj G _) (by decide) [] (Nat.le_of_ble_eq_true rfl) rfl rfl 99 rfl ?_
      exact v_iret dX4_can_99 (by simp only [cCan, c1, c2, eja, Bool.and_self, Bool.and_true, Bool.true_and, Bool.and_false, Bool.false_and, if_true, if_false, Bool.false_eq_true, ↓reduceIte] <;> simp [cFind, kP, kL, sW, sE, pAdd, pCut, pUndo, va_up_i, va_up_s, bx_uu, c3_0, c3_1, c3_2, eja]) (by simp only [cCan, c1, c2, eja, Bool.and_self, Bool.and_true, Bool.true_and, Bool.and_false, Bool.false_and, if_true, if_false, Bool.false_eq_true, ↓reduceIte] <;> simp [cFind, kP, kL, sW, sE, pAdd, pCut, pUndo, va_up_i, va_up_s, bx_uu, c3_0, c3_1, c3_2, eja])
    · skip
      refine v_aload_n dX4_can_15 0 rfl 16 rfl ?_
      refine v_iconst dX4_can_16 0 rfl 17 rfl ?_
      refine v_callV (c_X4_found l (k := 0) (by decide)) kal_X4_found rfl dX4_can_17 qw_234 qw_236 qw_0 rfl (by decide) (cel_obj G _) (by decide) [] (Nat.le_of_ble_eq_true rfl) rfl rfl 20 rfl ?_
      exact v_iret dX4_can_20 (by simp only [cCan, c1, c2, eja, Bool.and_self, Bool.and_true, Bool.true_and, Bool.and_false, Bool.false_and, if_true, if_false, Bool.false_eq_true, ↓reduceIte] <;> simp [cFind, kP, kL, sW, sE, pAdd, pCut, pUndo, va_up_i, va_up_s, bx_uu, eja]) (by simp only [cCan, c1, c2, eja, Bool.and_self, Bool.and_true, Bool.true_and, Bool.and_false, Bool.false_and, if_true, if_false, Bool.false_eq_true, ↓reduceIte] <;> simp [cFind, kP, kL, sW, sE, pAdd, pCut, pUndo, va_up_i, va_up_s, bx_uu, eja])
set_option maxHeartbeats 1000000 in
set_option maxRecDepth 4000 in
theorem c_X4_scare (l : Launch) {G : Gl} {K : CS} {M : MS} (hsz : (K.1 0).2.1 ≤ 8) (a b : Int32) : Ct l G yX4_scare cX4_scare 4 (some .int) 2 43 [.ref (ga G (0)), .int a, .int b] (K, M) (some (.int (cScare K a b).1)) ((cScare K a b).2, M) := by
  obtain ⟨par, tp, sh, tl, hi⟩ := K
  dsimp only at hsz
  refine Ct.of (own := RX4) (by decide) rfl (Nat.le_of_ble_eq_true rfl) rfl (fun X => ?_)
  refine v_aload_n dX4_scare_0 0 rfl 1 rfl ?_
  refine v_iload_n dX4_scare_1 1 rfl 2 rfl ?_
  refine v_callV (c_X4_isEwe l (K := (par, tp, sh, tl, hi)) (by first | exact hsz | assumption) a) kal_X4_isEwe rfl dX4_scare_2 qw_285 qw_287 qw_1 rfl (by decide) (cel_obj G _) (by decide) [] (Nat.le_of_ble_eq_true rfl) rfl rfl 5 rfl ?_
  refine v_topi (b2 (inE (par 0).2.1 a)) rfl ?_
  refine v_w (w2 := ((par, tp, sh, tl, hi), M)) rfl ?_
  refine v_ifb_eq dX4_scare_5 18 (by decide) 8 rfl (fun c1 => ?_) (fun c1 => ?_)
  · skip
    refine v_aload_n dX4_scare_18 0 rfl 19 rfl ?_
    refine v_iconst dX4_scare_19 0 rfl 20 rfl ?_
    refine v_callV (c_X4_found l (k := 0) (by decide)) kal_X4_found rfl dX4_scare_20 qw_234 qw_236 qw_0 rfl (by decide) (cel_obj G _) (by decide) [] (Nat.le_of_ble_eq_true rfl) rfl rfl 23 rfl ?_
    exact v_iret dX4_scare_23 (by simp only [cScare, c1, Bool.and_self, Bool.and_true, Bool.true_and, Bool.and_false, Bool.false_and, if_true, if_false, Bool.false_eq_true, ↓reduceIte] <;> simp [cFind, kP, kL, sW, sE, pAdd, pCut, pUndo, va_up_i, va_up_s, bx_uu, true_and]) (by simp only [cScare, c1, Bool.and_self, Bool.and_true, Bool.true_and, Bool.and_false, Bool.false_and, if_true, if_false, Bool.false_eq_true, ↓reduceIte] <;> simp [cFind, kP, kL, sW, sE, pAdd, pCut, pUndo, va_up_i, va_up_s, bx_uu, true_and])
  · skip
    obtain ⟨ja, h2ja, rfl⟩ := inE_ix c1
    have eja : (nI ja).toNatClampNeg = ja := nI_clamp (by omega)
    refine v_iload_n dX4_scare_8 2 rfl 9 rfl ?_
    refine v_iconst dX4_scare_9 0 rfl 10 rfl ?_
    refine v_bipush dX4_scare_10 99 rfl 12 rfl ?_
    refine v_callS (c_X4_isWithin l b 0 99 (lo := 0) (hi := 99) rfl rfl) kal_X4_isWithin rfl dX4_scare_12 qw_228 qw_229 (by decide) [] (Nat.le_of_ble_eq_true rfl) rfl rfl 15 rfl ?_
    refine v_ifb_ne dX4_scare_15 24 (by decide) 18 rfl (fun c2 => ?_) (fun c2 => ?_)
    · skip
      refine v_aload_n dX4_scare_24 0 rfl 25 rfl ?_
      refine v_get (i := 0) (ci := 4) (T := TX4) (C := RX4) (N := 8) (v := .ref (ga G (1 + 0))) dX4_scare_25 inB4 rfl qw_196 rfl (by decide) (by decide) (cel_obj G _) rfl 28 rfl ?_
      refine v_get (i := 5) (ci := 1) (T := TX1) (C := RX1) (N := 7) (v := .ref (ga G (13 + 0))) dX4_scare_28 inB1 rfl qw_128 rfl (by decide) (k_par h03) (cel_par G _ h03) rfl 31 rfl ?_
      refine v_iload_n dX4_scare_31 1 rfl 32 rfl ?_
      refine v_aaldE dX4_scare_32 (k_ews h03) (cel_ews G _ h03) ja rfl (by omega) (by decide) rfl 33 rfl ?_
      refine v_get (i := 1) (ci := 0) (T := TX0) (C := RX0) (N := 4) (v := .int ((par 0).2.2.2.2.2.2 ja).2.1) dX4_scare_33 inB0 rfl qw_98 rfl (by decide) (k_ewe (by omega)) (cel_ewe G _ (by omega) (by omega)) rfl 36 rfl ?_
      refine v_istore_n dX4_scare_36 3 rfl (by decide) [(3, .int ((par 0).2.2.2.2.2.2 ja).2.1), (0, .ref (ga G (0))), (1, .int (nI ja)), (2, .int b)] rfl 37 rfl ?_
      refine v_aload_n dX4_scare_37 1 rfl 38 rfl ?_
      refine v_get (i := 0) (ci := 4) (T := TX4) (C := RX4) (N := 8) (v := .ref (ga G (1 + 0))) dX4_scare_38 inB4 rfl qw_196 rfl (by decide) (by decide) (cel_obj G _) rfl 41 rfl ?_
      refine v_get (i := 5) (ci := 1) (T := TX1) (C := RX1) (N := 7) (v := .ref (ga G (13 + 0))) dX4_scare_41 inB1 rfl qw_128 rfl (by decide) (k_par h03) (cel_par G _ h03) rfl 44 rfl ?_
      refine v_iload_n dX4_scare_44 2 rfl 45 rfl ?_
      refine v_aaldE dX4_scare_45 (k_ews h03) (cel_ews G _ h03) ja rfl (by omega) (by decide) rfl 46 rfl ?_
      refine v_iload_n dX4_scare_46 3 rfl 47 rfl ?_
      refine v_w (w2 := ((va_up par 0 ((par 0).1, (par 0).2.1, (par 0).2.2.1, (par 0).2.2.2.1, (par 0).2.2.2.2.1, (par 0).2.2.2.2.2.1, (par 0).2.2.2.2.2.2), tp, sh, tl, hi), M)) (congrArg (fun z => ((z, tp, sh, tl, hi), M)) (va_up_i par 0).symm) ?_
      refine v_w (w2 := ((va_up par 0 ((par 0).1, (par 0).2.1, (par 0).2.2.1, (par 0).2.2.2.1, (par 0).2.2.2.2.1, (par 0).2.2.2.2.2.1, va_up (par 0).2.2.2.2.2.2 ja (((par 0).2.2.2.2.2.2 ja).1, ((par 0).2.2.2.2.2.2 ja).2.1, ((par 0).2.2.2.2.2.2 ja).2.2.1, ((par 0).2.2.2.2.2.2 ja).2.2.2)), tp, sh, tl, hi), M)) (congrArg (fun z => ((va_up par 0 ((par 0).1, (par 0).2.1, (par 0).2.2.1, (par 0).2.2.2.1, (par 0).2.2.2.2.1, (par 0).2.2.2.2.2.1, z), tp, sh, tl, hi), M)) (va_up_i (par 0).2.2.2.2.2.2 ja).symm) ?_
      refine v_put (i := 1) (ci := 0) (T := TX0) (C := RX0) (N := 4) (ty := .int) (w2 := ((va_up par 0 ((par 0).1, (par 0).2.1, (par 0).2.2.1, (par 0).2.2.2.1, (par 0).2.2.2.2.1, (par 0).2.2.2.2.2.1, va_up (par 0).2.2.2.2.2.2 ja (((par 0).2.2.2.2.2.2 ja).1, b, ((par 0).2.2.2.2.2.2 ja).2.2.1, ((par 0).2.2.2.2.2.2 ja).2.2.2)), tp, sh, tl, hi), M)) dX4_scare_47 inB0 tyX0 tyX0_ok nmX0 rfl qw_98 rfl rfl rfl rfl rfl (by decide) (k_ewe (by omega)) (f_ewe (by omega) (by omega)) (Nat.le_of_ble_eq_true rfl) (u_E (by omega) (by omega)) 50 rfl ?_
      refine v_iload_n dX4_scare_50 0 rfl 51 rfl ?_
      exact v_iret dX4_scare_51 (by simp only [cScare, c1, c2, eja, Bool.and_self, Bool.and_true, Bool.true_and, Bool.and_false, Bool.false_and, if_true, if_false, Bool.false_eq_true, ↓reduceIte] <;> simp [cFind, kP, kL, sW, sE, pAdd, pCut, pUndo, va_up_i, va_up_s, bx_uu, eja]) (by simp only [cScare, c1, c2, eja, Bool.and_self, Bool.and_true, Bool.true_and, Bool.and_false, Bool.false_and, if_true, if_false, Bool.false_eq_true, ↓reduceIte] <;> simp [cFind, kP, kL, sW, sE, pAdd, pCut, pUndo, va_up_i, va_up_s, bx_uu, eja])
    · skip
      refine v_aload_n dX4_scare_18 0 rfl 19 rfl ?_
      refine v_iconst dX4_scare_19 0 rfl 20 rfl ?_
      refine v_callV (c_X4_found l (k := 0) (by decide)) kal_X4_found rfl dX4_scare_20 qw_234 qw_236 qw_0 rfl (by decide) (cel_obj G _) (by decide) [] (Nat.le_of_ble_eq_true rfl) rfl rfl 23 rfl ?_
      exact v_iret dX4_scare_23 (by simp only [cScare, c1, c2, eja, Bool.and_self, Bool.and_true, Bool.true_and, Bool.and_false, Bool.false_and, if_true, if_false, Bool.false_eq_true, ↓reduceIte] <;> simp [cFind, kP, kL, sW, sE, pAdd, pCut, pUndo, va_up_i, va_up_s, bx_uu, eja]) (by simp only [cScare, c1, c2, eja, Bool.and_self, Bool.and_true, Bool.true_and, Bool.and_false, Bool.false_and, if_true, if_false, Bool.false_eq_true, ↓reduceIte] <;> simp [cFind, kP, kL, sW, sE, pAdd, pCut, pUndo, va_up_i, va_up_s, bx_uu, eja])
set_option maxHeartbeats 1000000 in
set_option maxRecDepth 4000 in
theorem c_X4_turn (l : Launch) {G : Gl} {K : CS} {M : MS} (hsz : (K.1 0).2.1 ≤ 8) (a b : Int32) : Ct l G yX4_turn cX4_turn 4 (some .int) 2 43 [.ref (ga G (0)), .int a, .int b] (K, M) (some (.int (cTurn K a b).1)) ((cTurn K a b).2, M) := by
  obtain ⟨par, tp, sh, tl, hi⟩ := K
  dsimp only at hsz
  refine Ct.of (own := RX4) (by decide) rfl (Nat.le_of_ble_eq_true rfl) rfl (fun X => ?_)
  refine v_aload_n dX4_turn_0 0 rfl 1 rfl ?_
  refine v_iload_n dX4_turn_1 1 rfl 2 rfl ?_
  refine v_callV (c_X4_isEwe l (K := (par, tp, sh, tl, hi)) (by first | exact hsz | assumption) a) kal_X4_isEwe rfl dX4_turn_2 qw_285 qw_287 qw_1 rfl (by decide) (cel_obj G _) (by decide) [] (Nat.le_of_ble_eq_true rfl) rfl rfl 5 rfl ?_
  refine v_topi (b2 (inE (par 0).2.1 a)) rfl ?_
  refine v_w (w2 := ((par, tp, sh, tl, hi), M)) rfl ?_
  refine v_ifb_eq dX4_turn_5 15 (by decide) 8 rfl (fun c1 => ?_) (fun c1 => ?_)
  · skip
    refine v_aload_n dX4_turn_15 0 rfl 16 rfl ?_
    refine v_iconst dX4_turn_16 0 rfl 17 rfl ?_
    refine v_callV (c_X4_found l (k := 0) (by decide)) kal_X4_found rfl dX4_turn_17 qw_234 qw_236 qw_0 rfl (by decide) (cel_obj G _) (by decide) [] (Nat.le_of_ble_eq_true rfl) rfl rfl 20 rfl ?_
    exact v_iret dX4_turn_20 (by simp only [cTurn, c1, Bool.and_self, Bool.and_true, Bool.true_and, Bool.and_false, Bool.false_and, if_true, if_false, Bool.false_eq_true, ↓reduceIte] <;> simp [cFind, kP, kL, sW, sE, pAdd, pCut, pUndo, va_up_i, va_up_s, bx_uu, true_and]) (by simp only [cTurn, c1, Bool.and_self, Bool.and_true, Bool.true_and, Bool.and_false, Bool.false_and, if_true, if_false, Bool.false_eq_true, ↓reduceIte] <;> simp [cFind, kP, kL, sW, sE, pAdd, pCut, pUndo, va_up_i, va_up_s, bx_uu, true_and])
  · skip
    obtain ⟨ja, h2ja, rfl⟩ := inE_ix c1
    have eja : (nI ja).toNatClampNeg = ja := nI_clamp (by omega)
    refine v_iload_n dX4_turn_8 2 rfl 9 rfl ?_
    refine v_callS (c_X4_isKind l b) kal_X4_isKind rfl dX4_turn_9 qw_262 qw_263 (by decide) [] (Nat.le_of_ble_eq_true rfl) rfl rfl 12 rfl ?_
    refine v_ifb_ne dX4_turn_12 21 (by decide) 15 rfl (fun c2 => ?_) (fun c2 => ?_)
    · skip
      refine v_aload_n dX4_turn_21 0 rfl 22 rfl ?_
      refine v_get (i := 0) (ci := 4) (T := TX4) (C := RX4) (N := 8) (v := .ref (ga G (1 + 0))) dX4_turn_22 inB4 rfl qw_196 rfl (by decide) (by decide) (cel_obj G _) rfl 25 rfl ?_
      refine v_get (i := 5) (ci := 1) (T := TX1) (C := RX1) (N := 7) (v := .ref (ga G (13 + 0))) dX4_turn_25 inB1 rfl qw_128 rfl (by decide) (k_par h03) (cel_par G _ h03) rfl 28 rfl ?_
      refine v_iload_n dX4_turn_28 1 rfl 29 rfl ?_
      refine v_aaldE dX4_turn_29 (k_ews h03) (cel_ews G _ h03) ja rfl (by omega) (by decide) rfl 30 rfl ?_
      refine v_get (i := 0) (ci := 0) (T := TX0) (C := RX0) (N := 4) (v := .int ((par 0).2.2.2.2.2.2 ja).1) dX4_turn_30 inB0 rfl qw_95 rfl (by decide) (k_ewe (by omega)) (cel_ewe G _ (by omega) (by omega)) rfl 33 rfl ?_
      refine v_istore_n dX4_turn_33 3 rfl (by decide) [(3, .int ((par 0).2.2.2.2.2.2 ja).1), (0, .ref (ga G (0))), (1, .int (nI ja)), (2, .int b)] rfl 34 rfl ?_
      refine v_aload_n dX4_turn_34 1 rfl 35 rfl ?_
      refine v_get (i := 0) (ci := 4) (T := TX4) (C := RX4) (N := 8) (v := .ref (ga G (1 + 0))) dX4_turn_35 inB4 rfl qw_196 rfl (by decide) (by decide) (cel_obj G _) rfl 38 rfl ?_
      refine v_get (i := 5) (ci := 1) (T := TX1) (C := RX1) (N := 7) (v := .ref (ga G (13 + 0))) dX4_turn_38 inB1 rfl qw_128 rfl (by decide) (k_par h03) (cel_par G _ h03) rfl 41 rfl ?_
      refine v_iload_n dX4_turn_41 2 rfl 42 rfl ?_
      refine v_aaldE dX4_turn_42 (k_ews h03) (cel_ews G _ h03) ja rfl (by omega) (by decide) rfl 43 rfl ?_
      refine v_iload_n dX4_turn_43 3 rfl 44 rfl ?_
      refine v_w (w2 := ((va_up par 0 ((par 0).1, (par 0).2.1, (par 0).2.2.1, (par 0).2.2.2.1, (par 0).2.2.2.2.1, (par 0).2.2.2.2.2.1, (par 0).2.2.2.2.2.2), tp, sh, tl, hi), M)) (congrArg (fun z => ((z, tp, sh, tl, hi), M)) (va_up_i par 0).symm) ?_
      refine v_w (w2 := ((va_up par 0 ((par 0).1, (par 0).2.1, (par 0).2.2.1, (par 0).2.2.2.1, (par 0).2.2.2.2.1, (par 0).2.2.2.2.2.1, va_up (par 0).2.2.2.2.2.2 ja (((par 0).2.2.2.2.2.2 ja).1, ((par 0).2.2.2.2.2.2 ja).2.1, ((par 0).2.2.2.2.2.2 ja).2.2.1, ((par 0).2.2.2.2.2.2 ja).2.2.2)), tp, sh, tl, hi), M)) (congrArg (fun z => ((va_up par 0 ((par 0).1, (par 0).2.1, (par 0).2.2.1, (par 0).2.2.2.1, (par 0).2.2.2.2.1, (par 0).2.2.2.2.2.1, z), tp, sh, tl, hi), M)) (va_up_i (par 0).2.2.2.2.2.2 ja).symm) ?_
      refine v_put (i := 0) (ci := 0) (T := TX0) (C := RX0) (N := 4) (ty := .int) (w2 := ((va_up par 0 ((par 0).1, (par 0).2.1, (par 0).2.2.1, (par 0).2.2.2.1, (par 0).2.2.2.2.1, (par 0).2.2.2.2.2.1, va_up (par 0).2.2.2.2.2.2 ja (b, ((par 0).2.2.2.2.2.2 ja).2.1, ((par 0).2.2.2.2.2.2 ja).2.2.1, ((par 0).2.2.2.2.2.2 ja).2.2.2)), tp, sh, tl, hi), M)) dX4_turn_44 inB0 tyX0 tyX0_ok nmX0 rfl qw_95 rfl rfl rfl rfl rfl (by decide) (k_ewe (by omega)) (f_ewe (by omega) (by omega)) (Nat.le_of_ble_eq_true rfl) (u_E (by omega) (by omega)) 47 rfl ?_
      refine v_iload_n dX4_turn_47 0 rfl 48 rfl ?_
      exact v_iret dX4_turn_48 (by simp only [cTurn, c1, c2, eja, Bool.and_self, Bool.and_true, Bool.true_and, Bool.and_false, Bool.false_and, if_true, if_false, Bool.false_eq_true, ↓reduceIte] <;> simp [cFind, kP, kL, sW, sE, pAdd, pCut, pUndo, va_up_i, va_up_s, bx_uu, eja]) (by simp only [cTurn, c1, c2, eja, Bool.and_self, Bool.and_true, Bool.true_and, Bool.and_false, Bool.false_and, if_true, if_false, Bool.false_eq_true, ↓reduceIte] <;> simp [cFind, kP, kL, sW, sE, pAdd, pCut, pUndo, va_up_i, va_up_s, bx_uu, eja])
    · skip
      refine v_aload_n dX4_turn_15 0 rfl 16 rfl ?_
      refine v_iconst dX4_turn_16 0 rfl 17 rfl ?_
      refine v_callV (c_X4_found l (k := 0) (by decide)) kal_X4_found rfl dX4_turn_17 qw_234 qw_236 qw_0 rfl (by decide) (cel_obj G _) (by decide) [] (Nat.le_of_ble_eq_true rfl) rfl rfl 20 rfl ?_
      exact v_iret dX4_turn_20 (by simp only [cTurn, c1, c2, eja, Bool.and_self, Bool.and_true, Bool.true_and, Bool.and_false, Bool.false_and, if_true, if_false, Bool.false_eq_true, ↓reduceIte] <;> simp [cFind, kP, kL, sW, sE, pAdd, pCut, pUndo, va_up_i, va_up_s, bx_uu, eja]) (by simp only [cTurn, c1, c2, eja, Bool.and_self, Bool.and_true, Bool.true_and, Bool.and_false, Bool.false_and, if_true, if_false, Bool.false_eq_true, ↓reduceIte] <;> simp [cFind, kP, kL, sW, sE, pAdd, pCut, pUndo, va_up_i, va_up_s, bx_uu, eja])
