set_option maxHeartbeats 1000000 in
set_option maxRecDepth 4000 in
theorem c_X5_weather (l : Launch) {G : Gl} {K : CS} {M : MS} (a b : Int32) : Ct l G yX5_weather cX5_weather 3 (some .int) 2 46 [.ref (ga G (93)), .int a, .int b] (K, M) (some (.int (qWeather M a b).1)) (K, (qWeather M a b).2) := by
  obtain ⟨ms, mk, mo, ma, mf, ik, mt, td, fr, tt, vl, wr, mb, mz, nu, mv⟩ := M
  refine Ct.of (own := RX5) (by decide) rfl (Nat.le_of_ble_eq_true rfl) rfl (fun X => ?_)
  refine v_iload_n dX5_weather_0 1 rfl 1 rfl ?_
  refine v_callS (c_X5_isMonth l a) kal_X5_isMonth rfl dX5_weather_1 qw_739 qw_740 (by decide) [] (Nat.le_of_ble_eq_true rfl) rfl rfl 4 rfl ?_
  refine v_ifb_eq dX5_weather_4 26 (by decide) 7 rfl (fun c1 => ?_) (fun c1 => ?_)
  · skip
    refine v_aload_n dX5_weather_26 0 rfl 27 rfl ?_
    refine v_ldc dX5_weather_27 (-1000000001) qw_755 29 rfl ?_
    refine v_callV (c_X5_finds l (k := 0) (by decide) (-1000000001) (by decide)) kal_X5_finds rfl dX5_weather_29 qw_756 qw_758 qw_15 rfl (by decide) (cel_mod G _) (by decide) [] (Nat.le_of_ble_eq_true rfl) rfl rfl 32 rfl ?_
    exact v_iret dX5_weather_32 (by simp only [qWeather, c1, Bool.and_self, Bool.and_true, Bool.true_and, Bool.and_false, Bool.false_and, if_true, if_false, Bool.false_eq_true, ↓reduceIte] <;> simp [mFind, xs, xa, fnd0, fnd1, fnd2, fnd3, fnd4, fnd5, fnd6, true_and]) (by simp only [qWeather, c1, Bool.and_self, Bool.and_true, Bool.true_and, Bool.and_false, Bool.false_and, if_true, if_false, Bool.false_eq_true, ↓reduceIte] <;> simp [mFind, xs, xa, fnd0, fnd1, fnd2, fnd3, fnd4, fnd5, fnd6, true_and])
  · skip
    obtain ⟨ja, h1ja, h2ja, rfl⟩ := inb_ix (lo := 0) (hi := 11) c1
    have eja : (nI ja).toNatClampNeg = ja := nI_clamp (by omega)
    refine v_iload_n dX5_weather_7 2 rfl 8 rfl ?_
    refine v_i2l dX5_weather_8 9 rfl ?_
    refine v_callS (c_X5_isWeather l (b : Int32).toInt64) kal_X5_isWeather rfl dX5_weather_9 qw_746 qw_747 (by decide) [] (Nat.le_of_ble_eq_true rfl) rfl rfl 12 rfl ?_
    refine v_topi (b2 (inb (-20) 20 b)) (by rw [i2l_i]; rfl) ?_
    refine v_ifb_eq dX5_weather_12 26 (by decide) 15 rfl (fun c2 => ?_) (fun c2 => ?_)
    · skip
      refine v_aload_n dX5_weather_26 0 rfl 27 rfl ?_
      refine v_ldc dX5_weather_27 (-1000000001) qw_755 29 rfl ?_
      refine v_callV (c_X5_finds l (k := 0) (by decide) (-1000000001) (by decide)) kal_X5_finds rfl dX5_weather_29 qw_756 qw_758 qw_15 rfl (by decide) (cel_mod G _) (by decide) [] (Nat.le_of_ble_eq_true rfl) rfl rfl 32 rfl ?_
      exact v_iret dX5_weather_32 (by simp only [qWeather, c1, c2, eja, Bool.and_self, Bool.and_true, Bool.true_and, Bool.and_false, Bool.false_and, if_true, if_false, Bool.false_eq_true, ↓reduceIte] <;> simp [mFind, xs, xa, fnd0, fnd1, fnd2, fnd3, fnd4, fnd5, fnd6, eja]) (by simp only [qWeather, c1, c2, eja, Bool.and_self, Bool.and_true, Bool.true_and, Bool.and_false, Bool.false_and, if_true, if_false, Bool.false_eq_true, ↓reduceIte] <;> simp [mFind, xs, xa, fnd0, fnd1, fnd2, fnd3, fnd4, fnd5, fnd6, eja])
    · skip
      refine v_aload_n dX5_weather_15 0 rfl 16 rfl ?_
      refine v_iconst dX5_weather_16 2 rfl 17 rfl ?_
      refine v_iload_n dX5_weather_17 1 rfl 18 rfl ?_
      refine n_iadd dX5_weather_18 2 ja rfl rfl 19 rfl ?_
      refine v_iload_n dX5_weather_19 2 rfl 20 rfl ?_
      refine v_callV (c_X5_becomes l (k := 2 + ja) (by omega) b) kal_X5_becomes rfl dX5_weather_20 qw_751 qw_753 qw_14 rfl (by decide) (cel_mod G _) (by decide) [] (Nat.le_of_ble_eq_true rfl) rfl rfl 23 rfl ?_
      refine v_goto dX5_weather_23 32 (by decide) ?_
      exact v_iret dX5_weather_32 (by simp only [qWeather, c1, c2, eja, Bool.and_self, Bool.and_true, Bool.true_and, Bool.and_false, Bool.false_and, if_true, if_false, Bool.false_eq_true, ↓reduceIte] <;> simp [mFind, xs, xa, fnd0, fnd1, fnd2, fnd3, fnd4, fnd5, fnd6, eja]) (by simp only [qWeather, c1, c2, eja, Bool.and_self, Bool.and_true, Bool.true_and, Bool.and_false, Bool.false_and, if_true, if_false, Bool.false_eq_true, ↓reduceIte] <;> simp [mFind, xs, xa, fnd0, fnd1, fnd2, fnd3, fnd4, fnd5, fnd6, eja])
set_option maxHeartbeats 1000000 in
set_option maxRecDepth 4000 in
theorem c_X5_monthOf (l : Launch) {G : Gl} {K : CS} {M : MS} (a b : Int32) : Ct l G yX5_monthOf cX5_monthOf 3 (some .int) 2 45 [.ref (ga G (93)), .int a, .int b] (K, M) (some (.int (qMonthOf M a b).1)) (K, (qMonthOf M a b).2) := by
  obtain ⟨ms, mk, mo, ma, mf, ik, mt, td, fr, tt, vl, wr, mb, mz, nu, mv⟩ := M
  refine Ct.of (own := RX5) (by decide) rfl (Nat.le_of_ble_eq_true rfl) rfl (fun X => ?_)
  refine v_iload_n dX5_monthOf_0 1 rfl 1 rfl ?_
  refine v_callS (c_X5_isMonth l a) kal_X5_isMonth rfl dX5_monthOf_1 qw_739 qw_740 (by decide) [] (Nat.le_of_ble_eq_true rfl) rfl rfl 4 rfl ?_
  refine v_ifb_eq dX5_monthOf_4 19 (by decide) 7 rfl (fun c1 => ?_) (fun c1 => ?_)
  · skip
    refine v_aload_n dX5_monthOf_19 0 rfl 20 rfl ?_
    refine v_ldc dX5_monthOf_20 (-1000000001) qw_755 22 rfl ?_
    refine v_callV (c_X5_finds l (k := 0) (by decide) (-1000000001) (by decide)) kal_X5_finds rfl dX5_monthOf_22 qw_756 qw_758 qw_15 rfl (by decide) (cel_mod G _) (by decide) [] (Nat.le_of_ble_eq_true rfl) rfl rfl 25 rfl ?_
    exact v_iret dX5_monthOf_25 (by simp only [qMonthOf, c1, Bool.and_self, Bool.and_true, Bool.true_and, Bool.and_false, Bool.false_and, if_true, if_false, Bool.false_eq_true, ↓reduceIte] <;> simp [mFind, xs, xa, fnd0, fnd1, fnd2, fnd3, fnd4, fnd5, fnd6, true_and]) (by simp only [qMonthOf, c1, Bool.and_self, Bool.and_true, Bool.true_and, Bool.and_false, Bool.false_and, if_true, if_false, Bool.false_eq_true, ↓reduceIte] <;> simp [mFind, xs, xa, fnd0, fnd1, fnd2, fnd3, fnd4, fnd5, fnd6, true_and])
  · skip
    obtain ⟨ja, h1ja, h2ja, rfl⟩ := inb_ix (lo := 0) (hi := 11) c1
    have eja : (nI ja).toNatClampNeg = ja := nI_clamp (by omega)
    refine v_iload_n dX5_monthOf_7 2 rfl 8 rfl ?_
    refine v_i2l dX5_monthOf_8 9 rfl ?_
    refine v_lconst dX5_monthOf_9 0 rfl 10 rfl ?_
    refine v_ldc2 dX5_monthOf_10 2 qw_764 13 rfl ?_
    refine v_callS (c_X5_in l (b : Int32).toInt64 0 2 (z := (b : Int32).toInt) (lo := 0) (hi := 2) (i2l_i _) rfl rfl) kal_X5_in rfl dX5_monthOf_13 qw_743 qw_744 (by decide) [] (Nat.le_of_ble_eq_true rfl) rfl rfl 16 rfl ?_
    refine v_topi (b2 (inb 0 2 b)) rfl ?_
    refine v_ifb_ne dX5_monthOf_16 26 (by decide) 19 rfl (fun c2 => ?_) (fun c2 => ?_)
    · skip
      refine v_iload_n dX5_monthOf_26 2 rfl 27 rfl ?_
      refine v_if_ne dX5_monthOf_27 44 (by decide) 30 rfl (fun c3 => ?_) (fun c3 => ?_)
      · skip
        refine v_aload_n dX5_monthOf_44 0 rfl 45 rfl ?_
        refine v_get (i := 0) (ci := 5) (T := TX5) (C := RX5) (N := 16) (v := .ref (ga G (94))) dX5_monthOf_45 inB5 rfl qw_686 rfl (by decide) (by decide) (cel_mod G _) rfl 48 rfl ?_
        refine v_iload_n dX5_monthOf_48 2 rfl 49 rfl ?_
        refine v_iconst dX5_monthOf_49 1 rfl 50 rfl ?_
        refine v_icmp_ne dX5_monthOf_50 58 (by decide) 53 rfl (fun c4 => ?_) (fun c4 => ?_)
        · skip
          refine v_bipush dX5_monthOf_58 26 rfl 60 rfl ?_
          refine v_iload_n dX5_monthOf_60 1 rfl 61 rfl ?_
          refine n_iadd dX5_monthOf_61 26 ja rfl rfl 62 rfl ?_
          refine v_iald (a := ms) dX5_monthOf_62 (by decide) (cel_ms G _) (26 + ja) rfl (by omega) (by decide) 63 rfl ?_
          exact v_iret dX5_monthOf_63 (by simp only [qMonthOf, c1, c2, eja, Bool.and_self, Bool.and_true, Bool.true_and, Bool.and_false, Bool.false_and, if_true, if_false, Bool.false_eq_true, ↓reduceIte] <;> simp [mFind, xs, xa, fnd0, fnd1, fnd2, fnd3, fnd4, fnd5, fnd6, c3, Ne.symm c3, c4, Ne.symm c4, eja]) (by simp only [qMonthOf, c1, c2, eja, Bool.and_self, Bool.and_true, Bool.true_and, Bool.and_false, Bool.false_and, if_true, if_false, Bool.false_eq_true, ↓reduceIte] <;> simp [mFind, xs, xa, fnd0, fnd1, fnd2, fnd3, fnd4, fnd5, fnd6, c3, Ne.symm c3, c4, Ne.symm c4, eja])
        · skip
          refine v_bipush dX5_monthOf_53 14 rfl 55 rfl ?_
          refine v_goto dX5_monthOf_55 60 (by decide) ?_
          refine v_iload_n dX5_monthOf_60 1 rfl 61 rfl ?_
          refine n_iadd dX5_monthOf_61 14 ja rfl rfl 62 rfl ?_
          refine v_iald (a := ms) dX5_monthOf_62 (by decide) (cel_ms G _) (14 + ja) rfl (by omega) (by decide) 63 rfl ?_
          exact v_iret dX5_monthOf_63 (by simp only [qMonthOf, c1, c2, eja, Bool.and_self, Bool.and_true, Bool.true_and, Bool.and_false, Bool.false_and, if_true, if_false, Bool.false_eq_true, ↓reduceIte] <;> simp [mFind, xs, xa, fnd0, fnd1, fnd2, fnd3, fnd4, fnd5, fnd6, c3, Ne.symm c3, c4, eja]) (by simp only [qMonthOf, c1, c2, eja, Bool.and_self, Bool.and_true, Bool.true_and, Bool.and_false, Bool.false_and, if_true, if_false, Bool.false_eq_true, ↓reduceIte] <;> simp [mFind, xs, xa, fnd0, fnd1, fnd2, fnd3, fnd4, fnd5, fnd6, c3, Ne.symm c3, c4, eja])
      · skip
        refine v_bipush dX5_monthOf_30 100 rfl 32 rfl ?_
        refine v_aload_n dX5_monthOf_32 0 rfl 33 rfl ?_
        refine v_get (i := 0) (ci := 5) (T := TX5) (C := RX5) (N := 16) (v := .ref (ga G (94))) dX5_monthOf_33 inB5 rfl qw_686 rfl (by decide) (by decide) (cel_mod G _) rfl 36 rfl ?_
        refine v_iconst dX5_monthOf_36 2 rfl 37 rfl ?_
        refine v_iload_n dX5_monthOf_37 1 rfl 38 rfl ?_
        refine n_iadd dX5_monthOf_38 2 ja rfl rfl 39 rfl ?_
        refine v_iald (a := ms) dX5_monthOf_39 (by decide) (cel_ms G _) (2 + ja) rfl (by omega) (by decide) 40 rfl ?_
        refine v_iadd dX5_monthOf_40 41 rfl ?_
        refine v_goto dX5_monthOf_41 63 (by decide) ?_
        exact v_iret dX5_monthOf_63 (by simp only [qMonthOf, c1, c2, eja, Bool.and_self, Bool.and_true, Bool.true_and, Bool.and_false, Bool.false_and, if_true, if_false, Bool.false_eq_true, ↓reduceIte] <;> simp [mFind, xs, xa, fnd0, fnd1, fnd2, fnd3, fnd4, fnd5, fnd6, c3, eja]) (by simp only [qMonthOf, c1, c2, eja, Bool.and_self, Bool.and_true, Bool.true_and, Bool.and_false, Bool.false_and, if_true, if_false, Bool.false_eq_true, ↓reduceIte] <;> simp [mFind, xs, xa, fnd0, fnd1, fnd2, fnd3, fnd4, fnd5, fnd6, c3, eja])
    · skip
      refine v_aload_n dX5_monthOf_19 0 rfl 20 rfl ?_
      refine v_ldc dX5_monthOf_20 (-1000000001) qw_755 22 rfl ?_
      refine v_callV (c_X5_finds l (k := 0) (by decide) (-1000000001) (by decide)) kal_X5_finds rfl dX5_monthOf_22 qw_756 qw_758 qw_15 rfl (by decide) (cel_mod G _) (by decide) [] (Nat.le_of_ble_eq_true rfl) rfl rfl 25 rfl ?_
      exact v_iret dX5_monthOf_25 (by simp only [qMonthOf, c1, c2, eja, Bool.and_self, Bool.and_true, Bool.true_and, Bool.and_false, Bool.false_and, if_true, if_false, Bool.false_eq_true, ↓reduceIte] <;> simp [mFind, xs, xa, fnd0, fnd1, fnd2, fnd3, fnd4, fnd5, fnd6, eja]) (by simp only [qMonthOf, c1, c2, eja, Bool.and_self, Bool.and_true, Bool.true_and, Bool.and_false, Bool.false_and, if_true, if_false, Bool.false_eq_true, ↓reduceIte] <;> simp [mFind, xs, xa, fnd0, fnd1, fnd2, fnd3, fnd4, fnd5, fnd6, eja])
set_option maxHeartbeats 1000000 in
set_option maxRecDepth 4000 in
theorem c_X5_now (l : Launch) {G : Gl} {K : CS} {M : MS} {nE : Nat} (hn : M.1 1 = nI nE) (hn8 : nE ≤ 8) {t0 : Nat} (hm : M.1 0 = nI t0) (hmo : t0 < 2 ^ 20) (a : Int32) : Ct l G yX5_now cX5_now 2 (some .int) 3 66 [.ref (ga G (93)), .int a] (K, M) (some (.int (qNow M nE t0 a).1)) (K, (qNow M nE t0 a).2) := by
  obtain ⟨ms, mk, mo, ma, mf, ik, mt, td, fr, tt, vl, wr, mb, mz, nu, mv⟩ := M
  dsimp only at hn hm
  refine Ct.of (own := RX5) (by decide) rfl (Nat.le_of_ble_eq_true rfl) rfl (fun X => ?_)
  refine v_iload_n dX5_now_0 1 rfl 1 rfl ?_
  by_cases c1_0 : a = 0
  · refine v_topi 0 c1_0 ?_
    refine v_tabIn dX5_now_1 (by decide) (by decide) (off := 39) (by decide) 40 (by decide) ?_
    refine v_aload_n dX5_now_40 0 rfl 41 rfl ?_
    refine v_get (i := 0) (ci := 5) (T := TX5) (C := RX5) (N := 16) (v := .ref (ga G (94))) dX5_now_41 inB5 rfl qw_686 rfl (by decide) (by decide) (cel_mod G _) rfl 44 rfl ?_
    refine v_iconst dX5_now_44 0 rfl 45 rfl ?_
    refine v_iald (a := ms) dX5_now_45 (by decide) (cel_ms G _) 0 rfl (by omega) (by decide) 46 rfl ?_
    refine v_topi (nI t0) hm ?_
    exact v_iret dX5_now_46 (by simp only [qNow, true_and, Bool.and_self, Bool.and_true, Bool.true_and, Bool.and_false, Bool.false_and, if_true, if_false, Bool.false_eq_true, ↓reduceIte] <;> simp [mFind, xs, xa, fnd0, fnd1, fnd2, fnd3, fnd4, fnd5, fnd6, c1_0]) (by simp only [qNow, true_and, Bool.and_self, Bool.and_true, Bool.true_and, Bool.and_false, Bool.false_and, if_true, if_false, Bool.false_eq_true, ↓reduceIte] <;> simp [mFind, xs, xa, fnd0, fnd1, fnd2, fnd3, fnd4, fnd5, fnd6, c1_0])
  by_cases c1_1 : a = 1
  · refine v_topi 1 c1_1 ?_
    refine v_tabIn dX5_now_1 (by decide) (by decide) (off := 46) (by decide) 47 (by decide) ?_
    refine v_aload_n dX5_now_47 0 rfl 48 rfl ?_
    refine v_callV (c_X5_ofYear l hm (by omega)) kal_X5_ofYear rfl dX5_now_48 qw_769 qw_771 qw_16 rfl (by decide) (cel_mod G _) (by decide) [] (Nat.le_of_ble_eq_true rfl) rfl rfl 51 rfl ?_
    exact v_iret dX5_now_51 (by simp only [qNow, true_and, Bool.and_self, Bool.and_true, Bool.true_and, Bool.and_false, Bool.false_and, if_true, if_false, Bool.false_eq_true, ↓reduceIte] <;> simp [mFind, xs, xa, fnd0, fnd1, fnd2, fnd3, fnd4, fnd5, fnd6, c1_0, c1_1]) (by simp only [qNow, true_and, Bool.and_self, Bool.and_true, Bool.true_and, Bool.and_false, Bool.false_and, if_true, if_false, Bool.false_eq_true, ↓reduceIte] <;> simp [mFind, xs, xa, fnd0, fnd1, fnd2, fnd3, fnd4, fnd5, fnd6, c1_0, c1_1])
  by_cases c1_2 : a = 2
  · refine v_topi 2 c1_2 ?_
    refine v_tabIn dX5_now_1 (by decide) (by decide) (off := 51) (by decide) 52 (by decide) ?_
    refine v_bipush dX5_now_52 100 rfl 54 rfl ?_
    refine v_aload_n dX5_now_54 0 rfl 55 rfl ?_
    refine v_get (i := 0) (ci := 5) (T := TX5) (C := RX5) (N := 16) (v := .ref (ga G (94))) dX5_now_55 inB5 rfl qw_686 rfl (by decide) (by decide) (cel_mod G _) rfl 58 rfl ?_
    refine v_iconst dX5_now_58 2 rfl 59 rfl ?_
    refine v_aload_n dX5_now_59 0 rfl 60 rfl ?_
    refine v_callV (c_X5_ofYear l hm (by omega)) kal_X5_ofYear rfl dX5_now_60 qw_769 qw_771 qw_16 rfl (by decide) (cel_mod G _) (by decide) [.int 2, .ref (ga G (94)), .int 100] (Nat.le_of_ble_eq_true rfl) rfl rfl 63 rfl ?_
    refine n_iadd dX5_now_63 2 (t0 % 12) rfl rfl 64 rfl ?_
    refine v_iald (a := ms) dX5_now_64 (by decide) (cel_ms G _) (2 + (t0 % 12)) rfl (by omega) (by decide) 65 rfl ?_
    refine v_iadd dX5_now_65 66 rfl ?_
    exact v_iret dX5_now_66 (by simp only [qNow, true_and, Bool.and_self, Bool.and_true, Bool.true_and, Bool.and_false, Bool.false_and, if_true, if_false, Bool.false_eq_true, ↓reduceIte] <;> simp [mFind, xs, xa, fnd0, fnd1, fnd2, fnd3, fnd4, fnd5, fnd6, c1_0, c1_1, c1_2]) (by simp only [qNow, true_and, Bool.and_self, Bool.and_true, Bool.true_and, Bool.and_false, Bool.false_and, if_true, if_false, Bool.false_eq_true, ↓reduceIte] <;> simp [mFind, xs, xa, fnd0, fnd1, fnd2, fnd3, fnd4, fnd5, fnd6, c1_0, c1_1, c1_2])
  by_cases c1_3 : a = 3
  · refine v_topi 3 c1_3 ?_
    refine v_tabIn dX5_now_1 (by decide) (by decide) (off := 66) (by decide) 67 (by decide) ?_
    refine v_aload_n dX5_now_67 0 rfl 68 rfl ?_
    refine v_bipush dX5_now_68 14 rfl 70 rfl ?_
    refine v_callV (c_X5_twelve l (k := 14) (by omega)) kal_X5_twelve rfl dX5_now_70 qw_773 qw_775 qw_17 rfl (by decide) (cel_mod G _) (by decide) [] (Nat.le_of_ble_eq_true rfl) rfl rfl 73 rfl ?_
    exact v_iret dX5_now_73 (by simp only [qNow, true_and, Bool.and_self, Bool.and_true, Bool.true_and, Bool.and_false, Bool.false_and, if_true, if_false, Bool.false_eq_true, ↓reduceIte] <;> simp [mFind, xs, xa, fnd0, fnd1, fnd2, fnd3, fnd4, fnd5, fnd6, c1_0, c1_1, c1_2, c1_3]) (by simp only [qNow, true_and, Bool.and_self, Bool.and_true, Bool.true_and, Bool.and_false, Bool.false_and, if_true, if_false, Bool.false_eq_true, ↓reduceIte] <;> simp [mFind, xs, xa, fnd0, fnd1, fnd2, fnd3, fnd4, fnd5, fnd6, c1_0, c1_1, c1_2, c1_3])
  by_cases c1_4 : a = 4
  · refine v_topi 4 c1_4 ?_
    refine v_tabIn dX5_now_1 (by decide) (by decide) (off := 73) (by decide) 74 (by decide) ?_
    refine v_aload_n dX5_now_74 0 rfl 75 rfl ?_
    refine v_bipush dX5_now_75 26 rfl 77 rfl ?_
    refine v_callV (c_X5_twelve l (k := 26) (by omega)) kal_X5_twelve rfl dX5_now_77 qw_773 qw_775 qw_17 rfl (by decide) (cel_mod G _) (by decide) [] (Nat.le_of_ble_eq_true rfl) rfl rfl 80 rfl ?_
    exact v_iret dX5_now_80 (by simp only [qNow, true_and, Bool.and_self, Bool.and_true, Bool.true_and, Bool.and_false, Bool.false_and, if_true, if_false, Bool.false_eq_true, ↓reduceIte] <;> simp [mFind, xs, xa, fnd0, fnd1, fnd2, fnd3, fnd4, fnd5, fnd6, c1_0, c1_1, c1_2, c1_3, c1_4]) (by simp only [qNow, true_and, Bool.and_self, Bool.and_true, Bool.true_and, Bool.and_false, Bool.false_and, if_true, if_false, Bool.false_eq_true, ↓reduceIte] <;> simp [mFind, xs, xa, fnd0, fnd1, fnd2, fnd3, fnd4, fnd5, fnd6, c1_0, c1_1, c1_2, c1_3, c1_4])
  by_cases c1_5 : a = 5
  · refine v_topi 5 c1_5 ?_
    refine v_tabIn dX5_now_1 (by decide) (by decide) (off := 80) (by decide) 81 (by decide) ?_
    refine v_aload_n dX5_now_81 0 rfl 82 rfl ?_
    refine v_callV (c_X5_fleeces l hn hn8) kal_X5_fleeces rfl dX5_now_82 qw_777 qw_779 qw_18 rfl (by decide) (cel_mod G _) (by decide) [] (Nat.le_of_ble_eq_true rfl) rfl rfl 85 rfl ?_
    exact v_iret dX5_now_85 (by simp only [qNow, true_and, Bool.and_self, Bool.and_true, Bool.true_and, Bool.and_false, Bool.false_and, if_true, if_false, Bool.false_eq_true, ↓reduceIte] <;> simp [mFind, xs, xa, fnd0, fnd1, fnd2, fnd3, fnd4, fnd5, fnd6, c1_0, c1_1, c1_2, c1_3, c1_4, c1_5]) (by simp only [qNow, true_and, Bool.and_self, Bool.and_true, Bool.true_and, Bool.and_false, Bool.false_and, if_true, if_false, Bool.false_eq_true, ↓reduceIte] <;> simp [mFind, xs, xa, fnd0, fnd1, fnd2, fnd3, fnd4, fnd5, fnd6, c1_0, c1_1, c1_2, c1_3, c1_4, c1_5])
  refine v_tabOut dX5_now_1 (sw_out (lo := 0) (hi := 5) (by decide) (by decide) (fun k h1 h2 => by rcases (show k = 0 ∨ k = 1 ∨ k = 2 ∨ k = 3 ∨ k = 4 ∨ k = 5 by omega) with rfl | rfl | rfl | rfl | rfl | rfl <;> first | exact c1_0 | exact c1_1 | exact c1_2 | exact c1_3 | exact c1_4 | exact c1_5)) 86 (by decide) ?_
  refine v_aload_n dX5_now_86 0 rfl 87 rfl ?_
  refine v_ldc dX5_now_87 (-1000000001) qw_755 89 rfl ?_
  refine v_callV (c_X5_finds l (k := 0) (by decide) (-1000000001) (by decide)) kal_X5_finds rfl dX5_now_89 qw_756 qw_758 qw_15 rfl (by decide) (cel_mod G _) (by decide) [] (Nat.le_of_ble_eq_true rfl) rfl rfl 92 rfl ?_
  exact v_iret dX5_now_92 (by simp only [qNow, true_and, Bool.and_self, Bool.and_true, Bool.true_and, Bool.and_false, Bool.false_and, if_true, if_false, Bool.false_eq_true, ↓reduceIte] <;> simp [mFind, xs, xa, fnd0, fnd1, fnd2, fnd3, fnd4, fnd5, fnd6, c1_0, c1_1, c1_2, c1_3, c1_4, c1_5]) (by simp only [qNow, true_and, Bool.and_self, Bool.and_true, Bool.true_and, Bool.and_false, Bool.false_and, if_true, if_false, Bool.false_eq_true, ↓reduceIte] <;> simp [mFind, xs, xa, fnd0, fnd1, fnd2, fnd3, fnd4, fnd5, fnd6, c1_0, c1_1, c1_2, c1_3, c1_4, c1_5])
set_option maxHeartbeats 1000000 in
set_option maxRecDepth 4000 in
theorem c_X5_ewe (l : Launch) {G : Gl} {K : CS} {M : MS} {nE : Nat} (hn : M.1 1 = nI nE) (hn8 : nE ≤ 8) (a : Int32) : Ct l G yX5_ewe cX5_ewe 2 (some .int) 2 45 [.ref (ga G (93)), .int a] (K, M) (some (.int (qEwe M nE a).1)) (K, (qEwe M nE a).2) := by
  obtain ⟨ms, mk, mo, ma, mf, ik, mt, td, fr, tt, vl, wr, mb, mz, nu, mv⟩ := M
  dsimp only at hn
  refine Ct.of (own := RX5) (by decide) rfl (Nat.le_of_ble_eq_true rfl) rfl (fun X => ?_)
  refine v_iload_n dX5_ewe_0 1 rfl 1 rfl ?_
  refine v_callS (c_X5_isKind l a) kal_X5_isKind rfl dX5_ewe_1 qw_792 qw_793 (by decide) [] (Nat.le_of_ble_eq_true rfl) rfl rfl 4 rfl ?_
  refine v_ifb_ne dX5_ewe_4 14 (by decide) 7 rfl (fun c1 => ?_) (fun c1 => ?_)
  · skip
    refine v_aload_n dX5_ewe_14 0 rfl 15 rfl ?_
    refine v_get (i := 0) (ci := 5) (T := TX5) (C := RX5) (N := 16) (v := .ref (ga G (94))) dX5_ewe_15 inB5 rfl qw_686 rfl (by decide) (by decide) (cel_mod G _) rfl 18 rfl ?_
    refine v_iconst dX5_ewe_18 1 rfl 19 rfl ?_
    refine v_iald (a := ms) dX5_ewe_19 (by decide) (cel_ms G _) 1 rfl (by omega) (by decide) 20 rfl ?_
    refine v_topi (nI nE) hn ?_
    refine v_bipush dX5_ewe_20 8 rfl 22 rfl ?_
    refine n_icmp_ne dX5_ewe_22 nE 8 rfl rfl (by omega) (by omega) 34 (by decide) 25 rfl (fun c2 => ?_) (fun c2 => ?_)
    · skip
      refine v_aload_n dX5_ewe_34 0 rfl 35 rfl ?_
      refine v_iload_n dX5_ewe_35 1 rfl 36 rfl ?_
      refine v_callV (c_X5_adds l hn (by omega) a) kal_X5_adds rfl dX5_ewe_36 qw_797 qw_799 qw_20 rfl (by decide) (cel_mod G _) (by decide) [] (Nat.le_of_ble_eq_true rfl) rfl rfl 39 rfl ?_
      exact v_iret dX5_ewe_39 (by simp only [qEwe, c1, Bool.and_self, Bool.and_true, Bool.true_and, Bool.and_false, Bool.false_and, if_true, if_false, Bool.false_eq_true, ↓reduceIte] <;> simp [mFind, xs, xa, fnd0, fnd1, fnd2, fnd3, fnd4, fnd5, fnd6, c2]) (by simp only [qEwe, c1, Bool.and_self, Bool.and_true, Bool.true_and, Bool.and_false, Bool.false_and, if_true, if_false, Bool.false_eq_true, ↓reduceIte] <;> simp [mFind, xs, xa, fnd0, fnd1, fnd2, fnd3, fnd4, fnd5, fnd6, c2])
    · skip
      refine v_aload_n dX5_ewe_25 0 rfl 26 rfl ?_
      refine v_ldc dX5_ewe_26 (-1000000002) qw_796 28 rfl ?_
      refine v_callV (c_X5_finds l (k := 1) (by decide) (-1000000002) (by decide)) kal_X5_finds rfl dX5_ewe_28 qw_756 qw_758 qw_15 rfl (by decide) (cel_mod G _) (by decide) [] (Nat.le_of_ble_eq_true rfl) rfl rfl 31 rfl ?_
      refine v_goto dX5_ewe_31 39 (by decide) ?_
      exact v_iret dX5_ewe_39 (by simp only [qEwe, c1, Bool.and_self, Bool.and_true, Bool.true_and, Bool.and_false, Bool.false_and, if_true, if_false, Bool.false_eq_true, ↓reduceIte] <;> simp [mFind, xs, xa, fnd0, fnd1, fnd2, fnd3, fnd4, fnd5, fnd6, c2]) (by simp only [qEwe, c1, Bool.and_self, Bool.and_true, Bool.true_and, Bool.and_false, Bool.false_and, if_true, if_false, Bool.false_eq_true, ↓reduceIte] <;> simp [mFind, xs, xa, fnd0, fnd1, fnd2, fnd3, fnd4, fnd5, fnd6, c2])
  · skip
    refine v_aload_n dX5_ewe_7 0 rfl 8 rfl ?_
    refine v_ldc dX5_ewe_8 (-1000000001) qw_755 10 rfl ?_
    refine v_callV (c_X5_finds l (k := 0) (by decide) (-1000000001) (by decide)) kal_X5_finds rfl dX5_ewe_10 qw_756 qw_758 qw_15 rfl (by decide) (cel_mod G _) (by decide) [] (Nat.le_of_ble_eq_true rfl) rfl rfl 13 rfl ?_
    exact v_iret dX5_ewe_13 (by simp only [qEwe, c1, Bool.and_self, Bool.and_true, Bool.true_and, Bool.and_false, Bool.false_and, if_true, if_false, Bool.false_eq_true, ↓reduceIte] <;> simp [mFind, xs, xa, fnd0, fnd1, fnd2, fnd3, fnd4, fnd5, fnd6, true_and]) (by simp only [qEwe, c1, Bool.and_self, Bool.and_true, Bool.true_and, Bool.and_false, Bool.false_and, if_true, if_false, Bool.false_eq_true, ↓reduceIte] <;> simp [mFind, xs, xa, fnd0, fnd1, fnd2, fnd3, fnd4, fnd5, fnd6, true_and])
set_option maxHeartbeats 1000000 in
set_option maxRecDepth 4000 in
theorem c_X5_of (l : Launch) {G : Gl} {K : CS} {M : MS} {nE : Nat} (hn : M.1 1 = nI nE) (hn8 : nE ≤ 8) (a b : Int32) : Ct l G yX5_of cX5_of 3 (some .int) 3 64 [.ref (ga G (93)), .int a, .int b] (K, M) (some (.int (qOf M nE a b).1)) (K, (qOf M nE a b).2) := by
  obtain ⟨ms, mk, mo, ma, mf, ik, mt, td, fr, tt, vl, wr, mb, mz, nu, mv⟩ := M
  dsimp only at hn
  refine Ct.of (own := RX5) (by decide) rfl (Nat.le_of_ble_eq_true rfl) rfl (fun X => ?_)
  refine v_aload_n dX5_of_0 0 rfl 1 rfl ?_
  refine v_iload_n dX5_of_1 1 rfl 2 rfl ?_
  refine v_callV (c_X5_isEwe l hn hn8 a) kal_X5_isEwe rfl dX5_of_2 qw_805 qw_807 qw_21 rfl (by decide) (cel_mod G _) (by decide) [] (Nat.le_of_ble_eq_true rfl) rfl rfl 5 rfl ?_
  refine v_ifb_eq dX5_of_5 20 (by decide) 8 rfl (fun c1 => ?_) (fun c1 => ?_)
  · skip
    refine v_aload_n dX5_of_20 0 rfl 21 rfl ?_
    refine v_ldc dX5_of_21 (-1000000001) qw_755 23 rfl ?_
    refine v_callV (c_X5_finds l (k := 0) (by decide) (-1000000001) (by decide)) kal_X5_finds rfl dX5_of_23 qw_756 qw_758 qw_15 rfl (by decide) (cel_mod G _) (by decide) [] (Nat.le_of_ble_eq_true rfl) rfl rfl 26 rfl ?_
    exact v_iret dX5_of_26 (by simp only [qOf, c1, Bool.and_self, Bool.and_true, Bool.true_and, Bool.and_false, Bool.false_and, if_true, if_false, Bool.false_eq_true, ↓reduceIte] <;> simp [mFind, xs, xa, fnd0, fnd1, fnd2, fnd3, fnd4, fnd5, fnd6, true_and]) (by simp only [qOf, c1, Bool.and_self, Bool.and_true, Bool.true_and, Bool.and_false, Bool.false_and, if_true, if_false, Bool.false_eq_true, ↓reduceIte] <;> simp [mFind, xs, xa, fnd0, fnd1, fnd2, fnd3, fnd4, fnd5, fnd6, true_and])
  · skip
    obtain ⟨ja, h2ja, rfl⟩ := inE_ix c1
    have eja : (nI ja).toNatClampNeg = ja := nI_clamp (by omega)
    refine v_iload_n dX5_of_8 2 rfl 9 rfl ?_
    refine v_i2l dX5_of_9 10 rfl ?_
    refine v_lconst dX5_of_10 0 rfl 11 rfl ?_
    refine v_ldc2 dX5_of_11 3 qw_809 14 rfl ?_
    refine v_callS (c_X5_in l (b : Int32).toInt64 0 3 (z := (b : Int32).toInt) (lo := 0) (hi := 3) (i2l_i _) rfl rfl) kal_X5_in rfl dX5_of_14 qw_743 qw_744 (by decide) [] (Nat.le_of_ble_eq_true rfl) rfl rfl 17 rfl ?_
    refine v_topi (b2 (inb 0 3 b)) rfl ?_
    refine v_ifb_ne dX5_of_17 27 (by decide) 20 rfl (fun c2 => ?_) (fun c2 => ?_)
    · skip
      obtain ⟨jb, h1jb, h2jb, rfl⟩ := inb_ix (lo := 0) (hi := 3) c2
      have ejb : (nI jb).toNatClampNeg = jb := nI_clamp (by omega)
      refine v_iload_n dX5_of_27 2 rfl 28 rfl ?_
      refine v_iconst dX5_of_28 1 rfl 29 rfl ?_
      refine n_icmp_gt dX5_of_29 jb 1 rfl rfl (by omega) (by omega) 41 (by decide) 32 rfl (fun c3 => ?_) (fun c3 => ?_)
      · skip
        refine v_iload_n dX5_of_41 2 rfl 42 rfl ?_
        refine v_iconst dX5_of_42 2 rfl 43 rfl ?_
        refine n_icmp_ne dX5_of_43 jb 2 rfl rfl (by omega) (by omega) 54 (by decide) 46 rfl (fun c4 => ?_) (fun c4 => ?_)
        · skip
          refine v_aload_n dX5_of_54 0 rfl 55 rfl ?_
          refine v_iload_n dX5_of_55 1 rfl 56 rfl ?_
          refine v_callV (c_X5_calmsOf l (e := ja) (by omega) ) kal_X5_calmsOf rfl dX5_of_56 qw_814 qw_816 qw_23 rfl (by decide) (cel_mod G _) (by decide) [] (Nat.le_of_ble_eq_true rfl) rfl rfl 59 rfl ?_
          exact v_iret dX5_of_59 (by simp only [qOf, c1, c2, eja, ejb, Bool.and_self, Bool.and_true, Bool.true_and, Bool.and_false, Bool.false_and, if_true, if_false, Bool.false_eq_true, ↓reduceIte] <;> simp [mFind, xs, xa, fnd0, fnd1, fnd2, fnd3, fnd4, fnd5, fnd6, c3, Nat.not_le.mpr c3, c4, eja, ejb]) (by simp only [qOf, c1, c2, eja, ejb, Bool.and_self, Bool.and_true, Bool.true_and, Bool.and_false, Bool.false_and, if_true, if_false, Bool.false_eq_true, ↓reduceIte] <;> simp [mFind, xs, xa, fnd0, fnd1, fnd2, fnd3, fnd4, fnd5, fnd6, c3, Nat.not_le.mpr c3, c4, eja, ejb])
        · skip
          refine v_aload_n dX5_of_46 0 rfl 47 rfl ?_
          refine v_iload_n dX5_of_47 1 rfl 48 rfl ?_
          refine v_callV (c_X5_woolOf l (e := ja) (by omega)) kal_X5_woolOf rfl dX5_of_48 qw_781 qw_783 qw_19 rfl (by decide) (cel_mod G _) (by decide) [] (Nat.le_of_ble_eq_true rfl) rfl rfl 51 rfl ?_
          refine v_goto dX5_of_51 59 (by decide) ?_
          exact v_iret dX5_of_59 (by simp only [qOf, c1, c2, eja, ejb, Bool.and_self, Bool.and_true, Bool.true_and, Bool.and_false, Bool.false_and, if_true, if_false, Bool.false_eq_true, ↓reduceIte] <;> simp [mFind, xs, xa, fnd0, fnd1, fnd2, fnd3, fnd4, fnd5, fnd6, c3, Nat.not_le.mpr c3, c4, eja, ejb]) (by simp only [qOf, c1, c2, eja, ejb, Bool.and_self, Bool.and_true, Bool.true_and, Bool.and_false, Bool.false_and, if_true, if_false, Bool.false_eq_true, ↓reduceIte] <;> simp [mFind, xs, xa, fnd0, fnd1, fnd2, fnd3, fnd4, fnd5, fnd6, c3, Nat.not_le.mpr c3, c4, eja, ejb])
      · skip
        refine v_aload_n dX5_of_32 0 rfl 33 rfl ?_
        refine v_iload_n dX5_of_33 1 rfl 34 rfl ?_
        refine v_iload_n dX5_of_34 2 rfl 35 rfl ?_
        refine v_callV (c_X5_its l (e := ja) (k := jb) (by omega) (by omega)) kal_X5_its rfl dX5_of_35 qw_810 qw_812 qw_22 rfl (by decide) (cel_mod G _) (by decide) [] (Nat.le_of_ble_eq_true rfl) rfl rfl 38 rfl ?_
        refine v_goto dX5_of_38 59 (by decide) ?_
        exact v_iret dX5_of_59 (by simp only [qOf, c1, c2, eja, ejb, Bool.and_self, Bool.and_true, Bool.true_and, Bool.and_false, Bool.false_and, if_true, if_false, Bool.false_eq_true, ↓reduceIte] <;> simp [mFind, xs, xa, fnd0, fnd1, fnd2, fnd3, fnd4, fnd5, fnd6, c3, Nat.not_lt.mpr c3, eja, ejb]) (by simp only [qOf, c1, c2, eja, ejb, Bool.and_self, Bool.and_true, Bool.true_and, Bool.and_false, Bool.false_and, if_true, if_false, Bool.false_eq_true, ↓reduceIte] <;> simp [mFind, xs, xa, fnd0, fnd1, fnd2, fnd3, fnd4, fnd5, fnd6, c3, Nat.not_lt.mpr c3, eja, ejb])
    · skip
      refine v_aload_n dX5_of_20 0 rfl 21 rfl ?_
      refine v_ldc dX5_of_21 (-1000000001) qw_755 23 rfl ?_
      refine v_callV (c_X5_finds l (k := 0) (by decide) (-1000000001) (by decide)) kal_X5_finds rfl dX5_of_23 qw_756 qw_758 qw_15 rfl (by decide) (cel_mod G _) (by decide) [] (Nat.le_of_ble_eq_true rfl) rfl rfl 26 rfl ?_
      exact v_iret dX5_of_26 (by simp only [qOf, c1, c2, eja, Bool.and_self, Bool.and_true, Bool.true_and, Bool.and_false, Bool.false_and, if_true, if_false, Bool.false_eq_true, ↓reduceIte] <;> simp [mFind, xs, xa, fnd0, fnd1, fnd2, fnd3, fnd4, fnd5, fnd6, eja]) (by simp only [qOf, c1, c2, eja, Bool.and_self, Bool.and_true, Bool.true_and, Bool.and_false, Bool.false_and, if_true, if_false, Bool.false_eq_true, ↓reduceIte] <;> simp [mFind, xs, xa, fnd0, fnd1, fnd2, fnd3, fnd4, fnd5, fnd6, eja])
set_option maxHeartbeats 1000000 in
set_option maxRecDepth 4000 in
theorem c_X5_fleece (l : Launch) {G : Gl} {K : CS} {M : MS} {nE : Nat} (hn : M.1 1 = nI nE) (hn8 : nE ≤ 8) (a b : Int32) : Ct l G yX5_fleece cX5_fleece 3 (some .int) 2 46 [.ref (ga G (93)), .int a, .int b] (K, M) (some (.int (qFleece M nE a b).1)) (K, (qFleece M nE a b).2) := by
  obtain ⟨ms, mk, mo, ma, mf, ik, mt, td, fr, tt, vl, wr, mb, mz, nu, mv⟩ := M
  dsimp only at hn
  refine Ct.of (own := RX5) (by decide) rfl (Nat.le_of_ble_eq_true rfl) rfl (fun X => ?_)
  refine v_aload_n dX5_fleece_0 0 rfl 1 rfl ?_
  refine v_iload_n dX5_fleece_1 1 rfl 2 rfl ?_
  refine v_callV (c_X5_isEwe l hn hn8 a) kal_X5_isEwe rfl dX5_fleece_2 qw_805 qw_807 qw_21 rfl (by decide) (cel_mod G _) (by decide) [] (Nat.le_of_ble_eq_true rfl) rfl rfl 5 rfl ?_
  refine v_ifb_eq dX5_fleece_5 26 (by decide) 8 rfl (fun c1 => ?_) (fun c1 => ?_)
  · skip
    refine v_aload_n dX5_fleece_26 0 rfl 27 rfl ?_
    refine v_ldc dX5_fleece_27 (-1000000001) qw_755 29 rfl ?_
    refine v_callV (c_X5_finds l (k := 0) (by decide) (-1000000001) (by decide)) kal_X5_finds rfl dX5_fleece_29 qw_756 qw_758 qw_15 rfl (by decide) (cel_mod G _) (by decide) [] (Nat.le_of_ble_eq_true rfl) rfl rfl 32 rfl ?_
    exact v_iret dX5_fleece_32 (by simp only [qFleece, c1, Bool.and_self, Bool.and_true, Bool.true_and, Bool.and_false, Bool.false_and, if_true, if_false, Bool.false_eq_true, ↓reduceIte] <;> simp [mFind, xs, xa, fnd0, fnd1, fnd2, fnd3, fnd4, fnd5, fnd6, true_and]) (by simp only [qFleece, c1, Bool.and_self, Bool.and_true, Bool.true_and, Bool.and_false, Bool.false_and, if_true, if_false, Bool.false_eq_true, ↓reduceIte] <;> simp [mFind, xs, xa, fnd0, fnd1, fnd2, fnd3, fnd4, fnd5, fnd6, true_and])
  · skip
    obtain ⟨ja, h2ja, rfl⟩ := inE_ix c1
    have eja : (nI ja).toNatClampNeg = ja := nI_clamp (by omega)
    refine v_iload_n dX5_fleece_8 2 rfl 9 rfl ?_
    refine v_callS (c_X5_isMonth l b) kal_X5_isMonth rfl dX5_fleece_9 qw_739 qw_740 (by decide) [] (Nat.le_of_ble_eq_true rfl) rfl rfl 12 rfl ?_
    refine v_ifb_eq dX5_fleece_12 26 (by decide) 15 rfl (fun c2 => ?_) (fun c2 => ?_)
    · skip
      refine v_aload_n dX5_fleece_26 0 rfl 27 rfl ?_
      refine v_ldc dX5_fleece_27 (-1000000001) qw_755 29 rfl ?_
      refine v_callV (c_X5_finds l (k := 0) (by decide) (-1000000001) (by decide)) kal_X5_finds rfl dX5_fleece_29 qw_756 qw_758 qw_15 rfl (by decide) (cel_mod G _) (by decide) [] (Nat.le_of_ble_eq_true rfl) rfl rfl 32 rfl ?_
      exact v_iret dX5_fleece_32 (by simp only [qFleece, c1, c2, eja, Bool.and_self, Bool.and_true, Bool.true_and, Bool.and_false, Bool.false_and, if_true, if_false, Bool.false_eq_true, ↓reduceIte] <;> simp [mFind, xs, xa, fnd0, fnd1, fnd2, fnd3, fnd4, fnd5, fnd6, eja]) (by simp only [qFleece, c1, c2, eja, Bool.and_self, Bool.and_true, Bool.true_and, Bool.and_false, Bool.false_and, if_true, if_false, Bool.false_eq_true, ↓reduceIte] <;> simp [mFind, xs, xa, fnd0, fnd1, fnd2, fnd3, fnd4, fnd5, fnd6, eja])
    · skip
      obtain ⟨jb, h1jb, h2jb, rfl⟩ := inb_ix (lo := 0) (hi := 11) c2
      have ejb : (nI jb).toNatClampNeg = jb := nI_clamp (by omega)
      refine v_aload_n dX5_fleece_15 0 rfl 16 rfl ?_
      refine v_iload_n dX5_fleece_16 1 rfl 17 rfl ?_
      refine v_iconst dX5_fleece_17 2 rfl 18 rfl ?_
      refine v_iload_n dX5_fleece_18 2 rfl 19 rfl ?_
      refine n_iadd dX5_fleece_19 2 jb rfl rfl 20 rfl ?_
      refine v_callV (c_X5_its l (e := ja) (k := 2 + jb) (by omega) (by omega)) kal_X5_its rfl dX5_fleece_20 qw_810 qw_812 qw_22 rfl (by decide) (cel_mod G _) (by decide) [] (Nat.le_of_ble_eq_true rfl) rfl rfl 23 rfl ?_
      refine v_goto dX5_fleece_23 32 (by decide) ?_
      exact v_iret dX5_fleece_32 (by simp only [qFleece, c1, c2, eja, ejb, Bool.and_self, Bool.and_true, Bool.true_and, Bool.and_false, Bool.false_and, if_true, if_false, Bool.false_eq_true, ↓reduceIte] <;> simp [mFind, xs, xa, fnd0, fnd1, fnd2, fnd3, fnd4, fnd5, fnd6, eja, ejb]) (by simp only [qFleece, c1, c2, eja, ejb, Bool.and_self, Bool.and_true, Bool.true_and, Bool.and_false, Bool.false_and, if_true, if_false, Bool.false_eq_true, ↓reduceIte] <;> simp [mFind, xs, xa, fnd0, fnd1, fnd2, fnd3, fnd4, fnd5, fnd6, eja, ejb])
set_option maxHeartbeats 1000000 in
set_option maxRecDepth 4000 in
theorem c_X5_can (l : Launch) {G : Gl} {K : CS} {M : MS} {nE : Nat} (hn : M.1 1 = nI nE) (hn8 : nE ≤ 8) (a b c : Int32) : Ct l G yX5_can cX5_can 4 (some .int) 3 66 [.ref (ga G (93)), .int a, .int b, .int c] (K, M) (some (.int (qCan M nE a b c).1)) (K, (qCan M nE a b c).2) := by
  obtain ⟨ms, mk, mo, ma, mf, ik, mt, td, fr, tt, vl, wr, mb, mz, nu, mv⟩ := M
  dsimp only at hn
  refine Ct.of (own := RX5) (by decide) rfl (Nat.le_of_ble_eq_true rfl) rfl (fun X => ?_)
  refine v_aload_n dX5_can_0 0 rfl 1 rfl ?_
  refine v_iload_n dX5_can_1 1 rfl 2 rfl ?_
  refine v_callV (c_X5_isEwe l hn hn8 a) kal_X5_isEwe rfl dX5_can_2 qw_805 qw_807 qw_21 rfl (by decide) (cel_mod G _) (by decide) [] (Nat.le_of_ble_eq_true rfl) rfl rfl 5 rfl ?_
  refine v_ifb_eq dX5_can_5 28 (by decide) 8 rfl (fun c1 => ?_) (fun c1 => ?_)
  · skip
    refine v_aload_n dX5_can_28 0 rfl 29 rfl ?_
    refine v_ldc dX5_can_29 (-1000000001) qw_755 31 rfl ?_
    refine v_callV (c_X5_finds l (k := 0) (by decide) (-1000000001) (by decide)) kal_X5_finds rfl dX5_can_31 qw_756 qw_758 qw_15 rfl (by decide) (cel_mod G _) (by decide) [] (Nat.le_of_ble_eq_true rfl) rfl rfl 34 rfl ?_
    exact v_iret dX5_can_34 (by simp only [qCan, c1, Bool.and_self, Bool.and_true, Bool.true_and, Bool.and_false, Bool.false_and, if_true, if_false, Bool.false_eq_true, ↓reduceIte] <;> simp [mFind, xs, xa, fnd0, fnd1, fnd2, fnd3, fnd4, fnd5, fnd6, true_and]) (by simp only [qCan, c1, Bool.and_self, Bool.and_true, Bool.true_and, Bool.and_false, Bool.false_and, if_true, if_false, Bool.false_eq_true, ↓reduceIte] <;> simp [mFind, xs, xa, fnd0, fnd1, fnd2, fnd3, fnd4, fnd5, fnd6, true_and])
  · skip
    obtain ⟨ja, h2ja, rfl⟩ := inE_ix c1
    have eja : (nI ja).toNatClampNeg = ja := nI_clamp (by omega)
    refine v_iload_n dX5_can_8 2 rfl 9 rfl ?_
    refine v_i2l dX5_can_9 10 rfl ?_
    refine v_lconst dX5_can_10 0 rfl 11 rfl ?_
    refine v_ldc2 dX5_can_11 2 qw_764 14 rfl ?_
    refine v_callS (c_X5_in l (b : Int32).toInt64 0 2 (z := (b : Int32).toInt) (lo := 0) (hi := 2) (i2l_i _) rfl rfl) kal_X5_in rfl dX5_can_14 qw_743 qw_744 (by decide) [] (Nat.le_of_ble_eq_true rfl) rfl rfl 17 rfl ?_
    refine v_topi (b2 (inb 0 2 b)) rfl ?_
    refine v_ifb_eq dX5_can_17 28 (by decide) 20 rfl (fun c2 => ?_) (fun c2 => ?_)
    · skip
      refine v_aload_n dX5_can_28 0 rfl 29 rfl ?_
      refine v_ldc dX5_can_29 (-1000000001) qw_755 31 rfl ?_
      refine v_callV (c_X5_finds l (k := 0) (by decide) (-1000000001) (by decide)) kal_X5_finds rfl dX5_can_31 qw_756 qw_758 qw_15 rfl (by decide) (cel_mod G _) (by decide) [] (Nat.le_of_ble_eq_true rfl) rfl rfl 34 rfl ?_
      exact v_iret dX5_can_34 (by simp only [qCan, c1, c2, eja, Bool.and_self, Bool.and_true, Bool.true_and, Bool.and_false, Bool.false_and, if_true, if_false, Bool.false_eq_true, ↓reduceIte] <;> simp [mFind, xs, xa, fnd0, fnd1, fnd2, fnd3, fnd4, fnd5, fnd6, eja]) (by simp only [qCan, c1, c2, eja, Bool.and_self, Bool.and_true, Bool.true_and, Bool.and_false, Bool.false_and, if_true, if_false, Bool.false_eq_true, ↓reduceIte] <;> simp [mFind, xs, xa, fnd0, fnd1, fnd2, fnd3, fnd4, fnd5, fnd6, eja])
    · skip
      refine v_iload_n dX5_can_20 3 rfl 21 rfl ?_
      refine v_i2l dX5_can_21 22 rfl ?_
      refine v_callS (c_X5_isWeather l (c : Int32).toInt64) kal_X5_isWeather rfl dX5_can_22 qw_746 qw_747 (by decide) [] (Nat.le_of_ble_eq_true rfl) rfl rfl 25 rfl ?_
      refine v_topi (b2 (inb (-20) 20 c)) (by rw [i2l_i]; rfl) ?_
      refine v_ifb_ne dX5_can_25 35 (by decide) 28 rfl (fun c3 => ?_) (fun c3 => ?_)
      · skip
        refine v_iload_n dX5_can_35 2 rfl 36 rfl ?_
        refine v_if_ne dX5_can_36 48 (by decide) 39 rfl (fun c4 => ?_) (fun c4 => ?_)
        · skip
          refine v_iload_n dX5_can_48 2 rfl 49 rfl ?_
          refine v_iconst dX5_can_49 1 rfl 50 rfl ?_
          refine v_icmp_ne dX5_can_50 61 (by decide) 53 rfl (fun c5 => ?_) (fun c5 => ?_)
          · skip
            refine v_aload_n dX5_can_61 0 rfl 62 rfl ?_
            refine v_iload_n dX5_can_62 1 rfl 63 rfl ?_
            refine v_iload_n dX5_can_63 3 rfl 64 rfl ?_
            refine v_callV (c_X5_burrsIn l (e := ja) (by omega) c) kal_X5_burrsIn rfl dX5_can_64 qw_834 qw_836 qw_26 rfl (by decide) (cel_mod G _) (by decide) [] (Nat.le_of_ble_eq_true rfl) rfl rfl 67 rfl ?_
            exact v_iret dX5_can_67 (by simp only [qCan, c1, c2, c3, eja, Bool.and_self, Bool.and_true, Bool.true_and, Bool.and_false, Bool.false_and, if_true, if_false, Bool.false_eq_true, ↓reduceIte] <;> simp [mFind, xs, xa, fnd0, fnd1, fnd2, fnd3, fnd4, fnd5, fnd6, c4, Ne.symm c4, c5, Ne.symm c5, eja]) (by simp only [qCan, c1, c2, c3, eja, Bool.and_self, Bool.and_true, Bool.true_and, Bool.and_false, Bool.false_and, if_true, if_false, Bool.false_eq_true, ↓reduceIte] <;> simp [mFind, xs, xa, fnd0, fnd1, fnd2, fnd3, fnd4, fnd5, fnd6, c4, Ne.symm c4, c5, Ne.symm c5, eja])
          · skip
            refine v_aload_n dX5_can_53 0 rfl 54 rfl ?_
            refine v_iload_n dX5_can_54 1 rfl 55 rfl ?_
            refine v_callV (c_X5_losesOf l (e := ja) (by omega) ) kal_X5_losesOf rfl dX5_can_55 qw_830 qw_832 qw_25 rfl (by decide) (cel_mod G _) (by decide) [] (Nat.le_of_ble_eq_true rfl) rfl rfl 58 rfl ?_
            refine v_goto dX5_can_58 67 (by decide) ?_
            exact v_iret dX5_can_67 (by simp only [qCan, c1, c2, c3, eja, Bool.and_self, Bool.and_true, Bool.true_and, Bool.and_false, Bool.false_and, if_true, if_false, Bool.false_eq_true, ↓reduceIte] <;> simp [mFind, xs, xa, fnd0, fnd1, fnd2, fnd3, fnd4, fnd5, fnd6, c4, Ne.symm c4, c5, eja]) (by simp only [qCan, c1, c2, c3, eja, Bool.and_self, Bool.and_true, Bool.true_and, Bool.and_false, Bool.false_and, if_true, if_false, Bool.false_eq_true, ↓reduceIte] <;> simp [mFind, xs, xa, fnd0, fnd1, fnd2, fnd3, fnd4, fnd5, fnd6, c4, Ne.symm c4, c5, eja])
        · skip
          refine v_aload_n dX5_can_39 0 rfl 40 rfl ?_
          refine v_iload_n dX5_can_40 1 rfl 41 rfl ?_
          refine v_iload_n dX5_can_41 3 rfl 42 rfl ?_
          refine v_callV (c_X5_growsIn l (e := ja) (by omega) c) kal_X5_growsIn rfl dX5_can_42 qw_826 qw_828 qw_24 rfl (by decide) (cel_mod G _) (by decide) [] (Nat.le_of_ble_eq_true rfl) rfl rfl 45 rfl ?_
          refine v_goto dX5_can_45 67 (by decide) ?_
          exact v_iret dX5_can_67 (by simp only [qCan, c1, c2, c3, eja, Bool.and_self, Bool.and_true, Bool.true_and, Bool.and_false, Bool.false_and, if_true, if_false, Bool.false_eq_true, ↓reduceIte] <;> simp [mFind, xs, xa, fnd0, fnd1, fnd2, fnd3, fnd4, fnd5, fnd6, c4, eja]) (by simp only [qCan, c1, c2, c3, eja, Bool.and_self, Bool.and_true, Bool.true_and, Bool.and_false, Bool.false_and, if_true, if_false, Bool.false_eq_true, ↓reduceIte] <;> simp [mFind, xs, xa, fnd0, fnd1, fnd2, fnd3, fnd4, fnd5, fnd6, c4, eja])
      · skip
        refine v_aload_n dX5_can_28 0 rfl 29 rfl ?_
        refine v_ldc dX5_can_29 (-1000000001) qw_755 31 rfl ?_
        refine v_callV (c_X5_finds l (k := 0) (by decide) (-1000000001) (by decide)) kal_X5_finds rfl dX5_can_31 qw_756 qw_758 qw_15 rfl (by decide) (cel_mod G _) (by decide) [] (Nat.le_of_ble_eq_true rfl) rfl rfl 34 rfl ?_
        exact v_iret dX5_can_34 (by simp only [qCan, c1, c2, c3, eja, Bool.and_self, Bool.and_true, Bool.true_and, Bool.and_false, Bool.false_and, if_true, if_false, Bool.false_eq_true, ↓reduceIte] <;> simp [mFind, xs, xa, fnd0, fnd1, fnd2, fnd3, fnd4, fnd5, fnd6, eja]) (by simp only [qCan, c1, c2, c3, eja, Bool.and_self, Bool.and_true, Bool.true_and, Bool.and_false, Bool.false_and, if_true, if_false, Bool.false_eq_true, ↓reduceIte] <;> simp [mFind, xs, xa, fnd0, fnd1, fnd2, fnd3, fnd4, fnd5, fnd6, eja])
set_option maxHeartbeats 1000000 in
set_option maxRecDepth 4000 in
theorem c_X5_scare (l : Launch) {G : Gl} {K : CS} {M : MS} {nE : Nat} (hn : M.1 1 = nI nE) (hn8 : nE ≤ 8) (a b : Int32) : Ct l G yX5_scare cX5_scare 3 (some .int) 2 46 [.ref (ga G (93)), .int a, .int b] (K, M) (some (.int (qScare M nE a b).1)) (K, (qScare M nE a b).2) := by
  obtain ⟨ms, mk, mo, ma, mf, ik, mt, td, fr, tt, vl, wr, mb, mz, nu, mv⟩ := M
  dsimp only at hn
  refine Ct.of (own := RX5) (by decide) rfl (Nat.le_of_ble_eq_true rfl) rfl (fun X => ?_)
  refine v_aload_n dX5_scare_0 0 rfl 1 rfl ?_
  refine v_iload_n dX5_scare_1 1 rfl 2 rfl ?_
  refine v_callV (c_X5_isEwe l hn hn8 a) kal_X5_isEwe rfl dX5_scare_2 qw_805 qw_807 qw_21 rfl (by decide) (cel_mod G _) (by decide) [] (Nat.le_of_ble_eq_true rfl) rfl rfl 5 rfl ?_
  refine v_ifb_eq dX5_scare_5 33 (by decide) 8 rfl (fun c1 => ?_) (fun c1 => ?_)
  · skip
    refine v_aload_n dX5_scare_33 0 rfl 34 rfl ?_
    refine v_ldc dX5_scare_34 (-1000000001) qw_755 36 rfl ?_
    refine v_callV (c_X5_finds l (k := 0) (by decide) (-1000000001) (by decide)) kal_X5_finds rfl dX5_scare_36 qw_756 qw_758 qw_15 rfl (by decide) (cel_mod G _) (by decide) [] (Nat.le_of_ble_eq_true rfl) rfl rfl 39 rfl ?_
    exact v_iret dX5_scare_39 (by simp only [qScare, c1, Bool.and_self, Bool.and_true, Bool.true_and, Bool.and_false, Bool.false_and, if_true, if_false, Bool.false_eq_true, ↓reduceIte] <;> simp [mFind, xs, xa, fnd0, fnd1, fnd2, fnd3, fnd4, fnd5, fnd6, true_and]) (by simp only [qScare, c1, Bool.and_self, Bool.and_true, Bool.true_and, Bool.and_false, Bool.false_and, if_true, if_false, Bool.false_eq_true, ↓reduceIte] <;> simp [mFind, xs, xa, fnd0, fnd1, fnd2, fnd3, fnd4, fnd5, fnd6, true_and])
  · skip
    obtain ⟨ja, h2ja, rfl⟩ := inE_ix c1
    have eja : (nI ja).toNatClampNeg = ja := nI_clamp (by omega)
    refine v_iload_n dX5_scare_8 2 rfl 9 rfl ?_
    refine v_i2l dX5_scare_9 10 rfl ?_
    refine v_lconst dX5_scare_10 0 rfl 11 rfl ?_
    refine v_ldc2 dX5_scare_11 99 qw_842 14 rfl ?_
    refine v_callS (c_X5_in l (b : Int32).toInt64 0 99 (z := (b : Int32).toInt) (lo := 0) (hi := 99) (i2l_i _) rfl rfl) kal_X5_in rfl dX5_scare_14 qw_743 qw_744 (by decide) [] (Nat.le_of_ble_eq_true rfl) rfl rfl 17 rfl ?_
    refine v_topi (b2 (inb 0 99 b)) rfl ?_
    refine v_ifb_eq dX5_scare_17 33 (by decide) 20 rfl (fun c2 => ?_) (fun c2 => ?_)
    · skip
      refine v_aload_n dX5_scare_33 0 rfl 34 rfl ?_
      refine v_ldc dX5_scare_34 (-1000000001) qw_755 36 rfl ?_
      refine v_callV (c_X5_finds l (k := 0) (by decide) (-1000000001) (by decide)) kal_X5_finds rfl dX5_scare_36 qw_756 qw_758 qw_15 rfl (by decide) (cel_mod G _) (by decide) [] (Nat.le_of_ble_eq_true rfl) rfl rfl 39 rfl ?_
      exact v_iret dX5_scare_39 (by simp only [qScare, c1, c2, eja, Bool.and_self, Bool.and_true, Bool.true_and, Bool.and_false, Bool.false_and, if_true, if_false, Bool.false_eq_true, ↓reduceIte] <;> simp [mFind, xs, xa, fnd0, fnd1, fnd2, fnd3, fnd4, fnd5, fnd6, eja]) (by simp only [qScare, c1, c2, eja, Bool.and_self, Bool.and_true, Bool.true_and, Bool.and_false, Bool.false_and, if_true, if_false, Bool.false_eq_true, ↓reduceIte] <;> simp [mFind, xs, xa, fnd0, fnd1, fnd2, fnd3, fnd4, fnd5, fnd6, eja])
    · skip
      refine v_aload_n dX5_scare_20 0 rfl 21 rfl ?_
      refine v_iload_n dX5_scare_21 1 rfl 22 rfl ?_
      refine v_iconst dX5_scare_22 1 rfl 23 rfl ?_
      refine v_callS (c_X5_spot l ja 1) kal_X5_spot rfl dX5_scare_23 qw_785 qw_786 (by decide) [.ref (ga G (93))] (Nat.le_of_ble_eq_true rfl) rfl rfl 26 rfl ?_
      refine v_iload_n dX5_scare_26 2 rfl 27 rfl ?_
      refine v_callV (c_X5_becomes l (k := 38 + 14 * ja + 1) (by omega) b) kal_X5_becomes rfl dX5_scare_27 qw_751 qw_753 qw_14 rfl (by decide) (cel_mod G _) (by decide) [] (Nat.le_of_ble_eq_true rfl) rfl rfl 30 rfl ?_
      refine v_goto dX5_scare_30 39 (by decide) ?_
      exact v_iret dX5_scare_39 (by simp only [qScare, c1, c2, eja, Bool.and_self, Bool.and_true, Bool.true_and, Bool.and_false, Bool.false_and, if_true, if_false, Bool.false_eq_true, ↓reduceIte] <;> simp [mFind, xs, xa, fnd0, fnd1, fnd2, fnd3, fnd4, fnd5, fnd6, eja]) (by simp only [qScare, c1, c2, eja, Bool.and_self, Bool.and_true, Bool.true_and, Bool.and_false, Bool.false_and, if_true, if_false, Bool.false_eq_true, ↓reduceIte] <;> simp [mFind, xs, xa, fnd0, fnd1, fnd2, fnd3, fnd4, fnd5, fnd6, eja])
set_option maxHeartbeats 1000000 in
set_option maxRecDepth 4000 in
theorem c_X5_turn (l : Launch) {G : Gl} {K : CS} {M : MS} {nE : Nat} (hn : M.1 1 = nI nE) (hn8 : nE ≤ 8) (a b : Int32) : Ct l G yX5_turn cX5_turn 3 (some .int) 2 46 [.ref (ga G (93)), .int a, .int b] (K, M) (some (.int (qTurn M nE a b).1)) (K, (qTurn M nE a b).2) := by
  obtain ⟨ms, mk, mo, ma, mf, ik, mt, td, fr, tt, vl, wr, mb, mz, nu, mv⟩ := M
  dsimp only at hn
  refine Ct.of (own := RX5) (by decide) rfl (Nat.le_of_ble_eq_true rfl) rfl (fun X => ?_)
  refine v_aload_n dX5_turn_0 0 rfl 1 rfl ?_
  refine v_iload_n dX5_turn_1 1 rfl 2 rfl ?_
  refine v_callV (c_X5_isEwe l hn hn8 a) kal_X5_isEwe rfl dX5_turn_2 qw_805 qw_807 qw_21 rfl (by decide) (cel_mod G _) (by decide) [] (Nat.le_of_ble_eq_true rfl) rfl rfl 5 rfl ?_
  refine v_ifb_eq dX5_turn_5 28 (by decide) 8 rfl (fun c1 => ?_) (fun c1 => ?_)
  · skip
    refine v_aload_n dX5_turn_28 0 rfl 29 rfl ?_
    refine v_ldc dX5_turn_29 (-1000000001) qw_755 31 rfl ?_
    refine v_callV (c_X5_finds l (k := 0) (by decide) (-1000000001) (by decide)) kal_X5_finds rfl dX5_turn_31 qw_756 qw_758 qw_15 rfl (by decide) (cel_mod G _) (by decide) [] (Nat.le_of_ble_eq_true rfl) rfl rfl 34 rfl ?_
    exact v_iret dX5_turn_34 (by simp only [qTurn, c1, Bool.and_self, Bool.and_true, Bool.true_and, Bool.and_false, Bool.false_and, if_true, if_false, Bool.false_eq_true, ↓reduceIte] <;> simp [mFind, xs, xa, fnd0, fnd1, fnd2, fnd3, fnd4, fnd5, fnd6, true_and]) (by simp only [qTurn, c1, Bool.and_self, Bool.and_true, Bool.true_and, Bool.and_false, Bool.false_and, if_true, if_false, Bool.false_eq_true, ↓reduceIte] <;> simp [mFind, xs, xa, fnd0, fnd1, fnd2, fnd3, fnd4, fnd5, fnd6, true_and])
  · skip
    obtain ⟨ja, h2ja, rfl⟩ := inE_ix c1
    have eja : (nI ja).toNatClampNeg = ja := nI_clamp (by omega)
    refine v_iload_n dX5_turn_8 2 rfl 9 rfl ?_
    refine v_callS (c_X5_isKind l b) kal_X5_isKind rfl dX5_turn_9 qw_792 qw_793 (by decide) [] (Nat.le_of_ble_eq_true rfl) rfl rfl 12 rfl ?_
    refine v_ifb_eq dX5_turn_12 28 (by decide) 15 rfl (fun c2 => ?_) (fun c2 => ?_)
    · skip
      refine v_aload_n dX5_turn_28 0 rfl 29 rfl ?_
      refine v_ldc dX5_turn_29 (-1000000001) qw_755 31 rfl ?_
      refine v_callV (c_X5_finds l (k := 0) (by decide) (-1000000001) (by decide)) kal_X5_finds rfl dX5_turn_31 qw_756 qw_758 qw_15 rfl (by decide) (cel_mod G _) (by decide) [] (Nat.le_of_ble_eq_true rfl) rfl rfl 34 rfl ?_
      exact v_iret dX5_turn_34 (by simp only [qTurn, c1, c2, eja, Bool.and_self, Bool.and_true, Bool.true_and, Bool.and_false, Bool.false_and, if_true, if_false, Bool.false_eq_true, ↓reduceIte] <;> simp [mFind, xs, xa, fnd0, fnd1, fnd2, fnd3, fnd4, fnd5, fnd6, eja]) (by simp only [qTurn, c1, c2, eja, Bool.and_self, Bool.and_true, Bool.true_and, Bool.and_false, Bool.false_and, if_true, if_false, Bool.false_eq_true, ↓reduceIte] <;> simp [mFind, xs, xa, fnd0, fnd1, fnd2, fnd3, fnd4, fnd5, fnd6, eja])
    · skip
      refine v_aload_n dX5_turn_15 0 rfl 16 rfl ?_
      refine v_iload_n dX5_turn_16 1 rfl 17 rfl ?_
      refine v_iconst dX5_turn_17 0 rfl 18 rfl ?_
      refine v_callS (c_X5_spot l ja 0) kal_X5_spot rfl dX5_turn_18 qw_785 qw_786 (by decide) [.ref (ga G (93))] (Nat.le_of_ble_eq_true rfl) rfl rfl 21 rfl ?_
      refine v_iload_n dX5_turn_21 2 rfl 22 rfl ?_
      refine v_callV (c_X5_becomes l (k := 38 + 14 * ja + 0) (by omega) b) kal_X5_becomes rfl dX5_turn_22 qw_751 qw_753 qw_14 rfl (by decide) (cel_mod G _) (by decide) [] (Nat.le_of_ble_eq_true rfl) rfl rfl 25 rfl ?_
      refine v_goto dX5_turn_25 34 (by decide) ?_
      exact v_iret dX5_turn_34 (by simp only [qTurn, c1, c2, eja, Bool.and_self, Bool.and_true, Bool.true_and, Bool.and_false, Bool.false_and, if_true, if_false, Bool.false_eq_true, ↓reduceIte] <;> simp [mFind, xs, xa, fnd0, fnd1, fnd2, fnd3, fnd4, fnd5, fnd6, eja]) (by simp only [qTurn, c1, c2, eja, Bool.and_self, Bool.and_true, Bool.true_and, Bool.and_false, Bool.false_and, if_true, if_false, Bool.false_eq_true, ↓reduceIte] <;> simp [mFind, xs, xa, fnd0, fnd1, fnd2, fnd3, fnd4, fnd5, fnd6, eja])
set_option maxHeartbeats 1000000 in
set_option maxRecDepth 4000 in
theorem c_X5_as (l : Launch) {G : Gl} {K : CS} {M : MS} {nE : Nat} (hn : M.1 1 = nI nE) (hn8 : nE ≤ 8) (a b : Int32) : Ct l G yX5_as cX5_as 3 (some .int) 2 46 [.ref (ga G (93)), .int a, .int b] (K, M) (some (.int (qAs M nE a b).1)) (K, (qAs M nE a b).2) := by
  obtain ⟨ms, mk, mo, ma, mf, ik, mt, td, fr, tt, vl, wr, mb, mz, nu, mv⟩ := M
  dsimp only at hn
  refine Ct.of (own := RX5) (by decide) rfl (Nat.le_of_ble_eq_true rfl) rfl (fun X => ?_)
  refine v_aload_n dX5_as_0 0 rfl 1 rfl ?_
  refine v_iload_n dX5_as_1 1 rfl 2 rfl ?_
  refine v_callV (c_X5_isEwe l hn hn8 a) kal_X5_isEwe rfl dX5_as_2 qw_805 qw_807 qw_21 rfl (by decide) (cel_mod G _) (by decide) [] (Nat.le_of_ble_eq_true rfl) rfl rfl 5 rfl ?_
  refine v_ifb_eq dX5_as_5 15 (by decide) 8 rfl (fun c1 => ?_) (fun c1 => ?_)
  · skip
    refine v_aload_n dX5_as_15 0 rfl 16 rfl ?_
    refine v_ldc dX5_as_16 (-1000000001) qw_755 18 rfl ?_
    refine v_callV (c_X5_finds l (k := 0) (by decide) (-1000000001) (by decide)) kal_X5_finds rfl dX5_as_18 qw_756 qw_758 qw_15 rfl (by decide) (cel_mod G _) (by decide) [] (Nat.le_of_ble_eq_true rfl) rfl rfl 21 rfl ?_
    exact v_iret dX5_as_21 (by simp only [qAs, c1, Bool.and_self, Bool.and_true, Bool.true_and, Bool.and_false, Bool.false_and, if_true, if_false, Bool.false_eq_true, ↓reduceIte] <;> simp [mFind, xs, xa, fnd0, fnd1, fnd2, fnd3, fnd4, fnd5, fnd6, true_and]) (by simp only [qAs, c1, Bool.and_self, Bool.and_true, Bool.true_and, Bool.and_false, Bool.false_and, if_true, if_false, Bool.false_eq_true, ↓reduceIte] <;> simp [mFind, xs, xa, fnd0, fnd1, fnd2, fnd3, fnd4, fnd5, fnd6, true_and])
  · skip
    obtain ⟨ja, h2ja, rfl⟩ := inE_ix c1
    have eja : (nI ja).toNatClampNeg = ja := nI_clamp (by omega)
    refine v_iload_n dX5_as_8 2 rfl 9 rfl ?_
    refine v_callS (c_X5_isKind l b) kal_X5_isKind rfl dX5_as_9 qw_792 qw_793 (by decide) [] (Nat.le_of_ble_eq_true rfl) rfl rfl 12 rfl ?_
    refine v_ifb_ne dX5_as_12 22 (by decide) 15 rfl (fun c2 => ?_) (fun c2 => ?_)
    · skip
      refine v_aload_n dX5_as_22 0 rfl 23 rfl ?_
      refine v_iload_n dX5_as_23 1 rfl 24 rfl ?_
      refine v_iconst dX5_as_24 0 rfl 25 rfl ?_
      refine v_callV (c_X5_its l (e := ja) (k := 0) (by omega) (by omega)) kal_X5_its rfl dX5_as_25 qw_810 qw_812 qw_22 rfl (by decide) (cel_mod G _) (by decide) [] (Nat.le_of_ble_eq_true rfl) rfl rfl 28 rfl ?_
      refine v_iload_n dX5_as_28 2 rfl 29 rfl ?_
      refine v_callS (c_X5_isUnder l (ms (38 + 14 * ja + 0)) b) kal_X5_isUnder rfl dX5_as_29 qw_851 qw_852 (by decide) [] (Nat.le_of_ble_eq_true rfl) rfl rfl 32 rfl ?_
      refine v_ifb_eq dX5_as_32 44 (by decide) 35 rfl (fun c3 => ?_) (fun c3 => ?_)
      · skip
        refine v_aload_n dX5_as_44 0 rfl 45 rfl ?_
        refine v_ldc dX5_as_45 (-1000000003) qw_854 47 rfl ?_
        refine v_callV (c_X5_finds l (k := 2) (by decide) (-1000000003) (by decide)) kal_X5_finds rfl dX5_as_47 qw_756 qw_758 qw_15 rfl (by decide) (cel_mod G _) (by decide) [] (Nat.le_of_ble_eq_true rfl) rfl rfl 50 rfl ?_
        exact v_iret dX5_as_50 (by simp only [qAs, c1, c2, c3, eja, Bool.and_self, Bool.and_true, Bool.true_and, Bool.and_false, Bool.false_and, if_true, if_false, Bool.false_eq_true, ↓reduceIte] <;> simp [mFind, xs, xa, fnd0, fnd1, fnd2, fnd3, fnd4, fnd5, fnd6, eja]) (by simp only [qAs, c1, c2, c3, eja, Bool.and_self, Bool.and_true, Bool.true_and, Bool.and_false, Bool.false_and, if_true, if_false, Bool.false_eq_true, ↓reduceIte] <;> simp [mFind, xs, xa, fnd0, fnd1, fnd2, fnd3, fnd4, fnd5, fnd6, eja])
      · skip
        refine v_aload_n dX5_as_35 0 rfl 36 rfl ?_
        refine v_iload_n dX5_as_36 1 rfl 37 rfl ?_
        refine v_iconst dX5_as_37 1 rfl 38 rfl ?_
        refine v_callV (c_X5_its l (e := ja) (k := 1) (by omega) (by omega)) kal_X5_its rfl dX5_as_38 qw_810 qw_812 qw_22 rfl (by decide) (cel_mod G _) (by decide) [] (Nat.le_of_ble_eq_true rfl) rfl rfl 41 rfl ?_
        refine v_goto dX5_as_41 50 (by decide) ?_
        exact v_iret dX5_as_50 (by simp only [qAs, c1, c2, c3, eja, Bool.and_self, Bool.and_true, Bool.true_and, Bool.and_false, Bool.false_and, if_true, if_false, Bool.false_eq_true, ↓reduceIte] <;> simp [mFind, xs, xa, fnd0, fnd1, fnd2, fnd3, fnd4, fnd5, fnd6, eja]) (by simp only [qAs, c1, c2, c3, eja, Bool.and_self, Bool.and_true, Bool.true_and, Bool.and_false, Bool.false_and, if_true, if_false, Bool.false_eq_true, ↓reduceIte] <;> simp [mFind, xs, xa, fnd0, fnd1, fnd2, fnd3, fnd4, fnd5, fnd6, eja])
    · skip
      refine v_aload_n dX5_as_15 0 rfl 16 rfl ?_
      refine v_ldc dX5_as_16 (-1000000001) qw_755 18 rfl ?_
      refine v_callV (c_X5_finds l (k := 0) (by decide) (-1000000001) (by decide)) kal_X5_finds rfl dX5_as_18 qw_756 qw_758 qw_15 rfl (by decide) (cel_mod G _) (by decide) [] (Nat.le_of_ble_eq_true rfl) rfl rfl 21 rfl ?_
      exact v_iret dX5_as_21 (by simp only [qAs, c1, c2, eja, Bool.and_self, Bool.and_true, Bool.true_and, Bool.and_false, Bool.false_and, if_true, if_false, Bool.false_eq_true, ↓reduceIte] <;> simp [mFind, xs, xa, fnd0, fnd1, fnd2, fnd3, fnd4, fnd5, fnd6, eja]) (by simp only [qAs, c1, c2, eja, Bool.and_self, Bool.and_true, Bool.true_and, Bool.and_false, Bool.false_and, if_true, if_false, Bool.false_eq_true, ↓reduceIte] <;> simp [mFind, xs, xa, fnd0, fnd1, fnd2, fnd3, fnd4, fnd5, fnd6, eja])
set_option maxHeartbeats 1000000 in
set_option maxRecDepth 4000 in
theorem c_X5_cut (l : Launch) {G : Gl} {K : CS} {M : MS} (a b c : Int32) : Ct l G yX5_cut cX5_cut 4 (some .int) 2 45 [.ref (ga G (93)), .int a, .int b, .int c] (K, M) (some (.int (qCut M a b c).1)) (K, (qCut M a b c).2) := by
  obtain ⟨ms, mk, mo, ma, mf, ik, mt, td, fr, tt, vl, wr, mb, mz, nu, mv⟩ := M
  refine Ct.of (own := RX5) (by decide) rfl (Nat.le_of_ble_eq_true rfl) rfl (fun X => ?_)
  refine v_iload_n dX5_cut_0 1 rfl 1 rfl ?_
  refine v_callS (c_X5_isCoat l a) kal_X5_isCoat rfl dX5_cut_1 qw_859 qw_860 (by decide) [] (Nat.le_of_ble_eq_true rfl) rfl rfl 4 rfl ?_
  refine v_ifb_eq dX5_cut_4 26 (by decide) 7 rfl (fun c1 => ?_) (fun c1 => ?_)
  · skip
    refine v_aload_n dX5_cut_26 0 rfl 27 rfl ?_
    refine v_ldc dX5_cut_27 (-1000000001) qw_755 29 rfl ?_
    refine v_callV (c_X5_finds l (k := 0) (by decide) (-1000000001) (by decide)) kal_X5_finds rfl dX5_cut_29 qw_756 qw_758 qw_15 rfl (by decide) (cel_mod G _) (by decide) [] (Nat.le_of_ble_eq_true rfl) rfl rfl 32 rfl ?_
    exact v_iret dX5_cut_32 (by simp only [qCut, c1, Bool.and_self, Bool.and_true, Bool.true_and, Bool.and_false, Bool.false_and, if_true, if_false, Bool.false_eq_true, ↓reduceIte] <;> simp [mFind, xs, xa, fnd0, fnd1, fnd2, fnd3, fnd4, fnd5, fnd6, true_and]) (by simp only [qCut, c1, Bool.and_self, Bool.and_true, Bool.true_and, Bool.and_false, Bool.false_and, if_true, if_false, Bool.false_eq_true, ↓reduceIte] <;> simp [mFind, xs, xa, fnd0, fnd1, fnd2, fnd3, fnd4, fnd5, fnd6, true_and])
  · skip
    obtain ⟨ja, h1ja, h2ja, rfl⟩ := inb_ix (lo := 0) (hi := 3) c1
    have eja : (nI ja).toNatClampNeg = ja := nI_clamp (by omega)
    refine v_iload_n dX5_cut_7 2 rfl 8 rfl ?_
    refine v_callS (c_X5_isMonth l b) kal_X5_isMonth rfl dX5_cut_8 qw_739 qw_740 (by decide) [] (Nat.le_of_ble_eq_true rfl) rfl rfl 11 rfl ?_
    refine v_ifb_eq dX5_cut_11 26 (by decide) 14 rfl (fun c2 => ?_) (fun c2 => ?_)
    · skip
      refine v_aload_n dX5_cut_26 0 rfl 27 rfl ?_
      refine v_ldc dX5_cut_27 (-1000000001) qw_755 29 rfl ?_
      refine v_callV (c_X5_finds l (k := 0) (by decide) (-1000000001) (by decide)) kal_X5_finds rfl dX5_cut_29 qw_756 qw_758 qw_15 rfl (by decide) (cel_mod G _) (by decide) [] (Nat.le_of_ble_eq_true rfl) rfl rfl 32 rfl ?_
      exact v_iret dX5_cut_32 (by simp only [qCut, c1, c2, eja, Bool.and_self, Bool.and_true, Bool.true_and, Bool.and_false, Bool.false_and, if_true, if_false, Bool.false_eq_true, ↓reduceIte] <;> simp [mFind, xs, xa, fnd0, fnd1, fnd2, fnd3, fnd4, fnd5, fnd6, eja]) (by simp only [qCut, c1, c2, eja, Bool.and_self, Bool.and_true, Bool.true_and, Bool.and_false, Bool.false_and, if_true, if_false, Bool.false_eq_true, ↓reduceIte] <;> simp [mFind, xs, xa, fnd0, fnd1, fnd2, fnd3, fnd4, fnd5, fnd6, eja])
    · skip
      obtain ⟨jb, h1jb, h2jb, rfl⟩ := inb_ix (lo := 0) (hi := 11) c2
      have ejb : (nI jb).toNatClampNeg = jb := nI_clamp (by omega)
      refine v_iload_n dX5_cut_14 3 rfl 15 rfl ?_
      refine v_i2l dX5_cut_15 16 rfl ?_
      refine v_lconst dX5_cut_16 1 rfl 17 rfl ?_
      refine v_ldc2 dX5_cut_17 999 qw_862 20 rfl ?_
      refine v_callS (c_X5_in l (c : Int32).toInt64 1 999 (z := (c : Int32).toInt) (lo := 1) (hi := 999) (i2l_i _) rfl rfl) kal_X5_in rfl dX5_cut_20 qw_743 qw_744 (by decide) [] (Nat.le_of_ble_eq_true rfl) rfl rfl 23 rfl ?_
      refine v_topi (b2 (inb 1 999 c)) rfl ?_
      refine v_ifb_ne dX5_cut_23 33 (by decide) 26 rfl (fun c3 => ?_) (fun c3 => ?_)
      · skip
        refine v_aload_n dX5_cut_33 0 rfl 34 rfl ?_
        refine v_get (i := 0) (ci := 5) (T := TX5) (C := RX5) (N := 16) (v := .ref (ga G (94))) dX5_cut_34 inB5 rfl qw_686 rfl (by decide) (by decide) (cel_mod G _) rfl 37 rfl ?_
        refine v_bipush dX5_cut_37 14 rfl 39 rfl ?_
        refine v_iload_n dX5_cut_39 2 rfl 40 rfl ?_
        refine n_iadd dX5_cut_40 14 jb rfl rfl 41 rfl ?_
        refine v_iald (a := ms) dX5_cut_41 (by decide) (cel_ms G _) (14 + jb) rfl (by omega) (by decide) 42 rfl ?_
        refine v_iload_n dX5_cut_42 3 rfl 43 rfl ?_
        refine v_icmp_ge dX5_cut_43 53 (by decide) 46 rfl (fun c4 => ?_) (fun c4 => ?_)
        · skip
          refine v_aload_n dX5_cut_53 0 rfl 54 rfl ?_
          refine v_get (i := 0) (ci := 5) (T := TX5) (C := RX5) (N := 16) (v := .ref (ga G (94))) dX5_cut_54 inB5 rfl qw_686 rfl (by decide) (by decide) (cel_mod G _) rfl 57 rfl ?_
          refine v_iload_n dX5_cut_57 1 rfl 58 rfl ?_
          refine v_iload_n dX5_cut_58 2 rfl 59 rfl ?_
          refine v_callS (c_X5_coatSpot l ja jb) kal_X5_coatSpot rfl dX5_cut_59 qw_864 qw_865 (by decide) [.ref (ga G (94))] (Nat.le_of_ble_eq_true rfl) rfl rfl 62 rfl ?_
          refine v_iald (a := ms) dX5_cut_62 (by decide) (cel_ms G _) (150 + 12 * ja + jb) rfl (by omega) (by decide) 63 rfl ?_
          refine v_iload_n dX5_cut_63 3 rfl 64 rfl ?_
          refine v_iadd dX5_cut_64 65 rfl ?_
          refine v_sipush dX5_cut_65 999 rfl 68 rfl ?_
          refine v_icmp_le dX5_cut_68 80 (by decide) 71 rfl (fun c5 => ?_) (fun c5 => ?_)
          · skip
            refine v_aload_n dX5_cut_80 0 rfl 81 rfl ?_
            refine v_iload_n dX5_cut_81 1 rfl 82 rfl ?_
            refine v_iload_n dX5_cut_82 2 rfl 83 rfl ?_
            refine v_iload_n dX5_cut_83 3 rfl 84 rfl ?_
            refine v_callV (c_X5_cuts l (c := ja) (m := jb) (by omega) (by omega) c) kal_X5_cuts rfl dX5_cut_84 qw_867 qw_869 qw_27 rfl (by decide) (cel_mod G _) (by decide) [] (Nat.le_of_ble_eq_true rfl) rfl rfl 87 rfl ?_
            exact v_iret dX5_cut_87 (by simp only [qCut, c1, c2, c3, eja, ejb, Bool.and_self, Bool.and_true, Bool.true_and, Bool.and_false, Bool.false_and, if_true, if_false, Bool.false_eq_true, ↓reduceIte] <;> simp [mFind, xs, xa, fnd0, fnd1, fnd2, fnd3, fnd4, fnd5, fnd6, c4, Int32.not_lt.mpr c4, c5, Int32.not_lt.mpr c5, eja, ejb]) (by simp only [qCut, c1, c2, c3, eja, ejb, Bool.and_self, Bool.and_true, Bool.true_and, Bool.and_false, Bool.false_and, if_true, if_false, Bool.false_eq_true, ↓reduceIte] <;> simp [mFind, xs, xa, fnd0, fnd1, fnd2, fnd3, fnd4, fnd5, fnd6, c4, Int32.not_lt.mpr c4, c5, Int32.not_lt.mpr c5, eja, ejb])
          · skip
            refine v_aload_n dX5_cut_71 0 rfl 72 rfl ?_
            refine v_ldc dX5_cut_72 (-1000000002) qw_796 74 rfl ?_
            refine v_callV (c_X5_finds l (k := 1) (by decide) (-1000000002) (by decide)) kal_X5_finds rfl dX5_cut_74 qw_756 qw_758 qw_15 rfl (by decide) (cel_mod G _) (by decide) [] (Nat.le_of_ble_eq_true rfl) rfl rfl 77 rfl ?_
            refine v_goto dX5_cut_77 87 (by decide) ?_
            exact v_iret dX5_cut_87 (by simp only [qCut, c1, c2, c3, eja, ejb, Bool.and_self, Bool.and_true, Bool.true_and, Bool.and_false, Bool.false_and, if_true, if_false, Bool.false_eq_true, ↓reduceIte] <;> simp [mFind, xs, xa, fnd0, fnd1, fnd2, fnd3, fnd4, fnd5, fnd6, c4, Int32.not_lt.mpr c4, c5, Int32.not_le.mp c5, eja, ejb]) (by simp only [qCut, c1, c2, c3, eja, ejb, Bool.and_self, Bool.and_true, Bool.true_and, Bool.and_false, Bool.false_and, if_true, if_false, Bool.false_eq_true, ↓reduceIte] <;> simp [mFind, xs, xa, fnd0, fnd1, fnd2, fnd3, fnd4, fnd5, fnd6, c4, Int32.not_lt.mpr c4, c5, Int32.not_le.mp c5, eja, ejb])
        · skip
          refine v_aload_n dX5_cut_46 0 rfl 47 rfl ?_
          refine v_ldc dX5_cut_47 (-1000000005) qw_863 49 rfl ?_
          refine v_callV (c_X5_finds l (k := 4) (by decide) (-1000000005) (by decide)) kal_X5_finds rfl dX5_cut_49 qw_756 qw_758 qw_15 rfl (by decide) (cel_mod G _) (by decide) [] (Nat.le_of_ble_eq_true rfl) rfl rfl 52 rfl ?_
          exact v_iret dX5_cut_52 (by simp only [qCut, c1, c2, c3, eja, ejb, Bool.and_self, Bool.and_true, Bool.true_and, Bool.and_false, Bool.false_and, if_true, if_false, Bool.false_eq_true, ↓reduceIte] <;> simp [mFind, xs, xa, fnd0, fnd1, fnd2, fnd3, fnd4, fnd5, fnd6, c4, Int32.not_le.mp c4, eja, ejb]) (by simp only [qCut, c1, c2, c3, eja, ejb, Bool.and_self, Bool.and_true, Bool.true_and, Bool.and_false, Bool.false_and, if_true, if_false, Bool.false_eq_true, ↓reduceIte] <;> simp [mFind, xs, xa, fnd0, fnd1, fnd2, fnd3, fnd4, fnd5, fnd6, c4, Int32.not_le.mp c4, eja, ejb])
      · skip
        refine v_aload_n dX5_cut_26 0 rfl 27 rfl ?_
        refine v_ldc dX5_cut_27 (-1000000001) qw_755 29 rfl ?_
        refine v_callV (c_X5_finds l (k := 0) (by decide) (-1000000001) (by decide)) kal_X5_finds rfl dX5_cut_29 qw_756 qw_758 qw_15 rfl (by decide) (cel_mod G _) (by decide) [] (Nat.le_of_ble_eq_true rfl) rfl rfl 32 rfl ?_
        exact v_iret dX5_cut_32 (by simp only [qCut, c1, c2, c3, eja, ejb, Bool.and_self, Bool.and_true, Bool.true_and, Bool.and_false, Bool.false_and, if_true, if_false, Bool.false_eq_true, ↓reduceIte] <;> simp [mFind, xs, xa, fnd0, fnd1, fnd2, fnd3, fnd4, fnd5, fnd6, eja, ejb]) (by simp only [qCut, c1, c2, c3, eja, ejb, Bool.and_self, Bool.and_true, Bool.true_and, Bool.and_false, Bool.false_and, if_true, if_false, Bool.false_eq_true, ↓reduceIte] <;> simp [mFind, xs, xa, fnd0, fnd1, fnd2, fnd3, fnd4, fnd5, fnd6, eja, ejb])
set_option maxHeartbeats 1000000 in
set_option maxRecDepth 4000 in
theorem c_X5_coatOf (l : Launch) {G : Gl} {K : CS} {M : MS} (a b : Int32) : Ct l G yX5_coatOf cX5_coatOf 3 (some .int) 2 46 [.ref (ga G (93)), .int a, .int b] (K, M) (some (.int (qCoatOf M a b).1)) (K, (qCoatOf M a b).2) := by
  obtain ⟨ms, mk, mo, ma, mf, ik, mt, td, fr, tt, vl, wr, mb, mz, nu, mv⟩ := M
  refine Ct.of (own := RX5) (by decide) rfl (Nat.le_of_ble_eq_true rfl) rfl (fun X => ?_)
  refine v_iload_n dX5_coatOf_0 1 rfl 1 rfl ?_
  refine v_callS (c_X5_isCoat l a) kal_X5_isCoat rfl dX5_coatOf_1 qw_859 qw_860 (by decide) [] (Nat.le_of_ble_eq_true rfl) rfl rfl 4 rfl ?_
  refine v_ifb_eq dX5_coatOf_4 19 (by decide) 7 rfl (fun c1 => ?_) (fun c1 => ?_)
  · skip
    refine v_aload_n dX5_coatOf_19 0 rfl 20 rfl ?_
    refine v_ldc dX5_coatOf_20 (-1000000001) qw_755 22 rfl ?_
    refine v_callV (c_X5_finds l (k := 0) (by decide) (-1000000001) (by decide)) kal_X5_finds rfl dX5_coatOf_22 qw_756 qw_758 qw_15 rfl (by decide) (cel_mod G _) (by decide) [] (Nat.le_of_ble_eq_true rfl) rfl rfl 25 rfl ?_
    exact v_iret dX5_coatOf_25 (by simp only [qCoatOf, c1, Bool.and_self, Bool.and_true, Bool.true_and, Bool.and_false, Bool.false_and, if_true, if_false, Bool.false_eq_true, ↓reduceIte] <;> simp [mFind, xs, xa, fnd0, fnd1, fnd2, fnd3, fnd4, fnd5, fnd6, true_and]) (by simp only [qCoatOf, c1, Bool.and_self, Bool.and_true, Bool.true_and, Bool.and_false, Bool.false_and, if_true, if_false, Bool.false_eq_true, ↓reduceIte] <;> simp [mFind, xs, xa, fnd0, fnd1, fnd2, fnd3, fnd4, fnd5, fnd6, true_and])
  · skip
    obtain ⟨ja, h1ja, h2ja, rfl⟩ := inb_ix (lo := 0) (hi := 3) c1
    have eja : (nI ja).toNatClampNeg = ja := nI_clamp (by omega)
    refine v_iload_n dX5_coatOf_7 2 rfl 8 rfl ?_
    refine v_i2l dX5_coatOf_8 9 rfl ?_
    refine v_lconst dX5_coatOf_9 0 rfl 10 rfl ?_
    refine v_ldc2 dX5_coatOf_10 3 qw_809 13 rfl ?_
    refine v_callS (c_X5_in l (b : Int32).toInt64 0 3 (z := (b : Int32).toInt) (lo := 0) (hi := 3) (i2l_i _) rfl rfl) kal_X5_in rfl dX5_coatOf_13 qw_743 qw_744 (by decide) [] (Nat.le_of_ble_eq_true rfl) rfl rfl 16 rfl ?_
    refine v_topi (b2 (inb 0 3 b)) rfl ?_
    refine v_ifb_ne dX5_coatOf_16 26 (by decide) 19 rfl (fun c2 => ?_) (fun c2 => ?_)
    · skip
      refine v_iload_n dX5_coatOf_26 2 rfl 27 rfl ?_
      refine v_if_ne dX5_coatOf_27 38 (by decide) 30 rfl (fun c3 => ?_) (fun c3 => ?_)
      · skip
        refine v_iload_n dX5_coatOf_38 2 rfl 39 rfl ?_
        refine v_iconst dX5_coatOf_39 1 rfl 40 rfl ?_
        refine v_icmp_ne dX5_coatOf_40 51 (by decide) 43 rfl (fun c4 => ?_) (fun c4 => ?_)
        · skip
          refine v_iload_n dX5_coatOf_51 2 rfl 52 rfl ?_
          refine v_iconst dX5_coatOf_52 2 rfl 53 rfl ?_
          refine v_icmp_ne dX5_coatOf_53 68 (by decide) 56 rfl (fun c5 => ?_) (fun c5 => ?_)
          · skip
            refine v_aload_n dX5_coatOf_68 0 rfl 69 rfl ?_
            refine v_iload_n dX5_coatOf_69 1 rfl 70 rfl ?_
            refine v_callV (c_X5_monthsIn l (c := ja) (by omega)) kal_X5_monthsIn rfl dX5_coatOf_70 qw_883 qw_885 qw_30 rfl (by decide) (cel_mod G _) (by decide) [] (Nat.le_of_ble_eq_true rfl) rfl rfl 73 rfl ?_
            exact v_iret dX5_coatOf_73 (by simp only [qCoatOf, c1, c2, eja, Bool.and_self, Bool.and_true, Bool.true_and, Bool.and_false, Bool.false_and, if_true, if_false, Bool.false_eq_true, ↓reduceIte] <;> simp [mFind, xs, xa, fnd0, fnd1, fnd2, fnd3, fnd4, fnd5, fnd6, c3, Ne.symm c3, c4, Ne.symm c4, c5, Ne.symm c5, eja]) (by simp only [qCoatOf, c1, c2, eja, Bool.and_self, Bool.and_true, Bool.true_and, Bool.and_false, Bool.false_and, if_true, if_false, Bool.false_eq_true, ↓reduceIte] <;> simp [mFind, xs, xa, fnd0, fnd1, fnd2, fnd3, fnd4, fnd5, fnd6, c3, Ne.symm c3, c4, Ne.symm c4, c5, Ne.symm c5, eja])
          · skip
            refine v_aload_n dX5_coatOf_56 0 rfl 57 rfl ?_
            refine v_iload_n dX5_coatOf_57 1 rfl 58 rfl ?_
            refine v_iconst dX5_coatOf_58 0 rfl 59 rfl ?_
            refine v_callS (c_X5_coatSpot l ja 0) kal_X5_coatSpot rfl dX5_coatOf_59 qw_864 qw_865 (by decide) [.ref (ga G (93))] (Nat.le_of_ble_eq_true rfl) rfl rfl 62 rfl ?_
            refine v_callV (c_X5_twelve l (k := 150 + 12 * ja + 0) (by omega)) kal_X5_twelve rfl dX5_coatOf_62 qw_773 qw_775 qw_17 rfl (by decide) (cel_mod G _) (by decide) [] (Nat.le_of_ble_eq_true rfl) rfl rfl 65 rfl ?_
            refine v_goto dX5_coatOf_65 73 (by decide) ?_
            exact v_iret dX5_coatOf_73 (by simp only [qCoatOf, c1, c2, eja, Bool.and_self, Bool.and_true, Bool.true_and, Bool.and_false, Bool.false_and, if_true, if_false, Bool.false_eq_true, ↓reduceIte] <;> simp [mFind, xs, xa, fnd0, fnd1, fnd2, fnd3, fnd4, fnd5, fnd6, c3, Ne.symm c3, c4, Ne.symm c4, c5, eja]) (by simp only [qCoatOf, c1, c2, eja, Bool.and_self, Bool.and_true, Bool.true_and, Bool.and_false, Bool.false_and, if_true, if_false, Bool.false_eq_true, ↓reduceIte] <;> simp [mFind, xs, xa, fnd0, fnd1, fnd2, fnd3, fnd4, fnd5, fnd6, c3, Ne.symm c3, c4, Ne.symm c4, c5, eja])
        · skip
          refine v_aload_n dX5_coatOf_43 0 rfl 44 rfl ?_
          refine v_iload_n dX5_coatOf_44 1 rfl 45 rfl ?_
          refine v_callV (c_X5_harshOf l (c := ja) (by omega)) kal_X5_harshOf rfl dX5_coatOf_45 qw_879 qw_881 qw_29 rfl (by decide) (cel_mod G _) (by decide) [] (Nat.le_of_ble_eq_true rfl) rfl rfl 48 rfl ?_
          refine v_goto dX5_coatOf_48 73 (by decide) ?_
          exact v_iret dX5_coatOf_73 (by simp only [qCoatOf, c1, c2, eja, Bool.and_self, Bool.and_true, Bool.true_and, Bool.and_false, Bool.false_and, if_true, if_false, Bool.false_eq_true, ↓reduceIte] <;> simp [mFind, xs, xa, fnd0, fnd1, fnd2, fnd3, fnd4, fnd5, fnd6, c3, Ne.symm c3, c4, eja]) (by simp only [qCoatOf, c1, c2, eja, Bool.and_self, Bool.and_true, Bool.true_and, Bool.and_false, Bool.false_and, if_true, if_false, Bool.false_eq_true, ↓reduceIte] <;> simp [mFind, xs, xa, fnd0, fnd1, fnd2, fnd3, fnd4, fnd5, fnd6, c3, Ne.symm c3, c4, eja])
      · skip
        refine v_aload_n dX5_coatOf_30 0 rfl 31 rfl ?_
        refine v_iload_n dX5_coatOf_31 1 rfl 32 rfl ?_
        refine v_callV (c_X5_warmthOf l (c := ja) (by omega)) kal_X5_warmthOf rfl dX5_coatOf_32 qw_875 qw_877 qw_28 rfl (by decide) (cel_mod G _) (by decide) [] (Nat.le_of_ble_eq_true rfl) rfl rfl 35 rfl ?_
        refine v_goto dX5_coatOf_35 73 (by decide) ?_
        exact v_iret dX5_coatOf_73 (by simp only [qCoatOf, c1, c2, eja, Bool.and_self, Bool.and_true, Bool.true_and, Bool.and_false, Bool.false_and, if_true, if_false, Bool.false_eq_true, ↓reduceIte] <;> simp [mFind, xs, xa, fnd0, fnd1, fnd2, fnd3, fnd4, fnd5, fnd6, c3, eja]) (by simp only [qCoatOf, c1, c2, eja, Bool.and_self, Bool.and_true, Bool.true_and, Bool.and_false, Bool.false_and, if_true, if_false, Bool.false_eq_true, ↓reduceIte] <;> simp [mFind, xs, xa, fnd0, fnd1, fnd2, fnd3, fnd4, fnd5, fnd6, c3, eja])
    · skip
      refine v_aload_n dX5_coatOf_19 0 rfl 20 rfl ?_
      refine v_ldc dX5_coatOf_20 (-1000000001) qw_755 22 rfl ?_
      refine v_callV (c_X5_finds l (k := 0) (by decide) (-1000000001) (by decide)) kal_X5_finds rfl dX5_coatOf_22 qw_756 qw_758 qw_15 rfl (by decide) (cel_mod G _) (by decide) [] (Nat.le_of_ble_eq_true rfl) rfl rfl 25 rfl ?_
      exact v_iret dX5_coatOf_25 (by simp only [qCoatOf, c1, c2, eja, Bool.and_self, Bool.and_true, Bool.true_and, Bool.and_false, Bool.false_and, if_true, if_false, Bool.false_eq_true, ↓reduceIte] <;> simp [mFind, xs, xa, fnd0, fnd1, fnd2, fnd3, fnd4, fnd5, fnd6, eja]) (by simp only [qCoatOf, c1, c2, eja, Bool.and_self, Bool.and_true, Bool.true_and, Bool.and_false, Bool.false_and, if_true, if_false, Bool.false_eq_true, ↓reduceIte] <;> simp [mFind, xs, xa, fnd0, fnd1, fnd2, fnd3, fnd4, fnd5, fnd6, eja])
set_option maxHeartbeats 1000000 in
set_option maxRecDepth 4000 in
theorem lp_munpick (l : Launch) {G : Gl} {X : VX} {ov : Option Value} {wF : WS} {K : CS} {ms : Nat → Int32} {mk : Nat → Int32} {mo : Nat → Int32} {ma : Nat → Int32} {mf : Nat → Int32} {ik : Int32} {mt : Nat → Int32} {td : Nat} {fr : Nat} {tt : Nat} {vl : Int32} {wr : Int32} {mb : Nat → Int32} {mz : Nat → Int32} {nu : Nat → Int64} {mv : Nat → Int64} {ja : Nat} (hc : ja < 4) (hd : Int32) : ∀ n i : Nat, i + n = 12 → V l X 2 45 cX5_unpick 4 RX5 (some .int) G ov wF (K, ((mUnp ms ja 12), mk, mo, ma, mf, ik, mt, td, fr, tt, vl, wr, mb, mz, nu, mv)) 84 [(3, .int (nI 12)), (2, .int hd), (0, .ref (ga G (93))), (1, .int (nI ja))] [] → V l X 2 45 cX5_unpick 4 RX5 (some .int) G ov wF (K, ((mUnp ms ja i), mk, mo, ma, mf, ik, mt, td, fr, tt, vl, wr, mb, mz, nu, mv)) 26 [(3, .int (nI i)), (2, .int hd), (0, .ref (ga G (93))), (1, .int (nI ja))] [] := by
  intro n
  induction n with
  | zero =>
    intro i hin hk
    obtain rfl : 12 = i := by omega
    refine v_iload_n dX5_unpick_26 0 rfl 27 rfl ?_
    refine v_bipush dX5_unpick_27 12 rfl 29 rfl ?_
    refine n_icmp_ge dX5_unpick_29 12 12 rfl rfl (by omega) (by omega) 84 (by decide) 32 rfl (fun c1 => ?_) (fun c1 => absurd c1 (by omega))
    exact hk
  | succ n ih =>
    intro i hin hk
    refine v_iload_n dX5_unpick_26 0 rfl 27 rfl ?_
    refine v_bipush dX5_unpick_27 12 rfl 29 rfl ?_
    refine n_icmp_ge dX5_unpick_29 i 12 rfl rfl (by omega) (by omega) 84 (by decide) 32 rfl (fun c1 => absurd c1 (by omega)) (fun c1 => ?_)
    refine v_aload_n dX5_unpick_32 2 rfl 33 rfl ?_
    refine v_get (i := 0) (ci := 5) (T := TX5) (C := RX5) (N := 16) (v := .ref (ga G (94))) dX5_unpick_33 inB5 rfl qw_686 rfl (by decide) (by decide) (cel_mod G _) rfl 36 rfl ?_
    refine v_bipush dX5_unpick_36 14 rfl 38 rfl ?_
    refine v_iload_n dX5_unpick_38 0 rfl 39 rfl ?_
    refine n_iadd dX5_unpick_39 14 i rfl rfl 40 rfl ?_
    refine v_aload_n dX5_unpick_40 2 rfl 41 rfl ?_
    refine v_get (i := 0) (ci := 5) (T := TX5) (C := RX5) (N := 16) (v := .ref (ga G (94))) dX5_unpick_41 inB5 rfl qw_686 rfl (by decide) (by decide) (cel_mod G _) rfl 44 rfl ?_
    refine v_bipush dX5_unpick_44 14 rfl 46 rfl ?_
    refine v_iload_n dX5_unpick_46 0 rfl 47 rfl ?_
    refine n_iadd dX5_unpick_47 14 i rfl rfl 48 rfl ?_
    refine v_iald (a := (mUnp ms ja i)) dX5_unpick_48 (by decide) (cel_ms G _) (14 + i) rfl (by omega) (by decide) 49 rfl ?_
    refine v_aload_n dX5_unpick_49 2 rfl 50 rfl ?_
    refine v_get (i := 0) (ci := 5) (T := TX5) (C := RX5) (N := 16) (v := .ref (ga G (94))) dX5_unpick_50 inB5 rfl qw_686 rfl (by decide) (by decide) (cel_mod G _) rfl 53 rfl ?_
    refine v_iload_n dX5_unpick_53 3 rfl 54 rfl ?_
    refine v_iload_n dX5_unpick_54 0 rfl 55 rfl ?_
    refine v_callS (c_X5_coatSpot l ja i) kal_X5_coatSpot rfl dX5_unpick_55 qw_864 qw_865 (by decide) [.ref (ga G (94)), .int ((mUnp ms ja i) (14 + i)), .int (nI (14 + i)), .ref (ga G (94))] (Nat.le_of_ble_eq_true rfl) rfl rfl 58 rfl ?_
    refine v_iald (a := (mUnp ms ja i)) dX5_unpick_58 (by decide) (cel_ms G _) (150 + 12 * ja + i) rfl (by omega) (by decide) 59 rfl ?_
    refine v_iadd dX5_unpick_59 60 rfl ?_
    refine v_sipush dX5_unpick_60 9999 rfl 63 rfl ?_
    refine v_callS (c_X5_heldTo l (((mUnp ms ja i) (14 + i)) + ((mUnp ms ja i) (150 + 12 * ja + i))) 9999) kal_X5_heldTo rfl dX5_unpick_63 qw_891 qw_892 (by decide) [.int (nI (14 + i)), .ref (ga G (94))] (Nat.le_of_ble_eq_true rfl) rfl rfl 66 rfl ?_
    refine v_iast (w2 := (K, (upd (mUnp ms ja i) (14 + i) (mn (((mUnp ms ja i) (14 + i)) + ((mUnp ms ja i) (150 + 12 * ja + i))) 9999), mk, mo, ma, mf, ik, mt, td, fr, tt, vl, wr, mb, mz, nu, mv))) dX5_unpick_66 (by decide) (cel_ms G _) (14 + i) rfl (by omega) (by decide) u_ms 67 rfl ?_
    refine v_aload_n dX5_unpick_67 2 rfl 68 rfl ?_
    refine v_get (i := 0) (ci := 5) (T := TX5) (C := RX5) (N := 16) (v := .ref (ga G (94))) dX5_unpick_68 inB5 rfl qw_686 rfl (by decide) (by decide) (cel_mod G _) rfl 71 rfl ?_
    refine v_iload_n dX5_unpick_71 3 rfl 72 rfl ?_
    refine v_iload_n dX5_unpick_72 0 rfl 73 rfl ?_
    refine v_callS (c_X5_coatSpot l ja i) kal_X5_coatSpot rfl dX5_unpick_73 qw_864 qw_865 (by decide) [.ref (ga G (94))] (Nat.le_of_ble_eq_true rfl) rfl rfl 76 rfl ?_
    refine v_iconst dX5_unpick_76 0 rfl 77 rfl ?_
    refine v_iast (w2 := (K, (upd (upd (mUnp ms ja i) (14 + i) (mn (((mUnp ms ja i) (14 + i)) + ((mUnp ms ja i) (150 + 12 * ja + i))) 9999)) (150 + 12 * ja + i) 0, mk, mo, ma, mf, ik, mt, td, fr, tt, vl, wr, mb, mz, nu, mv))) dX5_unpick_77 (by decide) (cel_ms G _) (150 + 12 * ja + i) rfl (by omega) (by decide) u_ms 78 rfl ?_
    refine v_iinc dX5_unpick_78 0 rfl (nI (i + 1)) (nI_1 _) (by decide) [(3, .int (nI (i + 1))), (2, .int hd), (0, .ref (ga G (93))), (1, .int (nI ja))] rfl 81 rfl ?_
    refine v_goto dX5_unpick_81 26 (by decide) ?_
    exact ih (i + 1) (by omega) hk
set_option maxHeartbeats 1000000 in
set_option maxRecDepth 4000 in
theorem c_X5_unpick (l : Launch) {G : Gl} {K : CS} {M : MS} (a : Int32) : Ct l G yX5_unpick cX5_unpick 4 (some .int) 2 45 [.ref (ga G (93)), .int a] (K, M) (some (.int (qUnpick M a).1)) (K, (qUnpick M a).2) := by
  obtain ⟨ms, mk, mo, ma, mf, ik, mt, td, fr, tt, vl, wr, mb, mz, nu, mv⟩ := M
  refine Ct.of (own := RX5) (by decide) rfl (Nat.le_of_ble_eq_true rfl) rfl (fun X => ?_)
  refine v_iload_n dX5_unpick_0 1 rfl 1 rfl ?_
  refine v_callS (c_X5_isCoat l a) kal_X5_isCoat rfl dX5_unpick_1 qw_859 qw_860 (by decide) [] (Nat.le_of_ble_eq_true rfl) rfl rfl 4 rfl ?_
  refine v_ifb_ne dX5_unpick_4 14 (by decide) 7 rfl (fun c1 => ?_) (fun c1 => ?_)
  · skip
    obtain ⟨ja, h1ja, h2ja, rfl⟩ := inb_ix (lo := 0) (hi := 3) c1
    have eja : (nI ja).toNatClampNeg = ja := nI_clamp (by omega)
    refine v_aload_n dX5_unpick_14 0 rfl 15 rfl ?_
    refine v_iload_n dX5_unpick_15 1 rfl 16 rfl ?_
    refine v_iconst dX5_unpick_16 0 rfl 17 rfl ?_
    refine v_callS (c_X5_coatSpot l ja 0) kal_X5_coatSpot rfl dX5_unpick_17 qw_864 qw_865 (by decide) [.ref (ga G (93))] (Nat.le_of_ble_eq_true rfl) rfl rfl 20 rfl ?_
    refine v_callV (c_X5_twelve l (k := 150 + 12 * ja + 0) (by omega)) kal_X5_twelve rfl dX5_unpick_20 qw_773 qw_775 qw_17 rfl (by decide) (cel_mod G _) (by decide) [] (Nat.le_of_ble_eq_true rfl) rfl rfl 23 rfl ?_
    refine v_istore_n dX5_unpick_23 2 rfl (by decide) [(2, .int (sm (fun m => ms ((150 + 12 * ja + 0) + m)) 12)), (0, .ref (ga G (93))), (1, .int (nI ja))] rfl 24 rfl ?_
    refine v_iconst dX5_unpick_24 0 rfl 25 rfl ?_
    refine v_istore_n dX5_unpick_25 3 rfl (by decide) [(3, .int 0), (2, .int (sm (fun m => ms ((150 + 12 * ja + 0) + m)) 12)), (0, .ref (ga G (93))), (1, .int (nI ja))] rfl 26 rfl ?_
    refine lp_munpick l (ja := ja) (by omega) (sm (fun m => ms ((150 + 12 * ja + 0) + m)) 12) 12 0 (by omega) ?_
    refine v_iload_n dX5_unpick_84 1 rfl 85 rfl ?_
    exact v_iret dX5_unpick_85 (by simp only [qUnpick, c1, eja, Bool.and_self, Bool.and_true, Bool.true_and, Bool.and_false, Bool.false_and, if_true, if_false, Bool.false_eq_true, ↓reduceIte] <;> simp [mFind, xs, xa, fnd0, fnd1, fnd2, fnd3, fnd4, fnd5, fnd6, eja]) (by simp only [qUnpick, c1, eja, Bool.and_self, Bool.and_true, Bool.true_and, Bool.and_false, Bool.false_and, if_true, if_false, Bool.false_eq_true, ↓reduceIte] <;> simp [mFind, xs, xa, fnd0, fnd1, fnd2, fnd3, fnd4, fnd5, fnd6, eja])
  · skip
    refine v_aload_n dX5_unpick_7 0 rfl 8 rfl ?_
    refine v_ldc dX5_unpick_8 (-1000000001) qw_755 10 rfl ?_
    refine v_callV (c_X5_finds l (k := 0) (by decide) (-1000000001) (by decide)) kal_X5_finds rfl dX5_unpick_10 qw_756 qw_758 qw_15 rfl (by decide) (cel_mod G _) (by decide) [] (Nat.le_of_ble_eq_true rfl) rfl rfl 13 rfl ?_
    exact v_iret dX5_unpick_13 (by simp only [qUnpick, c1, Bool.and_self, Bool.and_true, Bool.true_and, Bool.and_false, Bool.false_and, if_true, if_false, Bool.false_eq_true, ↓reduceIte] <;> simp [mFind, xs, xa, fnd0, fnd1, fnd2, fnd3, fnd4, fnd5, fnd6, true_and]) (by simp only [qUnpick, c1, Bool.and_self, Bool.and_true, Bool.true_and, Bool.and_false, Bool.false_and, if_true, if_false, Bool.false_eq_true, ↓reduceIte] <;> simp [mFind, xs, xa, fnd0, fnd1, fnd2, fnd3, fnd4, fnd5, fnd6, true_and])
set_option maxHeartbeats 1000000 in
set_option maxRecDepth 4000 in
theorem c_X5_months (l : Launch) {G : Gl} {K : CS} {M : MS} {nE : Nat} (hn : M.1 1 = nI nE) (hn8 : nE ≤ 8) {t0 : Nat} (hm : M.1 0 = nI t0) (hmo : t0 < 2 ^ 20) (a : Int32) : Ct l G yX5_months cX5_months 2 (some .int) 6 135 [.ref (ga G (93)), .int a] (K, M) (some (.int (qMonths M nE t0 a).1)) (K, (qMonths M nE t0 a).2) := by
  obtain ⟨ms, mk, mo, ma, mf, ik, mt, td, fr, tt, vl, wr, mb, mz, nu, mv⟩ := M
  dsimp only at hn hm
  refine Ct.of (own := RX5) (by decide) rfl (Nat.le_of_ble_eq_true rfl) rfl (fun X => ?_)
  refine v_iload_n dX5_months_0 1 rfl 1 rfl ?_
  refine v_i2l dX5_months_1 2 rfl ?_
  refine v_lconst dX5_months_2 1 rfl 3 rfl ?_
  refine v_ldc2 dX5_months_3 60 qw_898 6 rfl ?_
  refine v_callS (c_X5_in l (a : Int32).toInt64 1 60 (z := (a : Int32).toInt) (lo := 1) (hi := 60) (i2l_i _) rfl rfl) kal_X5_in rfl dX5_months_6 qw_743 qw_744 (by decide) [] (Nat.le_of_ble_eq_true rfl) rfl rfl 9 rfl ?_
  refine v_topi (b2 (inb 1 60 a)) rfl ?_
  refine v_ifb_ne dX5_months_9 19 (by decide) 12 rfl (fun c1 => ?_) (fun c1 => ?_)
  · skip
    obtain ⟨ja, h1ja, h2ja, rfl⟩ := inb_ix (lo := 1) (hi := 60) c1
    have eja : (nI ja).toNatClampNeg = ja := nI_clamp (by omega)
    refine v_aload_n dX5_months_19 0 rfl 20 rfl ?_
    refine v_get (i := 0) (ci := 5) (T := TX5) (C := RX5) (N := 16) (v := .ref (ga G (94))) dX5_months_20 inB5 rfl qw_686 rfl (by decide) (by decide) (cel_mod G _) rfl 23 rfl ?_
    refine v_iconst dX5_months_23 0 rfl 24 rfl ?_
    refine v_iald (a := ms) dX5_months_24 (by decide) (cel_ms G _) 0 rfl (by omega) (by decide) 25 rfl ?_
    refine v_topi (nI t0) hm ?_
    refine v_iload_n dX5_months_25 1 rfl 26 rfl ?_
    refine n_iadd dX5_months_26 t0 ja rfl rfl 27 rfl ?_
    refine v_sipush dX5_months_27 9999 rfl 30 rfl ?_
    refine n_icmp_le dX5_months_30 (t0 + ja) 9999 rfl rfl (by omega) (by omega) 40 (by decide) 33 rfl (fun c2 => ?_) (fun c2 => ?_)
    · skip
      refine v_aload_n dX5_months_40 0 rfl 41 rfl ?_
      refine v_iload_n dX5_months_41 1 rfl 42 rfl ?_
      refine v_callV (c_X5_monthsGo l hn hn8 hm (by omega)) kal_X5_monthsGo rfl dX5_months_42 qw_899 qw_901 qw_31 rfl (by decide) (cel_mod G _) (by decide) [] (Nat.le_of_ble_eq_true rfl) rfl rfl 45 rfl ?_
      refine v_aload_n dX5_months_45 0 rfl 46 rfl ?_
      refine v_bipush dX5_months_46 14 rfl 48 rfl ?_
      refine v_callV (c_X5_twelve l (k := 14) (by omega)) kal_X5_twelve rfl dX5_months_48 qw_773 qw_775 qw_17 rfl (by decide) (cel_mod G _) (by decide) [] (Nat.le_of_ble_eq_true rfl) rfl rfl 51 rfl ?_
      exact v_iret dX5_months_51 (by simp only [qMonths, c1, eja, Bool.and_self, Bool.and_true, Bool.true_and, Bool.and_false, Bool.false_and, if_true, if_false, Bool.false_eq_true, ↓reduceIte] <;> simp [mFind, xs, xa, fnd0, fnd1, fnd2, fnd3, fnd4, fnd5, fnd6, c2, Nat.not_lt.mpr c2, eja]) (by simp only [qMonths, c1, eja, Bool.and_self, Bool.and_true, Bool.true_and, Bool.and_false, Bool.false_and, if_true, if_false, Bool.false_eq_true, ↓reduceIte] <;> simp [mFind, xs, xa, fnd0, fnd1, fnd2, fnd3, fnd4, fnd5, fnd6, c2, Nat.not_lt.mpr c2, eja])
    · skip
      refine v_aload_n dX5_months_33 0 rfl 34 rfl ?_
      refine v_ldc dX5_months_34 (-1000000005) qw_863 36 rfl ?_
      refine v_callV (c_X5_finds l (k := 4) (by decide) (-1000000005) (by decide)) kal_X5_finds rfl dX5_months_36 qw_756 qw_758 qw_15 rfl (by decide) (cel_mod G _) (by decide) [] (Nat.le_of_ble_eq_true rfl) rfl rfl 39 rfl ?_
      exact v_iret dX5_months_39 (by simp only [qMonths, c1, eja, Bool.and_self, Bool.and_true, Bool.true_and, Bool.and_false, Bool.false_and, if_true, if_false, Bool.false_eq_true, ↓reduceIte] <;> simp [mFind, xs, xa, fnd0, fnd1, fnd2, fnd3, fnd4, fnd5, fnd6, c2, Nat.not_le.mpr c2, eja]) (by simp only [qMonths, c1, eja, Bool.and_self, Bool.and_true, Bool.true_and, Bool.and_false, Bool.false_and, if_true, if_false, Bool.false_eq_true, ↓reduceIte] <;> simp [mFind, xs, xa, fnd0, fnd1, fnd2, fnd3, fnd4, fnd5, fnd6, c2, Nat.not_le.mpr c2, eja])
  · skip
    refine v_aload_n dX5_months_12 0 rfl 13 rfl ?_
    refine v_ldc dX5_months_13 (-1000000001) qw_755 15 rfl ?_
    refine v_callV (c_X5_finds l (k := 0) (by decide) (-1000000001) (by decide)) kal_X5_finds rfl dX5_months_15 qw_756 qw_758 qw_15 rfl (by decide) (cel_mod G _) (by decide) [] (Nat.le_of_ble_eq_true rfl) rfl rfl 18 rfl ?_
    exact v_iret dX5_months_18 (by simp only [qMonths, c1, Bool.and_self, Bool.and_true, Bool.true_and, Bool.and_false, Bool.false_and, if_true, if_false, Bool.false_eq_true, ↓reduceIte] <;> simp [mFind, xs, xa, fnd0, fnd1, fnd2, fnd3, fnd4, fnd5, fnd6, true_and]) (by simp only [qMonths, c1, Bool.and_self, Bool.and_true, Bool.true_and, Bool.and_false, Bool.false_and, if_true, if_false, Bool.false_eq_true, ↓reduceIte] <;> simp [mFind, xs, xa, fnd0, fnd1, fnd2, fnd3, fnd4, fnd5, fnd6, true_and])
set_option maxHeartbeats 1000000 in
set_option maxRecDepth 4000 in
theorem c_X5_on (l : Launch) {G : Gl} {K : CS} {M : MS} {nE : Nat} (hn : M.1 1 = nI nE) (hn8 : nE ≤ 8) {t0 : Nat} (hm : M.1 0 = nI t0) (hmo : t0 < 2 ^ 20) (a b c : Int32) : Ct l G yX5_on cX5_on 4 (some .int) 7 157 [.ref (ga G (93)), .int a, .int b, .int c] (K, M) (some (.int (qOn M nE t0 a b c).1)) (K, (qOn M nE t0 a b c).2) := by
  obtain ⟨ms, mk, mo, ma, mf, ik, mt, td, fr, tt, vl, wr, mb, mz, nu, mv⟩ := M
  dsimp only at hn hm
  refine Ct.of (own := RX5) (by decide) rfl (Nat.le_of_ble_eq_true rfl) rfl (fun X => ?_)
  refine v_aload_n dX5_on_0 0 rfl 1 rfl ?_
  refine v_iload_n dX5_on_1 1 rfl 2 rfl ?_
  refine v_callV (c_X5_isEwe l hn hn8 a) kal_X5_isEwe rfl dX5_on_2 qw_805 qw_807 qw_21 rfl (by decide) (cel_mod G _) (by decide) [] (Nat.le_of_ble_eq_true rfl) rfl rfl 5 rfl ?_
  refine v_ifb_eq dX5_on_5 25 (by decide) 8 rfl (fun c1 => ?_) (fun c1 => ?_)
  · skip
    refine v_aload_n dX5_on_25 0 rfl 26 rfl ?_
    refine v_ldc dX5_on_26 (-1000000001) qw_755 28 rfl ?_
    refine v_callV (c_X5_finds l (k := 0) (by decide) (-1000000001) (by decide)) kal_X5_finds rfl dX5_on_28 qw_756 qw_758 qw_15 rfl (by decide) (cel_mod G _) (by decide) [] (Nat.le_of_ble_eq_true rfl) rfl rfl 31 rfl ?_
    exact v_iret dX5_on_31 (by simp only [qOn, c1, Bool.and_self, Bool.and_true, Bool.true_and, Bool.and_false, Bool.false_and, if_true, if_false, Bool.false_eq_true, ↓reduceIte] <;> simp [mFind, xs, xa, fnd0, fnd1, fnd2, fnd3, fnd4, fnd5, fnd6, true_and]) (by simp only [qOn, c1, Bool.and_self, Bool.and_true, Bool.true_and, Bool.and_false, Bool.false_and, if_true, if_false, Bool.false_eq_true, ↓reduceIte] <;> simp [mFind, xs, xa, fnd0, fnd1, fnd2, fnd3, fnd4, fnd5, fnd6, true_and])
  · skip
    obtain ⟨ja, h2ja, rfl⟩ := inE_ix c1
    have eja : (nI ja).toNatClampNeg = ja := nI_clamp (by omega)
    refine v_iload_n dX5_on_8 2 rfl 9 rfl ?_
    refine v_callS (c_X5_isAhead l b) kal_X5_isAhead rfl dX5_on_9 qw_915 qw_916 (by decide) [] (Nat.le_of_ble_eq_true rfl) rfl rfl 12 rfl ?_
    refine v_ifb_eq dX5_on_12 25 (by decide) 15 rfl (fun c2 => ?_) (fun c2 => ?_)
    · skip
      refine v_aload_n dX5_on_25 0 rfl 26 rfl ?_
      refine v_ldc dX5_on_26 (-1000000001) qw_755 28 rfl ?_
      refine v_callV (c_X5_finds l (k := 0) (by decide) (-1000000001) (by decide)) kal_X5_finds rfl dX5_on_28 qw_756 qw_758 qw_15 rfl (by decide) (cel_mod G _) (by decide) [] (Nat.le_of_ble_eq_true rfl) rfl rfl 31 rfl ?_
      exact v_iret dX5_on_31 (by simp only [qOn, c1, c2, eja, Bool.and_self, Bool.and_true, Bool.true_and, Bool.and_false, Bool.false_and, if_true, if_false, Bool.false_eq_true, ↓reduceIte] <;> simp [mFind, xs, xa, fnd0, fnd1, fnd2, fnd3, fnd4, fnd5, fnd6, eja]) (by simp only [qOn, c1, c2, eja, Bool.and_self, Bool.and_true, Bool.true_and, Bool.and_false, Bool.false_and, if_true, if_false, Bool.false_eq_true, ↓reduceIte] <;> simp [mFind, xs, xa, fnd0, fnd1, fnd2, fnd3, fnd4, fnd5, fnd6, eja])
    · skip
      obtain ⟨jb, h1jb, h2jb, rfl⟩ := inb_ix (lo := 0) (hi := 120) c2
      have ejb : (nI jb).toNatClampNeg = jb := nI_clamp (by omega)
      refine v_iload_n dX5_on_15 3 rfl 16 rfl ?_
      refine v_i2l dX5_on_16 17 rfl ?_
      refine v_lconst dX5_on_17 0 rfl 18 rfl ?_
      refine v_lconst dX5_on_18 1 rfl 19 rfl ?_
      refine v_callS (c_X5_in l (c : Int32).toInt64 0 1 (z := (c : Int32).toInt) (lo := 0) (hi := 1) (i2l_i _) rfl rfl) kal_X5_in rfl dX5_on_19 qw_743 qw_744 (by decide) [] (Nat.le_of_ble_eq_true rfl) rfl rfl 22 rfl ?_
      refine v_topi (b2 (inb 0 1 c)) rfl ?_
      refine v_ifb_ne dX5_on_22 32 (by decide) 25 rfl (fun c3 => ?_) (fun c3 => ?_)
      · skip
        refine v_iload_n dX5_on_32 3 rfl 33 rfl ?_
        refine v_if_ne dX5_on_33 49 (by decide) 36 rfl (fun c4 => ?_) (fun c4 => ?_)
        · skip
          refine v_aload_n dX5_on_49 0 rfl 50 rfl ?_
          refine v_iload_n dX5_on_50 1 rfl 51 rfl ?_
          refine v_iconst dX5_on_51 1 rfl 52 rfl ?_
          refine v_callS (c_X5_spot l ja 1) kal_X5_spot rfl dX5_on_52 qw_785 qw_786 (by decide) [.ref (ga G (93))] (Nat.le_of_ble_eq_true rfl) rfl rfl 55 rfl ?_
          refine v_iload_n dX5_on_55 2 rfl 56 rfl ?_
          refine v_callV (c_X5_behind l hn hn8 hm (by omega) (k := 38 + 14 * ja + 1) (by omega)) kal_X5_behind rfl dX5_on_56 qw_931 qw_933 qw_37 rfl (by decide) (cel_mod G _) (by decide) [] (Nat.le_of_ble_eq_true rfl) rfl rfl 59 rfl ?_
          exact v_iret dX5_on_59 (by simp only [qOn, c1, c2, c3, eja, ejb, Bool.and_self, Bool.and_true, Bool.true_and, Bool.and_false, Bool.false_and, if_true, if_false, Bool.false_eq_true, ↓reduceIte] <;> simp [mFind, xs, xa, fnd0, fnd1, fnd2, fnd3, fnd4, fnd5, fnd6, c4, Ne.symm c4, eja, ejb]) (by simp only [qOn, c1, c2, c3, eja, ejb, Bool.and_self, Bool.and_true, Bool.true_and, Bool.and_false, Bool.false_and, if_true, if_false, Bool.false_eq_true, ↓reduceIte] <;> simp [mFind, xs, xa, fnd0, fnd1, fnd2, fnd3, fnd4, fnd5, fnd6, c4, Ne.symm c4, eja, ejb])
        · skip
          refine v_aload_n dX5_on_36 0 rfl 37 rfl ?_
          refine v_iload_n dX5_on_37 1 rfl 38 rfl ?_
          refine v_iconst dX5_on_38 2 rfl 39 rfl ?_
          refine v_callS (c_X5_spot l ja 2) kal_X5_spot rfl dX5_on_39 qw_785 qw_786 (by decide) [.ref (ga G (93))] (Nat.le_of_ble_eq_true rfl) rfl rfl 42 rfl ?_
          refine v_iload_n dX5_on_42 2 rfl 43 rfl ?_
          refine v_callV (c_X5_twelveBehind l hn hn8 hm (by omega) (k := 38 + 14 * ja + 2) (by omega)) kal_X5_twelveBehind rfl dX5_on_43 qw_919 qw_921 qw_34 rfl (by decide) (cel_mod G _) (by decide) [] (Nat.le_of_ble_eq_true rfl) rfl rfl 46 rfl ?_
          refine v_goto dX5_on_46 59 (by decide) ?_
          exact v_iret dX5_on_59 (by simp only [qOn, c1, c2, c3, eja, ejb, Bool.and_self, Bool.and_true, Bool.true_and, Bool.and_false, Bool.false_and, if_true, if_false, Bool.false_eq_true, ↓reduceIte] <;> simp [mFind, xs, xa, fnd0, fnd1, fnd2, fnd3, fnd4, fnd5, fnd6, c4, eja, ejb]) (by simp only [qOn, c1, c2, c3, eja, ejb, Bool.and_self, Bool.and_true, Bool.true_and, Bool.and_false, Bool.false_and, if_true, if_false, Bool.false_eq_true, ↓reduceIte] <;> simp [mFind, xs, xa, fnd0, fnd1, fnd2, fnd3, fnd4, fnd5, fnd6, c4, eja, ejb])
      · skip
        refine v_aload_n dX5_on_25 0 rfl 26 rfl ?_
        refine v_ldc dX5_on_26 (-1000000001) qw_755 28 rfl ?_
        refine v_callV (c_X5_finds l (k := 0) (by decide) (-1000000001) (by decide)) kal_X5_finds rfl dX5_on_28 qw_756 qw_758 qw_15 rfl (by decide) (cel_mod G _) (by decide) [] (Nat.le_of_ble_eq_true rfl) rfl rfl 31 rfl ?_
        exact v_iret dX5_on_31 (by simp only [qOn, c1, c2, c3, eja, ejb, Bool.and_self, Bool.and_true, Bool.true_and, Bool.and_false, Bool.false_and, if_true, if_false, Bool.false_eq_true, ↓reduceIte] <;> simp [mFind, xs, xa, fnd0, fnd1, fnd2, fnd3, fnd4, fnd5, fnd6, eja, ejb]) (by simp only [qOn, c1, c2, c3, eja, ejb, Bool.and_self, Bool.and_true, Bool.true_and, Bool.and_false, Bool.false_and, if_true, if_false, Bool.false_eq_true, ↓reduceIte] <;> simp [mFind, xs, xa, fnd0, fnd1, fnd2, fnd3, fnd4, fnd5, fnd6, eja, ejb])
set_option maxHeartbeats 1000000 in
set_option maxRecDepth 4000 in
theorem c_X5_then (l : Launch) {G : Gl} {K : CS} {M : MS} {nE : Nat} (hn : M.1 1 = nI nE) (hn8 : nE ≤ 8) {t0 : Nat} (hm : M.1 0 = nI t0) (hmo : t0 < 2 ^ 20) (a b c : Int32) : Ct l G yX5_then cX5_then 4 (some .int) 7 157 [.ref (ga G (93)), .int a, .int b, .int c] (K, M) (some (.int (qThen M nE t0 a b c).1)) (K, (qThen M nE t0 a b c).2) := by
  obtain ⟨ms, mk, mo, ma, mf, ik, mt, td, fr, tt, vl, wr, mb, mz, nu, mv⟩ := M
  dsimp only at hn hm
  refine Ct.of (own := RX5) (by decide) rfl (Nat.le_of_ble_eq_true rfl) rfl (fun X => ?_)
  refine v_iload_n dX5_then_0 1 rfl 1 rfl ?_
  refine v_callS (c_X5_isMonth l a) kal_X5_isMonth rfl dX5_then_1 qw_739 qw_740 (by decide) [] (Nat.le_of_ble_eq_true rfl) rfl rfl 4 rfl ?_
  refine v_ifb_eq dX5_then_4 24 (by decide) 7 rfl (fun c1 => ?_) (fun c1 => ?_)
  · skip
    refine v_aload_n dX5_then_24 0 rfl 25 rfl ?_
    refine v_ldc dX5_then_25 (-1000000001) qw_755 27 rfl ?_
    refine v_callV (c_X5_finds l (k := 0) (by decide) (-1000000001) (by decide)) kal_X5_finds rfl dX5_then_27 qw_756 qw_758 qw_15 rfl (by decide) (cel_mod G _) (by decide) [] (Nat.le_of_ble_eq_true rfl) rfl rfl 30 rfl ?_
    exact v_iret dX5_then_30 (by simp only [qThen, c1, Bool.and_self, Bool.and_true, Bool.true_and, Bool.and_false, Bool.false_and, if_true, if_false, Bool.false_eq_true, ↓reduceIte] <;> simp [mFind, xs, xa, fnd0, fnd1, fnd2, fnd3, fnd4, fnd5, fnd6, true_and]) (by simp only [qThen, c1, Bool.and_self, Bool.and_true, Bool.true_and, Bool.and_false, Bool.false_and, if_true, if_false, Bool.false_eq_true, ↓reduceIte] <;> simp [mFind, xs, xa, fnd0, fnd1, fnd2, fnd3, fnd4, fnd5, fnd6, true_and])
  · skip
    obtain ⟨ja, h1ja, h2ja, rfl⟩ := inb_ix (lo := 0) (hi := 11) c1
    have eja : (nI ja).toNatClampNeg = ja := nI_clamp (by omega)
    refine v_iload_n dX5_then_7 2 rfl 8 rfl ?_
    refine v_callS (c_X5_isAhead l b) kal_X5_isAhead rfl dX5_then_8 qw_915 qw_916 (by decide) [] (Nat.le_of_ble_eq_true rfl) rfl rfl 11 rfl ?_
    refine v_ifb_eq dX5_then_11 24 (by decide) 14 rfl (fun c2 => ?_) (fun c2 => ?_)
    · skip
      refine v_aload_n dX5_then_24 0 rfl 25 rfl ?_
      refine v_ldc dX5_then_25 (-1000000001) qw_755 27 rfl ?_
      refine v_callV (c_X5_finds l (k := 0) (by decide) (-1000000001) (by decide)) kal_X5_finds rfl dX5_then_27 qw_756 qw_758 qw_15 rfl (by decide) (cel_mod G _) (by decide) [] (Nat.le_of_ble_eq_true rfl) rfl rfl 30 rfl ?_
      exact v_iret dX5_then_30 (by simp only [qThen, c1, c2, eja, Bool.and_self, Bool.and_true, Bool.true_and, Bool.and_false, Bool.false_and, if_true, if_false, Bool.false_eq_true, ↓reduceIte] <;> simp [mFind, xs, xa, fnd0, fnd1, fnd2, fnd3, fnd4, fnd5, fnd6, eja]) (by simp only [qThen, c1, c2, eja, Bool.and_self, Bool.and_true, Bool.true_and, Bool.and_false, Bool.false_and, if_true, if_false, Bool.false_eq_true, ↓reduceIte] <;> simp [mFind, xs, xa, fnd0, fnd1, fnd2, fnd3, fnd4, fnd5, fnd6, eja])
    · skip
      obtain ⟨jb, h1jb, h2jb, rfl⟩ := inb_ix (lo := 0) (hi := 120) c2
      have ejb : (nI jb).toNatClampNeg = jb := nI_clamp (by omega)
      refine v_iload_n dX5_then_14 3 rfl 15 rfl ?_
      refine v_i2l dX5_then_15 16 rfl ?_
      refine v_lconst dX5_then_16 0 rfl 17 rfl ?_
      refine v_lconst dX5_then_17 1 rfl 18 rfl ?_
      refine v_callS (c_X5_in l (c : Int32).toInt64 0 1 (z := (c : Int32).toInt) (lo := 0) (hi := 1) (i2l_i _) rfl rfl) kal_X5_in rfl dX5_then_18 qw_743 qw_744 (by decide) [] (Nat.le_of_ble_eq_true rfl) rfl rfl 21 rfl ?_
      refine v_topi (b2 (inb 0 1 c)) rfl ?_
      refine v_ifb_ne dX5_then_21 31 (by decide) 24 rfl (fun c3 => ?_) (fun c3 => ?_)
      · skip
        refine v_aload_n dX5_then_31 0 rfl 32 rfl ?_
        refine v_iload_n dX5_then_32 3 rfl 33 rfl ?_
        refine v_if_ne dX5_then_33 41 (by decide) 36 rfl (fun c4 => ?_) (fun c4 => ?_)
        · skip
          refine v_bipush dX5_then_41 26 rfl 43 rfl ?_
          refine v_iload_n dX5_then_43 1 rfl 44 rfl ?_
          refine n_iadd dX5_then_44 26 ja rfl rfl 45 rfl ?_
          refine v_iload_n dX5_then_45 2 rfl 46 rfl ?_
          refine v_callV (c_X5_behind l hn hn8 hm (by omega) (k := 26 + ja) (by omega)) kal_X5_behind rfl dX5_then_46 qw_931 qw_933 qw_37 rfl (by decide) (cel_mod G _) (by decide) [] (Nat.le_of_ble_eq_true rfl) rfl rfl 49 rfl ?_
          exact v_iret dX5_then_49 (by simp only [qThen, c1, c2, c3, eja, ejb, Bool.and_self, Bool.and_true, Bool.true_and, Bool.and_false, Bool.false_and, if_true, if_false, Bool.false_eq_true, ↓reduceIte] <;> simp [mFind, xs, xa, fnd0, fnd1, fnd2, fnd3, fnd4, fnd5, fnd6, c4, Ne.symm c4, eja, ejb]) (by simp only [qThen, c1, c2, c3, eja, ejb, Bool.and_self, Bool.and_true, Bool.true_and, Bool.and_false, Bool.false_and, if_true, if_false, Bool.false_eq_true, ↓reduceIte] <;> simp [mFind, xs, xa, fnd0, fnd1, fnd2, fnd3, fnd4, fnd5, fnd6, c4, Ne.symm c4, eja, ejb])
        · skip
          refine v_bipush dX5_then_36 14 rfl 38 rfl ?_
          refine v_goto dX5_then_38 43 (by decide) ?_
          refine v_iload_n dX5_then_43 1 rfl 44 rfl ?_
          refine n_iadd dX5_then_44 14 ja rfl rfl 45 rfl ?_
          refine v_iload_n dX5_then_45 2 rfl 46 rfl ?_
          refine v_callV (c_X5_behind l hn hn8 hm (by omega) (k := 14 + ja) (by omega)) kal_X5_behind rfl dX5_then_46 qw_931 qw_933 qw_37 rfl (by decide) (cel_mod G _) (by decide) [] (Nat.le_of_ble_eq_true rfl) rfl rfl 49 rfl ?_
          exact v_iret dX5_then_49 (by simp only [qThen, c1, c2, c3, eja, ejb, Bool.and_self, Bool.and_true, Bool.true_and, Bool.and_false, Bool.false_and, if_true, if_false, Bool.false_eq_true, ↓reduceIte] <;> simp [mFind, xs, xa, fnd0, fnd1, fnd2, fnd3, fnd4, fnd5, fnd6, c4, eja, ejb]) (by simp only [qThen, c1, c2, c3, eja, ejb, Bool.and_self, Bool.and_true, Bool.true_and, Bool.and_false, Bool.false_and, if_true, if_false, Bool.false_eq_true, ↓reduceIte] <;> simp [mFind, xs, xa, fnd0, fnd1, fnd2, fnd3, fnd4, fnd5, fnd6, c4, eja, ejb])
      · skip
        refine v_aload_n dX5_then_24 0 rfl 25 rfl ?_
        refine v_ldc dX5_then_25 (-1000000001) qw_755 27 rfl ?_
        refine v_callV (c_X5_finds l (k := 0) (by decide) (-1000000001) (by decide)) kal_X5_finds rfl dX5_then_27 qw_756 qw_758 qw_15 rfl (by decide) (cel_mod G _) (by decide) [] (Nat.le_of_ble_eq_true rfl) rfl rfl 30 rfl ?_
        exact v_iret dX5_then_30 (by simp only [qThen, c1, c2, c3, eja, ejb, Bool.and_self, Bool.and_true, Bool.true_and, Bool.and_false, Bool.false_and, if_true, if_false, Bool.false_eq_true, ↓reduceIte] <;> simp [mFind, xs, xa, fnd0, fnd1, fnd2, fnd3, fnd4, fnd5, fnd6, eja, ejb]) (by simp only [qThen, c1, c2, c3, eja, ejb, Bool.and_self, Bool.and_true, Bool.true_and, Bool.and_false, Bool.false_and, if_true, if_false, Bool.false_eq_true, ↓reduceIte] <;> simp [mFind, xs, xa, fnd0, fnd1, fnd2, fnd3, fnd4, fnd5, fnd6, eja, ejb])
set_option maxHeartbeats 1000000 in
set_option maxRecDepth 4000 in
theorem lp_firstAs (l : Launch) {G : Gl} {X : VX} {ov : Option Value} {wF : WS} {K : CS} {ms : Nat → Int32} {mk : Nat → Int32} {mo : Nat → Int32} {ma : Nat → Int32} {mf : Nat → Int32} {ik : Int32} {mt : Nat → Int32} {td : Nat} {fr : Nat} {tt : Nat} {vl : Int32} {wr : Int32} {mb : Nat → Int32} {mz : Nat → Int32} {nu : Nat → Int64} {mv : Nat → Int64} {nE : Nat} (hn : ms 1 = nI nE) (hn8 : nE ≤ 8) {t0 : Nat} (hm : ms 0 = nI t0) (hmo : t0 + 121 < 2 ^ 30) {k : Nat} (hk9 : k < 198) (sg v : Int32) (hk : ∀ i : Nat, i ≤ 121 → (∀ j, j < i → (mP ms nE t0 k sg v) j = false) → (i < 121 → (mP ms nE t0 k sg v) i = true) → V l X 5 113 cX5_firstAs 6 RX5 (some .int) G ov wF (K, ((mGo ms nE t0 i), mk, mo, ms, mf, ik, mt, td, fr, tt, vl, wr, mb, mz, nu, mv)) 36 [(4, .int (nI i)), (0, .ref (ga G (93))), (1, .int (nI k)), (2, .int sg), (3, .int v)] []) : ∀ n i : Nat, i + n = 121 → (∀ j, j < i → (mP ms nE t0 k sg v) j = false) → V l X 5 113 cX5_firstAs 6 RX5 (some .int) G ov wF (K, ((mGo ms nE t0 i), mk, mo, ms, mf, ik, mt, td, fr, tt, vl, wr, mb, mz, nu, mv)) 7 [(4, .int (nI i)), (0, .ref (ga G (93))), (1, .int (nI k)), (2, .int sg), (3, .int v)] [] := by
  intro n
  induction n with
  | zero =>
    intro i hin hno
    obtain rfl : 121 = i := by omega
    refine v_iload dX5_firstAs_7 0 rfl 9 rfl ?_
    refine v_bipush dX5_firstAs_9 120 rfl 11 rfl ?_
    refine n_icmp_gt dX5_firstAs_11 121 120 rfl rfl (by omega) (by omega) 36 (by decide) 14 rfl (fun c1 => ?_) (fun c1 => absurd c1 (by omega))
    exact hk 121 (by omega) hno (fun h => absurd h (by omega))
  | succ n ih =>
    intro i hin hno
    refine v_iload dX5_firstAs_7 0 rfl 9 rfl ?_
    refine v_bipush dX5_firstAs_9 120 rfl 11 rfl ?_
    refine n_icmp_gt dX5_firstAs_11 i 120 rfl rfl (by omega) (by omega) 36 (by decide) 14 rfl (fun c1 => absurd c1 (by omega)) (fun c1 => ?_)
    refine v_iload_n dX5_firstAs_14 3 rfl 15 rfl ?_
    refine v_aload_n dX5_firstAs_15 1 rfl 16 rfl ?_
    refine v_get (i := 0) (ci := 5) (T := TX5) (C := RX5) (N := 16) (v := .ref (ga G (94))) dX5_firstAs_16 inB5 rfl qw_686 rfl (by decide) (by decide) (cel_mod G _) rfl 19 rfl ?_
    refine v_iload_n dX5_firstAs_19 2 rfl 20 rfl ?_
    refine v_iald (a := (mGo ms nE t0 i)) dX5_firstAs_20 (by decide) (cel_ms G _) k rfl (by omega) (by decide) 21 rfl ?_
    refine v_imul dX5_firstAs_21 22 rfl ?_
    refine v_iload_n dX5_firstAs_22 4 rfl 23 rfl ?_
    refine v_icmp_ge dX5_firstAs_23 36 (by decide) 26 rfl (fun c2 => ?_) (fun c2 => ?_)
    · skip
      exact hk i (by omega) hno (fun _ => by simp [mP, c2, Int32.not_lt.mpr c2])
    · skip
      refine v_aload_n dX5_firstAs_26 1 rfl 27 rfl ?_
      refine v_callV (c_X5_month l ((mGo_lo ms nE t0 1 (by decide) (by decide) i).trans hn) hn8 (mGo_mo ms nE t0 hm i) (by omega)) kal_X5_month rfl dX5_firstAs_27 qw_903 qw_905 qw_32 rfl (by decide) (cel_mod G _) (by decide) [] (Nat.le_of_ble_eq_true rfl) rfl rfl 30 rfl ?_
      refine v_iinc dX5_firstAs_30 0 rfl (nI (i + 1)) (nI_1 _) (by decide) [(4, .int (nI (i + 1))), (0, .ref (ga G (93))), (1, .int (nI k)), (2, .int sg), (3, .int v)] rfl 33 rfl ?_
      refine v_goto dX5_firstAs_33 7 (by decide) ?_
      exact ih (i + 1) (by omega) (lt_s hno (by simp [mP, c2, Int32.not_le.mp c2]))
set_option maxHeartbeats 1000000 in
set_option maxRecDepth 4000 in
theorem c_X5_firstAs (l : Launch) {G : Gl} {K : CS} {M : MS} {nE : Nat} (hn : M.1 1 = nI nE) (hn8 : nE ≤ 8) {t0 : Nat} (hm : M.1 0 = nI t0) (hmo : t0 < 2 ^ 20) {k : Nat} (hk9 : k < 198) (sg v : Int32) : Ct l G yX5_firstAs cX5_firstAs 6 (some .int) 5 113 [.ref (ga G (93)), .int (nI k), .int sg, .int v] (K, M) (some (.int (qFirst M nE t0 k sg v).1)) (K, (qFirst M nE t0 k sg v).2) := by
  obtain ⟨ms, mk, mo, ma, mf, ik, mt, td, fr, tt, vl, wr, mb, mz, nu, mv⟩ := M
  dsimp only at hn hm
  have hmo : t0 + 121 < 2 ^ 30 := by omega
  refine Ct.of (own := RX5) (by decide) rfl (Nat.le_of_ble_eq_true rfl) rfl (fun X => ?_)
  refine v_aload_n dX5_firstAs_0 0 rfl 1 rfl ?_
  refine v_callV (c_X5_laysAside l ) kal_X5_laysAside rfl dX5_firstAs_1 qw_923 qw_925 qw_35 rfl (by decide) (cel_mod G _) (by decide) [] (Nat.le_of_ble_eq_true rfl) rfl rfl 4 rfl ?_
  refine v_iconst dX5_firstAs_4 0 rfl 5 rfl ?_
  refine v_istore dX5_firstAs_5 (by decide) [(4, .int 0), (0, .ref (ga G (93))), (1, .int (nI k)), (2, .int sg), (3, .int v)] rfl 7 rfl ?_
  refine lp_firstAs l (ma := ma) hn hn8 hm hmo hk9 sg v (fun i hi hno hyes => ?_) 121 0 (by omega) (fun _ h => absurd h (Nat.not_lt_zero _))
  have hF : mFirst ms nE t0 k sg v = i := fa_first_eq hi hno hyes
  refine v_aload_n dX5_firstAs_36 1 rfl 37 rfl ?_
  refine v_iload dX5_firstAs_37 0 rfl 39 rfl ?_
  refine v_callV (c_X5_takesBack l (nI i)) kal_X5_takesBack rfl dX5_firstAs_39 qw_927 qw_929 qw_36 rfl (by decide) (cel_mod G _) (by decide) [] (Nat.le_of_ble_eq_true rfl) rfl rfl 42 rfl ?_
  refine v_istore dX5_firstAs_42 (by decide) [(5, .int (nI i)), (4, .int (nI i)), (0, .ref (ga G (93))), (1, .int (nI k)), (2, .int sg), (3, .int v)] rfl 44 rfl ?_
  refine v_iload dX5_firstAs_44 0 rfl 46 rfl ?_
  refine v_bipush dX5_firstAs_46 120 rfl 48 rfl ?_
  refine n_icmp_le dX5_firstAs_48 i 120 rfl rfl (by omega) (by omega) 60 (by decide) 51 rfl (fun c1 => ?_) (fun c1 => ?_)
  · skip
    refine v_iload dX5_firstAs_60 0 rfl 62 rfl ?_
    exact v_iret dX5_firstAs_62 (by simp [qFirst, mFind, xa, fnd3, c1, Nat.not_lt.mpr c1, hF]) (by simp [qFirst, mFind, xa, fnd3, c1, Nat.not_lt.mpr c1, hF])
  · skip
    refine v_aload_n dX5_firstAs_51 2 rfl 52 rfl ?_
    refine v_ldc dX5_firstAs_52 (-1000000004) qw_948 54 rfl ?_
    refine v_callV (c_X5_finds l (k := 3) (by decide) (-1000000004) (by decide)) kal_X5_finds rfl dX5_firstAs_54 qw_756 qw_758 qw_15 rfl (by decide) (cel_mod G _) (by decide) [] (Nat.le_of_ble_eq_true rfl) rfl rfl 57 rfl ?_
    refine v_goto dX5_firstAs_57 62 (by decide) ?_
    exact v_iret dX5_firstAs_62 (by simp [qFirst, mFind, xa, fnd3, c1, Nat.not_le.mpr c1, hF]) (by simp [qFirst, mFind, xa, fnd3, c1, Nat.not_le.mpr c1, hF])
set_option maxHeartbeats 1000000 in
set_option maxRecDepth 4000 in
theorem c_X5_enough (l : Launch) {G : Gl} {K : CS} {M : MS} {nE : Nat} (hn : M.1 1 = nI nE) (hn8 : nE ≤ 8) {t0 : Nat} (hm : M.1 0 = nI t0) (hmo : t0 < 2 ^ 20) (a b : Int32) : Ct l G yX5_enough cX5_enough 3 (some .int) 6 138 [.ref (ga G (93)), .int a, .int b] (K, M) (some (.int (qEnough M nE t0 a b).1)) (K, (qEnough M nE t0 a b).2) := by
  obtain ⟨ms, mk, mo, ma, mf, ik, mt, td, fr, tt, vl, wr, mb, mz, nu, mv⟩ := M
  dsimp only at hn hm
  refine Ct.of (own := RX5) (by decide) rfl (Nat.le_of_ble_eq_true rfl) rfl (fun X => ?_)
  refine v_iload_n dX5_enough_0 1 rfl 1 rfl ?_
  refine v_callS (c_X5_isMonth l a) kal_X5_isMonth rfl dX5_enough_1 qw_739 qw_740 (by decide) [] (Nat.le_of_ble_eq_true rfl) rfl rfl 4 rfl ?_
  refine v_ifb_eq dX5_enough_4 32 (by decide) 7 rfl (fun c1 => ?_) (fun c1 => ?_)
  · skip
    refine v_aload_n dX5_enough_32 0 rfl 33 rfl ?_
    refine v_ldc dX5_enough_33 (-1000000001) qw_755 35 rfl ?_
    refine v_callV (c_X5_finds l (k := 0) (by decide) (-1000000001) (by decide)) kal_X5_finds rfl dX5_enough_35 qw_756 qw_758 qw_15 rfl (by decide) (cel_mod G _) (by decide) [] (Nat.le_of_ble_eq_true rfl) rfl rfl 38 rfl ?_
    exact v_iret dX5_enough_38 (by simp only [qEnough, c1, Bool.and_self, Bool.and_true, Bool.true_and, Bool.and_false, Bool.false_and, if_true, if_false, Bool.false_eq_true, ↓reduceIte] <;> simp [mFind, xs, xa, fnd0, true_and]) (by simp only [qEnough, c1, Bool.and_self, Bool.and_true, Bool.true_and, Bool.and_false, Bool.false_and, if_true, if_false, Bool.false_eq_true, ↓reduceIte] <;> simp [mFind, xs, xa, fnd0, true_and])
  · skip
    obtain ⟨ja, h1ja, h2ja, rfl⟩ := inb_ix (lo := 0) (hi := 11) c1
    have eja : (nI ja).toNatClampNeg = ja := nI_clamp (by omega)
    refine v_iload_n dX5_enough_7 2 rfl 8 rfl ?_
    refine v_i2l dX5_enough_8 9 rfl ?_
    refine v_lconst dX5_enough_9 0 rfl 10 rfl ?_
    refine v_ldc2 dX5_enough_10 9999 qw_943 13 rfl ?_
    refine v_callS (c_X5_in l (b : Int32).toInt64 0 9999 (z := (b : Int32).toInt) (lo := 0) (hi := 9999) (i2l_i _) rfl rfl) kal_X5_in rfl dX5_enough_13 qw_743 qw_744 (by decide) [] (Nat.le_of_ble_eq_true rfl) rfl rfl 16 rfl ?_
    refine v_topi (b2 (inb 0 9999 b)) rfl ?_
    refine v_ifb_eq dX5_enough_16 32 (by decide) 19 rfl (fun c2 => ?_) (fun c2 => ?_)
    · skip
      refine v_aload_n dX5_enough_32 0 rfl 33 rfl ?_
      refine v_ldc dX5_enough_33 (-1000000001) qw_755 35 rfl ?_
      refine v_callV (c_X5_finds l (k := 0) (by decide) (-1000000001) (by decide)) kal_X5_finds rfl dX5_enough_35 qw_756 qw_758 qw_15 rfl (by decide) (cel_mod G _) (by decide) [] (Nat.le_of_ble_eq_true rfl) rfl rfl 38 rfl ?_
      exact v_iret dX5_enough_38 (by simp only [qEnough, c1, c2, eja, Bool.and_self, Bool.and_true, Bool.true_and, Bool.and_false, Bool.false_and, if_true, if_false, Bool.false_eq_true, ↓reduceIte] <;> simp [mFind, xs, xa, fnd0, eja]) (by simp only [qEnough, c1, c2, eja, Bool.and_self, Bool.and_true, Bool.true_and, Bool.and_false, Bool.false_and, if_true, if_false, Bool.false_eq_true, ↓reduceIte] <;> simp [mFind, xs, xa, fnd0, eja])
    · skip
      refine v_aload_n dX5_enough_19 0 rfl 20 rfl ?_
      refine v_bipush dX5_enough_20 14 rfl 22 rfl ?_
      refine v_iload_n dX5_enough_22 1 rfl 23 rfl ?_
      refine n_iadd dX5_enough_23 14 ja rfl rfl 24 rfl ?_
      refine v_iconst dX5_enough_24 1 rfl 25 rfl ?_
      refine v_iload_n dX5_enough_25 2 rfl 26 rfl ?_
      refine v_callV (c_X5_firstAs l (M := (ms, mk, mo, ma, mf, ik, mt, td, fr, tt, vl, wr, mb, mz, nu, mv)) hn hn8 hm hmo (k := 14 + ja) (by omega) 1 b) kal_X5_firstAs rfl dX5_enough_26 qw_944 qw_946 qw_38 rfl (by decide) (cel_mod G _) (by decide) [] (Nat.le_of_ble_eq_true rfl) rfl rfl 29 rfl ?_
      refine v_goto dX5_enough_29 38 (by decide) ?_
      exact v_iret dX5_enough_38 (by simp only [qEnough, c1, c2, eja, Bool.and_self, Bool.and_true, Bool.true_and, Bool.and_false, Bool.false_and, if_true, if_false, Bool.false_eq_true, ↓reduceIte] <;> simp [mFind, xs, xa, fnd0, eja]) (by simp only [qEnough, c1, c2, eja, Bool.and_self, Bool.and_true, Bool.true_and, Bool.and_false, Bool.false_and, if_true, if_false, Bool.false_eq_true, ↓reduceIte] <;> simp [mFind, xs, xa, fnd0, eja])
set_option maxHeartbeats 1000000 in
set_option maxRecDepth 4000 in
theorem c_X5_calm (l : Launch) {G : Gl} {K : CS} {M : MS} {nE : Nat} (hn : M.1 1 = nI nE) (hn8 : nE ≤ 8) {t0 : Nat} (hm : M.1 0 = nI t0) (hmo : t0 < 2 ^ 20) (a : Int32) : Ct l G yX5_calm cX5_calm 2 (some .int) 6 138 [.ref (ga G (93)), .int a] (K, M) (some (.int (qCalm M nE t0 a).1)) (K, (qCalm M nE t0 a).2) := by
  obtain ⟨ms, mk, mo, ma, mf, ik, mt, td, fr, tt, vl, wr, mb, mz, nu, mv⟩ := M
  dsimp only at hn hm
  refine Ct.of (own := RX5) (by decide) rfl (Nat.le_of_ble_eq_true rfl) rfl (fun X => ?_)
  refine v_aload_n dX5_calm_0 0 rfl 1 rfl ?_
  refine v_iload_n dX5_calm_1 1 rfl 2 rfl ?_
  refine v_callV (c_X5_isEwe l hn hn8 a) kal_X5_isEwe rfl dX5_calm_2 qw_805 qw_807 qw_21 rfl (by decide) (cel_mod G _) (by decide) [] (Nat.le_of_ble_eq_true rfl) rfl rfl 5 rfl ?_
  refine v_ifb_eq dX5_calm_5 22 (by decide) 8 rfl (fun c1 => ?_) (fun c1 => ?_)
  · skip
    refine v_aload_n dX5_calm_22 0 rfl 23 rfl ?_
    refine v_ldc dX5_calm_23 (-1000000001) qw_755 25 rfl ?_
    refine v_callV (c_X5_finds l (k := 0) (by decide) (-1000000001) (by decide)) kal_X5_finds rfl dX5_calm_25 qw_756 qw_758 qw_15 rfl (by decide) (cel_mod G _) (by decide) [] (Nat.le_of_ble_eq_true rfl) rfl rfl 28 rfl ?_
    exact v_iret dX5_calm_28 (by simp only [qCalm, c1, Bool.and_self, Bool.and_true, Bool.true_and, Bool.and_false, Bool.false_and, if_true, if_false, Bool.false_eq_true, ↓reduceIte] <;> simp [mFind, xs, xa, fnd0, true_and]) (by simp only [qCalm, c1, Bool.and_self, Bool.and_true, Bool.true_and, Bool.and_false, Bool.false_and, if_true, if_false, Bool.false_eq_true, ↓reduceIte] <;> simp [mFind, xs, xa, fnd0, true_and])
  · skip
    obtain ⟨ja, h2ja, rfl⟩ := inE_ix c1
    have eja : (nI ja).toNatClampNeg = ja := nI_clamp (by omega)
    refine v_aload_n dX5_calm_8 0 rfl 9 rfl ?_
    refine v_iload_n dX5_calm_9 1 rfl 10 rfl ?_
    refine v_iconst dX5_calm_10 1 rfl 11 rfl ?_
    refine v_callS (c_X5_spot l ja 1) kal_X5_spot rfl dX5_calm_11 qw_785 qw_786 (by decide) [.ref (ga G (93))] (Nat.le_of_ble_eq_true rfl) rfl rfl 14 rfl ?_
    refine v_iconst dX5_calm_14 (-1) rfl 15 rfl ?_
    refine v_iconst dX5_calm_15 0 rfl 16 rfl ?_
    refine v_callV (c_X5_firstAs l (M := (ms, mk, mo, ma, mf, ik, mt, td, fr, tt, vl, wr, mb, mz, nu, mv)) hn hn8 hm hmo (k := 38 + 14 * ja + 1) (by omega) (-1) 0) kal_X5_firstAs rfl dX5_calm_16 qw_944 qw_946 qw_38 rfl (by decide) (cel_mod G _) (by decide) [] (Nat.le_of_ble_eq_true rfl) rfl rfl 19 rfl ?_
    refine v_goto dX5_calm_19 28 (by decide) ?_
    exact v_iret dX5_calm_28 (by simp only [qCalm, c1, eja, Bool.and_self, Bool.and_true, Bool.true_and, Bool.and_false, Bool.false_and, if_true, if_false, Bool.false_eq_true, ↓reduceIte] <;> simp [mFind, xs, xa, fnd0, eja]) (by simp only [qCalm, c1, eja, Bool.and_self, Bool.and_true, Bool.true_and, Bool.and_false, Bool.false_and, if_true, if_false, Bool.false_eq_true, ↓reduceIte] <;> simp [mFind, xs, xa, fnd0, eja])
