set_option maxHeartbeats 1000000 in
set_option maxRecDepth 4000 in
theorem c_X4_isWithin (l : Launch) {G : Gl} {w : WS} (x a b : Int32) {lo hi : Int} (ha : a.toInt = lo) (hb : b.toInt = hi) : Ct l G yX4_isWithin cX4_isWithin 3 (some .boolean) 0 0 [.int x, .int a, .int b] w (some (.int (b2 (inb lo hi x)))) w := by
  refine Ct.of (own := RX4) (by decide) rfl (Nat.le_of_ble_eq_true rfl) rfl (fun X => ?_)
  refine v_iload_n dX4_isWithin_0 0 rfl 1 rfl ?_
  refine v_iload_n dX4_isWithin_1 1 rfl 2 rfl ?_
  refine v_icmp_lt dX4_isWithin_2 14 (by decide) 5 rfl (fun c1 => ?_) (fun c1 => ?_)
  · skip
    refine v_iconst dX4_isWithin_14 0 rfl 15 rfl ?_
    exact v_zret dX4_isWithin_15 rfl (by rw [show inb lo hi x = decide (lo ≤ x.toInt ∧ x.toInt ≤ hi) from rfl, ← ha, ← hb]; simp only [← Int32.le_iff_toInt_le]; simp only [b2, c1, Int32.not_le.mpr c1, decide_true, decide_false, and_true, true_and, and_false, false_and, and_self, if_true, if_false, Bool.false_eq_true]) (by rfl)
  · skip
    refine v_iload_n dX4_isWithin_5 0 rfl 6 rfl ?_
    refine v_iload_n dX4_isWithin_6 2 rfl 7 rfl ?_
    refine v_icmp_gt dX4_isWithin_7 14 (by decide) 10 rfl (fun c2 => ?_) (fun c2 => ?_)
    · skip
      refine v_iconst dX4_isWithin_14 0 rfl 15 rfl ?_
      exact v_zret dX4_isWithin_15 rfl (by rw [show inb lo hi x = decide (lo ≤ x.toInt ∧ x.toInt ≤ hi) from rfl, ← ha, ← hb]; simp only [← Int32.le_iff_toInt_le]; simp only [b2, c1, Int32.not_lt.mp c1, c2, Int32.not_le.mpr c2, decide_true, decide_false, and_true, true_and, and_false, false_and, and_self, if_true, if_false, Bool.false_eq_true]) (by rfl)
    · skip
      refine v_iconst dX4_isWithin_10 1 rfl 11 rfl ?_
      refine v_goto dX4_isWithin_11 15 (by decide) ?_
      exact v_zret dX4_isWithin_15 rfl (by rw [show inb lo hi x = decide (lo ≤ x.toInt ∧ x.toInt ≤ hi) from rfl, ← ha, ← hb]; simp only [← Int32.le_iff_toInt_le]; simp only [b2, c1, Int32.not_lt.mp c1, c2, Int32.not_lt.mp c2, decide_true, decide_false, and_true, true_and, and_false, false_and, and_self, if_true, if_false, Bool.false_eq_true]) (by rfl)
set_option maxHeartbeats 1000000 in
set_option maxRecDepth 4000 in
theorem c_X4_isMonth (l : Launch) {G : Gl} {w : WS} (x : Int32) : Ct l G yX4_isMonth cX4_isMonth 1 (some .boolean) 1 22 [.int x] w (some (.int (b2 (inb 0 11 x)))) w := by
  refine Ct.of (own := RX4) (by decide) rfl (Nat.le_of_ble_eq_true rfl) rfl (fun X => ?_)
  refine v_iload_n dX4_isMonth_0 0 rfl 1 rfl ?_
  refine v_iconst dX4_isMonth_1 0 rfl 2 rfl ?_
  refine v_bipush dX4_isMonth_2 11 rfl 4 rfl ?_
  refine v_callS (c_X4_isWithin l x 0 11 (lo := 0) (hi := 11) rfl rfl) kal_X4_isWithin rfl dX4_isMonth_4 qw_228 qw_229 (by decide) [] (Nat.le_of_ble_eq_true rfl) rfl rfl 7 rfl ?_
  exact v_zret dX4_isMonth_7 (g_nar _) (by rfl) (by rfl)
set_option maxHeartbeats 1000000 in
set_option maxRecDepth 4000 in
theorem c_X4_isWeather (l : Launch) {G : Gl} {w : WS} (x : Int32) : Ct l G yX4_isWeather cX4_isWeather 1 (some .boolean) 1 22 [.int x] w (some (.int (b2 (inb (-20) 20 x)))) w := by
  refine Ct.of (own := RX4) (by decide) rfl (Nat.le_of_ble_eq_true rfl) rfl (fun X => ?_)
  refine v_iload_n dX4_isWeather_0 0 rfl 1 rfl ?_
  refine v_bipush dX4_isWeather_1 (-20) rfl 3 rfl ?_
  refine v_bipush dX4_isWeather_3 20 rfl 5 rfl ?_
  refine v_callS (c_X4_isWithin l x (-20) 20 (lo := (-20)) (hi := 20) rfl rfl) kal_X4_isWithin rfl dX4_isWeather_5 qw_228 qw_229 (by decide) [] (Nat.le_of_ble_eq_true rfl) rfl rfl 8 rfl ?_
  exact v_zret dX4_isWeather_8 (g_nar _) (by rfl) (by rfl)
set_option maxHeartbeats 1000000 in
set_option maxRecDepth 4000 in
theorem c_X4_isKind (l : Launch) {G : Gl} {w : WS} (x : Int32) : Ct l G yX4_isKind cX4_isKind 1 (some .boolean) 1 22 [.int x] w (some (.int (b2 (inb 0 5 x)))) w := by
  refine Ct.of (own := RX4) (by decide) rfl (Nat.le_of_ble_eq_true rfl) rfl (fun X => ?_)
  refine v_iload_n dX4_isKind_0 0 rfl 1 rfl ?_
  refine v_iconst dX4_isKind_1 0 rfl 2 rfl ?_
  refine v_iconst dX4_isKind_2 5 rfl 3 rfl ?_
  refine v_callS (c_X4_isWithin l x 0 5 (lo := 0) (hi := 5) rfl rfl) kal_X4_isWithin rfl dX4_isKind_3 qw_228 qw_229 (by decide) [] (Nat.le_of_ble_eq_true rfl) rfl rfl 6 rfl ?_
  exact v_zret dX4_isKind_6 (g_nar _) (by rfl) (by rfl)
set_option maxHeartbeats 1000000 in
set_option maxRecDepth 4000 in
theorem c_X4_isCoat (l : Launch) {G : Gl} {w : WS} (x : Int32) : Ct l G yX4_isCoat cX4_isCoat 1 (some .boolean) 1 22 [.int x] w (some (.int (b2 (inb 0 3 x)))) w := by
  refine Ct.of (own := RX4) (by decide) rfl (Nat.le_of_ble_eq_true rfl) rfl (fun X => ?_)
  refine v_iload_n dX4_isCoat_0 0 rfl 1 rfl ?_
  refine v_iconst dX4_isCoat_1 0 rfl 2 rfl ?_
  refine v_iconst dX4_isCoat_2 3 rfl 3 rfl ?_
  refine v_callS (c_X4_isWithin l x 0 3 (lo := 0) (hi := 3) rfl rfl) kal_X4_isWithin rfl dX4_isCoat_3 qw_228 qw_229 (by decide) [] (Nat.le_of_ble_eq_true rfl) rfl rfl 6 rfl ?_
  exact v_zret dX4_isCoat_6 (g_nar _) (by rfl) (by rfl)
set_option maxHeartbeats 1000000 in
set_option maxRecDepth 4000 in
theorem c_X4_isSheet (l : Launch) {G : Gl} {w : WS} (x : Int32) : Ct l G yX4_isSheet cX4_isSheet 1 (some .boolean) 1 22 [.int x] w (some (.int (b2 (inb 0 3 x)))) w := by
  refine Ct.of (own := RX4) (by decide) rfl (Nat.le_of_ble_eq_true rfl) rfl (fun X => ?_)
  refine v_iload_n dX4_isSheet_0 0 rfl 1 rfl ?_
  refine v_iconst dX4_isSheet_1 0 rfl 2 rfl ?_
  refine v_iconst dX4_isSheet_2 3 rfl 3 rfl ?_
  refine v_callS (c_X4_isWithin l x 0 3 (lo := 0) (hi := 3) rfl rfl) kal_X4_isWithin rfl dX4_isSheet_3 qw_228 qw_229 (by decide) [] (Nat.le_of_ble_eq_true rfl) rfl rfl 6 rfl ?_
  exact v_zret dX4_isSheet_6 (g_nar _) (by rfl) (by rfl)
set_option maxHeartbeats 1000000 in
set_option maxRecDepth 4000 in
theorem c_X4_grows (l : Launch) {G : Gl} {w : WS} (k x : Int32) : Ct l G yX4_grows cX4_grows 3 (some .int) 0 0 [.int k, .int x] w (some (.int (kGrows k x))) w := by
  refine Ct.of (own := RX4) (by decide) rfl (Nat.le_of_ble_eq_true rfl) rfl (fun X => ?_)
  refine v_iload_n dX4_grows_0 1 rfl 1 rfl ?_
  refine v_if_ge dX4_grows_1 14 (by decide) 4 rfl (fun c1 => ?_) (fun c1 => ?_)
  · skip
    refine v_bipush dX4_grows_14 10 rfl 16 rfl ?_
    refine v_istore_n dX4_grows_16 2 rfl (by decide) [(2, .int 10), (0, .int k), (1, .int x)] rfl 17 rfl ?_
    refine v_iload_n dX4_grows_17 1 rfl 18 rfl ?_
    by_cases c2_0 : k = 1
    · refine v_topi 1 c2_0 ?_
      refine v_tabIn dX4_grows_18 (by decide) (by decide) (off := 34) (by decide) 52 (by decide) ?_
      refine v_iload_n dX4_grows_52 0 rfl 53 rfl ?_
      refine v_iconst dX4_grows_53 4 rfl 54 rfl ?_
      refine v_iadd dX4_grows_54 55 rfl ?_
      exact v_iret dX4_grows_55 (by simp [kGrows, c1, Int32.not_lt.mpr c1, c2_0]) (by rfl)
    by_cases c2_1 : k = 2
    · refine v_topi 2 c2_1 ?_
      refine v_tabIn dX4_grows_18 (by decide) (by decide) (off := 38) (by decide) 56 (by decide) ?_
      refine v_iload_n dX4_grows_56 0 rfl 57 rfl ?_
      refine v_iconst dX4_grows_57 2 rfl 58 rfl ?_
      refine v_idiv dX4_grows_58 (by decide) 59 rfl ?_
      exact v_iret dX4_grows_59 (by simp [kGrows, c1, Int32.not_lt.mpr c1, c2_0, c2_1]) (by rfl)
    by_cases c2_2 : k = 3
    · refine v_topi 3 c2_2 ?_
      refine v_tabIn dX4_grows_18 (by decide) (by decide) (off := 42) (by decide) 60 (by decide) ?_
      refine v_bipush dX4_grows_60 12 rfl 62 rfl ?_
      exact v_iret dX4_grows_62 (by simp [kGrows, c1, Int32.not_lt.mpr c1, c2_0, c2_1, c2_2]) (by rfl)
    by_cases c2_3 : k = 4
    · refine v_topi 4 c2_3 ?_
      refine v_tabIn dX4_grows_18 (by decide) (by decide) (off := 45) (by decide) 63 (by decide) ?_
      refine v_iload_n dX4_grows_63 2 rfl 64 rfl ?_
      refine v_bipush dX4_grows_64 10 rfl 66 rfl ?_
      refine v_icmp_le dX4_grows_66 73 (by decide) 69 rfl (fun c3 => ?_) (fun c3 => ?_)
      · skip
        refine v_iload_n dX4_grows_73 0 rfl 74 rfl ?_
        refine v_iconst dX4_grows_74 4 rfl 75 rfl ?_
        refine v_iadd dX4_grows_75 76 rfl ?_
        exact v_iret dX4_grows_76 (by simp [kGrows, c1, Int32.not_lt.mpr c1, c2_0, c2_1, c2_2, c2_3, c3, Int32.not_lt.mpr c3]) (by rfl)
      · skip
        refine v_iconst dX4_grows_69 0 rfl 70 rfl ?_
        refine v_goto dX4_grows_70 76 (by decide) ?_
        exact v_iret dX4_grows_76 (by simp [kGrows, c1, Int32.not_lt.mpr c1, c2_0, c2_1, c2_2, c2_3, c3, Int32.not_le.mp c3]) (by rfl)
    by_cases c2_4 : k = 5
    · refine v_topi 5 c2_4 ?_
      refine v_tabIn dX4_grows_18 (by decide) (by decide) (off := 59) (by decide) 77 (by decide) ?_
      refine v_iload_n dX4_grows_77 0 rfl 78 rfl ?_
      refine v_iconst dX4_grows_78 2 rfl 79 rfl ?_
      refine v_idiv dX4_grows_79 (by decide) 80 rfl ?_
      refine v_bipush dX4_grows_80 6 rfl 82 rfl ?_
      refine v_iadd dX4_grows_82 83 rfl ?_
      exact v_iret dX4_grows_83 (by simp [kGrows, c1, Int32.not_lt.mpr c1, c2_0, c2_1, c2_2, c2_3, c2_4]) (by rfl)
    refine v_tabOut dX4_grows_18 (sw_out (lo := 1) (hi := 5) (by decide) (by decide) (fun k h1 h2 => by rcases (show k = 1 ∨ k = 2 ∨ k = 3 ∨ k = 4 ∨ k = 5 by omega) with rfl | rfl | rfl | rfl | rfl <;> first | exact c2_0 | exact c2_1 | exact c2_2 | exact c2_3 | exact c2_4)) 84 (by decide) ?_
    refine v_iload_n dX4_grows_84 0 rfl 85 rfl ?_
    exact v_iret dX4_grows_85 (by simp [kGrows, c1, Int32.not_lt.mpr c1, c2_0, c2_1, c2_2, c2_3, c2_4]) (by rfl)
  · skip
    refine v_bipush dX4_grows_4 10 rfl 6 rfl ?_
    refine v_iload_n dX4_grows_6 1 rfl 7 rfl ?_
    refine v_ineg dX4_grows_7 8 rfl ?_
    refine v_iconst dX4_grows_8 2 rfl 9 rfl ?_
    refine v_idiv dX4_grows_9 (by decide) 10 rfl ?_
    refine v_iadd dX4_grows_10 11 rfl ?_
    refine v_goto dX4_grows_11 16 (by decide) ?_
    refine v_istore_n dX4_grows_16 2 rfl (by decide) [(2, .int (10 + ((-x) / 2))), (0, .int k), (1, .int x)] rfl 17 rfl ?_
    refine v_iload_n dX4_grows_17 1 rfl 18 rfl ?_
    by_cases c4_0 : k = 1
    · refine v_topi 1 c4_0 ?_
      refine v_tabIn dX4_grows_18 (by decide) (by decide) (off := 34) (by decide) 52 (by decide) ?_
      refine v_iload_n dX4_grows_52 0 rfl 53 rfl ?_
      refine v_iconst dX4_grows_53 4 rfl 54 rfl ?_
      refine v_iadd dX4_grows_54 55 rfl ?_
      exact v_iret dX4_grows_55 (by simp [kGrows, c1, Int32.not_le.mp c1, c4_0]) (by rfl)
    by_cases c4_1 : k = 2
    · refine v_topi 2 c4_1 ?_
      refine v_tabIn dX4_grows_18 (by decide) (by decide) (off := 38) (by decide) 56 (by decide) ?_
      refine v_iload_n dX4_grows_56 0 rfl 57 rfl ?_
      refine v_iconst dX4_grows_57 2 rfl 58 rfl ?_
      refine v_idiv dX4_grows_58 (by decide) 59 rfl ?_
      exact v_iret dX4_grows_59 (by simp [kGrows, c1, Int32.not_le.mp c1, c4_0, c4_1]) (by rfl)
    by_cases c4_2 : k = 3
    · refine v_topi 3 c4_2 ?_
      refine v_tabIn dX4_grows_18 (by decide) (by decide) (off := 42) (by decide) 60 (by decide) ?_
      refine v_bipush dX4_grows_60 12 rfl 62 rfl ?_
      exact v_iret dX4_grows_62 (by simp [kGrows, c1, Int32.not_le.mp c1, c4_0, c4_1, c4_2]) (by rfl)
    by_cases c4_3 : k = 4
    · refine v_topi 4 c4_3 ?_
      refine v_tabIn dX4_grows_18 (by decide) (by decide) (off := 45) (by decide) 63 (by decide) ?_
      refine v_iload_n dX4_grows_63 2 rfl 64 rfl ?_
      refine v_bipush dX4_grows_64 10 rfl 66 rfl ?_
      refine v_icmp_le dX4_grows_66 73 (by decide) 69 rfl (fun c5 => ?_) (fun c5 => ?_)
      · skip
        refine v_iload_n dX4_grows_73 0 rfl 74 rfl ?_
        refine v_iconst dX4_grows_74 4 rfl 75 rfl ?_
        refine v_iadd dX4_grows_75 76 rfl ?_
        exact v_iret dX4_grows_76 (by simp [kGrows, c1, Int32.not_le.mp c1, c4_0, c4_1, c4_2, c4_3, c5, Int32.not_lt.mpr c5]) (by rfl)
      · skip
        refine v_iconst dX4_grows_69 0 rfl 70 rfl ?_
        refine v_goto dX4_grows_70 76 (by decide) ?_
        exact v_iret dX4_grows_76 (by simp [kGrows, c1, Int32.not_le.mp c1, c4_0, c4_1, c4_2, c4_3, c5, Int32.not_le.mp c5]) (by rfl)
    by_cases c4_4 : k = 5
    · refine v_topi 5 c4_4 ?_
      refine v_tabIn dX4_grows_18 (by decide) (by decide) (off := 59) (by decide) 77 (by decide) ?_
      refine v_iload_n dX4_grows_77 0 rfl 78 rfl ?_
      refine v_iconst dX4_grows_78 2 rfl 79 rfl ?_
      refine v_idiv dX4_grows_79 (by decide) 80 rfl ?_
      refine v_bipush dX4_grows_80 6 rfl 82 rfl ?_
      refine v_iadd dX4_grows_82 83 rfl ?_
      exact v_iret dX4_grows_83 (by simp [kGrows, c1, Int32.not_le.mp c1, c4_0, c4_1, c4_2, c4_3, c4_4]) (by rfl)
    refine v_tabOut dX4_grows_18 (sw_out (lo := 1) (hi := 5) (by decide) (by decide) (fun k h1 h2 => by rcases (show k = 1 ∨ k = 2 ∨ k = 3 ∨ k = 4 ∨ k = 5 by omega) with rfl | rfl | rfl | rfl | rfl <;> first | exact c4_0 | exact c4_1 | exact c4_2 | exact c4_3 | exact c4_4)) 84 (by decide) ?_
    refine v_iload_n dX4_grows_84 0 rfl 85 rfl ?_
    exact v_iret dX4_grows_85 (by simp [kGrows, c1, Int32.not_le.mp c1, c4_0, c4_1, c4_2, c4_3, c4_4]) (by rfl)
set_option maxHeartbeats 1000000 in
set_option maxRecDepth 4000 in
theorem c_X4_loses (l : Launch) {G : Gl} {w : WS} (k x : Int32) : Ct l G yX4_loses cX4_loses 3 (some .int) 1 21 [.int k, .int x] w (some (.int (kLoses k x))) w := by
  refine Ct.of (own := RX4) (by decide) rfl (Nat.le_of_ble_eq_true rfl) rfl (fun X => ?_)
  refine v_iload_n dX4_loses_0 1 rfl 1 rfl ?_
  refine v_bipush dX4_loses_1 10 rfl 3 rfl ?_
  refine v_idiv dX4_loses_3 (by decide) 4 rfl ?_
  refine v_istore_n dX4_loses_4 2 rfl (by decide) [(2, .int (x / 10)), (0, .int k), (1, .int x)] rfl 5 rfl ?_
  refine v_iload_n dX4_loses_5 1 rfl 6 rfl ?_
  by_cases c1_0 : k = 1
  · refine v_topi 1 c1_0 ?_
    refine v_tabIn dX4_loses_6 (by decide) (by decide) (off := 34) (by decide) 40 (by decide) ?_
    refine v_iconst dX4_loses_40 0 rfl 41 rfl ?_
    exact v_iret dX4_loses_41 (by simp [kLoses, c1_0]) (by rfl)
  by_cases c1_1 : k = 2
  · refine v_topi 2 c1_1 ?_
    refine v_tabIn dX4_loses_6 (by decide) (by decide) (off := 36) (by decide) 42 (by decide) ?_
    refine v_iconst dX4_loses_42 2 rfl 43 rfl ?_
    refine v_iload_n dX4_loses_43 0 rfl 44 rfl ?_
    refine v_imul dX4_loses_44 45 rfl ?_
    exact v_iret dX4_loses_45 (by simp [kLoses, c1_0, c1_1]) (by rfl)
  by_cases c1_2 : k = 3
  · refine v_topi 3 c1_2 ?_
    refine v_tabIn dX4_loses_6 (by decide) (by decide) (off := 52) (by decide) 58 (by decide) ?_
    refine v_iload_n dX4_loses_58 0 rfl 59 rfl ?_
    exact v_iret dX4_loses_59 (by simp [kLoses, c1_0, c1_1, c1_2]) (by rfl)
  by_cases c1_3 : k = 4
  · refine v_topi 4 c1_3 ?_
    refine v_tabIn dX4_loses_6 (by decide) (by decide) (off := 40) (by decide) 46 (by decide) ?_
    refine v_iconst dX4_loses_46 1 rfl 47 rfl ?_
    exact v_iret dX4_loses_47 (by simp [kLoses, c1_0, c1_1, c1_2, c1_3]) (by rfl)
  by_cases c1_4 : k = 5
  · refine v_topi 5 c1_4 ?_
    refine v_tabIn dX4_loses_6 (by decide) (by decide) (off := 42) (by decide) 48 (by decide) ?_
    refine v_iconst dX4_loses_48 0 rfl 49 rfl ?_
    refine v_iconst dX4_loses_49 2 rfl 50 rfl ?_
    refine v_iload_n dX4_loses_50 0 rfl 51 rfl ?_
    refine v_imul dX4_loses_51 52 rfl ?_
    refine v_iconst dX4_loses_52 2 rfl 53 rfl ?_
    refine v_isub dX4_loses_53 54 rfl ?_
    refine v_mmax dX4_loses_54 qw_306 (by decide) (Nat.le_of_ble_eq_true rfl) 57 rfl ?_
    exact v_iret dX4_loses_57 (by simp [kLoses, c1_0, c1_1, c1_2, c1_3, c1_4]) (by rfl)
  refine v_tabOut dX4_loses_6 (sw_out (lo := 1) (hi := 5) (by decide) (by decide) (fun k h1 h2 => by rcases (show k = 1 ∨ k = 2 ∨ k = 3 ∨ k = 4 ∨ k = 5 by omega) with rfl | rfl | rfl | rfl | rfl <;> first | exact c1_0 | exact c1_1 | exact c1_2 | exact c1_3 | exact c1_4)) 58 (by decide) ?_
  refine v_iload_n dX4_loses_58 0 rfl 59 rfl ?_
  exact v_iret dX4_loses_59 (by simp [kLoses, c1_0, c1_1, c1_2, c1_3, c1_4]) (by rfl)
set_option maxHeartbeats 1000000 in
set_option maxRecDepth 4000 in
theorem c_X4_burrs (l : Launch) {G : Gl} {w : WS} (k x : Int32) : Ct l G yX4_burrs cX4_burrs 3 (some .int) 0 0 [.int k, .int x] w (some (.int (kBurrs k x))) w := by
  refine Ct.of (own := RX4) (by decide) rfl (Nat.le_of_ble_eq_true rfl) rfl (fun X => ?_)
  refine v_iload_n dX4_burrs_0 1 rfl 1 rfl ?_
  refine v_bipush dX4_burrs_1 (-8) rfl 3 rfl ?_
  refine v_icmp_ge dX4_burrs_3 10 (by decide) 6 rfl (fun c1 => ?_) (fun c1 => ?_)
  · skip
    refine v_iconst dX4_burrs_10 0 rfl 11 rfl ?_
    refine v_istore_n dX4_burrs_11 2 rfl (by decide) [(2, .int 0), (0, .int k), (1, .int x)] rfl 12 rfl ?_
    refine v_iload_n dX4_burrs_12 1 rfl 13 rfl ?_
    by_cases c2_0 : k = 1
    · refine v_topi 1 c2_0 ?_
      refine v_tabIn dX4_burrs_13 (by decide) (by decide) (off := 35) (by decide) 48 (by decide) ?_
      refine v_iload_n dX4_burrs_48 0 rfl 49 rfl ?_
      refine v_iconst dX4_burrs_49 1 rfl 50 rfl ?_
      refine v_iadd dX4_burrs_50 51 rfl ?_
      exact v_iret dX4_burrs_51 (by simp [kBurrs, c1, Int32.not_lt.mpr c1, c2_0]) (by rfl)
    by_cases c2_1 : k = 2
    · refine v_topi 2 c2_1 ?_
      refine v_tabIn dX4_burrs_13 (by decide) (by decide) (off := 39) (by decide) 52 (by decide) ?_
      refine v_iconst dX4_burrs_52 0 rfl 53 rfl ?_
      exact v_iret dX4_burrs_53 (by simp [kBurrs, c1, Int32.not_lt.mpr c1, c2_0, c2_1]) (by rfl)
    by_cases c2_2 : k = 3
    · refine v_topi 3 c2_2 ?_
      refine v_tabIn dX4_burrs_13 (by decide) (by decide) (off := 45) (by decide) 58 (by decide) ?_
      refine v_iload_n dX4_burrs_58 0 rfl 59 rfl ?_
      exact v_iret dX4_burrs_59 (by simp [kBurrs, c1, Int32.not_lt.mpr c1, c2_0, c2_1, c2_2]) (by rfl)
    by_cases c2_3 : k = 4
    · refine v_topi 4 c2_3 ?_
      refine v_tabIn dX4_burrs_13 (by decide) (by decide) (off := 41) (by decide) 54 (by decide) ?_
      refine v_iload_n dX4_burrs_54 0 rfl 55 rfl ?_
      refine v_iconst dX4_burrs_55 3 rfl 56 rfl ?_
      refine v_iadd dX4_burrs_56 57 rfl ?_
      exact v_iret dX4_burrs_57 (by simp [kBurrs, c1, Int32.not_lt.mpr c1, c2_0, c2_1, c2_2, c2_3]) (by rfl)
    by_cases c2_4 : k = 5
    · refine v_topi 5 c2_4 ?_
      refine v_tabIn dX4_burrs_13 (by decide) (by decide) (off := 39) (by decide) 52 (by decide) ?_
      refine v_iconst dX4_burrs_52 0 rfl 53 rfl ?_
      exact v_iret dX4_burrs_53 (by simp [kBurrs, c1, Int32.not_lt.mpr c1, c2_0, c2_1, c2_2, c2_3, c2_4]) (by rfl)
    refine v_tabOut dX4_burrs_13 (sw_out (lo := 1) (hi := 5) (by decide) (by decide) (fun k h1 h2 => by rcases (show k = 1 ∨ k = 2 ∨ k = 3 ∨ k = 4 ∨ k = 5 by omega) with rfl | rfl | rfl | rfl | rfl <;> first | exact c2_0 | exact c2_1 | exact c2_2 | exact c2_3 | exact c2_4)) 58 (by decide) ?_
    refine v_iload_n dX4_burrs_58 0 rfl 59 rfl ?_
    exact v_iret dX4_burrs_59 (by simp [kBurrs, c1, Int32.not_lt.mpr c1, c2_0, c2_1, c2_2, c2_3, c2_4]) (by rfl)
  · skip
    refine v_iconst dX4_burrs_6 1 rfl 7 rfl ?_
    refine v_goto dX4_burrs_7 11 (by decide) ?_
    refine v_istore_n dX4_burrs_11 2 rfl (by decide) [(2, .int 1), (0, .int k), (1, .int x)] rfl 12 rfl ?_
    refine v_iload_n dX4_burrs_12 1 rfl 13 rfl ?_
    by_cases c3_0 : k = 1
    · refine v_topi 1 c3_0 ?_
      refine v_tabIn dX4_burrs_13 (by decide) (by decide) (off := 35) (by decide) 48 (by decide) ?_
      refine v_iload_n dX4_burrs_48 0 rfl 49 rfl ?_
      refine v_iconst dX4_burrs_49 1 rfl 50 rfl ?_
      refine v_iadd dX4_burrs_50 51 rfl ?_
      exact v_iret dX4_burrs_51 (by simp [kBurrs, c1, Int32.not_le.mp c1, c3_0]) (by rfl)
    by_cases c3_1 : k = 2
    · refine v_topi 2 c3_1 ?_
      refine v_tabIn dX4_burrs_13 (by decide) (by decide) (off := 39) (by decide) 52 (by decide) ?_
      refine v_iconst dX4_burrs_52 0 rfl 53 rfl ?_
      exact v_iret dX4_burrs_53 (by simp [kBurrs, c1, Int32.not_le.mp c1, c3_0, c3_1]) (by rfl)
    by_cases c3_2 : k = 3
    · refine v_topi 3 c3_2 ?_
      refine v_tabIn dX4_burrs_13 (by decide) (by decide) (off := 45) (by decide) 58 (by decide) ?_
      refine v_iload_n dX4_burrs_58 0 rfl 59 rfl ?_
      exact v_iret dX4_burrs_59 (by simp [kBurrs, c1, Int32.not_le.mp c1, c3_0, c3_1, c3_2]) (by rfl)
    by_cases c3_3 : k = 4
    · refine v_topi 4 c3_3 ?_
      refine v_tabIn dX4_burrs_13 (by decide) (by decide) (off := 41) (by decide) 54 (by decide) ?_
      refine v_iload_n dX4_burrs_54 0 rfl 55 rfl ?_
      refine v_iconst dX4_burrs_55 3 rfl 56 rfl ?_
      refine v_iadd dX4_burrs_56 57 rfl ?_
      exact v_iret dX4_burrs_57 (by simp [kBurrs, c1, Int32.not_le.mp c1, c3_0, c3_1, c3_2, c3_3]) (by rfl)
    by_cases c3_4 : k = 5
    · refine v_topi 5 c3_4 ?_
      refine v_tabIn dX4_burrs_13 (by decide) (by decide) (off := 39) (by decide) 52 (by decide) ?_
      refine v_iconst dX4_burrs_52 0 rfl 53 rfl ?_
      exact v_iret dX4_burrs_53 (by simp [kBurrs, c1, Int32.not_le.mp c1, c3_0, c3_1, c3_2, c3_3, c3_4]) (by rfl)
    refine v_tabOut dX4_burrs_13 (sw_out (lo := 1) (hi := 5) (by decide) (by decide) (fun k h1 h2 => by rcases (show k = 1 ∨ k = 2 ∨ k = 3 ∨ k = 4 ∨ k = 5 by omega) with rfl | rfl | rfl | rfl | rfl <;> first | exact c3_0 | exact c3_1 | exact c3_2 | exact c3_3 | exact c3_4)) 58 (by decide) ?_
    refine v_iload_n dX4_burrs_58 0 rfl 59 rfl ?_
    exact v_iret dX4_burrs_59 (by simp [kBurrs, c1, Int32.not_le.mp c1, c3_0, c3_1, c3_2, c3_3, c3_4]) (by rfl)
set_option maxHeartbeats 1000000 in
set_option maxRecDepth 4000 in
theorem c_X4_calms (l : Launch) {G : Gl} {w : WS} (k : Int32) : Ct l G yX4_calms cX4_calms 1 (some .int) 0 0 [.int k] w (some (.int (kCalms k))) w := by
  refine Ct.of (own := RX4) (by decide) rfl (Nat.le_of_ble_eq_true rfl) rfl (fun X => ?_)
  refine v_iload_n dX4_calms_0 0 rfl 1 rfl ?_
  by_cases c1_0 : k = 1
  · refine v_topi 1 c1_0 ?_
    refine v_tabIn dX4_calms_1 (by decide) (by decide) (off := 35) (by decide) 36 (by decide) ?_
    refine v_bipush dX4_calms_36 20 rfl 38 rfl ?_
    exact v_iret dX4_calms_38 (by simp [kCalms, c1_0]) (by rfl)
  by_cases c1_1 : k = 2
  · refine v_topi 2 c1_1 ?_
    refine v_tabIn dX4_calms_1 (by decide) (by decide) (off := 38) (by decide) 39 (by decide) ?_
    refine v_iconst dX4_calms_39 5 rfl 40 rfl ?_
    exact v_iret dX4_calms_40 (by simp [kCalms, c1_0, c1_1]) (by rfl)
  by_cases c1_2 : k = 3
  · refine v_topi 3 c1_2 ?_
    refine v_tabIn dX4_calms_1 (by decide) (by decide) (off := 43) (by decide) 44 (by decide) ?_
    refine v_bipush dX4_calms_44 10 rfl 46 rfl ?_
    exact v_iret dX4_calms_46 (by simp [kCalms, c1_0, c1_1, c1_2]) (by rfl)
  by_cases c1_3 : k = 4
  · refine v_topi 4 c1_3 ?_
    refine v_tabIn dX4_calms_1 (by decide) (by decide) (off := 35) (by decide) 36 (by decide) ?_
    refine v_bipush dX4_calms_36 20 rfl 38 rfl ?_
    exact v_iret dX4_calms_38 (by simp [kCalms, c1_0, c1_1, c1_2, c1_3]) (by rfl)
  by_cases c1_4 : k = 5
  · refine v_topi 5 c1_4 ?_
    refine v_tabIn dX4_calms_1 (by decide) (by decide) (off := 40) (by decide) 41 (by decide) ?_
    refine v_bipush dX4_calms_41 15 rfl 43 rfl ?_
    exact v_iret dX4_calms_43 (by simp [kCalms, c1_0, c1_1, c1_2, c1_3, c1_4]) (by rfl)
  refine v_tabOut dX4_calms_1 (sw_out (lo := 1) (hi := 5) (by decide) (by decide) (fun k h1 h2 => by rcases (show k = 1 ∨ k = 2 ∨ k = 3 ∨ k = 4 ∨ k = 5 by omega) with rfl | rfl | rfl | rfl | rfl <;> first | exact c1_0 | exact c1_1 | exact c1_2 | exact c1_3 | exact c1_4)) 44 (by decide) ?_
  refine v_bipush dX4_calms_44 10 rfl 46 rfl ?_
  exact v_iret dX4_calms_46 (by simp [kCalms, c1_0, c1_1, c1_2, c1_3, c1_4]) (by rfl)
set_option maxHeartbeats 1000000 in
set_option maxRecDepth 4000 in
theorem c_X4_kindAbove (l : Launch) {G : Gl} {w : WS} (k : Int32) : Ct l G yX4_kindAbove cX4_kindAbove 1 (some .int) 0 0 [.int k] w (some (.int (kAbove k))) w := by
  refine Ct.of (own := RX4) (by decide) rfl (Nat.le_of_ble_eq_true rfl) rfl (fun X => ?_)
  refine v_iload_n dX4_kindAbove_0 0 rfl 1 rfl ?_
  by_cases c1_0 : k = 1
  · refine v_topi 1 c1_0 ?_
    refine v_tabIn dX4_kindAbove_1 (by decide) (by decide) (off := 35) (by decide) 36 (by decide) ?_
    refine v_iconst dX4_kindAbove_36 0 rfl 37 rfl ?_
    exact v_iret dX4_kindAbove_37 (by simp [kAbove, c1_0]) (by rfl)
  by_cases c1_1 : k = 2
  · refine v_topi 2 c1_1 ?_
    refine v_tabIn dX4_kindAbove_1 (by decide) (by decide) (off := 35) (by decide) 36 (by decide) ?_
    refine v_iconst dX4_kindAbove_36 0 rfl 37 rfl ?_
    exact v_iret dX4_kindAbove_37 (by simp [kAbove, c1_0, c1_1]) (by rfl)
  by_cases c1_2 : k = 3
  · refine v_topi 3 c1_2 ?_
    refine v_tabIn dX4_kindAbove_1 (by decide) (by decide) (off := 35) (by decide) 36 (by decide) ?_
    refine v_iconst dX4_kindAbove_36 0 rfl 37 rfl ?_
    exact v_iret dX4_kindAbove_37 (by simp [kAbove, c1_0, c1_1, c1_2]) (by rfl)
  by_cases c1_3 : k = 4
  · refine v_topi 4 c1_3 ?_
    refine v_tabIn dX4_kindAbove_1 (by decide) (by decide) (off := 37) (by decide) 38 (by decide) ?_
    refine v_iconst dX4_kindAbove_38 1 rfl 39 rfl ?_
    exact v_iret dX4_kindAbove_39 (by simp [kAbove, c1_0, c1_1, c1_2, c1_3]) (by rfl)
  by_cases c1_4 : k = 5
  · refine v_topi 5 c1_4 ?_
    refine v_tabIn dX4_kindAbove_1 (by decide) (by decide) (off := 39) (by decide) 40 (by decide) ?_
    refine v_iconst dX4_kindAbove_40 2 rfl 41 rfl ?_
    exact v_iret dX4_kindAbove_41 (by simp [kAbove, c1_0, c1_1, c1_2, c1_3, c1_4]) (by rfl)
  refine v_tabOut dX4_kindAbove_1 (sw_out (lo := 1) (hi := 5) (by decide) (by decide) (fun k h1 h2 => by rcases (show k = 1 ∨ k = 2 ∨ k = 3 ∨ k = 4 ∨ k = 5 by omega) with rfl | rfl | rfl | rfl | rfl <;> first | exact c1_0 | exact c1_1 | exact c1_2 | exact c1_3 | exact c1_4)) 42 (by decide) ?_
  refine v_iconst dX4_kindAbove_42 (-1) rfl 43 rfl ?_
  exact v_iret dX4_kindAbove_43 (by simp [kAbove, c1_0, c1_1, c1_2, c1_3, c1_4]) (by rfl)
