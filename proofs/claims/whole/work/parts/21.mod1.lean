theorem lcmp_lt {x y : Int64} : lg_cmp x y < 0 ↔ x.toInt < y.toInt := by
  unfold lg_cmp
  rw [← fa_lt64]
  by_cases h1 : x > y
  · rw [if_pos h1]
    exact ⟨fun h => absurd h (by decide), fun h => absurd h (Int64.lt_asymm h1)⟩
  · rw [if_neg h1]
    by_cases h2 : x = y
    · rw [if_pos h2, h2]
      exact ⟨fun h => absurd h (by decide), fun h => absurd h (Int64.lt_irrefl)⟩
    · rw [if_neg h2]
      refine ⟨fun _ => ?_, fun _ => by decide⟩
      rw [fa_lt64]
      have h3 : ¬ y.toInt < x.toInt := fun q => h1 ((fa_lt64 y x).mpr q)
      have h4 : ¬ x.toInt = y.toInt := fun q => h2 ((fa_eq64 x y).mpr q)
      omega
theorem lcmp_gt {x y : Int64} : 0 < lg_cmp x y ↔ y.toInt < x.toInt := by
  unfold lg_cmp
  rw [← fa_lt64]
  by_cases h1 : x > y
  · rw [if_pos h1]
    exact ⟨fun _ => h1, fun _ => by decide⟩
  · rw [if_neg h1]
    by_cases h2 : x = y
    · rw [if_pos h2]
      exact ⟨fun h => absurd h (by decide), fun h => absurd h h1⟩
    · rw [if_neg h2]
      exact ⟨fun h => absurd h (by decide), fun h => absurd h h1⟩
theorem lcmp_eq {x y : Int64} : lg_cmp x y = 0 ↔ x = y := by
  unfold lg_cmp
  by_cases h1 : x > y
  · rw [if_pos h1]
    exact ⟨fun h => absurd h (by decide), fun h => absurd h1 (by rw [h]; exact Int64.lt_irrefl)⟩
  · rw [if_neg h1]
    by_cases h2 : x = y
    · rw [if_pos h2]
      exact ⟨fun _ => h2, fun _ => rfl⟩
    · rw [if_neg h2]
      exact ⟨fun h => absurd h (by decide), fun h => absurd h h2⟩
theorem in_fin {v a b : Int64} {r : Int32} (h : (r = 0 ∧ (lg_cmp v a < 0 ∨ 0 < lg_cmp v b)) ∨ (r = 1 ∧ ¬ lg_cmp v a < 0 ∧ ¬ 0 < lg_cmp v b)) : r = b2 (inz a.toInt b.toInt v.toInt) := by
  rw [lcmp_lt, lcmp_gt] at h
  unfold inz b2
  rcases h with ⟨rfl, h⟩ | ⟨rfl, h1, h2⟩
  · rw [decide_eq_false (by omega)]
    rfl
  · rw [decide_eq_true (by omega)]
    rfl
set_option maxHeartbeats 1000000 in
set_option maxRecDepth 4000 in
theorem c_X5_in (l : Launch) {G : Gl} {w : WS} (v a b : Int64) {z lo hi : Int} (hv : v.toInt = z) (ha : a.toInt = lo) (hb : b.toInt = hi) : Ct l G yX5_in cX5_in 6 (some .boolean) 0 0 [.long v, .long a, .long b] w (some (.int (b2 (inz lo hi z)))) w := by
  refine Ct.of (own := RX5) (by decide) rfl (Nat.le_of_ble_eq_true rfl) rfl (fun X => ?_)
  refine v_lload_n dX5_in_0 0 rfl 1 rfl ?_
  refine v_lload_n dX5_in_1 1 rfl 2 rfl ?_
  refine v_lcmp dX5_in_2 3 rfl ?_
  refine v_if_lt dX5_in_3 17 (by decide) 6 rfl (fun c1 => ?_) (fun c1 => ?_)
  · skip
    refine v_iconst dX5_in_17 0 rfl 18 rfl ?_
    exact v_zret dX5_in_18 rfl (by subst hv ha hb; exact congrArg (fun q => some (Value.int q)) (in_fin (by first | exact Or.inl ⟨rfl, Or.inl c1⟩ | exact Or.inl ⟨rfl, Or.inr c2⟩ | exact Or.inr ⟨rfl, c1, c2⟩))) (by rfl)
  · skip
    refine v_lload_n dX5_in_6 0 rfl 7 rfl ?_
    refine v_lload dX5_in_7 2 rfl 9 rfl ?_
    refine v_lcmp dX5_in_9 10 rfl ?_
    refine v_if_gt dX5_in_10 17 (by decide) 13 rfl (fun c2 => ?_) (fun c2 => ?_)
    · skip
      refine v_iconst dX5_in_17 0 rfl 18 rfl ?_
      exact v_zret dX5_in_18 rfl (by subst hv ha hb; exact congrArg (fun q => some (Value.int q)) (in_fin (by first | exact Or.inl ⟨rfl, Or.inl c1⟩ | exact Or.inl ⟨rfl, Or.inr c2⟩ | exact Or.inr ⟨rfl, c1, c2⟩))) (by rfl)
    · skip
      refine v_iconst dX5_in_13 1 rfl 14 rfl ?_
      refine v_goto dX5_in_14 18 (by decide) ?_
      exact v_zret dX5_in_18 rfl (by subst hv ha hb; exact congrArg (fun q => some (Value.int q)) (in_fin (by first | exact Or.inl ⟨rfl, Or.inl c1⟩ | exact Or.inl ⟨rfl, Or.inr c2⟩ | exact Or.inr ⟨rfl, c1, c2⟩))) (by rfl)
set_option maxHeartbeats 1000000 in
set_option maxRecDepth 4000 in
theorem c_X5_isMonth (l : Launch) {G : Gl} {w : WS} (x : Int32) : Ct l G yX5_isMonth cX5_isMonth 1 (some .boolean) 1 25 [.int x] w (some (.int (b2 (inb 0 11 x)))) w := by
  refine Ct.of (own := RX5) (by decide) rfl (Nat.le_of_ble_eq_true rfl) rfl (fun X => ?_)
  refine v_iload_n dX5_isMonth_0 0 rfl 1 rfl ?_
  refine v_i2l dX5_isMonth_1 2 rfl ?_
  refine v_lconst dX5_isMonth_2 0 rfl 3 rfl ?_
  refine v_ldc2 dX5_isMonth_3 11 qw_742 6 rfl ?_
  refine v_callS (c_X5_in l (x : Int32).toInt64 0 11 (z := (x : Int32).toInt) (lo := 0) (hi := 11) (i2l_i _) rfl rfl) kal_X5_in rfl dX5_isMonth_6 qw_743 qw_744 (by decide) [] (Nat.le_of_ble_eq_true rfl) rfl rfl 9 rfl ?_
  refine v_topi (b2 (inb 0 11 x)) rfl ?_
  exact v_zret dX5_isMonth_9 (g_nar _) (by rfl) (by rfl)
set_option maxHeartbeats 1000000 in
set_option maxRecDepth 4000 in
theorem c_X5_isCoat (l : Launch) {G : Gl} {w : WS} (x : Int32) : Ct l G yX5_isCoat cX5_isCoat 1 (some .boolean) 1 25 [.int x] w (some (.int (b2 (inb 0 3 x)))) w := by
  refine Ct.of (own := RX5) (by decide) rfl (Nat.le_of_ble_eq_true rfl) rfl (fun X => ?_)
  refine v_iload_n dX5_isCoat_0 0 rfl 1 rfl ?_
  refine v_i2l dX5_isCoat_1 2 rfl ?_
  refine v_lconst dX5_isCoat_2 0 rfl 3 rfl ?_
  refine v_ldc2 dX5_isCoat_3 3 qw_809 6 rfl ?_
  refine v_callS (c_X5_in l (x : Int32).toInt64 0 3 (z := (x : Int32).toInt) (lo := 0) (hi := 3) (i2l_i _) rfl rfl) kal_X5_in rfl dX5_isCoat_6 qw_743 qw_744 (by decide) [] (Nat.le_of_ble_eq_true rfl) rfl rfl 9 rfl ?_
  refine v_topi (b2 (inb 0 3 x)) rfl ?_
  exact v_zret dX5_isCoat_9 (g_nar _) (by rfl) (by rfl)
set_option maxHeartbeats 1000000 in
set_option maxRecDepth 4000 in
theorem c_X5_isKind (l : Launch) {G : Gl} {w : WS} (x : Int32) : Ct l G yX5_isKind cX5_isKind 1 (some .boolean) 1 25 [.int x] w (some (.int (b2 (inb 0 5 x)))) w := by
  refine Ct.of (own := RX5) (by decide) rfl (Nat.le_of_ble_eq_true rfl) rfl (fun X => ?_)
  refine v_iload_n dX5_isKind_0 0 rfl 1 rfl ?_
  refine v_i2l dX5_isKind_1 2 rfl ?_
  refine v_lconst dX5_isKind_2 0 rfl 3 rfl ?_
  refine v_ldc2 dX5_isKind_3 5 qw_795 6 rfl ?_
  refine v_callS (c_X5_in l (x : Int32).toInt64 0 5 (z := (x : Int32).toInt) (lo := 0) (hi := 5) (i2l_i _) rfl rfl) kal_X5_in rfl dX5_isKind_6 qw_743 qw_744 (by decide) [] (Nat.le_of_ble_eq_true rfl) rfl rfl 9 rfl ?_
  refine v_topi (b2 (inb 0 5 x)) rfl ?_
  exact v_zret dX5_isKind_9 (g_nar _) (by rfl) (by rfl)
set_option maxHeartbeats 1000000 in
set_option maxRecDepth 4000 in
theorem c_X5_isOne (l : Launch) {G : Gl} {w : WS} (x : Int32) : Ct l G yX5_isOne cX5_isOne 1 (some .boolean) 1 25 [.int x] w (some (.int (b2 (inb 0 3 x)))) w := by
  refine Ct.of (own := RX5) (by decide) rfl (Nat.le_of_ble_eq_true rfl) rfl (fun X => ?_)
  refine v_iload_n dX5_isOne_0 0 rfl 1 rfl ?_
  refine v_i2l dX5_isOne_1 2 rfl ?_
  refine v_lconst dX5_isOne_2 0 rfl 3 rfl ?_
  refine v_ldc2 dX5_isOne_3 3 qw_809 6 rfl ?_
  refine v_callS (c_X5_in l (x : Int32).toInt64 0 3 (z := (x : Int32).toInt) (lo := 0) (hi := 3) (i2l_i _) rfl rfl) kal_X5_in rfl dX5_isOne_6 qw_743 qw_744 (by decide) [] (Nat.le_of_ble_eq_true rfl) rfl rfl 9 rfl ?_
  refine v_topi (b2 (inb 0 3 x)) rfl ?_
  exact v_zret dX5_isOne_9 (g_nar _) (by rfl) (by rfl)
set_option maxHeartbeats 1000000 in
set_option maxRecDepth 4000 in
theorem c_X5_isAhead (l : Launch) {G : Gl} {w : WS} (x : Int32) : Ct l G yX5_isAhead cX5_isAhead 1 (some .boolean) 1 25 [.int x] w (some (.int (b2 (inb 0 120 x)))) w := by
  refine Ct.of (own := RX5) (by decide) rfl (Nat.le_of_ble_eq_true rfl) rfl (fun X => ?_)
  refine v_iload_n dX5_isAhead_0 0 rfl 1 rfl ?_
  refine v_i2l dX5_isAhead_1 2 rfl ?_
  refine v_lconst dX5_isAhead_2 0 rfl 3 rfl ?_
  refine v_ldc2 dX5_isAhead_3 120 qw_918 6 rfl ?_
  refine v_callS (c_X5_in l (x : Int32).toInt64 0 120 (z := (x : Int32).toInt) (lo := 0) (hi := 120) (i2l_i _) rfl rfl) kal_X5_in rfl dX5_isAhead_6 qw_743 qw_744 (by decide) [] (Nat.le_of_ble_eq_true rfl) rfl rfl 9 rfl ?_
  refine v_topi (b2 (inb 0 120 x)) rfl ?_
  exact v_zret dX5_isAhead_9 (g_nar _) (by rfl) (by rfl)
set_option maxHeartbeats 1000000 in
set_option maxRecDepth 4000 in
theorem c_X5_isSoon (l : Launch) {G : Gl} {w : WS} (x : Int32) : Ct l G yX5_isSoon cX5_isSoon 1 (some .boolean) 1 25 [.int x] w (some (.int (b2 (inb 1 60 x)))) w := by
  refine Ct.of (own := RX5) (by decide) rfl (Nat.le_of_ble_eq_true rfl) rfl (fun X => ?_)
  refine v_iload_n dX5_isSoon_0 0 rfl 1 rfl ?_
  refine v_i2l dX5_isSoon_1 2 rfl ?_
  refine v_lconst dX5_isSoon_2 1 rfl 3 rfl ?_
  refine v_ldc2 dX5_isSoon_3 60 qw_898 6 rfl ?_
  refine v_callS (c_X5_in l (x : Int32).toInt64 1 60 (z := (x : Int32).toInt) (lo := 1) (hi := 60) (i2l_i _) rfl rfl) kal_X5_in rfl dX5_isSoon_6 qw_743 qw_744 (by decide) [] (Nat.le_of_ble_eq_true rfl) rfl rfl 9 rfl ?_
  refine v_topi (b2 (inb 1 60 x)) rfl ?_
  exact v_zret dX5_isSoon_9 (g_nar _) (by rfl) (by rfl)
set_option maxHeartbeats 1000000 in
set_option maxRecDepth 4000 in
theorem c_X5_isLetter (l : Launch) {G : Gl} {w : WS} (x : Int32) : Ct l G yX5_isLetter cX5_isLetter 1 (some .boolean) 1 25 [.int x] w (some (.int (b2 (inb 97 122 x)))) w := by
  refine Ct.of (own := RX5) (by decide) rfl (Nat.le_of_ble_eq_true rfl) rfl (fun X => ?_)
  refine v_iload_n dX5_isLetter_0 0 rfl 1 rfl ?_
  refine v_i2l dX5_isLetter_1 2 rfl ?_
  refine v_ldc2 dX5_isLetter_2 97 qw_1010 5 rfl ?_
  refine v_ldc2 dX5_isLetter_5 122 qw_1011 8 rfl ?_
  refine v_callS (c_X5_in l (x : Int32).toInt64 97 122 (z := (x : Int32).toInt) (lo := 97) (hi := 122) (i2l_i _) rfl rfl) kal_X5_in rfl dX5_isLetter_8 qw_743 qw_744 (by decide) [] (Nat.le_of_ble_eq_true rfl) rfl rfl 11 rfl ?_
  refine v_topi (b2 (inb 97 122 x)) rfl ?_
  exact v_zret dX5_isLetter_11 (g_nar _) (by rfl) (by rfl)
set_option maxHeartbeats 1000000 in
set_option maxRecDepth 4000 in
theorem c_X5_isDigit (l : Launch) {G : Gl} {w : WS} (x : Int32) : Ct l G yX5_isDigit cX5_isDigit 1 (some .boolean) 1 25 [.int x] w (some (.int (b2 (inb 48 57 x)))) w := by
  refine Ct.of (own := RX5) (by decide) rfl (Nat.le_of_ble_eq_true rfl) rfl (fun X => ?_)
  refine v_iload_n dX5_isDigit_0 0 rfl 1 rfl ?_
  refine v_i2l dX5_isDigit_1 2 rfl ?_
  refine v_ldc2 dX5_isDigit_2 48 qw_1015 5 rfl ?_
  refine v_ldc2 dX5_isDigit_5 57 qw_1016 8 rfl ?_
  refine v_callS (c_X5_in l (x : Int32).toInt64 48 57 (z := (x : Int32).toInt) (lo := 48) (hi := 57) (i2l_i _) rfl rfl) kal_X5_in rfl dX5_isDigit_8 qw_743 qw_744 (by decide) [] (Nat.le_of_ble_eq_true rfl) rfl rfl 11 rfl ?_
  refine v_topi (b2 (inb 48 57 x)) rfl ?_
  exact v_zret dX5_isDigit_11 (g_nar _) (by rfl) (by rfl)
set_option maxHeartbeats 1000000 in
set_option maxRecDepth 4000 in
theorem c_X5_isWeather (l : Launch) {G : Gl} {w : WS} (v : Int64) : Ct l G yX5_isWeather cX5_isWeather 2 (some .boolean) 1 25 [.long v] w (some (.int (b2 (inz (-20) 20 v.toInt)))) w := by
  refine Ct.of (own := RX5) (by decide) rfl (Nat.le_of_ble_eq_true rfl) rfl (fun X => ?_)
  refine v_lload_n dX5_isWeather_0 0 rfl 1 rfl ?_
  refine v_ldc2 dX5_isWeather_1 (-20) qw_749 4 rfl ?_
  refine v_ldc2 dX5_isWeather_4 20 qw_750 7 rfl ?_
  refine v_callS (c_X5_in l v (-20) 20 (z := (v).toInt) (lo := (-20)) (hi := 20) rfl rfl rfl) kal_X5_in rfl dX5_isWeather_7 qw_743 qw_744 (by decide) [] (Nat.le_of_ble_eq_true rfl) rfl rfl 10 rfl ?_
  refine v_topi (b2 (inz (-20) 20 (v).toInt)) rfl ?_
  exact v_zret dX5_isWeather_10 (g_nar _) (by rfl) (by rfl)
set_option maxHeartbeats 1000000 in
set_option maxRecDepth 4000 in
theorem c_X5_spot (l : Launch) {G : Gl} {w : WS} (a b : Nat) : Ct l G yX5_spot cX5_spot 2 (some .int) 0 0 [.int (nI a), .int (nI b)] w (some (.int (nI (38 + 14 * a + b)))) w := by
  refine Ct.of (own := RX5) (by decide) rfl (Nat.le_of_ble_eq_true rfl) rfl (fun X => ?_)
  refine v_bipush dX5_spot_0 38 rfl 2 rfl ?_
  refine v_bipush dX5_spot_2 14 rfl 4 rfl ?_
  refine v_iload_n dX5_spot_4 0 rfl 5 rfl ?_
  refine n_imul dX5_spot_5 14 a rfl rfl 6 rfl ?_
  refine n_iadd dX5_spot_6 38 (14 * a) rfl rfl 7 rfl ?_
  refine v_iload_n dX5_spot_7 1 rfl 8 rfl ?_
  refine n_iadd dX5_spot_8 (38 + (14 * a)) b rfl rfl 9 rfl ?_
  exact v_iret dX5_spot_9 (by rfl) (by rfl)
set_option maxHeartbeats 1000000 in
set_option maxRecDepth 4000 in
theorem c_X5_coatSpot (l : Launch) {G : Gl} {w : WS} (a b : Nat) : Ct l G yX5_coatSpot cX5_coatSpot 2 (some .int) 0 0 [.int (nI a), .int (nI b)] w (some (.int (nI (150 + 12 * a + b)))) w := by
  refine Ct.of (own := RX5) (by decide) rfl (Nat.le_of_ble_eq_true rfl) rfl (fun X => ?_)
  refine v_sipush dX5_coatSpot_0 150 rfl 3 rfl ?_
  refine v_bipush dX5_coatSpot_3 12 rfl 5 rfl ?_
  refine v_iload_n dX5_coatSpot_5 0 rfl 6 rfl ?_
  refine n_imul dX5_coatSpot_6 12 a rfl rfl 7 rfl ?_
  refine n_iadd dX5_coatSpot_7 150 (12 * a) rfl rfl 8 rfl ?_
  refine v_iload_n dX5_coatSpot_8 1 rfl 9 rfl ?_
  refine n_iadd dX5_coatSpot_9 (150 + (12 * a)) b rfl rfl 10 rfl ?_
  exact v_iret dX5_coatSpot_10 (by rfl) (by rfl)
set_option maxHeartbeats 1000000 in
set_option maxRecDepth 4000 in
theorem c_X5_heldTo (l : Launch) {G : Gl} {w : WS} (x y : Int32) : Ct l G yX5_heldTo cX5_heldTo 2 (some .int) 0 0 [.int x, .int y] w (some (.int (mn x y))) w := by
  refine Ct.of (own := RX5) (by decide) rfl (Nat.le_of_ble_eq_true rfl) rfl (fun X => ?_)
  refine v_iload_n dX5_heldTo_0 0 rfl 1 rfl ?_
  refine v_iload_n dX5_heldTo_1 1 rfl 2 rfl ?_
  refine v_icmp_le dX5_heldTo_2 9 (by decide) 5 rfl (fun c1 => ?_) (fun c1 => ?_)
  · skip
    refine v_iload_n dX5_heldTo_9 0 rfl 10 rfl ?_
    exact v_iret dX5_heldTo_10 (by simp [mn, c1, Int32.not_lt.mpr c1]) (by rfl)
  · skip
    refine v_iload_n dX5_heldTo_5 1 rfl 6 rfl ?_
    refine v_goto dX5_heldTo_6 10 (by decide) ?_
    exact v_iret dX5_heldTo_10 (by simp [mn, c1, Int32.not_le.mp c1]) (by rfl)
set_option maxHeartbeats 1000000 in
set_option maxRecDepth 4000 in
theorem c_X5_isUnder (l : Launch) {G : Gl} {w : WS} (k a : Int32) : Ct l G yX5_isUnder cX5_isUnder 2 (some .boolean) 0 0 [.int k, .int a] w (some (.int (b2 (mUnder k a)))) w := by
  refine Ct.of (own := RX5) (by decide) rfl (Nat.le_of_ble_eq_true rfl) rfl (fun X => ?_)
  refine v_iload_n dX5_isUnder_0 1 rfl 1 rfl ?_
  refine v_if_eq dX5_isUnder_1 29 (by decide) 4 rfl (fun c1 => ?_) (fun c1 => ?_)
  · skip
    refine v_iconst dX5_isUnder_29 1 rfl 30 rfl ?_
    refine v_goto dX5_isUnder_30 34 (by decide) ?_
    exact v_zret dX5_isUnder_34 rfl (by first | (simp [mUnder, b2, c1]; done) | simp_all [mUnder, b2]) (by rfl)
  · skip
    refine v_iload_n dX5_isUnder_4 0 rfl 5 rfl ?_
    refine v_iload_n dX5_isUnder_5 1 rfl 6 rfl ?_
    refine v_icmp_eq dX5_isUnder_6 29 (by decide) 9 rfl (fun c2 => ?_) (fun c2 => ?_)
    · skip
      refine v_iconst dX5_isUnder_29 1 rfl 30 rfl ?_
      refine v_goto dX5_isUnder_30 34 (by decide) ?_
      exact v_zret dX5_isUnder_34 rfl (by first | (simp [mUnder, b2, c1, Ne.symm c1, c2]; done) | simp_all [mUnder, b2]) (by rfl)
    · skip
      refine v_iload_n dX5_isUnder_9 0 rfl 10 rfl ?_
      refine v_iconst dX5_isUnder_10 4 rfl 11 rfl ?_
      refine v_icmp_ne dX5_isUnder_11 19 (by decide) 14 rfl (fun c3 => ?_) (fun c3 => ?_)
      · skip
        refine v_iload_n dX5_isUnder_19 0 rfl 20 rfl ?_
        refine v_iconst dX5_isUnder_20 5 rfl 21 rfl ?_
        refine v_icmp_ne dX5_isUnder_21 33 (by decide) 24 rfl (fun c4 => ?_) (fun c4 => ?_)
        · skip
          refine v_iconst dX5_isUnder_33 0 rfl 34 rfl ?_
          exact v_zret dX5_isUnder_34 rfl (by first | (simp [mUnder, b2, c1, Ne.symm c1, c2, Ne.symm c2, c3, Ne.symm c3, c4, Ne.symm c4]; done) | simp_all [mUnder, b2]) (by rfl)
        · skip
          refine v_iload_n dX5_isUnder_24 1 rfl 25 rfl ?_
          refine v_iconst dX5_isUnder_25 2 rfl 26 rfl ?_
          refine v_icmp_ne dX5_isUnder_26 33 (by decide) 29 rfl (fun c5 => ?_) (fun c5 => ?_)
          · skip
            refine v_iconst dX5_isUnder_33 0 rfl 34 rfl ?_
            exact v_zret dX5_isUnder_34 rfl (by first | (simp [mUnder, b2, c1, Ne.symm c1, c2, Ne.symm c2, c3, Ne.symm c3, c4, c5, Ne.symm c5]; done) | simp_all [mUnder, b2]) (by rfl)
          · skip
            refine v_iconst dX5_isUnder_29 1 rfl 30 rfl ?_
            refine v_goto dX5_isUnder_30 34 (by decide) ?_
            exact v_zret dX5_isUnder_34 rfl (by first | (simp [mUnder, b2, c1, Ne.symm c1, c2, Ne.symm c2, c3, Ne.symm c3, c4, c5]; done) | simp_all [mUnder, b2]) (by rfl)
      · skip
        refine v_iload_n dX5_isUnder_14 1 rfl 15 rfl ?_
        refine v_iconst dX5_isUnder_15 1 rfl 16 rfl ?_
        refine v_icmp_eq dX5_isUnder_16 29 (by decide) 19 rfl (fun c6 => ?_) (fun c6 => ?_)
        · skip
          refine v_iconst dX5_isUnder_29 1 rfl 30 rfl ?_
          refine v_goto dX5_isUnder_30 34 (by decide) ?_
          exact v_zret dX5_isUnder_34 rfl (by first | (simp [mUnder, b2, c1, Ne.symm c1, c2, Ne.symm c2, c3, c6]; done) | simp_all [mUnder, b2]) (by rfl)
        · skip
          refine v_iload_n dX5_isUnder_19 0 rfl 20 rfl ?_
          refine v_iconst dX5_isUnder_20 5 rfl 21 rfl ?_
          refine v_icmp_ne dX5_isUnder_21 33 (by decide) 24 rfl (fun c7 => ?_) (fun c7 => ?_)
          · skip
            refine v_iconst dX5_isUnder_33 0 rfl 34 rfl ?_
            exact v_zret dX5_isUnder_34 rfl (by first | (simp [mUnder, b2, c1, Ne.symm c1, c2, Ne.symm c2, c3, c6, Ne.symm c6, c7, Ne.symm c7]; done) | simp_all [mUnder, b2]) (by rfl)
          · skip
            refine v_iload_n dX5_isUnder_24 1 rfl 25 rfl ?_
            refine v_iconst dX5_isUnder_25 2 rfl 26 rfl ?_
            refine v_icmp_ne dX5_isUnder_26 33 (by decide) 29 rfl (fun c8 => ?_) (fun c8 => ?_)
            · skip
              refine v_iconst dX5_isUnder_33 0 rfl 34 rfl ?_
              exact v_zret dX5_isUnder_34 rfl (by first | (simp [mUnder, b2, c1, Ne.symm c1, c2, Ne.symm c2, c3, c6, Ne.symm c6, c7, c8, Ne.symm c8]; done) | simp_all [mUnder, b2]) (by rfl)
            · skip
              refine v_iconst dX5_isUnder_29 1 rfl 30 rfl ?_
              refine v_goto dX5_isUnder_30 34 (by decide) ?_
              exact v_zret dX5_isUnder_34 rfl (by first | (simp [mUnder, b2, c1, Ne.symm c1, c2, Ne.symm c2, c3, c6, Ne.symm c6, c7, c8]; done) | simp_all [mUnder, b2]) (by rfl)
theorem arrV_ext {c : ClassId} {N : Nat} {f g : Nat → Value} (h : ∀ j, j < N → f j = g j) : arrV c N f = arrV c N g := by
  unfold arrV
  congr 1
  congr 1
  funext j
  exact h j.val j.isLt
theorem wd_ext {G : Gl} {w w2 : WS} {H : Heap} {k N : Nat} {c : ClassId} {f g : Nat → Int32} (hk : k < 104) (h1 : cel G w k = ai c N f) (h2 : ∀ j, j < 104 → cel G w2 j = if j = k then ai c N g else cel G w j) (he : ∀ j, j < N → f j = g j) (hw : Wd G w H) : Wd G w2 H := by
  intro i q hq
  obtain ⟨hi, rfl⟩ := wl_inv hq
  have hh := hw i _ (wl_at hi rfl)
  rw [h2 i hi]
  by_cases hik : i = k
  · subst hik
    rw [if_pos rfl]
    rw [h1] at hh
    have hh : H[ga G i]? = some (vp_cell c (N, .inl f)) := hh
    show H[ga G i]? = some (vp_cell c (N, .inl g))
    rw [hh]
    rw [vp_cell_i, vp_cell_i]
    congr 1
    exact arrV_ext (fun j hj => by rw [he j hj])
  · rw [if_neg hik]
    exact hh
theorem v_ext {l : Launch} {X : VX} {f n : Nat} {cc : ByteArray} {nL : Nat} {own : String} {ret : Option FieldType} {G : Gl} {ov : Option Value} {wF w w2 : WS} {pc : Nat} {ls : List (Nat × Value)} {st : List Value} (h : ∀ H, Wd G w H → Wd G w2 H) (hk : V l X f n cc nL own ret G ov wF w2 pc ls st) : V l X f n cc nL own ret G ov wF w pc ls st := by
  obtain ⟨p, e, s, m, args, below, meth, c⟩ := X
  intro hX H locs la hw hS hl
  exact hk hX H locs la (h H hw) hS hl
theorem x_ms {G : Gl} {H : Heap} {K : CS} {ms : Nat → Int32} {mk : Nat → Int32} {mo : Nat → Int32} {ma : Nat → Int32} {mf : Nat → Int32} {ik : Int32} {mt : Nat → Int32} {td : Nat} {fr : Nat} {tt : Nat} {vl : Int32} {wr : Int32} {mb : Nat → Int32} {mz : Nat → Int32} {nu : Nat → Int64} {mv : Nat → Int64} {ms2 : Nat → Int32} (he : ∀ j, j < 198 → ms j = ms2 j) : Wd G (K, (ms, mk, mo, ma, mf, ik, mt, td, fr, tt, vl, wr, mb, mz, nu, mv)) H → Wd G (K, (ms2, mk, mo, ma, mf, ik, mt, td, fr, tt, vl, wr, mb, mz, nu, mv)) H := wd_ext (by decide) (cel_ms G _) u_ms he
theorem x_mk {G : Gl} {H : Heap} {K : CS} {ms : Nat → Int32} {mk : Nat → Int32} {mo : Nat → Int32} {ma : Nat → Int32} {mf : Nat → Int32} {ik : Int32} {mt : Nat → Int32} {td : Nat} {fr : Nat} {tt : Nat} {vl : Int32} {wr : Int32} {mb : Nat → Int32} {mz : Nat → Int32} {nu : Nat → Int64} {mv : Nat → Int64} {mk2 : Nat → Int32} (he : ∀ j, j < 198 → mk j = mk2 j) : Wd G (K, (ms, mk, mo, ma, mf, ik, mt, td, fr, tt, vl, wr, mb, mz, nu, mv)) H → Wd G (K, (ms, mk2, mo, ma, mf, ik, mt, td, fr, tt, vl, wr, mb, mz, nu, mv)) H := wd_ext (by decide) (cel_mk G _) u_mk he
theorem x_mo {G : Gl} {H : Heap} {K : CS} {ms : Nat → Int32} {mk : Nat → Int32} {mo : Nat → Int32} {ma : Nat → Int32} {mf : Nat → Int32} {ik : Int32} {mt : Nat → Int32} {td : Nat} {fr : Nat} {tt : Nat} {vl : Int32} {wr : Int32} {mb : Nat → Int32} {mz : Nat → Int32} {nu : Nat → Int64} {mv : Nat → Int64} {mo2 : Nat → Int32} (he : ∀ j, j < 198 → mo j = mo2 j) : Wd G (K, (ms, mk, mo, ma, mf, ik, mt, td, fr, tt, vl, wr, mb, mz, nu, mv)) H → Wd G (K, (ms, mk, mo2, ma, mf, ik, mt, td, fr, tt, vl, wr, mb, mz, nu, mv)) H := wd_ext (by decide) (cel_mo G _) u_mot he
theorem x_ma {G : Gl} {H : Heap} {K : CS} {ms : Nat → Int32} {mk : Nat → Int32} {mo : Nat → Int32} {ma : Nat → Int32} {mf : Nat → Int32} {ik : Int32} {mt : Nat → Int32} {td : Nat} {fr : Nat} {tt : Nat} {vl : Int32} {wr : Int32} {mb : Nat → Int32} {mz : Nat → Int32} {nu : Nat → Int64} {mv : Nat → Int64} {ma2 : Nat → Int32} (he : ∀ j, j < 198 → ma j = ma2 j) : Wd G (K, (ms, mk, mo, ma, mf, ik, mt, td, fr, tt, vl, wr, mb, mz, nu, mv)) H → Wd G (K, (ms, mk, mo, ma2, mf, ik, mt, td, fr, tt, vl, wr, mb, mz, nu, mv)) H := wd_ext (by decide) (cel_ma G _) u_ma he
set_option maxHeartbeats 1000000 in
set_option maxRecDepth 4000 in
theorem c_X5_finds (l : Launch) {G : Gl} {K : CS} {ms : Nat → Int32} {mk : Nat → Int32} {mo : Nat → Int32} {ma : Nat → Int32} {mf : Nat → Int32} {ik : Int32} {mt : Nat → Int32} {td : Nat} {fr : Nat} {tt : Nat} {vl : Int32} {wr : Int32} {mb : Nat → Int32} {mz : Nat → Int32} {nu : Nat → Int64} {mv : Nat → Int64} {k : Nat} (hk : k < 7) (x : Int32) (hx : -1000000001 - x = nI k) : Ct l G yX5_finds cX5_finds 2 (some .int) 0 0 [.ref (ga G (93)), .int x] (K, (ms, mk, mo, ma, mf, ik, mt, td, fr, tt, vl, wr, mb, mz, nu, mv)) (some (.int x)) (K, (ms, mk, mo, ma, upd mf k (mf k + 1), ik, mt, td, fr, tt, vl, wr, mb, mz, nu, mv)) := by
  refine Ct.of (own := RX5) (by decide) rfl (Nat.le_of_ble_eq_true rfl) rfl (fun X => ?_)
  refine v_aload_n dX5_finds_0 0 rfl 1 rfl ?_
  refine v_get (i := 4) (ci := 5) (T := TX5) (C := RX5) (N := 16) (v := .ref (ga G (98))) dX5_finds_1 inB5 rfl qw_690 rfl (by decide) (by decide) (cel_mod G _) rfl 4 rfl ?_
  refine v_ldc dX5_finds_4 (-1000000001) qw_755 6 rfl ?_
  refine v_iload_n dX5_finds_6 1 rfl 7 rfl ?_
  refine v_isub dX5_finds_7 8 rfl ?_
  refine v_topi (nI k) hx ?_
  refine v_dup2 dX5_finds_8 rfl rfl 9 rfl ?_
  refine v_iald (a := mf) dX5_finds_9 (by decide) (cel_mf G _) k rfl (by omega) (by decide) 10 rfl ?_
  refine v_iconst dX5_finds_10 1 rfl 11 rfl ?_
  refine v_iadd dX5_finds_11 12 rfl ?_
  refine v_iast (w2 := (K, (ms, mk, mo, ma, upd mf k ((mf k) + 1), ik, mt, td, fr, tt, vl, wr, mb, mz, nu, mv))) dX5_finds_12 (by decide) (cel_mf G _) k rfl (by omega) (by decide) u_mf 13 rfl ?_
  refine v_iload_n dX5_finds_13 1 rfl 14 rfl ?_
  exact v_iret dX5_finds_14 (by rfl) (by rfl)
set_option maxHeartbeats 1000000 in
set_option maxRecDepth 4000 in
theorem lp_X5_saves (l : Launch) {G : Gl} {X : VX} {ov : Option Value} {wF : WS} {K : CS} {ms : Nat → Int32} {mk : Nat → Int32} {mo : Nat → Int32} {ma : Nat → Int32} {mf : Nat → Int32} {ik : Int32} {mt : Nat → Int32} {td : Nat} {fr : Nat} {tt : Nat} {vl : Int32} {wr : Int32} {mb : Nat → Int32} {mz : Nat → Int32} {nu : Nat → Int64} {mv : Nat → Int64}  : ∀ n i : Nat, i + n = 198 → V l X 0 0 cX5_saves 2 RX5 none G ov wF (K, (ms, mk, (fa_fill ms mo 198), ma, mf, ik, mt, td, fr, tt, vl, wr, mb, mz, nu, mv)) 27 [(1, .int (nI 198)), (0, .ref (ga G (93)))] [] → V l X 0 0 cX5_saves 2 RX5 none G ov wF (K, (ms, mk, (fa_fill ms mo i), ma, mf, ik, mt, td, fr, tt, vl, wr, mb, mz, nu, mv)) 2 [(1, .int (nI i)), (0, .ref (ga G (93)))] [] := by
  intro n
  induction n with
  | zero =>
    intro i hin hk
    obtain rfl : 198 = i := by omega
    refine v_iload_n dX5_saves_2 0 rfl 3 rfl ?_
    refine v_sipush dX5_saves_3 198 rfl 6 rfl ?_
    refine n_icmp_ge dX5_saves_6 198 198 rfl rfl (by omega) (by omega) 27 (by decide) 9 rfl (fun c1 => ?_) (fun c1 => absurd c1 (by omega))
    exact hk
  | succ n ih =>
    intro i hin hk
    refine v_iload_n dX5_saves_2 0 rfl 3 rfl ?_
    refine v_sipush dX5_saves_3 198 rfl 6 rfl ?_
    refine n_icmp_ge dX5_saves_6 i 198 rfl rfl (by omega) (by omega) 27 (by decide) 9 rfl (fun c1 => absurd c1 (by omega)) (fun c1 => ?_)
    refine v_aload_n dX5_saves_9 1 rfl 10 rfl ?_
    refine v_get (i := 2) (ci := 5) (T := TX5) (C := RX5) (N := 16) (v := .ref (ga G (96))) dX5_saves_10 inB5 rfl qw_688 rfl (by decide) (by decide) (cel_mod G _) rfl 13 rfl ?_
    refine v_iload_n dX5_saves_13 0 rfl 14 rfl ?_
    refine v_aload_n dX5_saves_14 1 rfl 15 rfl ?_
    refine v_get (i := 0) (ci := 5) (T := TX5) (C := RX5) (N := 16) (v := .ref (ga G (94))) dX5_saves_15 inB5 rfl qw_686 rfl (by decide) (by decide) (cel_mod G _) rfl 18 rfl ?_
    refine v_iload_n dX5_saves_18 0 rfl 19 rfl ?_
    refine v_iald (a := ms) dX5_saves_19 (by decide) (cel_ms G _) i rfl (by omega) (by decide) 20 rfl ?_
    refine v_iast (w2 := (K, (ms, mk, upd (fa_fill ms mo i) i (ms i), ma, mf, ik, mt, td, fr, tt, vl, wr, mb, mz, nu, mv))) dX5_saves_20 (by decide) (cel_mo G _) i rfl (by omega) (by decide) u_mot 21 rfl ?_
    refine v_iinc dX5_saves_21 0 rfl (nI (i + 1)) (nI_1 _) (by decide) [(1, .int (nI (i + 1))), (0, .ref (ga G (93)))] rfl 24 rfl ?_
    refine v_goto dX5_saves_24 2 (by decide) ?_
    have e91 : upd (fa_fill ms mo i) i (ms i) = (fa_fill ms mo (i + 1)) := fa_upd rfl
    refine v_w (w2 := (K, (ms, mk, (fa_fill ms mo (i + 1)), ma, mf, ik, mt, td, fr, tt, vl, wr, mb, mz, nu, mv))) (by rw [e91]) ?_
    exact ih (i + 1) (by omega) hk
set_option maxHeartbeats 1000000 in
set_option maxRecDepth 4000 in
theorem c_X5_saves (l : Launch) {G : Gl} {K : CS} {ms : Nat → Int32} {mk : Nat → Int32} {mo : Nat → Int32} {ma : Nat → Int32} {mf : Nat → Int32} {ik : Int32} {mt : Nat → Int32} {td : Nat} {fr : Nat} {tt : Nat} {vl : Int32} {wr : Int32} {mb : Nat → Int32} {mz : Nat → Int32} {nu : Nat → Int64} {mv : Nat → Int64}  : Ct l G yX5_saves cX5_saves 2 none 0 0 [.ref (ga G (93))] (K, (ms, mk, mo, ma, mf, ik, mt, td, fr, tt, vl, wr, mb, mz, nu, mv)) (none) (K, (ms, mk, ms, ma, mf, ik, mt, td, fr, tt, vl, wr, mb, mz, nu, mv)) := by
  refine Ct.of (own := RX5) (by decide) rfl (Nat.le_of_ble_eq_true rfl) rfl (fun X => ?_)
  refine v_iconst dX5_saves_0 0 rfl 1 rfl ?_
  refine v_istore_n dX5_saves_1 1 rfl (by decide) [(1, .int 0), (0, .ref (ga G (93)))] rfl 2 rfl ?_
  refine v_w (w2 := (K, (ms, mk, (fa_fill ms mo 0), ma, mf, ik, mt, td, fr, tt, vl, wr, mb, mz, nu, mv))) (by rw [fa_fill_0]) ?_
  refine lp_X5_saves l  198 0 (by omega) ?_
  refine v_ext (fun H hw => x_mo (mo := fa_fill ms mo 198) (mo2 := ms) (fun j hj => fa_fill_in hj) hw) ?_
  exact v_vret dX5_saves_27 (by rfl) (by rfl)
set_option maxHeartbeats 1000000 in
set_option maxRecDepth 4000 in
theorem lp_X5_putsBack (l : Launch) {G : Gl} {X : VX} {ov : Option Value} {wF : WS} {K : CS} {ms : Nat → Int32} {mk : Nat → Int32} {mo : Nat → Int32} {ma : Nat → Int32} {mf : Nat → Int32} {ik : Int32} {mt : Nat → Int32} {td : Nat} {fr : Nat} {tt : Nat} {vl : Int32} {wr : Int32} {mb : Nat → Int32} {mz : Nat → Int32} {nu : Nat → Int64} {mv : Nat → Int64}  : ∀ n i : Nat, i + n = 198 → V l X 0 0 cX5_putsBack 2 RX5 none G ov wF (K, ((fa_fill mo ms 198), mk, mo, ma, mf, ik, mt, td, fr, tt, vl, wr, mb, mz, nu, mv)) 27 [(1, .int (nI 198)), (0, .ref (ga G (93)))] [] → V l X 0 0 cX5_putsBack 2 RX5 none G ov wF (K, ((fa_fill mo ms i), mk, mo, ma, mf, ik, mt, td, fr, tt, vl, wr, mb, mz, nu, mv)) 2 [(1, .int (nI i)), (0, .ref (ga G (93)))] [] := by
  intro n
  induction n with
  | zero =>
    intro i hin hk
    obtain rfl : 198 = i := by omega
    refine v_iload_n dX5_putsBack_2 0 rfl 3 rfl ?_
    refine v_sipush dX5_putsBack_3 198 rfl 6 rfl ?_
    refine n_icmp_ge dX5_putsBack_6 198 198 rfl rfl (by omega) (by omega) 27 (by decide) 9 rfl (fun c1 => ?_) (fun c1 => absurd c1 (by omega))
    exact hk
  | succ n ih =>
    intro i hin hk
    refine v_iload_n dX5_putsBack_2 0 rfl 3 rfl ?_
    refine v_sipush dX5_putsBack_3 198 rfl 6 rfl ?_
    refine n_icmp_ge dX5_putsBack_6 i 198 rfl rfl (by omega) (by omega) 27 (by decide) 9 rfl (fun c1 => absurd c1 (by omega)) (fun c1 => ?_)
    refine v_aload_n dX5_putsBack_9 1 rfl 10 rfl ?_
    refine v_get (i := 0) (ci := 5) (T := TX5) (C := RX5) (N := 16) (v := .ref (ga G (94))) dX5_putsBack_10 inB5 rfl qw_686 rfl (by decide) (by decide) (cel_mod G _) rfl 13 rfl ?_
    refine v_iload_n dX5_putsBack_13 0 rfl 14 rfl ?_
    refine v_aload_n dX5_putsBack_14 1 rfl 15 rfl ?_
    refine v_get (i := 2) (ci := 5) (T := TX5) (C := RX5) (N := 16) (v := .ref (ga G (96))) dX5_putsBack_15 inB5 rfl qw_688 rfl (by decide) (by decide) (cel_mod G _) rfl 18 rfl ?_
    refine v_iload_n dX5_putsBack_18 0 rfl 19 rfl ?_
    refine v_iald (a := mo) dX5_putsBack_19 (by decide) (cel_mo G _) i rfl (by omega) (by decide) 20 rfl ?_
    refine v_iast (w2 := (K, (upd (fa_fill mo ms i) i (mo i), mk, mo, ma, mf, ik, mt, td, fr, tt, vl, wr, mb, mz, nu, mv))) dX5_putsBack_20 (by decide) (cel_ms G _) i rfl (by omega) (by decide) u_ms 21 rfl ?_
    refine v_iinc dX5_putsBack_21 0 rfl (nI (i + 1)) (nI_1 _) (by decide) [(1, .int (nI (i + 1))), (0, .ref (ga G (93)))] rfl 24 rfl ?_
    refine v_goto dX5_putsBack_24 2 (by decide) ?_
    have e91 : upd (fa_fill mo ms i) i (mo i) = (fa_fill mo ms (i + 1)) := fa_upd rfl
    refine v_w (w2 := (K, ((fa_fill mo ms (i + 1)), mk, mo, ma, mf, ik, mt, td, fr, tt, vl, wr, mb, mz, nu, mv))) (by rw [e91]) ?_
    exact ih (i + 1) (by omega) hk
set_option maxHeartbeats 1000000 in
set_option maxRecDepth 4000 in
theorem c_X5_putsBack (l : Launch) {G : Gl} {K : CS} {ms : Nat → Int32} {mk : Nat → Int32} {mo : Nat → Int32} {ma : Nat → Int32} {mf : Nat → Int32} {ik : Int32} {mt : Nat → Int32} {td : Nat} {fr : Nat} {tt : Nat} {vl : Int32} {wr : Int32} {mb : Nat → Int32} {mz : Nat → Int32} {nu : Nat → Int64} {mv : Nat → Int64}  : Ct l G yX5_putsBack cX5_putsBack 2 none 0 0 [.ref (ga G (93))] (K, (ms, mk, mo, ma, mf, ik, mt, td, fr, tt, vl, wr, mb, mz, nu, mv)) (none) (K, (mo, mk, mo, ma, mf, ik, mt, td, fr, tt, vl, wr, mb, mz, nu, mv)) := by
  refine Ct.of (own := RX5) (by decide) rfl (Nat.le_of_ble_eq_true rfl) rfl (fun X => ?_)
  refine v_iconst dX5_putsBack_0 0 rfl 1 rfl ?_
  refine v_istore_n dX5_putsBack_1 1 rfl (by decide) [(1, .int 0), (0, .ref (ga G (93)))] rfl 2 rfl ?_
  refine v_w (w2 := (K, ((fa_fill mo ms 0), mk, mo, ma, mf, ik, mt, td, fr, tt, vl, wr, mb, mz, nu, mv))) (by rw [fa_fill_0]) ?_
  refine lp_X5_putsBack l  198 0 (by omega) ?_
  refine v_ext (fun H hw => x_ms (ms := fa_fill mo ms 198) (ms2 := mo) (fun j hj => fa_fill_in hj) hw) ?_
  exact v_vret dX5_putsBack_27 (by rfl) (by rfl)
set_option maxHeartbeats 1000000 in
set_option maxRecDepth 4000 in
theorem lp_X5_laysAside (l : Launch) {G : Gl} {X : VX} {ov : Option Value} {wF : WS} {K : CS} {ms : Nat → Int32} {mk : Nat → Int32} {mo : Nat → Int32} {ma : Nat → Int32} {mf : Nat → Int32} {ik : Int32} {mt : Nat → Int32} {td : Nat} {fr : Nat} {tt : Nat} {vl : Int32} {wr : Int32} {mb : Nat → Int32} {mz : Nat → Int32} {nu : Nat → Int64} {mv : Nat → Int64}  : ∀ n i : Nat, i + n = 198 → V l X 0 0 cX5_laysAside 2 RX5 none G ov wF (K, (ms, mk, mo, (fa_fill ms ma 198), mf, ik, mt, td, fr, tt, vl, wr, mb, mz, nu, mv)) 27 [(1, .int (nI 198)), (0, .ref (ga G (93)))] [] → V l X 0 0 cX5_laysAside 2 RX5 none G ov wF (K, (ms, mk, mo, (fa_fill ms ma i), mf, ik, mt, td, fr, tt, vl, wr, mb, mz, nu, mv)) 2 [(1, .int (nI i)), (0, .ref (ga G (93)))] [] := by
  intro n
  induction n with
  | zero =>
    intro i hin hk
    obtain rfl : 198 = i := by omega
    refine v_iload_n dX5_laysAside_2 0 rfl 3 rfl ?_
    refine v_sipush dX5_laysAside_3 198 rfl 6 rfl ?_
    refine n_icmp_ge dX5_laysAside_6 198 198 rfl rfl (by omega) (by omega) 27 (by decide) 9 rfl (fun c1 => ?_) (fun c1 => absurd c1 (by omega))
    exact hk
  | succ n ih =>
    intro i hin hk
    refine v_iload_n dX5_laysAside_2 0 rfl 3 rfl ?_
    refine v_sipush dX5_laysAside_3 198 rfl 6 rfl ?_
    refine n_icmp_ge dX5_laysAside_6 i 198 rfl rfl (by omega) (by omega) 27 (by decide) 9 rfl (fun c1 => absurd c1 (by omega)) (fun c1 => ?_)
    refine v_aload_n dX5_laysAside_9 1 rfl 10 rfl ?_
    refine v_get (i := 3) (ci := 5) (T := TX5) (C := RX5) (N := 16) (v := .ref (ga G (97))) dX5_laysAside_10 inB5 rfl qw_689 rfl (by decide) (by decide) (cel_mod G _) rfl 13 rfl ?_
    refine v_iload_n dX5_laysAside_13 0 rfl 14 rfl ?_
    refine v_aload_n dX5_laysAside_14 1 rfl 15 rfl ?_
    refine v_get (i := 0) (ci := 5) (T := TX5) (C := RX5) (N := 16) (v := .ref (ga G (94))) dX5_laysAside_15 inB5 rfl qw_686 rfl (by decide) (by decide) (cel_mod G _) rfl 18 rfl ?_
    refine v_iload_n dX5_laysAside_18 0 rfl 19 rfl ?_
    refine v_iald (a := ms) dX5_laysAside_19 (by decide) (cel_ms G _) i rfl (by omega) (by decide) 20 rfl ?_
    refine v_iast (w2 := (K, (ms, mk, mo, upd (fa_fill ms ma i) i (ms i), mf, ik, mt, td, fr, tt, vl, wr, mb, mz, nu, mv))) dX5_laysAside_20 (by decide) (cel_ma G _) i rfl (by omega) (by decide) u_ma 21 rfl ?_
    refine v_iinc dX5_laysAside_21 0 rfl (nI (i + 1)) (nI_1 _) (by decide) [(1, .int (nI (i + 1))), (0, .ref (ga G (93)))] rfl 24 rfl ?_
    refine v_goto dX5_laysAside_24 2 (by decide) ?_
    have e91 : upd (fa_fill ms ma i) i (ms i) = (fa_fill ms ma (i + 1)) := fa_upd rfl
    refine v_w (w2 := (K, (ms, mk, mo, (fa_fill ms ma (i + 1)), mf, ik, mt, td, fr, tt, vl, wr, mb, mz, nu, mv))) (by rw [e91]) ?_
    exact ih (i + 1) (by omega) hk
set_option maxHeartbeats 1000000 in
set_option maxRecDepth 4000 in
theorem c_X5_laysAside (l : Launch) {G : Gl} {K : CS} {ms : Nat → Int32} {mk : Nat → Int32} {mo : Nat → Int32} {ma : Nat → Int32} {mf : Nat → Int32} {ik : Int32} {mt : Nat → Int32} {td : Nat} {fr : Nat} {tt : Nat} {vl : Int32} {wr : Int32} {mb : Nat → Int32} {mz : Nat → Int32} {nu : Nat → Int64} {mv : Nat → Int64}  : Ct l G yX5_laysAside cX5_laysAside 2 none 0 0 [.ref (ga G (93))] (K, (ms, mk, mo, ma, mf, ik, mt, td, fr, tt, vl, wr, mb, mz, nu, mv)) (none) (K, (ms, mk, mo, ms, mf, ik, mt, td, fr, tt, vl, wr, mb, mz, nu, mv)) := by
  refine Ct.of (own := RX5) (by decide) rfl (Nat.le_of_ble_eq_true rfl) rfl (fun X => ?_)
  refine v_iconst dX5_laysAside_0 0 rfl 1 rfl ?_
  refine v_istore_n dX5_laysAside_1 1 rfl (by decide) [(1, .int 0), (0, .ref (ga G (93)))] rfl 2 rfl ?_
  refine v_w (w2 := (K, (ms, mk, mo, (fa_fill ms ma 0), mf, ik, mt, td, fr, tt, vl, wr, mb, mz, nu, mv))) (by rw [fa_fill_0]) ?_
  refine lp_X5_laysAside l  198 0 (by omega) ?_
  refine v_ext (fun H hw => x_ma (ma := fa_fill ms ma 198) (ma2 := ms) (fun j hj => fa_fill_in hj) hw) ?_
  exact v_vret dX5_laysAside_27 (by rfl) (by rfl)
set_option maxHeartbeats 1000000 in
set_option maxRecDepth 4000 in
theorem lp_X5_takesBack (l : Launch) {G : Gl} {X : VX} {ov : Option Value} {wF : WS} {K : CS} {ms : Nat → Int32} {mk : Nat → Int32} {mo : Nat → Int32} {ma : Nat → Int32} {mf : Nat → Int32} {ik : Int32} {mt : Nat → Int32} {td : Nat} {fr : Nat} {tt : Nat} {vl : Int32} {wr : Int32} {mb : Nat → Int32} {mz : Nat → Int32} {nu : Nat → Int64} {mv : Nat → Int64} (x : Int32) : ∀ n i : Nat, i + n = 198 → V l X 0 0 cX5_takesBack 3 RX5 (some .int) G ov wF (K, ((fa_fill ma ms 198), mk, mo, ma, mf, ik, mt, td, fr, tt, vl, wr, mb, mz, nu, mv)) 27 [(2, .int (nI 198)), (0, .ref (ga G (93))), (1, .int x)] [] → V l X 0 0 cX5_takesBack 3 RX5 (some .int) G ov wF (K, ((fa_fill ma ms i), mk, mo, ma, mf, ik, mt, td, fr, tt, vl, wr, mb, mz, nu, mv)) 2 [(2, .int (nI i)), (0, .ref (ga G (93))), (1, .int x)] [] := by
  intro n
  induction n with
  | zero =>
    intro i hin hk
    obtain rfl : 198 = i := by omega
    refine v_iload_n dX5_takesBack_2 0 rfl 3 rfl ?_
    refine v_sipush dX5_takesBack_3 198 rfl 6 rfl ?_
    refine n_icmp_ge dX5_takesBack_6 198 198 rfl rfl (by omega) (by omega) 27 (by decide) 9 rfl (fun c1 => ?_) (fun c1 => absurd c1 (by omega))
    exact hk
  | succ n ih =>
    intro i hin hk
    refine v_iload_n dX5_takesBack_2 0 rfl 3 rfl ?_
    refine v_sipush dX5_takesBack_3 198 rfl 6 rfl ?_
    refine n_icmp_ge dX5_takesBack_6 i 198 rfl rfl (by omega) (by omega) 27 (by decide) 9 rfl (fun c1 => absurd c1 (by omega)) (fun c1 => ?_)
    refine v_aload_n dX5_takesBack_9 1 rfl 10 rfl ?_
    refine v_get (i := 0) (ci := 5) (T := TX5) (C := RX5) (N := 16) (v := .ref (ga G (94))) dX5_takesBack_10 inB5 rfl qw_686 rfl (by decide) (by decide) (cel_mod G _) rfl 13 rfl ?_
    refine v_iload_n dX5_takesBack_13 0 rfl 14 rfl ?_
    refine v_aload_n dX5_takesBack_14 1 rfl 15 rfl ?_
    refine v_get (i := 3) (ci := 5) (T := TX5) (C := RX5) (N := 16) (v := .ref (ga G (97))) dX5_takesBack_15 inB5 rfl qw_689 rfl (by decide) (by decide) (cel_mod G _) rfl 18 rfl ?_
    refine v_iload_n dX5_takesBack_18 0 rfl 19 rfl ?_
    refine v_iald (a := ma) dX5_takesBack_19 (by decide) (cel_ma G _) i rfl (by omega) (by decide) 20 rfl ?_
    refine v_iast (w2 := (K, (upd (fa_fill ma ms i) i (ma i), mk, mo, ma, mf, ik, mt, td, fr, tt, vl, wr, mb, mz, nu, mv))) dX5_takesBack_20 (by decide) (cel_ms G _) i rfl (by omega) (by decide) u_ms 21 rfl ?_
    refine v_iinc dX5_takesBack_21 0 rfl (nI (i + 1)) (nI_1 _) (by decide) [(2, .int (nI (i + 1))), (0, .ref (ga G (93))), (1, .int x)] rfl 24 rfl ?_
    refine v_goto dX5_takesBack_24 2 (by decide) ?_
    have e91 : upd (fa_fill ma ms i) i (ma i) = (fa_fill ma ms (i + 1)) := fa_upd rfl
    refine v_w (w2 := (K, ((fa_fill ma ms (i + 1)), mk, mo, ma, mf, ik, mt, td, fr, tt, vl, wr, mb, mz, nu, mv))) (by rw [e91]) ?_
    exact ih (i + 1) (by omega) hk
set_option maxHeartbeats 1000000 in
set_option maxRecDepth 4000 in
theorem c_X5_takesBack (l : Launch) {G : Gl} {K : CS} {ms : Nat → Int32} {mk : Nat → Int32} {mo : Nat → Int32} {ma : Nat → Int32} {mf : Nat → Int32} {ik : Int32} {mt : Nat → Int32} {td : Nat} {fr : Nat} {tt : Nat} {vl : Int32} {wr : Int32} {mb : Nat → Int32} {mz : Nat → Int32} {nu : Nat → Int64} {mv : Nat → Int64} (x : Int32) : Ct l G yX5_takesBack cX5_takesBack 3 (some .int) 0 0 [.ref (ga G (93)), .int x] (K, (ms, mk, mo, ma, mf, ik, mt, td, fr, tt, vl, wr, mb, mz, nu, mv)) (some (.int x)) (K, (ma, mk, mo, ma, mf, ik, mt, td, fr, tt, vl, wr, mb, mz, nu, mv)) := by
  refine Ct.of (own := RX5) (by decide) rfl (Nat.le_of_ble_eq_true rfl) rfl (fun X => ?_)
  refine v_iconst dX5_takesBack_0 0 rfl 1 rfl ?_
  refine v_istore_n dX5_takesBack_1 2 rfl (by decide) [(2, .int 0), (0, .ref (ga G (93))), (1, .int x)] rfl 2 rfl ?_
  refine v_w (w2 := (K, ((fa_fill ma ms 0), mk, mo, ma, mf, ik, mt, td, fr, tt, vl, wr, mb, mz, nu, mv))) (by rw [fa_fill_0]) ?_
  refine lp_X5_takesBack l x 198 0 (by omega) ?_
  refine v_ext (fun H hw => x_ms (ms := fa_fill ma ms 198) (ms2 := ma) (fun j hj => fa_fill_in hj) hw) ?_
  refine v_iload_n dX5_takesBack_27 2 rfl 28 rfl ?_
  exact v_iret dX5_takesBack_28 (by rfl) (by rfl)
set_option maxHeartbeats 1000000 in
set_option maxRecDepth 4000 in
theorem c_X5_becomes (l : Launch) {G : Gl} {K : CS} {ms : Nat → Int32} {mk : Nat → Int32} {mo : Nat → Int32} {ma : Nat → Int32} {mf : Nat → Int32} {ik : Int32} {mt : Nat → Int32} {td : Nat} {fr : Nat} {tt : Nat} {vl : Int32} {wr : Int32} {mb : Nat → Int32} {mz : Nat → Int32} {nu : Nat → Int64} {mv : Nat → Int64} {k : Nat} (hk : k < 198) (x : Int32) : Ct l G yX5_becomes cX5_becomes 4 (some .int) 0 0 [.ref (ga G (93)), .int (nI k), .int x] (K, (ms, mk, mo, ma, mf, ik, mt, td, fr, tt, vl, wr, mb, mz, nu, mv)) (some (.int (ms k))) (K, (upd ms k x, mk, mo, ma, mf, ik, mt, td, fr, tt, vl, wr, mb, mz, nu, mv)) := by
  refine Ct.of (own := RX5) (by decide) rfl (Nat.le_of_ble_eq_true rfl) rfl (fun X => ?_)
  refine v_aload_n dX5_becomes_0 0 rfl 1 rfl ?_
  refine v_get (i := 0) (ci := 5) (T := TX5) (C := RX5) (N := 16) (v := .ref (ga G (94))) dX5_becomes_1 inB5 rfl qw_686 rfl (by decide) (by decide) (cel_mod G _) rfl 4 rfl ?_
  refine v_iload_n dX5_becomes_4 1 rfl 5 rfl ?_
  refine v_iald (a := ms) dX5_becomes_5 (by decide) (cel_ms G _) k rfl (by omega) (by decide) 6 rfl ?_
  refine v_istore_n dX5_becomes_6 3 rfl (by decide) [(3, .int (ms k)), (0, .ref (ga G (93))), (1, .int (nI k)), (2, .int x)] rfl 7 rfl ?_
  refine v_aload_n dX5_becomes_7 1 rfl 8 rfl ?_
  refine v_get (i := 0) (ci := 5) (T := TX5) (C := RX5) (N := 16) (v := .ref (ga G (94))) dX5_becomes_8 inB5 rfl qw_686 rfl (by decide) (by decide) (cel_mod G _) rfl 11 rfl ?_
  refine v_iload_n dX5_becomes_11 2 rfl 12 rfl ?_
  refine v_iload_n dX5_becomes_12 3 rfl 13 rfl ?_
  refine v_iast (w2 := (K, (upd ms k x, mk, mo, ma, mf, ik, mt, td, fr, tt, vl, wr, mb, mz, nu, mv))) dX5_becomes_13 (by decide) (cel_ms G _) k rfl (by omega) (by decide) u_ms 14 rfl ?_
  refine v_iload_n dX5_becomes_14 0 rfl 15 rfl ?_
  exact v_iret dX5_becomes_15 (by rfl) (by rfl)
set_option maxHeartbeats 1000000 in
set_option maxRecDepth 4000 in
theorem c_X5_its (l : Launch) {G : Gl} {K : CS} {ms : Nat → Int32} {mk : Nat → Int32} {mo : Nat → Int32} {ma : Nat → Int32} {mf : Nat → Int32} {ik : Int32} {mt : Nat → Int32} {td : Nat} {fr : Nat} {tt : Nat} {vl : Int32} {wr : Int32} {mb : Nat → Int32} {mz : Nat → Int32} {nu : Nat → Int64} {mv : Nat → Int64} {e k : Nat} (he : e < 8) (hk : k < 14) : Ct l G yX5_its cX5_its 3 (some .int) 1 21 [.ref (ga G (93)), .int (nI e), .int (nI k)] (K, (ms, mk, mo, ma, mf, ik, mt, td, fr, tt, vl, wr, mb, mz, nu, mv)) (some (.int (ms (38 + 14 * e + k)))) (K, (ms, mk, mo, ma, mf, ik, mt, td, fr, tt, vl, wr, mb, mz, nu, mv)) := by
  refine Ct.of (own := RX5) (by decide) rfl (Nat.le_of_ble_eq_true rfl) rfl (fun X => ?_)
  refine v_aload_n dX5_its_0 0 rfl 1 rfl ?_
  refine v_get (i := 0) (ci := 5) (T := TX5) (C := RX5) (N := 16) (v := .ref (ga G (94))) dX5_its_1 inB5 rfl qw_686 rfl (by decide) (by decide) (cel_mod G _) rfl 4 rfl ?_
  refine v_iload_n dX5_its_4 1 rfl 5 rfl ?_
  refine v_iload_n dX5_its_5 2 rfl 6 rfl ?_
  refine v_callS (c_X5_spot l e k) kal_X5_spot rfl dX5_its_6 qw_785 qw_786 (by decide) [.ref (ga G (94))] (Nat.le_of_ble_eq_true rfl) rfl rfl 9 rfl ?_
  refine v_iald (a := ms) dX5_its_9 (by decide) (cel_ms G _) (38 + 14 * e + k) rfl (by omega) (by decide) 10 rfl ?_
  exact v_iret dX5_its_10 (by rfl) (by rfl)
set_option maxHeartbeats 1000000 in
set_option maxRecDepth 4000 in
theorem c_X5_isEwe (l : Launch) {G : Gl} {K : CS} {ms : Nat → Int32} {mk : Nat → Int32} {mo : Nat → Int32} {ma : Nat → Int32} {mf : Nat → Int32} {ik : Int32} {mt : Nat → Int32} {td : Nat} {fr : Nat} {tt : Nat} {vl : Int32} {wr : Int32} {mb : Nat → Int32} {mz : Nat → Int32} {nu : Nat → Int64} {mv : Nat → Int64} {nE : Nat} (hn : ms 1 = nI nE) (hn8 : nE ≤ 8) (x : Int32) : Ct l G yX5_isEwe cX5_isEwe 2 (some .boolean) 1 25 [.ref (ga G (93)), .int x] (K, (ms, mk, mo, ma, mf, ik, mt, td, fr, tt, vl, wr, mb, mz, nu, mv)) (some (.int (b2 (inE nE x)))) (K, (ms, mk, mo, ma, mf, ik, mt, td, fr, tt, vl, wr, mb, mz, nu, mv)) := by
  refine Ct.of (own := RX5) (by decide) rfl (Nat.le_of_ble_eq_true rfl) rfl (fun X => ?_)
  refine v_iload_n dX5_isEwe_0 1 rfl 1 rfl ?_
  refine v_i2l dX5_isEwe_1 2 rfl ?_
  refine v_lconst dX5_isEwe_2 0 rfl 3 rfl ?_
  refine v_aload_n dX5_isEwe_3 0 rfl 4 rfl ?_
  refine v_get (i := 0) (ci := 5) (T := TX5) (C := RX5) (N := 16) (v := .ref (ga G (94))) dX5_isEwe_4 inB5 rfl qw_686 rfl (by decide) (by decide) (cel_mod G _) rfl 7 rfl ?_
  refine v_iconst dX5_isEwe_7 1 rfl 8 rfl ?_
  refine v_iald (a := ms) dX5_isEwe_8 (by decide) (cel_ms G _) 1 rfl (by omega) (by decide) 9 rfl ?_
  refine v_topi (nI nE) hn ?_
  refine v_iconst dX5_isEwe_9 1 rfl 10 rfl ?_
  refine v_isub dX5_isEwe_10 11 rfl ?_
  refine v_i2l dX5_isEwe_11 12 rfl ?_
  refine v_callS (c_X5_in l (x : Int32).toInt64 0 ((nI nE) - 1 : Int32).toInt64 (z := (x : Int32).toInt) (lo := 0) (hi := (((nE : Nat) : Int) - 1)) (i2l_i _) rfl (i2l_m1 (by omega))) kal_X5_in rfl dX5_isEwe_12 qw_743 qw_744 (by decide) [] (Nat.le_of_ble_eq_true rfl) rfl rfl 15 rfl ?_
  refine v_topi (b2 (inE nE x)) rfl ?_
  exact v_zret dX5_isEwe_15 (g_nar _) (by rfl) (by rfl)
set_option maxHeartbeats 1000000 in
set_option maxRecDepth 4000 in
theorem lp_twelve (l : Launch) {G : Gl} {X : VX} {ov : Option Value} {wF : WS} {K : CS} {ms : Nat → Int32} {mk : Nat → Int32} {mo : Nat → Int32} {ma : Nat → Int32} {mf : Nat → Int32} {ik : Int32} {mt : Nat → Int32} {td : Nat} {fr : Nat} {tt : Nat} {vl : Int32} {wr : Int32} {mb : Nat → Int32} {mz : Nat → Int32} {nu : Nat → Int64} {mv : Nat → Int64} {k : Nat} (hk : k + 12 ≤ 198) : ∀ n i : Nat, i + n = 12 → V l X 0 0 cX5_twelve 4 RX5 (some .int) G ov wF (K, (ms, mk, mo, ma, mf, ik, mt, td, fr, tt, vl, wr, mb, mz, nu, mv)) 27 [(3, .int (nI 12)), (2, .int (sm (fun m => ms (k + m)) 12)), (0, .ref (ga G (93))), (1, .int (nI k))] [] → V l X 0 0 cX5_twelve 4 RX5 (some .int) G ov wF (K, (ms, mk, mo, ma, mf, ik, mt, td, fr, tt, vl, wr, mb, mz, nu, mv)) 4 [(3, .int (nI i)), (2, .int (sm (fun m => ms (k + m)) i)), (0, .ref (ga G (93))), (1, .int (nI k))] [] := by
  intro n
  induction n with
  | zero =>
    intro i hin hk
    obtain rfl : 12 = i := by omega
    refine v_iload_n dX5_twelve_4 0 rfl 5 rfl ?_
    refine v_bipush dX5_twelve_5 12 rfl 7 rfl ?_
    refine n_icmp_ge dX5_twelve_7 12 12 rfl rfl (by omega) (by omega) 27 (by decide) 10 rfl (fun c1 => ?_) (fun c1 => absurd c1 (by omega))
    exact hk
  | succ n ih =>
    intro i hin hk
    refine v_iload_n dX5_twelve_4 0 rfl 5 rfl ?_
    refine v_bipush dX5_twelve_5 12 rfl 7 rfl ?_
    refine n_icmp_ge dX5_twelve_7 i 12 rfl rfl (by omega) (by omega) 27 (by decide) 10 rfl (fun c1 => absurd c1 (by omega)) (fun c1 => ?_)
    refine v_iload_n dX5_twelve_10 1 rfl 11 rfl ?_
    refine v_aload_n dX5_twelve_11 2 rfl 12 rfl ?_
    refine v_get (i := 0) (ci := 5) (T := TX5) (C := RX5) (N := 16) (v := .ref (ga G (94))) dX5_twelve_12 inB5 rfl qw_686 rfl (by decide) (by decide) (cel_mod G _) rfl 15 rfl ?_
    refine v_iload_n dX5_twelve_15 3 rfl 16 rfl ?_
    refine v_iload_n dX5_twelve_16 0 rfl 17 rfl ?_
    refine n_iadd dX5_twelve_17 k i rfl rfl 18 rfl ?_
    refine v_iald (a := ms) dX5_twelve_18 (by decide) (cel_ms G _) (k + i) rfl (by omega) (by decide) 19 rfl ?_
    refine v_iadd dX5_twelve_19 20 rfl ?_
    refine v_istore_n dX5_twelve_20 2 rfl (by decide) [(2, .int ((sm (fun m => ms (k + m)) i) + (ms (k + i)))), (3, .int (nI i)), (0, .ref (ga G (93))), (1, .int (nI k))] rfl 21 rfl ?_
    refine v_iinc dX5_twelve_21 1 rfl (nI (i + 1)) (nI_1 _) (by decide) [(3, .int (nI (i + 1))), (2, .int ((sm (fun m => ms (k + m)) i) + (ms (k + i)))), (0, .ref (ga G (93))), (1, .int (nI k))] rfl 24 rfl ?_
    refine v_goto dX5_twelve_24 4 (by decide) ?_
    exact ih (i + 1) (by omega) hk
set_option maxHeartbeats 1000000 in
set_option maxRecDepth 4000 in
theorem c_X5_twelve (l : Launch) {G : Gl} {K : CS} {ms : Nat → Int32} {mk : Nat → Int32} {mo : Nat → Int32} {ma : Nat → Int32} {mf : Nat → Int32} {ik : Int32} {mt : Nat → Int32} {td : Nat} {fr : Nat} {tt : Nat} {vl : Int32} {wr : Int32} {mb : Nat → Int32} {mz : Nat → Int32} {nu : Nat → Int64} {mv : Nat → Int64} {k : Nat} (hk : k + 12 ≤ 198) : Ct l G yX5_twelve cX5_twelve 4 (some .int) 0 0 [.ref (ga G (93)), .int (nI k)] (K, (ms, mk, mo, ma, mf, ik, mt, td, fr, tt, vl, wr, mb, mz, nu, mv)) (some (.int (sm (fun m => ms (k + m)) 12))) (K, (ms, mk, mo, ma, mf, ik, mt, td, fr, tt, vl, wr, mb, mz, nu, mv)) := by
  refine Ct.of (own := RX5) (by decide) rfl (Nat.le_of_ble_eq_true rfl) rfl (fun X => ?_)
  refine v_iconst dX5_twelve_0 0 rfl 1 rfl ?_
  refine v_istore_n dX5_twelve_1 2 rfl (by decide) [(2, .int 0), (0, .ref (ga G (93))), (1, .int (nI k))] rfl 2 rfl ?_
  refine v_iconst dX5_twelve_2 0 rfl 3 rfl ?_
  refine v_istore_n dX5_twelve_3 3 rfl (by decide) [(3, .int 0), (2, .int 0), (0, .ref (ga G (93))), (1, .int (nI k))] rfl 4 rfl ?_
  refine lp_twelve l hk 12 0 (by omega) ?_
  refine v_iload_n dX5_twelve_27 1 rfl 28 rfl ?_
  exact v_iret dX5_twelve_28 (by rfl) (by rfl)
set_option maxHeartbeats 1000000 in
set_option maxRecDepth 4000 in
theorem c_X5_woolOf (l : Launch) {G : Gl} {K : CS} {ms : Nat → Int32} {mk : Nat → Int32} {mo : Nat → Int32} {ma : Nat → Int32} {mf : Nat → Int32} {ik : Int32} {mt : Nat → Int32} {td : Nat} {fr : Nat} {tt : Nat} {vl : Int32} {wr : Int32} {mb : Nat → Int32} {mz : Nat → Int32} {nu : Nat → Int64} {mv : Nat → Int64} {e : Nat} (he : e < 8) : Ct l G yX5_woolOf cX5_woolOf 2 (some .int) 1 23 [.ref (ga G (93)), .int (nI e)] (K, (ms, mk, mo, ma, mf, ik, mt, td, fr, tt, vl, wr, mb, mz, nu, mv)) (some (.int (mWool ms e))) (K, (ms, mk, mo, ma, mf, ik, mt, td, fr, tt, vl, wr, mb, mz, nu, mv)) := by
  refine Ct.of (own := RX5) (by decide) rfl (Nat.le_of_ble_eq_true rfl) rfl (fun X => ?_)
  refine v_aload_n dX5_woolOf_0 0 rfl 1 rfl ?_
  refine v_iload_n dX5_woolOf_1 1 rfl 2 rfl ?_
  refine v_iconst dX5_woolOf_2 2 rfl 3 rfl ?_
  refine v_callS (c_X5_spot l e 2) kal_X5_spot rfl dX5_woolOf_3 qw_785 qw_786 (by decide) [.ref (ga G (93))] (Nat.le_of_ble_eq_true rfl) rfl rfl 6 rfl ?_
  refine v_callV (c_X5_twelve l (k := 38 + 14 * e + 2) (by omega)) kal_X5_twelve rfl dX5_woolOf_6 qw_773 qw_775 qw_17 rfl (by decide) (cel_mod G _) (by decide) [] (Nat.le_of_ble_eq_true rfl) rfl rfl 9 rfl ?_
  exact v_iret dX5_woolOf_9 (by rfl) (by rfl)
set_option maxHeartbeats 1000000 in
set_option maxRecDepth 4000 in
theorem lp_fleeces (l : Launch) {G : Gl} {X : VX} {ov : Option Value} {wF : WS} {K : CS} {ms : Nat → Int32} {mk : Nat → Int32} {mo : Nat → Int32} {ma : Nat → Int32} {mf : Nat → Int32} {ik : Int32} {mt : Nat → Int32} {td : Nat} {fr : Nat} {tt : Nat} {vl : Int32} {wr : Int32} {mb : Nat → Int32} {mz : Nat → Int32} {nu : Nat → Int64} {mv : Nat → Int64} {nE : Nat} (hn : ms 1 = nI nE) (hn8 : nE ≤ 8) : ∀ n i : Nat, i + n = nE → V l X 2 44 cX5_fleeces 3 RX5 (some .int) G ov wF (K, (ms, mk, mo, ma, mf, ik, mt, td, fr, tt, vl, wr, mb, mz, nu, mv)) 28 [(2, .int (nI nE)), (1, .int (sm (fun e => mWool ms e) nE)), (0, .ref (ga G (93)))] [] → V l X 2 44 cX5_fleeces 3 RX5 (some .int) G ov wF (K, (ms, mk, mo, ma, mf, ik, mt, td, fr, tt, vl, wr, mb, mz, nu, mv)) 4 [(2, .int (nI i)), (1, .int (sm (fun e => mWool ms e) i)), (0, .ref (ga G (93)))] [] := by
  intro n
  induction n with
  | zero =>
    intro i hin hk
    obtain rfl : nE = i := by omega
    refine v_iload_n dX5_fleeces_4 0 rfl 5 rfl ?_
    refine v_aload_n dX5_fleeces_5 2 rfl 6 rfl ?_
    refine v_get (i := 0) (ci := 5) (T := TX5) (C := RX5) (N := 16) (v := .ref (ga G (94))) dX5_fleeces_6 inB5 rfl qw_686 rfl (by decide) (by decide) (cel_mod G _) rfl 9 rfl ?_
    refine v_iconst dX5_fleeces_9 1 rfl 10 rfl ?_
    refine v_iald (a := ms) dX5_fleeces_10 (by decide) (cel_ms G _) 1 rfl (by omega) (by decide) 11 rfl ?_
    refine v_topi (nI nE) hn ?_
    refine n_icmp_ge dX5_fleeces_11 nE nE rfl rfl (by omega) (by omega) 28 (by decide) 14 rfl (fun c1 => ?_) (fun c1 => absurd c1 (by omega))
    exact hk
  | succ n ih =>
    intro i hin hk
    refine v_iload_n dX5_fleeces_4 0 rfl 5 rfl ?_
    refine v_aload_n dX5_fleeces_5 2 rfl 6 rfl ?_
    refine v_get (i := 0) (ci := 5) (T := TX5) (C := RX5) (N := 16) (v := .ref (ga G (94))) dX5_fleeces_6 inB5 rfl qw_686 rfl (by decide) (by decide) (cel_mod G _) rfl 9 rfl ?_
    refine v_iconst dX5_fleeces_9 1 rfl 10 rfl ?_
    refine v_iald (a := ms) dX5_fleeces_10 (by decide) (cel_ms G _) 1 rfl (by omega) (by decide) 11 rfl ?_
    refine v_topi (nI nE) hn ?_
    refine n_icmp_ge dX5_fleeces_11 i nE rfl rfl (by omega) (by omega) 28 (by decide) 14 rfl (fun c1 => absurd c1 (by omega)) (fun c1 => ?_)
    refine v_iload_n dX5_fleeces_14 1 rfl 15 rfl ?_
    refine v_aload_n dX5_fleeces_15 2 rfl 16 rfl ?_
    refine v_iload_n dX5_fleeces_16 0 rfl 17 rfl ?_
    refine v_callV (c_X5_woolOf l (e := i) (by omega)) kal_X5_woolOf rfl dX5_fleeces_17 qw_781 qw_783 qw_19 rfl (by decide) (cel_mod G _) (by decide) [.int (sm (fun e => mWool ms e) i)] (Nat.le_of_ble_eq_true rfl) rfl rfl 20 rfl ?_
    refine v_iadd dX5_fleeces_20 21 rfl ?_
    refine v_istore_n dX5_fleeces_21 1 rfl (by decide) [(1, .int ((sm (fun e => mWool ms e) i) + (mWool ms i))), (2, .int (nI i)), (0, .ref (ga G (93)))] rfl 22 rfl ?_
    refine v_iinc dX5_fleeces_22 1 rfl (nI (i + 1)) (nI_1 _) (by decide) [(2, .int (nI (i + 1))), (1, .int ((sm (fun e => mWool ms e) i) + (mWool ms i))), (0, .ref (ga G (93)))] rfl 25 rfl ?_
    refine v_goto dX5_fleeces_25 4 (by decide) ?_
    exact ih (i + 1) (by omega) hk
set_option maxHeartbeats 1000000 in
set_option maxRecDepth 4000 in
theorem c_X5_fleeces (l : Launch) {G : Gl} {K : CS} {ms : Nat → Int32} {mk : Nat → Int32} {mo : Nat → Int32} {ma : Nat → Int32} {mf : Nat → Int32} {ik : Int32} {mt : Nat → Int32} {td : Nat} {fr : Nat} {tt : Nat} {vl : Int32} {wr : Int32} {mb : Nat → Int32} {mz : Nat → Int32} {nu : Nat → Int64} {mv : Nat → Int64} {nE : Nat} (hn : ms 1 = nI nE) (hn8 : nE ≤ 8) : Ct l G yX5_fleeces cX5_fleeces 3 (some .int) 2 44 [.ref (ga G (93))] (K, (ms, mk, mo, ma, mf, ik, mt, td, fr, tt, vl, wr, mb, mz, nu, mv)) (some (.int (sm (fun e => mWool ms e) nE))) (K, (ms, mk, mo, ma, mf, ik, mt, td, fr, tt, vl, wr, mb, mz, nu, mv)) := by
  refine Ct.of (own := RX5) (by decide) rfl (Nat.le_of_ble_eq_true rfl) rfl (fun X => ?_)
  refine v_iconst dX5_fleeces_0 0 rfl 1 rfl ?_
  refine v_istore_n dX5_fleeces_1 1 rfl (by decide) [(1, .int 0), (0, .ref (ga G (93)))] rfl 2 rfl ?_
  refine v_iconst dX5_fleeces_2 0 rfl 3 rfl ?_
  refine v_istore_n dX5_fleeces_3 2 rfl (by decide) [(2, .int 0), (1, .int 0), (0, .ref (ga G (93)))] rfl 4 rfl ?_
  refine lp_fleeces l hn hn8 nE 0 (by omega) ?_
  refine v_iload_n dX5_fleeces_28 1 rfl 29 rfl ?_
  exact v_iret dX5_fleeces_29 (by rfl) (by rfl)
set_option maxHeartbeats 1000000 in
set_option maxRecDepth 4000 in
theorem lp_frights (l : Launch) {G : Gl} {X : VX} {ov : Option Value} {wF : WS} {K : CS} {ms : Nat → Int32} {mk : Nat → Int32} {mo : Nat → Int32} {ma : Nat → Int32} {mf : Nat → Int32} {ik : Int32} {mt : Nat → Int32} {td : Nat} {fr : Nat} {tt : Nat} {vl : Int32} {wr : Int32} {mb : Nat → Int32} {mz : Nat → Int32} {nu : Nat → Int64} {mv : Nat → Int64} {nE : Nat} (hn : ms 1 = nI nE) (hn8 : nE ≤ 8) : ∀ n i : Nat, i + n = nE → V l X 2 43 cX5_frights 3 RX5 (some .int) G ov wF (K, (ms, mk, mo, ma, mf, ik, mt, td, fr, tt, vl, wr, mb, mz, nu, mv)) 29 [(2, .int (nI nE)), (1, .int (sm (fun e => ms (38 + 14 * e + 1)) nE)), (0, .ref (ga G (93)))] [] → V l X 2 43 cX5_frights 3 RX5 (some .int) G ov wF (K, (ms, mk, mo, ma, mf, ik, mt, td, fr, tt, vl, wr, mb, mz, nu, mv)) 4 [(2, .int (nI i)), (1, .int (sm (fun e => ms (38 + 14 * e + 1)) i)), (0, .ref (ga G (93)))] [] := by
  intro n
  induction n with
  | zero =>
    intro i hin hk
    obtain rfl : nE = i := by omega
    refine v_iload_n dX5_frights_4 0 rfl 5 rfl ?_
    refine v_aload_n dX5_frights_5 2 rfl 6 rfl ?_
    refine v_get (i := 0) (ci := 5) (T := TX5) (C := RX5) (N := 16) (v := .ref (ga G (94))) dX5_frights_6 inB5 rfl qw_686 rfl (by decide) (by decide) (cel_mod G _) rfl 9 rfl ?_
    refine v_iconst dX5_frights_9 1 rfl 10 rfl ?_
    refine v_iald (a := ms) dX5_frights_10 (by decide) (cel_ms G _) 1 rfl (by omega) (by decide) 11 rfl ?_
    refine v_topi (nI nE) hn ?_
    refine n_icmp_ge dX5_frights_11 nE nE rfl rfl (by omega) (by omega) 29 (by decide) 14 rfl (fun c1 => ?_) (fun c1 => absurd c1 (by omega))
    exact hk
  | succ n ih =>
    intro i hin hk
    refine v_iload_n dX5_frights_4 0 rfl 5 rfl ?_
    refine v_aload_n dX5_frights_5 2 rfl 6 rfl ?_
    refine v_get (i := 0) (ci := 5) (T := TX5) (C := RX5) (N := 16) (v := .ref (ga G (94))) dX5_frights_6 inB5 rfl qw_686 rfl (by decide) (by decide) (cel_mod G _) rfl 9 rfl ?_
    refine v_iconst dX5_frights_9 1 rfl 10 rfl ?_
    refine v_iald (a := ms) dX5_frights_10 (by decide) (cel_ms G _) 1 rfl (by omega) (by decide) 11 rfl ?_
    refine v_topi (nI nE) hn ?_
    refine n_icmp_ge dX5_frights_11 i nE rfl rfl (by omega) (by omega) 29 (by decide) 14 rfl (fun c1 => absurd c1 (by omega)) (fun c1 => ?_)
    refine v_iload_n dX5_frights_14 1 rfl 15 rfl ?_
    refine v_aload_n dX5_frights_15 2 rfl 16 rfl ?_
    refine v_iload_n dX5_frights_16 0 rfl 17 rfl ?_
    refine v_iconst dX5_frights_17 1 rfl 18 rfl ?_
    refine v_callV (c_X5_its l (e := i) (k := 1) (by omega) (by omega)) kal_X5_its rfl dX5_frights_18 qw_810 qw_812 qw_22 rfl (by decide) (cel_mod G _) (by decide) [.int (sm (fun e => ms (38 + 14 * e + 1)) i)] (Nat.le_of_ble_eq_true rfl) rfl rfl 21 rfl ?_
    refine v_iadd dX5_frights_21 22 rfl ?_
    obtain ⟨z2, ez2⟩ : ∃ y : Int32, y = (sm (fun e => ms (38 + 14 * e + 1)) i) + (ms (38 + 14 * i + 1)) := ⟨_, rfl⟩
    rw [← ez2]
    refine v_istore_n dX5_frights_22 1 rfl (by decide) [(1, .int z2), (2, .int (nI i)), (0, .ref (ga G (93)))] rfl 23 rfl ?_
    refine v_iinc dX5_frights_23 1 rfl (nI (i + 1)) (nI_1 _) (by decide) [(2, .int (nI (i + 1))), (1, .int z2), (0, .ref (ga G (93)))] rfl 26 rfl ?_
    refine v_goto dX5_frights_26 4 (by decide) ?_
    subst ez2
    exact ih (i + 1) (by omega) hk
set_option maxHeartbeats 1000000 in
set_option maxRecDepth 4000 in
theorem c_X5_frights (l : Launch) {G : Gl} {K : CS} {ms : Nat → Int32} {mk : Nat → Int32} {mo : Nat → Int32} {ma : Nat → Int32} {mf : Nat → Int32} {ik : Int32} {mt : Nat → Int32} {td : Nat} {fr : Nat} {tt : Nat} {vl : Int32} {wr : Int32} {mb : Nat → Int32} {mz : Nat → Int32} {nu : Nat → Int64} {mv : Nat → Int64} {nE : Nat} (hn : ms 1 = nI nE) (hn8 : nE ≤ 8) : Ct l G yX5_frights cX5_frights 3 (some .int) 2 43 [.ref (ga G (93))] (K, (ms, mk, mo, ma, mf, ik, mt, td, fr, tt, vl, wr, mb, mz, nu, mv)) (some (.int (sm (fun e => ms (38 + 14 * e + 1)) nE))) (K, (ms, mk, mo, ma, mf, ik, mt, td, fr, tt, vl, wr, mb, mz, nu, mv)) := by
  refine Ct.of (own := RX5) (by decide) rfl (Nat.le_of_ble_eq_true rfl) rfl (fun X => ?_)
  refine v_iconst dX5_frights_0 0 rfl 1 rfl ?_
  refine v_istore_n dX5_frights_1 1 rfl (by decide) [(1, .int 0), (0, .ref (ga G (93)))] rfl 2 rfl ?_
  refine v_iconst dX5_frights_2 0 rfl 3 rfl ?_
  refine v_istore_n dX5_frights_3 2 rfl (by decide) [(2, .int 0), (1, .int 0), (0, .ref (ga G (93)))] rfl 4 rfl ?_
  refine lp_frights l hn hn8 nE 0 (by omega) ?_
  refine v_iload_n dX5_frights_29 1 rfl 30 rfl ?_
  exact v_iret dX5_frights_30 (by rfl) (by rfl)
set_option maxHeartbeats 1000000 in
set_option maxRecDepth 4000 in
theorem c_X5_ofYear (l : Launch) {G : Gl} {K : CS} {ms : Nat → Int32} {mk : Nat → Int32} {mo : Nat → Int32} {ma : Nat → Int32} {mf : Nat → Int32} {ik : Int32} {mt : Nat → Int32} {td : Nat} {fr : Nat} {tt : Nat} {vl : Int32} {wr : Int32} {mb : Nat → Int32} {mz : Nat → Int32} {nu : Nat → Int64} {mv : Nat → Int64} {t0 : Nat} (hm : ms 0 = nI t0) (hmo : t0 < 2 ^ 30) : Ct l G yX5_ofYear cX5_ofYear 1 (some .int) 0 0 [.ref (ga G (93))] (K, (ms, mk, mo, ma, mf, ik, mt, td, fr, tt, vl, wr, mb, mz, nu, mv)) (some (.int (nI (t0 % 12)))) (K, (ms, mk, mo, ma, mf, ik, mt, td, fr, tt, vl, wr, mb, mz, nu, mv)) := by
  refine Ct.of (own := RX5) (by decide) rfl (Nat.le_of_ble_eq_true rfl) rfl (fun X => ?_)
  refine v_aload_n dX5_ofYear_0 0 rfl 1 rfl ?_
  refine v_get (i := 0) (ci := 5) (T := TX5) (C := RX5) (N := 16) (v := .ref (ga G (94))) dX5_ofYear_1 inB5 rfl qw_686 rfl (by decide) (by decide) (cel_mod G _) rfl 4 rfl ?_
  refine v_iconst dX5_ofYear_4 0 rfl 5 rfl ?_
  refine v_iald (a := ms) dX5_ofYear_5 (by decide) (cel_ms G _) 0 rfl (by omega) (by decide) 6 rfl ?_
  refine v_topi (nI t0) hm ?_
  refine v_bipush dX5_ofYear_6 12 rfl 8 rfl ?_
  refine n_irem dX5_ofYear_8 t0 12 rfl rfl (by omega) (by decide) (by decide) 9 rfl ?_
  exact v_iret dX5_ofYear_9 (by rfl) (by rfl)
set_option maxHeartbeats 1000000 in
set_option maxRecDepth 4000 in
theorem c_X5_growsIn (l : Launch) {G : Gl} {K : CS} {ms : Nat → Int32} {mk : Nat → Int32} {mo : Nat → Int32} {ma : Nat → Int32} {mf : Nat → Int32} {ik : Int32} {mt : Nat → Int32} {td : Nat} {fr : Nat} {tt : Nat} {vl : Int32} {wr : Int32} {mb : Nat → Int32} {mz : Nat → Int32} {nu : Nat → Int64} {mv : Nat → Int64} {e : Nat} (he : e < 8) (x : Int32) : Ct l G yX5_growsIn cX5_growsIn 4 (some .int) 2 43 [.ref (ga G (93)), .int (nI e), .int x] (K, (ms, mk, mo, ma, mf, ik, mt, td, fr, tt, vl, wr, mb, mz, nu, mv)) (some (.int (kGrows (ms (38 + 14 * e + 0)) x))) (K, (ms, mk, mo, ma, mf, ik, mt, td, fr, tt, vl, wr, mb, mz, nu, mv)) := by
  refine Ct.of (own := RX5) (by decide) rfl (Nat.le_of_ble_eq_true rfl) rfl (fun X => ?_)
  refine v_iload_n dX5_growsIn_0 2 rfl 1 rfl ?_
  refine v_if_ge dX5_growsIn_1 15 (by decide) 4 rfl (fun c1 => ?_) (fun c1 => ?_)
  · skip
    refine v_bipush dX5_growsIn_15 10 rfl 17 rfl ?_
    refine v_istore_n dX5_growsIn_17 3 rfl (by decide) [(3, .int 10), (0, .ref (ga G (93))), (1, .int (nI e)), (2, .int x)] rfl 18 rfl ?_
    refine v_aload_n dX5_growsIn_18 1 rfl 19 rfl ?_
    refine v_iload_n dX5_growsIn_19 2 rfl 20 rfl ?_
    refine v_iconst dX5_growsIn_20 0 rfl 21 rfl ?_
    refine v_callV (c_X5_its l (e := e) (k := 0) (by omega) (by omega)) kal_X5_its rfl dX5_growsIn_21 qw_810 qw_812 qw_22 rfl (by decide) (cel_mod G _) (by decide) [] (Nat.le_of_ble_eq_true rfl) rfl rfl 24 rfl ?_
    by_cases c2_0 : ms (38 + 14 * e + 0) = 1
    · refine v_topi 1 c2_0 ?_
      refine v_tabIn dX5_growsIn_24 (by decide) (by decide) (off := 36) (by decide) 60 (by decide) ?_
      refine v_iload_n dX5_growsIn_60 0 rfl 61 rfl ?_
      refine v_iconst dX5_growsIn_61 4 rfl 62 rfl ?_
      refine v_iadd dX5_growsIn_62 63 rfl ?_
      exact v_iret dX5_growsIn_63 (by simp [-Nat.add_zero, kGrows, Int32.zero_sub, c1, Int32.not_lt.mpr c1, c2_0]) (by rfl)
    by_cases c2_1 : ms (38 + 14 * e + 0) = 2
    · refine v_topi 2 c2_1 ?_
      refine v_tabIn dX5_growsIn_24 (by decide) (by decide) (off := 40) (by decide) 64 (by decide) ?_
      refine v_iload_n dX5_growsIn_64 0 rfl 65 rfl ?_
      refine v_iconst dX5_growsIn_65 2 rfl 66 rfl ?_
      refine v_idiv dX5_growsIn_66 (by decide) 67 rfl ?_
      exact v_iret dX5_growsIn_67 (by simp [-Nat.add_zero, kGrows, Int32.zero_sub, c1, Int32.not_lt.mpr c1, c2_0, c2_1]) (by rfl)
    by_cases c2_2 : ms (38 + 14 * e + 0) = 3
    · refine v_topi 3 c2_2 ?_
      refine v_tabIn dX5_growsIn_24 (by decide) (by decide) (off := 44) (by decide) 68 (by decide) ?_
      refine v_bipush dX5_growsIn_68 12 rfl 70 rfl ?_
      exact v_iret dX5_growsIn_70 (by simp [-Nat.add_zero, kGrows, Int32.zero_sub, c1, Int32.not_lt.mpr c1, c2_0, c2_1, c2_2]) (by rfl)
    by_cases c2_3 : ms (38 + 14 * e + 0) = 4
    · refine v_topi 4 c2_3 ?_
      refine v_tabIn dX5_growsIn_24 (by decide) (by decide) (off := 47) (by decide) 71 (by decide) ?_
      refine v_iload_n dX5_growsIn_71 3 rfl 72 rfl ?_
      refine v_bipush dX5_growsIn_72 10 rfl 74 rfl ?_
      refine v_icmp_le dX5_growsIn_74 81 (by decide) 77 rfl (fun c3 => ?_) (fun c3 => ?_)
      · skip
        refine v_iload_n dX5_growsIn_81 0 rfl 82 rfl ?_
        refine v_iconst dX5_growsIn_82 4 rfl 83 rfl ?_
        refine v_iadd dX5_growsIn_83 84 rfl ?_
        exact v_iret dX5_growsIn_84 (by simp [-Nat.add_zero, kGrows, Int32.zero_sub, c1, Int32.not_lt.mpr c1, c2_0, c2_1, c2_2, c2_3, c3, Int32.not_lt.mpr c3]) (by rfl)
      · skip
        refine v_iconst dX5_growsIn_77 0 rfl 78 rfl ?_
        refine v_goto dX5_growsIn_78 84 (by decide) ?_
        exact v_iret dX5_growsIn_84 (by simp [-Nat.add_zero, kGrows, Int32.zero_sub, c1, Int32.not_lt.mpr c1, c2_0, c2_1, c2_2, c2_3, c3, Int32.not_le.mp c3]) (by rfl)
    by_cases c2_4 : ms (38 + 14 * e + 0) = 5
    · refine v_topi 5 c2_4 ?_
      refine v_tabIn dX5_growsIn_24 (by decide) (by decide) (off := 61) (by decide) 85 (by decide) ?_
      refine v_iload_n dX5_growsIn_85 0 rfl 86 rfl ?_
      refine v_iconst dX5_growsIn_86 2 rfl 87 rfl ?_
      refine v_idiv dX5_growsIn_87 (by decide) 88 rfl ?_
      refine v_bipush dX5_growsIn_88 6 rfl 90 rfl ?_
      refine v_iadd dX5_growsIn_90 91 rfl ?_
      exact v_iret dX5_growsIn_91 (by simp [-Nat.add_zero, kGrows, Int32.zero_sub, c1, Int32.not_lt.mpr c1, c2_0, c2_1, c2_2, c2_3, c2_4]) (by rfl)
    refine v_tabOut dX5_growsIn_24 (sw_out (lo := 1) (hi := 5) (by decide) (by decide) (fun k h1 h2 => by rcases (show k = 1 ∨ k = 2 ∨ k = 3 ∨ k = 4 ∨ k = 5 by omega) with rfl | rfl | rfl | rfl | rfl <;> first | exact c2_0 | exact c2_1 | exact c2_2 | exact c2_3 | exact c2_4)) 92 (by decide) ?_
    refine v_iload_n dX5_growsIn_92 0 rfl 93 rfl ?_
    exact v_iret dX5_growsIn_93 (by simp [-Nat.add_zero, kGrows, Int32.zero_sub, c1, Int32.not_lt.mpr c1, c2_0, c2_1, c2_2, c2_3, c2_4]) (by rfl)
  · skip
    refine v_bipush dX5_growsIn_4 10 rfl 6 rfl ?_
    refine v_iconst dX5_growsIn_6 0 rfl 7 rfl ?_
    refine v_iload_n dX5_growsIn_7 2 rfl 8 rfl ?_
    refine v_isub dX5_growsIn_8 9 rfl ?_
    refine v_iconst dX5_growsIn_9 2 rfl 10 rfl ?_
    refine v_idiv dX5_growsIn_10 (by decide) 11 rfl ?_
    refine v_iadd dX5_growsIn_11 12 rfl ?_
    refine v_goto dX5_growsIn_12 17 (by decide) ?_
    refine v_istore_n dX5_growsIn_17 3 rfl (by decide) [(3, .int (10 + ((0 - x) / 2))), (0, .ref (ga G (93))), (1, .int (nI e)), (2, .int x)] rfl 18 rfl ?_
    refine v_aload_n dX5_growsIn_18 1 rfl 19 rfl ?_
    refine v_iload_n dX5_growsIn_19 2 rfl 20 rfl ?_
    refine v_iconst dX5_growsIn_20 0 rfl 21 rfl ?_
    refine v_callV (c_X5_its l (e := e) (k := 0) (by omega) (by omega)) kal_X5_its rfl dX5_growsIn_21 qw_810 qw_812 qw_22 rfl (by decide) (cel_mod G _) (by decide) [] (Nat.le_of_ble_eq_true rfl) rfl rfl 24 rfl ?_
    by_cases c4_0 : ms (38 + 14 * e + 0) = 1
    · refine v_topi 1 c4_0 ?_
      refine v_tabIn dX5_growsIn_24 (by decide) (by decide) (off := 36) (by decide) 60 (by decide) ?_
      refine v_iload_n dX5_growsIn_60 0 rfl 61 rfl ?_
      refine v_iconst dX5_growsIn_61 4 rfl 62 rfl ?_
      refine v_iadd dX5_growsIn_62 63 rfl ?_
      exact v_iret dX5_growsIn_63 (by simp [-Nat.add_zero, kGrows, Int32.zero_sub, c1, Int32.not_le.mp c1, c4_0]) (by rfl)
    by_cases c4_1 : ms (38 + 14 * e + 0) = 2
    · refine v_topi 2 c4_1 ?_
      refine v_tabIn dX5_growsIn_24 (by decide) (by decide) (off := 40) (by decide) 64 (by decide) ?_
      refine v_iload_n dX5_growsIn_64 0 rfl 65 rfl ?_
      refine v_iconst dX5_growsIn_65 2 rfl 66 rfl ?_
      refine v_idiv dX5_growsIn_66 (by decide) 67 rfl ?_
      exact v_iret dX5_growsIn_67 (by simp [-Nat.add_zero, kGrows, Int32.zero_sub, c1, Int32.not_le.mp c1, c4_0, c4_1]) (by rfl)
    by_cases c4_2 : ms (38 + 14 * e + 0) = 3
    · refine v_topi 3 c4_2 ?_
      refine v_tabIn dX5_growsIn_24 (by decide) (by decide) (off := 44) (by decide) 68 (by decide) ?_
      refine v_bipush dX5_growsIn_68 12 rfl 70 rfl ?_
      exact v_iret dX5_growsIn_70 (by simp [-Nat.add_zero, kGrows, Int32.zero_sub, c1, Int32.not_le.mp c1, c4_0, c4_1, c4_2]) (by rfl)
    by_cases c4_3 : ms (38 + 14 * e + 0) = 4
    · refine v_topi 4 c4_3 ?_
      refine v_tabIn dX5_growsIn_24 (by decide) (by decide) (off := 47) (by decide) 71 (by decide) ?_
      refine v_iload_n dX5_growsIn_71 3 rfl 72 rfl ?_
      refine v_bipush dX5_growsIn_72 10 rfl 74 rfl ?_
      refine v_icmp_le dX5_growsIn_74 81 (by decide) 77 rfl (fun c5 => ?_) (fun c5 => ?_)
      · skip
        refine v_iload_n dX5_growsIn_81 0 rfl 82 rfl ?_
        refine v_iconst dX5_growsIn_82 4 rfl 83 rfl ?_
        refine v_iadd dX5_growsIn_83 84 rfl ?_
        exact v_iret dX5_growsIn_84 (by simp [-Nat.add_zero, kGrows, Int32.zero_sub, c1, Int32.not_le.mp c1, c4_0, c4_1, c4_2, c4_3, c5, Int32.not_lt.mpr c5]) (by rfl)
      · skip
        refine v_iconst dX5_growsIn_77 0 rfl 78 rfl ?_
        refine v_goto dX5_growsIn_78 84 (by decide) ?_
        exact v_iret dX5_growsIn_84 (by simp [-Nat.add_zero, kGrows, Int32.zero_sub, c1, Int32.not_le.mp c1, c4_0, c4_1, c4_2, c4_3, c5, Int32.not_le.mp c5]) (by rfl)
    by_cases c4_4 : ms (38 + 14 * e + 0) = 5
    · refine v_topi 5 c4_4 ?_
      refine v_tabIn dX5_growsIn_24 (by decide) (by decide) (off := 61) (by decide) 85 (by decide) ?_
      refine v_iload_n dX5_growsIn_85 0 rfl 86 rfl ?_
      refine v_iconst dX5_growsIn_86 2 rfl 87 rfl ?_
      refine v_idiv dX5_growsIn_87 (by decide) 88 rfl ?_
      refine v_bipush dX5_growsIn_88 6 rfl 90 rfl ?_
      refine v_iadd dX5_growsIn_90 91 rfl ?_
      exact v_iret dX5_growsIn_91 (by simp [-Nat.add_zero, kGrows, Int32.zero_sub, c1, Int32.not_le.mp c1, c4_0, c4_1, c4_2, c4_3, c4_4]) (by rfl)
    refine v_tabOut dX5_growsIn_24 (sw_out (lo := 1) (hi := 5) (by decide) (by decide) (fun k h1 h2 => by rcases (show k = 1 ∨ k = 2 ∨ k = 3 ∨ k = 4 ∨ k = 5 by omega) with rfl | rfl | rfl | rfl | rfl <;> first | exact c4_0 | exact c4_1 | exact c4_2 | exact c4_3 | exact c4_4)) 92 (by decide) ?_
    refine v_iload_n dX5_growsIn_92 0 rfl 93 rfl ?_
    exact v_iret dX5_growsIn_93 (by simp [-Nat.add_zero, kGrows, Int32.zero_sub, c1, Int32.not_le.mp c1, c4_0, c4_1, c4_2, c4_3, c4_4]) (by rfl)
set_option maxHeartbeats 1000000 in
set_option maxRecDepth 4000 in
theorem c_X5_losesOf (l : Launch) {G : Gl} {K : CS} {ms : Nat → Int32} {mk : Nat → Int32} {mo : Nat → Int32} {ma : Nat → Int32} {mf : Nat → Int32} {ik : Int32} {mt : Nat → Int32} {td : Nat} {fr : Nat} {tt : Nat} {vl : Int32} {wr : Int32} {mb : Nat → Int32} {mz : Nat → Int32} {nu : Nat → Int64} {mv : Nat → Int64} {e : Nat} (he : e < 8)  : Ct l G yX5_losesOf cX5_losesOf 3 (some .int) 2 43 [.ref (ga G (93)), .int (nI e)] (K, (ms, mk, mo, ma, mf, ik, mt, td, fr, tt, vl, wr, mb, mz, nu, mv)) (some (.int (mLoses (ms (38 + 14 * e + 0)) (ms (38 + 14 * e + 1))))) (K, (ms, mk, mo, ma, mf, ik, mt, td, fr, tt, vl, wr, mb, mz, nu, mv)) := by
  refine Ct.of (own := RX5) (by decide) rfl (Nat.le_of_ble_eq_true rfl) rfl (fun X => ?_)
  refine v_aload_n dX5_losesOf_0 0 rfl 1 rfl ?_
  refine v_iload_n dX5_losesOf_1 1 rfl 2 rfl ?_
  refine v_iconst dX5_losesOf_2 1 rfl 3 rfl ?_
  refine v_callV (c_X5_its l (e := e) (k := 1) (by omega) (by omega)) kal_X5_its rfl dX5_losesOf_3 qw_810 qw_812 qw_22 rfl (by decide) (cel_mod G _) (by decide) [] (Nat.le_of_ble_eq_true rfl) rfl rfl 6 rfl ?_
  refine v_bipush dX5_losesOf_6 10 rfl 8 rfl ?_
  refine v_idiv dX5_losesOf_8 (by decide) 9 rfl ?_
  refine v_istore_n dX5_losesOf_9 2 rfl (by decide) [(2, .int ((ms (38 + 14 * e + 1)) / 10)), (0, .ref (ga G (93))), (1, .int (nI e))] rfl 10 rfl ?_
  refine v_aload_n dX5_losesOf_10 1 rfl 11 rfl ?_
  refine v_iload_n dX5_losesOf_11 2 rfl 12 rfl ?_
  refine v_iconst dX5_losesOf_12 0 rfl 13 rfl ?_
  refine v_callV (c_X5_its l (e := e) (k := 0) (by omega) (by omega)) kal_X5_its rfl dX5_losesOf_13 qw_810 qw_812 qw_22 rfl (by decide) (cel_mod G _) (by decide) [] (Nat.le_of_ble_eq_true rfl) rfl rfl 16 rfl ?_
  by_cases c1_0 : ms (38 + 14 * e + 0) = 1
  · refine v_topi 1 c1_0 ?_
    refine v_tabIn dX5_losesOf_16 (by decide) (by decide) (off := 36) (by decide) 52 (by decide) ?_
    refine v_iconst dX5_losesOf_52 0 rfl 53 rfl ?_
    exact v_iret dX5_losesOf_53 (by simp [-Nat.add_zero, mLoses, c1_0]) (by rfl)
  by_cases c1_1 : ms (38 + 14 * e + 0) = 2
  · refine v_topi 2 c1_1 ?_
    refine v_tabIn dX5_losesOf_16 (by decide) (by decide) (off := 38) (by decide) 54 (by decide) ?_
    refine v_iconst dX5_losesOf_54 2 rfl 55 rfl ?_
    refine v_iload_n dX5_losesOf_55 0 rfl 56 rfl ?_
    refine v_imul dX5_losesOf_56 57 rfl ?_
    exact v_iret dX5_losesOf_57 (by simp [-Nat.add_zero, mLoses, c1_0, c1_1]) (by rfl)
  by_cases c1_2 : ms (38 + 14 * e + 0) = 3
  · refine v_topi 3 c1_2 ?_
    refine v_tabIn dX5_losesOf_16 (by decide) (by decide) (off := 59) (by decide) 75 (by decide) ?_
    refine v_iload_n dX5_losesOf_75 0 rfl 76 rfl ?_
    exact v_iret dX5_losesOf_76 (by simp [-Nat.add_zero, mLoses, c1_0, c1_1, c1_2]) (by rfl)
  by_cases c1_3 : ms (38 + 14 * e + 0) = 4
  · refine v_topi 4 c1_3 ?_
    refine v_tabIn dX5_losesOf_16 (by decide) (by decide) (off := 42) (by decide) 58 (by decide) ?_
    refine v_iconst dX5_losesOf_58 1 rfl 59 rfl ?_
    exact v_iret dX5_losesOf_59 (by simp [-Nat.add_zero, mLoses, c1_0, c1_1, c1_2, c1_3]) (by rfl)
  by_cases c1_4 : ms (38 + 14 * e + 0) = 5
  · refine v_topi 5 c1_4 ?_
    refine v_tabIn dX5_losesOf_16 (by decide) (by decide) (off := 44) (by decide) 60 (by decide) ?_
    refine v_iload_n dX5_losesOf_60 0 rfl 61 rfl ?_
    refine v_iconst dX5_losesOf_61 1 rfl 62 rfl ?_
    refine v_icmp_le dX5_losesOf_62 73 (by decide) 65 rfl (fun c2 => ?_) (fun c2 => ?_)
    · skip
      refine v_iconst dX5_losesOf_73 0 rfl 74 rfl ?_
      exact v_iret dX5_losesOf_74 (by simp [-Nat.add_zero, mLoses, c1_0, c1_1, c1_2, c1_3, c1_4, c2, Int32.not_lt.mpr c2]) (by rfl)
    · skip
      refine v_iconst dX5_losesOf_65 2 rfl 66 rfl ?_
      refine v_iload_n dX5_losesOf_66 0 rfl 67 rfl ?_
      refine v_imul dX5_losesOf_67 68 rfl ?_
      refine v_iconst dX5_losesOf_68 2 rfl 69 rfl ?_
      refine v_isub dX5_losesOf_69 70 rfl ?_
      refine v_goto dX5_losesOf_70 74 (by decide) ?_
      exact v_iret dX5_losesOf_74 (by simp [-Nat.add_zero, mLoses, c1_0, c1_1, c1_2, c1_3, c1_4, c2, Int32.not_le.mp c2]) (by rfl)
  refine v_tabOut dX5_losesOf_16 (sw_out (lo := 1) (hi := 5) (by decide) (by decide) (fun k h1 h2 => by rcases (show k = 1 ∨ k = 2 ∨ k = 3 ∨ k = 4 ∨ k = 5 by omega) with rfl | rfl | rfl | rfl | rfl <;> first | exact c1_0 | exact c1_1 | exact c1_2 | exact c1_3 | exact c1_4)) 75 (by decide) ?_
  refine v_iload_n dX5_losesOf_75 0 rfl 76 rfl ?_
  exact v_iret dX5_losesOf_76 (by simp [-Nat.add_zero, mLoses, c1_0, c1_1, c1_2, c1_3, c1_4]) (by rfl)
set_option maxHeartbeats 1000000 in
set_option maxRecDepth 4000 in
theorem c_X5_calmsOf (l : Launch) {G : Gl} {K : CS} {ms : Nat → Int32} {mk : Nat → Int32} {mo : Nat → Int32} {ma : Nat → Int32} {mf : Nat → Int32} {ik : Int32} {mt : Nat → Int32} {td : Nat} {fr : Nat} {tt : Nat} {vl : Int32} {wr : Int32} {mb : Nat → Int32} {mz : Nat → Int32} {nu : Nat → Int64} {mv : Nat → Int64} {e : Nat} (he : e < 8)  : Ct l G yX5_calmsOf cX5_calmsOf 2 (some .int) 2 43 [.ref (ga G (93)), .int (nI e)] (K, (ms, mk, mo, ma, mf, ik, mt, td, fr, tt, vl, wr, mb, mz, nu, mv)) (some (.int (kCalms (ms (38 + 14 * e + 0))))) (K, (ms, mk, mo, ma, mf, ik, mt, td, fr, tt, vl, wr, mb, mz, nu, mv)) := by
  refine Ct.of (own := RX5) (by decide) rfl (Nat.le_of_ble_eq_true rfl) rfl (fun X => ?_)
  refine v_aload_n dX5_calmsOf_0 0 rfl 1 rfl ?_
  refine v_iload_n dX5_calmsOf_1 1 rfl 2 rfl ?_
  refine v_iconst dX5_calmsOf_2 0 rfl 3 rfl ?_
  refine v_callV (c_X5_its l (e := e) (k := 0) (by omega) (by omega)) kal_X5_its rfl dX5_calmsOf_3 qw_810 qw_812 qw_22 rfl (by decide) (cel_mod G _) (by decide) [] (Nat.le_of_ble_eq_true rfl) rfl rfl 6 rfl ?_
  by_cases c1_0 : ms (38 + 14 * e + 0) = 1
  · refine v_topi 1 c1_0 ?_
    refine v_tabIn dX5_calmsOf_6 (by decide) (by decide) (off := 34) (by decide) 40 (by decide) ?_
    refine v_bipush dX5_calmsOf_40 20 rfl 42 rfl ?_
    exact v_iret dX5_calmsOf_42 (by simp [-Nat.add_zero, kCalms, c1_0]) (by rfl)
  by_cases c1_1 : ms (38 + 14 * e + 0) = 2
  · refine v_topi 2 c1_1 ?_
    refine v_tabIn dX5_calmsOf_6 (by decide) (by decide) (off := 37) (by decide) 43 (by decide) ?_
    refine v_iconst dX5_calmsOf_43 5 rfl 44 rfl ?_
    exact v_iret dX5_calmsOf_44 (by simp [-Nat.add_zero, kCalms, c1_0, c1_1]) (by rfl)
  by_cases c1_2 : ms (38 + 14 * e + 0) = 3
  · refine v_topi 3 c1_2 ?_
    refine v_tabIn dX5_calmsOf_6 (by decide) (by decide) (off := 42) (by decide) 48 (by decide) ?_
    refine v_bipush dX5_calmsOf_48 10 rfl 50 rfl ?_
    exact v_iret dX5_calmsOf_50 (by simp [-Nat.add_zero, kCalms, c1_0, c1_1, c1_2]) (by rfl)
  by_cases c1_3 : ms (38 + 14 * e + 0) = 4
  · refine v_topi 4 c1_3 ?_
    refine v_tabIn dX5_calmsOf_6 (by decide) (by decide) (off := 34) (by decide) 40 (by decide) ?_
    refine v_bipush dX5_calmsOf_40 20 rfl 42 rfl ?_
    exact v_iret dX5_calmsOf_42 (by simp [-Nat.add_zero, kCalms, c1_0, c1_1, c1_2, c1_3]) (by rfl)
  by_cases c1_4 : ms (38 + 14 * e + 0) = 5
  · refine v_topi 5 c1_4 ?_
    refine v_tabIn dX5_calmsOf_6 (by decide) (by decide) (off := 39) (by decide) 45 (by decide) ?_
    refine v_bipush dX5_calmsOf_45 15 rfl 47 rfl ?_
    exact v_iret dX5_calmsOf_47 (by simp [-Nat.add_zero, kCalms, c1_0, c1_1, c1_2, c1_3, c1_4]) (by rfl)
  refine v_tabOut dX5_calmsOf_6 (sw_out (lo := 1) (hi := 5) (by decide) (by decide) (fun k h1 h2 => by rcases (show k = 1 ∨ k = 2 ∨ k = 3 ∨ k = 4 ∨ k = 5 by omega) with rfl | rfl | rfl | rfl | rfl <;> first | exact c1_0 | exact c1_1 | exact c1_2 | exact c1_3 | exact c1_4)) 48 (by decide) ?_
  refine v_bipush dX5_calmsOf_48 10 rfl 50 rfl ?_
  exact v_iret dX5_calmsOf_50 (by simp [-Nat.add_zero, kCalms, c1_0, c1_1, c1_2, c1_3, c1_4]) (by rfl)
set_option maxHeartbeats 1000000 in
set_option maxRecDepth 4000 in
theorem c_X5_burrsIn (l : Launch) {G : Gl} {K : CS} {ms : Nat → Int32} {mk : Nat → Int32} {mo : Nat → Int32} {ma : Nat → Int32} {mf : Nat → Int32} {ik : Int32} {mt : Nat → Int32} {td : Nat} {fr : Nat} {tt : Nat} {vl : Int32} {wr : Int32} {mb : Nat → Int32} {mz : Nat → Int32} {nu : Nat → Int64} {mv : Nat → Int64} {e : Nat} (he : e < 8) (x : Int32) : Ct l G yX5_burrsIn cX5_burrsIn 4 (some .int) 2 43 [.ref (ga G (93)), .int (nI e), .int x] (K, (ms, mk, mo, ma, mf, ik, mt, td, fr, tt, vl, wr, mb, mz, nu, mv)) (some (.int (kBurrs (ms (38 + 14 * e + 0)) x))) (K, (ms, mk, mo, ma, mf, ik, mt, td, fr, tt, vl, wr, mb, mz, nu, mv)) := by
  refine Ct.of (own := RX5) (by decide) rfl (Nat.le_of_ble_eq_true rfl) rfl (fun X => ?_)
  refine v_iload_n dX5_burrsIn_0 2 rfl 1 rfl ?_
  refine v_bipush dX5_burrsIn_1 (-8) rfl 3 rfl ?_
  refine v_icmp_ge dX5_burrsIn_3 10 (by decide) 6 rfl (fun c1 => ?_) (fun c1 => ?_)
  · skip
    refine v_iconst dX5_burrsIn_10 0 rfl 11 rfl ?_
    refine v_istore_n dX5_burrsIn_11 3 rfl (by decide) [(3, .int 0), (0, .ref (ga G (93))), (1, .int (nI e)), (2, .int x)] rfl 12 rfl ?_
    refine v_aload_n dX5_burrsIn_12 1 rfl 13 rfl ?_
    refine v_iload_n dX5_burrsIn_13 2 rfl 14 rfl ?_
    refine v_iconst dX5_burrsIn_14 0 rfl 15 rfl ?_
    refine v_callV (c_X5_its l (e := e) (k := 0) (by omega) (by omega)) kal_X5_its rfl dX5_burrsIn_15 qw_810 qw_812 qw_22 rfl (by decide) (cel_mod G _) (by decide) [] (Nat.le_of_ble_eq_true rfl) rfl rfl 18 rfl ?_
    by_cases c2_0 : ms (38 + 14 * e + 0) = 1
    · refine v_topi 1 c2_0 ?_
      refine v_tabIn dX5_burrsIn_18 (by decide) (by decide) (off := 34) (by decide) 52 (by decide) ?_
      refine v_iload_n dX5_burrsIn_52 0 rfl 53 rfl ?_
      refine v_iconst dX5_burrsIn_53 1 rfl 54 rfl ?_
      refine v_iadd dX5_burrsIn_54 55 rfl ?_
      exact v_iret dX5_burrsIn_55 (by simp [-Nat.add_zero, kBurrs, c1, Int32.not_lt.mpr c1, c2_0]) (by rfl)
    by_cases c2_1 : ms (38 + 14 * e + 0) = 2
    · refine v_topi 2 c2_1 ?_
      refine v_tabIn dX5_burrsIn_18 (by decide) (by decide) (off := 38) (by decide) 56 (by decide) ?_
      refine v_iconst dX5_burrsIn_56 0 rfl 57 rfl ?_
      exact v_iret dX5_burrsIn_57 (by simp [-Nat.add_zero, kBurrs, c1, Int32.not_lt.mpr c1, c2_0, c2_1]) (by rfl)
    by_cases c2_2 : ms (38 + 14 * e + 0) = 3
    · refine v_topi 3 c2_2 ?_
      refine v_tabIn dX5_burrsIn_18 (by decide) (by decide) (off := 44) (by decide) 62 (by decide) ?_
      refine v_iload_n dX5_burrsIn_62 0 rfl 63 rfl ?_
      exact v_iret dX5_burrsIn_63 (by simp [-Nat.add_zero, kBurrs, c1, Int32.not_lt.mpr c1, c2_0, c2_1, c2_2]) (by rfl)
    by_cases c2_3 : ms (38 + 14 * e + 0) = 4
    · refine v_topi 4 c2_3 ?_
      refine v_tabIn dX5_burrsIn_18 (by decide) (by decide) (off := 40) (by decide) 58 (by decide) ?_
      refine v_iload_n dX5_burrsIn_58 0 rfl 59 rfl ?_
      refine v_iconst dX5_burrsIn_59 3 rfl 60 rfl ?_
      refine v_iadd dX5_burrsIn_60 61 rfl ?_
      exact v_iret dX5_burrsIn_61 (by simp [-Nat.add_zero, kBurrs, c1, Int32.not_lt.mpr c1, c2_0, c2_1, c2_2, c2_3]) (by rfl)
    by_cases c2_4 : ms (38 + 14 * e + 0) = 5
    · refine v_topi 5 c2_4 ?_
      refine v_tabIn dX5_burrsIn_18 (by decide) (by decide) (off := 38) (by decide) 56 (by decide) ?_
      refine v_iconst dX5_burrsIn_56 0 rfl 57 rfl ?_
      exact v_iret dX5_burrsIn_57 (by simp [-Nat.add_zero, kBurrs, c1, Int32.not_lt.mpr c1, c2_0, c2_1, c2_2, c2_3, c2_4]) (by rfl)
    refine v_tabOut dX5_burrsIn_18 (sw_out (lo := 1) (hi := 5) (by decide) (by decide) (fun k h1 h2 => by rcases (show k = 1 ∨ k = 2 ∨ k = 3 ∨ k = 4 ∨ k = 5 by omega) with rfl | rfl | rfl | rfl | rfl <;> first | exact c2_0 | exact c2_1 | exact c2_2 | exact c2_3 | exact c2_4)) 62 (by decide) ?_
    refine v_iload_n dX5_burrsIn_62 0 rfl 63 rfl ?_
    exact v_iret dX5_burrsIn_63 (by simp [-Nat.add_zero, kBurrs, c1, Int32.not_lt.mpr c1, c2_0, c2_1, c2_2, c2_3, c2_4]) (by rfl)
  · skip
    refine v_iconst dX5_burrsIn_6 1 rfl 7 rfl ?_
    refine v_goto dX5_burrsIn_7 11 (by decide) ?_
    refine v_istore_n dX5_burrsIn_11 3 rfl (by decide) [(3, .int 1), (0, .ref (ga G (93))), (1, .int (nI e)), (2, .int x)] rfl 12 rfl ?_
    refine v_aload_n dX5_burrsIn_12 1 rfl 13 rfl ?_
    refine v_iload_n dX5_burrsIn_13 2 rfl 14 rfl ?_
    refine v_iconst dX5_burrsIn_14 0 rfl 15 rfl ?_
    refine v_callV (c_X5_its l (e := e) (k := 0) (by omega) (by omega)) kal_X5_its rfl dX5_burrsIn_15 qw_810 qw_812 qw_22 rfl (by decide) (cel_mod G _) (by decide) [] (Nat.le_of_ble_eq_true rfl) rfl rfl 18 rfl ?_
    by_cases c3_0 : ms (38 + 14 * e + 0) = 1
    · refine v_topi 1 c3_0 ?_
      refine v_tabIn dX5_burrsIn_18 (by decide) (by decide) (off := 34) (by decide) 52 (by decide) ?_
      refine v_iload_n dX5_burrsIn_52 0 rfl 53 rfl ?_
      refine v_iconst dX5_burrsIn_53 1 rfl 54 rfl ?_
      refine v_iadd dX5_burrsIn_54 55 rfl ?_
      exact v_iret dX5_burrsIn_55 (by simp [-Nat.add_zero, kBurrs, c1, Int32.not_le.mp c1, c3_0]) (by rfl)
    by_cases c3_1 : ms (38 + 14 * e + 0) = 2
    · refine v_topi 2 c3_1 ?_
      refine v_tabIn dX5_burrsIn_18 (by decide) (by decide) (off := 38) (by decide) 56 (by decide) ?_
      refine v_iconst dX5_burrsIn_56 0 rfl 57 rfl ?_
      exact v_iret dX5_burrsIn_57 (by simp [-Nat.add_zero, kBurrs, c1, Int32.not_le.mp c1, c3_0, c3_1]) (by rfl)
    by_cases c3_2 : ms (38 + 14 * e + 0) = 3
    · refine v_topi 3 c3_2 ?_
      refine v_tabIn dX5_burrsIn_18 (by decide) (by decide) (off := 44) (by decide) 62 (by decide) ?_
      refine v_iload_n dX5_burrsIn_62 0 rfl 63 rfl ?_
      exact v_iret dX5_burrsIn_63 (by simp [-Nat.add_zero, kBurrs, c1, Int32.not_le.mp c1, c3_0, c3_1, c3_2]) (by rfl)
    by_cases c3_3 : ms (38 + 14 * e + 0) = 4
    · refine v_topi 4 c3_3 ?_
      refine v_tabIn dX5_burrsIn_18 (by decide) (by decide) (off := 40) (by decide) 58 (by decide) ?_
      refine v_iload_n dX5_burrsIn_58 0 rfl 59 rfl ?_
      refine v_iconst dX5_burrsIn_59 3 rfl 60 rfl ?_
      refine v_iadd dX5_burrsIn_60 61 rfl ?_
      exact v_iret dX5_burrsIn_61 (by simp [-Nat.add_zero, kBurrs, c1, Int32.not_le.mp c1, c3_0, c3_1, c3_2, c3_3]) (by rfl)
    by_cases c3_4 : ms (38 + 14 * e + 0) = 5
    · refine v_topi 5 c3_4 ?_
      refine v_tabIn dX5_burrsIn_18 (by decide) (by decide) (off := 38) (by decide) 56 (by decide) ?_
      refine v_iconst dX5_burrsIn_56 0 rfl 57 rfl ?_
      exact v_iret dX5_burrsIn_57 (by simp [-Nat.add_zero, kBurrs, c1, Int32.not_le.mp c1, c3_0, c3_1, c3_2, c3_3, c3_4]) (by rfl)
    refine v_tabOut dX5_burrsIn_18 (sw_out (lo := 1) (hi := 5) (by decide) (by decide) (fun k h1 h2 => by rcases (show k = 1 ∨ k = 2 ∨ k = 3 ∨ k = 4 ∨ k = 5 by omega) with rfl | rfl | rfl | rfl | rfl <;> first | exact c3_0 | exact c3_1 | exact c3_2 | exact c3_3 | exact c3_4)) 62 (by decide) ?_
    refine v_iload_n dX5_burrsIn_62 0 rfl 63 rfl ?_
    exact v_iret dX5_burrsIn_63 (by simp [-Nat.add_zero, kBurrs, c1, Int32.not_le.mp c1, c3_0, c3_1, c3_2, c3_3, c3_4]) (by rfl)
