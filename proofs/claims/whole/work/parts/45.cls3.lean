set_option maxHeartbeats 1000000 in
set_option maxRecDepth 4000 in
theorem c_X4_image (l : Launch) {G : Gl} {K : CS} {M : MS} (hsz : (K.1 0).2.1 ≤ 8) : Ct l G yX4_image cX4_image 1 (some .int) 3 69 [.ref (ga G (0))] (K, M) (some (.int (cImage K).1)) ((cImage K).2, M) := by
  obtain ⟨par, tp, sh, tl, hi⟩ := K
  dsimp only at hsz
  refine Ct.of (own := RX4) (by decide) rfl (Nat.le_of_ble_eq_true rfl) rfl (fun X => ?_)
  refine v_aload_n dX4_image_0 0 rfl 1 rfl ?_
  refine v_get (i := 1) (ci := 4) (T := TX4) (C := RX4) (N := 8) (v := .ref (ga G (1 + 1))) dX4_image_1 inB4 rfl qw_197 rfl (by decide) (by decide) (cel_obj G _) rfl 4 rfl ?_
  refine v_aload_n dX4_image_4 0 rfl 5 rfl ?_
  refine v_get (i := 0) (ci := 4) (T := TX4) (C := RX4) (N := 8) (v := .ref (ga G (1 + 0))) dX4_image_5 inB4 rfl qw_196 rfl (by decide) (by decide) (cel_obj G _) rfl 8 rfl ?_
  refine v_w (w2 := ((va_up par 1 ((par 1).1, (par 1).2.1, (par 1).2.2.1, (par 1).2.2.2.1, (par 1).2.2.2.2.1, (par 1).2.2.2.2.2.1, (par 1).2.2.2.2.2.2), tp, sh, tl, hi), M)) (congrArg (fun z => ((z, tp, sh, tl, hi), M)) (va_up_i par 1).symm) ?_
  refine v_callV (c_X1_become l h13 (q := 0) h03 (by decide) (by omega)) kal_X1_become rfl dX4_image_8 qw_428 qw_429 qw_430 rfl (k_par h13) (f_par h13) (by decide) [] (Nat.le_of_ble_eq_true rfl) rfl rfl 11 rfl ?_
  refine v_aload_n dX4_image_11 0 rfl 12 rfl ?_
  refine v_iconst dX4_image_12 1 rfl 13 rfl ?_
  refine v_put (i := 7) (ci := 4) (T := TX4) (C := RX4) (N := 8) (ty := .boolean) (w2 := ((va_up par 1 ((pCopy (par 1) (par 0)).1, (pCopy (par 1) (par 0)).2.1, (pCopy (par 1) (par 0)).2.2.1, (pCopy (par 1) (par 0)).2.2.2.1, (pCopy (par 1) (par 0)).2.2.2.2.1, (pCopy (par 1) (par 0)).2.2.2.2.2.1, (pCopy (par 1) (par 0)).2.2.2.2.2.2), tp, sh, tl, 1), M)) dX4_image_13 inB4 tyX4 tyX4_ok nmX4 rfl qw_203 rfl rfl rfl rfl rfl (by decide) (by decide) (cel_obj G _) (Nat.le_of_ble_eq_true rfl) u_hi 16 rfl ?_
  refine v_iconst dX4_image_16 1 rfl 17 rfl ?_
  exact v_iret dX4_image_17 (by rfl) (by rfl)
set_option maxHeartbeats 1000000 in
set_option maxRecDepth 4000 in
theorem c_X4_undo (l : Launch) {G : Gl} {K : CS} {M : MS} (hsz1 : (K.1 1).2.1 ≤ 8) : Ct l G yX4_undo cX4_undo 1 (some .int) 3 69 [.ref (ga G (0))] (K, M) (some (.int (cUndo K).1)) ((cUndo K).2, M) := by
  obtain ⟨par, tp, sh, tl, hi⟩ := K
  dsimp only at hsz1
  refine Ct.of (own := RX4) (by decide) rfl (Nat.le_of_ble_eq_true rfl) rfl (fun X => ?_)
  refine v_aload_n dX4_undo_0 0 rfl 1 rfl ?_
  refine v_get (i := 7) (ci := 4) (T := TX4) (C := RX4) (N := 8) (v := .int hi) dX4_undo_1 inB4 rfl qw_203 rfl (by decide) (by decide) (cel_obj G _) rfl 4 rfl ?_
  refine v_if_ne dX4_undo_4 13 (by decide) 7 rfl (fun c1 => ?_) (fun c1 => ?_)
  · skip
    refine v_aload_n dX4_undo_13 0 rfl 14 rfl ?_
    refine v_get (i := 0) (ci := 4) (T := TX4) (C := RX4) (N := 8) (v := .ref (ga G (1 + 0))) dX4_undo_14 inB4 rfl qw_196 rfl (by decide) (by decide) (cel_obj G _) rfl 17 rfl ?_
    refine v_aload_n dX4_undo_17 0 rfl 18 rfl ?_
    refine v_get (i := 1) (ci := 4) (T := TX4) (C := RX4) (N := 8) (v := .ref (ga G (1 + 1))) dX4_undo_18 inB4 rfl qw_197 rfl (by decide) (by decide) (cel_obj G _) rfl 21 rfl ?_
    refine v_w (w2 := ((va_up par 0 ((par 0).1, (par 0).2.1, (par 0).2.2.1, (par 0).2.2.2.1, (par 0).2.2.2.2.1, (par 0).2.2.2.2.2.1, (par 0).2.2.2.2.2.2), tp, sh, tl, hi), M)) (congrArg (fun z => ((z, tp, sh, tl, hi), M)) (va_up_i par 0).symm) ?_
    refine v_callV (c_X1_become l h03 (q := 1) h13 (by decide) (by omega)) kal_X1_become rfl dX4_undo_21 qw_428 qw_429 qw_430 rfl (k_par h03) (f_par h03) (by decide) [] (Nat.le_of_ble_eq_true rfl) rfl rfl 24 rfl ?_
    refine v_aload_n dX4_undo_24 0 rfl 25 rfl ?_
    refine v_get (i := 0) (ci := 4) (T := TX4) (C := RX4) (N := 8) (v := .ref (ga G (1 + 0))) dX4_undo_25 inB4 rfl qw_196 rfl (by decide) (by decide) (cel_obj G _) rfl 28 rfl ?_
    refine v_get (i := 1) (ci := 1) (T := TX1) (C := RX1) (N := 7) (v := .int (nI (pCopy (par 0) (par 1)).2.1)) dX4_undo_28 inB1 rfl qw_118 rfl (by decide) (k_par h03) (f_par h03) rfl 31 rfl ?_
    exact v_iret dX4_undo_31 (by simp [cUndo, cFind, kP, c1, Ne.symm c1]; try rfl) (by simp [cUndo, cFind, kP, c1, Ne.symm c1]; try rfl)
  · skip
    refine v_aload_n dX4_undo_7 0 rfl 8 rfl ?_
    refine v_iconst dX4_undo_8 3 rfl 9 rfl ?_
    refine v_callV (c_X4_found l (k := 3) (by decide)) kal_X4_found rfl dX4_undo_9 qw_234 qw_236 qw_0 rfl (by decide) (cel_obj G _) (by decide) [] (Nat.le_of_ble_eq_true rfl) rfl rfl 12 rfl ?_
    exact v_iret dX4_undo_12 (by simp [cUndo, cFind, kP, c1]; try rfl) (by simp [cUndo, cFind, kP, c1]; try rfl)
set_option maxHeartbeats 1000000 in
set_option maxRecDepth 4000 in
theorem c_X4_tear (l : Launch) {G : Gl} {K : CS} {M : MS}  : Ct l G yX4_tear cX4_tear 2 (some .int) 0 0 [.ref (ga G (0))] (K, M) (some (.int (cTear K).1)) ((cTear K).2, M) := by
  obtain ⟨par, tp, sh, tl, hi⟩ := K
  refine Ct.of (own := RX4) (by decide) rfl (Nat.le_of_ble_eq_true rfl) rfl (fun X => ?_)
  refine v_aload_n dX4_tear_0 0 rfl 1 rfl ?_
  refine v_get (i := 7) (ci := 4) (T := TX4) (C := RX4) (N := 8) (v := .int hi) dX4_tear_1 inB4 rfl qw_203 rfl (by decide) (by decide) (cel_obj G _) rfl 4 rfl ?_
  refine v_if_eq dX4_tear_4 11 (by decide) 7 rfl (fun c1 => ?_) (fun c1 => ?_)
  · skip
    refine v_iconst dX4_tear_11 0 rfl 12 rfl ?_
    refine v_istore_n dX4_tear_12 1 rfl (by decide) [(1, .int 0), (0, .ref (ga G (0)))] rfl 13 rfl ?_
    refine v_aload_n dX4_tear_13 1 rfl 14 rfl ?_
    refine v_iconst dX4_tear_14 0 rfl 15 rfl ?_
    refine v_put (i := 7) (ci := 4) (T := TX4) (C := RX4) (N := 8) (ty := .boolean) (w2 := ((par, tp, sh, tl, 0), M)) dX4_tear_15 inB4 tyX4 tyX4_ok nmX4 rfl qw_203 rfl rfl rfl rfl rfl (by decide) (by decide) (cel_obj G _) (Nat.le_of_ble_eq_true rfl) u_hi 18 rfl ?_
    refine v_iload_n dX4_tear_18 0 rfl 19 rfl ?_
    exact v_iret dX4_tear_19 (by simp [cTear, c1]) (by simp [cTear, c1])
  · skip
    refine v_iconst dX4_tear_7 1 rfl 8 rfl ?_
    refine v_goto dX4_tear_8 12 (by decide) ?_
    refine v_istore_n dX4_tear_12 1 rfl (by decide) [(1, .int 1), (0, .ref (ga G (0)))] rfl 13 rfl ?_
    refine v_aload_n dX4_tear_13 1 rfl 14 rfl ?_
    refine v_iconst dX4_tear_14 0 rfl 15 rfl ?_
    refine v_put (i := 7) (ci := 4) (T := TX4) (C := RX4) (N := 8) (ty := .boolean) (w2 := ((par, tp, sh, tl, 0), M)) dX4_tear_15 inB4 tyX4 tyX4_ok nmX4 rfl qw_203 rfl rfl rfl rfl rfl (by decide) (by decide) (cel_obj G _) (Nat.le_of_ble_eq_true rfl) u_hi 18 rfl ?_
    refine v_iload_n dX4_tear_18 0 rfl 19 rfl ?_
    exact v_iret dX4_tear_19 (by simp [cTear, c1, Ne.symm c1]) (by simp [cTear, c1, Ne.symm c1])
set_option maxHeartbeats 1000000 in
set_option maxRecDepth 4000 in
theorem c_X4_count (l : Launch) {G : Gl} {K : CS} {M : MS} (hsz : (K.1 0).2.1 ≤ 8) (a : Int32) : Ct l G yX4_count cX4_count 2 (some .int) 2 45 [.ref (ga G (0)), .int a] (K, M) (some (.int (cCount K a).1)) ((cCount K a).2, M) := by
  obtain ⟨par, tp, sh, tl, hi⟩ := K
  dsimp only at hsz
  refine Ct.of (own := RX4) (by decide) rfl (Nat.le_of_ble_eq_true rfl) rfl (fun X => ?_)
  refine v_iload_n dX4_count_0 1 rfl 1 rfl ?_
  by_cases c1_0 : a = 0
  · refine v_topi 0 c1_0 ?_
    refine v_tabIn dX4_count_1 (by decide) (by decide) (off := 31) (by decide) 32 (by decide) ?_
    refine v_aload_n dX4_count_32 0 rfl 33 rfl ?_
    refine v_get (i := 0) (ci := 4) (T := TX4) (C := RX4) (N := 8) (v := .ref (ga G (1 + 0))) dX4_count_33 inB4 rfl qw_196 rfl (by decide) (by decide) (cel_obj G _) rfl 36 rfl ?_
    refine v_get (i := 1) (ci := 1) (T := TX1) (C := RX1) (N := 7) (v := .int (nI (par 0).2.1)) dX4_count_36 inB1 rfl qw_118 rfl (by decide) (k_par h03) (cel_par G _ h03) rfl 39 rfl ?_
    exact v_iret dX4_count_39 (by simp [cCount, cFind, va_up_i, c1_0]) (by simp [cCount, cFind, va_up_i, c1_0])
  by_cases c1_1 : a = 1
  · refine v_topi 1 c1_1 ?_
    refine v_tabIn dX4_count_1 (by decide) (by decide) (off := 39) (by decide) 40 (by decide) ?_
    refine v_aload_n dX4_count_40 0 rfl 41 rfl ?_
    refine v_get (i := 4) (ci := 4) (T := TX4) (C := RX4) (N := 8) (v := .ref (ga G (81))) dX4_count_41 inB4 rfl qw_200 rfl (by decide) (by decide) (cel_obj G _) rfl 44 rfl ?_
    refine v_get (i := 1) (ci := 3) (T := TX3) (C := RX3) (N := 6) (v := .int (nI tp.2.1)) dX4_count_44 inB3 rfl qw_156 rfl (by decide) (by decide) (cel_tap G _) rfl 47 rfl ?_
    exact v_iret dX4_count_47 (by simp [cCount, cFind, va_up_i, c1_0, c1_1]) (by simp [cCount, cFind, va_up_i, c1_0, c1_1])
  by_cases c1_2 : a = 2
  · refine v_topi 2 c1_2 ?_
    refine v_tabIn dX4_count_1 (by decide) (by decide) (off := 47) (by decide) 48 (by decide) ?_
    refine v_aload_n dX4_count_48 0 rfl 49 rfl ?_
    refine v_get (i := 0) (ci := 4) (T := TX4) (C := RX4) (N := 8) (v := .ref (ga G (1 + 0))) dX4_count_49 inB4 rfl qw_196 rfl (by decide) (by decide) (cel_obj G _) rfl 52 rfl ?_
    refine v_w (w2 := ((va_up par 0 ((par 0).1, (par 0).2.1, (par 0).2.2.1, (par 0).2.2.2.1, (par 0).2.2.2.2.1, (par 0).2.2.2.2.2.1, (par 0).2.2.2.2.2.2), tp, sh, tl, hi), M)) (congrArg (fun z => ((z, tp, sh, tl, hi), M)) (va_up_i par 0).symm) ?_
    refine v_callV (c_X1_coatsWithWool l h03  ) kal_X1_coatsWithWool rfl dX4_count_52 qw_667 qw_668 qw_669 rfl (k_par h03) (f_par h03) (by decide) [] (Nat.le_of_ble_eq_true rfl) rfl rfl 55 rfl ?_
    exact v_iret dX4_count_55 (by simp [cCount, cFind, va_up_i, c1_0, c1_1, c1_2]) (by simp [cCount, cFind, va_up_i, c1_0, c1_1, c1_2])
  by_cases c1_3 : a = 3
  · refine v_topi 3 c1_3 ?_
    refine v_tabIn dX4_count_1 (by decide) (by decide) (off := 55) (by decide) 56 (by decide) ?_
    refine v_aload_n dX4_count_56 0 rfl 57 rfl ?_
    refine v_get (i := 0) (ci := 4) (T := TX4) (C := RX4) (N := 8) (v := .ref (ga G (1 + 0))) dX4_count_57 inB4 rfl qw_196 rfl (by decide) (by decide) (cel_obj G _) rfl 60 rfl ?_
    refine v_w (w2 := ((va_up par 0 ((par 0).1, (par 0).2.1, (par 0).2.2.1, (par 0).2.2.2.1, (par 0).2.2.2.2.1, (par 0).2.2.2.2.2.1, (par 0).2.2.2.2.2.2), tp, sh, tl, hi), M)) (congrArg (fun z => ((z, tp, sh, tl, hi), M)) (va_up_i par 0).symm) ?_
    refine v_callV (c_X1_frightOfAll l h03 (by omega) ) kal_X1_frightOfAll rfl dX4_count_60 qw_672 qw_673 qw_674 rfl (k_par h03) (f_par h03) (by decide) [] (Nat.le_of_ble_eq_true rfl) rfl rfl 63 rfl ?_
    exact v_iret dX4_count_63 (by simp [cCount, cFind, va_up_i, c1_0, c1_1, c1_2, c1_3]) (by simp [cCount, cFind, va_up_i, c1_0, c1_1, c1_2, c1_3])
  refine v_tabOut dX4_count_1 (sw_out (lo := 0) (hi := 3) (by decide) (by decide) (fun k h1 h2 => by rcases (show k = 0 ∨ k = 1 ∨ k = 2 ∨ k = 3 by omega) with rfl | rfl | rfl | rfl <;> first | exact c1_0 | exact c1_1 | exact c1_2 | exact c1_3)) 64 (by decide) ?_
  refine v_aload_n dX4_count_64 0 rfl 65 rfl ?_
  refine v_iconst dX4_count_65 0 rfl 66 rfl ?_
  refine v_callV (c_X4_found l (k := 0) (by decide)) kal_X4_found rfl dX4_count_66 qw_234 qw_236 qw_0 rfl (by decide) (cel_obj G _) (by decide) [] (Nat.le_of_ble_eq_true rfl) rfl rfl 69 rfl ?_
  exact v_iret dX4_count_69 (by simp [cCount, cFind, va_up_i, c1_0, c1_1, c1_2, c1_3]) (by simp [cCount, cFind, va_up_i, c1_0, c1_1, c1_2, c1_3])
set_option maxHeartbeats 1000000 in
set_option maxRecDepth 4000 in
theorem c_X4_status (l : Launch) {G : Gl} {K : CS} {M : MS} (a : Int32) : Ct l G yX4_status cX4_status 2 (some .int) 1 25 [.ref (ga G (0)), .int a] (K, M) (some (.int (cStatus K a).1)) ((cStatus K a).2, M) := by
  obtain ⟨par, tp, sh, tl, hi⟩ := K
  refine Ct.of (own := RX4) (by decide) rfl (Nat.le_of_ble_eq_true rfl) rfl (fun X => ?_)
  refine v_iload_n dX4_status_0 1 rfl 1 rfl ?_
  refine v_iconst dX4_status_1 (-1) rfl 2 rfl ?_
  refine v_icmp_ne dX4_status_2 13 (by decide) 5 rfl (fun c1 => ?_) (fun c1 => ?_)
  · skip
    refine v_iload_n dX4_status_13 1 rfl 14 rfl ?_
    refine v_iconst dX4_status_14 0 rfl 15 rfl ?_
    refine v_bipush dX4_status_15 6 rfl 17 rfl ?_
    refine v_callS (c_X4_isWithin l a 0 6 (lo := 0) (hi := 6) rfl rfl) kal_X4_isWithin rfl dX4_status_17 qw_228 qw_229 (by decide) [] (Nat.le_of_ble_eq_true rfl) rfl rfl 20 rfl ?_
    refine v_ifb_ne dX4_status_20 29 (by decide) 23 rfl (fun c2 => ?_) (fun c2 => ?_)
    · skip
      obtain ⟨ja, h1ja, h2ja, rfl⟩ := inb_ix (lo := 0) (hi := 6) c2
      have eja : (nI ja).toNatClampNeg = ja := nI_clamp (by omega)
      refine v_aload_n dX4_status_29 0 rfl 30 rfl ?_
      refine v_get (i := 6) (ci := 4) (T := TX4) (C := RX4) (N := 8) (v := .ref (ga G (92))) dX4_status_30 inB4 rfl qw_202 rfl (by decide) (by decide) (cel_obj G _) rfl 33 rfl ?_
      refine v_iload_n dX4_status_33 1 rfl 34 rfl ?_
      refine v_iald (a := tl) dX4_status_34 (by decide) (cel_tol G _) ja rfl (by omega) (by decide) 35 rfl ?_
      exact v_iret dX4_status_35 (by simp only [cStatus, c2, eja] <;> simp [cFind, c1, Ne.symm c1, eja]; try decide) (by simp only [cStatus, c2, eja] <;> simp [cFind, c1, Ne.symm c1, eja]; try decide)
    · skip
      refine v_aload_n dX4_status_23 0 rfl 24 rfl ?_
      refine v_iconst dX4_status_24 0 rfl 25 rfl ?_
      refine v_callV (c_X4_found l (k := 0) (by decide)) kal_X4_found rfl dX4_status_25 qw_234 qw_236 qw_0 rfl (by decide) (cel_obj G _) (by decide) [] (Nat.le_of_ble_eq_true rfl) rfl rfl 28 rfl ?_
      exact v_iret dX4_status_28 (by simp only [cStatus, c2] <;> simp [cFind, c1, Ne.symm c1]; try decide) (by simp only [cStatus, c2] <;> simp [cFind, c1, Ne.symm c1]; try decide)
  · skip
    refine v_aload_n dX4_status_5 0 rfl 6 rfl ?_
    refine v_get (i := 6) (ci := 4) (T := TX4) (C := RX4) (N := 8) (v := .ref (ga G (92))) dX4_status_6 inB4 rfl qw_202 rfl (by decide) (by decide) (cel_obj G _) rfl 9 rfl ?_
    refine v_callS (c_X4_sum l (w := ((par, tp, sh, tl, hi), M)) (k9 := 92) (N9 := 7) (a9 := tl) (by decide) (cel_tol G _) (by decide)) kal_X4_sum rfl dX4_status_9 qw_251 qw_252 (by decide) [] (Nat.le_of_ble_eq_true rfl) rfl rfl 12 rfl ?_
    exact v_iret dX4_status_12 (by simp only [cStatus, true_and] <;> simp [cFind, c1]; try decide) (by simp only [cStatus, true_and] <;> simp [cFind, c1]; try decide)
set_option maxHeartbeats 1000000 in
set_option maxRecDepth 4000 in
theorem c_X4_wipe (l : Launch) {G : Gl} {K : CS} {M : MS}  : Ct l G yX4_wipe cX4_wipe 2 (some .int) 0 0 [.ref (ga G (0))] (K, M) (some (.int (cWipe K).1)) ((cWipe K).2, M) := by
  obtain ⟨par, tp, sh, tl, hi⟩ := K
  refine Ct.of (own := RX4) (by decide) rfl (Nat.le_of_ble_eq_true rfl) rfl (fun X => ?_)
  refine v_aload_n dX4_wipe_0 0 rfl 1 rfl ?_
  refine v_get (i := 4) (ci := 4) (T := TX4) (C := RX4) (N := 8) (v := .ref (ga G (81))) dX4_wipe_1 inB4 rfl qw_200 rfl (by decide) (by decide) (cel_obj G _) rfl 4 rfl ?_
  refine v_get (i := 1) (ci := 3) (T := TX3) (C := RX3) (N := 6) (v := .int (nI tp.2.1)) dX4_wipe_4 inB3 rfl qw_156 rfl (by decide) (by decide) (cel_tap G _) rfl 7 rfl ?_
  refine v_istore_n dX4_wipe_7 1 rfl (by decide) [(1, .int (nI tp.2.1)), (0, .ref (ga G (0)))] rfl 8 rfl ?_
  refine v_aload_n dX4_wipe_8 1 rfl 9 rfl ?_
  refine v_get (i := 4) (ci := 4) (T := TX4) (C := RX4) (N := 8) (v := .ref (ga G (81))) dX4_wipe_9 inB4 rfl qw_200 rfl (by decide) (by decide) (cel_obj G _) rfl 12 rfl ?_
  refine v_iconst dX4_wipe_12 0 rfl 13 rfl ?_
  refine v_put (i := 1) (ci := 3) (T := TX3) (C := RX3) (N := 6) (ty := .int) (w2 := ((par, (tp.1, 0, tp.2.2.1, tp.2.2.2.1, tp.2.2.2.2.1, tp.2.2.2.2.2), sh, tl, hi), M)) dX4_wipe_13 inB3 tyX3 tyX3_ok nmX3 rfl qw_156 rfl rfl rfl rfl rfl (by decide) (by decide) (cel_tap G _) (Nat.le_of_ble_eq_true rfl) u_tp 16 rfl ?_
  refine v_iload_n dX4_wipe_16 0 rfl 17 rfl ?_
  exact v_iret dX4_wipe_17 (by rfl) (by rfl)
set_option maxHeartbeats 1000000 in
set_option maxRecDepth 4000 in
theorem c_X3_add (l : Launch) {G : Gl} {par : Nat → Pa} {tb : Nat → Int32} {tz ta te : Nat} {tk tv : Int32} {sh : Nat → Sh} {tl : Nat → Int32} {hi : Int32} {M : MS} (x : Int32) (htz : tz < 120) : Ct l G yX3_add cX3_add 2 none 0 0 [.ref (ga G (81)), .int x] ((par, (tb, tz, tk, ta, te, tv), sh, tl, hi), M) (none) ((par, ((upd tb tz (vp_nar .byte x)), (tz + 1), tk, ta, te, tv), sh, tl, hi), M) := by
  refine Ct.of (own := RX3) (by decide) rfl (Nat.le_of_ble_eq_true rfl) rfl (fun X => ?_)
  refine v_aload_n dX3_add_0 0 rfl 1 rfl ?_
  refine v_get (i := 1) (ci := 3) (T := TX3) (C := RX3) (N := 6) (v := .int (nI tz)) dX3_add_1 inB3 rfl qw_155 rfl (by decide) (by decide) (cel_tap G _) rfl 4 rfl ?_
  refine v_bipush dX3_add_4 120 rfl 6 rfl ?_
  refine n_icmp_ge dX3_add_6 tz 120 rfl rfl (by omega) (by omega) 29 (by decide) 9 rfl (fun c1 => absurd c1 (by omega)) (fun c1 => ?_)
  refine v_aload_n dX3_add_9 0 rfl 10 rfl ?_
  refine v_get (i := 0) (ci := 3) (T := TX3) (C := RX3) (N := 6) (v := .ref (ga G (82))) dX3_add_10 inB3 rfl qw_154 rfl (by decide) (by decide) (cel_tap G _) rfl 13 rfl ?_
  refine v_aload_n dX3_add_13 0 rfl 14 rfl ?_
  refine v_get (i := 1) (ci := 3) (T := TX3) (C := RX3) (N := 6) (v := .int (nI tz)) dX3_add_14 inB3 rfl qw_155 rfl (by decide) (by decide) (cel_tap G _) rfl 17 rfl ?_
  refine v_iload_n dX3_add_17 1 rfl 18 rfl ?_
  refine v_bast (w2 := ((par, ((upd tb tz (vp_nar .byte x)), tz, tk, ta, te, tv), sh, tl, hi), M)) dX3_add_18 (by decide) (cel_byt G _) tz rfl (by omega) (by decide) u_tb 19 rfl ?_
  refine v_aload_n dX3_add_19 0 rfl 20 rfl ?_
  refine v_dup dX3_add_20 rfl 21 rfl ?_
  refine v_get (i := 1) (ci := 3) (T := TX3) (C := RX3) (N := 6) (v := .int (nI tz)) dX3_add_21 inB3 rfl qw_155 rfl (by decide) (by decide) (cel_tap G _) rfl 24 rfl ?_
  refine v_iconst dX3_add_24 1 rfl 25 rfl ?_
  refine n_iadd dX3_add_25 tz 1 rfl rfl 26 rfl ?_
  refine v_put (i := 1) (ci := 3) (T := TX3) (C := RX3) (N := 6) (ty := .int) (w2 := ((par, ((upd tb tz (vp_nar .byte x)), (tz + 1), tk, ta, te, tv), sh, tl, hi), M)) dX3_add_26 inB3 tyX3 tyX3_ok nmX3 rfl qw_155 rfl rfl rfl rfl rfl (by decide) (by decide) (cel_tap G _) (Nat.le_of_ble_eq_true rfl) u_tp 29 rfl ?_
  exact v_vret dX3_add_29 (by rfl) (by rfl)
set_option maxHeartbeats 1000000 in
set_option maxRecDepth 4000 in
theorem lp_feed (l : Launch) {G : Gl} {X : VX} {ov : Option Value} {wF : WS} {par : Nat → Pa} {ta te : Nat} {tk tv : Int32} {sh : Nat → Sh} {tl : Nat → Int32} {hi : Int32} {M : MS} (x : Int32) {jb : Nat} : ∀ (m tz : Nat) (tb : Nat → Int32), tz + m ≤ 120 → V l X 1 22 cX4_feed 4 RX4 (some .int) G ov wF ((par, ((fdR x m (tb, tz, tk, ta, te, tv)).1, (fdR x m (tb, tz, tk, ta, te, tv)).2.1, (fdR x m (tb, tz, tk, ta, te, tv)).2.2.1, (fdR x m (tb, tz, tk, ta, te, tv)).2.2.2.1, (fdR x m (tb, tz, tk, ta, te, tv)).2.2.2.2.1, (fdR x m (tb, tz, tk, ta, te, tv)).2.2.2.2.2), sh, tl, hi), M) 63 [(3, .int (nI 0 + (-1))), (0, .ref (ga G (0))), (1, .int x), (2, .int (nI jb))] [] → V l X 1 22 cX4_feed 4 RX4 (some .int) G ov wF ((par, (tb, tz, tk, ta, te, tv), sh, tl, hi), M) 39 [(3, .int (nI m + (-1))), (0, .ref (ga G (0))), (1, .int x), (2, .int (nI jb))] [] := by
  intro m
  induction m with
  | zero =>
    intro tz tb hm hk
    refine v_iload_n dX4_feed_39 0 rfl 40 rfl ?_
    refine v_if_lt dX4_feed_40 63 (by decide) 43 rfl (fun c1 => ?_) (fun c1 => absurd c1 (by decide))
    exact hk
  | succ m ih =>
    intro tz tb hm hk
    refine v_ls (ls2 := [(3, .int (nI m)), (0, .ref (ga G (0))), (1, .int x), (2, .int (nI jb))]) (by rw [show nI (m + 1) + (-1) = nI m from pk_m1 m]) ?_
    refine v_iload_n dX4_feed_39 0 rfl 40 rfl ?_
    refine v_if_lt dX4_feed_40 63 (by decide) 43 rfl (fun c1 => absurd c1 (fun q => by have h9 := Int32.lt_iff_toInt_lt.mp q; rw [nI_toInt (by omega)] at h9; have e0 : (0 : Int32).toInt = 0 := rfl; omega)) (fun c1 => ?_)
    refine v_aload_n dX4_feed_43 1 rfl 44 rfl ?_
    refine v_get (i := 4) (ci := 4) (T := TX4) (C := RX4) (N := 8) (v := .ref (ga G (81))) dX4_feed_44 inB4 rfl qw_200 rfl (by decide) (by decide) (cel_obj G _) rfl 47 rfl ?_
    refine v_iload_n dX4_feed_47 2 rfl 48 rfl ?_
    refine v_bipush dX4_feed_48 8 rfl 50 rfl ?_
    refine v_iload_n dX4_feed_50 0 rfl 51 rfl ?_
    refine n_imul dX4_feed_51 8 m rfl rfl 52 rfl ?_
    refine v_ishr dX4_feed_52 53 rfl ?_
    refine v_i2b dX4_feed_53 54 rfl ?_
    refine v_callV (c_X3_add l (x >>> ((nI (8 * m)) &&& 31) : Int32).toInt8.toInt32 (by omega)) kal_X3_add rfl dX4_feed_54 qw_473 qw_474 qw_475 rfl (by decide) (cel_tap G _) (by decide) [] (Nat.le_of_ble_eq_true rfl) rfl rfl 57 rfl ?_
    refine v_iinc dX4_feed_57 0 rfl ((nI m) + (-1)) rfl (by decide) [(3, .int ((nI m) + (-1))), (0, .ref (ga G (0))), (1, .int x), (2, .int (nI jb))] rfl 60 rfl ?_
    refine v_goto dX4_feed_60 39 (by decide) ?_
    exact ih (tz + 1) _ (by omega) hk
set_option maxHeartbeats 1000000 in
set_option maxRecDepth 4000 in
theorem c_X4_feed (l : Launch) {G : Gl} {K : CS} {M : MS} (htz : K.2.1.2.1 ≤ 120) (a b : Int32) : Ct l G yX4_feed cX4_feed 4 (some .int) 1 22 [.ref (ga G (0)), .int a, .int b] (K, M) (some (.int (cFeed K a b).1)) ((cFeed K a b).2, M) := by
  obtain ⟨par, tp, sh, tl, hi⟩ := K
  dsimp only at htz
  refine Ct.of (own := RX4) (by decide) rfl (Nat.le_of_ble_eq_true rfl) rfl (fun X => ?_)
  refine v_iload_n dX4_feed_0 2 rfl 1 rfl ?_
  refine v_iconst dX4_feed_1 1 rfl 2 rfl ?_
  refine v_iconst dX4_feed_2 4 rfl 3 rfl ?_
  refine v_callS (c_X4_isWithin l b 1 4 (lo := 1) (hi := 4) rfl rfl) kal_X4_isWithin rfl dX4_feed_3 qw_228 qw_229 (by decide) [] (Nat.le_of_ble_eq_true rfl) rfl rfl 6 rfl ?_
  refine v_ifb_ne dX4_feed_6 15 (by decide) 9 rfl (fun c1 => ?_) (fun c1 => ?_)
  · skip
    obtain ⟨jb, h1jb, h2jb, rfl⟩ := inb_ix (lo := 1) (hi := 4) c1
    have ejb : (nI jb).toNatClampNeg = jb := nI_clamp (by omega)
    refine v_aload_n dX4_feed_15 0 rfl 16 rfl ?_
    refine v_get (i := 4) (ci := 4) (T := TX4) (C := RX4) (N := 8) (v := .ref (ga G (81))) dX4_feed_16 inB4 rfl qw_200 rfl (by decide) (by decide) (cel_obj G _) rfl 19 rfl ?_
    refine v_get (i := 1) (ci := 3) (T := TX3) (C := RX3) (N := 6) (v := .int (nI tp.2.1)) dX4_feed_19 inB3 rfl qw_156 rfl (by decide) (by decide) (cel_tap G _) rfl 22 rfl ?_
    refine v_iload_n dX4_feed_22 2 rfl 23 rfl ?_
    refine n_iadd dX4_feed_23 tp.2.1 jb rfl rfl 24 rfl ?_
    refine v_bipush dX4_feed_24 120 rfl 26 rfl ?_
    refine n_icmp_le dX4_feed_26 (tp.2.1 + jb) 120 rfl rfl (by omega) (by omega) 35 (by decide) 29 rfl (fun c2 => ?_) (fun c2 => ?_)
    · skip
      refine v_iload_n dX4_feed_35 2 rfl 36 rfl ?_
      refine v_iconst dX4_feed_36 1 rfl 37 rfl ?_
      refine v_isub dX4_feed_37 38 rfl ?_
      refine v_istore_n dX4_feed_38 3 rfl (by decide) [(3, .int ((nI jb) - 1)), (0, .ref (ga G (0))), (1, .int a), (2, .int (nI jb))] rfl 39 rfl ?_
      refine v_ls (ls2 := [(3, .int (nI jb + (-1))), (0, .ref (ga G (0))), (1, .int a), (2, .int (nI jb))]) (by rw [show nI jb - 1 = nI jb + (-1) from Int32.sub_eq_add_neg ..]) ?_
      refine lp_feed l (jb := jb) a jb tp.2.1 tp.1 (by omega) ?_
      refine v_aload_n dX4_feed_63 1 rfl 64 rfl ?_
      refine v_get (i := 4) (ci := 4) (T := TX4) (C := RX4) (N := 8) (v := .ref (ga G (81))) dX4_feed_64 inB4 rfl qw_200 rfl (by decide) (by decide) (cel_obj G _) rfl 67 rfl ?_
      refine v_get (i := 1) (ci := 3) (T := TX3) (C := RX3) (N := 6) (v := .int (nI (fdR a jb tp).2.1)) dX4_feed_67 inB3 rfl qw_156 rfl (by decide) (by decide) (cel_tap G _) rfl 70 rfl ?_
      exact v_iret dX4_feed_70 (by simp only [cFeed, c1, ejb, Bool.and_self, Bool.and_true, Bool.true_and, Bool.and_false, Bool.false_and, if_true, if_false, Bool.false_eq_true, ↓reduceIte] <;> first | rfl | (simp [cFind, kP, kL, kT, kSh, lF, va_up_i, c2, Nat.not_lt.mpr c2, ejb]; done)) (by simp only [cFeed, c1, ejb, Bool.and_self, Bool.and_true, Bool.true_and, Bool.and_false, Bool.false_and, if_true, if_false, Bool.false_eq_true, ↓reduceIte] <;> first | rfl | (simp [cFind, kP, kL, kT, kSh, lF, va_up_i, c2, Nat.not_lt.mpr c2, ejb]; done))
    · skip
      refine v_aload_n dX4_feed_29 0 rfl 30 rfl ?_
      refine v_iconst dX4_feed_30 1 rfl 31 rfl ?_
      refine v_callV (c_X4_found l (k := 1) (by decide)) kal_X4_found rfl dX4_feed_31 qw_234 qw_236 qw_0 rfl (by decide) (cel_obj G _) (by decide) [] (Nat.le_of_ble_eq_true rfl) rfl rfl 34 rfl ?_
      exact v_iret dX4_feed_34 (by simp only [cFeed, c1, ejb, Bool.and_self, Bool.and_true, Bool.true_and, Bool.and_false, Bool.false_and, if_true, if_false, Bool.false_eq_true, ↓reduceIte] <;> first | rfl | (simp [cFind, kP, kL, kT, kSh, lF, va_up_i, c2, Nat.not_le.mpr c2, ejb]; done)) (by simp only [cFeed, c1, ejb, Bool.and_self, Bool.and_true, Bool.true_and, Bool.and_false, Bool.false_and, if_true, if_false, Bool.false_eq_true, ↓reduceIte] <;> first | rfl | (simp [cFind, kP, kL, kT, kSh, lF, va_up_i, c2, Nat.not_le.mpr c2, ejb]; done))
  · skip
    refine v_aload_n dX4_feed_9 0 rfl 10 rfl ?_
    refine v_iconst dX4_feed_10 0 rfl 11 rfl ?_
    refine v_callV (c_X4_found l (k := 0) (by decide)) kal_X4_found rfl dX4_feed_11 qw_234 qw_236 qw_0 rfl (by decide) (cel_obj G _) (by decide) [] (Nat.le_of_ble_eq_true rfl) rfl rfl 14 rfl ?_
    exact v_iret dX4_feed_14 (by simp only [cFeed, c1, Bool.and_self, Bool.and_true, Bool.true_and, Bool.and_false, Bool.false_and, if_true, if_false, Bool.false_eq_true, ↓reduceIte] <;> first | rfl | (simp [cFind, kP, kL, kT, kSh, lF, va_up_i, true_and]; done)) (by simp only [cFeed, c1, Bool.and_self, Bool.and_true, Bool.true_and, Bool.and_false, Bool.false_and, if_true, if_false, Bool.false_eq_true, ↓reduceIte] <;> first | rfl | (simp [cFind, kP, kL, kT, kSh, lF, va_up_i, true_and]; done))
