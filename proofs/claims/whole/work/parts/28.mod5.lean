theorem ncmp {x y : Int64} (h : ¬ lg_cmp x y = 0) : ¬ x = y := fun q => h (lcmp_eq.mpr q)
set_option maxHeartbeats 1000000 in
set_option maxRecDepth 4000 in
theorem lp_mimage (l : Launch) {G : Gl} {X : VX} {ov : Option Value} {wF : WS} {K : CS} {ms : Nat → Int32} {mk : Nat → Int32} {mo : Nat → Int32} {ma : Nat → Int32} {mf : Nat → Int32} {ik : Int32} {mt : Nat → Int32} {td : Nat} {fr : Nat} {tt : Nat} {vl : Int32} {wr : Int32} {mb : Nat → Int32} {mz : Nat → Int32} {nu : Nat → Int64} {mv : Nat → Int64} : ∀ n i : Nat, i + n = 198 → V l X 0 0 cX5_image 2 RX5 (some .int) G ov wF (K, (ms, (fa_fill ms mk 198), mo, ma, mf, ik, mt, td, fr, tt, vl, wr, mb, mz, nu, mv)) 27 [(1, .int (nI 198)), (0, .ref (ga G (93)))] [] → V l X 0 0 cX5_image 2 RX5 (some .int) G ov wF (K, (ms, (fa_fill ms mk i), mo, ma, mf, ik, mt, td, fr, tt, vl, wr, mb, mz, nu, mv)) 2 [(1, .int (nI i)), (0, .ref (ga G (93)))] [] := by
  intro n
  induction n with
  | zero =>
    intro i hin hk
    obtain rfl : 198 = i := by omega
    refine v_iload_n dX5_image_2 0 rfl 3 rfl ?_
    refine v_sipush dX5_image_3 198 rfl 6 rfl ?_
    refine n_icmp_ge dX5_image_6 198 198 rfl rfl (by omega) (by omega) 27 (by decide) 9 rfl (fun c1 => ?_) (fun c1 => absurd c1 (by omega))
    exact hk
  | succ n ih =>
    intro i hin hk
    refine v_iload_n dX5_image_2 0 rfl 3 rfl ?_
    refine v_sipush dX5_image_3 198 rfl 6 rfl ?_
    refine n_icmp_ge dX5_image_6 i 198 rfl rfl (by omega) (by omega) 27 (by decide) 9 rfl (fun c1 => absurd c1 (by omega)) (fun c1 => ?_)
    refine v_aload_n dX5_image_9 1 rfl 10 rfl ?_
    refine v_get (i := 1) (ci := 5) (T := TX5) (C := RX5) (N := 16) (v := .ref (ga G (95))) dX5_image_10 inB5 rfl qw_687 rfl (by decide) (by decide) (cel_mod G _) rfl 13 rfl ?_
    refine v_iload_n dX5_image_13 0 rfl 14 rfl ?_
    refine v_aload_n dX5_image_14 1 rfl 15 rfl ?_
    refine v_get (i := 0) (ci := 5) (T := TX5) (C := RX5) (N := 16) (v := .ref (ga G (94))) dX5_image_15 inB5 rfl qw_686 rfl (by decide) (by decide) (cel_mod G _) rfl 18 rfl ?_
    refine v_iload_n dX5_image_18 0 rfl 19 rfl ?_
    refine v_iald (a := ms) dX5_image_19 (by decide) (cel_ms G _) i rfl (by omega) (by decide) 20 rfl ?_
    refine v_iast (w2 := (K, (ms, upd (fa_fill ms mk i) i (ms i), mo, ma, mf, ik, mt, td, fr, tt, vl, wr, mb, mz, nu, mv))) dX5_image_20 (by decide) (cel_mk G _) i rfl (by omega) (by decide) u_mk 21 rfl ?_
    refine v_iinc dX5_image_21 0 rfl (nI (i + 1)) (nI_1 _) (by decide) [(1, .int (nI (i + 1))), (0, .ref (ga G (93)))] rfl 24 rfl ?_
    refine v_goto dX5_image_24 2 (by decide) ?_
    have e91 : upd (fa_fill ms mk i) i (ms i) = (fa_fill ms mk (i + 1)) := fa_upd rfl
    refine v_w (w2 := (K, (ms, (fa_fill ms mk (i + 1)), mo, ma, mf, ik, mt, td, fr, tt, vl, wr, mb, mz, nu, mv))) (by rw [e91]) ?_
    exact ih (i + 1) (by omega) hk
set_option maxHeartbeats 1000000 in
set_option maxRecDepth 4000 in
theorem c_X5_image (l : Launch) {G : Gl} {K : CS} {M : MS}  : Ct l G yX5_image cX5_image 2 (some .int) 0 0 [.ref (ga G (93))] (K, M) (some (.int (qImage M).1)) (K, (qImage M).2) := by
  obtain ⟨ms, mk, mo, ma, mf, ik, mt, td, fr, tt, vl, wr, mb, mz, nu, mv⟩ := M
  refine Ct.of (own := RX5) (by decide) rfl (Nat.le_of_ble_eq_true rfl) rfl (fun X => ?_)
  refine v_iconst dX5_image_0 0 rfl 1 rfl ?_
  refine v_istore_n dX5_image_1 1 rfl (by decide) [(1, .int 0), (0, .ref (ga G (93)))] rfl 2 rfl ?_
  refine v_w (w2 := (K, (ms, (fa_fill ms mk 0), mo, ma, mf, ik, mt, td, fr, tt, vl, wr, mb, mz, nu, mv))) (by rw [fa_fill_0]) ?_
  refine lp_mimage l  198 0 (by omega) ?_
  refine v_ext (fun H hw => x_mk (mk := fa_fill ms mk 198) (mk2 := ms) (fun j hj => fa_fill_in hj) hw) ?_
  refine v_aload_n dX5_image_27 1 rfl 28 rfl ?_
  refine v_iconst dX5_image_28 1 rfl 29 rfl ?_
  refine v_put (i := 5) (ci := 5) (T := TX5) (C := RX5) (N := 16) (ty := .boolean) (w2 := (K, (ms, ms, mo, ma, mf, 1, mt, td, fr, tt, vl, wr, mb, mz, nu, mv))) dX5_image_29 inB5 tyX5 tyX5_ok nmX5 rfl qw_691 rfl rfl rfl rfl rfl (by decide) (by decide) (cel_mod G _) (Nat.le_of_ble_eq_true rfl) u_m 32 rfl ?_
  refine v_iconst dX5_image_32 1 rfl 33 rfl ?_
  exact v_iret dX5_image_33 (by rfl) (by rfl)
set_option maxHeartbeats 1000000 in
set_option maxRecDepth 4000 in
theorem lp_mundo (l : Launch) {G : Gl} {X : VX} {ov : Option Value} {wF : WS} {K : CS} {ms : Nat → Int32} {mk : Nat → Int32} {mo : Nat → Int32} {ma : Nat → Int32} {mf : Nat → Int32} {ik : Int32} {mt : Nat → Int32} {td : Nat} {fr : Nat} {tt : Nat} {vl : Int32} {wr : Int32} {mb : Nat → Int32} {mz : Nat → Int32} {nu : Nat → Int64} {mv : Nat → Int64} : ∀ n i : Nat, i + n = 198 → V l X 1 21 cX5_undo 2 RX5 (some .int) G ov wF (K, ((fa_fill mk ms 198), mk, mo, ma, mf, ik, mt, td, fr, tt, vl, wr, mb, mz, nu, mv)) 41 [(1, .int (nI 198)), (0, .ref (ga G (93)))] [] → V l X 1 21 cX5_undo 2 RX5 (some .int) G ov wF (K, ((fa_fill mk ms i), mk, mo, ma, mf, ik, mt, td, fr, tt, vl, wr, mb, mz, nu, mv)) 16 [(1, .int (nI i)), (0, .ref (ga G (93)))] [] := by
  intro n
  induction n with
  | zero =>
    intro i hin hk
    obtain rfl : 198 = i := by omega
    refine v_iload_n dX5_undo_16 0 rfl 17 rfl ?_
    refine v_sipush dX5_undo_17 198 rfl 20 rfl ?_
    refine n_icmp_ge dX5_undo_20 198 198 rfl rfl (by omega) (by omega) 41 (by decide) 23 rfl (fun c1 => ?_) (fun c1 => absurd c1 (by omega))
    exact hk
  | succ n ih =>
    intro i hin hk
    refine v_iload_n dX5_undo_16 0 rfl 17 rfl ?_
    refine v_sipush dX5_undo_17 198 rfl 20 rfl ?_
    refine n_icmp_ge dX5_undo_20 i 198 rfl rfl (by omega) (by omega) 41 (by decide) 23 rfl (fun c1 => absurd c1 (by omega)) (fun c1 => ?_)
    refine v_aload_n dX5_undo_23 1 rfl 24 rfl ?_
    refine v_get (i := 0) (ci := 5) (T := TX5) (C := RX5) (N := 16) (v := .ref (ga G (94))) dX5_undo_24 inB5 rfl qw_686 rfl (by decide) (by decide) (cel_mod G _) rfl 27 rfl ?_
    refine v_iload_n dX5_undo_27 0 rfl 28 rfl ?_
    refine v_aload_n dX5_undo_28 1 rfl 29 rfl ?_
    refine v_get (i := 1) (ci := 5) (T := TX5) (C := RX5) (N := 16) (v := .ref (ga G (95))) dX5_undo_29 inB5 rfl qw_687 rfl (by decide) (by decide) (cel_mod G _) rfl 32 rfl ?_
    refine v_iload_n dX5_undo_32 0 rfl 33 rfl ?_
    refine v_iald (a := mk) dX5_undo_33 (by decide) (cel_mk G _) i rfl (by omega) (by decide) 34 rfl ?_
    refine v_iast (w2 := (K, (upd (fa_fill mk ms i) i (mk i), mk, mo, ma, mf, ik, mt, td, fr, tt, vl, wr, mb, mz, nu, mv))) dX5_undo_34 (by decide) (cel_ms G _) i rfl (by omega) (by decide) u_ms 35 rfl ?_
    refine v_iinc dX5_undo_35 0 rfl (nI (i + 1)) (nI_1 _) (by decide) [(1, .int (nI (i + 1))), (0, .ref (ga G (93)))] rfl 38 rfl ?_
    refine v_goto dX5_undo_38 16 (by decide) ?_
    have e91 : upd (fa_fill mk ms i) i (mk i) = (fa_fill mk ms (i + 1)) := fa_upd rfl
    refine v_w (w2 := (K, ((fa_fill mk ms (i + 1)), mk, mo, ma, mf, ik, mt, td, fr, tt, vl, wr, mb, mz, nu, mv))) (by rw [e91]) ?_
    exact ih (i + 1) (by omega) hk
set_option maxHeartbeats 1000000 in
set_option maxRecDepth 4000 in
theorem c_X5_undo (l : Launch) {G : Gl} {K : CS} {M : MS}  : Ct l G yX5_undo cX5_undo 2 (some .int) 1 21 [.ref (ga G (93))] (K, M) (some (.int (qUndo M).1)) (K, (qUndo M).2) := by
  obtain ⟨ms, mk, mo, ma, mf, ik, mt, td, fr, tt, vl, wr, mb, mz, nu, mv⟩ := M
  refine Ct.of (own := RX5) (by decide) rfl (Nat.le_of_ble_eq_true rfl) rfl (fun X => ?_)
  refine v_aload_n dX5_undo_0 0 rfl 1 rfl ?_
  refine v_get (i := 5) (ci := 5) (T := TX5) (C := RX5) (N := 16) (v := .int ik) dX5_undo_1 inB5 rfl qw_691 rfl (by decide) (by decide) (cel_mod G _) rfl 4 rfl ?_
  refine v_if_ne dX5_undo_4 14 (by decide) 7 rfl (fun c1 => ?_) (fun c1 => ?_)
  · skip
    refine v_iconst dX5_undo_14 0 rfl 15 rfl ?_
    refine v_istore_n dX5_undo_15 1 rfl (by decide) [(1, .int 0), (0, .ref (ga G (93)))] rfl 16 rfl ?_
    refine v_w (w2 := (K, ((fa_fill mk ms 0), mk, mo, ma, mf, ik, mt, td, fr, tt, vl, wr, mb, mz, nu, mv))) (by rw [fa_fill_0]) ?_
    refine lp_mundo l  198 0 (by omega) ?_
    refine v_ext (fun H hw => x_ms (ms := fa_fill mk ms 198) (ms2 := mk) (fun j hj => fa_fill_in hj) hw) ?_
    refine v_aload_n dX5_undo_41 1 rfl 42 rfl ?_
    refine v_get (i := 0) (ci := 5) (T := TX5) (C := RX5) (N := 16) (v := .ref (ga G (94))) dX5_undo_42 inB5 rfl qw_686 rfl (by decide) (by decide) (cel_mod G _) rfl 45 rfl ?_
    refine v_iconst dX5_undo_45 1 rfl 46 rfl ?_
    refine v_iald (a := mk) dX5_undo_46 (by decide) (cel_ms G _) 1 rfl (by omega) (by decide) 47 rfl ?_
    exact v_iret dX5_undo_47 (by simp [qUndo, mFind, fnd3, c1, Ne.symm c1]) (by simp [qUndo, mFind, fnd3, c1, Ne.symm c1])
  · skip
    refine v_aload_n dX5_undo_7 0 rfl 8 rfl ?_
    refine v_ldc dX5_undo_8 (-1000000004) qw_948 10 rfl ?_
    refine v_callV (c_X5_finds l (k := 3) (by decide) (-1000000004) (by decide)) kal_X5_finds rfl dX5_undo_10 qw_756 qw_758 qw_15 rfl (by decide) (cel_mod G _) (by decide) [] (Nat.le_of_ble_eq_true rfl) rfl rfl 13 rfl ?_
    exact v_iret dX5_undo_13 (by simp [qUndo, mFind, fnd3, c1]) (by simp [qUndo, mFind, fnd3, c1])
set_option maxHeartbeats 1000000 in
set_option maxRecDepth 4000 in
theorem c_X5_tear (l : Launch) {G : Gl} {K : CS} {M : MS}  : Ct l G yX5_tear cX5_tear 2 (some .int) 0 0 [.ref (ga G (93))] (K, M) (some (.int (qTear M).1)) (K, (qTear M).2) := by
  obtain ⟨ms, mk, mo, ma, mf, ik, mt, td, fr, tt, vl, wr, mb, mz, nu, mv⟩ := M
  refine Ct.of (own := RX5) (by decide) rfl (Nat.le_of_ble_eq_true rfl) rfl (fun X => ?_)
  refine v_aload_n dX5_tear_0 0 rfl 1 rfl ?_
  refine v_get (i := 5) (ci := 5) (T := TX5) (C := RX5) (N := 16) (v := .int ik) dX5_tear_1 inB5 rfl qw_691 rfl (by decide) (by decide) (cel_mod G _) rfl 4 rfl ?_
  refine v_if_eq dX5_tear_4 11 (by decide) 7 rfl (fun c1 => ?_) (fun c1 => ?_)
  · skip
    refine v_iconst dX5_tear_11 0 rfl 12 rfl ?_
    refine v_istore_n dX5_tear_12 1 rfl (by decide) [(1, .int 0), (0, .ref (ga G (93)))] rfl 13 rfl ?_
    refine v_aload_n dX5_tear_13 1 rfl 14 rfl ?_
    refine v_iconst dX5_tear_14 0 rfl 15 rfl ?_
    refine v_put (i := 5) (ci := 5) (T := TX5) (C := RX5) (N := 16) (ty := .boolean) (w2 := (K, (ms, mk, mo, ma, mf, 0, mt, td, fr, tt, vl, wr, mb, mz, nu, mv))) dX5_tear_15 inB5 tyX5 tyX5_ok nmX5 rfl qw_691 rfl rfl rfl rfl rfl (by decide) (by decide) (cel_mod G _) (Nat.le_of_ble_eq_true rfl) u_m 18 rfl ?_
    refine v_iload_n dX5_tear_18 0 rfl 19 rfl ?_
    exact v_iret dX5_tear_19 (by simp [qTear, c1]) (by simp [qTear, c1])
  · skip
    refine v_iconst dX5_tear_7 1 rfl 8 rfl ?_
    refine v_goto dX5_tear_8 12 (by decide) ?_
    refine v_istore_n dX5_tear_12 1 rfl (by decide) [(1, .int 1), (0, .ref (ga G (93)))] rfl 13 rfl ?_
    refine v_aload_n dX5_tear_13 1 rfl 14 rfl ?_
    refine v_iconst dX5_tear_14 0 rfl 15 rfl ?_
    refine v_put (i := 5) (ci := 5) (T := TX5) (C := RX5) (N := 16) (ty := .boolean) (w2 := (K, (ms, mk, mo, ma, mf, 0, mt, td, fr, tt, vl, wr, mb, mz, nu, mv))) dX5_tear_15 inB5 tyX5 tyX5_ok nmX5 rfl qw_691 rfl rfl rfl rfl rfl (by decide) (by decide) (cel_mod G _) (Nat.le_of_ble_eq_true rfl) u_m 18 rfl ?_
    refine v_iload_n dX5_tear_18 0 rfl 19 rfl ?_
    exact v_iret dX5_tear_19 (by simp [qTear, c1, Ne.symm c1]) (by simp [qTear, c1, Ne.symm c1])
set_option maxHeartbeats 1000000 in
set_option maxRecDepth 4000 in
theorem c_X5_count (l : Launch) {G : Gl} {K : CS} {M : MS} {nE : Nat} (hn : M.1 1 = nI nE) (hn8 : nE ≤ 8) (a : Int32) : Ct l G yX5_count cX5_count 2 (some .int) 3 66 [.ref (ga G (93)), .int a] (K, M) (some (.int (qCount M nE a).1)) (K, (qCount M nE a).2) := by
  obtain ⟨ms, mk, mo, ma, mf, ik, mt, td, fr, tt, vl, wr, mb, mz, nu, mv⟩ := M
  dsimp only at hn
  refine Ct.of (own := RX5) (by decide) rfl (Nat.le_of_ble_eq_true rfl) rfl (fun X => ?_)
  refine v_iload_n dX5_count_0 1 rfl 1 rfl ?_
  by_cases c1_0 : a = 0
  · refine v_topi 0 c1_0 ?_
    refine v_tabIn dX5_count_1 (by decide) (by decide) (off := 31) (by decide) 32 (by decide) ?_
    refine v_aload_n dX5_count_32 0 rfl 33 rfl ?_
    refine v_get (i := 0) (ci := 5) (T := TX5) (C := RX5) (N := 16) (v := .ref (ga G (94))) dX5_count_33 inB5 rfl qw_686 rfl (by decide) (by decide) (cel_mod G _) rfl 36 rfl ?_
    refine v_iconst dX5_count_36 1 rfl 37 rfl ?_
    refine v_iald (a := ms) dX5_count_37 (by decide) (cel_ms G _) 1 rfl (by omega) (by decide) 38 rfl ?_
    exact v_iret dX5_count_38 (by simp [qCount, mFind, fnd0, c1_0]) (by simp [qCount, mFind, fnd0, c1_0])
  by_cases c1_1 : a = 1
  · refine v_topi 1 c1_1 ?_
    refine v_tabIn dX5_count_1 (by decide) (by decide) (off := 38) (by decide) 39 (by decide) ?_
    refine v_aload_n dX5_count_39 0 rfl 40 rfl ?_
    refine v_get (i := 7) (ci := 5) (T := TX5) (C := RX5) (N := 16) (v := .int (nI td)) dX5_count_40 inB5 rfl qw_693 rfl (by decide) (by decide) (cel_mod G _) rfl 43 rfl ?_
    exact v_iret dX5_count_43 (by simp [qCount, mFind, fnd0, c1_0, c1_1]) (by simp [qCount, mFind, fnd0, c1_0, c1_1])
  by_cases c1_2 : a = 2
  · refine v_topi 2 c1_2 ?_
    refine v_tabIn dX5_count_1 (by decide) (by decide) (off := 43) (by decide) 44 (by decide) ?_
    refine v_aload_n dX5_count_44 0 rfl 45 rfl ?_
    refine v_callV (c_X5_coatsMade l ) kal_X5_coatsMade rfl dX5_count_45 qw_1126 qw_1128 qw_54 rfl (by decide) (cel_mod G _) (by decide) [] (Nat.le_of_ble_eq_true rfl) rfl rfl 48 rfl ?_
    exact v_iret dX5_count_48 (by simp [qCount, mFind, fnd0, c1_0, c1_1, c1_2]) (by simp [qCount, mFind, fnd0, c1_0, c1_1, c1_2])
  by_cases c1_3 : a = 3
  · refine v_topi 3 c1_3 ?_
    refine v_tabIn dX5_count_1 (by decide) (by decide) (off := 48) (by decide) 49 (by decide) ?_
    refine v_aload_n dX5_count_49 0 rfl 50 rfl ?_
    refine v_callV (c_X5_frights l hn hn8) kal_X5_frights rfl dX5_count_50 qw_1130 qw_1132 qw_55 rfl (by decide) (cel_mod G _) (by decide) [] (Nat.le_of_ble_eq_true rfl) rfl rfl 53 rfl ?_
    exact v_iret dX5_count_53 (by simp [qCount, mFind, fnd0, c1_0, c1_1, c1_2, c1_3]) (by simp [qCount, mFind, fnd0, c1_0, c1_1, c1_2, c1_3])
  refine v_tabOut dX5_count_1 (sw_out (lo := 0) (hi := 3) (by decide) (by decide) (fun k h1 h2 => by rcases (show k = 0 ∨ k = 1 ∨ k = 2 ∨ k = 3 by omega) with rfl | rfl | rfl | rfl <;> first | exact c1_0 | exact c1_1 | exact c1_2 | exact c1_3)) 54 (by decide) ?_
  refine v_aload_n dX5_count_54 0 rfl 55 rfl ?_
  refine v_ldc dX5_count_55 (-1000000001) qw_755 57 rfl ?_
  refine v_callV (c_X5_finds l (k := 0) (by decide) (-1000000001) (by decide)) kal_X5_finds rfl dX5_count_57 qw_756 qw_758 qw_15 rfl (by decide) (cel_mod G _) (by decide) [] (Nat.le_of_ble_eq_true rfl) rfl rfl 60 rfl ?_
  exact v_iret dX5_count_60 (by simp [qCount, mFind, fnd0, c1_0, c1_1, c1_2, c1_3]) (by simp [qCount, mFind, fnd0, c1_0, c1_1, c1_2, c1_3])
set_option maxHeartbeats 1000000 in
set_option maxRecDepth 4000 in
theorem lp_mstatus (l : Launch) {G : Gl} {X : VX} {ov : Option Value} {wF : WS} {K : CS} {ms : Nat → Int32} {mk : Nat → Int32} {mo : Nat → Int32} {ma : Nat → Int32} {mf : Nat → Int32} {ik : Int32} {mt : Nat → Int32} {td : Nat} {fr : Nat} {tt : Nat} {vl : Int32} {wr : Int32} {mb : Nat → Int32} {mz : Nat → Int32} {nu : Nat → Int64} {mv : Nat → Int64} (a : Int32) : ∀ n i : Nat, i + n = 7 → V l X 1 25 cX5_status 4 RX5 (some .int) G ov wF (K, (ms, mk, mo, ma, mf, ik, mt, td, fr, tt, vl, wr, mb, mz, nu, mv)) 59 [(3, .int (nI 7)), (2, .int (sm (fun k => if a < 0 ∨ nI k = a then mf k else 0) 7)), (0, .ref (ga G (93))), (1, .int a)] [] → V l X 1 25 cX5_status 4 RX5 (some .int) G ov wF (K, (ms, mk, mo, ma, mf, ik, mt, td, fr, tt, vl, wr, mb, mz, nu, mv)) 25 [(3, .int (nI i)), (2, .int (sm (fun k => if a < 0 ∨ nI k = a then mf k else 0) i)), (0, .ref (ga G (93))), (1, .int a)] [] := by
  intro n
  induction n with
  | zero =>
    intro i hin hk
    obtain rfl : 7 = i := by omega
    refine v_iload_n dX5_status_25 0 rfl 26 rfl ?_
    refine v_bipush dX5_status_26 7 rfl 28 rfl ?_
    refine n_icmp_ge dX5_status_28 7 7 rfl rfl (by omega) (by omega) 59 (by decide) 31 rfl (fun c1 => ?_) (fun c1 => absurd c1 (by omega))
    exact hk
  | succ n ih =>
    intro i hin hk
    refine v_iload_n dX5_status_25 0 rfl 26 rfl ?_
    refine v_bipush dX5_status_26 7 rfl 28 rfl ?_
    refine n_icmp_ge dX5_status_28 i 7 rfl rfl (by omega) (by omega) 59 (by decide) 31 rfl (fun c1 => absurd c1 (by omega)) (fun c1 => ?_)
    refine v_iload_n dX5_status_31 1 rfl 32 rfl ?_
    refine v_iload_n dX5_status_32 3 rfl 33 rfl ?_
    refine v_if_lt dX5_status_33 41 (by decide) 36 rfl (fun c2 => ?_) (fun c2 => ?_)
    · skip
      refine v_aload_n dX5_status_41 2 rfl 42 rfl ?_
      refine v_get (i := 4) (ci := 5) (T := TX5) (C := RX5) (N := 16) (v := .ref (ga G (98))) dX5_status_42 inB5 rfl qw_690 rfl (by decide) (by decide) (cel_mod G _) rfl 45 rfl ?_
      refine v_iload_n dX5_status_45 0 rfl 46 rfl ?_
      refine v_iald (a := mf) dX5_status_46 (by decide) (cel_mf G _) i rfl (by omega) (by decide) 47 rfl ?_
      refine v_goto dX5_status_47 51 (by decide) ?_
      refine v_iadd dX5_status_51 52 rfl ?_
      obtain ⟨z3, ez3⟩ : ∃ y : Int32, y = (sm (fun k => if a < 0 ∨ nI k = a then mf k else 0) i) + (mf i) := ⟨_, rfl⟩
      rw [← ez3]
      refine v_istore_n dX5_status_52 2 rfl (by decide) [(2, .int z3), (3, .int (nI i)), (0, .ref (ga G (93))), (1, .int a)] rfl 53 rfl ?_
      refine v_iinc dX5_status_53 1 rfl (nI (i + 1)) (nI_1 _) (by decide) [(3, .int (nI (i + 1))), (2, .int z3), (0, .ref (ga G (93))), (1, .int a)] rfl 56 rfl ?_
      refine v_goto dX5_status_56 25 (by decide) ?_
      subst ez3
      have e91 : ((sm (fun k => if a < 0 ∨ nI k = a then mf k else 0) i) + (mf i)) = sm (fun k => if a < 0 ∨ nI k = a then mf k else 0) (i + 1) := by simp [sm, c2, Int32.not_le.mpr c2]
      refine v_ls (ls2 := [(3, .int (nI (i + 1))), (2, .int (sm (fun k => if a < 0 ∨ nI k = a then mf k else 0) (i + 1))), (0, .ref (ga G (93))), (1, .int a)]) (by simp only [List.cons.injEq, Prod.mk.injEq, Value.int.injEq, true_and, and_true, and_self]; exact e91) ?_
      exact ih (i + 1) (by omega) hk
    · skip
      refine v_iload_n dX5_status_36 0 rfl 37 rfl ?_
      refine v_iload_n dX5_status_37 3 rfl 38 rfl ?_
      refine v_icmp_ne dX5_status_38 50 (by decide) 41 rfl (fun c4 => ?_) (fun c4 => ?_)
      · skip
        refine v_iconst dX5_status_50 0 rfl 51 rfl ?_
        refine v_iadd dX5_status_51 52 rfl ?_
        refine v_istore_n dX5_status_52 2 rfl (by decide) [(2, .int ((sm (fun k => if a < 0 ∨ nI k = a then mf k else 0) i) + 0)), (3, .int (nI i)), (0, .ref (ga G (93))), (1, .int a)] rfl 53 rfl ?_
        refine v_iinc dX5_status_53 1 rfl (nI (i + 1)) (nI_1 _) (by decide) [(3, .int (nI (i + 1))), (2, .int ((sm (fun k => if a < 0 ∨ nI k = a then mf k else 0) i) + 0)), (0, .ref (ga G (93))), (1, .int a)] rfl 56 rfl ?_
        refine v_goto dX5_status_56 25 (by decide) ?_
        have e91 : (sm (fun k => if a < 0 ∨ nI k = a then mf k else 0) i) + 0 = sm (fun k => if a < 0 ∨ nI k = a then mf k else 0) (i + 1) := by simp [sm, c2, Int32.not_lt.mp c2, c4, Ne.symm c4]
        refine v_ls (ls2 := [(3, .int (nI (i + 1))), (2, .int (sm (fun k => if a < 0 ∨ nI k = a then mf k else 0) (i + 1))), (0, .ref (ga G (93))), (1, .int a)]) (by simp only [List.cons.injEq, Prod.mk.injEq, Value.int.injEq, true_and, and_true, and_self]; exact e91) ?_
        exact ih (i + 1) (by omega) hk
      · skip
        refine v_aload_n dX5_status_41 2 rfl 42 rfl ?_
        refine v_get (i := 4) (ci := 5) (T := TX5) (C := RX5) (N := 16) (v := .ref (ga G (98))) dX5_status_42 inB5 rfl qw_690 rfl (by decide) (by decide) (cel_mod G _) rfl 45 rfl ?_
        refine v_iload_n dX5_status_45 0 rfl 46 rfl ?_
        refine v_iald (a := mf) dX5_status_46 (by decide) (cel_mf G _) i rfl (by omega) (by decide) 47 rfl ?_
        refine v_goto dX5_status_47 51 (by decide) ?_
        refine v_iadd dX5_status_51 52 rfl ?_
        obtain ⟨z5, ez5⟩ : ∃ y : Int32, y = (sm (fun k => if a < 0 ∨ nI k = a then mf k else 0) i) + (mf i) := ⟨_, rfl⟩
        rw [← ez5]
        refine v_istore_n dX5_status_52 2 rfl (by decide) [(2, .int z5), (3, .int (nI i)), (0, .ref (ga G (93))), (1, .int a)] rfl 53 rfl ?_
        refine v_iinc dX5_status_53 1 rfl (nI (i + 1)) (nI_1 _) (by decide) [(3, .int (nI (i + 1))), (2, .int z5), (0, .ref (ga G (93))), (1, .int a)] rfl 56 rfl ?_
        refine v_goto dX5_status_56 25 (by decide) ?_
        subst ez5
        have e91 : ((sm (fun k => if a < 0 ∨ nI k = a then mf k else 0) i) + (mf i)) = sm (fun k => if a < 0 ∨ nI k = a then mf k else 0) (i + 1) := by simp [sm, c2, Int32.not_lt.mp c2, c4]
        refine v_ls (ls2 := [(3, .int (nI (i + 1))), (2, .int (sm (fun k => if a < 0 ∨ nI k = a then mf k else 0) (i + 1))), (0, .ref (ga G (93))), (1, .int a)]) (by simp only [List.cons.injEq, Prod.mk.injEq, Value.int.injEq, true_and, and_true, and_self]; exact e91) ?_
        exact ih (i + 1) (by omega) hk
set_option maxHeartbeats 1000000 in
set_option maxRecDepth 4000 in
theorem c_X5_status (l : Launch) {G : Gl} {K : CS} {M : MS} (a : Int32) : Ct l G yX5_status cX5_status 4 (some .int) 1 25 [.ref (ga G (93)), .int a] (K, M) (some (.int (qStatus M a).1)) (K, (qStatus M a).2) := by
  obtain ⟨ms, mk, mo, ma, mf, ik, mt, td, fr, tt, vl, wr, mb, mz, nu, mv⟩ := M
  refine Ct.of (own := RX5) (by decide) rfl (Nat.le_of_ble_eq_true rfl) rfl (fun X => ?_)
  refine v_iload_n dX5_status_0 1 rfl 1 rfl ?_
  refine v_i2l dX5_status_1 2 rfl ?_
  refine v_ldc2 dX5_status_2 (-1) qw_1138 5 rfl ?_
  refine v_ldc2 dX5_status_5 6 qw_1139 8 rfl ?_
  refine v_callS (c_X5_in l (a : Int32).toInt64 (-1) 6 (z := (a : Int32).toInt) (lo := (-1)) (hi := 6) (i2l_i _) rfl rfl) kal_X5_in rfl dX5_status_8 qw_743 qw_744 (by decide) [] (Nat.le_of_ble_eq_true rfl) rfl rfl 11 rfl ?_
  refine v_topi (b2 (inb (-1) 6 a)) rfl ?_
  refine v_ifb_ne dX5_status_11 21 (by decide) 14 rfl (fun c1 => ?_) (fun c1 => ?_)
  · skip
    refine v_iconst dX5_status_21 0 rfl 22 rfl ?_
    refine v_istore_n dX5_status_22 2 rfl (by decide) [(2, .int 0), (0, .ref (ga G (93))), (1, .int a)] rfl 23 rfl ?_
    refine v_iconst dX5_status_23 0 rfl 24 rfl ?_
    refine v_istore_n dX5_status_24 3 rfl (by decide) [(3, .int 0), (2, .int 0), (0, .ref (ga G (93))), (1, .int a)] rfl 25 rfl ?_
    refine lp_mstatus l a 7 0 (by omega) ?_
    refine v_iload_n dX5_status_59 1 rfl 60 rfl ?_
    exact v_iret dX5_status_60 (by simp only [qStatus, c1, Bool.and_self, Bool.and_true, Bool.true_and, Bool.and_false, Bool.false_and, if_true, if_false, Bool.false_eq_true, ↓reduceIte] <;> simp [mFind, xs, xa, fnd0, fnd1, fnd2, fnd3, fnd4, fnd5, fnd6, true_and]) (by simp only [qStatus, c1, Bool.and_self, Bool.and_true, Bool.true_and, Bool.and_false, Bool.false_and, if_true, if_false, Bool.false_eq_true, ↓reduceIte] <;> simp [mFind, xs, xa, fnd0, fnd1, fnd2, fnd3, fnd4, fnd5, fnd6, true_and])
  · skip
    refine v_aload_n dX5_status_14 0 rfl 15 rfl ?_
    refine v_ldc dX5_status_15 (-1000000001) qw_755 17 rfl ?_
    refine v_callV (c_X5_finds l (k := 0) (by decide) (-1000000001) (by decide)) kal_X5_finds rfl dX5_status_17 qw_756 qw_758 qw_15 rfl (by decide) (cel_mod G _) (by decide) [] (Nat.le_of_ble_eq_true rfl) rfl rfl 20 rfl ?_
    exact v_iret dX5_status_20 (by simp only [qStatus, c1, Bool.and_self, Bool.and_true, Bool.true_and, Bool.and_false, Bool.false_and, if_true, if_false, Bool.false_eq_true, ↓reduceIte] <;> simp [mFind, xs, xa, fnd0, fnd1, fnd2, fnd3, fnd4, fnd5, fnd6, true_and]) (by simp only [qStatus, c1, Bool.and_self, Bool.and_true, Bool.true_and, Bool.and_false, Bool.false_and, if_true, if_false, Bool.false_eq_true, ↓reduceIte] <;> simp [mFind, xs, xa, fnd0, fnd1, fnd2, fnd3, fnd4, fnd5, fnd6, true_and])
set_option maxHeartbeats 1000000 in
set_option maxRecDepth 4000 in
theorem lp_msheet (l : Launch) {G : Gl} {X : VX} {ov : Option Value} {wF : WS} {K : CS} {ms : Nat → Int32} {mk : Nat → Int32} {mo : Nat → Int32} {ma : Nat → Int32} {mf : Nat → Int32} {ik : Int32} {mt : Nat → Int32} {td : Nat} {fr : Nat} {tt : Nat} {vl : Int32} {wr : Int32} {mb : Nat → Int32} {mz : Nat → Int32} {nu : Nat → Int64} {mv : Nat → Int64} {ja : Nat} (hja : ja < 4) (b c : Int32) : ∀ n i : Nat, i + n = 40 → V l X 2 45 cX5_sheet 5 RX5 (some .int) G ov wF (K, (ms, mk, mo, ma, mf, ik, mt, td, fr, tt, vl, wr, mb, mz, (lNz nu ja 40), mv)) 112 [(4, .int (nI 40)), (0, .ref (ga G (93))), (1, .int (nI ja)), (2, .int b), (3, .int c)] [] → V l X 2 45 cX5_sheet 5 RX5 (some .int) G ov wF (K, (ms, mk, mo, ma, mf, ik, mt, td, fr, tt, vl, wr, mb, mz, (lNz nu ja i), mv)) 86 [(4, .int (nI i)), (0, .ref (ga G (93))), (1, .int (nI ja)), (2, .int b), (3, .int c)] [] := by
  intro n
  induction n with
  | zero =>
    intro i hin hk
    obtain rfl : 40 = i := by omega
    refine v_iload dX5_sheet_86 0 rfl 88 rfl ?_
    refine v_bipush dX5_sheet_88 40 rfl 90 rfl ?_
    refine n_icmp_ge dX5_sheet_90 40 40 rfl rfl (by omega) (by omega) 112 (by decide) 93 rfl (fun c1 => ?_) (fun c1 => absurd c1 (by omega))
    exact hk
  | succ n ih =>
    intro i hin hk
    refine v_iload dX5_sheet_86 0 rfl 88 rfl ?_
    refine v_bipush dX5_sheet_88 40 rfl 90 rfl ?_
    refine n_icmp_ge dX5_sheet_90 i 40 rfl rfl (by omega) (by omega) 112 (by decide) 93 rfl (fun c1 => absurd c1 (by omega)) (fun c1 => ?_)
    refine v_aload_n dX5_sheet_93 1 rfl 94 rfl ?_
    refine v_get (i := 14) (ci := 5) (T := TX5) (C := RX5) (N := 16) (v := .ref (ga G (102))) dX5_sheet_94 inB5 rfl qw_700 rfl (by decide) (by decide) (cel_mod G _) rfl 97 rfl ?_
    refine v_bipush dX5_sheet_97 40 rfl 99 rfl ?_
    refine v_iload_n dX5_sheet_99 2 rfl 100 rfl ?_
    refine n_imul dX5_sheet_100 40 ja rfl rfl 101 rfl ?_
    refine v_iload dX5_sheet_101 0 rfl 103 rfl ?_
    refine n_iadd dX5_sheet_103 (40 * ja) i rfl rfl 104 rfl ?_
    refine v_lconst dX5_sheet_104 0 rfl 105 rfl ?_
    refine v_last (w2 := (K, (ms, mk, mo, ma, mf, ik, mt, td, fr, tt, vl, wr, mb, mz, vp_updL (lNz nu ja i) ((40 * ja) + i) 0, mv))) dX5_sheet_105 (by decide) (cel_nu G _) ((40 * ja) + i) rfl (by omega) (by decide) u_nu 106 rfl ?_
    refine v_iinc dX5_sheet_106 0 rfl (nI (i + 1)) (nI_1 _) (by decide) [(4, .int (nI (i + 1))), (0, .ref (ga G (93))), (1, .int (nI ja)), (2, .int b), (3, .int c)] rfl 109 rfl ?_
    refine v_goto dX5_sheet_109 86 (by decide) ?_
    exact ih (i + 1) (by omega) hk
set_option maxHeartbeats 1000000 in
set_option maxRecDepth 4000 in
theorem c_X5_sheet (l : Launch) {G : Gl} {K : CS} {M : MS} (a b c : Int32) : Ct l G yX5_sheet cX5_sheet 5 (some .int) 2 45 [.ref (ga G (93)), .int a, .int b, .int c] (K, M) (some (.int (qSheet M a b c).1)) (K, (qSheet M a b c).2) := by
  obtain ⟨ms, mk, mo, ma, mf, ik, mt, td, fr, tt, vl, wr, mb, mz, nu, mv⟩ := M
  refine Ct.of (own := RX5) (by decide) rfl (Nat.le_of_ble_eq_true rfl) rfl (fun X => ?_)
  refine v_iload_n dX5_sheet_0 1 rfl 1 rfl ?_
  refine v_callS (c_X5_isOne l a) kal_X5_isOne rfl dX5_sheet_1 qw_1074 qw_1075 (by decide) [] (Nat.le_of_ble_eq_true rfl) rfl rfl 4 rfl ?_
  refine v_ifb_eq dX5_sheet_4 29 (by decide) 7 rfl (fun c1 => ?_) (fun c1 => ?_)
  · skip
    refine v_aload_n dX5_sheet_29 0 rfl 30 rfl ?_
    refine v_ldc dX5_sheet_30 (-1000000001) qw_755 32 rfl ?_
    refine v_callV (c_X5_finds l (k := 0) (by decide) (-1000000001) (by decide)) kal_X5_finds rfl dX5_sheet_32 qw_756 qw_758 qw_15 rfl (by decide) (cel_mod G _) (by decide) [] (Nat.le_of_ble_eq_true rfl) rfl rfl 35 rfl ?_
    exact v_iret dX5_sheet_35 (by simp only [qSheet, okb, c1, Bool.and_self, Bool.and_true, Bool.true_and, Bool.and_false, Bool.false_and, if_true, if_false, Bool.false_eq_true, ↓reduceIte] <;> simp [mFind, fnd0, fnd6, pk_us, true_and]) (by simp only [qSheet, okb, c1, Bool.and_self, Bool.and_true, Bool.true_and, Bool.and_false, Bool.false_and, if_true, if_false, Bool.false_eq_true, ↓reduceIte] <;> simp [mFind, fnd0, fnd6, pk_us, true_and])
  · skip
    obtain ⟨ja, h1ja, h2ja, rfl⟩ := inb_ix (lo := 0) (hi := 3) c1
    have eja : (nI ja).toNatClampNeg = ja := nI_clamp (by omega)
    refine v_iload_n dX5_sheet_7 2 rfl 8 rfl ?_
    refine v_if_eq dX5_sheet_8 36 (by decide) 11 rfl (fun c2 => ?_) (fun c2 => ?_)
    · skip
      refine v_iload_n dX5_sheet_36 3 rfl 37 rfl ?_
      refine v_if_ge dX5_sheet_37 48 (by decide) 40 rfl (fun c3 => ?_) (fun c3 => ?_)
      · skip
        refine v_iload_n dX5_sheet_48 3 rfl 49 rfl ?_
        refine v_bipush dX5_sheet_49 40 rfl 51 rfl ?_
        refine v_icmp_le dX5_sheet_51 61 (by decide) 54 rfl (fun c4 => ?_) (fun c4 => ?_)
        · skip
          refine v_aload_n dX5_sheet_61 0 rfl 62 rfl ?_
          refine v_get (i := 12) (ci := 5) (T := TX5) (C := RX5) (N := 16) (v := .ref (ga G (100))) dX5_sheet_62 inB5 rfl qw_698 rfl (by decide) (by decide) (cel_mod G _) rfl 65 rfl ?_
          refine v_iload_n dX5_sheet_65 1 rfl 66 rfl ?_
          refine v_iload_n dX5_sheet_66 2 rfl 67 rfl ?_
          refine v_iast (w2 := (K, (ms, mk, mo, ma, mf, ik, mt, td, fr, tt, vl, wr, upd mb ja b, mz, nu, mv))) dX5_sheet_67 (by decide) (cel_mb G _) ja rfl (by omega) (by decide) u_mb 68 rfl ?_
          refine v_aload_n dX5_sheet_68 0 rfl 69 rfl ?_
          refine v_get (i := 13) (ci := 5) (T := TX5) (C := RX5) (N := 16) (v := .ref (ga G (101))) dX5_sheet_69 inB5 rfl qw_699 rfl (by decide) (by decide) (cel_mod G _) rfl 72 rfl ?_
          refine v_iload_n dX5_sheet_72 1 rfl 73 rfl ?_
          refine v_iload_n dX5_sheet_73 2 rfl 74 rfl ?_
          refine v_if_ne dX5_sheet_74 81 (by decide) 77 rfl (fun c5 => absurd c5 (fun q => q c2)) (fun c5 => ?_)
          refine v_iconst dX5_sheet_77 0 rfl 78 rfl ?_
          refine v_goto dX5_sheet_78 82 (by decide) ?_
          refine v_iast (w2 := (K, (ms, mk, mo, ma, mf, ik, mt, td, fr, tt, vl, wr, upd mb ja b, upd mz ja 0, nu, mv))) dX5_sheet_82 (by decide) (cel_mz G _) ja rfl (by omega) (by decide) u_mz 83 rfl ?_
          refine v_iconst dX5_sheet_83 0 rfl 84 rfl ?_
          refine v_istore dX5_sheet_84 (by decide) [(4, .int 0), (0, .ref (ga G (93))), (1, .int (nI ja)), (2, .int b), (3, .int c)] rfl 86 rfl ?_
          refine lp_msheet l (ja := ja) (by omega) b c 40 0 (by omega) ?_
          refine v_aload_n dX5_sheet_112 1 rfl 113 rfl ?_
          refine v_get (i := 13) (ci := 5) (T := TX5) (C := RX5) (N := 16) (v := .ref (ga G (101))) dX5_sheet_113 inB5 rfl qw_699 rfl (by decide) (by decide) (cel_mod G _) rfl 116 rfl ?_
          refine v_iload_n dX5_sheet_116 2 rfl 117 rfl ?_
          refine v_iald (a := upd mz ja 0) dX5_sheet_117 (by decide) (cel_mz G _) ja rfl (by omega) (by decide) 118 rfl ?_
          exact v_iret dX5_sheet_118 (by simp only [qSheet, okb, c1, eja, Bool.and_self, Bool.and_true, Bool.true_and, Bool.and_false, Bool.false_and, if_true, if_false, Bool.false_eq_true, ↓reduceIte] <;> simp [mFind, fnd0, fnd6, pk_us, c2, c3, Int32.not_lt.mpr c3, c4, Int32.not_lt.mpr c4, eja]) (by simp only [qSheet, okb, c1, eja, Bool.and_self, Bool.and_true, Bool.true_and, Bool.and_false, Bool.false_and, if_true, if_false, Bool.false_eq_true, ↓reduceIte] <;> simp [mFind, fnd0, fnd6, pk_us, c2, c3, Int32.not_lt.mpr c3, c4, Int32.not_lt.mpr c4, eja])
        · skip
          refine v_aload_n dX5_sheet_54 0 rfl 55 rfl ?_
          refine v_ldc dX5_sheet_55 (-1000000001) qw_755 57 rfl ?_
          refine v_callV (c_X5_finds l (k := 0) (by decide) (-1000000001) (by decide)) kal_X5_finds rfl dX5_sheet_57 qw_756 qw_758 qw_15 rfl (by decide) (cel_mod G _) (by decide) [] (Nat.le_of_ble_eq_true rfl) rfl rfl 60 rfl ?_
          exact v_iret dX5_sheet_60 (by simp only [qSheet, okb, c1, eja, Bool.and_self, Bool.and_true, Bool.true_and, Bool.and_false, Bool.false_and, if_true, if_false, Bool.false_eq_true, ↓reduceIte] <;> simp [mFind, fnd0, fnd6, pk_us, c2, c3, Int32.not_lt.mpr c3, c4, Int32.not_le.mp c4, eja]) (by simp only [qSheet, okb, c1, eja, Bool.and_self, Bool.and_true, Bool.true_and, Bool.and_false, Bool.false_and, if_true, if_false, Bool.false_eq_true, ↓reduceIte] <;> simp [mFind, fnd0, fnd6, pk_us, c2, c3, Int32.not_lt.mpr c3, c4, Int32.not_le.mp c4, eja])
      · skip
        refine v_aload_n dX5_sheet_40 0 rfl 41 rfl ?_
        refine v_ldcw dX5_sheet_41 (-1000000007) qw_1077 44 rfl ?_
        refine v_callV (c_X5_finds l (k := 6) (by decide) (-1000000007) (by decide)) kal_X5_finds rfl dX5_sheet_44 qw_756 qw_758 qw_15 rfl (by decide) (cel_mod G _) (by decide) [] (Nat.le_of_ble_eq_true rfl) rfl rfl 47 rfl ?_
        exact v_iret dX5_sheet_47 (by simp only [qSheet, okb, c1, eja, Bool.and_self, Bool.and_true, Bool.true_and, Bool.and_false, Bool.false_and, if_true, if_false, Bool.false_eq_true, ↓reduceIte] <;> simp [mFind, fnd0, fnd6, pk_us, c2, c3, Int32.not_le.mp c3, eja]) (by simp only [qSheet, okb, c1, eja, Bool.and_self, Bool.and_true, Bool.true_and, Bool.and_false, Bool.false_and, if_true, if_false, Bool.false_eq_true, ↓reduceIte] <;> simp [mFind, fnd0, fnd6, pk_us, c2, c3, Int32.not_le.mp c3, eja])
    · skip
      refine v_iload_n dX5_sheet_11 2 rfl 12 rfl ?_
      refine v_bipush dX5_sheet_12 8 rfl 14 rfl ?_
      refine v_icmp_eq dX5_sheet_14 36 (by decide) 17 rfl (fun c6 => ?_) (fun c6 => ?_)
      · skip
        refine v_iload_n dX5_sheet_36 3 rfl 37 rfl ?_
        refine v_if_ge dX5_sheet_37 48 (by decide) 40 rfl (fun c7 => ?_) (fun c7 => ?_)
        · skip
          refine v_iload_n dX5_sheet_48 3 rfl 49 rfl ?_
          refine v_bipush dX5_sheet_49 40 rfl 51 rfl ?_
          refine v_icmp_le dX5_sheet_51 61 (by decide) 54 rfl (fun c8 => ?_) (fun c8 => ?_)
          · skip
            refine v_aload_n dX5_sheet_61 0 rfl 62 rfl ?_
            refine v_get (i := 12) (ci := 5) (T := TX5) (C := RX5) (N := 16) (v := .ref (ga G (100))) dX5_sheet_62 inB5 rfl qw_698 rfl (by decide) (by decide) (cel_mod G _) rfl 65 rfl ?_
            refine v_iload_n dX5_sheet_65 1 rfl 66 rfl ?_
            refine v_iload_n dX5_sheet_66 2 rfl 67 rfl ?_
            refine v_iast (w2 := (K, (ms, mk, mo, ma, mf, ik, mt, td, fr, tt, vl, wr, upd mb ja b, mz, nu, mv))) dX5_sheet_67 (by decide) (cel_mb G _) ja rfl (by omega) (by decide) u_mb 68 rfl ?_
            refine v_aload_n dX5_sheet_68 0 rfl 69 rfl ?_
            refine v_get (i := 13) (ci := 5) (T := TX5) (C := RX5) (N := 16) (v := .ref (ga G (101))) dX5_sheet_69 inB5 rfl qw_699 rfl (by decide) (by decide) (cel_mod G _) rfl 72 rfl ?_
            refine v_iload_n dX5_sheet_72 1 rfl 73 rfl ?_
            refine v_iload_n dX5_sheet_73 2 rfl 74 rfl ?_
            refine v_if_ne dX5_sheet_74 81 (by decide) 77 rfl (fun c9 => ?_) (fun c9 => absurd c9 c2)
            refine v_iload_n dX5_sheet_81 3 rfl 82 rfl ?_
            refine v_iast (w2 := (K, (ms, mk, mo, ma, mf, ik, mt, td, fr, tt, vl, wr, upd mb ja b, upd mz ja c, nu, mv))) dX5_sheet_82 (by decide) (cel_mz G _) ja rfl (by omega) (by decide) u_mz 83 rfl ?_
            refine v_iconst dX5_sheet_83 0 rfl 84 rfl ?_
            refine v_istore dX5_sheet_84 (by decide) [(4, .int 0), (0, .ref (ga G (93))), (1, .int (nI ja)), (2, .int b), (3, .int c)] rfl 86 rfl ?_
            refine lp_msheet l (ja := ja) (by omega) b c 40 0 (by omega) ?_
            refine v_aload_n dX5_sheet_112 1 rfl 113 rfl ?_
            refine v_get (i := 13) (ci := 5) (T := TX5) (C := RX5) (N := 16) (v := .ref (ga G (101))) dX5_sheet_113 inB5 rfl qw_699 rfl (by decide) (by decide) (cel_mod G _) rfl 116 rfl ?_
            refine v_iload_n dX5_sheet_116 2 rfl 117 rfl ?_
            refine v_iald (a := upd mz ja c) dX5_sheet_117 (by decide) (cel_mz G _) ja rfl (by omega) (by decide) 118 rfl ?_
            exact v_iret dX5_sheet_118 (by simp only [qSheet, okb, c1, eja, Bool.and_self, Bool.and_true, Bool.true_and, Bool.and_false, Bool.false_and, if_true, if_false, Bool.false_eq_true, ↓reduceIte] <;> simp [mFind, fnd0, fnd6, pk_us, c2, Ne.symm c2, c6, c7, Int32.not_lt.mpr c7, c8, Int32.not_lt.mpr c8, eja]) (by simp only [qSheet, okb, c1, eja, Bool.and_self, Bool.and_true, Bool.true_and, Bool.and_false, Bool.false_and, if_true, if_false, Bool.false_eq_true, ↓reduceIte] <;> simp [mFind, fnd0, fnd6, pk_us, c2, Ne.symm c2, c6, c7, Int32.not_lt.mpr c7, c8, Int32.not_lt.mpr c8, eja])
          · skip
            refine v_aload_n dX5_sheet_54 0 rfl 55 rfl ?_
            refine v_ldc dX5_sheet_55 (-1000000001) qw_755 57 rfl ?_
            refine v_callV (c_X5_finds l (k := 0) (by decide) (-1000000001) (by decide)) kal_X5_finds rfl dX5_sheet_57 qw_756 qw_758 qw_15 rfl (by decide) (cel_mod G _) (by decide) [] (Nat.le_of_ble_eq_true rfl) rfl rfl 60 rfl ?_
            exact v_iret dX5_sheet_60 (by simp only [qSheet, okb, c1, eja, Bool.and_self, Bool.and_true, Bool.true_and, Bool.and_false, Bool.false_and, if_true, if_false, Bool.false_eq_true, ↓reduceIte] <;> simp [mFind, fnd0, fnd6, pk_us, c2, Ne.symm c2, c6, c7, Int32.not_lt.mpr c7, c8, Int32.not_le.mp c8, eja]) (by simp only [qSheet, okb, c1, eja, Bool.and_self, Bool.and_true, Bool.true_and, Bool.and_false, Bool.false_and, if_true, if_false, Bool.false_eq_true, ↓reduceIte] <;> simp [mFind, fnd0, fnd6, pk_us, c2, Ne.symm c2, c6, c7, Int32.not_lt.mpr c7, c8, Int32.not_le.mp c8, eja])
        · skip
          refine v_aload_n dX5_sheet_40 0 rfl 41 rfl ?_
          refine v_ldcw dX5_sheet_41 (-1000000007) qw_1077 44 rfl ?_
          refine v_callV (c_X5_finds l (k := 6) (by decide) (-1000000007) (by decide)) kal_X5_finds rfl dX5_sheet_44 qw_756 qw_758 qw_15 rfl (by decide) (cel_mod G _) (by decide) [] (Nat.le_of_ble_eq_true rfl) rfl rfl 47 rfl ?_
          exact v_iret dX5_sheet_47 (by simp only [qSheet, okb, c1, eja, Bool.and_self, Bool.and_true, Bool.true_and, Bool.and_false, Bool.false_and, if_true, if_false, Bool.false_eq_true, ↓reduceIte] <;> simp [mFind, fnd0, fnd6, pk_us, c2, Ne.symm c2, c6, c7, Int32.not_le.mp c7, eja]) (by simp only [qSheet, okb, c1, eja, Bool.and_self, Bool.and_true, Bool.true_and, Bool.and_false, Bool.false_and, if_true, if_false, Bool.false_eq_true, ↓reduceIte] <;> simp [mFind, fnd0, fnd6, pk_us, c2, Ne.symm c2, c6, c7, Int32.not_le.mp c7, eja])
      · skip
        refine v_iload_n dX5_sheet_17 2 rfl 18 rfl ?_
        refine v_bipush dX5_sheet_18 16 rfl 20 rfl ?_
        refine v_icmp_eq dX5_sheet_20 36 (by decide) 23 rfl (fun c10 => ?_) (fun c10 => ?_)
        · skip
          refine v_iload_n dX5_sheet_36 3 rfl 37 rfl ?_
          refine v_if_ge dX5_sheet_37 48 (by decide) 40 rfl (fun c11 => ?_) (fun c11 => ?_)
          · skip
            refine v_iload_n dX5_sheet_48 3 rfl 49 rfl ?_
            refine v_bipush dX5_sheet_49 40 rfl 51 rfl ?_
            refine v_icmp_le dX5_sheet_51 61 (by decide) 54 rfl (fun c12 => ?_) (fun c12 => ?_)
            · skip
              refine v_aload_n dX5_sheet_61 0 rfl 62 rfl ?_
              refine v_get (i := 12) (ci := 5) (T := TX5) (C := RX5) (N := 16) (v := .ref (ga G (100))) dX5_sheet_62 inB5 rfl qw_698 rfl (by decide) (by decide) (cel_mod G _) rfl 65 rfl ?_
              refine v_iload_n dX5_sheet_65 1 rfl 66 rfl ?_
              refine v_iload_n dX5_sheet_66 2 rfl 67 rfl ?_
              refine v_iast (w2 := (K, (ms, mk, mo, ma, mf, ik, mt, td, fr, tt, vl, wr, upd mb ja b, mz, nu, mv))) dX5_sheet_67 (by decide) (cel_mb G _) ja rfl (by omega) (by decide) u_mb 68 rfl ?_
              refine v_aload_n dX5_sheet_68 0 rfl 69 rfl ?_
              refine v_get (i := 13) (ci := 5) (T := TX5) (C := RX5) (N := 16) (v := .ref (ga G (101))) dX5_sheet_69 inB5 rfl qw_699 rfl (by decide) (by decide) (cel_mod G _) rfl 72 rfl ?_
              refine v_iload_n dX5_sheet_72 1 rfl 73 rfl ?_
              refine v_iload_n dX5_sheet_73 2 rfl 74 rfl ?_
              refine v_if_ne dX5_sheet_74 81 (by decide) 77 rfl (fun c13 => ?_) (fun c13 => absurd c13 c2)
              refine v_iload_n dX5_sheet_81 3 rfl 82 rfl ?_
              refine v_iast (w2 := (K, (ms, mk, mo, ma, mf, ik, mt, td, fr, tt, vl, wr, upd mb ja b, upd mz ja c, nu, mv))) dX5_sheet_82 (by decide) (cel_mz G _) ja rfl (by omega) (by decide) u_mz 83 rfl ?_
              refine v_iconst dX5_sheet_83 0 rfl 84 rfl ?_
              refine v_istore dX5_sheet_84 (by decide) [(4, .int 0), (0, .ref (ga G (93))), (1, .int (nI ja)), (2, .int b), (3, .int c)] rfl 86 rfl ?_
              refine lp_msheet l (ja := ja) (by omega) b c 40 0 (by omega) ?_
              refine v_aload_n dX5_sheet_112 1 rfl 113 rfl ?_
              refine v_get (i := 13) (ci := 5) (T := TX5) (C := RX5) (N := 16) (v := .ref (ga G (101))) dX5_sheet_113 inB5 rfl qw_699 rfl (by decide) (by decide) (cel_mod G _) rfl 116 rfl ?_
              refine v_iload_n dX5_sheet_116 2 rfl 117 rfl ?_
              refine v_iald (a := upd mz ja c) dX5_sheet_117 (by decide) (cel_mz G _) ja rfl (by omega) (by decide) 118 rfl ?_
              exact v_iret dX5_sheet_118 (by simp only [qSheet, okb, c1, eja, Bool.and_self, Bool.and_true, Bool.true_and, Bool.and_false, Bool.false_and, if_true, if_false, Bool.false_eq_true, ↓reduceIte] <;> simp [mFind, fnd0, fnd6, pk_us, c2, Ne.symm c2, c6, Ne.symm c6, c10, c11, Int32.not_lt.mpr c11, c12, Int32.not_lt.mpr c12, eja]) (by simp only [qSheet, okb, c1, eja, Bool.and_self, Bool.and_true, Bool.true_and, Bool.and_false, Bool.false_and, if_true, if_false, Bool.false_eq_true, ↓reduceIte] <;> simp [mFind, fnd0, fnd6, pk_us, c2, Ne.symm c2, c6, Ne.symm c6, c10, c11, Int32.not_lt.mpr c11, c12, Int32.not_lt.mpr c12, eja])
            · skip
              refine v_aload_n dX5_sheet_54 0 rfl 55 rfl ?_
              refine v_ldc dX5_sheet_55 (-1000000001) qw_755 57 rfl ?_
              refine v_callV (c_X5_finds l (k := 0) (by decide) (-1000000001) (by decide)) kal_X5_finds rfl dX5_sheet_57 qw_756 qw_758 qw_15 rfl (by decide) (cel_mod G _) (by decide) [] (Nat.le_of_ble_eq_true rfl) rfl rfl 60 rfl ?_
              exact v_iret dX5_sheet_60 (by simp only [qSheet, okb, c1, eja, Bool.and_self, Bool.and_true, Bool.true_and, Bool.and_false, Bool.false_and, if_true, if_false, Bool.false_eq_true, ↓reduceIte] <;> simp [mFind, fnd0, fnd6, pk_us, c2, Ne.symm c2, c6, Ne.symm c6, c10, c11, Int32.not_lt.mpr c11, c12, Int32.not_le.mp c12, eja]) (by simp only [qSheet, okb, c1, eja, Bool.and_self, Bool.and_true, Bool.true_and, Bool.and_false, Bool.false_and, if_true, if_false, Bool.false_eq_true, ↓reduceIte] <;> simp [mFind, fnd0, fnd6, pk_us, c2, Ne.symm c2, c6, Ne.symm c6, c10, c11, Int32.not_lt.mpr c11, c12, Int32.not_le.mp c12, eja])
          · skip
            refine v_aload_n dX5_sheet_40 0 rfl 41 rfl ?_
            refine v_ldcw dX5_sheet_41 (-1000000007) qw_1077 44 rfl ?_
            refine v_callV (c_X5_finds l (k := 6) (by decide) (-1000000007) (by decide)) kal_X5_finds rfl dX5_sheet_44 qw_756 qw_758 qw_15 rfl (by decide) (cel_mod G _) (by decide) [] (Nat.le_of_ble_eq_true rfl) rfl rfl 47 rfl ?_
            exact v_iret dX5_sheet_47 (by simp only [qSheet, okb, c1, eja, Bool.and_self, Bool.and_true, Bool.true_and, Bool.and_false, Bool.false_and, if_true, if_false, Bool.false_eq_true, ↓reduceIte] <;> simp [mFind, fnd0, fnd6, pk_us, c2, Ne.symm c2, c6, Ne.symm c6, c10, c11, Int32.not_le.mp c11, eja]) (by simp only [qSheet, okb, c1, eja, Bool.and_self, Bool.and_true, Bool.true_and, Bool.and_false, Bool.false_and, if_true, if_false, Bool.false_eq_true, ↓reduceIte] <;> simp [mFind, fnd0, fnd6, pk_us, c2, Ne.symm c2, c6, Ne.symm c6, c10, c11, Int32.not_le.mp c11, eja])
        · skip
          refine v_iload_n dX5_sheet_23 2 rfl 24 rfl ?_
          refine v_bipush dX5_sheet_24 64 rfl 26 rfl ?_
          refine v_icmp_eq dX5_sheet_26 36 (by decide) 29 rfl (fun c14 => ?_) (fun c14 => ?_)
          · skip
            refine v_iload_n dX5_sheet_36 3 rfl 37 rfl ?_
            refine v_if_ge dX5_sheet_37 48 (by decide) 40 rfl (fun c15 => ?_) (fun c15 => ?_)
            · skip
              refine v_iload_n dX5_sheet_48 3 rfl 49 rfl ?_
              refine v_bipush dX5_sheet_49 40 rfl 51 rfl ?_
              refine v_icmp_le dX5_sheet_51 61 (by decide) 54 rfl (fun c16 => ?_) (fun c16 => ?_)
              · skip
                refine v_aload_n dX5_sheet_61 0 rfl 62 rfl ?_
                refine v_get (i := 12) (ci := 5) (T := TX5) (C := RX5) (N := 16) (v := .ref (ga G (100))) dX5_sheet_62 inB5 rfl qw_698 rfl (by decide) (by decide) (cel_mod G _) rfl 65 rfl ?_
                refine v_iload_n dX5_sheet_65 1 rfl 66 rfl ?_
                refine v_iload_n dX5_sheet_66 2 rfl 67 rfl ?_
                refine v_iast (w2 := (K, (ms, mk, mo, ma, mf, ik, mt, td, fr, tt, vl, wr, upd mb ja b, mz, nu, mv))) dX5_sheet_67 (by decide) (cel_mb G _) ja rfl (by omega) (by decide) u_mb 68 rfl ?_
                refine v_aload_n dX5_sheet_68 0 rfl 69 rfl ?_
                refine v_get (i := 13) (ci := 5) (T := TX5) (C := RX5) (N := 16) (v := .ref (ga G (101))) dX5_sheet_69 inB5 rfl qw_699 rfl (by decide) (by decide) (cel_mod G _) rfl 72 rfl ?_
                refine v_iload_n dX5_sheet_72 1 rfl 73 rfl ?_
                refine v_iload_n dX5_sheet_73 2 rfl 74 rfl ?_
                refine v_if_ne dX5_sheet_74 81 (by decide) 77 rfl (fun c17 => ?_) (fun c17 => absurd c17 c2)
                refine v_iload_n dX5_sheet_81 3 rfl 82 rfl ?_
                refine v_iast (w2 := (K, (ms, mk, mo, ma, mf, ik, mt, td, fr, tt, vl, wr, upd mb ja b, upd mz ja c, nu, mv))) dX5_sheet_82 (by decide) (cel_mz G _) ja rfl (by omega) (by decide) u_mz 83 rfl ?_
                refine v_iconst dX5_sheet_83 0 rfl 84 rfl ?_
                refine v_istore dX5_sheet_84 (by decide) [(4, .int 0), (0, .ref (ga G (93))), (1, .int (nI ja)), (2, .int b), (3, .int c)] rfl 86 rfl ?_
                refine lp_msheet l (ja := ja) (by omega) b c 40 0 (by omega) ?_
                refine v_aload_n dX5_sheet_112 1 rfl 113 rfl ?_
                refine v_get (i := 13) (ci := 5) (T := TX5) (C := RX5) (N := 16) (v := .ref (ga G (101))) dX5_sheet_113 inB5 rfl qw_699 rfl (by decide) (by decide) (cel_mod G _) rfl 116 rfl ?_
                refine v_iload_n dX5_sheet_116 2 rfl 117 rfl ?_
                refine v_iald (a := upd mz ja c) dX5_sheet_117 (by decide) (cel_mz G _) ja rfl (by omega) (by decide) 118 rfl ?_
                exact v_iret dX5_sheet_118 (by simp only [qSheet, okb, c1, eja, Bool.and_self, Bool.and_true, Bool.true_and, Bool.and_false, Bool.false_and, if_true, if_false, Bool.false_eq_true, ↓reduceIte] <;> simp [mFind, fnd0, fnd6, pk_us, c2, Ne.symm c2, c6, Ne.symm c6, c10, Ne.symm c10, c14, c15, Int32.not_lt.mpr c15, c16, Int32.not_lt.mpr c16, eja]) (by simp only [qSheet, okb, c1, eja, Bool.and_self, Bool.and_true, Bool.true_and, Bool.and_false, Bool.false_and, if_true, if_false, Bool.false_eq_true, ↓reduceIte] <;> simp [mFind, fnd0, fnd6, pk_us, c2, Ne.symm c2, c6, Ne.symm c6, c10, Ne.symm c10, c14, c15, Int32.not_lt.mpr c15, c16, Int32.not_lt.mpr c16, eja])
              · skip
                refine v_aload_n dX5_sheet_54 0 rfl 55 rfl ?_
                refine v_ldc dX5_sheet_55 (-1000000001) qw_755 57 rfl ?_
                refine v_callV (c_X5_finds l (k := 0) (by decide) (-1000000001) (by decide)) kal_X5_finds rfl dX5_sheet_57 qw_756 qw_758 qw_15 rfl (by decide) (cel_mod G _) (by decide) [] (Nat.le_of_ble_eq_true rfl) rfl rfl 60 rfl ?_
                exact v_iret dX5_sheet_60 (by simp only [qSheet, okb, c1, eja, Bool.and_self, Bool.and_true, Bool.true_and, Bool.and_false, Bool.false_and, if_true, if_false, Bool.false_eq_true, ↓reduceIte] <;> simp [mFind, fnd0, fnd6, pk_us, c2, Ne.symm c2, c6, Ne.symm c6, c10, Ne.symm c10, c14, c15, Int32.not_lt.mpr c15, c16, Int32.not_le.mp c16, eja]) (by simp only [qSheet, okb, c1, eja, Bool.and_self, Bool.and_true, Bool.true_and, Bool.and_false, Bool.false_and, if_true, if_false, Bool.false_eq_true, ↓reduceIte] <;> simp [mFind, fnd0, fnd6, pk_us, c2, Ne.symm c2, c6, Ne.symm c6, c10, Ne.symm c10, c14, c15, Int32.not_lt.mpr c15, c16, Int32.not_le.mp c16, eja])
            · skip
              refine v_aload_n dX5_sheet_40 0 rfl 41 rfl ?_
              refine v_ldcw dX5_sheet_41 (-1000000007) qw_1077 44 rfl ?_
              refine v_callV (c_X5_finds l (k := 6) (by decide) (-1000000007) (by decide)) kal_X5_finds rfl dX5_sheet_44 qw_756 qw_758 qw_15 rfl (by decide) (cel_mod G _) (by decide) [] (Nat.le_of_ble_eq_true rfl) rfl rfl 47 rfl ?_
              exact v_iret dX5_sheet_47 (by simp only [qSheet, okb, c1, eja, Bool.and_self, Bool.and_true, Bool.true_and, Bool.and_false, Bool.false_and, if_true, if_false, Bool.false_eq_true, ↓reduceIte] <;> simp [mFind, fnd0, fnd6, pk_us, c2, Ne.symm c2, c6, Ne.symm c6, c10, Ne.symm c10, c14, c15, Int32.not_le.mp c15, eja]) (by simp only [qSheet, okb, c1, eja, Bool.and_self, Bool.and_true, Bool.true_and, Bool.and_false, Bool.false_and, if_true, if_false, Bool.false_eq_true, ↓reduceIte] <;> simp [mFind, fnd0, fnd6, pk_us, c2, Ne.symm c2, c6, Ne.symm c6, c10, Ne.symm c10, c14, c15, Int32.not_le.mp c15, eja])
          · skip
            refine v_aload_n dX5_sheet_29 0 rfl 30 rfl ?_
            refine v_ldc dX5_sheet_30 (-1000000001) qw_755 32 rfl ?_
            refine v_callV (c_X5_finds l (k := 0) (by decide) (-1000000001) (by decide)) kal_X5_finds rfl dX5_sheet_32 qw_756 qw_758 qw_15 rfl (by decide) (cel_mod G _) (by decide) [] (Nat.le_of_ble_eq_true rfl) rfl rfl 35 rfl ?_
            exact v_iret dX5_sheet_35 (by simp only [qSheet, okb, c1, eja, Bool.and_self, Bool.and_true, Bool.true_and, Bool.and_false, Bool.false_and, if_true, if_false, Bool.false_eq_true, ↓reduceIte] <;> simp [mFind, fnd0, fnd6, pk_us, c2, Ne.symm c2, c6, Ne.symm c6, c10, Ne.symm c10, c14, Ne.symm c14, eja]) (by simp only [qSheet, okb, c1, eja, Bool.and_self, Bool.and_true, Bool.true_and, Bool.and_false, Bool.false_and, if_true, if_false, Bool.false_eq_true, ↓reduceIte] <;> simp [mFind, fnd0, fnd6, pk_us, c2, Ne.symm c2, c6, Ne.symm c6, c10, Ne.symm c10, c14, Ne.symm c14, eja])
set_option maxHeartbeats 1000000 in
set_option maxRecDepth 4000 in
theorem c_X5_narrowed (l : Launch) {G : Gl} {w : WS} (b : Int32) (v : Int64) : Ct l G yX5_narrowed cX5_narrowed 3 (some .long) 0 0 [.int b, .long v] w (some (.long (nrw b v))) w := by
  refine Ct.of (own := RX5) (by decide) rfl (Nat.le_of_ble_eq_true rfl) rfl (fun X => ?_)
  refine v_iload_n dX5_narrowed_0 0 rfl 1 rfl ?_
  refine v_bipush dX5_narrowed_1 8 rfl 3 rfl ?_
  refine v_icmp_ne dX5_narrowed_3 13 (by decide) 6 rfl (fun c1 => ?_) (fun c1 => ?_)
  · skip
    refine v_iload_n dX5_narrowed_13 0 rfl 14 rfl ?_
    refine v_bipush dX5_narrowed_14 16 rfl 16 rfl ?_
    refine v_icmp_ne dX5_narrowed_16 26 (by decide) 19 rfl (fun c2 => ?_) (fun c2 => ?_)
    · skip
      refine v_lload_n dX5_narrowed_26 1 rfl 27 rfl ?_
      exact v_lret dX5_narrowed_27 (by simp [nrw, c1, Ne.symm c1, c2, Ne.symm c2]) (by rfl)
    · skip
      refine v_lload_n dX5_narrowed_19 1 rfl 20 rfl ?_
      refine v_l2i dX5_narrowed_20 21 rfl ?_
      refine v_i2s dX5_narrowed_21 22 rfl ?_
      refine v_i2l dX5_narrowed_22 23 rfl ?_
      refine v_goto dX5_narrowed_23 27 (by decide) ?_
      exact v_lret dX5_narrowed_27 (by simp [nrw, c1, Ne.symm c1, c2]) (by rfl)
  · skip
    refine v_lload_n dX5_narrowed_6 1 rfl 7 rfl ?_
    refine v_l2i dX5_narrowed_7 8 rfl ?_
    refine v_i2b dX5_narrowed_8 9 rfl ?_
    refine v_i2l dX5_narrowed_9 10 rfl ?_
    refine v_goto dX5_narrowed_10 27 (by decide) ?_
    exact v_lret dX5_narrowed_27 (by simp [nrw, c1]) (by rfl)
set_option maxHeartbeats 1000000 in
set_option maxRecDepth 4000 in
theorem c_X5_wrongSheet (l : Launch) {G : Gl} {K : CS} {M : MS} (a : Int32) : Ct l G yX5_wrongSheet cX5_wrongSheet 2 (some .int) 2 45 [.ref (ga G (93)), .int a] (K, M) (some (.int ((wrS M a, M)).1)) (K, ((wrS M a, M)).2) := by
  obtain ⟨ms, mk, mo, ma, mf, ik, mt, td, fr, tt, vl, wr, mb, mz, nu, mv⟩ := M
  refine Ct.of (own := RX5) (by decide) rfl (Nat.le_of_ble_eq_true rfl) rfl (fun X => ?_)
  refine v_iload_n dX5_wrongSheet_0 1 rfl 1 rfl ?_
  refine v_callS (c_X5_isOne l a) kal_X5_isOne rfl dX5_wrongSheet_1 qw_1074 qw_1075 (by decide) [] (Nat.le_of_ble_eq_true rfl) rfl rfl 4 rfl ?_
  refine v_ifb_ne dX5_wrongSheet_4 12 (by decide) 7 rfl (fun c1 => ?_) (fun c1 => ?_)
  · skip
    obtain ⟨ja, h1ja, h2ja, rfl⟩ := inb_ix (lo := 0) (hi := 3) c1
    have eja : (nI ja).toNatClampNeg = ja := nI_clamp (by omega)
    refine v_aload_n dX5_wrongSheet_12 0 rfl 13 rfl ?_
    refine v_get (i := 12) (ci := 5) (T := TX5) (C := RX5) (N := 16) (v := .ref (ga G (100))) dX5_wrongSheet_13 inB5 rfl qw_698 rfl (by decide) (by decide) (cel_mod G _) rfl 16 rfl ?_
    refine v_iload_n dX5_wrongSheet_16 1 rfl 17 rfl ?_
    refine v_iald (a := mb) dX5_wrongSheet_17 (by decide) (cel_mb G _) ja rfl (by omega) (by decide) 18 rfl ?_
    refine v_if_ne dX5_wrongSheet_18 27 (by decide) 21 rfl (fun c2 => ?_) (fun c2 => ?_)
    · skip
      refine v_iconst dX5_wrongSheet_27 0 rfl 28 rfl ?_
      exact v_iret dX5_wrongSheet_28 (by simp only [wrS, c1, eja, if_true, if_false, Bool.false_eq_true, ↓reduceIte] <;> simp [c2, Ne.symm c2, eja]) (by rfl)
    · skip
      refine v_ldcw dX5_wrongSheet_21 (-1000000006) qw_1086 24 rfl ?_
      refine v_goto dX5_wrongSheet_24 28 (by decide) ?_
      exact v_iret dX5_wrongSheet_28 (by simp only [wrS, c1, eja, if_true, if_false, Bool.false_eq_true, ↓reduceIte] <;> simp [c2, eja]) (by rfl)
  · skip
    refine v_ldc dX5_wrongSheet_7 (-1000000001) qw_755 9 rfl ?_
    refine v_goto dX5_wrongSheet_9 28 (by decide) ?_
    exact v_iret dX5_wrongSheet_28 (by simp only [wrS, c1, if_true, if_false, Bool.false_eq_true, ↓reduceIte] <;> simp [true_and]) (by rfl)
set_option maxHeartbeats 1000000 in
set_option maxRecDepth 4000 in
theorem c_X5_write (l : Launch) {G : Gl} {K : CS} {M : MS} {zf : Nat → Nat} (hz : ∀ s, s < 4 → M.2.2.2.2.2.2.2.2.2.2.2.2.2.1 s = nI (zf s) ∧ zf s ≤ 40) (a b : Int32) (v : Int64) : Ct l G yX5_write cX5_write 8 (some .long) 3 66 [.ref (ga G (93)), .int a, .int b, .long v] (K, M) (some (.long (qWrite M zf a b v).1)) (K, (qWrite M zf a b v).2) := by
  obtain ⟨ms, mk, mo, ma, mf, ik, mt, td, fr, tt, vl, wr, mb, mz, nu, mv⟩ := M
  dsimp only at hz
  refine Ct.of (own := RX5) (by decide) rfl (Nat.le_of_ble_eq_true rfl) rfl (fun X => ?_)
  refine v_aload_n dX5_write_0 0 rfl 1 rfl ?_
  refine v_iload_n dX5_write_1 1 rfl 2 rfl ?_
  refine v_callV (c_X5_wrongSheet l (M := (ms, mk, mo, ma, mf, ik, mt, td, fr, tt, vl, wr, mb, mz, nu, mv)) a) kal_X5_wrongSheet rfl dX5_write_2 qw_1082 qw_1084 qw_52 rfl (by decide) (cel_mod G _) (by decide) [] (Nat.le_of_ble_eq_true rfl) rfl rfl 5 rfl ?_
  by_cases hS : inb 0 3 a = true
  · obtain ⟨ja, h1ja, h2ja, rfl⟩ := inb_ix (lo := 0) (hi := 3) hS
    have eja : (nI ja).toNatClampNeg = ja := nI_clamp (by omega)
    have hzja := hz ja (by omega)
    by_cases hB : mb ja = 0
    · refine v_topi (-1000000006) (by simp only [wrS, hS, if_true, ↓reduceIte]; simp [eja, hB]) ?_
      refine v_istore dX5_write_5 (by decide) [(5, .int (-1000000006)), (0, .ref (ga G (93))), (1, .int (nI ja)), (2, .int b), (3, .long v)] rfl 7 rfl ?_
      refine v_iload dX5_write_7 0 rfl 9 rfl ?_
      refine v_if_eq dX5_write_9 20 (by decide) 12 rfl (fun c1 => absurd c1 (by decide)) (fun c1 => ?_)
      refine v_aload_n dX5_write_12 1 rfl 13 rfl ?_
      refine v_iload dX5_write_13 0 rfl 15 rfl ?_
      refine v_callV (c_X5_finds l (k := 5) (by decide) (-1000000006) (by decide)) kal_X5_finds rfl dX5_write_15 qw_756 qw_758 qw_15 rfl (by decide) (cel_mod G _) (by decide) [] (Nat.le_of_ble_eq_true rfl) rfl rfl 18 rfl ?_
      refine v_i2l dX5_write_18 19 rfl ?_
      exact v_lret dX5_write_19 (by simp only [qWrite, hS, eja, Bool.and_self, Bool.and_true, Bool.true_and, Bool.and_false, Bool.false_and, if_true, if_false, Bool.false_eq_true, ↓reduceIte] <;> simp [mFind, lfind, xs, xa, fnd0, fnd1, fnd2, fnd3, fnd4, fnd5, fnd6, hB, eja]) (by simp only [qWrite, hS, eja, Bool.and_self, Bool.and_true, Bool.true_and, Bool.and_false, Bool.false_and, if_true, if_false, Bool.false_eq_true, ↓reduceIte] <;> simp [mFind, lfind, xs, xa, fnd0, fnd1, fnd2, fnd3, fnd4, fnd5, fnd6, hB, eja])
    · refine v_topi 0 (by simp only [wrS, hS, if_true, ↓reduceIte]; simp [eja, hB]) ?_
      refine v_istore dX5_write_5 (by decide) [(5, .int 0), (0, .ref (ga G (93))), (1, .int (nI ja)), (2, .int b), (3, .long v)] rfl 7 rfl ?_
      refine v_iload dX5_write_7 0 rfl 9 rfl ?_
      refine v_if_eq dX5_write_9 20 (by decide) 12 rfl (fun c2 => ?_) (fun c2 => absurd c2 (by decide))
      refine v_iload_n dX5_write_20 3 rfl 21 rfl ?_
      refine v_i2l dX5_write_21 22 rfl ?_
      refine v_lconst dX5_write_22 0 rfl 23 rfl ?_
      refine v_aload_n dX5_write_23 1 rfl 24 rfl ?_
      refine v_get (i := 13) (ci := 5) (T := TX5) (C := RX5) (N := 16) (v := .ref (ga G (101))) dX5_write_24 inB5 rfl qw_699 rfl (by decide) (by decide) (cel_mod G _) rfl 27 rfl ?_
      refine v_iload_n dX5_write_27 2 rfl 28 rfl ?_
      refine v_iald (a := mz) dX5_write_28 (by decide) (cel_mz G _) ja rfl (by omega) (by decide) 29 rfl ?_
      refine v_topi (nI (zf ja)) hzja.1 ?_
      refine v_iconst dX5_write_29 1 rfl 30 rfl ?_
      refine v_isub dX5_write_30 31 rfl ?_
      refine v_i2l dX5_write_31 32 rfl ?_
      refine v_callS (c_X5_in l (b : Int32).toInt64 0 ((nI (zf ja)) - 1 : Int32).toInt64 (z := (b : Int32).toInt) (lo := 0) (hi := ((((zf ja) : Nat) : Int) - 1)) (i2l_i _) rfl (i2l_m1 (by omega))) kal_X5_in rfl dX5_write_32 qw_743 qw_744 (by decide) [] (Nat.le_of_ble_eq_true rfl) rfl rfl 35 rfl ?_
      refine v_topi (b2 (inE (zf ja) b)) rfl ?_
      refine v_ifb_ne dX5_write_35 46 (by decide) 38 rfl (fun c3 => ?_) (fun c3 => ?_)
      · skip
        obtain ⟨jb, h2jb, rfl⟩ := inE_ix c3
        have ejb : (nI jb).toNatClampNeg = jb := nI_clamp (by omega)
        refine v_aload_n dX5_write_46 1 rfl 47 rfl ?_
        refine v_get (i := 14) (ci := 5) (T := TX5) (C := RX5) (N := 16) (v := .ref (ga G (102))) dX5_write_47 inB5 rfl qw_700 rfl (by decide) (by decide) (cel_mod G _) rfl 50 rfl ?_
        refine v_bipush dX5_write_50 40 rfl 52 rfl ?_
        refine v_iload_n dX5_write_52 2 rfl 53 rfl ?_
        refine n_imul dX5_write_53 40 ja rfl rfl 54 rfl ?_
        refine v_iload_n dX5_write_54 3 rfl 55 rfl ?_
        refine n_iadd dX5_write_55 (40 * ja) jb rfl rfl 56 rfl ?_
        refine v_lald (a := nu) dX5_write_56 (by decide) (cel_nu G _) ((40 * ja) + jb) rfl (by omega) (by decide) 57 rfl ?_
        refine v_lstore dX5_write_57 (by decide) [(6, .long (nu ((40 * ja) + jb))), (5, .int 0), (0, .ref (ga G (93))), (1, .int (nI ja)), (2, .int (nI jb)), (3, .long v)] rfl 59 rfl ?_
        refine v_aload_n dX5_write_59 2 rfl 60 rfl ?_
        refine v_get (i := 14) (ci := 5) (T := TX5) (C := RX5) (N := 16) (v := .ref (ga G (102))) dX5_write_60 inB5 rfl qw_700 rfl (by decide) (by decide) (cel_mod G _) rfl 63 rfl ?_
        refine v_bipush dX5_write_63 40 rfl 65 rfl ?_
        refine v_iload_n dX5_write_65 3 rfl 66 rfl ?_
        refine n_imul dX5_write_66 40 ja rfl rfl 67 rfl ?_
        refine v_iload_n dX5_write_67 4 rfl 68 rfl ?_
        refine n_iadd dX5_write_68 (40 * ja) jb rfl rfl 69 rfl ?_
        refine v_aload_n dX5_write_69 2 rfl 70 rfl ?_
        refine v_get (i := 12) (ci := 5) (T := TX5) (C := RX5) (N := 16) (v := .ref (ga G (100))) dX5_write_70 inB5 rfl qw_698 rfl (by decide) (by decide) (cel_mod G _) rfl 73 rfl ?_
        refine v_iload_n dX5_write_73 3 rfl 74 rfl ?_
        refine v_iald (a := mb) dX5_write_74 (by decide) (cel_mb G _) ja rfl (by omega) (by decide) 75 rfl ?_
        refine v_lload_n dX5_write_75 5 rfl 76 rfl ?_
        refine v_callS (c_X5_narrowed l (mb ja) v) kal_X5_narrowed rfl dX5_write_76 qw_1087 qw_1088 (by decide) [.int (nI ((40 * ja) + jb)), .ref (ga G (102))] (Nat.le_of_ble_eq_true rfl) rfl rfl 79 rfl ?_
        refine v_last (w2 := (K, (ms, mk, mo, ma, mf, ik, mt, td, fr, tt, vl, wr, mb, mz, vp_updL nu ((40 * ja) + jb) (nrw (mb ja) v), mv))) dX5_write_79 (by decide) (cel_nu G _) ((40 * ja) + jb) rfl (by omega) (by decide) u_nu 80 rfl ?_
        refine v_lload dX5_write_80 0 rfl 82 rfl ?_
        exact v_lret dX5_write_82 (by simp only [qWrite, hS, c3, eja, ejb, Bool.and_self, Bool.and_true, Bool.true_and, Bool.and_false, Bool.false_and, if_true, if_false, Bool.false_eq_true, ↓reduceIte] <;> simp [mFind, lfind, xs, xa, fnd0, fnd1, fnd2, fnd3, fnd4, fnd5, fnd6, hB, eja, ejb]) (by simp only [qWrite, hS, c3, eja, ejb, Bool.and_self, Bool.and_true, Bool.true_and, Bool.and_false, Bool.false_and, if_true, if_false, Bool.false_eq_true, ↓reduceIte] <;> simp [mFind, lfind, xs, xa, fnd0, fnd1, fnd2, fnd3, fnd4, fnd5, fnd6, hB, eja, ejb])
      · skip
        refine v_aload_n dX5_write_38 1 rfl 39 rfl ?_
        refine v_ldc dX5_write_39 (-1000000001) qw_755 41 rfl ?_
        refine v_callV (c_X5_finds l (k := 0) (by decide) (-1000000001) (by decide)) kal_X5_finds rfl dX5_write_41 qw_756 qw_758 qw_15 rfl (by decide) (cel_mod G _) (by decide) [] (Nat.le_of_ble_eq_true rfl) rfl rfl 44 rfl ?_
        refine v_i2l dX5_write_44 45 rfl ?_
        exact v_lret dX5_write_45 (by simp only [qWrite, hS, c3, eja, Bool.and_self, Bool.and_true, Bool.true_and, Bool.and_false, Bool.false_and, if_true, if_false, Bool.false_eq_true, ↓reduceIte] <;> simp [mFind, lfind, xs, xa, fnd0, fnd1, fnd2, fnd3, fnd4, fnd5, fnd6, hB, eja]) (by simp only [qWrite, hS, c3, eja, Bool.and_self, Bool.and_true, Bool.true_and, Bool.and_false, Bool.false_and, if_true, if_false, Bool.false_eq_true, ↓reduceIte] <;> simp [mFind, lfind, xs, xa, fnd0, fnd1, fnd2, fnd3, fnd4, fnd5, fnd6, hB, eja])
  · have hS : inb 0 3 a = false := by simpa using hS
    refine v_topi (-1000000001) (by simp [wrS, hS]) ?_
    refine v_istore dX5_write_5 (by decide) [(5, .int (-1000000001)), (0, .ref (ga G (93))), (1, .int a), (2, .int b), (3, .long v)] rfl 7 rfl ?_
    refine v_iload dX5_write_7 0 rfl 9 rfl ?_
    refine v_if_eq dX5_write_9 20 (by decide) 12 rfl (fun c4 => absurd c4 (by decide)) (fun c4 => ?_)
    refine v_aload_n dX5_write_12 1 rfl 13 rfl ?_
    refine v_iload dX5_write_13 0 rfl 15 rfl ?_
    refine v_callV (c_X5_finds l (k := 0) (by decide) (-1000000001) (by decide)) kal_X5_finds rfl dX5_write_15 qw_756 qw_758 qw_15 rfl (by decide) (cel_mod G _) (by decide) [] (Nat.le_of_ble_eq_true rfl) rfl rfl 18 rfl ?_
    refine v_i2l dX5_write_18 19 rfl ?_
    exact v_lret dX5_write_19 (by simp only [qWrite, hS, Bool.and_self, Bool.and_true, Bool.true_and, Bool.and_false, Bool.false_and, if_true, if_false, Bool.false_eq_true, ↓reduceIte] <;> simp [mFind, lfind, xs, xa, fnd0, fnd1, fnd2, fnd3, fnd4, fnd5, fnd6, true_and]) (by simp only [qWrite, hS, Bool.and_self, Bool.and_true, Bool.true_and, Bool.and_false, Bool.false_and, if_true, if_false, Bool.false_eq_true, ↓reduceIte] <;> simp [mFind, lfind, xs, xa, fnd0, fnd1, fnd2, fnd3, fnd4, fnd5, fnd6, true_and])
set_option maxHeartbeats 1000000 in
set_option maxRecDepth 4000 in
theorem lp_mlays (l : Launch) {G : Gl} {X : VX} {ov : Option Value} {wF : WS} {K : CS} {ms : Nat → Int32} {mk : Nat → Int32} {mo : Nat → Int32} {ma : Nat → Int32} {mf : Nat → Int32} {ik : Int32} {mt : Nat → Int32} {td : Nat} {fr : Nat} {tt : Nat} {vl : Int32} {wr : Int32} {mb : Nat → Int32} {mz : Nat → Int32} {nu : Nat → Int64} {mv : Nat → Int64} {zf : Nat → Nat} {ja : Nat} (hja : ja < 4) (hzja : mz ja = nI (zf ja) ∧ zf ja ≤ 40) : ∀ n i : Nat, i + n = (min (zf ja) 12) → V l X 3 66 cX5_lays 6 RX5 (some .int) G ov wF (K, ((lyS ms nu ja (min (zf ja) 12)), mk, mo, ma, mf, ik, mt, td, fr, tt, vl, wr, mb, mz, nu, mv)) 114 [(4, .int (nI (min (zf ja) 12))), (3, .int (lyN nu ja (min (zf ja) 12))), (0, .ref (ga G (93))), (1, .int (nI ja))] [] → V l X 3 66 cX5_lays 6 RX5 (some .int) G ov wF (K, ((lyS ms nu ja i), mk, mo, ma, mf, ik, mt, td, fr, tt, vl, wr, mb, mz, nu, mv)) 21 [(4, .int (nI i)), (3, .int (lyN nu ja i)), (0, .ref (ga G (93))), (1, .int (nI ja))] [] := by
  intro n
  induction n with
  | zero =>
    intro i hin hk
    obtain rfl : (min (zf ja) 12) = i := by omega
    refine v_iload dX5_lays_21 0 rfl 23 rfl ?_
    refine v_aload_n dX5_lays_23 2 rfl 24 rfl ?_
    refine v_get (i := 13) (ci := 5) (T := TX5) (C := RX5) (N := 16) (v := .ref (ga G (101))) dX5_lays_24 inB5 rfl qw_699 rfl (by decide) (by decide) (cel_mod G _) rfl 27 rfl ?_
    refine v_iload_n dX5_lays_27 3 rfl 28 rfl ?_
    refine v_iald (a := mz) dX5_lays_28 (by decide) (cel_mz G _) ja rfl (by omega) (by decide) 29 rfl ?_
    refine v_topi (nI (zf ja)) hzja.1 ?_
    refine n_icmp_ge dX5_lays_29 (min (zf ja) 12) (zf ja) rfl rfl (by omega) (by omega) 114 (by decide) 32 rfl (fun c1 => ?_) (fun c1 => ?_)
    · skip
      exact hk
    · skip
      refine v_iload dX5_lays_32 0 rfl 34 rfl ?_
      refine v_bipush dX5_lays_34 12 rfl 36 rfl ?_
      refine n_icmp_ge dX5_lays_36 (min (zf ja) 12) 12 rfl rfl (by omega) (by omega) 114 (by decide) 39 rfl (fun c2 => ?_) (fun c2 => absurd c2 (by omega))
      exact hk
  | succ n ih =>
    intro i hin hk
    refine v_iload dX5_lays_21 0 rfl 23 rfl ?_
    refine v_aload_n dX5_lays_23 2 rfl 24 rfl ?_
    refine v_get (i := 13) (ci := 5) (T := TX5) (C := RX5) (N := 16) (v := .ref (ga G (101))) dX5_lays_24 inB5 rfl qw_699 rfl (by decide) (by decide) (cel_mod G _) rfl 27 rfl ?_
    refine v_iload_n dX5_lays_27 3 rfl 28 rfl ?_
    refine v_iald (a := mz) dX5_lays_28 (by decide) (cel_mz G _) ja rfl (by omega) (by decide) 29 rfl ?_
    refine v_topi (nI (zf ja)) hzja.1 ?_
    refine n_icmp_ge dX5_lays_29 i (zf ja) rfl rfl (by omega) (by omega) 114 (by decide) 32 rfl (fun c1 => absurd c1 (by omega)) (fun c1 => ?_)
    refine v_iload dX5_lays_32 0 rfl 34 rfl ?_
    refine v_bipush dX5_lays_34 12 rfl 36 rfl ?_
    refine n_icmp_ge dX5_lays_36 i 12 rfl rfl (by omega) (by omega) 114 (by decide) 39 rfl (fun c2 => absurd c2 (by omega)) (fun c2 => ?_)
    refine v_aload_n dX5_lays_39 2 rfl 40 rfl ?_
    refine v_get (i := 14) (ci := 5) (T := TX5) (C := RX5) (N := 16) (v := .ref (ga G (102))) dX5_lays_40 inB5 rfl qw_700 rfl (by decide) (by decide) (cel_mod G _) rfl 43 rfl ?_
    refine v_bipush dX5_lays_43 40 rfl 45 rfl ?_
    refine v_iload_n dX5_lays_45 3 rfl 46 rfl ?_
    refine n_imul dX5_lays_46 40 ja rfl rfl 47 rfl ?_
    refine v_iload dX5_lays_47 0 rfl 49 rfl ?_
    refine n_iadd dX5_lays_49 (40 * ja) i rfl rfl 50 rfl ?_
    refine v_lald (a := nu) dX5_lays_50 (by decide) (cel_nu G _) ((40 * ja) + i) rfl (by omega) (by decide) 51 rfl ?_
    refine v_callS (c_X5_isWeather l (nu ((40 * ja) + i))) kal_X5_isWeather rfl dX5_lays_51 qw_746 qw_747 (by decide) [] (Nat.le_of_ble_eq_true rfl) rfl rfl 54 rfl ?_
    refine v_istore dX5_lays_54 (by decide) [(5, .int (b2 (inz (-20) 20 (nu ((40 * ja) + i)).toInt))), (4, .int (nI i)), (3, .int (lyN nu ja i)), (0, .ref (ga G (93))), (1, .int (nI ja))] rfl 56 rfl ?_
    refine v_aload_n dX5_lays_56 3 rfl 57 rfl ?_
    refine v_get (i := 0) (ci := 5) (T := TX5) (C := RX5) (N := 16) (v := .ref (ga G (94))) dX5_lays_57 inB5 rfl qw_686 rfl (by decide) (by decide) (cel_mod G _) rfl 60 rfl ?_
    refine v_iconst dX5_lays_60 2 rfl 61 rfl ?_
    refine v_iload dX5_lays_61 1 rfl 63 rfl ?_
    refine n_iadd dX5_lays_63 2 i rfl rfl 64 rfl ?_
    refine v_iload dX5_lays_64 0 rfl 66 rfl ?_
    refine v_ifb_eq dX5_lays_66 85 (by decide) 69 rfl (fun c3 => ?_) (fun c3 => ?_)
    · skip
      refine v_aload_n dX5_lays_85 3 rfl 86 rfl ?_
      refine v_get (i := 0) (ci := 5) (T := TX5) (C := RX5) (N := 16) (v := .ref (ga G (94))) dX5_lays_86 inB5 rfl qw_686 rfl (by decide) (by decide) (cel_mod G _) rfl 89 rfl ?_
      refine v_iconst dX5_lays_89 2 rfl 90 rfl ?_
      refine v_iload dX5_lays_90 1 rfl 92 rfl ?_
      refine n_iadd dX5_lays_92 2 i rfl rfl 93 rfl ?_
      refine v_iald (a := (lyS ms nu ja i)) dX5_lays_93 (by decide) (cel_ms G _) (2 + i) rfl (by omega) (by decide) 94 rfl ?_
      refine v_iast (w2 := (K, (upd (lyS ms nu ja i) (2 + i) ((lyS ms nu ja i) (2 + i)), mk, mo, ma, mf, ik, mt, td, fr, tt, vl, wr, mb, mz, nu, mv))) dX5_lays_94 (by decide) (cel_ms G _) (2 + i) rfl (by omega) (by decide) u_ms 95 rfl ?_
      refine v_iload_n dX5_lays_95 2 rfl 96 rfl ?_
      refine v_iload dX5_lays_96 0 rfl 98 rfl ?_
      refine v_ifb_eq dX5_lays_98 105 (by decide) 101 rfl (fun c4 => ?_) (fun c4 => absurd c4 (by rw [c3]; decide))
      refine v_iconst dX5_lays_105 0 rfl 106 rfl ?_
      refine v_iadd dX5_lays_106 107 rfl ?_
      refine v_istore_n dX5_lays_107 3 rfl (by decide) [(3, .int ((lyN nu ja i) + 0)), (5, .int (b2 (inz (-20) 20 (nu ((40 * ja) + i)).toInt))), (4, .int (nI i)), (0, .ref (ga G (93))), (1, .int (nI ja))] rfl 108 rfl ?_
      refine v_iinc dX5_lays_108 2 rfl (nI (i + 1)) (nI_1 _) (by decide) [(4, .int (nI (i + 1))), (3, .int ((lyN nu ja i) + 0)), (5, .int (b2 (inz (-20) 20 (nu ((40 * ja) + i)).toInt))), (0, .ref (ga G (93))), (1, .int (nI ja))] rfl 111 rfl ?_
      refine v_goto dX5_lays_111 21 (by decide) ?_
      refine v_pick [0, 1, 3, 4] [(4, .int (nI (i + 1))), (3, .int ((lyN nu ja i) + 0)), (0, .ref (ga G (93))), (1, .int (nI ja))] rfl ?_
      have e91 : (lyN nu ja i) + 0 = lyN nu ja (i + 1) := by simp [lyN, c3]
      refine v_ls (ls2 := [(4, .int (nI (i + 1))), (3, .int (lyN nu ja (i + 1))), (0, .ref (ga G (93))), (1, .int (nI ja))]) (by simp only [List.cons.injEq, Prod.mk.injEq, Value.int.injEq, true_and, and_true, and_self]; exact e91) ?_
      have e92 : upd (lyS ms nu ja i) (2 + i) ((lyS ms nu ja i) (2 + i)) = lyS ms nu ja (i + 1) := by simp only [lyS, c3, if_true, if_false, Bool.false_eq_true, ↓reduceIte] <;> first | rfl | exact fa_upd_same rfl
      refine v_w (w2 := (K, ((lyS ms nu ja (i + 1)), mk, mo, ma, mf, ik, mt, td, fr, tt, vl, wr, mb, mz, nu, mv))) (by rw [e92]) ?_
      exact ih (i + 1) (by omega) hk
    · skip
      refine v_aload_n dX5_lays_69 3 rfl 70 rfl ?_
      refine v_get (i := 14) (ci := 5) (T := TX5) (C := RX5) (N := 16) (v := .ref (ga G (102))) dX5_lays_70 inB5 rfl qw_700 rfl (by decide) (by decide) (cel_mod G _) rfl 73 rfl ?_
      refine v_bipush dX5_lays_73 40 rfl 75 rfl ?_
      refine v_iload_n dX5_lays_75 4 rfl 76 rfl ?_
      refine n_imul dX5_lays_76 40 ja rfl rfl 77 rfl ?_
      refine v_iload dX5_lays_77 1 rfl 79 rfl ?_
      refine n_iadd dX5_lays_79 (40 * ja) i rfl rfl 80 rfl ?_
      refine v_lald (a := nu) dX5_lays_80 (by decide) (cel_nu G _) ((40 * ja) + i) rfl (by omega) (by decide) 81 rfl ?_
      refine v_l2i dX5_lays_81 82 rfl ?_
      refine v_goto dX5_lays_82 94 (by decide) ?_
      refine v_iast (w2 := (K, (upd (lyS ms nu ja i) (2 + i) (nu ((40 * ja) + i)).toInt32, mk, mo, ma, mf, ik, mt, td, fr, tt, vl, wr, mb, mz, nu, mv))) dX5_lays_94 (by decide) (cel_ms G _) (2 + i) rfl (by omega) (by decide) u_ms 95 rfl ?_
      refine v_iload_n dX5_lays_95 2 rfl 96 rfl ?_
      refine v_iload dX5_lays_96 0 rfl 98 rfl ?_
      refine v_ifb_eq dX5_lays_98 105 (by decide) 101 rfl (fun c5 => absurd c5 (by rw [c3]; decide)) (fun c5 => ?_)
      refine v_iconst dX5_lays_101 1 rfl 102 rfl ?_
      refine v_goto dX5_lays_102 106 (by decide) ?_
      refine v_iadd dX5_lays_106 107 rfl ?_
      refine v_istore_n dX5_lays_107 3 rfl (by decide) [(3, .int ((lyN nu ja i) + 1)), (5, .int (b2 (inz (-20) 20 (nu ((40 * ja) + i)).toInt))), (4, .int (nI i)), (0, .ref (ga G (93))), (1, .int (nI ja))] rfl 108 rfl ?_
      refine v_iinc dX5_lays_108 2 rfl (nI (i + 1)) (nI_1 _) (by decide) [(4, .int (nI (i + 1))), (3, .int ((lyN nu ja i) + 1)), (5, .int (b2 (inz (-20) 20 (nu ((40 * ja) + i)).toInt))), (0, .ref (ga G (93))), (1, .int (nI ja))] rfl 111 rfl ?_
      refine v_goto dX5_lays_111 21 (by decide) ?_
      refine v_pick [0, 1, 3, 4] [(4, .int (nI (i + 1))), (3, .int ((lyN nu ja i) + 1)), (0, .ref (ga G (93))), (1, .int (nI ja))] rfl ?_
      have e91 : (lyN nu ja i) + 1 = lyN nu ja (i + 1) := by simp [lyN, c3]
      refine v_ls (ls2 := [(4, .int (nI (i + 1))), (3, .int (lyN nu ja (i + 1))), (0, .ref (ga G (93))), (1, .int (nI ja))]) (by simp only [List.cons.injEq, Prod.mk.injEq, Value.int.injEq, true_and, and_true, and_self]; exact e91) ?_
      have e92 : upd (lyS ms nu ja i) (2 + i) (nu ((40 * ja) + i)).toInt32 = lyS ms nu ja (i + 1) := by simp only [lyS, c3, if_true, if_false, Bool.false_eq_true, ↓reduceIte] <;> first | rfl | exact fa_upd_same rfl
      refine v_w (w2 := (K, ((lyS ms nu ja (i + 1)), mk, mo, ma, mf, ik, mt, td, fr, tt, vl, wr, mb, mz, nu, mv))) (by rw [e92]) ?_
      exact ih (i + 1) (by omega) hk
set_option maxHeartbeats 1000000 in
set_option maxRecDepth 4000 in
theorem c_X5_lays (l : Launch) {G : Gl} {K : CS} {M : MS} {zf : Nat → Nat} (hz : ∀ s, s < 4 → M.2.2.2.2.2.2.2.2.2.2.2.2.2.1 s = nI (zf s) ∧ zf s ≤ 40) (a : Int32) : Ct l G yX5_lays cX5_lays 6 (some .int) 3 66 [.ref (ga G (93)), .int a] (K, M) (some (.int (qLays M zf a).1)) (K, (qLays M zf a).2) := by
  obtain ⟨ms, mk, mo, ma, mf, ik, mt, td, fr, tt, vl, wr, mb, mz, nu, mv⟩ := M
  dsimp only at hz
  refine Ct.of (own := RX5) (by decide) rfl (Nat.le_of_ble_eq_true rfl) rfl (fun X => ?_)
  refine v_aload_n dX5_lays_0 0 rfl 1 rfl ?_
  refine v_iload_n dX5_lays_1 1 rfl 2 rfl ?_
  refine v_callV (c_X5_wrongSheet l (M := (ms, mk, mo, ma, mf, ik, mt, td, fr, tt, vl, wr, mb, mz, nu, mv)) a) kal_X5_wrongSheet rfl dX5_lays_2 qw_1082 qw_1084 qw_52 rfl (by decide) (cel_mod G _) (by decide) [] (Nat.le_of_ble_eq_true rfl) rfl rfl 5 rfl ?_
  by_cases hS : inb 0 3 a = true
  · obtain ⟨ja, h1ja, h2ja, rfl⟩ := inb_ix (lo := 0) (hi := 3) hS
    have eja : (nI ja).toNatClampNeg = ja := nI_clamp (by omega)
    have hzja := hz ja (by omega)
    by_cases hB : mb ja = 0
    · refine v_topi (-1000000006) (by simp only [wrS, hS, if_true, ↓reduceIte]; simp [eja, hB]) ?_
      refine v_istore_n dX5_lays_5 2 rfl (by decide) [(2, .int (-1000000006)), (0, .ref (ga G (93))), (1, .int (nI ja))] rfl 6 rfl ?_
      refine v_iload_n dX5_lays_6 0 rfl 7 rfl ?_
      refine v_if_eq dX5_lays_7 16 (by decide) 10 rfl (fun c1 => absurd c1 (by decide)) (fun c1 => ?_)
      refine v_aload_n dX5_lays_10 1 rfl 11 rfl ?_
      refine v_iload_n dX5_lays_11 0 rfl 12 rfl ?_
      refine v_callV (c_X5_finds l (k := 5) (by decide) (-1000000006) (by decide)) kal_X5_finds rfl dX5_lays_12 qw_756 qw_758 qw_15 rfl (by decide) (cel_mod G _) (by decide) [] (Nat.le_of_ble_eq_true rfl) rfl rfl 15 rfl ?_
      exact v_iret dX5_lays_15 (by simp only [qLays, hS, eja, Bool.and_self, Bool.and_true, Bool.true_and, Bool.and_false, Bool.false_and, if_true, if_false, Bool.false_eq_true, ↓reduceIte] <;> simp [mFind, lfind, xs, xa, fnd0, fnd1, fnd2, fnd3, fnd4, fnd5, fnd6, hB, eja]) (by simp only [qLays, hS, eja, Bool.and_self, Bool.and_true, Bool.true_and, Bool.and_false, Bool.false_and, if_true, if_false, Bool.false_eq_true, ↓reduceIte] <;> simp [mFind, lfind, xs, xa, fnd0, fnd1, fnd2, fnd3, fnd4, fnd5, fnd6, hB, eja])
    · refine v_topi 0 (by simp only [wrS, hS, if_true, ↓reduceIte]; simp [eja, hB]) ?_
      refine v_istore_n dX5_lays_5 2 rfl (by decide) [(2, .int 0), (0, .ref (ga G (93))), (1, .int (nI ja))] rfl 6 rfl ?_
      refine v_iload_n dX5_lays_6 0 rfl 7 rfl ?_
      refine v_if_eq dX5_lays_7 16 (by decide) 10 rfl (fun c2 => ?_) (fun c2 => absurd c2 (by decide))
      refine v_iconst dX5_lays_16 0 rfl 17 rfl ?_
      refine v_istore_n dX5_lays_17 3 rfl (by decide) [(3, .int 0), (2, .int 0), (0, .ref (ga G (93))), (1, .int (nI ja))] rfl 18 rfl ?_
      refine v_iconst dX5_lays_18 0 rfl 19 rfl ?_
      refine v_istore dX5_lays_19 (by decide) [(4, .int 0), (3, .int 0), (2, .int 0), (0, .ref (ga G (93))), (1, .int (nI ja))] rfl 21 rfl ?_
      refine v_pick [0, 1, 3, 4] [(4, .int 0), (3, .int 0), (0, .ref (ga G (93))), (1, .int (nI ja))] rfl ?_
      refine lp_mlays l (zf := zf) (ja := ja) (by omega) hzja (min (zf ja) 12) 0 (by omega) ?_
      refine v_iload_n dX5_lays_114 1 rfl 115 rfl ?_
      exact v_iret dX5_lays_115 (by simp only [qLays, hS, eja, Bool.and_self, Bool.and_true, Bool.true_and, Bool.and_false, Bool.false_and, if_true, if_false, Bool.false_eq_true, ↓reduceIte] <;> simp [mFind, lfind, xs, xa, fnd0, fnd1, fnd2, fnd3, fnd4, fnd5, fnd6, hB, eja]) (by simp only [qLays, hS, eja, Bool.and_self, Bool.and_true, Bool.true_and, Bool.and_false, Bool.false_and, if_true, if_false, Bool.false_eq_true, ↓reduceIte] <;> simp [mFind, lfind, xs, xa, fnd0, fnd1, fnd2, fnd3, fnd4, fnd5, fnd6, hB, eja])
  · have hS : inb 0 3 a = false := by simpa using hS
    refine v_topi (-1000000001) (by simp [wrS, hS]) ?_
    refine v_istore_n dX5_lays_5 2 rfl (by decide) [(2, .int (-1000000001)), (0, .ref (ga G (93))), (1, .int a)] rfl 6 rfl ?_
    refine v_iload_n dX5_lays_6 0 rfl 7 rfl ?_
    refine v_if_eq dX5_lays_7 16 (by decide) 10 rfl (fun c3 => absurd c3 (by decide)) (fun c3 => ?_)
    refine v_aload_n dX5_lays_10 1 rfl 11 rfl ?_
    refine v_iload_n dX5_lays_11 0 rfl 12 rfl ?_
    refine v_callV (c_X5_finds l (k := 0) (by decide) (-1000000001) (by decide)) kal_X5_finds rfl dX5_lays_12 qw_756 qw_758 qw_15 rfl (by decide) (cel_mod G _) (by decide) [] (Nat.le_of_ble_eq_true rfl) rfl rfl 15 rfl ?_
    exact v_iret dX5_lays_15 (by simp only [qLays, hS, Bool.and_self, Bool.and_true, Bool.true_and, Bool.and_false, Bool.false_and, if_true, if_false, Bool.false_eq_true, ↓reduceIte] <;> simp [mFind, lfind, xs, xa, fnd0, fnd1, fnd2, fnd3, fnd4, fnd5, fnd6, true_and]) (by simp only [qLays, hS, Bool.and_self, Bool.and_true, Bool.true_and, Bool.and_false, Bool.false_and, if_true, if_false, Bool.false_eq_true, ↓reduceIte] <;> simp [mFind, lfind, xs, xa, fnd0, fnd1, fnd2, fnd3, fnd4, fnd5, fnd6, true_and])
set_option maxHeartbeats 1000000 in
set_option maxRecDepth 4000 in
theorem lp_mbook (l : Launch) {G : Gl} {X : VX} {ov : Option Value} {wF : WS} {K : CS} {ms : Nat → Int32} {mk : Nat → Int32} {mo : Nat → Int32} {ma : Nat → Int32} {mf : Nat → Int32} {ik : Int32} {mt : Nat → Int32} {td : Nat} {fr : Nat} {tt : Nat} {vl : Int32} {wr : Int32} {mb : Nat → Int32} {mz : Nat → Int32} {nu : Nat → Int64} {mv : Nat → Int64} {nE : Nat} (hn : ms 1 = nI nE) (hn8 : nE ≤ 8) {t0 : Nat} (hm : ms 0 = nI t0) (hmo : t0 < 2 ^ 20) {zf : Nat → Nat} {ja jb : Nat} (hja : ja < 4) (hzja : mz ja = nI (zf ja) ∧ zf ja ≤ 40) (hjb : jb < nE) : ∀ n i : Nat, i + n = (zf ja) → V l X 5 113 cX5_book 5 RX5 (some .int) G ov wF (K, ((mGo ms nE t0 (zf ja)), mk, mo, ms, mf, ik, mt, td, fr, tt, vl, wr, mb, mz, (bkN ms nu (mb ja) nE t0 ja jb (zf ja)), mv)) 86 [(4, .int (nI (zf ja))), (0, .ref (ga G (93))), (1, .int (nI ja)), (2, .int (nI jb)), (3, .int 0)] [] → V l X 5 113 cX5_book 5 RX5 (some .int) G ov wF (K, ((mGo ms nE t0 i), mk, mo, ms, mf, ik, mt, td, fr, tt, vl, wr, mb, mz, (bkN ms nu (mb ja) nE t0 ja jb i), mv)) 38 [(4, .int (nI i)), (0, .ref (ga G (93))), (1, .int (nI ja)), (2, .int (nI jb)), (3, .int 0)] [] := by
  intro n
  induction n with
  | zero =>
    intro i hin hk
    obtain rfl : (zf ja) = i := by omega
    refine v_iload dX5_book_38 0 rfl 40 rfl ?_
    refine v_aload_n dX5_book_40 1 rfl 41 rfl ?_
    refine v_get (i := 13) (ci := 5) (T := TX5) (C := RX5) (N := 16) (v := .ref (ga G (101))) dX5_book_41 inB5 rfl qw_699 rfl (by decide) (by decide) (cel_mod G _) rfl 44 rfl ?_
    refine v_iload_n dX5_book_44 2 rfl 45 rfl ?_
    refine v_iald (a := mz) dX5_book_45 (by decide) (cel_mz G _) ja rfl (by omega) (by decide) 46 rfl ?_
    refine v_topi (nI (zf ja)) hzja.1 ?_
    refine n_icmp_ge dX5_book_46 (zf ja) (zf ja) rfl rfl (by omega) (by omega) 86 (by decide) 49 rfl (fun c1 => ?_) (fun c1 => absurd c1 (by omega))
    exact hk
  | succ n ih =>
    intro i hin hk
    refine v_iload dX5_book_38 0 rfl 40 rfl ?_
    refine v_aload_n dX5_book_40 1 rfl 41 rfl ?_
    refine v_get (i := 13) (ci := 5) (T := TX5) (C := RX5) (N := 16) (v := .ref (ga G (101))) dX5_book_41 inB5 rfl qw_699 rfl (by decide) (by decide) (cel_mod G _) rfl 44 rfl ?_
    refine v_iload_n dX5_book_44 2 rfl 45 rfl ?_
    refine v_iald (a := mz) dX5_book_45 (by decide) (cel_mz G _) ja rfl (by omega) (by decide) 46 rfl ?_
    refine v_topi (nI (zf ja)) hzja.1 ?_
    refine n_icmp_ge dX5_book_46 i (zf ja) rfl rfl (by omega) (by omega) 86 (by decide) 49 rfl (fun c1 => absurd c1 (by omega)) (fun c1 => ?_)
    refine v_aload_n dX5_book_49 1 rfl 50 rfl ?_
    refine v_get (i := 14) (ci := 5) (T := TX5) (C := RX5) (N := 16) (v := .ref (ga G (102))) dX5_book_50 inB5 rfl qw_700 rfl (by decide) (by decide) (cel_mod G _) rfl 53 rfl ?_
    refine v_bipush dX5_book_53 40 rfl 55 rfl ?_
    refine v_iload_n dX5_book_55 2 rfl 56 rfl ?_
    refine n_imul dX5_book_56 40 ja rfl rfl 57 rfl ?_
    refine v_iload dX5_book_57 0 rfl 59 rfl ?_
    refine n_iadd dX5_book_59 (40 * ja) i rfl rfl 60 rfl ?_
    refine v_aload_n dX5_book_60 1 rfl 61 rfl ?_
    refine v_get (i := 12) (ci := 5) (T := TX5) (C := RX5) (N := 16) (v := .ref (ga G (100))) dX5_book_61 inB5 rfl qw_698 rfl (by decide) (by decide) (cel_mod G _) rfl 64 rfl ?_
    refine v_iload_n dX5_book_64 2 rfl 65 rfl ?_
    refine v_iald (a := mb) dX5_book_65 (by decide) (cel_mb G _) ja rfl (by omega) (by decide) 66 rfl ?_
    refine v_aload_n dX5_book_66 1 rfl 67 rfl ?_
    refine v_iload_n dX5_book_67 3 rfl 68 rfl ?_
    refine v_callV (c_X5_woolOf l (e := jb) (by omega)) kal_X5_woolOf rfl dX5_book_68 qw_781 qw_783 qw_19 rfl (by decide) (cel_mod G _) (by decide) [.int (mb ja), .int (nI ((40 * ja) + i)), .ref (ga G (102))] (Nat.le_of_ble_eq_true rfl) rfl rfl 71 rfl ?_
    refine v_i2l dX5_book_71 72 rfl ?_
    refine v_callS (c_X5_narrowed l (mb ja) (mWool (mGo ms nE t0 i) jb : Int32).toInt64) kal_X5_narrowed rfl dX5_book_72 qw_1087 qw_1088 (by decide) [.int (nI ((40 * ja) + i)), .ref (ga G (102))] (Nat.le_of_ble_eq_true rfl) rfl rfl 75 rfl ?_
    refine v_last (w2 := (K, ((mGo ms nE t0 i), mk, mo, ms, mf, ik, mt, td, fr, tt, vl, wr, mb, mz, vp_updL (bkN ms nu (mb ja) nE t0 ja jb i) ((40 * ja) + i) (nrw (mb ja) (mWool (mGo ms nE t0 i) jb : Int32).toInt64), mv))) dX5_book_75 (by decide) (cel_nu G _) ((40 * ja) + i) rfl (by omega) (by decide) u_nu 76 rfl ?_
    refine v_aload_n dX5_book_76 1 rfl 77 rfl ?_
    refine v_callV (c_X5_month l ((mGo_lo ms nE t0 1 (by decide) (by decide) i).trans hn) hn8 (mGo_mo ms nE t0 hm i) (by omega)) kal_X5_month rfl dX5_book_77 qw_903 qw_905 qw_32 rfl (by decide) (cel_mod G _) (by decide) [] (Nat.le_of_ble_eq_true rfl) rfl rfl 80 rfl ?_
    refine v_iinc dX5_book_80 0 rfl (nI (i + 1)) (nI_1 _) (by decide) [(4, .int (nI (i + 1))), (0, .ref (ga G (93))), (1, .int (nI ja)), (2, .int (nI jb)), (3, .int 0)] rfl 83 rfl ?_
    refine v_goto dX5_book_83 38 (by decide) ?_
    exact ih (i + 1) (by omega) hk
set_option maxHeartbeats 1000000 in
set_option maxRecDepth 4000 in
theorem c_X5_book (l : Launch) {G : Gl} {K : CS} {M : MS} {nE : Nat} (hn : M.1 1 = nI nE) (hn8 : nE ≤ 8) {t0 : Nat} (hm : M.1 0 = nI t0) (hmo : t0 < 2 ^ 20) {zf : Nat → Nat} (hz : ∀ s, s < 4 → M.2.2.2.2.2.2.2.2.2.2.2.2.2.1 s = nI (zf s) ∧ zf s ≤ 40) (a b : Int32) : Ct l G yX5_book cX5_book 5 (some .int) 5 113 [.ref (ga G (93)), .int a, .int b] (K, M) (some (.int (qBook M zf nE t0 a b).1)) (K, (qBook M zf nE t0 a b).2) := by
  obtain ⟨ms, mk, mo, ma, mf, ik, mt, td, fr, tt, vl, wr, mb, mz, nu, mv⟩ := M
  dsimp only at hz hn hm
  refine Ct.of (own := RX5) (by decide) rfl (Nat.le_of_ble_eq_true rfl) rfl (fun X => ?_)
  refine v_aload_n dX5_book_0 0 rfl 1 rfl ?_
  refine v_iload_n dX5_book_1 1 rfl 2 rfl ?_
  refine v_callV (c_X5_wrongSheet l (M := (ms, mk, mo, ma, mf, ik, mt, td, fr, tt, vl, wr, mb, mz, nu, mv)) a) kal_X5_wrongSheet rfl dX5_book_2 qw_1082 qw_1084 qw_52 rfl (by decide) (cel_mod G _) (by decide) [] (Nat.le_of_ble_eq_true rfl) rfl rfl 5 rfl ?_
  by_cases hS : inb 0 3 a = true
  · obtain ⟨ja, h1ja, h2ja, rfl⟩ := inb_ix (lo := 0) (hi := 3) hS
    have eja : (nI ja).toNatClampNeg = ja := nI_clamp (by omega)
    have hzja := hz ja (by omega)
    by_cases hB : mb ja = 0
    · refine v_topi (-1000000006) (by simp only [wrS, hS, if_true, ↓reduceIte]; simp [eja, hB]) ?_
      refine v_istore_n dX5_book_5 3 rfl (by decide) [(3, .int (-1000000006)), (0, .ref (ga G (93))), (1, .int (nI ja)), (2, .int b)] rfl 6 rfl ?_
      refine v_iload_n dX5_book_6 0 rfl 7 rfl ?_
      refine v_if_eq dX5_book_7 16 (by decide) 10 rfl (fun c1 => absurd c1 (by decide)) (fun c1 => ?_)
      refine v_aload_n dX5_book_10 1 rfl 11 rfl ?_
      refine v_iload_n dX5_book_11 0 rfl 12 rfl ?_
      refine v_callV (c_X5_finds l (k := 5) (by decide) (-1000000006) (by decide)) kal_X5_finds rfl dX5_book_12 qw_756 qw_758 qw_15 rfl (by decide) (cel_mod G _) (by decide) [] (Nat.le_of_ble_eq_true rfl) rfl rfl 15 rfl ?_
      exact v_iret dX5_book_15 (by simp only [qBook, hS, eja, Bool.and_self, Bool.and_true, Bool.true_and, Bool.and_false, Bool.false_and, if_true, if_false, Bool.false_eq_true, ↓reduceIte] <;> simp [mFind, lfind, xs, xa, fnd0, fnd1, fnd2, fnd3, fnd4, fnd5, fnd6, hB, eja]) (by simp only [qBook, hS, eja, Bool.and_self, Bool.and_true, Bool.true_and, Bool.and_false, Bool.false_and, if_true, if_false, Bool.false_eq_true, ↓reduceIte] <;> simp [mFind, lfind, xs, xa, fnd0, fnd1, fnd2, fnd3, fnd4, fnd5, fnd6, hB, eja])
    · refine v_topi 0 (by simp only [wrS, hS, if_true, ↓reduceIte]; simp [eja, hB]) ?_
      refine v_istore_n dX5_book_5 3 rfl (by decide) [(3, .int 0), (0, .ref (ga G (93))), (1, .int (nI ja)), (2, .int b)] rfl 6 rfl ?_
      refine v_iload_n dX5_book_6 0 rfl 7 rfl ?_
      refine v_if_eq dX5_book_7 16 (by decide) 10 rfl (fun c2 => ?_) (fun c2 => absurd c2 (by decide))
      refine v_aload_n dX5_book_16 1 rfl 17 rfl ?_
      refine v_iload_n dX5_book_17 3 rfl 18 rfl ?_
      refine v_callV (c_X5_isEwe l hn hn8 b) kal_X5_isEwe rfl dX5_book_18 qw_805 qw_807 qw_21 rfl (by decide) (cel_mod G _) (by decide) [] (Nat.le_of_ble_eq_true rfl) rfl rfl 21 rfl ?_
      refine v_ifb_ne dX5_book_21 31 (by decide) 24 rfl (fun c3 => ?_) (fun c3 => ?_)
      · skip
        obtain ⟨jb, h2jb, rfl⟩ := inE_ix c3
        have ejb : (nI jb).toNatClampNeg = jb := nI_clamp (by omega)
        refine v_aload_n dX5_book_31 1 rfl 32 rfl ?_
        refine v_callV (c_X5_laysAside l ) kal_X5_laysAside rfl dX5_book_32 qw_923 qw_925 qw_35 rfl (by decide) (cel_mod G _) (by decide) [] (Nat.le_of_ble_eq_true rfl) rfl rfl 35 rfl ?_
        refine v_iconst dX5_book_35 0 rfl 36 rfl ?_
        refine v_istore dX5_book_36 (by decide) [(4, .int 0), (3, .int 0), (0, .ref (ga G (93))), (1, .int (nI ja)), (2, .int (nI jb))] rfl 38 rfl ?_
        refine v_pick [0, 2, 3, 4, 1] [(4, .int 0), (0, .ref (ga G (93))), (1, .int (nI ja)), (2, .int (nI jb)), (3, .int 0)] rfl ?_
        refine lp_mbook l (ma := ma) hn hn8 hm hmo (zf := zf) (ja := ja) (jb := jb) (by omega) hzja (by omega) (zf ja) 0 (by omega) ?_
        refine v_aload_n dX5_book_86 1 rfl 87 rfl ?_
        refine v_aload_n dX5_book_87 1 rfl 88 rfl ?_
        refine v_get (i := 13) (ci := 5) (T := TX5) (C := RX5) (N := 16) (v := .ref (ga G (101))) dX5_book_88 inB5 rfl qw_699 rfl (by decide) (by decide) (cel_mod G _) rfl 91 rfl ?_
        refine v_iload_n dX5_book_91 2 rfl 92 rfl ?_
        refine v_iald (a := mz) dX5_book_92 (by decide) (cel_mz G _) ja rfl (by omega) (by decide) 93 rfl ?_
        refine v_topi (nI (zf ja)) hzja.1 ?_
        refine v_callV (c_X5_takesBack l (nI (zf ja))) kal_X5_takesBack rfl dX5_book_93 qw_927 qw_929 qw_36 rfl (by decide) (cel_mod G _) (by decide) [] (Nat.le_of_ble_eq_true rfl) rfl rfl 96 rfl ?_
        exact v_iret dX5_book_96 (by simp only [qBook, hS, c3, eja, ejb, Bool.and_self, Bool.and_true, Bool.true_and, Bool.and_false, Bool.false_and, if_true, if_false, Bool.false_eq_true, ↓reduceIte] <;> simp [mFind, lfind, xs, xa, fnd0, fnd1, fnd2, fnd3, fnd4, fnd5, fnd6, hB, eja, ejb]) (by simp only [qBook, hS, c3, eja, ejb, Bool.and_self, Bool.and_true, Bool.true_and, Bool.and_false, Bool.false_and, if_true, if_false, Bool.false_eq_true, ↓reduceIte] <;> simp [mFind, lfind, xs, xa, fnd0, fnd1, fnd2, fnd3, fnd4, fnd5, fnd6, hB, eja, ejb])
      · skip
        refine v_aload_n dX5_book_24 1 rfl 25 rfl ?_
        refine v_ldc dX5_book_25 (-1000000001) qw_755 27 rfl ?_
        refine v_callV (c_X5_finds l (k := 0) (by decide) (-1000000001) (by decide)) kal_X5_finds rfl dX5_book_27 qw_756 qw_758 qw_15 rfl (by decide) (cel_mod G _) (by decide) [] (Nat.le_of_ble_eq_true rfl) rfl rfl 30 rfl ?_
        exact v_iret dX5_book_30 (by simp only [qBook, hS, c3, eja, Bool.and_self, Bool.and_true, Bool.true_and, Bool.and_false, Bool.false_and, if_true, if_false, Bool.false_eq_true, ↓reduceIte] <;> simp [mFind, lfind, xs, xa, fnd0, fnd1, fnd2, fnd3, fnd4, fnd5, fnd6, hB, eja]) (by simp only [qBook, hS, c3, eja, Bool.and_self, Bool.and_true, Bool.true_and, Bool.and_false, Bool.false_and, if_true, if_false, Bool.false_eq_true, ↓reduceIte] <;> simp [mFind, lfind, xs, xa, fnd0, fnd1, fnd2, fnd3, fnd4, fnd5, fnd6, hB, eja])
  · have hS : inb 0 3 a = false := by simpa using hS
    refine v_topi (-1000000001) (by simp [wrS, hS]) ?_
    refine v_istore_n dX5_book_5 3 rfl (by decide) [(3, .int (-1000000001)), (0, .ref (ga G (93))), (1, .int a), (2, .int b)] rfl 6 rfl ?_
    refine v_iload_n dX5_book_6 0 rfl 7 rfl ?_
    refine v_if_eq dX5_book_7 16 (by decide) 10 rfl (fun c4 => absurd c4 (by decide)) (fun c4 => ?_)
    refine v_aload_n dX5_book_10 1 rfl 11 rfl ?_
    refine v_iload_n dX5_book_11 0 rfl 12 rfl ?_
    refine v_callV (c_X5_finds l (k := 0) (by decide) (-1000000001) (by decide)) kal_X5_finds rfl dX5_book_12 qw_756 qw_758 qw_15 rfl (by decide) (cel_mod G _) (by decide) [] (Nat.le_of_ble_eq_true rfl) rfl rfl 15 rfl ?_
    exact v_iret dX5_book_15 (by simp only [qBook, hS, Bool.and_self, Bool.and_true, Bool.true_and, Bool.and_false, Bool.false_and, if_true, if_false, Bool.false_eq_true, ↓reduceIte] <;> simp [mFind, lfind, xs, xa, fnd0, fnd1, fnd2, fnd3, fnd4, fnd5, fnd6, true_and]) (by simp only [qBook, hS, Bool.and_self, Bool.and_true, Bool.true_and, Bool.and_false, Bool.false_and, if_true, if_false, Bool.false_eq_true, ↓reduceIte] <;> simp [mFind, lfind, xs, xa, fnd0, fnd1, fnd2, fnd3, fnd4, fnd5, fnd6, true_and])
set_option maxHeartbeats 1000000 in
set_option maxRecDepth 4000 in
theorem lp_misbook (l : Launch) {G : Gl} {X : VX} {ov : Option Value} {wF : WS} {K : CS} {ms : Nat → Int32} {mk : Nat → Int32} {mo : Nat → Int32} {ma : Nat → Int32} {mf : Nat → Int32} {ik : Int32} {mt : Nat → Int32} {td : Nat} {fr : Nat} {tt : Nat} {vl : Int32} {wr : Int32} {mb : Nat → Int32} {mz : Nat → Int32} {nu : Nat → Int64} {mv : Nat → Int64} {nE : Nat} (hn : ms 1 = nI nE) (hn8 : nE ≤ 8) {t0 : Nat} (hm : ms 0 = nI t0) (hmo : t0 < 2 ^ 20) {zf : Nat → Nat} {ja jb : Nat} (hja : ja < 4) (hzja : mz ja = nI (zf ja) ∧ zf ja ≤ 40) (hjb : jb < nE) (hk1 : ∀ i : Nat, i < (zf ja) → (∀ j, j < i → (rdP ms nu nE t0 ja jb) j = false) → (rdP ms nu nE t0 ja jb) i = true → V l X 5 113 cX5_isBook 4 RX5 (some .boolean) G ov wF (K, ((mGo ms nE t0 i), mk, mo, ma, mf, ik, mt, td, fr, tt, vl, wr, mb, mz, nu, mv)) 33 [(3, .int (nI i)), (0, .ref (ga G (93))), (1, .int (nI ja)), (2, .int (nI jb))] []) (hk0 : (∀ j, j < (zf ja) → (rdP ms nu nE t0 ja jb) j = false) → V l X 5 113 cX5_isBook 4 RX5 (some .boolean) G ov wF (K, ((mGo ms nE t0 (zf ja)), mk, mo, ma, mf, ik, mt, td, fr, tt, vl, wr, mb, mz, nu, mv)) 45 [(3, .int (nI (zf ja))), (0, .ref (ga G (93))), (1, .int (nI ja)), (2, .int (nI jb))] []) : ∀ n i : Nat, i + n = (zf ja) → (∀ j, j < i → (rdP ms nu nE t0 ja jb) j = false) → V l X 5 113 cX5_isBook 4 RX5 (some .boolean) G ov wF (K, ((mGo ms nE t0 i), mk, mo, ma, mf, ik, mt, td, fr, tt, vl, wr, mb, mz, nu, mv)) 2 [(3, .int (nI i)), (0, .ref (ga G (93))), (1, .int (nI ja)), (2, .int (nI jb))] [] := by
  intro n
  induction n with
  | zero =>
    intro i hin hno
    obtain rfl : (zf ja) = i := by omega
    refine v_iload_n dX5_isBook_2 0 rfl 3 rfl ?_
    refine v_aload_n dX5_isBook_3 1 rfl 4 rfl ?_
    refine v_get (i := 13) (ci := 5) (T := TX5) (C := RX5) (N := 16) (v := .ref (ga G (101))) dX5_isBook_4 inB5 rfl qw_699 rfl (by decide) (by decide) (cel_mod G _) rfl 7 rfl ?_
    refine v_iload_n dX5_isBook_7 2 rfl 8 rfl ?_
    refine v_iald (a := mz) dX5_isBook_8 (by decide) (cel_mz G _) ja rfl (by omega) (by decide) 9 rfl ?_
    refine v_topi (nI (zf ja)) hzja.1 ?_
    refine n_icmp_ge dX5_isBook_9 (zf ja) (zf ja) rfl rfl (by omega) (by omega) 45 (by decide) 12 rfl (fun c1 => ?_) (fun c1 => absurd c1 (by omega))
    exact hk0 hno
  | succ n ih =>
    intro i hin hno
    refine v_iload_n dX5_isBook_2 0 rfl 3 rfl ?_
    refine v_aload_n dX5_isBook_3 1 rfl 4 rfl ?_
    refine v_get (i := 13) (ci := 5) (T := TX5) (C := RX5) (N := 16) (v := .ref (ga G (101))) dX5_isBook_4 inB5 rfl qw_699 rfl (by decide) (by decide) (cel_mod G _) rfl 7 rfl ?_
    refine v_iload_n dX5_isBook_7 2 rfl 8 rfl ?_
    refine v_iald (a := mz) dX5_isBook_8 (by decide) (cel_mz G _) ja rfl (by omega) (by decide) 9 rfl ?_
    refine v_topi (nI (zf ja)) hzja.1 ?_
    refine n_icmp_ge dX5_isBook_9 i (zf ja) rfl rfl (by omega) (by omega) 45 (by decide) 12 rfl (fun c1 => absurd c1 (by omega)) (fun c1 => ?_)
    refine v_aload_n dX5_isBook_12 1 rfl 13 rfl ?_
    refine v_get (i := 14) (ci := 5) (T := TX5) (C := RX5) (N := 16) (v := .ref (ga G (102))) dX5_isBook_13 inB5 rfl qw_700 rfl (by decide) (by decide) (cel_mod G _) rfl 16 rfl ?_
    refine v_bipush dX5_isBook_16 40 rfl 18 rfl ?_
    refine v_iload_n dX5_isBook_18 2 rfl 19 rfl ?_
    refine n_imul dX5_isBook_19 40 ja rfl rfl 20 rfl ?_
    refine v_iload_n dX5_isBook_20 0 rfl 21 rfl ?_
    refine n_iadd dX5_isBook_21 (40 * ja) i rfl rfl 22 rfl ?_
    refine v_lald (a := nu) dX5_isBook_22 (by decide) (cel_nu G _) ((40 * ja) + i) rfl (by omega) (by decide) 23 rfl ?_
    refine v_aload_n dX5_isBook_23 1 rfl 24 rfl ?_
    refine v_iload_n dX5_isBook_24 3 rfl 25 rfl ?_
    refine v_callV (c_X5_woolOf l (e := jb) (by omega)) kal_X5_woolOf rfl dX5_isBook_25 qw_781 qw_783 qw_19 rfl (by decide) (cel_mod G _) (by decide) [.long (nu ((40 * ja) + i))] (Nat.le_of_ble_eq_true rfl) rfl rfl 28 rfl ?_
    refine v_i2l dX5_isBook_28 29 rfl ?_
    refine v_lcmp dX5_isBook_29 30 rfl ?_
    refine v_if_eq dX5_isBook_30 35 (by decide) 33 rfl (fun c2 => ?_) (fun c2 => ?_)
    · skip
      refine v_aload_n dX5_isBook_35 1 rfl 36 rfl ?_
      refine v_callV (c_X5_month l ((mGo_lo ms nE t0 1 (by decide) (by decide) i).trans hn) hn8 (mGo_mo ms nE t0 hm i) (by omega)) kal_X5_month rfl dX5_isBook_36 qw_903 qw_905 qw_32 rfl (by decide) (cel_mod G _) (by decide) [] (Nat.le_of_ble_eq_true rfl) rfl rfl 39 rfl ?_
      refine v_iinc dX5_isBook_39 0 rfl (nI (i + 1)) (nI_1 _) (by decide) [(3, .int (nI (i + 1))), (0, .ref (ga G (93))), (1, .int (nI ja)), (2, .int (nI jb))] rfl 42 rfl ?_
      refine v_goto dX5_isBook_42 2 (by decide) ?_
      exact ih (i + 1) (by omega) (lt_s hno (by simp [rdP, lcmp_eq.mp c2]))
    · skip
      exact hk1 i (by omega) hno (by simp [rdP, ncmp c2])
set_option maxHeartbeats 1000000 in
set_option maxRecDepth 4000 in
theorem c_X5_isBook (l : Launch) {G : Gl} {K : CS} {ms : Nat → Int32} {mk : Nat → Int32} {mo : Nat → Int32} {ma : Nat → Int32} {mf : Nat → Int32} {ik : Int32} {mt : Nat → Int32} {td : Nat} {fr : Nat} {tt : Nat} {vl : Int32} {wr : Int32} {mb : Nat → Int32} {mz : Nat → Int32} {nu : Nat → Int64} {mv : Nat → Int64} {nE : Nat} (hn : ms 1 = nI nE) (hn8 : nE ≤ 8) {t0 : Nat} (hm : ms 0 = nI t0) (hmo : t0 < 2 ^ 20) {zf : Nat → Nat} {ja jb : Nat} (hja : ja < 4) (hzja : mz ja = nI (zf ja) ∧ zf ja ≤ 40) (hjb : jb < nE) : Ct l G yX5_isBook cX5_isBook 4 (some .boolean) 5 113 [.ref (ga G (93)), .int (nI ja), .int (nI jb)] (K, (ms, mk, mo, ma, mf, ik, mt, td, fr, tt, vl, wr, mb, mz, nu, mv)) (some (.int (b2 (isBk ms nu nE t0 ja jb (zf ja))))) (K, ((mGo ms nE t0 (fa_first (rdP ms nu nE t0 ja jb) (zf ja))), mk, mo, ma, mf, ik, mt, td, fr, tt, vl, wr, mb, mz, nu, mv)) := by
  refine Ct.of (own := RX5) (by decide) rfl (Nat.le_of_ble_eq_true rfl) rfl (fun X => ?_)
  refine v_iconst dX5_isBook_0 0 rfl 1 rfl ?_
  refine v_istore_n dX5_isBook_1 3 rfl (by decide) [(3, .int 0), (0, .ref (ga G (93))), (1, .int (nI ja)), (2, .int (nI jb))] rfl 2 rfl ?_
  refine lp_misbook l hn hn8 hm hmo (zf := zf) hja hzja hjb (fun i hi hno hyes => ?_) (fun hno => ?_) (zf ja) 0 (by omega) (fun _ h => absurd h (Nat.not_lt_zero _))
  · skip
    have hF : fa_first (rdP ms nu nE t0 ja jb) (zf ja) = i := fa_first_eq (by omega) hno (fun _ => hyes)
    have hF2 : ¬ i = zf ja := by omega
    refine v_iconst dX5_isBook_33 0 rfl 34 rfl ?_
    exact v_zret dX5_isBook_34 rfl (by simp [isBk, b2, hF, hF2]) (by simp [hF, hF2])
  · skip
    have hF : fa_first (rdP ms nu nE t0 ja jb) (zf ja) = zf ja := fa_first_eq (Nat.le_refl _) hno (fun h => absurd h (Nat.lt_irrefl _))
    refine v_iconst dX5_isBook_45 1 rfl 46 rfl ?_
    exact v_zret dX5_isBook_46 rfl (by simp [isBk, b2, hF]) (by simp [hF])
set_option maxHeartbeats 1000000 in
set_option maxRecDepth 4000 in
theorem lp_mread (l : Launch) {G : Gl} {X : VX} {ov : Option Value} {wF : WS} {K : CS} {ms : Nat → Int32} {mk : Nat → Int32} {mo : Nat → Int32} {ma : Nat → Int32} {mf : Nat → Int32} {ik : Int32} {mt : Nat → Int32} {td : Nat} {fr : Nat} {tt : Nat} {vl : Int32} {wr : Int32} {mb : Nat → Int32} {mz : Nat → Int32} {nu : Nat → Int64} {mv : Nat → Int64} {nE : Nat} (hn : ms 1 = nI nE) (hn8 : nE ≤ 8) {t0 : Nat} (hm : ms 0 = nI t0) (hmo : t0 < 2 ^ 20) {zf : Nat → Nat} {ja jb : Nat} (hja : ja < 4) (hzja : mz ja = nI (zf ja) ∧ zf ja ≤ 40) (hjb : jb < nE) : ∀ n i : Nat, i + n = 600 → V l X 6 136 cX5_read 6 RX5 (some .int) G ov wF (K, (ms, mk, mo, ms, mf, ik, mt, td, fr, tt, vl, wr, mb, mz, nu, mv)) 108 [(5, .int (nI 600)), (4, .int (rdN ms nu nE t0 ja jb (zf ja) 600)), (0, .ref (ga G (93))), (1, .int (nI ja)), (2, .int (nI jb)), (3, .int 0)] [] → V l X 6 136 cX5_read 6 RX5 (some .int) G ov wF (K, (ms, mk, mo, ms, mf, ik, mt, td, fr, tt, vl, wr, mb, mz, nu, mv)) 41 [(5, .int (nI i)), (4, .int (rdN ms nu nE t0 ja jb (zf ja) i)), (0, .ref (ga G (93))), (1, .int (nI ja)), (2, .int (nI jb)), (3, .int 0)] [] := by
  intro n
  induction n with
  | zero =>
    intro i hin hk
    obtain rfl : 600 = i := by omega
    refine v_iload dX5_read_41 0 rfl 43 rfl ?_
    refine v_sipush dX5_read_43 600 rfl 46 rfl ?_
    refine n_icmp_ge dX5_read_46 600 600 rfl rfl (by omega) (by omega) 108 (by decide) 49 rfl (fun c1 => ?_) (fun c1 => absurd c1 (by omega))
    exact hk
  | succ n ih =>
    intro i hin hk
    refine v_iload dX5_read_41 0 rfl 43 rfl ?_
    refine v_sipush dX5_read_43 600 rfl 46 rfl ?_
    refine n_icmp_ge dX5_read_46 i 600 rfl rfl (by omega) (by omega) 108 (by decide) 49 rfl (fun c1 => absurd c1 (by omega)) (fun c1 => ?_)
    refine v_aload_n dX5_read_49 2 rfl 50 rfl ?_
    refine v_get (i := 0) (ci := 5) (T := TX5) (C := RX5) (N := 16) (v := .ref (ga G (94))) dX5_read_50 inB5 rfl qw_686 rfl (by decide) (by decide) (cel_mod G _) rfl 53 rfl ?_
    refine v_iload_n dX5_read_53 4 rfl 54 rfl ?_
    refine v_iconst dX5_read_54 0 rfl 55 rfl ?_
    refine v_callS (c_X5_spot l jb 0) kal_X5_spot rfl dX5_read_55 qw_785 qw_786 (by decide) [.ref (ga G (94))] (Nat.le_of_ble_eq_true rfl) rfl rfl 58 rfl ?_
    refine v_iload dX5_read_58 0 rfl 60 rfl ?_
    refine v_bipush dX5_read_60 100 rfl 62 rfl ?_
    refine n_idiv dX5_read_62 i 100 rfl rfl (by omega) (by decide) (by decide) 63 rfl ?_
    refine v_iast (w2 := (K, (upd ms (38 + 14 * jb + 0) (nI (i / 100)), mk, mo, ms, mf, ik, mt, td, fr, tt, vl, wr, mb, mz, nu, mv))) dX5_read_63 (by decide) (cel_ms G _) (38 + 14 * jb + 0) rfl (by omega) (by decide) u_ms 64 rfl ?_
    refine v_aload_n dX5_read_64 2 rfl 65 rfl ?_
    refine v_get (i := 0) (ci := 5) (T := TX5) (C := RX5) (N := 16) (v := .ref (ga G (94))) dX5_read_65 inB5 rfl qw_686 rfl (by decide) (by decide) (cel_mod G _) rfl 68 rfl ?_
    refine v_iload_n dX5_read_68 4 rfl 69 rfl ?_
    refine v_iconst dX5_read_69 1 rfl 70 rfl ?_
    refine v_callS (c_X5_spot l jb 1) kal_X5_spot rfl dX5_read_70 qw_785 qw_786 (by decide) [.ref (ga G (94))] (Nat.le_of_ble_eq_true rfl) rfl rfl 73 rfl ?_
    refine v_iload dX5_read_73 0 rfl 75 rfl ?_
    refine v_bipush dX5_read_75 100 rfl 77 rfl ?_
    refine n_irem dX5_read_77 i 100 rfl rfl (by omega) (by decide) (by decide) 78 rfl ?_
    refine v_iast (w2 := (K, (upd (upd ms (38 + 14 * jb + 0) (nI (i / 100))) (38 + 14 * jb + 1) (nI (i % 100)), mk, mo, ms, mf, ik, mt, td, fr, tt, vl, wr, mb, mz, nu, mv))) dX5_read_78 (by decide) (cel_ms G _) (38 + 14 * jb + 1) rfl (by omega) (by decide) u_ms 79 rfl ?_
    refine v_w (w2 := (K, ((rdS ms jb i), mk, mo, ms, mf, ik, mt, td, fr, tt, vl, wr, mb, mz, nu, mv))) rfl ?_
    refine v_aload_n dX5_read_79 2 rfl 80 rfl ?_
    refine v_iload dX5_read_80 1 rfl 82 rfl ?_
    refine v_aload_n dX5_read_82 2 rfl 83 rfl ?_
    refine v_iload_n dX5_read_83 3 rfl 84 rfl ?_
    refine v_iload_n dX5_read_84 4 rfl 85 rfl ?_
    refine v_callV (c_X5_isBook l ((show rdS ms jb i 1 = ms 1 from (by unfold rdS; rw [upd_ne (by omega), upd_ne (by omega)])).trans hn) hn8 ((show rdS ms jb i 0 = ms 0 from (by unfold rdS; rw [upd_ne (by omega), upd_ne (by omega)])).trans hm) (by omega) (zf := zf) (ja := ja) (jb := jb) (by omega) hzja (by omega)) kal_X5_isBook rfl dX5_read_85 qw_1106 qw_1108 qw_53 rfl (by decide) (cel_mod G _) (by decide) [.int (rdN ms nu nE t0 ja jb (zf ja) i), .ref (ga G (93))] (Nat.le_of_ble_eq_true rfl) rfl rfl 88 rfl ?_
    refine v_ifb_eq dX5_read_88 95 (by decide) 91 rfl (fun c2 => ?_) (fun c2 => ?_)
    · skip
      refine v_iconst dX5_read_95 0 rfl 96 rfl ?_
      refine v_iadd dX5_read_96 97 rfl ?_
      refine v_callV (c_X5_takesBack l ((rdN ms nu nE t0 ja jb (zf ja) i) + 0)) kal_X5_takesBack rfl dX5_read_97 qw_927 qw_929 qw_36 rfl (by decide) (cel_mod G _) (by decide) [] (Nat.le_of_ble_eq_true rfl) rfl rfl 100 rfl ?_
      refine v_istore dX5_read_100 (by decide) [(4, .int ((rdN ms nu nE t0 ja jb (zf ja) i) + 0)), (5, .int (nI i)), (0, .ref (ga G (93))), (1, .int (nI ja)), (2, .int (nI jb)), (3, .int 0)] rfl 102 rfl ?_
      refine v_iinc dX5_read_102 1 rfl (nI (i + 1)) (nI_1 _) (by decide) [(5, .int (nI (i + 1))), (4, .int ((rdN ms nu nE t0 ja jb (zf ja) i) + 0)), (0, .ref (ga G (93))), (1, .int (nI ja)), (2, .int (nI jb)), (3, .int 0)] rfl 105 rfl ?_
      refine v_goto dX5_read_105 41 (by decide) ?_
      have e91 : (rdN ms nu nE t0 ja jb (zf ja) i) + 0 = rdN ms nu nE t0 ja jb (zf ja) (i + 1) := by simp [rdN, c2]
      refine v_ls (ls2 := [(5, .int (nI (i + 1))), (4, .int (rdN ms nu nE t0 ja jb (zf ja) (i + 1))), (0, .ref (ga G (93))), (1, .int (nI ja)), (2, .int (nI jb)), (3, .int 0)]) (by simp only [List.cons.injEq, Prod.mk.injEq, Value.int.injEq, true_and, and_true, and_self]; exact e91) ?_
      exact ih (i + 1) (by omega) hk
    · skip
      refine v_iconst dX5_read_91 1 rfl 92 rfl ?_
      refine v_goto dX5_read_92 96 (by decide) ?_
      refine v_iadd dX5_read_96 97 rfl ?_
      refine v_callV (c_X5_takesBack l ((rdN ms nu nE t0 ja jb (zf ja) i) + 1)) kal_X5_takesBack rfl dX5_read_97 qw_927 qw_929 qw_36 rfl (by decide) (cel_mod G _) (by decide) [] (Nat.le_of_ble_eq_true rfl) rfl rfl 100 rfl ?_
      refine v_istore dX5_read_100 (by decide) [(4, .int ((rdN ms nu nE t0 ja jb (zf ja) i) + 1)), (5, .int (nI i)), (0, .ref (ga G (93))), (1, .int (nI ja)), (2, .int (nI jb)), (3, .int 0)] rfl 102 rfl ?_
      refine v_iinc dX5_read_102 1 rfl (nI (i + 1)) (nI_1 _) (by decide) [(5, .int (nI (i + 1))), (4, .int ((rdN ms nu nE t0 ja jb (zf ja) i) + 1)), (0, .ref (ga G (93))), (1, .int (nI ja)), (2, .int (nI jb)), (3, .int 0)] rfl 105 rfl ?_
      refine v_goto dX5_read_105 41 (by decide) ?_
      have e91 : (rdN ms nu nE t0 ja jb (zf ja) i) + 1 = rdN ms nu nE t0 ja jb (zf ja) (i + 1) := by simp [rdN, c2]
      refine v_ls (ls2 := [(5, .int (nI (i + 1))), (4, .int (rdN ms nu nE t0 ja jb (zf ja) (i + 1))), (0, .ref (ga G (93))), (1, .int (nI ja)), (2, .int (nI jb)), (3, .int 0)]) (by simp only [List.cons.injEq, Prod.mk.injEq, Value.int.injEq, true_and, and_true, and_self]; exact e91) ?_
      exact ih (i + 1) (by omega) hk
set_option maxHeartbeats 1000000 in
set_option maxRecDepth 4000 in
theorem c_X5_read (l : Launch) {G : Gl} {K : CS} {M : MS} {nE : Nat} (hn : M.1 1 = nI nE) (hn8 : nE ≤ 8) {t0 : Nat} (hm : M.1 0 = nI t0) (hmo : t0 < 2 ^ 20) {zf : Nat → Nat} (hz : ∀ s, s < 4 → M.2.2.2.2.2.2.2.2.2.2.2.2.2.1 s = nI (zf s) ∧ zf s ≤ 40) (a b : Int32) : Ct l G yX5_read cX5_read 6 (some .int) 6 136 [.ref (ga G (93)), .int a, .int b] (K, M) (some (.int (qRead M zf nE t0 a b).1)) (K, (qRead M zf nE t0 a b).2) := by
  obtain ⟨ms, mk, mo, ma, mf, ik, mt, td, fr, tt, vl, wr, mb, mz, nu, mv⟩ := M
  dsimp only at hz hn hm
  refine Ct.of (own := RX5) (by decide) rfl (Nat.le_of_ble_eq_true rfl) rfl (fun X => ?_)
  refine v_aload_n dX5_read_0 0 rfl 1 rfl ?_
  refine v_iload_n dX5_read_1 1 rfl 2 rfl ?_
  refine v_callV (c_X5_wrongSheet l (M := (ms, mk, mo, ma, mf, ik, mt, td, fr, tt, vl, wr, mb, mz, nu, mv)) a) kal_X5_wrongSheet rfl dX5_read_2 qw_1082 qw_1084 qw_52 rfl (by decide) (cel_mod G _) (by decide) [] (Nat.le_of_ble_eq_true rfl) rfl rfl 5 rfl ?_
  by_cases hS : inb 0 3 a = true
  · obtain ⟨ja, h1ja, h2ja, rfl⟩ := inb_ix (lo := 0) (hi := 3) hS
    have eja : (nI ja).toNatClampNeg = ja := nI_clamp (by omega)
    have hzja := hz ja (by omega)
    by_cases hB : mb ja = 0
    · refine v_topi (-1000000006) (by simp only [wrS, hS, if_true, ↓reduceIte]; simp [eja, hB]) ?_
      refine v_istore_n dX5_read_5 3 rfl (by decide) [(3, .int (-1000000006)), (0, .ref (ga G (93))), (1, .int (nI ja)), (2, .int b)] rfl 6 rfl ?_
      refine v_iload_n dX5_read_6 0 rfl 7 rfl ?_
      refine v_if_eq dX5_read_7 16 (by decide) 10 rfl (fun c1 => absurd c1 (by decide)) (fun c1 => ?_)
      refine v_aload_n dX5_read_10 1 rfl 11 rfl ?_
      refine v_iload_n dX5_read_11 0 rfl 12 rfl ?_
      refine v_callV (c_X5_finds l (k := 5) (by decide) (-1000000006) (by decide)) kal_X5_finds rfl dX5_read_12 qw_756 qw_758 qw_15 rfl (by decide) (cel_mod G _) (by decide) [] (Nat.le_of_ble_eq_true rfl) rfl rfl 15 rfl ?_
      exact v_iret dX5_read_15 (by simp only [qRead, hS, eja, Bool.and_self, Bool.and_true, Bool.true_and, Bool.and_false, Bool.false_and, if_true, if_false, Bool.false_eq_true, ↓reduceIte] <;> simp [mFind, lfind, xs, xa, fnd0, fnd1, fnd2, fnd3, fnd4, fnd5, fnd6, hB, eja]) (by simp only [qRead, hS, eja, Bool.and_self, Bool.and_true, Bool.true_and, Bool.and_false, Bool.false_and, if_true, if_false, Bool.false_eq_true, ↓reduceIte] <;> simp [mFind, lfind, xs, xa, fnd0, fnd1, fnd2, fnd3, fnd4, fnd5, fnd6, hB, eja])
    · refine v_topi 0 (by simp only [wrS, hS, if_true, ↓reduceIte]; simp [eja, hB]) ?_
      refine v_istore_n dX5_read_5 3 rfl (by decide) [(3, .int 0), (0, .ref (ga G (93))), (1, .int (nI ja)), (2, .int b)] rfl 6 rfl ?_
      refine v_iload_n dX5_read_6 0 rfl 7 rfl ?_
      refine v_if_eq dX5_read_7 16 (by decide) 10 rfl (fun c2 => ?_) (fun c2 => absurd c2 (by decide))
      refine v_aload_n dX5_read_16 1 rfl 17 rfl ?_
      refine v_iload_n dX5_read_17 3 rfl 18 rfl ?_
      refine v_callV (c_X5_isEwe l hn hn8 b) kal_X5_isEwe rfl dX5_read_18 qw_805 qw_807 qw_21 rfl (by decide) (cel_mod G _) (by decide) [] (Nat.le_of_ble_eq_true rfl) rfl rfl 21 rfl ?_
      refine v_ifb_ne dX5_read_21 31 (by decide) 24 rfl (fun c3 => ?_) (fun c3 => ?_)
      · skip
        obtain ⟨jb, h2jb, rfl⟩ := inE_ix c3
        have ejb : (nI jb).toNatClampNeg = jb := nI_clamp (by omega)
        refine v_aload_n dX5_read_31 1 rfl 32 rfl ?_
        refine v_callV (c_X5_laysAside l ) kal_X5_laysAside rfl dX5_read_32 qw_923 qw_925 qw_35 rfl (by decide) (cel_mod G _) (by decide) [] (Nat.le_of_ble_eq_true rfl) rfl rfl 35 rfl ?_
        refine v_iconst dX5_read_35 0 rfl 36 rfl ?_
        refine v_istore dX5_read_36 (by decide) [(4, .int 0), (3, .int 0), (0, .ref (ga G (93))), (1, .int (nI ja)), (2, .int (nI jb))] rfl 38 rfl ?_
        refine v_iconst dX5_read_38 0 rfl 39 rfl ?_
        refine v_istore dX5_read_39 (by decide) [(5, .int 0), (4, .int 0), (3, .int 0), (0, .ref (ga G (93))), (1, .int (nI ja)), (2, .int (nI jb))] rfl 41 rfl ?_
        refine v_pick [0, 1, 3, 4, 5, 2] [(5, .int 0), (4, .int 0), (0, .ref (ga G (93))), (1, .int (nI ja)), (2, .int (nI jb)), (3, .int 0)] rfl ?_
        refine lp_mread l (ma := ma) hn hn8 hm hmo (zf := zf) (ja := ja) (jb := jb) (by omega) hzja (by omega) 600 0 (by omega) ?_
        refine v_iload dX5_read_108 1 rfl 110 rfl ?_
        exact v_iret dX5_read_110 (by simp only [qRead, hS, c3, eja, ejb, Bool.and_self, Bool.and_true, Bool.true_and, Bool.and_false, Bool.false_and, if_true, if_false, Bool.false_eq_true, ↓reduceIte] <;> simp [mFind, lfind, xs, xa, fnd0, fnd1, fnd2, fnd3, fnd4, fnd5, fnd6, hB, eja, ejb]) (by simp only [qRead, hS, c3, eja, ejb, Bool.and_self, Bool.and_true, Bool.true_and, Bool.and_false, Bool.false_and, if_true, if_false, Bool.false_eq_true, ↓reduceIte] <;> simp [mFind, lfind, xs, xa, fnd0, fnd1, fnd2, fnd3, fnd4, fnd5, fnd6, hB, eja, ejb])
      · skip
        refine v_aload_n dX5_read_24 1 rfl 25 rfl ?_
        refine v_ldc dX5_read_25 (-1000000001) qw_755 27 rfl ?_
        refine v_callV (c_X5_finds l (k := 0) (by decide) (-1000000001) (by decide)) kal_X5_finds rfl dX5_read_27 qw_756 qw_758 qw_15 rfl (by decide) (cel_mod G _) (by decide) [] (Nat.le_of_ble_eq_true rfl) rfl rfl 30 rfl ?_
        exact v_iret dX5_read_30 (by simp only [qRead, hS, c3, eja, Bool.and_self, Bool.and_true, Bool.true_and, Bool.and_false, Bool.false_and, if_true, if_false, Bool.false_eq_true, ↓reduceIte] <;> simp [mFind, lfind, xs, xa, fnd0, fnd1, fnd2, fnd3, fnd4, fnd5, fnd6, hB, eja]) (by simp only [qRead, hS, c3, eja, Bool.and_self, Bool.and_true, Bool.true_and, Bool.and_false, Bool.false_and, if_true, if_false, Bool.false_eq_true, ↓reduceIte] <;> simp [mFind, lfind, xs, xa, fnd0, fnd1, fnd2, fnd3, fnd4, fnd5, fnd6, hB, eja])
  · have hS : inb 0 3 a = false := by simpa using hS
    refine v_topi (-1000000001) (by simp [wrS, hS]) ?_
    refine v_istore_n dX5_read_5 3 rfl (by decide) [(3, .int (-1000000001)), (0, .ref (ga G (93))), (1, .int a), (2, .int b)] rfl 6 rfl ?_
    refine v_iload_n dX5_read_6 0 rfl 7 rfl ?_
    refine v_if_eq dX5_read_7 16 (by decide) 10 rfl (fun c4 => absurd c4 (by decide)) (fun c4 => ?_)
    refine v_aload_n dX5_read_10 1 rfl 11 rfl ?_
    refine v_iload_n dX5_read_11 0 rfl 12 rfl ?_
    refine v_callV (c_X5_finds l (k := 0) (by decide) (-1000000001) (by decide)) kal_X5_finds rfl dX5_read_12 qw_756 qw_758 qw_15 rfl (by decide) (cel_mod G _) (by decide) [] (Nat.le_of_ble_eq_true rfl) rfl rfl 15 rfl ?_
    exact v_iret dX5_read_15 (by simp only [qRead, hS, Bool.and_self, Bool.and_true, Bool.true_and, Bool.and_false, Bool.false_and, if_true, if_false, Bool.false_eq_true, ↓reduceIte] <;> simp [mFind, lfind, xs, xa, fnd0, fnd1, fnd2, fnd3, fnd4, fnd5, fnd6, true_and]) (by simp only [qRead, hS, Bool.and_self, Bool.and_true, Bool.true_and, Bool.and_false, Bool.false_and, if_true, if_false, Bool.false_eq_true, ↓reduceIte] <;> simp [mFind, lfind, xs, xa, fnd0, fnd1, fnd2, fnd3, fnd4, fnd5, fnd6, true_and])
