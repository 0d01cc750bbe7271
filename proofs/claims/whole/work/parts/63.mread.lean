set_option maxHeartbeats 1000000 in
set_option maxRecDepth 4000 in
theorem c_X5_must (l : Launch) {G : Gl} {K : CS} {ms : Nat → Int32} {mk : Nat → Int32} {mo : Nat → Int32} {ma : Nat → Int32} {mf : Nat → Int32} {ik : Int32} {mt : Nat → Int32} {td : Nat} {fr : Nat} {tt : Nat} {vl : Int32} {wr : Int32} {mb : Nat → Int32} {mz : Nat → Int32} {nu : Nat → Int64} {mv : Nat → Int64} (htd : td ≤ 120) (hfr : fr ≤ 120) (htt : tt ≤ 120) (ok : Bool) : Ct l G yX5_must cX5_must 2 none 3 67 [.ref (ga G (93)), .int (b2 ok)] (K, (ms, mk, mo, ma, mf, ik, mt, td, fr, tt, vl, wr, mb, mz, nu, mv)) (none) (K, (ms, mk, mo, ma, mf, ik, mt, td, (musX mt td ok (fr, tt, vl, wr)).1, (musX mt td ok (fr, tt, vl, wr)).2.1, (musX mt td ok (fr, tt, vl, wr)).2.2.1, (musX mt td ok (fr, tt, vl, wr)).2.2.2, mb, mz, nu, mv)) := by
  refine Ct.of (own := RX5) (by decide) rfl (Nat.le_of_ble_eq_true rfl) rfl (fun X => ?_)
  refine v_aload_n dX5_must_0 0 rfl 1 rfl ?_
  refine v_aload_n dX5_must_1 0 rfl 2 rfl ?_
  refine v_get (i := 11) (ci := 5) (T := TX5) (C := RX5) (N := 16) (v := .int wr) dX5_must_2 inB5 rfl qw_697 rfl (by decide) (by decide) (cel_mod G _) rfl 5 rfl ?_
  refine v_if_ne dX5_must_5 12 (by decide) 8 rfl (fun c1 => ?_) (fun c1 => ?_)
  · skip
    refine v_iconst dX5_must_12 1 rfl 13 rfl ?_
    refine v_goto dX5_must_13 17 (by decide) ?_
    refine v_put (i := 11) (ci := 5) (T := TX5) (C := RX5) (N := 16) (ty := .boolean) (w2 := (K, (ms, mk, mo, ma, mf, ik, mt, td, fr, tt, vl, 1, mb, mz, nu, mv))) dX5_must_17 inB5 tyX5 tyX5_ok nmX5 rfl qw_697 rfl rfl rfl rfl rfl (by decide) (by decide) (cel_mod G _) (Nat.le_of_ble_eq_true rfl) u_m 20 rfl ?_
    refine v_aload_n dX5_must_20 0 rfl 21 rfl ?_
    refine v_get (i := 11) (ci := 5) (T := TX5) (C := RX5) (N := 16) (v := .int 1) dX5_must_21 inB5 rfl qw_697 rfl (by decide) (by decide) (cel_mod G _) rfl 24 rfl ?_
    refine v_if_ne dX5_must_24 31 (by decide) 27 rfl (fun c2 => ?_) (fun c2 => absurd c2 (by decide))
    exact v_vret dX5_must_31 (by rfl) (by simp [musX, tokX, c1, Ne.symm c1])
  · skip
    refine v_iload_n dX5_must_8 1 rfl 9 rfl ?_
    refine v_ifb_ne dX5_must_9 16 (by decide) 12 rfl (fun c3 => ?_) (fun c3 => ?_)
    · skip
      refine v_iconst dX5_must_16 0 rfl 17 rfl ?_
      refine v_put (i := 11) (ci := 5) (T := TX5) (C := RX5) (N := 16) (ty := .boolean) (w2 := (K, (ms, mk, mo, ma, mf, ik, mt, td, fr, tt, vl, 0, mb, mz, nu, mv))) dX5_must_17 inB5 tyX5 tyX5_ok nmX5 rfl qw_697 rfl rfl rfl rfl rfl (by decide) (by decide) (cel_mod G _) (Nat.le_of_ble_eq_true rfl) u_m 20 rfl ?_
      refine v_aload_n dX5_must_20 0 rfl 21 rfl ?_
      refine v_get (i := 11) (ci := 5) (T := TX5) (C := RX5) (N := 16) (v := .int 0) dX5_must_21 inB5 rfl qw_697 rfl (by decide) (by decide) (cel_mod G _) rfl 24 rfl ?_
      refine v_if_ne dX5_must_24 31 (by decide) 27 rfl (fun c4 => absurd c4 (by decide)) (fun c4 => ?_)
      refine v_aload_n dX5_must_27 0 rfl 28 rfl ?_
      refine v_callV (c_X5_token l htd (by omega)) kal_X5_token rfl dX5_must_28 qw_999 qw_1001 qw_40 rfl (by decide) (cel_mod G _) (by decide) [] (Nat.le_of_ble_eq_true rfl) rfl rfl 31 rfl ?_
      exact v_vret dX5_must_31 (by rfl) (by simp [musX, tokX, c1, c3])
    · skip
      refine v_iconst dX5_must_12 1 rfl 13 rfl ?_
      refine v_goto dX5_must_13 17 (by decide) ?_
      refine v_put (i := 11) (ci := 5) (T := TX5) (C := RX5) (N := 16) (ty := .boolean) (w2 := (K, (ms, mk, mo, ma, mf, ik, mt, td, fr, tt, vl, 1, mb, mz, nu, mv))) dX5_must_17 inB5 tyX5 tyX5_ok nmX5 rfl qw_697 rfl rfl rfl rfl rfl (by decide) (by decide) (cel_mod G _) (Nat.le_of_ble_eq_true rfl) u_m 20 rfl ?_
      refine v_aload_n dX5_must_20 0 rfl 21 rfl ?_
      refine v_get (i := 11) (ci := 5) (T := TX5) (C := RX5) (N := 16) (v := .int 1) dX5_must_21 inB5 rfl qw_697 rfl (by decide) (by decide) (cel_mod G _) rfl 24 rfl ?_
      refine v_if_ne dX5_must_24 31 (by decide) 27 rfl (fun c5 => ?_) (fun c5 => absurd c5 (by decide))
      exact v_vret dX5_must_31 (by rfl) (by simp [musX, tokX, c1, c3])
set_option maxHeartbeats 1000000 in
set_option maxRecDepth 4000 in
theorem lp_mword (l : Launch) {G : Gl} {X : VX} {ov : Option Value} {wF : WS} {K : CS} {ms : Nat → Int32} {mk : Nat → Int32} {mo : Nat → Int32} {ma : Nat → Int32} {mf : Nat → Int32} {ik : Int32} {mt : Nat → Int32} {td : Nat} {fr : Nat} {tt : Nat} {vl : Int32} {wr : Int32} {mb : Nat → Int32} {mz : Nat → Int32} {nu : Nat → Int64} {mv : Nat → Int64} (htd : td ≤ 120) (hfr : fr ≤ 120) (htt : tt ≤ 120) : ∀ n i : Nat, i + n = (tt - fr) → V l X 2 45 cX5_word 4 RX5 (some .long) G ov wF (K, (ms, mk, mo, ma, mf, ik, mt, td, fr, tt, vl, wr, mb, mz, nu, mv)) 50 [(3, .int (nI (fr + (tt - fr)))), (1, .long (hsh mt fr (tt - fr))), (0, .ref (ga G (93)))] [] → V l X 2 45 cX5_word 4 RX5 (some .long) G ov wF (K, (ms, mk, mo, ma, mf, ik, mt, td, fr, tt, vl, wr, mb, mz, nu, mv)) 7 [(3, .int (nI (fr + i))), (1, .long (hsh mt fr i)), (0, .ref (ga G (93)))] [] := by
  intro n
  induction n with
  | zero =>
    intro i hin hk
    obtain rfl : (tt - fr) = i := by omega
    refine v_iload_n dX5_word_7 0 rfl 8 rfl ?_
    refine v_aload_n dX5_word_8 2 rfl 9 rfl ?_
    refine v_get (i := 9) (ci := 5) (T := TX5) (C := RX5) (N := 16) (v := .int (nI tt)) dX5_word_9 inB5 rfl qw_695 rfl (by decide) (by decide) (cel_mod G _) rfl 12 rfl ?_
    refine n_icmp_ge dX5_word_12 (fr + (tt - fr)) tt rfl rfl (by omega) (by omega) 50 (by decide) 15 rfl (fun c1 => ?_) (fun c1 => absurd c1 (by omega))
    exact hk
  | succ n ih =>
    intro i hin hk
    refine v_iload_n dX5_word_7 0 rfl 8 rfl ?_
    refine v_aload_n dX5_word_8 2 rfl 9 rfl ?_
    refine v_get (i := 9) (ci := 5) (T := TX5) (C := RX5) (N := 16) (v := .int (nI tt)) dX5_word_9 inB5 rfl qw_695 rfl (by decide) (by decide) (cel_mod G _) rfl 12 rfl ?_
    refine n_icmp_ge dX5_word_12 (fr + i) tt rfl rfl (by omega) (by omega) 50 (by decide) 15 rfl (fun c1 => absurd c1 (by omega)) (fun c1 => ?_)
    refine v_lload_n dX5_word_15 1 rfl 16 rfl ?_
    refine v_ldc2 dX5_word_16 36028797018963967 qw_1029 19 rfl ?_
    refine v_lcmp dX5_word_19 20 rfl ?_
    refine v_if_le dX5_word_20 27 (by decide) 23 rfl (fun c2 => ?_) (fun c2 => ?_)
    · skip
      refine v_ldc2 dX5_word_27 32 qw_1030 30 rfl ?_
      refine v_lload_n dX5_word_30 1 rfl 31 rfl ?_
      refine v_lmul dX5_word_31 32 rfl ?_
      refine v_aload_n dX5_word_32 2 rfl 33 rfl ?_
      refine v_get (i := 6) (ci := 5) (T := TX5) (C := RX5) (N := 16) (v := .ref (ga G (99))) dX5_word_33 inB5 rfl qw_692 rfl (by decide) (by decide) (cel_mod G _) rfl 36 rfl ?_
      refine v_iload_n dX5_word_36 0 rfl 37 rfl ?_
      refine v_iald (a := mt) dX5_word_37 (by decide) (cel_mt G _) (fr + i) rfl (by omega) (by decide) 38 rfl ?_
      refine v_bipush dX5_word_38 96 rfl 40 rfl ?_
      refine v_isub dX5_word_40 41 rfl ?_
      refine v_i2l dX5_word_41 42 rfl ?_
      refine v_ladd dX5_word_42 43 rfl ?_
      refine v_lstore_n dX5_word_43 1 rfl (by decide) [(1, .long ((32 * (hsh mt fr i)) + ((mt (fr + i)) - 96 : Int32).toInt64)), (3, .int (nI (fr + i))), (0, .ref (ga G (93)))] rfl 44 rfl ?_
      refine v_iinc dX5_word_44 1 rfl (nI ((fr + i) + 1)) (nI_1 _) (by decide) [(3, .int (nI ((fr + i) + 1))), (1, .long ((32 * (hsh mt fr i)) + ((mt (fr + i)) - 96 : Int32).toInt64)), (0, .ref (ga G (93)))] rfl 47 rfl ?_
      refine v_goto dX5_word_47 7 (by decide) ?_
      have e91 : (32 * (hsh mt fr i)) + ((mt (fr + i)) - 96 : Int32).toInt64 = hsh mt fr (i + 1) := by simp [hsh, c2, Int32.not_lt.mpr c2]
      refine v_ls (ls2 := [(3, .int (nI (fr + (i + 1)))), (1, .long (hsh mt fr (i + 1))), (0, .ref (ga G (93)))]) (by simp only [List.cons.injEq, Prod.mk.injEq, Value.long.injEq, true_and, and_true, and_self]; exact ⟨rfl, e91⟩) ?_
      exact ih (i + 1) (by omega) hk
    · skip
      refine v_lload_n dX5_word_23 1 rfl 24 rfl ?_
      refine v_goto dX5_word_24 43 (by decide) ?_
      refine v_lstore_n dX5_word_43 1 rfl (by decide) [(1, .long (hsh mt fr i)), (3, .int (nI (fr + i))), (0, .ref (ga G (93)))] rfl 44 rfl ?_
      refine v_iinc dX5_word_44 1 rfl (nI ((fr + i) + 1)) (nI_1 _) (by decide) [(3, .int (nI ((fr + i) + 1))), (1, .long (hsh mt fr i)), (0, .ref (ga G (93)))] rfl 47 rfl ?_
      refine v_goto dX5_word_47 7 (by decide) ?_
      have e91 : hsh mt fr i = hsh mt fr (i + 1) := by simp [hsh, c2, Int32.not_le.mp c2]
      refine v_ls (ls2 := [(3, .int (nI (fr + (i + 1)))), (1, .long (hsh mt fr (i + 1))), (0, .ref (ga G (93)))]) (by simp only [List.cons.injEq, Prod.mk.injEq, Value.long.injEq, true_and, and_true, and_self]; exact ⟨rfl, e91⟩) ?_
      exact ih (i + 1) (by omega) hk
set_option maxHeartbeats 1000000 in
set_option maxRecDepth 4000 in
theorem c_X5_word (l : Launch) {G : Gl} {K : CS} {ms : Nat → Int32} {mk : Nat → Int32} {mo : Nat → Int32} {ma : Nat → Int32} {mf : Nat → Int32} {ik : Int32} {mt : Nat → Int32} {td : Nat} {fr : Nat} {tt : Nat} {vl : Int32} {wr : Int32} {mb : Nat → Int32} {mz : Nat → Int32} {nu : Nat → Int64} {mv : Nat → Int64} (htd : td ≤ 120) (hfr : fr ≤ 120) (htt : tt ≤ 120) : Ct l G yX5_word cX5_word 4 (some .long) 2 45 [.ref (ga G (93))] (K, (ms, mk, mo, ma, mf, ik, mt, td, fr, tt, vl, wr, mb, mz, nu, mv)) (some (.long (wrdX mt td (fr, tt, vl, wr)))) (K, (ms, mk, mo, ma, mf, ik, mt, td, fr, tt, vl, wr, mb, mz, nu, mv)) := by
  refine Ct.of (own := RX5) (by decide) rfl (Nat.le_of_ble_eq_true rfl) rfl (fun X => ?_)
  refine v_lconst dX5_word_0 0 rfl 1 rfl ?_
  refine v_lstore_n dX5_word_1 1 rfl (by decide) [(1, .long 0), (0, .ref (ga G (93)))] rfl 2 rfl ?_
  refine v_aload_n dX5_word_2 1 rfl 3 rfl ?_
  refine v_get (i := 8) (ci := 5) (T := TX5) (C := RX5) (N := 16) (v := .int (nI fr)) dX5_word_3 inB5 rfl qw_694 rfl (by decide) (by decide) (cel_mod G _) rfl 6 rfl ?_
  refine v_istore_n dX5_word_6 3 rfl (by decide) [(3, .int (nI fr)), (1, .long 0), (0, .ref (ga G (93)))] rfl 7 rfl ?_
  refine lp_mword l htd hfr htt (tt - fr) 0 (by omega) ?_
  refine v_aload_n dX5_word_50 2 rfl 51 rfl ?_
  refine v_get (i := 11) (ci := 5) (T := TX5) (C := RX5) (N := 16) (v := .int wr) dX5_word_51 inB5 rfl qw_697 rfl (by decide) (by decide) (cel_mod G _) rfl 54 rfl ?_
  refine v_if_ne dX5_word_54 71 (by decide) 57 rfl (fun c1 => ?_) (fun c1 => ?_)
  · skip
    refine v_lconst dX5_word_71 0 rfl 72 rfl ?_
    refine v_goto dX5_word_72 76 (by decide) ?_
    exact v_lret dX5_word_76 (by simp [wrdX, c1, Ne.symm c1]) (by rfl)
  · skip
    refine v_aload_n dX5_word_57 2 rfl 58 rfl ?_
    refine v_aload_n dX5_word_58 2 rfl 59 rfl ?_
    refine v_get (i := 8) (ci := 5) (T := TX5) (C := RX5) (N := 16) (v := .int (nI fr)) dX5_word_59 inB5 rfl qw_694 rfl (by decide) (by decide) (cel_mod G _) rfl 62 rfl ?_
    refine v_callV (c_X5_byteAt l (i := fr) (by omega) (by omega)) kal_X5_byteAt rfl dX5_word_62 qw_1003 qw_1005 qw_41 rfl (by decide) (cel_mod G _) (by decide) [] (Nat.le_of_ble_eq_true rfl) rfl rfl 65 rfl ?_
    refine v_callS (c_X5_isLetter l (bA mt td fr)) kal_X5_isLetter rfl dX5_word_65 qw_1007 qw_1008 (by decide) [] (Nat.le_of_ble_eq_true rfl) rfl rfl 68 rfl ?_
    refine v_ifb_ne dX5_word_68 75 (by decide) 71 rfl (fun c2 => ?_) (fun c2 => ?_)
    · skip
      refine v_lload_n dX5_word_75 1 rfl 76 rfl ?_
      exact v_lret dX5_word_76 (by simp [wrdX, c1, c2]) (by rfl)
    · skip
      refine v_lconst dX5_word_71 0 rfl 72 rfl ?_
      refine v_goto dX5_word_72 76 (by decide) ?_
      exact v_lret dX5_word_76 (by simp [wrdX, c1, c2]) (by rfl)
