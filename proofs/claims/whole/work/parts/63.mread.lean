set_option maxHeartbeats 1000000 in
set_option maxRecDepth 4000 in
theorem c_X5_must (l : Launch) {G : Gl} {K : CS} {ms : Nat → Int32} {mk : Nat → Int32} {mo : Nat → Int32} {ma : Nat → Int32} {mf : Nat → Int32} {ik : Int32} {mt : Nat → Int32} {td : Nat} {fr : Nat} {tt : Nat} {vl : Int32} {wr : Int32} {mb : Nat → Int32} {mz : Nat → Int32} {nu : Nat → Int64} {mv : Nat → Int64} (htd : td ≤ 120) (hfr : fr ≤ 120) (htt : tt ≤ 120) (ok : Bool) : Ct l G yX5_must cX5_must 2 none 3 67 [.ref (ga G (93)), .int (b2 ok)] (K, (ms, mk, mo, ma, mf, ik, mt, td, fr, tt, vl, wr, mb, mz, nu, mv)) (none) (K, (ms, mk, mo, ma, mf, ik, mt, td, (musX mt td ok (fr, tt, vl, wr)).1, (musX mt td ok (fr, tt, vl, wr)).2.1, (musX mt td ok (fr, tt, vl, wr)).2.2.1, (musX mt td ok (fr, tt, vl, wr)).2.2.2, mb, mz, nu, mv)) := by
  refine Ct.of (own := RX5) (by decide) rfl (Nat.le_of_ble_eq_true rfl) rfl (fun X => ?_)
  refine v_aload_n dX5_must_0 0 rfl 1 rfl ?_
  refine v_aload_n dX5_must_1 0 rfl 2 rfl ?_
  refine v_get (i := 11) (ci := 5) (T := TX5) (C := RX5) (N := 16) (v := .int wr) dX5_must_2 inB5 rfl qw_697 rfl (by decide) (by decide) (cel_mod G _) rfl 5 rfl ?_
  refine v_if_ne dX5_must_5 12 (by decide) 8 rfl (fun c1 => ?_) (fun c1 => ?_)
  · skip
    refine v_iconst dX5_must_12 1 rfl 13 rfl ?_
    refine v_goto dX5_must_13 17 (by decide) ?_
    refine v_put (i := 11) (ci := 5) (T := TX5) (C := RX5) (N := 16) (ty := .boolean) (w2 := (K, (ms, mk, mo, ma, mf, ik, mt, td, fr, tt, vl, 1, mb, mz, nu, mv))) dX5_must_17 inB5 tyX5 tyX5_ok nmX5 rfl qw_697 rfl rfl rfl rfl rfl (by decide) (by decide) (cel_mod G _) (Nat.le_of_ble_eq_true rfl) u_m 20 rfl ?_
    refine v_aload_n dX5_must_20 0 rfl 21 rfl ?_
    refine v_get (i := 11) (ci := 5) (T := TX5) (C := RX5) (N := 16) (v := .int 1) dX5_must_21 inB5 rfl qw_697 rfl (by decide) (by decide) (cel_mod G _) rfl 24 rfl ?_
    refine v_if_ne dX5_must_24 31 (by decide) 27 rfl (fun c2 => ?_) (fun c2 => absurd c2 (by decide))
    exact v_vret dX5_must_31 (by rfl) (by simp [musX, tokX, c1, Ne.symm c1])
  · skip
    refine v_iload_n dX5_must_8 1 rfl 9 rfl ?_
    refine v_ifb_ne dX5_must_9 16 (by decide) 12 rfl (fun c3 => ?_) (fun c3 => ?_)
    · skip
      refine v_iconst dX5_must_16 0 rfl 17 rfl ?_
      refine v_put (i := 11) (ci := 5) (T := TX5) (C := RX5) (N := 16) (ty := .boolean) (w2 := (K, (ms, mk, mo, ma, mf, ik, mt, td, fr, tt, vl, 0, mb, mz, nu, mv))) dX5_must_17 inB5 tyX5 tyX5_ok nmX5 rfl qw_697 rfl rfl rfl rfl rfl (by decide) (by decide) (cel_mod G _) (Nat.le_of_ble_eq_true rfl) u_m 20 rfl ?_
      refine v_aload_n dX5_must_20 0 rfl 21 rfl ?_
      refine v_get (i := 11) (ci := 5) (T := TX5) (C := RX5) (N := 16) (v := .int 0) dX5_must_21 inB5 rfl qw_697 rfl (by decide) (by decide) (cel_mod G _) rfl 24 rfl ?_
      refine v_if_ne dX5_must_24 31 (by decide) 27 rfl (fun c4 => absurd c4 (by decide)) (fun c4 => ?_)
      refine v_aload_n dX5_must_27 0 rfl 28 rfl ?_
      refine v_callV (c_X5_token l htd (by omega)) kal_X5_token rfl dX5_must_28 qw_999 qw_1001 qw_40 rfl (by decide) (cel_mod G _) (by decide) [] (Nat.le_of_ble_eq_true rfl) rfl rfl 31 rfl ?_
      exact v_vret dX5_must_31 (by rfl) (by simp [musX, tokX, c1, c3])
    · skip
      refine v_iconst dX5_must_12 1 rfl 13 rfl ?_
      refine v_goto dX5_must_13 17 (by decide) ?_
      refine v_put (i := 11) (ci := 5) (T := TX5) (C := RX5) (N := 16) (ty := .boolean) (w2 := (K, (ms, mk, mo, ma, mf, ik, mt, td, fr, tt, vl, 1, mb, mz, nu, mv))) dX5_must_17 inB5 tyX5 tyX5_ok nmX5 rfl qw_697 rfl rfl rfl rfl rfl (by decide) (by decide) (cel_mod G _) (Nat.le_of_ble_eq_true rfl) u_m 20 rfl ?_
      refine v_aload_n dX5_must_20 0 rfl 21 rfl ?_
      refine v_get (i := 11) (ci := 5) (T := TX5) (C := RX5) (N := 16) (v := .int 1) dX5_must_21 inB5 rfl qw_697 rfl (by decide) (by decide) (cel_mod G _) rfl 24 rfl ?_
      refine v_if_ne dX5_must_24 31 (by decide) 27 rfl (fun c5 => ?_) (fun c5 => absurd c5 (by decide))
      exact v_vret dX5_must_31 (by rfl) (by simp [musX, tokX, c1, c3])
set_option maxHeartbeats 1000000 in
set_option maxRecDepth 4000 in
theorem lp_mword (l : Launch) {G : Gl} {X : VX} {ov : Option Value} {wF : WS} {K : CS} {ms : Nat → Int32} {mk : Nat → Int32} {mo : Nat → Int32} {ma : Nat → Int32} {mf : Nat → Int32} {ik : Int32} {mt : Nat → Int32} {td : Nat} {fr : Nat} {tt : Nat} {vl : Int32} {wr : Int32} {mb : Nat → Int32} {mz : Nat → Int32} {nu : Nat → Int64} {mv : Nat → Int64} (htd : td ≤ 120) (hfr : fr ≤ 120) (htt : tt ≤ 120) : ∀ n i : Nat, i + n = (tt - fr) → V l X 2 45 cX5_word 4 RX5 (some .long) G ov wF (K, (ms, mk, mo, ma, mf, ik, mt, td, fr, tt, vl, wr, mb, mz, nu, mv)) 50 [(3, .int (nI (fr + (tt - fr)))), (1, .long (hsh mt fr (tt - fr))), (0, .ref (ga G (93)))] [] → V l X 2 45 cX5_word 4 RX5 (some .long) G ov wF (K, (ms, mk, mo, ma, mf, ik, mt, td, fr, tt, vl, wr, mb, mz, nu, mv)) 7 [(3, .int (nI (fr + i))), (1, .long (hsh mt fr i)), (0, .ref (ga G (93)))] [] := by
  intro n
  induction n with
  | zero =>
    intro i hin hk
    obtain rfl : (tt - fr) = i := by omega
    refine v_iload_n dX5_word_7 0 rfl 8 rfl ?_
    refine v_aload_n dX5_word_8 2 rfl 9 rfl ?_
    refine v_get (i := 9) (ci := 5) (T := TX5) (C := RX5) (N := 16) (v := .int (nI tt)) dX5_word_9 inB5 rfl qw_695 rfl (by decide) (by decide) (cel_mod G _) rfl 12 rfl ?_
    refine n_icmp_ge dX5_word_12 (fr + (tt - fr)) tt rfl rfl (by omega) (by omega) 50 (by decide) 15 rfl (fun c1 => ?_) (fun c1 => absurd c1 (by omega))
    exact hk
  | succ n ih =>
    intro i hin hk
    refine v_iload_n dX5_word_7 0 rfl 8 rfl ?_
    refine v_aload_n dX5_word_8 2 rfl 9 rfl ?_
    refine v_get (i := 9) (ci := 5) (T := TX5) (C := RX5) (N := 16) (v := .int (nI tt)) dX5_word_9 inB5 rfl qw_695 rfl (by decide) (by decide) (cel_mod G _) rfl 12 rfl ?_
    refine n_icmp_ge dX5_word_12 (fr + i) tt rfl rfl (by omega) (by omega) 50 (by decide) 15 rfl (fun c1 => absurd c1 (by omega)) (fun c1 => ?_)
    refine v_lload_n dX5_word_15 1 rfl 16 rfl ?_
    refine v_ldc2 dX5_word_16 36028797018963967 qw_1029 19 rfl ?_
    refine v_lcmp dX5_word_19 20 rfl ?_
    refine v_if_le dX5_word_20 27 (by decide) 23 rfl (fun c2 => ?_) (fun c2 => ?_)
    · skip
      refine v_ldc2 dX5_word_27 32 qw_1030 30 rfl ?_
      refine v_lload_n dX5_word_30 1 rfl 31 rfl ?_
      refine v_lmul dX5_word_31 32 rfl ?_
      refine v_aload_n dX5_word_32 2 rfl 33 rfl ?_
      refine v_get (i := 6) (ci := 5) (T := TX5) (C := RX5) (N := 16) (v := .ref (ga G (99))) dX5_word_33 inB5 rfl qw_692 rfl (by decide) (by decide) (cel_mod G _) rfl 36 rfl ?_
      refine v_iload_n dX5_word_36 0 rfl 37 rfl ?_
      refine v_iald (a := mt) dX5_word_37 (by decide) (cel_mt G _) (fr + i) rfl (by omega) (by decide) 38 rfl ?_
      refine v_bipush dX5_word_38 96 rfl 40 rfl ?_
      refine v_isub dX5_word_40 41 rfl ?_
      refine v_i2l dX5_word_41 42 rfl ?_
      refine v_ladd dX5_word_42 43 rfl ?_
      refine v_lstore_n dX5_word_43 1 rfl (by decide) [(1, .long ((32 * (hsh mt fr i)) + ((mt (fr + i)) - 96 : Int32).toInt64)), (3, .int (nI (fr + i))), (0, .ref (ga G (93)))] rfl 44 rfl ?_
      refine v_iinc dX5_word_44 1 rfl (nI ((fr + i) + 1)) (nI_1 _) (by decide) [(3, .int (nI ((fr + i) + 1))), (1, .long ((32 * (hsh mt fr i)) + ((mt (fr + i)) - 96 : Int32).toInt64)), (0, .ref (ga G (93)))] rfl 47 rfl ?_
      refine v_goto dX5_word_47 7 (by decide) ?_
      have e91 : (32 * (hsh mt fr i)) + ((mt (fr + i)) - 96 : Int32).toInt64 = hsh mt fr (i + 1) := by simp [hsh, c2, Int32.not_lt.mpr c2]
      refine v_ls (ls2 := [(3, .int (nI (fr + (i + 1)))), (1, .long (hsh mt fr (i + 1))), (0, .ref (ga G (93)))]) (by simp only [List.cons.injEq, Prod.mk.injEq, Value.long.injEq, true_and, and_true, and_self]; exact ⟨rfl, e91⟩) ?_
      exact ih (i + 1) (by omega) hk
    · skip
      refine v_lload_n dX5_word_23 1 rfl 24 rfl ?_
      refine v_goto dX5_word_24 43 (by decide) ?_
      refine v_lstore_n dX5_word_43 1 rfl (by decide) [(1, .long (hsh mt fr i)), (3, .int (nI (fr + i))), (0, .ref (ga G (93)))] rfl 44 rfl ?_
      refine v_iinc dX5_word_44 1 rfl (nI ((fr + i) + 1)) (nI_1 _) (by decide) [(3, .int (nI ((fr + i) + 1))), (1, .long (hsh mt fr i)), (0, .ref (ga G (93)))] rfl 47 rfl ?_
      refine v_goto dX5_word_47 7 (by decide) ?_
      have e91 : hsh mt fr i = hsh mt fr (i + 1) := by simp [hsh, c2, Int32.not_le.mp c2]
      refine v_ls (ls2 := [(3, .int (nI (fr + (i + 1)))), (1, .long (hsh mt fr (i + 1))), (0, .ref (ga G (93)))]) (by simp only [List.cons.injEq, Prod.mk.injEq, Value.long.injEq, true_and, and_true, and_self]; exact ⟨rfl, e91⟩) ?_
      exact ih (i + 1) (by omega) hk
set_option maxHeartbeats 1000000 in
set_option maxRecDepth 4000 in
theorem c_X5_word (l : Launch) {G : Gl} {K : CS} {ms : Nat → Int32} {mk : Nat → Int32} {mo : Nat → Int32} {ma : Nat → Int32} {mf : Nat → Int32} {ik : Int32} {mt : Nat → Int32} {td : Nat} {fr : Nat} {tt : Nat} {vl : Int32} {wr : Int32} {mb : Nat → Int32} {mz : Nat → Int32} {nu : Nat → Int64} {mv : Nat → Int64} (htd : td ≤ 120) (hfr : fr ≤ 120) (htt : tt ≤ 120) : Ct l G yX5_word cX5_word 4 (some .long) 2 45 [.ref (ga G (93))] (K, (ms, mk, mo, ma, mf, ik, mt, td, fr, tt, vl, wr, mb, mz, nu, mv)) (some (.long (wrdX mt td (fr, tt, vl, wr)))) (K, (ms, mk, mo, ma, mf, ik, mt, td, fr, tt, vl, wr, mb, mz, nu, mv)) := by
  refine Ct.of (own := RX5) (by decide) rfl (Nat.le_of_ble_eq_true rfl) rfl (fun X => ?_)
  refine v_lconst dX5_word_0 0 rfl 1 rfl ?_
  refine v_lstore_n dX5_word_1 1 rfl (by decide) [(1, .long 0), (0, .ref (ga G (93)))] rfl 2 rfl ?_
  refine v_aload_n dX5_word_2 1 rfl 3 rfl ?_
  refine v_get (i := 8) (ci := 5) (T := TX5) (C := RX5) (N := 16) (v := .int (nI fr)) dX5_word_3 inB5 rfl qw_694 rfl (by decide) (by decide) (cel_mod G _) rfl 6 rfl ?_
  refine v_istore_n dX5_word_6 3 rfl (by decide) [(3, .int (nI fr)), (1, .long 0), (0, .ref (ga G (93)))] rfl 7 rfl ?_
  refine lp_mword l htd hfr htt (tt - fr) 0 (by omega) ?_
  refine v_aload_n dX5_word_50 2 rfl 51 rfl ?_
  refine v_get (i := 11) (ci := 5) (T := TX5) (C := RX5) (N := 16) (v := .int wr) dX5_word_51 inB5 rfl qw_697 rfl (by decide) (by decide) (cel_mod G _) rfl 54 rfl ?_
  refine v_if_ne dX5_word_54 71 (by decide) 57 rfl (fun c1 => ?_) (fun c1 => ?_)
  · skip
    refine v_lconst dX5_word_71 0 rfl 72 rfl ?_
    refine v_goto dX5_word_72 76 (by decide) ?_
    exact v_lret dX5_word_76 (by simp [wrdX, c1, Ne.symm c1]) (by rfl)
  · skip
    refine v_aload_n dX5_word_57 2 rfl 58 rfl ?_
    refine v_aload_n dX5_word_58 2 rfl 59 rfl ?_
    refine v_get (i := 8) (ci := 5) (T := TX5) (C := RX5) (N := 16) (v := .int (nI fr)) dX5_word_59 inB5 rfl qw_694 rfl (by decide) (by decide) (cel_mod G _) rfl 62 rfl ?_
    refine v_callV (c_X5_byteAt l (i := fr) (by omega) (by omega)) kal_X5_byteAt rfl dX5_word_62 qw_1003 qw_1005 qw_41 rfl (by decide) (cel_mod G _) (by decide) [] (Nat.le_of_ble_eq_true rfl) rfl rfl 65 rfl ?_
    refine v_callS (c_X5_isLetter l (bA mt td fr)) kal_X5_isLetter rfl dX5_word_65 qw_1007 qw_1008 (by decide) [] (Nat.le_of_ble_eq_true rfl) rfl rfl 68 rfl ?_
    refine v_ifb_ne dX5_word_68 75 (by decide) 71 rfl (fun c2 => ?_) (fun c2 => ?_)
    · skip
      refine v_lload_n dX5_word_75 1 rfl 76 rfl ?_
      exact v_lret dX5_word_76 (by simp [wrdX, c1, c2]) (by rfl)
    · skip
      refine v_lconst dX5_word_71 0 rfl 72 rfl ?_
      refine v_goto dX5_word_72 76 (by decide) ?_
      exact v_lret dX5_word_76 (by simp [wrdX, c1, c2]) (by rfl)
set_option maxHeartbeats 1000000 in
set_option maxRecDepth 4000 in
theorem lp_mnumber (l : Launch) {G : Gl} {X : VX} {ov : Option Value} {wF : WS} {K : CS} {ms : Nat → Int32} {mk : Nat → Int32} {mo : Nat → Int32} {ma : Nat → Int32} {mf : Nat → Int32} {ik : Int32} {mt : Nat → Int32} {td : Nat} {fr : Nat} {tt : Nat} {vl : Int32} {wr : Int32} {mb : Nat → Int32} {mz : Nat → Int32} {nu : Nat → Int64} {mv : Nat → Int64} (htd : td ≤ 120) (hfr : fr ≤ 120) (htt : tt ≤ 120) (h : Int32) : ∀ n i : Nat, i + n = (tt - fr) → V l X 4 88 cX5_number 6 RX5 none G ov wF (K, (ms, mk, mo, ma, mf, ik, mt, td, fr, tt, vl, wr, mb, mz, nu, mv)) 79 [(5, .int (nI (fr + (tt - fr)))), (4, .int (nV mt fr (tt - fr))), (3, .int 1), (0, .ref (ga G (93))), (1, .int 0), (2, .int h)] [] → V l X 4 88 cX5_number 6 RX5 none G ov wF (K, (ms, mk, mo, ma, mf, ik, mt, td, fr, tt, vl, wr, mb, mz, nu, mv)) 29 [(5, .int (nI (fr + i))), (4, .int (nV mt fr i)), (3, .int 1), (0, .ref (ga G (93))), (1, .int 0), (2, .int h)] [] := by
  intro n
  induction n with
  | zero =>
    intro i hin hk
    obtain rfl : (tt - fr) = i := by omega
    refine v_iload dX5_number_29 0 rfl 31 rfl ?_
    refine v_aload_n dX5_number_31 3 rfl 32 rfl ?_
    refine v_get (i := 9) (ci := 5) (T := TX5) (C := RX5) (N := 16) (v := .int (nI tt)) dX5_number_32 inB5 rfl qw_695 rfl (by decide) (by decide) (cel_mod G _) rfl 35 rfl ?_
    refine n_icmp_ge dX5_number_35 (fr + (tt - fr)) tt rfl rfl (by omega) (by omega) 79 (by decide) 38 rfl (fun c1 => ?_) (fun c1 => absurd c1 (by omega))
    exact hk
  | succ n ih =>
    intro i hin hk
    refine v_iload dX5_number_29 0 rfl 31 rfl ?_
    refine v_aload_n dX5_number_31 3 rfl 32 rfl ?_
    refine v_get (i := 9) (ci := 5) (T := TX5) (C := RX5) (N := 16) (v := .int (nI tt)) dX5_number_32 inB5 rfl qw_695 rfl (by decide) (by decide) (cel_mod G _) rfl 35 rfl ?_
    refine n_icmp_ge dX5_number_35 (fr + i) tt rfl rfl (by omega) (by omega) 79 (by decide) 38 rfl (fun c1 => absurd c1 (by omega)) (fun c1 => ?_)
    refine v_iload_n dX5_number_38 2 rfl 39 rfl ?_
    refine v_if_eq dX5_number_39 79 (by decide) 42 rfl (fun c2 => absurd c2 (by decide)) (fun c2 => ?_)
    refine v_iload dX5_number_42 1 rfl 44 rfl ?_
    refine v_sipush dX5_number_44 9999 rfl 47 rfl ?_
    refine v_icmp_le dX5_number_47 55 (by decide) 50 rfl (fun c3 => ?_) (fun c3 => ?_)
    · skip
      refine v_bipush dX5_number_55 10 rfl 57 rfl ?_
      refine v_iload dX5_number_57 1 rfl 59 rfl ?_
      refine v_imul dX5_number_59 60 rfl ?_
      refine v_aload_n dX5_number_60 3 rfl 61 rfl ?_
      refine v_get (i := 6) (ci := 5) (T := TX5) (C := RX5) (N := 16) (v := .ref (ga G (99))) dX5_number_61 inB5 rfl qw_692 rfl (by decide) (by decide) (cel_mod G _) rfl 64 rfl ?_
      refine v_iload dX5_number_64 0 rfl 66 rfl ?_
      refine v_iald (a := mt) dX5_number_66 (by decide) (cel_mt G _) (fr + i) rfl (by omega) (by decide) 67 rfl ?_
      refine v_iadd dX5_number_67 68 rfl ?_
      refine v_bipush dX5_number_68 48 rfl 70 rfl ?_
      refine v_isub dX5_number_70 71 rfl ?_
      refine v_istore dX5_number_71 (by decide) [(4, .int (((10 * (nV mt fr i)) + (mt (fr + i))) - 48)), (5, .int (nI (fr + i))), (3, .int 1), (0, .ref (ga G (93))), (1, .int 0), (2, .int h)] rfl 73 rfl ?_
      refine v_iinc dX5_number_73 1 rfl (nI ((fr + i) + 1)) (nI_1 _) (by decide) [(5, .int (nI ((fr + i) + 1))), (4, .int (((10 * (nV mt fr i)) + (mt (fr + i))) - 48)), (3, .int 1), (0, .ref (ga G (93))), (1, .int 0), (2, .int h)] rfl 76 rfl ?_
      refine v_goto dX5_number_76 29 (by decide) ?_
      have e91 : ((10 * (nV mt fr i)) + (mt (fr + i))) - 48 = nV mt fr (i + 1) := by simp [nV, c3, Int32.not_lt.mpr c3]
      refine v_ls (ls2 := [(5, .int (nI (fr + (i + 1)))), (4, .int (nV mt fr (i + 1))), (3, .int 1), (0, .ref (ga G (93))), (1, .int 0), (2, .int h)]) (by simp only [List.cons.injEq, Prod.mk.injEq, Value.int.injEq, true_and, and_true, and_self]; exact ⟨rfl, e91⟩) ?_
      exact ih (i + 1) (by omega) hk
    · skip
      refine v_iload dX5_number_50 1 rfl 52 rfl ?_
      refine v_goto dX5_number_52 71 (by decide) ?_
      refine v_istore dX5_number_71 (by decide) [(4, .int (nV mt fr i)), (5, .int (nI (fr + i))), (3, .int 1), (0, .ref (ga G (93))), (1, .int 0), (2, .int h)] rfl 73 rfl ?_
      refine v_iinc dX5_number_73 1 rfl (nI ((fr + i) + 1)) (nI_1 _) (by decide) [(5, .int (nI ((fr + i) + 1))), (4, .int (nV mt fr i)), (3, .int 1), (0, .ref (ga G (93))), (1, .int 0), (2, .int h)] rfl 76 rfl ?_
      refine v_goto dX5_number_76 29 (by decide) ?_
      have e91 : nV mt fr i = nV mt fr (i + 1) := by simp [nV, c3, Int32.not_le.mp c3]
      refine v_ls (ls2 := [(5, .int (nI (fr + (i + 1)))), (4, .int (nV mt fr (i + 1))), (3, .int 1), (0, .ref (ga G (93))), (1, .int 0), (2, .int h)]) (by simp only [List.cons.injEq, Prod.mk.injEq, Value.int.injEq, true_and, and_true, and_self]; exact ⟨rfl, e91⟩) ?_
      exact ih (i + 1) (by omega) hk
set_option maxHeartbeats 1000000 in
set_option maxRecDepth 4000 in
theorem c_X5_number (l : Launch) {G : Gl} {K : CS} {ms : Nat → Int32} {mk : Nat → Int32} {mo : Nat → Int32} {ma : Nat → Int32} {mf : Nat → Int32} {ik : Int32} {mt : Nat → Int32} {td : Nat} {fr : Nat} {tt : Nat} {vl : Int32} {wr : Int32} {mb : Nat → Int32} {mz : Nat → Int32} {nu : Nat → Int64} {mv : Nat → Int64} (htd : td ≤ 120) (hfr : fr ≤ 120) (htt : tt ≤ 120) (h : Int32) : Ct l G yX5_number cX5_number 6 none 4 88 [.ref (ga G (93)), .int 0, .int h] (K, (ms, mk, mo, ma, mf, ik, mt, td, fr, tt, vl, wr, mb, mz, nu, mv)) (none) (K, (ms, mk, mo, ma, mf, ik, mt, td, (numX mt td h (fr, tt, vl, wr)).1, (numX mt td h (fr, tt, vl, wr)).2.1, (numX mt td h (fr, tt, vl, wr)).2.2.1, (numX mt td h (fr, tt, vl, wr)).2.2.2, mb, mz, nu, mv)) := by
  refine Ct.of (own := RX5) (by decide) rfl (Nat.le_of_ble_eq_true rfl) rfl (fun X => ?_)
  refine v_aload_n dX5_number_0 0 rfl 1 rfl ?_
  refine v_get (i := 11) (ci := 5) (T := TX5) (C := RX5) (N := 16) (v := .int wr) dX5_number_1 inB5 rfl qw_697 rfl (by decide) (by decide) (cel_mod G _) rfl 4 rfl ?_
  refine v_if_eq dX5_number_4 8 (by decide) 7 rfl (fun c1 => ?_) (fun c1 => ?_)
  · skip
    refine v_aload_n dX5_number_8 0 rfl 9 rfl ?_
    refine v_aload_n dX5_number_9 0 rfl 10 rfl ?_
    refine v_get (i := 8) (ci := 5) (T := TX5) (C := RX5) (N := 16) (v := .int (nI fr)) dX5_number_10 inB5 rfl qw_694 rfl (by decide) (by decide) (cel_mod G _) rfl 13 rfl ?_
    refine v_callV (c_X5_byteAt l (i := fr) (by omega) (by omega)) kal_X5_byteAt rfl dX5_number_13 qw_1003 qw_1005 qw_41 rfl (by decide) (cel_mod G _) (by decide) [] (Nat.le_of_ble_eq_true rfl) rfl rfl 16 rfl ?_
    refine v_callS (c_X5_isDigit l (bA mt td fr)) kal_X5_isDigit rfl dX5_number_16 qw_1012 qw_1013 (by decide) [] (Nat.le_of_ble_eq_true rfl) rfl rfl 19 rfl ?_
    refine v_istore_n dX5_number_19 3 rfl (by decide) [(3, .int (b2 (inb 48 57 (bA mt td fr)))), (0, .ref (ga G (93))), (1, .int 0), (2, .int h)] rfl 20 rfl ?_
    by_cases hD : inb 48 57 (bA mt td fr) = true
    · skip
      refine v_ls (ls2 := [(3, .int 1), (0, .ref (ga G (93))), (1, .int 0), (2, .int h)]) (by rw [hD]; rfl) ?_
      refine v_iconst dX5_number_20 0 rfl 21 rfl ?_
      refine v_istore dX5_number_21 (by decide) [(4, .int 0), (3, .int 1), (0, .ref (ga G (93))), (1, .int 0), (2, .int h)] rfl 23 rfl ?_
      refine v_aload_n dX5_number_23 2 rfl 24 rfl ?_
      refine v_get (i := 8) (ci := 5) (T := TX5) (C := RX5) (N := 16) (v := .int (nI fr)) dX5_number_24 inB5 rfl qw_694 rfl (by decide) (by decide) (cel_mod G _) rfl 27 rfl ?_
      refine v_istore dX5_number_27 (by decide) [(5, .int (nI fr)), (4, .int 0), (3, .int 1), (0, .ref (ga G (93))), (1, .int 0), (2, .int h)] rfl 29 rfl ?_
      refine lp_mnumber l htd hfr htt h (tt - fr) 0 (by omega) ?_
      refine v_aload_n dX5_number_79 3 rfl 80 rfl ?_
      refine v_iload dX5_number_80 1 rfl 82 rfl ?_
      refine v_put (i := 10) (ci := 5) (T := TX5) (C := RX5) (N := 16) (ty := .int) (w2 := (K, (ms, mk, mo, ma, mf, ik, mt, td, fr, tt, nV mt fr (tt - fr), wr, mb, mz, nu, mv))) dX5_number_82 inB5 tyX5 tyX5_ok nmX5 rfl qw_696 rfl rfl rfl rfl rfl (by decide) (by decide) (cel_mod G _) (Nat.le_of_ble_eq_true rfl) u_m 85 rfl ?_
      refine v_aload_n dX5_number_85 3 rfl 86 rfl ?_
      refine v_iload_n dX5_number_86 2 rfl 87 rfl ?_
      refine v_if_eq dX5_number_87 107 (by decide) 90 rfl (fun c2 => absurd c2 (by decide)) (fun c2 => ?_)
      refine v_iload dX5_number_90 1 rfl 92 rfl ?_
      refine v_i2l dX5_number_92 93 rfl ?_
      refine v_iload_n dX5_number_93 4 rfl 94 rfl ?_
      refine v_i2l dX5_number_94 95 rfl ?_
      refine v_iload_n dX5_number_95 5 rfl 96 rfl ?_
      refine v_i2l dX5_number_96 97 rfl ?_
      refine v_callS (c_X5_in l (nV mt fr (tt - fr) : Int32).toInt64 (0 : Int32).toInt64 (h : Int32).toInt64 (z := ((nV mt fr (tt - fr)) : Int32).toInt) (lo := 0) (hi := (h : Int32).toInt) (i2l_i _) (i2l_i _) (i2l_i _)) kal_X5_in rfl dX5_number_97 qw_743 qw_744 (by decide) [.ref (ga G (93))] (Nat.le_of_ble_eq_true rfl) rfl rfl 100 rfl ?_
      refine v_topi (b2 (inb 0 (h : Int32).toInt (nV mt fr (tt - fr)))) rfl ?_
      refine v_ifb_eq dX5_number_100 107 (by decide) 103 rfl (fun c3 => ?_) (fun c3 => ?_)
      · skip
        refine v_iconst dX5_number_107 0 rfl 108 rfl ?_
        refine v_callV (c_X5_must l htd (by omega) (by omega) false) kal_X5_must rfl dX5_number_108 qw_1041 qw_1043 qw_46 rfl (by decide) (cel_mod G _) (by decide) [] (Nat.le_of_ble_eq_true rfl) rfl rfl 111 rfl ?_
        exact v_vret dX5_number_111 (by rfl) (by simp only [numX, nvX, c1, hD, c3, Bool.and_true, Bool.true_and, Bool.and_false, Bool.false_and, if_true, if_false, Bool.false_eq_true, ↓reduceIte] <;> rfl)
      · skip
        refine v_iconst dX5_number_103 1 rfl 104 rfl ?_
        refine v_goto dX5_number_104 108 (by decide) ?_
        refine v_callV (c_X5_must l htd (by omega) (by omega) true) kal_X5_must rfl dX5_number_108 qw_1041 qw_1043 qw_46 rfl (by decide) (cel_mod G _) (by decide) [] (Nat.le_of_ble_eq_true rfl) rfl rfl 111 rfl ?_
        exact v_vret dX5_number_111 (by rfl) (by simp only [numX, nvX, c1, hD, c3, Bool.and_true, Bool.true_and, Bool.and_false, Bool.false_and, if_true, if_false, Bool.false_eq_true, ↓reduceIte] <;> rfl)
    · skip
      have hD : inb 48 57 (bA mt td fr) = false := by simpa using hD
      refine v_ls (ls2 := [(3, .int 0), (0, .ref (ga G (93))), (1, .int 0), (2, .int h)]) (by rw [hD]; rfl) ?_
      refine v_iconst dX5_number_20 0 rfl 21 rfl ?_
      refine v_istore dX5_number_21 (by decide) [(4, .int 0), (3, .int 0), (0, .ref (ga G (93))), (1, .int 0), (2, .int h)] rfl 23 rfl ?_
      refine v_aload_n dX5_number_23 2 rfl 24 rfl ?_
      refine v_get (i := 8) (ci := 5) (T := TX5) (C := RX5) (N := 16) (v := .int (nI fr)) dX5_number_24 inB5 rfl qw_694 rfl (by decide) (by decide) (cel_mod G _) rfl 27 rfl ?_
      refine v_istore dX5_number_27 (by decide) [(5, .int (nI fr)), (4, .int 0), (3, .int 0), (0, .ref (ga G (93))), (1, .int 0), (2, .int h)] rfl 29 rfl ?_
      refine v_iload dX5_number_29 0 rfl 31 rfl ?_
      refine v_aload_n dX5_number_31 3 rfl 32 rfl ?_
      refine v_get (i := 9) (ci := 5) (T := TX5) (C := RX5) (N := 16) (v := .int (nI tt)) dX5_number_32 inB5 rfl qw_695 rfl (by decide) (by decide) (cel_mod G _) rfl 35 rfl ?_
      refine n_icmp_ge dX5_number_35 fr tt rfl rfl (by omega) (by omega) 79 (by decide) 38 rfl (fun c4 => ?_) (fun c4 => ?_)
      · skip
        refine v_aload_n dX5_number_79 3 rfl 80 rfl ?_
        refine v_iload dX5_number_80 1 rfl 82 rfl ?_
        refine v_put (i := 10) (ci := 5) (T := TX5) (C := RX5) (N := 16) (ty := .int) (w2 := (K, (ms, mk, mo, ma, mf, ik, mt, td, fr, tt, 0, wr, mb, mz, nu, mv))) dX5_number_82 inB5 tyX5 tyX5_ok nmX5 rfl qw_696 rfl rfl rfl rfl rfl (by decide) (by decide) (cel_mod G _) (Nat.le_of_ble_eq_true rfl) u_m 85 rfl ?_
        refine v_aload_n dX5_number_85 3 rfl 86 rfl ?_
        refine v_iload_n dX5_number_86 2 rfl 87 rfl ?_
        refine v_if_eq dX5_number_87 107 (by decide) 90 rfl (fun c5 => ?_) (fun c5 => absurd c5 (by decide))
        refine v_iconst dX5_number_107 0 rfl 108 rfl ?_
        refine v_callV (c_X5_must l htd (by omega) (by omega) false) kal_X5_must rfl dX5_number_108 qw_1041 qw_1043 qw_46 rfl (by decide) (cel_mod G _) (by decide) [] (Nat.le_of_ble_eq_true rfl) rfl rfl 111 rfl ?_
        exact v_vret dX5_number_111 (by rfl) (by simp only [numX, nvX, c1, hD, c4, Nat.not_lt.mpr c4, Bool.and_true, Bool.true_and, Bool.and_false, Bool.false_and, if_true, if_false, Bool.false_eq_true, ↓reduceIte] <;> rfl)
      · skip
        refine v_iload_n dX5_number_38 2 rfl 39 rfl ?_
        refine v_if_eq dX5_number_39 79 (by decide) 42 rfl (fun c6 => ?_) (fun c6 => absurd c6 (by decide))
        refine v_aload_n dX5_number_79 3 rfl 80 rfl ?_
        refine v_iload dX5_number_80 1 rfl 82 rfl ?_
        refine v_put (i := 10) (ci := 5) (T := TX5) (C := RX5) (N := 16) (ty := .int) (w2 := (K, (ms, mk, mo, ma, mf, ik, mt, td, fr, tt, 0, wr, mb, mz, nu, mv))) dX5_number_82 inB5 tyX5 tyX5_ok nmX5 rfl qw_696 rfl rfl rfl rfl rfl (by decide) (by decide) (cel_mod G _) (Nat.le_of_ble_eq_true rfl) u_m 85 rfl ?_
        refine v_aload_n dX5_number_85 3 rfl 86 rfl ?_
        refine v_iload_n dX5_number_86 2 rfl 87 rfl ?_
        refine v_if_eq dX5_number_87 107 (by decide) 90 rfl (fun c7 => ?_) (fun c7 => absurd c7 (by decide))
        refine v_iconst dX5_number_107 0 rfl 108 rfl ?_
        refine v_callV (c_X5_must l htd (by omega) (by omega) false) kal_X5_must rfl dX5_number_108 qw_1041 qw_1043 qw_46 rfl (by decide) (cel_mod G _) (by decide) [] (Nat.le_of_ble_eq_true rfl) rfl rfl 111 rfl ?_
        exact v_vret dX5_number_111 (by rfl) (by simp only [numX, nvX, c1, hD, c4, Nat.not_le.mpr c4, Bool.and_true, Bool.true_and, Bool.and_false, Bool.false_and, if_true, if_false, Bool.false_eq_true, ↓reduceIte] <;> rfl)
  · skip
    exact v_vret dX5_number_7 (by rfl) (by simp only [numX, nvX, c1, Ne.symm c1, Bool.and_true, Bool.true_and, Bool.and_false, Bool.false_and, if_true, if_false, Bool.false_eq_true, ↓reduceIte] <;> rfl)
