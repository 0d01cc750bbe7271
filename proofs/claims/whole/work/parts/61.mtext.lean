set_option maxHeartbeats 1000000 in
set_option maxRecDepth 4000 in
theorem lp_mfeed (l : Launch) {G : Gl} {X : VX} {ov : Option Value} {wF : WS} {K : CS} {ms : Nat → Int32} {mk : Nat → Int32} {mo : Nat → Int32} {ma : Nat → Int32} {mf : Nat → Int32} {ik : Int32} {mt : Nat → Int32} {td : Nat} {fr : Nat} {tt : Nat} {vl : Int32} {wr : Int32} {mb : Nat → Int32} {mz : Nat → Int32} {nu : Nat → Int64} {mv : Nat → Int64} (x : Int32) {jb : Nat} : ∀ (m : Nat) (s : Rw × Nat), s.2 + m ≤ 120 → V l X 1 25 cX5_feed 4 RX5 (some .int) G ov wF (K, (ms, mk, mo, ma, mf, ik, (mfR x m s).1, (mfR x m s).2, fr, tt, vl, wr, mb, mz, nu, mv)) 80 [(3, .int (nI 0 + (-1))), (0, .ref (ga G (93))), (1, .int x), (2, .int (nI jb))] [] → V l X 1 25 cX5_feed 4 RX5 (some .int) G ov wF (K, (ms, mk, mo, ma, mf, ik, s.1, s.2, fr, tt, vl, wr, mb, mz, nu, mv)) 41 [(3, .int (nI m + (-1))), (0, .ref (ga G (93))), (1, .int x), (2, .int (nI jb))] [] := by
  intro m
  induction m with
  | zero =>
    intro s hm hk
    refine v_iload_n dX5_feed_41 0 rfl 42 rfl ?_
    refine v_if_lt dX5_feed_42 80 (by decide) 45 rfl (fun c1 => ?_) (fun c1 => absurd c1 (by decide))
    exact hk
  | succ m ih =>
    intro s hm hk
    refine v_ls (ls2 := [(3, .int (nI m)), (0, .ref (ga G (93))), (1, .int x), (2, .int (nI jb))]) (by rw [show nI (m + 1) + (-1) = nI m from pk_m1 m]) ?_
    refine v_iload_n dX5_feed_41 0 rfl 42 rfl ?_
    refine v_if_lt dX5_feed_42 80 (by decide) 45 rfl (fun c1 => absurd c1 (fun q => by have h9 := Int32.lt_iff_toInt_lt.mp q; rw [nI_toInt (by omega)] at h9; have e0 : (0 : Int32).toInt = 0 := rfl; omega)) (fun c1 => ?_)
    refine v_aload_n dX5_feed_45 1 rfl 46 rfl ?_
    refine v_get (i := 6) (ci := 5) (T := TX5) (C := RX5) (N := 16) (v := .ref (ga G (99))) dX5_feed_46 inB5 rfl qw_692 rfl (by decide) (by decide) (cel_mod G _) rfl 49 rfl ?_
    refine v_aload_n dX5_feed_49 1 rfl 50 rfl ?_
    refine v_get (i := 7) (ci := 5) (T := TX5) (C := RX5) (N := 16) (v := .int (nI s.2)) dX5_feed_50 inB5 rfl qw_693 rfl (by decide) (by decide) (cel_mod G _) rfl 53 rfl ?_
    refine v_iload_n dX5_feed_53 2 rfl 54 rfl ?_
    refine v_bipush dX5_feed_54 8 rfl 56 rfl ?_
    refine v_iload_n dX5_feed_56 0 rfl 57 rfl ?_
    refine n_imul dX5_feed_57 8 m rfl rfl 58 rfl ?_
    refine v_ishr dX5_feed_58 59 rfl ?_
    refine v_sipush dX5_feed_59 255 rfl 62 rfl ?_
    refine v_iand dX5_feed_62 63 rfl ?_
    refine v_iast (w2 := (K, (ms, mk, mo, ma, mf, ik, upd s.1 s.2 ((x >>> ((nI (8 * m)) &&& 31)) &&& 255), s.2, fr, tt, vl, wr, mb, mz, nu, mv))) dX5_feed_63 (by decide) (cel_mt G _) s.2 rfl (by omega) (by decide) u_mt 64 rfl ?_
    refine v_aload_n dX5_feed_64 1 rfl 65 rfl ?_
    refine v_dup dX5_feed_65 rfl 66 rfl ?_
    refine v_get (i := 7) (ci := 5) (T := TX5) (C := RX5) (N := 16) (v := .int (nI s.2)) dX5_feed_66 inB5 rfl qw_693 rfl (by decide) (by decide) (cel_mod G _) rfl 69 rfl ?_
    refine v_iconst dX5_feed_69 1 rfl 70 rfl ?_
    refine n_iadd dX5_feed_70 s.2 1 rfl rfl 71 rfl ?_
    refine v_put (i := 7) (ci := 5) (T := TX5) (C := RX5) (N := 16) (ty := .int) (w2 := (K, (ms, mk, mo, ma, mf, ik, upd s.1 s.2 ((x >>> ((nI (8 * m)) &&& 31)) &&& 255), s.2 + 1, fr, tt, vl, wr, mb, mz, nu, mv))) dX5_feed_71 inB5 tyX5 tyX5_ok nmX5 rfl qw_693 rfl rfl rfl rfl rfl (by decide) (by decide) (cel_mod G _) (Nat.le_of_ble_eq_true rfl) u_m 74 rfl ?_
    refine v_iinc dX5_feed_74 0 rfl ((nI m) + (-1)) rfl (by decide) [(3, .int ((nI m) + (-1))), (0, .ref (ga G (93))), (1, .int x), (2, .int (nI jb))] rfl 77 rfl ?_
    refine v_goto dX5_feed_77 41 (by decide) ?_
    exact ih (upd s.1 s.2 ((x >>> (nI (8 * m) &&& 31)) &&& 255), s.2 + 1) (by dsimp only; omega) hk
set_option maxHeartbeats 1000000 in
set_option maxRecDepth 4000 in
theorem c_X5_feed (l : Launch) {G : Gl} {K : CS} {M : MS} (htd : M.2.2.2.2.2.2.2.1 ≤ 120) (a b : Int32) : Ct l G yX5_feed cX5_feed 4 (some .int) 1 25 [.ref (ga G (93)), .int a, .int b] (K, M) (some (.int (qFeed M a b).1)) (K, (qFeed M a b).2) := by
  obtain ⟨ms, mk, mo, ma, mf, ik, mt, td, fr, tt, vl, wr, mb, mz, nu, mv⟩ := M
  dsimp only at htd
  refine Ct.of (own := RX5) (by decide) rfl (Nat.le_of_ble_eq_true rfl) rfl (fun X => ?_)
  refine v_iload_n dX5_feed_0 2 rfl 1 rfl ?_
  refine v_i2l dX5_feed_1 2 rfl ?_
  refine v_lconst dX5_feed_2 1 rfl 3 rfl ?_
  refine v_ldc2 dX5_feed_3 4 qw_986 6 rfl ?_
  refine v_callS (c_X5_in l (b : Int32).toInt64 1 4 (z := (b : Int32).toInt) (lo := 1) (hi := 4) (i2l_i _) rfl rfl) kal_X5_in rfl dX5_feed_6 qw_743 qw_744 (by decide) [] (Nat.le_of_ble_eq_true rfl) rfl rfl 9 rfl ?_
  refine v_topi (b2 (inb 1 4 b)) rfl ?_
  refine v_ifb_ne dX5_feed_9 19 (by decide) 12 rfl (fun c1 => ?_) (fun c1 => ?_)
  · skip
    obtain ⟨jb, h1jb, h2jb, rfl⟩ := inb_ix (lo := 1) (hi := 4) c1
    have ejb : (nI jb).toNatClampNeg = jb := nI_clamp (by omega)
    refine v_aload_n dX5_feed_19 0 rfl 20 rfl ?_
    refine v_get (i := 7) (ci := 5) (T := TX5) (C := RX5) (N := 16) (v := .int (nI td)) dX5_feed_20 inB5 rfl qw_693 rfl (by decide) (by decide) (cel_mod G _) rfl 23 rfl ?_
    refine v_iload_n dX5_feed_23 2 rfl 24 rfl ?_
    refine n_iadd dX5_feed_24 td jb rfl rfl 25 rfl ?_
    refine v_bipush dX5_feed_25 120 rfl 27 rfl ?_
    refine n_icmp_le dX5_feed_27 (td + jb) 120 rfl rfl (by omega) (by omega) 37 (by decide) 30 rfl (fun c2 => ?_) (fun c2 => ?_)
    · skip
      refine v_iload_n dX5_feed_37 2 rfl 38 rfl ?_
      refine v_iconst dX5_feed_38 1 rfl 39 rfl ?_
      refine v_isub dX5_feed_39 40 rfl ?_
      refine v_istore_n dX5_feed_40 3 rfl (by decide) [(3, .int ((nI jb) - 1)), (0, .ref (ga G (93))), (1, .int a), (2, .int (nI jb))] rfl 41 rfl ?_
      refine v_ls (ls2 := [(3, .int (nI jb + (-1))), (0, .ref (ga G (93))), (1, .int a), (2, .int (nI jb))]) (by rw [show nI jb - 1 = nI jb + (-1) from Int32.sub_eq_add_neg ..]) ?_
      refine lp_mfeed l (mt := mt) (td := td) (jb := jb) a jb (mt, td) (by dsimp only; omega) ?_
      refine v_aload_n dX5_feed_80 1 rfl 81 rfl ?_
      refine v_get (i := 7) (ci := 5) (T := TX5) (C := RX5) (N := 16) (v := .int (nI (mfR a jb (mt, td)).2)) dX5_feed_81 inB5 rfl qw_693 rfl (by decide) (by decide) (cel_mod G _) rfl 84 rfl ?_
      exact v_iret dX5_feed_84 (by simp only [qFeed, c1, ejb, Bool.and_self, Bool.and_true, Bool.true_and, Bool.and_false, Bool.false_and, if_true, if_false, Bool.false_eq_true, ↓reduceIte] <;> simp [mFind, xs, xa, fnd0, fnd1, fnd2, fnd3, fnd4, fnd5, fnd6, c2, Nat.not_lt.mpr c2, ejb]) (by simp only [qFeed, c1, ejb, Bool.and_self, Bool.and_true, Bool.true_and, Bool.and_false, Bool.false_and, if_true, if_false, Bool.false_eq_true, ↓reduceIte] <;> simp [mFind, xs, xa, fnd0, fnd1, fnd2, fnd3, fnd4, fnd5, fnd6, c2, Nat.not_lt.mpr c2, ejb])
    · skip
      refine v_aload_n dX5_feed_30 0 rfl 31 rfl ?_
      refine v_ldc dX5_feed_31 (-1000000002) qw_796 33 rfl ?_
      refine v_callV (c_X5_finds l (k := 1) (by decide) (-1000000002) (by decide)) kal_X5_finds rfl dX5_feed_33 qw_756 qw_758 qw_15 rfl (by decide) (cel_mod G _) (by decide) [] (Nat.le_of_ble_eq_true rfl) rfl rfl 36 rfl ?_
      exact v_iret dX5_feed_36 (by simp only [qFeed, c1, ejb, Bool.and_self, Bool.and_true, Bool.true_and, Bool.and_false, Bool.false_and, if_true, if_false, Bool.false_eq_true, ↓reduceIte] <;> simp [mFind, xs, xa, fnd0, fnd1, fnd2, fnd3, fnd4, fnd5, fnd6, c2, Nat.not_le.mpr c2, ejb]) (by simp only [qFeed, c1, ejb, Bool.and_self, Bool.and_true, Bool.true_and, Bool.and_false, Bool.false_and, if_true, if_false, Bool.false_eq_true, ↓reduceIte] <;> simp [mFind, xs, xa, fnd0, fnd1, fnd2, fnd3, fnd4, fnd5, fnd6, c2, Nat.not_le.mpr c2, ejb])
  · skip
    refine v_aload_n dX5_feed_12 0 rfl 13 rfl ?_
    refine v_ldc dX5_feed_13 (-1000000001) qw_755 15 rfl ?_
    refine v_callV (c_X5_finds l (k := 0) (by decide) (-1000000001) (by decide)) kal_X5_finds rfl dX5_feed_15 qw_756 qw_758 qw_15 rfl (by decide) (cel_mod G _) (by decide) [] (Nat.le_of_ble_eq_true rfl) rfl rfl 18 rfl ?_
    exact v_iret dX5_feed_18 (by simp only [qFeed, c1, Bool.and_self, Bool.and_true, Bool.true_and, Bool.and_false, Bool.false_and, if_true, if_false, Bool.false_eq_true, ↓reduceIte] <;> simp [mFind, xs, xa, fnd0, fnd1, fnd2, fnd3, fnd4, fnd5, fnd6, true_and]) (by simp only [qFeed, c1, Bool.and_self, Bool.and_true, Bool.true_and, Bool.and_false, Bool.false_and, if_true, if_false, Bool.false_eq_true, ↓reduceIte] <;> simp [mFind, xs, xa, fnd0, fnd1, fnd2, fnd3, fnd4, fnd5, fnd6, true_and])
set_option maxHeartbeats 1000000 in
set_option maxRecDepth 4000 in
theorem c_X5_wipe (l : Launch) {G : Gl} {K : CS} {M : MS}  : Ct l G yX5_wipe cX5_wipe 2 (some .int) 0 0 [.ref (ga G (93))] (K, M) (some (.int (qWipe M).1)) (K, (qWipe M).2) := by
  obtain ⟨ms, mk, mo, ma, mf, ik, mt, td, fr, tt, vl, wr, mb, mz, nu, mv⟩ := M
  refine Ct.of (own := RX5) (by decide) rfl (Nat.le_of_ble_eq_true rfl) rfl (fun X => ?_)
  refine v_aload_n dX5_wipe_0 0 rfl 1 rfl ?_
  refine v_get (i := 7) (ci := 5) (T := TX5) (C := RX5) (N := 16) (v := .int (nI td)) dX5_wipe_1 inB5 rfl qw_693 rfl (by decide) (by decide) (cel_mod G _) rfl 4 rfl ?_
  refine v_istore_n dX5_wipe_4 1 rfl (by decide) [(1, .int (nI td)), (0, .ref (ga G (93)))] rfl 5 rfl ?_
  refine v_aload_n dX5_wipe_5 1 rfl 6 rfl ?_
  refine v_iconst dX5_wipe_6 0 rfl 7 rfl ?_
  refine v_put (i := 7) (ci := 5) (T := TX5) (C := RX5) (N := 16) (ty := .int) (w2 := (K, (ms, mk, mo, ma, mf, ik, mt, 0, fr, tt, vl, wr, mb, mz, nu, mv))) dX5_wipe_7 inB5 tyX5 tyX5_ok nmX5 rfl qw_693 rfl rfl rfl rfl rfl (by decide) (by decide) (cel_mod G _) (Nat.le_of_ble_eq_true rfl) u_m 10 rfl ?_
  refine v_iload_n dX5_wipe_10 0 rfl 11 rfl ?_
  exact v_iret dX5_wipe_11 (by rfl) (by rfl)
set_option maxHeartbeats 1000000 in
set_option maxRecDepth 4000 in
theorem c_X5_byteAt (l : Launch) {G : Gl} {K : CS} {ms : Nat → Int32} {mk : Nat → Int32} {mo : Nat → Int32} {ma : Nat → Int32} {mf : Nat → Int32} {ik : Int32} {mt : Nat → Int32} {td : Nat} {fr : Nat} {tt : Nat} {vl : Int32} {wr : Int32} {mb : Nat → Int32} {mz : Nat → Int32} {nu : Nat → Int64} {mv : Nat → Int64} {i : Nat} (htd : td ≤ 120) (hi9 : i < 2 ^ 20) : Ct l G yX5_byteAt cX5_byteAt 2 (some .int) 0 0 [.ref (ga G (93)), .int (nI i)] (K, (ms, mk, mo, ma, mf, ik, mt, td, fr, tt, vl, wr, mb, mz, nu, mv)) (some (.int (bA mt td i))) (K, (ms, mk, mo, ma, mf, ik, mt, td, fr, tt, vl, wr, mb, mz, nu, mv)) := by
  refine Ct.of (own := RX5) (by decide) rfl (Nat.le_of_ble_eq_true rfl) rfl (fun X => ?_)
  refine v_iload_n dX5_byteAt_0 1 rfl 1 rfl ?_
  refine v_aload_n dX5_byteAt_1 0 rfl 2 rfl ?_
  refine v_get (i := 7) (ci := 5) (T := TX5) (C := RX5) (N := 16) (v := .int (nI td)) dX5_byteAt_2 inB5 rfl qw_693 rfl (by decide) (by decide) (cel_mod G _) rfl 5 rfl ?_
  refine n_icmp_ge dX5_byteAt_5 i td rfl rfl (by omega) (by omega) 17 (by decide) 8 rfl (fun c1 => ?_) (fun c1 => ?_)
  · skip
    refine v_iconst dX5_byteAt_17 (-1) rfl 18 rfl ?_
    exact v_iret dX5_byteAt_18 (by simp [bA, c1, Nat.not_lt.mpr c1]) (by rfl)
  · skip
    refine v_aload_n dX5_byteAt_8 0 rfl 9 rfl ?_
    refine v_get (i := 6) (ci := 5) (T := TX5) (C := RX5) (N := 16) (v := .ref (ga G (99))) dX5_byteAt_9 inB5 rfl qw_692 rfl (by decide) (by decide) (cel_mod G _) rfl 12 rfl ?_
    refine v_iload_n dX5_byteAt_12 1 rfl 13 rfl ?_
    refine v_iald (a := mt) dX5_byteAt_13 (by decide) (cel_mt G _) i rfl (by omega) (by decide) 14 rfl ?_
    refine v_goto dX5_byteAt_14 18 (by decide) ?_
    exact v_iret dX5_byteAt_18 (by simp [bA, c1, Nat.not_le.mpr c1]) (by rfl)
set_option maxHeartbeats 1000000 in
set_option maxRecDepth 4000 in
theorem lp_mtok1 (l : Launch) {G : Gl} {X : VX} {ov : Option Value} {wF : WS} {K : CS} {ms : Nat → Int32} {mk : Nat → Int32} {mo : Nat → Int32} {ma : Nat → Int32} {mf : Nat → Int32} {ik : Int32} {mt : Nat → Int32} {td : Nat} {fr : Nat} {tt : Nat} {vl : Int32} {wr : Int32} {mb : Nat → Int32} {mz : Nat → Int32} {nu : Nat → Int64} {mv : Nat → Int64} (htd : td ≤ 120) : ∀ n i : Nat, td - i = n → i ≤ 121 → V l X 2 45 cX5_token 3 RX5 none G ov wF (K, (ms, mk, mo, ma, mf, ik, mt, td, (skW (mSp mt td) n i), tt, vl, wr, mb, mz, nu, mv)) 34 [(0, .ref (ga G (93)))] [] → V l X 2 45 cX5_token 3 RX5 none G ov wF (K, (ms, mk, mo, ma, mf, ik, mt, td, i, tt, vl, wr, mb, mz, nu, mv)) 8 [(0, .ref (ga G (93)))] [] := by
  intro n
  induction n with
  | zero =>
    intro i hin hi21 hk
    refine v_aload_n dX5_token_8 0 rfl 9 rfl ?_
    refine v_aload_n dX5_token_9 0 rfl 10 rfl ?_
    refine v_get (i := 8) (ci := 5) (T := TX5) (C := RX5) (N := 16) (v := .int (nI i)) dX5_token_10 inB5 rfl qw_694 rfl (by decide) (by decide) (cel_mod G _) rfl 13 rfl ?_
    refine v_callV (c_X5_byteAt l (i := i) (by omega) (by omega)) kal_X5_byteAt rfl dX5_token_13 qw_1003 qw_1005 qw_41 rfl (by decide) (cel_mod G _) (by decide) [] (Nat.le_of_ble_eq_true rfl) rfl rfl 16 rfl ?_
    refine v_bipush dX5_token_16 32 rfl 18 rfl ?_
    refine v_icmp_ne dX5_token_18 34 (by decide) 21 rfl (fun c1 => ?_) (fun c1 => ?_)
    · skip
      exact hk
    · skip
      refine v_aload_n dX5_token_21 0 rfl 22 rfl ?_
      refine v_dup dX5_token_22 rfl 23 rfl ?_
      refine v_get (i := 8) (ci := 5) (T := TX5) (C := RX5) (N := 16) (v := .int (nI i)) dX5_token_23 inB5 rfl qw_694 rfl (by decide) (by decide) (cel_mod G _) rfl 26 rfl ?_
      refine v_iconst dX5_token_26 1 rfl 27 rfl ?_
      refine n_iadd dX5_token_27 i 1 rfl rfl 28 rfl ?_
      refine v_put (i := 8) (ci := 5) (T := TX5) (C := RX5) (N := 16) (ty := .int) (w2 := (K, (ms, mk, mo, ma, mf, ik, mt, td, i + 1, tt, vl, wr, mb, mz, nu, mv))) dX5_token_28 inB5 tyX5 tyX5_ok nmX5 rfl qw_694 rfl rfl rfl rfl rfl (by decide) (by decide) (cel_mod G _) (Nat.le_of_ble_eq_true rfl) u_m 31 rfl ?_
      refine v_goto dX5_token_31 8 (by decide) ?_
      exact absurd c1 (by rw [bA_o (by omega)]; decide)
  | succ n ih =>
    intro i hin hi21 hk
    refine v_aload_n dX5_token_8 0 rfl 9 rfl ?_
    refine v_aload_n dX5_token_9 0 rfl 10 rfl ?_
    refine v_get (i := 8) (ci := 5) (T := TX5) (C := RX5) (N := 16) (v := .int (nI i)) dX5_token_10 inB5 rfl qw_694 rfl (by decide) (by decide) (cel_mod G _) rfl 13 rfl ?_
    refine v_callV (c_X5_byteAt l (i := i) (by omega) (by omega)) kal_X5_byteAt rfl dX5_token_13 qw_1003 qw_1005 qw_41 rfl (by decide) (cel_mod G _) (by decide) [] (Nat.le_of_ble_eq_true rfl) rfl rfl 16 rfl ?_
    refine v_bipush dX5_token_16 32 rfl 18 rfl ?_
    refine v_icmp_ne dX5_token_18 34 (by decide) 21 rfl (fun c1 => ?_) (fun c1 => ?_)
    · skip
      rw [skW_f (show (mSp mt td) i = false from by simp [mSp, c1, Ne.symm c1])] at hk
      exact hk
    · skip
      refine v_aload_n dX5_token_21 0 rfl 22 rfl ?_
      refine v_dup dX5_token_22 rfl 23 rfl ?_
      refine v_get (i := 8) (ci := 5) (T := TX5) (C := RX5) (N := 16) (v := .int (nI i)) dX5_token_23 inB5 rfl qw_694 rfl (by decide) (by decide) (cel_mod G _) rfl 26 rfl ?_
      refine v_iconst dX5_token_26 1 rfl 27 rfl ?_
      refine n_iadd dX5_token_27 i 1 rfl rfl 28 rfl ?_
      refine v_put (i := 8) (ci := 5) (T := TX5) (C := RX5) (N := 16) (ty := .int) (w2 := (K, (ms, mk, mo, ma, mf, ik, mt, td, i + 1, tt, vl, wr, mb, mz, nu, mv))) dX5_token_28 inB5 tyX5 tyX5_ok nmX5 rfl qw_694 rfl rfl rfl rfl rfl (by decide) (by decide) (cel_mod G _) (Nat.le_of_ble_eq_true rfl) u_m 31 rfl ?_
      refine v_goto dX5_token_31 8 (by decide) ?_
      rw [skW_t (show (mSp mt td) i = true from by simp [mSp, c1])] at hk
      exact ih (i + 1) (by omega) (by omega) hk
set_option maxHeartbeats 1000000 in
set_option maxRecDepth 4000 in
theorem lp_mtok2 (l : Launch) {G : Gl} {X : VX} {ov : Option Value} {wF : WS} {K : CS} {ms : Nat → Int32} {mk : Nat → Int32} {mo : Nat → Int32} {ma : Nat → Int32} {mf : Nat → Int32} {ik : Int32} {mt : Nat → Int32} {td : Nat} {fr : Nat} {tt : Nat} {vl : Int32} {wr : Int32} {mb : Nat → Int32} {mz : Nat → Int32} {nu : Nat → Int64} {mv : Nat → Int64} (htd : td ≤ 120) (L D : Bool) : ∀ n i : Nat, td - i = n → i ≤ 121 → V l X 2 45 cX5_token 3 RX5 none G ov wF (K, (ms, mk, mo, ma, mf, ik, mt, td, fr, (skW (mTo mt td L D) n i), vl, wr, mb, mz, nu, mv)) 135 [(1, .int (b2 L)), (2, .int (b2 D)), (0, .ref (ga G (93)))] [] → V l X 2 45 cX5_token 3 RX5 none G ov wF (K, (ms, mk, mo, ma, mf, ik, mt, td, fr, i, vl, wr, mb, mz, nu, mv)) 86 [(1, .int (b2 L)), (2, .int (b2 D)), (0, .ref (ga G (93)))] [] := by
  intro n
  induction n with
  | zero =>
    intro i hin hi21 hk
    refine v_iload_n dX5_token_86 0 rfl 87 rfl ?_
    refine v_ifb_eq dX5_token_87 104 (by decide) 90 rfl (fun c1 => ?_) (fun c1 => ?_)
    · skip
      refine v_iload_n dX5_token_104 1 rfl 105 rfl ?_
      refine v_ifb_eq dX5_token_105 135 (by decide) 108 rfl (fun c2 => ?_) (fun c2 => ?_)
      · skip
        exact hk
      · skip
        refine v_aload_n dX5_token_108 2 rfl 109 rfl ?_
        refine v_aload_n dX5_token_109 2 rfl 110 rfl ?_
        refine v_get (i := 9) (ci := 5) (T := TX5) (C := RX5) (N := 16) (v := .int (nI i)) dX5_token_110 inB5 rfl qw_695 rfl (by decide) (by decide) (cel_mod G _) rfl 113 rfl ?_
        refine v_callV (c_X5_byteAt l (i := i) (by omega) (by omega)) kal_X5_byteAt rfl dX5_token_113 qw_1003 qw_1005 qw_41 rfl (by decide) (cel_mod G _) (by decide) [] (Nat.le_of_ble_eq_true rfl) rfl rfl 116 rfl ?_
        refine v_callS (c_X5_isDigit l (bA mt td i)) kal_X5_isDigit rfl dX5_token_116 qw_1012 qw_1013 (by decide) [] (Nat.le_of_ble_eq_true rfl) rfl rfl 119 rfl ?_
        refine v_ifb_eq dX5_token_119 135 (by decide) 122 rfl (fun c3 => ?_) (fun c3 => ?_)
        · skip
          exact hk
        · skip
          refine v_aload_n dX5_token_122 2 rfl 123 rfl ?_
          refine v_dup dX5_token_123 rfl 124 rfl ?_
          refine v_get (i := 9) (ci := 5) (T := TX5) (C := RX5) (N := 16) (v := .int (nI i)) dX5_token_124 inB5 rfl qw_695 rfl (by decide) (by decide) (cel_mod G _) rfl 127 rfl ?_
          refine v_iconst dX5_token_127 1 rfl 128 rfl ?_
          refine n_iadd dX5_token_128 i 1 rfl rfl 129 rfl ?_
          refine v_put (i := 9) (ci := 5) (T := TX5) (C := RX5) (N := 16) (ty := .int) (w2 := (K, (ms, mk, mo, ma, mf, ik, mt, td, fr, i + 1, vl, wr, mb, mz, nu, mv))) dX5_token_129 inB5 tyX5 tyX5_ok nmX5 rfl qw_695 rfl rfl rfl rfl rfl (by decide) (by decide) (cel_mod G _) (Nat.le_of_ble_eq_true rfl) u_m 132 rfl ?_
          refine v_goto dX5_token_132 86 (by decide) ?_
          exact absurd c3 (by rw [bA_o (by omega)]; decide)
    · skip
      refine v_aload_n dX5_token_90 2 rfl 91 rfl ?_
      refine v_aload_n dX5_token_91 2 rfl 92 rfl ?_
      refine v_get (i := 9) (ci := 5) (T := TX5) (C := RX5) (N := 16) (v := .int (nI i)) dX5_token_92 inB5 rfl qw_695 rfl (by decide) (by decide) (cel_mod G _) rfl 95 rfl ?_
      refine v_callV (c_X5_byteAt l (i := i) (by omega) (by omega)) kal_X5_byteAt rfl dX5_token_95 qw_1003 qw_1005 qw_41 rfl (by decide) (cel_mod G _) (by decide) [] (Nat.le_of_ble_eq_true rfl) rfl rfl 98 rfl ?_
      refine v_callS (c_X5_isLetter l (bA mt td i)) kal_X5_isLetter rfl dX5_token_98 qw_1007 qw_1008 (by decide) [] (Nat.le_of_ble_eq_true rfl) rfl rfl 101 rfl ?_
      refine v_ifb_ne dX5_token_101 122 (by decide) 104 rfl (fun c4 => ?_) (fun c4 => ?_)
      · skip
        refine v_aload_n dX5_token_122 2 rfl 123 rfl ?_
        refine v_dup dX5_token_123 rfl 124 rfl ?_
        refine v_get (i := 9) (ci := 5) (T := TX5) (C := RX5) (N := 16) (v := .int (nI i)) dX5_token_124 inB5 rfl qw_695 rfl (by decide) (by decide) (cel_mod G _) rfl 127 rfl ?_
        refine v_iconst dX5_token_127 1 rfl 128 rfl ?_
        refine n_iadd dX5_token_128 i 1 rfl rfl 129 rfl ?_
        refine v_put (i := 9) (ci := 5) (T := TX5) (C := RX5) (N := 16) (ty := .int) (w2 := (K, (ms, mk, mo, ma, mf, ik, mt, td, fr, i + 1, vl, wr, mb, mz, nu, mv))) dX5_token_129 inB5 tyX5 tyX5_ok nmX5 rfl qw_695 rfl rfl rfl rfl rfl (by decide) (by decide) (cel_mod G _) (Nat.le_of_ble_eq_true rfl) u_m 132 rfl ?_
        refine v_goto dX5_token_132 86 (by decide) ?_
        exact absurd c4 (by rw [bA_o (by omega)]; decide)
      · skip
        refine v_iload_n dX5_token_104 1 rfl 105 rfl ?_
        refine v_ifb_eq dX5_token_105 135 (by decide) 108 rfl (fun c5 => ?_) (fun c5 => ?_)
        · skip
          exact hk
        · skip
          refine v_aload_n dX5_token_108 2 rfl 109 rfl ?_
          refine v_aload_n dX5_token_109 2 rfl 110 rfl ?_
          refine v_get (i := 9) (ci := 5) (T := TX5) (C := RX5) (N := 16) (v := .int (nI i)) dX5_token_110 inB5 rfl qw_695 rfl (by decide) (by decide) (cel_mod G _) rfl 113 rfl ?_
          refine v_callV (c_X5_byteAt l (i := i) (by omega) (by omega)) kal_X5_byteAt rfl dX5_token_113 qw_1003 qw_1005 qw_41 rfl (by decide) (cel_mod G _) (by decide) [] (Nat.le_of_ble_eq_true rfl) rfl rfl 116 rfl ?_
          refine v_callS (c_X5_isDigit l (bA mt td i)) kal_X5_isDigit rfl dX5_token_116 qw_1012 qw_1013 (by decide) [] (Nat.le_of_ble_eq_true rfl) rfl rfl 119 rfl ?_
          refine v_ifb_eq dX5_token_119 135 (by decide) 122 rfl (fun c6 => ?_) (fun c6 => ?_)
          · skip
            exact hk
          · skip
            refine v_aload_n dX5_token_122 2 rfl 123 rfl ?_
            refine v_dup dX5_token_123 rfl 124 rfl ?_
            refine v_get (i := 9) (ci := 5) (T := TX5) (C := RX5) (N := 16) (v := .int (nI i)) dX5_token_124 inB5 rfl qw_695 rfl (by decide) (by decide) (cel_mod G _) rfl 127 rfl ?_
            refine v_iconst dX5_token_127 1 rfl 128 rfl ?_
            refine n_iadd dX5_token_128 i 1 rfl rfl 129 rfl ?_
            refine v_put (i := 9) (ci := 5) (T := TX5) (C := RX5) (N := 16) (ty := .int) (w2 := (K, (ms, mk, mo, ma, mf, ik, mt, td, fr, i + 1, vl, wr, mb, mz, nu, mv))) dX5_token_129 inB5 tyX5 tyX5_ok nmX5 rfl qw_695 rfl rfl rfl rfl rfl (by decide) (by decide) (cel_mod G _) (Nat.le_of_ble_eq_true rfl) u_m 132 rfl ?_
            refine v_goto dX5_token_132 86 (by decide) ?_
            exact absurd c6 (by rw [bA_o (by omega)]; decide)
  | succ n ih =>
    intro i hin hi21 hk
    refine v_iload_n dX5_token_86 0 rfl 87 rfl ?_
    refine v_ifb_eq dX5_token_87 104 (by decide) 90 rfl (fun c1 => ?_) (fun c1 => ?_)
    · skip
      refine v_iload_n dX5_token_104 1 rfl 105 rfl ?_
      refine v_ifb_eq dX5_token_105 135 (by decide) 108 rfl (fun c2 => ?_) (fun c2 => ?_)
      · skip
        rw [skW_f (show (mTo mt td L D) i = false from by simp [mTo, c1, c2])] at hk
        exact hk
      · skip
        refine v_aload_n dX5_token_108 2 rfl 109 rfl ?_
        refine v_aload_n dX5_token_109 2 rfl 110 rfl ?_
        refine v_get (i := 9) (ci := 5) (T := TX5) (C := RX5) (N := 16) (v := .int (nI i)) dX5_token_110 inB5 rfl qw_695 rfl (by decide) (by decide) (cel_mod G _) rfl 113 rfl ?_
        refine v_callV (c_X5_byteAt l (i := i) (by omega) (by omega)) kal_X5_byteAt rfl dX5_token_113 qw_1003 qw_1005 qw_41 rfl (by decide) (cel_mod G _) (by decide) [] (Nat.le_of_ble_eq_true rfl) rfl rfl 116 rfl ?_
        refine v_callS (c_X5_isDigit l (bA mt td i)) kal_X5_isDigit rfl dX5_token_116 qw_1012 qw_1013 (by decide) [] (Nat.le_of_ble_eq_true rfl) rfl rfl 119 rfl ?_
        refine v_ifb_eq dX5_token_119 135 (by decide) 122 rfl (fun c3 => ?_) (fun c3 => ?_)
        · skip
          rw [skW_f (show (mTo mt td L D) i = false from by simp [mTo, c1, c2, c3])] at hk
          exact hk
        · skip
          refine v_aload_n dX5_token_122 2 rfl 123 rfl ?_
          refine v_dup dX5_token_123 rfl 124 rfl ?_
          refine v_get (i := 9) (ci := 5) (T := TX5) (C := RX5) (N := 16) (v := .int (nI i)) dX5_token_124 inB5 rfl qw_695 rfl (by decide) (by decide) (cel_mod G _) rfl 127 rfl ?_
          refine v_iconst dX5_token_127 1 rfl 128 rfl ?_
          refine n_iadd dX5_token_128 i 1 rfl rfl 129 rfl ?_
          refine v_put (i := 9) (ci := 5) (T := TX5) (C := RX5) (N := 16) (ty := .int) (w2 := (K, (ms, mk, mo, ma, mf, ik, mt, td, fr, i + 1, vl, wr, mb, mz, nu, mv))) dX5_token_129 inB5 tyX5 tyX5_ok nmX5 rfl qw_695 rfl rfl rfl rfl rfl (by decide) (by decide) (cel_mod G _) (Nat.le_of_ble_eq_true rfl) u_m 132 rfl ?_
          refine v_goto dX5_token_132 86 (by decide) ?_
          rw [skW_t (show (mTo mt td L D) i = true from by simp [mTo, c1, c2, c3])] at hk
          exact ih (i + 1) (by omega) (by omega) hk
    · skip
      refine v_aload_n dX5_token_90 2 rfl 91 rfl ?_
      refine v_aload_n dX5_token_91 2 rfl 92 rfl ?_
      refine v_get (i := 9) (ci := 5) (T := TX5) (C := RX5) (N := 16) (v := .int (nI i)) dX5_token_92 inB5 rfl qw_695 rfl (by decide) (by decide) (cel_mod G _) rfl 95 rfl ?_
      refine v_callV (c_X5_byteAt l (i := i) (by omega) (by omega)) kal_X5_byteAt rfl dX5_token_95 qw_1003 qw_1005 qw_41 rfl (by decide) (cel_mod G _) (by decide) [] (Nat.le_of_ble_eq_true rfl) rfl rfl 98 rfl ?_
      refine v_callS (c_X5_isLetter l (bA mt td i)) kal_X5_isLetter rfl dX5_token_98 qw_1007 qw_1008 (by decide) [] (Nat.le_of_ble_eq_true rfl) rfl rfl 101 rfl ?_
      refine v_ifb_ne dX5_token_101 122 (by decide) 104 rfl (fun c4 => ?_) (fun c4 => ?_)
      · skip
        refine v_aload_n dX5_token_122 2 rfl 123 rfl ?_
        refine v_dup dX5_token_123 rfl 124 rfl ?_
        refine v_get (i := 9) (ci := 5) (T := TX5) (C := RX5) (N := 16) (v := .int (nI i)) dX5_token_124 inB5 rfl qw_695 rfl (by decide) (by decide) (cel_mod G _) rfl 127 rfl ?_
        refine v_iconst dX5_token_127 1 rfl 128 rfl ?_
        refine n_iadd dX5_token_128 i 1 rfl rfl 129 rfl ?_
        refine v_put (i := 9) (ci := 5) (T := TX5) (C := RX5) (N := 16) (ty := .int) (w2 := (K, (ms, mk, mo, ma, mf, ik, mt, td, fr, i + 1, vl, wr, mb, mz, nu, mv))) dX5_token_129 inB5 tyX5 tyX5_ok nmX5 rfl qw_695 rfl rfl rfl rfl rfl (by decide) (by decide) (cel_mod G _) (Nat.le_of_ble_eq_true rfl) u_m 132 rfl ?_
        refine v_goto dX5_token_132 86 (by decide) ?_
        rw [skW_t (show (mTo mt td L D) i = true from by simp [mTo, c1, c4])] at hk
        exact ih (i + 1) (by omega) (by omega) hk
      · skip
        refine v_iload_n dX5_token_104 1 rfl 105 rfl ?_
        refine v_ifb_eq dX5_token_105 135 (by decide) 108 rfl (fun c5 => ?_) (fun c5 => ?_)
        · skip
          rw [skW_f (show (mTo mt td L D) i = false from by simp [mTo, c1, c4, c5])] at hk
          exact hk
        · skip
          refine v_aload_n dX5_token_108 2 rfl 109 rfl ?_
          refine v_aload_n dX5_token_109 2 rfl 110 rfl ?_
          refine v_get (i := 9) (ci := 5) (T := TX5) (C := RX5) (N := 16) (v := .int (nI i)) dX5_token_110 inB5 rfl qw_695 rfl (by decide) (by decide) (cel_mod G _) rfl 113 rfl ?_
          refine v_callV (c_X5_byteAt l (i := i) (by omega) (by omega)) kal_X5_byteAt rfl dX5_token_113 qw_1003 qw_1005 qw_41 rfl (by decide) (cel_mod G _) (by decide) [] (Nat.le_of_ble_eq_true rfl) rfl rfl 116 rfl ?_
          refine v_callS (c_X5_isDigit l (bA mt td i)) kal_X5_isDigit rfl dX5_token_116 qw_1012 qw_1013 (by decide) [] (Nat.le_of_ble_eq_true rfl) rfl rfl 119 rfl ?_
          refine v_ifb_eq dX5_token_119 135 (by decide) 122 rfl (fun c6 => ?_) (fun c6 => ?_)
          · skip
            rw [skW_f (show (mTo mt td L D) i = false from by simp [mTo, c1, c4, c5, c6])] at hk
            exact hk
          · skip
            refine v_aload_n dX5_token_122 2 rfl 123 rfl ?_
            refine v_dup dX5_token_123 rfl 124 rfl ?_
            refine v_get (i := 9) (ci := 5) (T := TX5) (C := RX5) (N := 16) (v := .int (nI i)) dX5_token_124 inB5 rfl qw_695 rfl (by decide) (by decide) (cel_mod G _) rfl 127 rfl ?_
            refine v_iconst dX5_token_127 1 rfl 128 rfl ?_
            refine n_iadd dX5_token_128 i 1 rfl rfl 129 rfl ?_
            refine v_put (i := 9) (ci := 5) (T := TX5) (C := RX5) (N := 16) (ty := .int) (w2 := (K, (ms, mk, mo, ma, mf, ik, mt, td, fr, i + 1, vl, wr, mb, mz, nu, mv))) dX5_token_129 inB5 tyX5 tyX5_ok nmX5 rfl qw_695 rfl rfl rfl rfl rfl (by decide) (by decide) (cel_mod G _) (Nat.le_of_ble_eq_true rfl) u_m 132 rfl ?_
            refine v_goto dX5_token_132 86 (by decide) ?_
            rw [skW_t (show (mTo mt td L D) i = true from by simp [mTo, c1, c4, c5, c6])] at hk
            exact ih (i + 1) (by omega) (by omega) hk
set_option maxHeartbeats 1000000 in
set_option maxRecDepth 4000 in
theorem c_X5_token (l : Launch) {G : Gl} {K : CS} {ms : Nat → Int32} {mk : Nat → Int32} {mo : Nat → Int32} {ma : Nat → Int32} {mf : Nat → Int32} {ik : Int32} {mt : Nat → Int32} {td : Nat} {fr : Nat} {tt : Nat} {vl : Int32} {wr : Int32} {mb : Nat → Int32} {mz : Nat → Int32} {nu : Nat → Int64} {mv : Nat → Int64} (htd : td ≤ 120) (htt : tt ≤ 120) : Ct l G yX5_token cX5_token 3 none 2 45 [.ref (ga G (93))] (K, (ms, mk, mo, ma, mf, ik, mt, td, fr, tt, vl, wr, mb, mz, nu, mv)) (none) (K, (ms, mk, mo, ma, mf, ik, mt, td, (tkA mt td tt), (tkC mt td (tkA mt td tt)), vl, wr, mb, mz, nu, mv)) := by
  refine Ct.of (own := RX5) (by decide) rfl (Nat.le_of_ble_eq_true rfl) rfl (fun X => ?_)
  refine v_aload_n dX5_token_0 0 rfl 1 rfl ?_
  refine v_aload_n dX5_token_1 0 rfl 2 rfl ?_
  refine v_get (i := 9) (ci := 5) (T := TX5) (C := RX5) (N := 16) (v := .int (nI tt)) dX5_token_2 inB5 rfl qw_695 rfl (by decide) (by decide) (cel_mod G _) rfl 5 rfl ?_
  refine v_put (i := 8) (ci := 5) (T := TX5) (C := RX5) (N := 16) (ty := .int) (w2 := (K, (ms, mk, mo, ma, mf, ik, mt, td, tt, tt, vl, wr, mb, mz, nu, mv))) dX5_token_5 inB5 tyX5 tyX5_ok nmX5 rfl qw_694 rfl rfl rfl rfl rfl (by decide) (by decide) (cel_mod G _) (Nat.le_of_ble_eq_true rfl) u_m 8 rfl ?_
  refine lp_mtok1 l (fr := fr) htd (td - tt) tt rfl (by omega) ?_
  have hle := skW_le (mSp mt td) (td - tt) tt
  generalize hA : skW (mSp mt td) (td - tt) tt = a9 at hle ⊢
  refine v_aload_n dX5_token_34 0 rfl 35 rfl ?_
  refine v_aload_n dX5_token_35 0 rfl 36 rfl ?_
  refine v_get (i := 8) (ci := 5) (T := TX5) (C := RX5) (N := 16) (v := .int (nI a9)) dX5_token_36 inB5 rfl qw_694 rfl (by decide) (by decide) (cel_mod G _) rfl 39 rfl ?_
  refine v_callV (c_X5_byteAt l (i := a9) (by omega) (by omega)) kal_X5_byteAt rfl dX5_token_39 qw_1003 qw_1005 qw_41 rfl (by decide) (cel_mod G _) (by decide) [] (Nat.le_of_ble_eq_true rfl) rfl rfl 42 rfl ?_
  refine v_callS (c_X5_isLetter l (bA mt td a9)) kal_X5_isLetter rfl dX5_token_42 qw_1007 qw_1008 (by decide) [] (Nat.le_of_ble_eq_true rfl) rfl rfl 45 rfl ?_
  refine v_istore_n dX5_token_45 1 rfl (by decide) [(1, .int (b2 (inb 97 122 (bA mt td a9)))), (0, .ref (ga G (93)))] rfl 46 rfl ?_
  refine v_aload_n dX5_token_46 1 rfl 47 rfl ?_
  refine v_aload_n dX5_token_47 1 rfl 48 rfl ?_
  refine v_get (i := 8) (ci := 5) (T := TX5) (C := RX5) (N := 16) (v := .int (nI a9)) dX5_token_48 inB5 rfl qw_694 rfl (by decide) (by decide) (cel_mod G _) rfl 51 rfl ?_
  refine v_callV (c_X5_byteAt l (i := a9) (by omega) (by omega)) kal_X5_byteAt rfl dX5_token_51 qw_1003 qw_1005 qw_41 rfl (by decide) (cel_mod G _) (by decide) [] (Nat.le_of_ble_eq_true rfl) rfl rfl 54 rfl ?_
  refine v_callS (c_X5_isDigit l (bA mt td a9)) kal_X5_isDigit rfl dX5_token_54 qw_1012 qw_1013 (by decide) [] (Nat.le_of_ble_eq_true rfl) rfl rfl 57 rfl ?_
  refine v_istore_n dX5_token_57 2 rfl (by decide) [(2, .int (b2 (inb 48 57 (bA mt td a9)))), (1, .int (b2 (inb 97 122 (bA mt td a9)))), (0, .ref (ga G (93)))] rfl 58 rfl ?_
  refine v_aload_n dX5_token_58 2 rfl 59 rfl ?_
  refine v_aload_n dX5_token_59 2 rfl 60 rfl ?_
  refine v_get (i := 8) (ci := 5) (T := TX5) (C := RX5) (N := 16) (v := .int (nI a9)) dX5_token_60 inB5 rfl qw_694 rfl (by decide) (by decide) (cel_mod G _) rfl 63 rfl ?_
  refine v_aload_n dX5_token_63 2 rfl 64 rfl ?_
  refine v_get (i := 7) (ci := 5) (T := TX5) (C := RX5) (N := 16) (v := .int (nI td)) dX5_token_64 inB5 rfl qw_693 rfl (by decide) (by decide) (cel_mod G _) rfl 67 rfl ?_
  refine n_icmp_ge dX5_token_67 a9 td rfl rfl (by omega) (by omega) 79 (by decide) 70 rfl (fun c1 => ?_) (fun c1 => ?_)
  · skip
    refine v_aload_n dX5_token_79 2 rfl 80 rfl ?_
    refine v_get (i := 8) (ci := 5) (T := TX5) (C := RX5) (N := 16) (v := .int (nI a9)) dX5_token_80 inB5 rfl qw_694 rfl (by decide) (by decide) (cel_mod G _) rfl 83 rfl ?_
    refine v_put (i := 9) (ci := 5) (T := TX5) (C := RX5) (N := 16) (ty := .int) (w2 := (K, (ms, mk, mo, ma, mf, ik, mt, td, a9, a9, vl, wr, mb, mz, nu, mv))) dX5_token_83 inB5 tyX5 tyX5_ok nmX5 rfl qw_695 rfl rfl rfl rfl rfl (by decide) (by decide) (cel_mod G _) (Nat.le_of_ble_eq_true rfl) u_m 86 rfl ?_
    refine v_pick [1, 0, 2] [(1, .int (b2 (inb 97 122 (bA mt td a9)))), (2, .int (b2 (inb 48 57 (bA mt td a9)))), (0, .ref (ga G (93)))] rfl ?_
    refine lp_mtok2 l (tt := tt) htd (inb 97 122 (bA mt td a9)) (inb 48 57 (bA mt td a9)) (td - a9) a9 rfl (by omega) ?_
    exact v_vret dX5_token_135 (by rfl) (by simp only [tkC, tkA, tkB, hA, c1, Nat.not_lt.mpr c1, hA, if_true, if_false, ↓reduceIte])
  · skip
    refine v_aload_n dX5_token_70 2 rfl 71 rfl ?_
    refine v_get (i := 8) (ci := 5) (T := TX5) (C := RX5) (N := 16) (v := .int (nI a9)) dX5_token_71 inB5 rfl qw_694 rfl (by decide) (by decide) (cel_mod G _) rfl 74 rfl ?_
    refine v_iconst dX5_token_74 1 rfl 75 rfl ?_
    refine n_iadd dX5_token_75 a9 1 rfl rfl 76 rfl ?_
    refine v_goto dX5_token_76 83 (by decide) ?_
    refine v_put (i := 9) (ci := 5) (T := TX5) (C := RX5) (N := 16) (ty := .int) (w2 := (K, (ms, mk, mo, ma, mf, ik, mt, td, a9, a9 + 1, vl, wr, mb, mz, nu, mv))) dX5_token_83 inB5 tyX5 tyX5_ok nmX5 rfl qw_695 rfl rfl rfl rfl rfl (by decide) (by decide) (cel_mod G _) (Nat.le_of_ble_eq_true rfl) u_m 86 rfl ?_
    refine v_pick [1, 0, 2] [(1, .int (b2 (inb 97 122 (bA mt td a9)))), (2, .int (b2 (inb 48 57 (bA mt td a9)))), (0, .ref (ga G (93)))] rfl ?_
    refine lp_mtok2 l (tt := tt) htd (inb 97 122 (bA mt td a9)) (inb 48 57 (bA mt td a9)) (td - (a9 + 1)) (a9 + 1) rfl (by omega) ?_
    exact v_vret dX5_token_135 (by rfl) (by simp only [tkC, tkA, tkB, hA, c1, Nat.not_le.mpr c1, hA, if_true, if_false, ↓reduceIte])
