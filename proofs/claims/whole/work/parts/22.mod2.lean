set_option maxHeartbeats 1000000 in
set_option maxRecDepth 4000 in
theorem lp_isShorn (l : Launch) {G : Gl} {X : VX} {ov : Option Value} {wF : WS} {K : CS} {ms : Nat → Int32} {mk : Nat → Int32} {mo : Nat → Int32} {ma : Nat → Int32} {mf : Nat → Int32} {ik : Int32} {mt : Nat → Int32} {td : Nat} {fr : Nat} {tt : Nat} {vl : Int32} {wr : Int32} {mb : Nat → Int32} {mz : Nat → Int32} {nu : Nat → Int64} {mv : Nat → Int64} {e : Nat} (he : e < 8) : ∀ n i : Nat, i + n = 12 → V l X 3 66 cX5_isShorn 5 RX5 none G ov wF (K, ((mShE ms e 12), mk, mo, ma, mf, ik, mt, td, fr, tt, vl, wr, mb, mz, nu, mv)) 112 [(2, .int (nI 12)), (0, .ref (ga G (93))), (1, .int (nI e))] [] → V l X 3 66 cX5_isShorn 5 RX5 none G ov wF (K, ((mShE ms e i), mk, mo, ma, mf, ik, mt, td, fr, tt, vl, wr, mb, mz, nu, mv)) 2 [(2, .int (nI i)), (0, .ref (ga G (93))), (1, .int (nI e))] [] := by
  intro n
  induction n with
  | zero =>
    intro i hin hk
    obtain rfl : 12 = i := by omega
    refine v_iload_n dX5_isShorn_2 0 rfl 3 rfl ?_
    refine v_bipush dX5_isShorn_3 12 rfl 5 rfl ?_
    refine n_icmp_ge dX5_isShorn_5 12 12 rfl rfl (by omega) (by omega) 112 (by decide) 8 rfl (fun c1 => ?_) (fun c1 => absurd c1 (by omega))
    exact hk
  | succ n ih =>
    intro i hin hk
    refine v_iload_n dX5_isShorn_2 0 rfl 3 rfl ?_
    refine v_bipush dX5_isShorn_3 12 rfl 5 rfl ?_
    refine n_icmp_ge dX5_isShorn_5 i 12 rfl rfl (by omega) (by omega) 112 (by decide) 8 rfl (fun c1 => absurd c1 (by omega)) (fun c1 => ?_)
    refine v_aload_n dX5_isShorn_8 1 rfl 9 rfl ?_
    refine v_iload_n dX5_isShorn_9 2 rfl 10 rfl ?_
    refine v_iconst dX5_isShorn_10 2 rfl 11 rfl ?_
    refine v_iload_n dX5_isShorn_11 0 rfl 12 rfl ?_
    refine n_iadd dX5_isShorn_12 2 i rfl rfl 13 rfl ?_
    refine v_callV (c_X5_its l (e := e) (k := 2 + i) (by omega) (by omega)) kal_X5_its rfl dX5_isShorn_13 qw_810 qw_812 qw_22 rfl (by decide) (cel_mod G _) (by decide) [] (Nat.le_of_ble_eq_true rfl) rfl rfl 16 rfl ?_
    refine v_istore_n dX5_isShorn_16 3 rfl (by decide) [(3, .int ((mShE ms e i) (38 + 14 * e + (2 + i)))), (2, .int (nI i)), (0, .ref (ga G (93))), (1, .int (nI e))] rfl 17 rfl ?_
    refine v_iload_n dX5_isShorn_17 0 rfl 18 rfl ?_
    refine v_if_le dX5_isShorn_18 37 (by decide) 21 rfl (fun c2 => ?_) (fun c2 => ?_)
    · skip
      refine v_iconst dX5_isShorn_37 0 rfl 38 rfl ?_
      refine v_istore dX5_isShorn_38 (by decide) [(4, .int 0), (3, .int ((mShE ms e i) (38 + 14 * e + (2 + i)))), (2, .int (nI i)), (0, .ref (ga G (93))), (1, .int (nI e))] rfl 40 rfl ?_
      refine v_aload_n dX5_isShorn_40 3 rfl 41 rfl ?_
      refine v_get (i := 0) (ci := 5) (T := TX5) (C := RX5) (N := 16) (v := .ref (ga G (94))) dX5_isShorn_41 inB5 rfl qw_686 rfl (by decide) (by decide) (cel_mod G _) rfl 44 rfl ?_
      refine v_bipush dX5_isShorn_44 14 rfl 46 rfl ?_
      refine v_iload_n dX5_isShorn_46 2 rfl 47 rfl ?_
      refine n_iadd dX5_isShorn_47 14 i rfl rfl 48 rfl ?_
      refine v_aload_n dX5_isShorn_48 3 rfl 49 rfl ?_
      refine v_get (i := 0) (ci := 5) (T := TX5) (C := RX5) (N := 16) (v := .ref (ga G (94))) dX5_isShorn_49 inB5 rfl qw_686 rfl (by decide) (by decide) (cel_mod G _) rfl 52 rfl ?_
      refine v_bipush dX5_isShorn_52 14 rfl 54 rfl ?_
      refine v_iload_n dX5_isShorn_54 2 rfl 55 rfl ?_
      refine n_iadd dX5_isShorn_55 14 i rfl rfl 56 rfl ?_
      refine v_iald (a := (mShE ms e i)) dX5_isShorn_56 (by decide) (cel_ms G _) (14 + i) rfl (by omega) (by decide) 57 rfl ?_
      refine v_iload_n dX5_isShorn_57 1 rfl 58 rfl ?_
      refine v_iadd dX5_isShorn_58 59 rfl ?_
      refine v_sipush dX5_isShorn_59 9999 rfl 62 rfl ?_
      refine v_callS (c_X5_heldTo l (((mShE ms e i) (14 + i)) + ((mShE ms e i) (38 + 14 * e + (2 + i)))) 9999) kal_X5_heldTo rfl dX5_isShorn_62 qw_891 qw_892 (by decide) [.int (nI (14 + i)), .ref (ga G (94))] (Nat.le_of_ble_eq_true rfl) rfl rfl 65 rfl ?_
      refine v_iast (w2 := (K, (upd (mShE ms e i) (14 + i) (mn (((mShE ms e i) (14 + i)) + ((mShE ms e i) (38 + 14 * e + (2 + i)))) 9999), mk, mo, ma, mf, ik, mt, td, fr, tt, vl, wr, mb, mz, nu, mv))) dX5_isShorn_65 (by decide) (cel_ms G _) (14 + i) rfl (by omega) (by decide) u_ms 66 rfl ?_
      refine v_aload_n dX5_isShorn_66 3 rfl 67 rfl ?_
      refine v_get (i := 0) (ci := 5) (T := TX5) (C := RX5) (N := 16) (v := .ref (ga G (94))) dX5_isShorn_67 inB5 rfl qw_686 rfl (by decide) (by decide) (cel_mod G _) rfl 70 rfl ?_
      refine v_bipush dX5_isShorn_70 26 rfl 72 rfl ?_
      refine v_iload_n dX5_isShorn_72 2 rfl 73 rfl ?_
      refine n_iadd dX5_isShorn_73 26 i rfl rfl 74 rfl ?_
      refine v_aload_n dX5_isShorn_74 3 rfl 75 rfl ?_
      refine v_get (i := 0) (ci := 5) (T := TX5) (C := RX5) (N := 16) (v := .ref (ga G (94))) dX5_isShorn_75 inB5 rfl qw_686 rfl (by decide) (by decide) (cel_mod G _) rfl 78 rfl ?_
      refine v_bipush dX5_isShorn_78 26 rfl 80 rfl ?_
      refine v_iload_n dX5_isShorn_80 2 rfl 81 rfl ?_
      refine n_iadd dX5_isShorn_81 26 i rfl rfl 82 rfl ?_
      refine v_iald (a := upd (mShE ms e i) (14 + i) (mn (((mShE ms e i) (14 + i)) + ((mShE ms e i) (38 + 14 * e + (2 + i)))) 9999)) dX5_isShorn_82 (by decide) (cel_ms G _) (26 + i) rfl (by omega) (by decide) 83 rfl ?_
      refine v_iload dX5_isShorn_83 0 rfl 85 rfl ?_
      refine v_iadd dX5_isShorn_85 86 rfl ?_
      refine v_sipush dX5_isShorn_86 9999 rfl 89 rfl ?_
      refine v_callS (c_X5_heldTo l (((upd (mShE ms e i) (14 + i) (mn (((mShE ms e i) (14 + i)) + ((mShE ms e i) (38 + 14 * e + (2 + i)))) 9999)) (26 + i)) + 0) 9999) kal_X5_heldTo rfl dX5_isShorn_89 qw_891 qw_892 (by decide) [.int (nI (26 + i)), .ref (ga G (94))] (Nat.le_of_ble_eq_true rfl) rfl rfl 92 rfl ?_
      refine v_iast (w2 := (K, (upd (upd (mShE ms e i) (14 + i) (mn (((mShE ms e i) (14 + i)) + ((mShE ms e i) (38 + 14 * e + (2 + i)))) 9999)) (26 + i) (mn (((upd (mShE ms e i) (14 + i) (mn (((mShE ms e i) (14 + i)) + ((mShE ms e i) (38 + 14 * e + (2 + i)))) 9999)) (26 + i)) + 0) 9999), mk, mo, ma, mf, ik, mt, td, fr, tt, vl, wr, mb, mz, nu, mv))) dX5_isShorn_92 (by decide) (cel_ms G _) (26 + i) rfl (by omega) (by decide) u_ms 93 rfl ?_
      refine v_aload_n dX5_isShorn_93 3 rfl 94 rfl ?_
      refine v_get (i := 0) (ci := 5) (T := TX5) (C := RX5) (N := 16) (v := .ref (ga G (94))) dX5_isShorn_94 inB5 rfl qw_686 rfl (by decide) (by decide) (cel_mod G _) rfl 97 rfl ?_
      refine v_iload_n dX5_isShorn_97 4 rfl 98 rfl ?_
      refine v_iconst dX5_isShorn_98 2 rfl 99 rfl ?_
      refine v_iload_n dX5_isShorn_99 2 rfl 100 rfl ?_
      refine n_iadd dX5_isShorn_100 2 i rfl rfl 101 rfl ?_
      refine v_callS (c_X5_spot l e (2 + i)) kal_X5_spot rfl dX5_isShorn_101 qw_785 qw_786 (by decide) [.ref (ga G (94))] (Nat.le_of_ble_eq_true rfl) rfl rfl 104 rfl ?_
      refine v_iconst dX5_isShorn_104 0 rfl 105 rfl ?_
      refine v_iast (w2 := (K, (upd (upd (upd (mShE ms e i) (14 + i) (mn (((mShE ms e i) (14 + i)) + ((mShE ms e i) (38 + 14 * e + (2 + i)))) 9999)) (26 + i) (mn (((upd (mShE ms e i) (14 + i) (mn (((mShE ms e i) (14 + i)) + ((mShE ms e i) (38 + 14 * e + (2 + i)))) 9999)) (26 + i)) + 0) 9999)) (38 + 14 * e + (2 + i)) 0, mk, mo, ma, mf, ik, mt, td, fr, tt, vl, wr, mb, mz, nu, mv))) dX5_isShorn_105 (by decide) (cel_ms G _) (38 + 14 * e + (2 + i)) rfl (by omega) (by decide) u_ms 106 rfl ?_
      refine v_iinc dX5_isShorn_106 2 rfl (nI (i + 1)) (nI_1 _) (by decide) [(2, .int (nI (i + 1))), (4, .int 0), (3, .int ((mShE ms e i) (38 + 14 * e + (2 + i)))), (0, .ref (ga G (93))), (1, .int (nI e))] rfl 109 rfl ?_
      refine v_goto dX5_isShorn_109 2 (by decide) ?_
      refine v_w (w2 := (K, ((mShE ms e (i + 1)), mk, mo, ma, mf, ik, mt, td, fr, tt, vl, wr, mb, mz, nu, mv))) (by show _ = (K, ((mSh1 (mShE ms e i) e i), mk, mo, ma, mf, ik, mt, td, fr, tt, vl, wr, mb, mz, nu, mv)); unfold mSh1; simp only [c2, Int32.not_lt.mpr c2, if_true, if_false]) ?_
      refine v_pick [0, 3, 4] [(2, .int (nI (i + 1))), (0, .ref (ga G (93))), (1, .int (nI e))] rfl ?_
      exact ih (i + 1) (by omega) hk
    · skip
      refine v_aload_n dX5_isShorn_21 2 rfl 22 rfl ?_
      refine v_iload_n dX5_isShorn_22 3 rfl 23 rfl ?_
      refine v_aload_n dX5_isShorn_23 2 rfl 24 rfl ?_
      refine v_get (i := 0) (ci := 5) (T := TX5) (C := RX5) (N := 16) (v := .ref (ga G (94))) dX5_isShorn_24 inB5 rfl qw_686 rfl (by decide) (by decide) (cel_mod G _) rfl 27 rfl ?_
      refine v_iconst dX5_isShorn_27 2 rfl 28 rfl ?_
      refine v_iload_n dX5_isShorn_28 1 rfl 29 rfl ?_
      refine n_iadd dX5_isShorn_29 2 i rfl rfl 30 rfl ?_
      refine v_iald (a := (mShE ms e i)) dX5_isShorn_30 (by decide) (cel_ms G _) (2 + i) rfl (by omega) (by decide) 31 rfl ?_
      refine v_callV (c_X5_burrsIn l (e := e) (by omega) ((mShE ms e i) (2 + i))) kal_X5_burrsIn rfl dX5_isShorn_31 qw_834 qw_836 qw_26 rfl (by decide) (cel_mod G _) (by decide) [] (Nat.le_of_ble_eq_true rfl) rfl rfl 34 rfl ?_
      refine v_goto dX5_isShorn_34 38 (by decide) ?_
      obtain ⟨z3, ez3⟩ : ∃ y : Int32, y = kBurrs ((mShE ms e i) (38 + 14 * e + 0)) ((mShE ms e i) (2 + i)) := ⟨_, rfl⟩
      rw [← ez3]
      refine v_istore dX5_isShorn_38 (by decide) [(4, .int z3), (3, .int ((mShE ms e i) (38 + 14 * e + (2 + i)))), (2, .int (nI i)), (0, .ref (ga G (93))), (1, .int (nI e))] rfl 40 rfl ?_
      refine v_aload_n dX5_isShorn_40 3 rfl 41 rfl ?_
      refine v_get (i := 0) (ci := 5) (T := TX5) (C := RX5) (N := 16) (v := .ref (ga G (94))) dX5_isShorn_41 inB5 rfl qw_686 rfl (by decide) (by decide) (cel_mod G _) rfl 44 rfl ?_
      refine v_bipush dX5_isShorn_44 14 rfl 46 rfl ?_
      refine v_iload_n dX5_isShorn_46 2 rfl 47 rfl ?_
      refine n_iadd dX5_isShorn_47 14 i rfl rfl 48 rfl ?_
      refine v_aload_n dX5_isShorn_48 3 rfl 49 rfl ?_
      refine v_get (i := 0) (ci := 5) (T := TX5) (C := RX5) (N := 16) (v := .ref (ga G (94))) dX5_isShorn_49 inB5 rfl qw_686 rfl (by decide) (by decide) (cel_mod G _) rfl 52 rfl ?_
      refine v_bipush dX5_isShorn_52 14 rfl 54 rfl ?_
      refine v_iload_n dX5_isShorn_54 2 rfl 55 rfl ?_
      refine n_iadd dX5_isShorn_55 14 i rfl rfl 56 rfl ?_
      refine v_iald (a := (mShE ms e i)) dX5_isShorn_56 (by decide) (cel_ms G _) (14 + i) rfl (by omega) (by decide) 57 rfl ?_
      refine v_iload_n dX5_isShorn_57 1 rfl 58 rfl ?_
      refine v_iadd dX5_isShorn_58 59 rfl ?_
      refine v_sipush dX5_isShorn_59 9999 rfl 62 rfl ?_
      refine v_callS (c_X5_heldTo l (((mShE ms e i) (14 + i)) + ((mShE ms e i) (38 + 14 * e + (2 + i)))) 9999) kal_X5_heldTo rfl dX5_isShorn_62 qw_891 qw_892 (by decide) [.int (nI (14 + i)), .ref (ga G (94))] (Nat.le_of_ble_eq_true rfl) rfl rfl 65 rfl ?_
      refine v_iast (w2 := (K, (upd (mShE ms e i) (14 + i) (mn (((mShE ms e i) (14 + i)) + ((mShE ms e i) (38 + 14 * e + (2 + i)))) 9999), mk, mo, ma, mf, ik, mt, td, fr, tt, vl, wr, mb, mz, nu, mv))) dX5_isShorn_65 (by decide) (cel_ms G _) (14 + i) rfl (by omega) (by decide) u_ms 66 rfl ?_
      refine v_aload_n dX5_isShorn_66 3 rfl 67 rfl ?_
      refine v_get (i := 0) (ci := 5) (T := TX5) (C := RX5) (N := 16) (v := .ref (ga G (94))) dX5_isShorn_67 inB5 rfl qw_686 rfl (by decide) (by decide) (cel_mod G _) rfl 70 rfl ?_
      refine v_bipush dX5_isShorn_70 26 rfl 72 rfl ?_
      refine v_iload_n dX5_isShorn_72 2 rfl 73 rfl ?_
      refine n_iadd dX5_isShorn_73 26 i rfl rfl 74 rfl ?_
      refine v_aload_n dX5_isShorn_74 3 rfl 75 rfl ?_
      refine v_get (i := 0) (ci := 5) (T := TX5) (C := RX5) (N := 16) (v := .ref (ga G (94))) dX5_isShorn_75 inB5 rfl qw_686 rfl (by decide) (by decide) (cel_mod G _) rfl 78 rfl ?_
      refine v_bipush dX5_isShorn_78 26 rfl 80 rfl ?_
      refine v_iload_n dX5_isShorn_80 2 rfl 81 rfl ?_
      refine n_iadd dX5_isShorn_81 26 i rfl rfl 82 rfl ?_
      refine v_iald (a := upd (mShE ms e i) (14 + i) (mn (((mShE ms e i) (14 + i)) + ((mShE ms e i) (38 + 14 * e + (2 + i)))) 9999)) dX5_isShorn_82 (by decide) (cel_ms G _) (26 + i) rfl (by omega) (by decide) 83 rfl ?_
      refine v_iload dX5_isShorn_83 0 rfl 85 rfl ?_
      refine v_iadd dX5_isShorn_85 86 rfl ?_
      refine v_sipush dX5_isShorn_86 9999 rfl 89 rfl ?_
      refine v_callS (c_X5_heldTo l (((upd (mShE ms e i) (14 + i) (mn (((mShE ms e i) (14 + i)) + ((mShE ms e i) (38 + 14 * e + (2 + i)))) 9999)) (26 + i)) + z3) 9999) kal_X5_heldTo rfl dX5_isShorn_89 qw_891 qw_892 (by decide) [.int (nI (26 + i)), .ref (ga G (94))] (Nat.le_of_ble_eq_true rfl) rfl rfl 92 rfl ?_
      refine v_iast (w2 := (K, (upd (upd (mShE ms e i) (14 + i) (mn (((mShE ms e i) (14 + i)) + ((mShE ms e i) (38 + 14 * e + (2 + i)))) 9999)) (26 + i) (mn (((upd (mShE ms e i) (14 + i) (mn (((mShE ms e i) (14 + i)) + ((mShE ms e i) (38 + 14 * e + (2 + i)))) 9999)) (26 + i)) + z3) 9999), mk, mo, ma, mf, ik, mt, td, fr, tt, vl, wr, mb, mz, nu, mv))) dX5_isShorn_92 (by decide) (cel_ms G _) (26 + i) rfl (by omega) (by decide) u_ms 93 rfl ?_
      refine v_aload_n dX5_isShorn_93 3 rfl 94 rfl ?_
      refine v_get (i := 0) (ci := 5) (T := TX5) (C := RX5) (N := 16) (v := .ref (ga G (94))) dX5_isShorn_94 inB5 rfl qw_686 rfl (by decide) (by decide) (cel_mod G _) rfl 97 rfl ?_
      refine v_iload_n dX5_isShorn_97 4 rfl 98 rfl ?_
      refine v_iconst dX5_isShorn_98 2 rfl 99 rfl ?_
      refine v_iload_n dX5_isShorn_99 2 rfl 100 rfl ?_
      refine n_iadd dX5_isShorn_100 2 i rfl rfl 101 rfl ?_
      refine v_callS (c_X5_spot l e (2 + i)) kal_X5_spot rfl dX5_isShorn_101 qw_785 qw_786 (by decide) [.ref (ga G (94))] (Nat.le_of_ble_eq_true rfl) rfl rfl 104 rfl ?_
      refine v_iconst dX5_isShorn_104 0 rfl 105 rfl ?_
      refine v_iast (w2 := (K, (upd (upd (upd (mShE ms e i) (14 + i) (mn (((mShE ms e i) (14 + i)) + ((mShE ms e i) (38 + 14 * e + (2 + i)))) 9999)) (26 + i) (mn (((upd (mShE ms e i) (14 + i) (mn (((mShE ms e i) (14 + i)) + ((mShE ms e i) (38 + 14 * e + (2 + i)))) 9999)) (26 + i)) + z3) 9999)) (38 + 14 * e + (2 + i)) 0, mk, mo, ma, mf, ik, mt, td, fr, tt, vl, wr, mb, mz, nu, mv))) dX5_isShorn_105 (by decide) (cel_ms G _) (38 + 14 * e + (2 + i)) rfl (by omega) (by decide) u_ms 106 rfl ?_
      refine v_iinc dX5_isShorn_106 2 rfl (nI (i + 1)) (nI_1 _) (by decide) [(2, .int (nI (i + 1))), (4, .int z3), (3, .int ((mShE ms e i) (38 + 14 * e + (2 + i)))), (0, .ref (ga G (93))), (1, .int (nI e))] rfl 109 rfl ?_
      refine v_goto dX5_isShorn_109 2 (by decide) ?_
      subst ez3
      refine v_w (w2 := (K, ((mShE ms e (i + 1)), mk, mo, ma, mf, ik, mt, td, fr, tt, vl, wr, mb, mz, nu, mv))) (by show _ = (K, ((mSh1 (mShE ms e i) e i), mk, mo, ma, mf, ik, mt, td, fr, tt, vl, wr, mb, mz, nu, mv)); unfold mSh1; simp only [c2, Int32.not_le.mp c2, if_true, if_false]) ?_
      refine v_pick [0, 3, 4] [(2, .int (nI (i + 1))), (0, .ref (ga G (93))), (1, .int (nI e))] rfl ?_
      exact ih (i + 1) (by omega) hk
set_option maxHeartbeats 1000000 in
set_option maxRecDepth 4000 in
theorem c_X5_isShorn (l : Launch) {G : Gl} {K : CS} {ms : Nat → Int32} {mk : Nat → Int32} {mo : Nat → Int32} {ma : Nat → Int32} {mf : Nat → Int32} {ik : Int32} {mt : Nat → Int32} {td : Nat} {fr : Nat} {tt : Nat} {vl : Int32} {wr : Int32} {mb : Nat → Int32} {mz : Nat → Int32} {nu : Nat → Int64} {mv : Nat → Int64} {e : Nat} (he : e < 8) : Ct l G yX5_isShorn cX5_isShorn 5 none 3 66 [.ref (ga G (93)), .int (nI e)] (K, (ms, mk, mo, ma, mf, ik, mt, td, fr, tt, vl, wr, mb, mz, nu, mv)) (none) (K, ((mShE ms e 12), mk, mo, ma, mf, ik, mt, td, fr, tt, vl, wr, mb, mz, nu, mv)) := by
  refine Ct.of (own := RX5) (by decide) rfl (Nat.le_of_ble_eq_true rfl) rfl (fun X => ?_)
  refine v_iconst dX5_isShorn_0 0 rfl 1 rfl ?_
  refine v_istore_n dX5_isShorn_1 2 rfl (by decide) [(2, .int 0), (0, .ref (ga G (93))), (1, .int (nI e))] rfl 2 rfl ?_
  refine lp_isShorn l he 12 0 (by omega) ?_
  exact v_vret dX5_isShorn_112 (by rfl) (by rfl)
set_option maxHeartbeats 1000000 in
set_option maxRecDepth 4000 in
theorem lp_mgrow (l : Launch) {G : Gl} {X : VX} {ov : Option Value} {wF : WS} {K : CS} {ms : Nat → Int32} {mk : Nat → Int32} {mo : Nat → Int32} {ma : Nat → Int32} {mf : Nat → Int32} {ik : Int32} {mt : Nat → Int32} {td : Nat} {fr : Nat} {tt : Nat} {vl : Int32} {wr : Int32} {mb : Nat → Int32} {mz : Nat → Int32} {nu : Nat → Int64} {mv : Nat → Int64} {nE : Nat} (hn : ms 1 = nI nE) (hn8 : nE ≤ 8) {t0 : Nat} (hm : ms 0 = nI t0) (hmo : t0 < 2 ^ 30) : ∀ n i : Nat, i + n = nE → V l X 4 90 cX5_month 4 RX5 none G ov wF (K, ((mGr ms (t0 % 12) nE), mk, mo, ma, mf, ik, mt, td, fr, tt, vl, wr, mb, mz, nu, mv)) 91 [(2, .int (nI nE)), (1, .int (nI (t0 % 12))), (0, .ref (ga G (93)))] [] → V l X 4 90 cX5_month 4 RX5 none G ov wF (K, ((mGr ms (t0 % 12) i), mk, mo, ma, mf, ik, mt, td, fr, tt, vl, wr, mb, mz, nu, mv)) 7 [(2, .int (nI i)), (1, .int (nI (t0 % 12))), (0, .ref (ga G (93)))] [] := by
  intro n
  induction n with
  | zero =>
    intro i hin hk
    obtain rfl : nE = i := by omega
    refine v_iload_n dX5_month_7 0 rfl 8 rfl ?_
    refine v_aload_n dX5_month_8 2 rfl 9 rfl ?_
    refine v_get (i := 0) (ci := 5) (T := TX5) (C := RX5) (N := 16) (v := .ref (ga G (94))) dX5_month_9 inB5 rfl qw_686 rfl (by decide) (by decide) (cel_mod G _) rfl 12 rfl ?_
    refine v_iconst dX5_month_12 1 rfl 13 rfl ?_
    refine v_iald (a := (mGr ms (t0 % 12) nE)) dX5_month_13 (by decide) (cel_ms G _) 1 rfl (by omega) (by decide) 14 rfl ?_
    refine v_topi (nI nE) ((mGr_lo ms (t0 % 12) 1 (by decide) nE).trans hn) ?_
    refine n_icmp_ge dX5_month_14 nE nE rfl rfl (by omega) (by omega) 91 (by decide) 17 rfl (fun c1 => ?_) (fun c1 => absurd c1 (by omega))
    exact hk
  | succ n ih =>
    intro i hin hk
    refine v_iload_n dX5_month_7 0 rfl 8 rfl ?_
    refine v_aload_n dX5_month_8 2 rfl 9 rfl ?_
    refine v_get (i := 0) (ci := 5) (T := TX5) (C := RX5) (N := 16) (v := .ref (ga G (94))) dX5_month_9 inB5 rfl qw_686 rfl (by decide) (by decide) (cel_mod G _) rfl 12 rfl ?_
    refine v_iconst dX5_month_12 1 rfl 13 rfl ?_
    refine v_iald (a := (mGr ms (t0 % 12) i)) dX5_month_13 (by decide) (cel_ms G _) 1 rfl (by omega) (by decide) 14 rfl ?_
    refine v_topi (nI nE) ((mGr_lo ms (t0 % 12) 1 (by decide) i).trans hn) ?_
    refine n_icmp_ge dX5_month_14 i nE rfl rfl (by omega) (by omega) 91 (by decide) 17 rfl (fun c1 => absurd c1 (by omega)) (fun c1 => ?_)
    refine v_aload_n dX5_month_17 2 rfl 18 rfl ?_
    refine v_iload_n dX5_month_18 0 rfl 19 rfl ?_
    refine v_aload_n dX5_month_19 2 rfl 20 rfl ?_
    refine v_get (i := 0) (ci := 5) (T := TX5) (C := RX5) (N := 16) (v := .ref (ga G (94))) dX5_month_20 inB5 rfl qw_686 rfl (by decide) (by decide) (cel_mod G _) rfl 23 rfl ?_
    refine v_iconst dX5_month_23 2 rfl 24 rfl ?_
    refine v_iload_n dX5_month_24 1 rfl 25 rfl ?_
    refine n_iadd dX5_month_25 2 (t0 % 12) rfl rfl 26 rfl ?_
    refine v_iald (a := (mGr ms (t0 % 12) i)) dX5_month_26 (by decide) (cel_ms G _) (2 + (t0 % 12)) rfl (by omega) (by decide) 27 rfl ?_
    refine v_callV (c_X5_growsIn l (e := i) (by omega) ((mGr ms (t0 % 12) i) (2 + (t0 % 12)))) kal_X5_growsIn rfl dX5_month_27 qw_826 qw_828 qw_24 rfl (by decide) (cel_mod G _) (by decide) [] (Nat.le_of_ble_eq_true rfl) rfl rfl 30 rfl ?_
    obtain ⟨z2, ez2⟩ : ∃ y : Int32, y = kGrows ((mGr ms (t0 % 12) i) (38 + 14 * i + 0)) ((mGr ms (t0 % 12) i) (2 + (t0 % 12))) := ⟨_, rfl⟩
    rw [← ez2]
    refine v_istore_n dX5_month_30 3 rfl (by decide) [(3, .int z2), (2, .int (nI i)), (1, .int (nI (t0 % 12))), (0, .ref (ga G (93)))] rfl 31 rfl ?_
    refine v_aload_n dX5_month_31 3 rfl 32 rfl ?_
    refine v_get (i := 0) (ci := 5) (T := TX5) (C := RX5) (N := 16) (v := .ref (ga G (94))) dX5_month_32 inB5 rfl qw_686 rfl (by decide) (by decide) (cel_mod G _) rfl 35 rfl ?_
    refine v_iload_n dX5_month_35 1 rfl 36 rfl ?_
    refine v_iconst dX5_month_36 2 rfl 37 rfl ?_
    refine v_iload_n dX5_month_37 2 rfl 38 rfl ?_
    refine n_iadd dX5_month_38 2 (t0 % 12) rfl rfl 39 rfl ?_
    refine v_callS (c_X5_spot l i (2 + (t0 % 12))) kal_X5_spot rfl dX5_month_39 qw_785 qw_786 (by decide) [.ref (ga G (94))] (Nat.le_of_ble_eq_true rfl) rfl rfl 42 rfl ?_
    refine v_iload_n dX5_month_42 0 rfl 43 rfl ?_
    refine v_aload_n dX5_month_43 3 rfl 44 rfl ?_
    refine v_iload_n dX5_month_44 1 rfl 45 rfl ?_
    refine v_callV (c_X5_losesOf l (e := i) (by omega) ) kal_X5_losesOf rfl dX5_month_45 qw_830 qw_832 qw_25 rfl (by decide) (cel_mod G _) (by decide) [.int z2, .int (nI (38 + 14 * i + (2 + (t0 % 12)))), .ref (ga G (94))] (Nat.le_of_ble_eq_true rfl) rfl rfl 48 rfl ?_
    refine v_iload_n dX5_month_48 0 rfl 49 rfl ?_
    refine v_callS (c_X5_heldTo l (mLoses ((mGr ms (t0 % 12) i) (38 + 14 * i + 0)) ((mGr ms (t0 % 12) i) (38 + 14 * i + 1))) z2) kal_X5_heldTo rfl dX5_month_49 qw_891 qw_892 (by decide) [.int z2, .int (nI (38 + 14 * i + (2 + (t0 % 12)))), .ref (ga G (94))] (Nat.le_of_ble_eq_true rfl) rfl rfl 52 rfl ?_
    refine v_isub dX5_month_52 53 rfl ?_
    refine v_iast (w2 := (K, (upd (mGr ms (t0 % 12) i) (38 + 14 * i + (2 + (t0 % 12))) (z2 - (mn (mLoses ((mGr ms (t0 % 12) i) (38 + 14 * i + 0)) ((mGr ms (t0 % 12) i) (38 + 14 * i + 1))) z2)), mk, mo, ma, mf, ik, mt, td, fr, tt, vl, wr, mb, mz, nu, mv))) dX5_month_53 (by decide) (cel_ms G _) (38 + 14 * i + (2 + (t0 % 12))) rfl (by omega) (by decide) u_ms 54 rfl ?_
    refine v_aload_n dX5_month_54 3 rfl 55 rfl ?_
    refine v_get (i := 0) (ci := 5) (T := TX5) (C := RX5) (N := 16) (v := .ref (ga G (94))) dX5_month_55 inB5 rfl qw_686 rfl (by decide) (by decide) (cel_mod G _) rfl 58 rfl ?_
    refine v_iload_n dX5_month_58 1 rfl 59 rfl ?_
    refine v_iconst dX5_month_59 1 rfl 60 rfl ?_
    refine v_callS (c_X5_spot l i 1) kal_X5_spot rfl dX5_month_60 qw_785 qw_786 (by decide) [.ref (ga G (94))] (Nat.le_of_ble_eq_true rfl) rfl rfl 63 rfl ?_
    refine v_aload_n dX5_month_63 3 rfl 64 rfl ?_
    refine v_iload_n dX5_month_64 1 rfl 65 rfl ?_
    refine v_iconst dX5_month_65 1 rfl 66 rfl ?_
    refine v_callV (c_X5_its l (e := i) (k := 1) (by omega) (by omega)) kal_X5_its rfl dX5_month_66 qw_810 qw_812 qw_22 rfl (by decide) (cel_mod G _) (by decide) [.int (nI (38 + 14 * i + 1)), .ref (ga G (94))] (Nat.le_of_ble_eq_true rfl) rfl rfl 69 rfl ?_
    refine v_aload_n dX5_month_69 3 rfl 70 rfl ?_
    refine v_iload_n dX5_month_70 1 rfl 71 rfl ?_
    refine v_callV (c_X5_calmsOf l (e := i) (by omega) ) kal_X5_calmsOf rfl dX5_month_71 qw_814 qw_816 qw_23 rfl (by decide) (cel_mod G _) (by decide) [.int ((upd (mGr ms (t0 % 12) i) (38 + 14 * i + (2 + (t0 % 12))) (z2 - (mn (mLoses ((mGr ms (t0 % 12) i) (38 + 14 * i + 0)) ((mGr ms (t0 % 12) i) (38 + 14 * i + 1))) z2))) (38 + 14 * i + 1)), .int (nI (38 + 14 * i + 1)), .ref (ga G (94))] (Nat.le_of_ble_eq_true rfl) rfl rfl 74 rfl ?_
    refine v_aload_n dX5_month_74 3 rfl 75 rfl ?_
    refine v_iload_n dX5_month_75 1 rfl 76 rfl ?_
    refine v_iconst dX5_month_76 1 rfl 77 rfl ?_
    refine v_callV (c_X5_its l (e := i) (k := 1) (by omega) (by omega)) kal_X5_its rfl dX5_month_77 qw_810 qw_812 qw_22 rfl (by decide) (cel_mod G _) (by decide) [.int (kCalms ((upd (mGr ms (t0 % 12) i) (38 + 14 * i + (2 + (t0 % 12))) (z2 - (mn (mLoses ((mGr ms (t0 % 12) i) (38 + 14 * i + 0)) ((mGr ms (t0 % 12) i) (38 + 14 * i + 1))) z2))) (38 + 14 * i + 0))), .int ((upd (mGr ms (t0 % 12) i) (38 + 14 * i + (2 + (t0 % 12))) (z2 - (mn (mLoses ((mGr ms (t0 % 12) i) (38 + 14 * i + 0)) ((mGr ms (t0 % 12) i) (38 + 14 * i + 1))) z2))) (38 + 14 * i + 1)), .int (nI (38 + 14 * i + 1)), .ref (ga G (94))] (Nat.le_of_ble_eq_true rfl) rfl rfl 80 rfl ?_
    refine v_callS (c_X5_heldTo l (kCalms ((upd (mGr ms (t0 % 12) i) (38 + 14 * i + (2 + (t0 % 12))) (z2 - (mn (mLoses ((mGr ms (t0 % 12) i) (38 + 14 * i + 0)) ((mGr ms (t0 % 12) i) (38 + 14 * i + 1))) z2))) (38 + 14 * i + 0))) ((upd (mGr ms (t0 % 12) i) (38 + 14 * i + (2 + (t0 % 12))) (z2 - (mn (mLoses ((mGr ms (t0 % 12) i) (38 + 14 * i + 0)) ((mGr ms (t0 % 12) i) (38 + 14 * i + 1))) z2))) (38 + 14 * i + 1))) kal_X5_heldTo rfl dX5_month_80 qw_891 qw_892 (by decide) [.int ((upd (mGr ms (t0 % 12) i) (38 + 14 * i + (2 + (t0 % 12))) (z2 - (mn (mLoses ((mGr ms (t0 % 12) i) (38 + 14 * i + 0)) ((mGr ms (t0 % 12) i) (38 + 14 * i + 1))) z2))) (38 + 14 * i + 1)), .int (nI (38 + 14 * i + 1)), .ref (ga G (94))] (Nat.le_of_ble_eq_true rfl) rfl rfl 83 rfl ?_
    refine v_isub dX5_month_83 84 rfl ?_
    refine v_iast (w2 := (K, (upd (upd (mGr ms (t0 % 12) i) (38 + 14 * i + (2 + (t0 % 12))) (z2 - (mn (mLoses ((mGr ms (t0 % 12) i) (38 + 14 * i + 0)) ((mGr ms (t0 % 12) i) (38 + 14 * i + 1))) z2))) (38 + 14 * i + 1) (((upd (mGr ms (t0 % 12) i) (38 + 14 * i + (2 + (t0 % 12))) (z2 - (mn (mLoses ((mGr ms (t0 % 12) i) (38 + 14 * i + 0)) ((mGr ms (t0 % 12) i) (38 + 14 * i + 1))) z2))) (38 + 14 * i + 1)) - (mn (kCalms ((upd (mGr ms (t0 % 12) i) (38 + 14 * i + (2 + (t0 % 12))) (z2 - (mn (mLoses ((mGr ms (t0 % 12) i) (38 + 14 * i + 0)) ((mGr ms (t0 % 12) i) (38 + 14 * i + 1))) z2))) (38 + 14 * i + 0))) ((upd (mGr ms (t0 % 12) i) (38 + 14 * i + (2 + (t0 % 12))) (z2 - (mn (mLoses ((mGr ms (t0 % 12) i) (38 + 14 * i + 0)) ((mGr ms (t0 % 12) i) (38 + 14 * i + 1))) z2))) (38 + 14 * i + 1)))), mk, mo, ma, mf, ik, mt, td, fr, tt, vl, wr, mb, mz, nu, mv))) dX5_month_84 (by decide) (cel_ms G _) (38 + 14 * i + 1) rfl (by omega) (by decide) u_ms 85 rfl ?_
    refine v_iinc dX5_month_85 1 rfl (nI (i + 1)) (nI_1 _) (by decide) [(2, .int (nI (i + 1))), (3, .int z2), (1, .int (nI (t0 % 12))), (0, .ref (ga G (93)))] rfl 88 rfl ?_
    refine v_goto dX5_month_88 7 (by decide) ?_
    subst ez2
    refine v_pick [0, 2, 3] [(2, .int (nI (i + 1))), (1, .int (nI (t0 % 12))), (0, .ref (ga G (93)))] rfl ?_
    exact ih (i + 1) (by omega) hk
set_option maxHeartbeats 1000000 in
set_option maxRecDepth 4000 in
theorem lp_mshear (l : Launch) {G : Gl} {X : VX} {ov : Option Value} {wF : WS} {K : CS} {ms : Nat → Int32} {mk : Nat → Int32} {mo : Nat → Int32} {ma : Nat → Int32} {mf : Nat → Int32} {ik : Int32} {mt : Nat → Int32} {td : Nat} {fr : Nat} {tt : Nat} {vl : Int32} {wr : Int32} {mb : Nat → Int32} {mz : Nat → Int32} {nu : Nat → Int64} {mv : Nat → Int64} {nE : Nat} (hn : ms 1 = nI nE) (hn8 : nE ≤ 8) {t0 : Nat} (hm : ms 0 = nI t0) (hmo : t0 < 2 ^ 30) (hJ : t0 % 12 = 5) : ∀ n i : Nat, i + n = nE → V l X 4 90 cX5_month 4 RX5 none G ov wF (K, ((mShA ms nE), mk, mo, ma, mf, ik, mt, td, fr, tt, vl, wr, mb, mz, nu, mv)) 119 [(2, .int (nI nE)), (1, .int (nI (t0 % 12))), (0, .ref (ga G (93)))] [] → V l X 4 90 cX5_month 4 RX5 none G ov wF (K, ((mShA ms i), mk, mo, ma, mf, ik, mt, td, fr, tt, vl, wr, mb, mz, nu, mv)) 93 [(2, .int (nI i)), (1, .int (nI (t0 % 12))), (0, .ref (ga G (93)))] [] := by
  intro n
  induction n with
  | zero =>
    intro i hin hk
    obtain rfl : nE = i := by omega
    refine v_iload_n dX5_month_93 0 rfl 94 rfl ?_
    refine v_aload_n dX5_month_94 2 rfl 95 rfl ?_
    refine v_get (i := 0) (ci := 5) (T := TX5) (C := RX5) (N := 16) (v := .ref (ga G (94))) dX5_month_95 inB5 rfl qw_686 rfl (by decide) (by decide) (cel_mod G _) rfl 98 rfl ?_
    refine v_iconst dX5_month_98 1 rfl 99 rfl ?_
    refine v_iald (a := (mShA ms nE)) dX5_month_99 (by decide) (cel_ms G _) 1 rfl (by omega) (by decide) 100 rfl ?_
    refine v_topi (nI nE) ((mShA_lo ms 1 (by decide) nE).trans hn) ?_
    refine n_icmp_ge dX5_month_100 nE nE rfl rfl (by omega) (by omega) 119 (by decide) 103 rfl (fun c1 => ?_) (fun c1 => absurd c1 (by omega))
    exact hk
  | succ n ih =>
    intro i hin hk
    refine v_iload_n dX5_month_93 0 rfl 94 rfl ?_
    refine v_aload_n dX5_month_94 2 rfl 95 rfl ?_
    refine v_get (i := 0) (ci := 5) (T := TX5) (C := RX5) (N := 16) (v := .ref (ga G (94))) dX5_month_95 inB5 rfl qw_686 rfl (by decide) (by decide) (cel_mod G _) rfl 98 rfl ?_
    refine v_iconst dX5_month_98 1 rfl 99 rfl ?_
    refine v_iald (a := (mShA ms i)) dX5_month_99 (by decide) (cel_ms G _) 1 rfl (by omega) (by decide) 100 rfl ?_
    refine v_topi (nI nE) ((mShA_lo ms 1 (by decide) i).trans hn) ?_
    refine n_icmp_ge dX5_month_100 i nE rfl rfl (by omega) (by omega) 119 (by decide) 103 rfl (fun c1 => absurd c1 (by omega)) (fun c1 => ?_)
    refine v_iload_n dX5_month_103 1 rfl 104 rfl ?_
    refine v_iconst dX5_month_104 5 rfl 105 rfl ?_
    refine n_icmp_ne dX5_month_105 (t0 % 12) 5 rfl rfl (by omega) (by omega) 119 (by decide) 108 rfl (fun c2 => absurd c2 (by omega)) (fun c2 => ?_)
    refine v_aload_n dX5_month_108 2 rfl 109 rfl ?_
    refine v_iload_n dX5_month_109 0 rfl 110 rfl ?_
    refine v_callV (c_X5_isShorn l (e := i) (by omega)) kal_X5_isShorn rfl dX5_month_110 qw_907 qw_909 qw_33 rfl (by decide) (cel_mod G _) (by decide) [] (Nat.le_of_ble_eq_true rfl) rfl rfl 113 rfl ?_
    refine v_iinc dX5_month_113 0 rfl (nI (i + 1)) (nI_1 _) (by decide) [(2, .int (nI (i + 1))), (1, .int (nI (t0 % 12))), (0, .ref (ga G (93)))] rfl 116 rfl ?_
    refine v_goto dX5_month_116 93 (by decide) ?_
    exact ih (i + 1) (by omega) hk
set_option maxHeartbeats 1000000 in
set_option maxRecDepth 4000 in
theorem c_X5_month (l : Launch) {G : Gl} {K : CS} {ms : Nat → Int32} {mk : Nat → Int32} {mo : Nat → Int32} {ma : Nat → Int32} {mf : Nat → Int32} {ik : Int32} {mt : Nat → Int32} {td : Nat} {fr : Nat} {tt : Nat} {vl : Int32} {wr : Int32} {mb : Nat → Int32} {mz : Nat → Int32} {nu : Nat → Int64} {mv : Nat → Int64} {nE : Nat} (hn : ms 1 = nI nE) (hn8 : nE ≤ 8) {t0 : Nat} (hm : ms 0 = nI t0) (hmo : t0 < 2 ^ 30) : Ct l G yX5_month cX5_month 4 none 4 90 [.ref (ga G (93))] (K, (ms, mk, mo, ma, mf, ik, mt, td, fr, tt, vl, wr, mb, mz, nu, mv)) (none) (K, ((mOne ms nE (t0 % 12)), mk, mo, ma, mf, ik, mt, td, fr, tt, vl, wr, mb, mz, nu, mv)) := by
  refine Ct.of (own := RX5) (by decide) rfl (Nat.le_of_ble_eq_true rfl) rfl (fun X => ?_)
  refine v_aload_n dX5_month_0 0 rfl 1 rfl ?_
  refine v_callV (c_X5_ofYear l hm (by omega)) kal_X5_ofYear rfl dX5_month_1 qw_769 qw_771 qw_16 rfl (by decide) (cel_mod G _) (by decide) [] (Nat.le_of_ble_eq_true rfl) rfl rfl 4 rfl ?_
  refine v_istore_n dX5_month_4 1 rfl (by decide) [(1, .int (nI (t0 % 12))), (0, .ref (ga G (93)))] rfl 5 rfl ?_
  refine v_iconst dX5_month_5 0 rfl 6 rfl ?_
  refine v_istore_n dX5_month_6 2 rfl (by decide) [(2, .int 0), (1, .int (nI (t0 % 12))), (0, .ref (ga G (93)))] rfl 7 rfl ?_
  refine lp_mgrow l hn hn8 hm hmo nE 0 (by omega) ?_
  by_cases hJ : t0 % 12 = 5
  · skip
    refine v_iconst dX5_month_91 0 rfl 92 rfl ?_
    refine v_istore_n dX5_month_92 2 rfl (by decide) [(2, .int 0), (1, .int (nI (t0 % 12))), (0, .ref (ga G (93)))] rfl 93 rfl ?_
    refine lp_mshear l (ms := (mGr ms (t0 % 12) nE)) ((mGr_lo ms (t0 % 12) 1 (by decide) nE).trans hn) hn8 ((mGr_lo ms (t0 % 12) 0 (by decide) nE).trans hm) hmo hJ nE 0 (by omega) ?_
    refine v_aload_n dX5_month_119 2 rfl 120 rfl ?_
    refine v_get (i := 0) (ci := 5) (T := TX5) (C := RX5) (N := 16) (v := .ref (ga G (94))) dX5_month_120 inB5 rfl qw_686 rfl (by decide) (by decide) (cel_mod G _) rfl 123 rfl ?_
    refine v_iconst dX5_month_123 0 rfl 124 rfl ?_
    refine v_dup2 dX5_month_124 rfl rfl 125 rfl ?_
    refine v_iald (a := (mShA (mGr ms (t0 % 12) nE) nE)) dX5_month_125 (by decide) (cel_ms G _) 0 rfl (by omega) (by decide) 126 rfl ?_
    refine v_iconst dX5_month_126 1 rfl 127 rfl ?_
    refine v_iadd dX5_month_127 128 rfl ?_
    refine v_iast (w2 := (K, (upd (mShA (mGr ms (t0 % 12) nE) nE) 0 (((mShA (mGr ms (t0 % 12) nE) nE) 0) + 1), mk, mo, ma, mf, ik, mt, td, fr, tt, vl, wr, mb, mz, nu, mv))) dX5_month_128 (by decide) (cel_ms G _) 0 rfl (by omega) (by decide) u_ms 129 rfl ?_
    exact v_vret dX5_month_129 (by rfl) (by simp [mOne, mOne0, hJ])
  · skip
    refine v_iconst dX5_month_91 0 rfl 92 rfl ?_
    refine v_istore_n dX5_month_92 2 rfl (by decide) [(2, .int 0), (1, .int (nI (t0 % 12))), (0, .ref (ga G (93)))] rfl 93 rfl ?_
    refine v_iload_n dX5_month_93 0 rfl 94 rfl ?_
    refine v_aload_n dX5_month_94 2 rfl 95 rfl ?_
    refine v_get (i := 0) (ci := 5) (T := TX5) (C := RX5) (N := 16) (v := .ref (ga G (94))) dX5_month_95 inB5 rfl qw_686 rfl (by decide) (by decide) (cel_mod G _) rfl 98 rfl ?_
    refine v_iconst dX5_month_98 1 rfl 99 rfl ?_
    refine v_iald (a := (mGr ms (t0 % 12) nE)) dX5_month_99 (by decide) (cel_ms G _) 1 rfl (by omega) (by decide) 100 rfl ?_
    refine v_topi (nI nE) ((mGr_lo ms (t0 % 12) 1 (by decide) nE).trans hn) ?_
    refine n_icmp_ge dX5_month_100 0 nE rfl rfl (by omega) (by omega) 119 (by decide) 103 rfl (fun c1 => ?_) (fun c1 => ?_)
    · skip
      refine v_aload_n dX5_month_119 2 rfl 120 rfl ?_
      refine v_get (i := 0) (ci := 5) (T := TX5) (C := RX5) (N := 16) (v := .ref (ga G (94))) dX5_month_120 inB5 rfl qw_686 rfl (by decide) (by decide) (cel_mod G _) rfl 123 rfl ?_
      refine v_iconst dX5_month_123 0 rfl 124 rfl ?_
      refine v_dup2 dX5_month_124 rfl rfl 125 rfl ?_
      refine v_iald (a := (mGr ms (t0 % 12) nE)) dX5_month_125 (by decide) (cel_ms G _) 0 rfl (by omega) (by decide) 126 rfl ?_
      refine v_iconst dX5_month_126 1 rfl 127 rfl ?_
      refine v_iadd dX5_month_127 128 rfl ?_
      refine v_iast (w2 := (K, (upd (mGr ms (t0 % 12) nE) 0 (((mGr ms (t0 % 12) nE) 0) + 1), mk, mo, ma, mf, ik, mt, td, fr, tt, vl, wr, mb, mz, nu, mv))) dX5_month_128 (by decide) (cel_ms G _) 0 rfl (by omega) (by decide) u_ms 129 rfl ?_
      exact v_vret dX5_month_129 (by rfl) (by simp [mOne, mOne0, c1, Nat.not_lt.mpr c1, hJ])
    · skip
      refine v_iload_n dX5_month_103 1 rfl 104 rfl ?_
      refine v_iconst dX5_month_104 5 rfl 105 rfl ?_
      refine n_icmp_ne dX5_month_105 (t0 % 12) 5 rfl rfl (by omega) (by omega) 119 (by decide) 108 rfl (fun c2 => ?_) (fun c2 => absurd c2 hJ)
      refine v_aload_n dX5_month_119 2 rfl 120 rfl ?_
      refine v_get (i := 0) (ci := 5) (T := TX5) (C := RX5) (N := 16) (v := .ref (ga G (94))) dX5_month_120 inB5 rfl qw_686 rfl (by decide) (by decide) (cel_mod G _) rfl 123 rfl ?_
      refine v_iconst dX5_month_123 0 rfl 124 rfl ?_
      refine v_dup2 dX5_month_124 rfl rfl 125 rfl ?_
      refine v_iald (a := (mGr ms (t0 % 12) nE)) dX5_month_125 (by decide) (cel_ms G _) 0 rfl (by omega) (by decide) 126 rfl ?_
      refine v_iconst dX5_month_126 1 rfl 127 rfl ?_
      refine v_iadd dX5_month_127 128 rfl ?_
      refine v_iast (w2 := (K, (upd (mGr ms (t0 % 12) nE) 0 (((mGr ms (t0 % 12) nE) 0) + 1), mk, mo, ma, mf, ik, mt, td, fr, tt, vl, wr, mb, mz, nu, mv))) dX5_month_128 (by decide) (cel_ms G _) 0 rfl (by omega) (by decide) u_ms 129 rfl ?_
      exact v_vret dX5_month_129 (by rfl) (by simp [mOne, mOne0, c1, Nat.not_le.mpr c1, hJ])
set_option maxHeartbeats 1000000 in
set_option maxRecDepth 4000 in
theorem lp_monthsGo (l : Launch) {G : Gl} {X : VX} {ov : Option Value} {wF : WS} {K : CS} {ms : Nat → Int32} {mk : Nat → Int32} {mo : Nat → Int32} {ma : Nat → Int32} {mf : Nat → Int32} {ik : Int32} {mt : Nat → Int32} {td : Nat} {fr : Nat} {tt : Nat} {vl : Int32} {wr : Int32} {mb : Nat → Int32} {mz : Nat → Int32} {nu : Nat → Int64} {mv : Nat → Int64} {nE : Nat} (hn : ms 1 = nI nE) (hn8 : nE ≤ 8) {t0 : Nat} (hm : ms 0 = nI t0) {kk : Nat} (hmo : t0 + kk < 2 ^ 30) : ∀ n i : Nat, i + n = kk → V l X 5 113 cX5_monthsGo 3 RX5 none G ov wF (K, ((mGo ms nE t0 kk), mk, mo, ma, mf, ik, mt, td, fr, tt, vl, wr, mb, mz, nu, mv)) 17 [(2, .int (nI kk)), (0, .ref (ga G (93))), (1, .int (nI kk))] [] → V l X 5 113 cX5_monthsGo 3 RX5 none G ov wF (K, ((mGo ms nE t0 i), mk, mo, ma, mf, ik, mt, td, fr, tt, vl, wr, mb, mz, nu, mv)) 2 [(2, .int (nI i)), (0, .ref (ga G (93))), (1, .int (nI kk))] [] := by
  intro n
  induction n with
  | zero =>
    intro i hin hk
    obtain rfl : kk = i := by omega
    refine v_iload_n dX5_monthsGo_2 0 rfl 3 rfl ?_
    refine v_iload_n dX5_monthsGo_3 2 rfl 4 rfl ?_
    refine n_icmp_ge dX5_monthsGo_4 kk kk rfl rfl (by omega) (by omega) 17 (by decide) 7 rfl (fun c1 => ?_) (fun c1 => absurd c1 (by omega))
    exact hk
  | succ n ih =>
    intro i hin hk
    refine v_iload_n dX5_monthsGo_2 0 rfl 3 rfl ?_
    refine v_iload_n dX5_monthsGo_3 2 rfl 4 rfl ?_
    refine n_icmp_ge dX5_monthsGo_4 i kk rfl rfl (by omega) (by omega) 17 (by decide) 7 rfl (fun c1 => absurd c1 (by omega)) (fun c1 => ?_)
    refine v_aload_n dX5_monthsGo_7 1 rfl 8 rfl ?_
    refine v_callV (c_X5_month l ((mGo_lo ms nE t0 1 (by decide) (by decide) i).trans hn) hn8 (mGo_mo ms nE t0 hm i) (by omega)) kal_X5_month rfl dX5_monthsGo_8 qw_903 qw_905 qw_32 rfl (by decide) (cel_mod G _) (by decide) [] (Nat.le_of_ble_eq_true rfl) rfl rfl 11 rfl ?_
    refine v_iinc dX5_monthsGo_11 0 rfl (nI (i + 1)) (nI_1 _) (by decide) [(2, .int (nI (i + 1))), (0, .ref (ga G (93))), (1, .int (nI kk))] rfl 14 rfl ?_
    refine v_goto dX5_monthsGo_14 2 (by decide) ?_
    exact ih (i + 1) (by omega) hk
set_option maxHeartbeats 1000000 in
set_option maxRecDepth 4000 in
theorem c_X5_monthsGo (l : Launch) {G : Gl} {K : CS} {ms : Nat → Int32} {mk : Nat → Int32} {mo : Nat → Int32} {ma : Nat → Int32} {mf : Nat → Int32} {ik : Int32} {mt : Nat → Int32} {td : Nat} {fr : Nat} {tt : Nat} {vl : Int32} {wr : Int32} {mb : Nat → Int32} {mz : Nat → Int32} {nu : Nat → Int64} {mv : Nat → Int64} {nE : Nat} (hn : ms 1 = nI nE) (hn8 : nE ≤ 8) {t0 : Nat} (hm : ms 0 = nI t0) {kk : Nat} (hmo : t0 + kk < 2 ^ 30) : Ct l G yX5_monthsGo cX5_monthsGo 3 none 5 113 [.ref (ga G (93)), .int (nI kk)] (K, (ms, mk, mo, ma, mf, ik, mt, td, fr, tt, vl, wr, mb, mz, nu, mv)) (none) (K, ((mGo ms nE t0 kk), mk, mo, ma, mf, ik, mt, td, fr, tt, vl, wr, mb, mz, nu, mv)) := by
  refine Ct.of (own := RX5) (by decide) rfl (Nat.le_of_ble_eq_true rfl) rfl (fun X => ?_)
  refine v_iconst dX5_monthsGo_0 0 rfl 1 rfl ?_
  refine v_istore_n dX5_monthsGo_1 2 rfl (by decide) [(2, .int 0), (0, .ref (ga G (93))), (1, .int (nI kk))] rfl 2 rfl ?_
  refine lp_monthsGo l hn hn8 hm hmo kk 0 (by omega) ?_
  exact v_vret dX5_monthsGo_17 (by rfl) (by rfl)
set_option maxHeartbeats 1000000 in
set_option maxRecDepth 4000 in
theorem c_X5_behind (l : Launch) {G : Gl} {K : CS} {ms : Nat → Int32} {mk : Nat → Int32} {mo : Nat → Int32} {ma : Nat → Int32} {mf : Nat → Int32} {ik : Int32} {mt : Nat → Int32} {td : Nat} {fr : Nat} {tt : Nat} {vl : Int32} {wr : Int32} {mb : Nat → Int32} {mz : Nat → Int32} {nu : Nat → Int64} {mv : Nat → Int64} {nE : Nat} (hn : ms 1 = nI nE) (hn8 : nE ≤ 8) {t0 : Nat} (hm : ms 0 = nI t0) {kk : Nat} (hmo : t0 + kk < 2 ^ 30) {k : Nat} (hk : k < 198) : Ct l G yX5_behind cX5_behind 3 (some .int) 6 135 [.ref (ga G (93)), .int (nI k), .int (nI kk)] (K, (ms, mk, mo, ma, mf, ik, mt, td, fr, tt, vl, wr, mb, mz, nu, mv)) (some (.int (mGo ms nE t0 kk k))) (K, (ms, mk, mo, ms, mf, ik, mt, td, fr, tt, vl, wr, mb, mz, nu, mv)) := by
  refine Ct.of (own := RX5) (by decide) rfl (Nat.le_of_ble_eq_true rfl) rfl (fun X => ?_)
  refine v_aload_n dX5_behind_0 0 rfl 1 rfl ?_
  refine v_callV (c_X5_laysAside l ) kal_X5_laysAside rfl dX5_behind_1 qw_923 qw_925 qw_35 rfl (by decide) (cel_mod G _) (by decide) [] (Nat.le_of_ble_eq_true rfl) rfl rfl 4 rfl ?_
  refine v_aload_n dX5_behind_4 0 rfl 5 rfl ?_
  refine v_iload_n dX5_behind_5 2 rfl 6 rfl ?_
  refine v_callV (c_X5_monthsGo l hn hn8 hm (by omega)) kal_X5_monthsGo rfl dX5_behind_6 qw_899 qw_901 qw_31 rfl (by decide) (cel_mod G _) (by decide) [] (Nat.le_of_ble_eq_true rfl) rfl rfl 9 rfl ?_
  refine v_aload_n dX5_behind_9 0 rfl 10 rfl ?_
  refine v_aload_n dX5_behind_10 0 rfl 11 rfl ?_
  refine v_get (i := 0) (ci := 5) (T := TX5) (C := RX5) (N := 16) (v := .ref (ga G (94))) dX5_behind_11 inB5 rfl qw_686 rfl (by decide) (by decide) (cel_mod G _) rfl 14 rfl ?_
  refine v_iload_n dX5_behind_14 1 rfl 15 rfl ?_
  refine v_iald (a := (mGo ms nE t0 kk)) dX5_behind_15 (by decide) (cel_ms G _) k rfl (by omega) (by decide) 16 rfl ?_
  refine v_callV (c_X5_takesBack l ((mGo ms nE t0 kk) k)) kal_X5_takesBack rfl dX5_behind_16 qw_927 qw_929 qw_36 rfl (by decide) (cel_mod G _) (by decide) [] (Nat.le_of_ble_eq_true rfl) rfl rfl 19 rfl ?_
  exact v_iret dX5_behind_19 (by rfl) (by rfl)
set_option maxHeartbeats 1000000 in
set_option maxRecDepth 4000 in
theorem c_X5_twelveBehind (l : Launch) {G : Gl} {K : CS} {ms : Nat → Int32} {mk : Nat → Int32} {mo : Nat → Int32} {ma : Nat → Int32} {mf : Nat → Int32} {ik : Int32} {mt : Nat → Int32} {td : Nat} {fr : Nat} {tt : Nat} {vl : Int32} {wr : Int32} {mb : Nat → Int32} {mz : Nat → Int32} {nu : Nat → Int64} {mv : Nat → Int64} {nE : Nat} (hn : ms 1 = nI nE) (hn8 : nE ≤ 8) {t0 : Nat} (hm : ms 0 = nI t0) {kk : Nat} (hmo : t0 + kk < 2 ^ 30) {k : Nat} (hk : k + 12 ≤ 198) : Ct l G yX5_twelveBehind cX5_twelveBehind 3 (some .int) 6 135 [.ref (ga G (93)), .int (nI k), .int (nI kk)] (K, (ms, mk, mo, ma, mf, ik, mt, td, fr, tt, vl, wr, mb, mz, nu, mv)) (some (.int (sm (fun m => mGo ms nE t0 kk (k + m)) 12))) (K, (ms, mk, mo, ms, mf, ik, mt, td, fr, tt, vl, wr, mb, mz, nu, mv)) := by
  refine Ct.of (own := RX5) (by decide) rfl (Nat.le_of_ble_eq_true rfl) rfl (fun X => ?_)
  refine v_aload_n dX5_twelveBehind_0 0 rfl 1 rfl ?_
  refine v_callV (c_X5_laysAside l ) kal_X5_laysAside rfl dX5_twelveBehind_1 qw_923 qw_925 qw_35 rfl (by decide) (cel_mod G _) (by decide) [] (Nat.le_of_ble_eq_true rfl) rfl rfl 4 rfl ?_
  refine v_aload_n dX5_twelveBehind_4 0 rfl 5 rfl ?_
  refine v_iload_n dX5_twelveBehind_5 2 rfl 6 rfl ?_
  refine v_callV (c_X5_monthsGo l hn hn8 hm (by omega)) kal_X5_monthsGo rfl dX5_twelveBehind_6 qw_899 qw_901 qw_31 rfl (by decide) (cel_mod G _) (by decide) [] (Nat.le_of_ble_eq_true rfl) rfl rfl 9 rfl ?_
  refine v_aload_n dX5_twelveBehind_9 0 rfl 10 rfl ?_
  refine v_aload_n dX5_twelveBehind_10 0 rfl 11 rfl ?_
  refine v_iload_n dX5_twelveBehind_11 1 rfl 12 rfl ?_
  refine v_callV (c_X5_twelve l (k := k) (by omega)) kal_X5_twelve rfl dX5_twelveBehind_12 qw_773 qw_775 qw_17 rfl (by decide) (cel_mod G _) (by decide) [.ref (ga G (93))] (Nat.le_of_ble_eq_true rfl) rfl rfl 15 rfl ?_
  refine v_callV (c_X5_takesBack l (sm (fun m => (mGo ms nE t0 kk) (k + m)) 12)) kal_X5_takesBack rfl dX5_twelveBehind_15 qw_927 qw_929 qw_36 rfl (by decide) (cel_mod G _) (by decide) [] (Nat.le_of_ble_eq_true rfl) rfl rfl 18 rfl ?_
  exact v_iret dX5_twelveBehind_18 (by rfl) (by rfl)
set_option maxHeartbeats 1000000 in
set_option maxRecDepth 4000 in
theorem lp_adds (l : Launch) {G : Gl} {X : VX} {ov : Option Value} {wF : WS} {K : CS} {ms : Nat → Int32} {mk : Nat → Int32} {mo : Nat → Int32} {ma : Nat → Int32} {mf : Nat → Int32} {ik : Int32} {mt : Nat → Int32} {td : Nat} {fr : Nat} {tt : Nat} {vl : Int32} {wr : Int32} {mb : Nat → Int32} {mz : Nat → Int32} {nu : Nat → Int64} {mv : Nat → Int64} {nE : Nat} (hn : ms 1 = nI nE) (hn8 : nE < 8) (x : Int32) : ∀ n i : Nat, i + n = 14 → V l X 1 21 cX5_adds 4 RX5 (some .int) G ov wF (K, ((mAdd0 ms nE 14), mk, mo, ma, mf, ik, mt, td, fr, tt, vl, wr, mb, mz, nu, mv)) 42 [(3, .int (nI 14)), (2, .int (nI nE)), (0, .ref (ga G (93))), (1, .int x)] [] → V l X 1 21 cX5_adds 4 RX5 (some .int) G ov wF (K, ((mAdd0 ms nE i), mk, mo, ma, mf, ik, mt, td, fr, tt, vl, wr, mb, mz, nu, mv)) 19 [(3, .int (nI i)), (2, .int (nI nE)), (0, .ref (ga G (93))), (1, .int x)] [] := by
  intro n
  induction n with
  | zero =>
    intro i hin hk
    obtain rfl : 14 = i := by omega
    refine v_iload_n dX5_adds_19 0 rfl 20 rfl ?_
    refine v_bipush dX5_adds_20 14 rfl 22 rfl ?_
    refine n_icmp_ge dX5_adds_22 14 14 rfl rfl (by omega) (by omega) 42 (by decide) 25 rfl (fun c1 => ?_) (fun c1 => absurd c1 (by omega))
    exact hk
  | succ n ih =>
    intro i hin hk
    refine v_iload_n dX5_adds_19 0 rfl 20 rfl ?_
    refine v_bipush dX5_adds_20 14 rfl 22 rfl ?_
    refine n_icmp_ge dX5_adds_22 i 14 rfl rfl (by omega) (by omega) 42 (by decide) 25 rfl (fun c1 => absurd c1 (by omega)) (fun c1 => ?_)
    refine v_aload_n dX5_adds_25 2 rfl 26 rfl ?_
    refine v_get (i := 0) (ci := 5) (T := TX5) (C := RX5) (N := 16) (v := .ref (ga G (94))) dX5_adds_26 inB5 rfl qw_686 rfl (by decide) (by decide) (cel_mod G _) rfl 29 rfl ?_
    refine v_iload_n dX5_adds_29 1 rfl 30 rfl ?_
    refine v_iload_n dX5_adds_30 0 rfl 31 rfl ?_
    refine v_callS (c_X5_spot l nE i) kal_X5_spot rfl dX5_adds_31 qw_785 qw_786 (by decide) [.ref (ga G (94))] (Nat.le_of_ble_eq_true rfl) rfl rfl 34 rfl ?_
    refine v_iconst dX5_adds_34 0 rfl 35 rfl ?_
    refine v_iast (w2 := (K, (upd (mAdd0 ms nE i) (38 + 14 * nE + i) 0, mk, mo, ma, mf, ik, mt, td, fr, tt, vl, wr, mb, mz, nu, mv))) dX5_adds_35 (by decide) (cel_ms G _) (38 + 14 * nE + i) rfl (by omega) (by decide) u_ms 36 rfl ?_
    refine v_iinc dX5_adds_36 0 rfl (nI (i + 1)) (nI_1 _) (by decide) [(3, .int (nI (i + 1))), (2, .int (nI nE)), (0, .ref (ga G (93))), (1, .int x)] rfl 39 rfl ?_
    refine v_goto dX5_adds_39 19 (by decide) ?_
    exact ih (i + 1) (by omega) hk
set_option maxHeartbeats 1000000 in
set_option maxRecDepth 4000 in
theorem c_X5_adds (l : Launch) {G : Gl} {K : CS} {ms : Nat → Int32} {mk : Nat → Int32} {mo : Nat → Int32} {ma : Nat → Int32} {mf : Nat → Int32} {ik : Int32} {mt : Nat → Int32} {td : Nat} {fr : Nat} {tt : Nat} {vl : Int32} {wr : Int32} {mb : Nat → Int32} {mz : Nat → Int32} {nu : Nat → Int64} {mv : Nat → Int64} {nE : Nat} (hn : ms 1 = nI nE) (hn8 : nE < 8) (x : Int32) : Ct l G yX5_adds cX5_adds 4 (some .int) 1 21 [.ref (ga G (93)), .int x] (K, (ms, mk, mo, ma, mf, ik, mt, td, fr, tt, vl, wr, mb, mz, nu, mv)) (some (.int (nI nE))) (K, ((mAdd ms nE x), mk, mo, ma, mf, ik, mt, td, fr, tt, vl, wr, mb, mz, nu, mv)) := by
  refine Ct.of (own := RX5) (by decide) rfl (Nat.le_of_ble_eq_true rfl) rfl (fun X => ?_)
  refine v_aload_n dX5_adds_0 0 rfl 1 rfl ?_
  refine v_get (i := 0) (ci := 5) (T := TX5) (C := RX5) (N := 16) (v := .ref (ga G (94))) dX5_adds_1 inB5 rfl qw_686 rfl (by decide) (by decide) (cel_mod G _) rfl 4 rfl ?_
  refine v_iconst dX5_adds_4 1 rfl 5 rfl ?_
  refine v_iald (a := ms) dX5_adds_5 (by decide) (cel_ms G _) 1 rfl (by omega) (by decide) 6 rfl ?_
  refine v_topi (nI nE) hn ?_
  refine v_istore_n dX5_adds_6 2 rfl (by decide) [(2, .int (nI nE)), (0, .ref (ga G (93))), (1, .int x)] rfl 7 rfl ?_
  refine v_aload_n dX5_adds_7 1 rfl 8 rfl ?_
  refine v_get (i := 0) (ci := 5) (T := TX5) (C := RX5) (N := 16) (v := .ref (ga G (94))) dX5_adds_8 inB5 rfl qw_686 rfl (by decide) (by decide) (cel_mod G _) rfl 11 rfl ?_
  refine v_iconst dX5_adds_11 1 rfl 12 rfl ?_
  refine v_dup2 dX5_adds_12 rfl rfl 13 rfl ?_
  refine v_iald (a := ms) dX5_adds_13 (by decide) (cel_ms G _) 1 rfl (by omega) (by decide) 14 rfl ?_
  refine v_topi (nI nE) hn ?_
  refine v_iconst dX5_adds_14 1 rfl 15 rfl ?_
  refine n_iadd dX5_adds_15 nE 1 rfl rfl 16 rfl ?_
  refine v_iast (w2 := (K, (upd ms 1 (nI (nE + 1)), mk, mo, ma, mf, ik, mt, td, fr, tt, vl, wr, mb, mz, nu, mv))) dX5_adds_16 (by decide) (cel_ms G _) 1 rfl (by omega) (by decide) u_ms 17 rfl ?_
  refine v_iconst dX5_adds_17 0 rfl 18 rfl ?_
  refine v_istore_n dX5_adds_18 3 rfl (by decide) [(3, .int 0), (2, .int (nI nE)), (0, .ref (ga G (93))), (1, .int x)] rfl 19 rfl ?_
  refine v_w (w2 := (K, ((mAdd0 ms nE 0), mk, mo, ma, mf, ik, mt, td, fr, tt, vl, wr, mb, mz, nu, mv))) (by unfold mAdd0; rw [hn, nI_1]) ?_
  refine lp_adds l hn hn8 x 14 0 (by omega) ?_
  refine v_aload_n dX5_adds_42 2 rfl 43 rfl ?_
  refine v_get (i := 0) (ci := 5) (T := TX5) (C := RX5) (N := 16) (v := .ref (ga G (94))) dX5_adds_43 inB5 rfl qw_686 rfl (by decide) (by decide) (cel_mod G _) rfl 46 rfl ?_
  refine v_iload_n dX5_adds_46 1 rfl 47 rfl ?_
  refine v_iconst dX5_adds_47 0 rfl 48 rfl ?_
  refine v_callS (c_X5_spot l nE 0) kal_X5_spot rfl dX5_adds_48 qw_785 qw_786 (by decide) [.ref (ga G (94))] (Nat.le_of_ble_eq_true rfl) rfl rfl 51 rfl ?_
  refine v_iload_n dX5_adds_51 3 rfl 52 rfl ?_
  refine v_iast (w2 := (K, (upd (mAdd0 ms nE 14) (38 + 14 * nE + 0) x, mk, mo, ma, mf, ik, mt, td, fr, tt, vl, wr, mb, mz, nu, mv))) dX5_adds_52 (by decide) (cel_ms G _) (38 + 14 * nE + 0) rfl (by omega) (by decide) u_ms 53 rfl ?_
  refine v_iload_n dX5_adds_53 1 rfl 54 rfl ?_
  exact v_iret dX5_adds_54 (by rfl) (by rfl)
set_option maxHeartbeats 1000000 in
set_option maxRecDepth 4000 in
theorem lp_mwarmthOf (l : Launch) {G : Gl} {X : VX} {ov : Option Value} {wF : WS} {K : CS} {ms : Nat → Int32} {mk : Nat → Int32} {mo : Nat → Int32} {ma : Nat → Int32} {mf : Nat → Int32} {ik : Int32} {mt : Nat → Int32} {td : Nat} {fr : Nat} {tt : Nat} {vl : Int32} {wr : Int32} {mb : Nat → Int32} {mz : Nat → Int32} {nu : Nat → Int64} {mv : Nat → Int64} {c : Nat} (hc : c < 4) : ∀ n i : Nat, i + n = 12 → V l X 1 21 cX5_warmthOf 6 RX5 (some .int) G ov wF (K, (ms, mk, mo, ma, mf, ik, mt, td, fr, tt, vl, wr, mb, mz, nu, mv)) 69 [(3, .int (nI 12)), (2, .int (sm (fun m => wOf (ms (2 + m)) (ms (150 + 12 * c + m))) 12)), (0, .ref (ga G (93))), (1, .int (nI c))] [] → V l X 1 21 cX5_warmthOf 6 RX5 (some .int) G ov wF (K, (ms, mk, mo, ma, mf, ik, mt, td, fr, tt, vl, wr, mb, mz, nu, mv)) 4 [(3, .int (nI i)), (2, .int (sm (fun m => wOf (ms (2 + m)) (ms (150 + 12 * c + m))) i)), (0, .ref (ga G (93))), (1, .int (nI c))] [] := by
  intro n
  induction n with
  | zero =>
    intro i hin hk
    obtain rfl : 12 = i := by omega
    refine v_iload_n dX5_warmthOf_4 0 rfl 5 rfl ?_
    refine v_bipush dX5_warmthOf_5 12 rfl 7 rfl ?_
    refine n_icmp_ge dX5_warmthOf_7 12 12 rfl rfl (by omega) (by omega) 69 (by decide) 10 rfl (fun c1 => ?_) (fun c1 => absurd c1 (by omega))
    exact hk
  | succ n ih =>
    intro i hin hk
    refine v_iload_n dX5_warmthOf_4 0 rfl 5 rfl ?_
    refine v_bipush dX5_warmthOf_5 12 rfl 7 rfl ?_
    refine n_icmp_ge dX5_warmthOf_7 i 12 rfl rfl (by omega) (by omega) 69 (by decide) 10 rfl (fun c1 => absurd c1 (by omega)) (fun c1 => ?_)
    refine v_aload_n dX5_warmthOf_10 2 rfl 11 rfl ?_
    refine v_get (i := 0) (ci := 5) (T := TX5) (C := RX5) (N := 16) (v := .ref (ga G (94))) dX5_warmthOf_11 inB5 rfl qw_686 rfl (by decide) (by decide) (cel_mod G _) rfl 14 rfl ?_
    refine v_iload_n dX5_warmthOf_14 3 rfl 15 rfl ?_
    refine v_iload_n dX5_warmthOf_15 0 rfl 16 rfl ?_
    refine v_callS (c_X5_coatSpot l c i) kal_X5_coatSpot rfl dX5_warmthOf_16 qw_864 qw_865 (by decide) [.ref (ga G (94))] (Nat.le_of_ble_eq_true rfl) rfl rfl 19 rfl ?_
    refine v_iald (a := ms) dX5_warmthOf_19 (by decide) (cel_ms G _) (150 + 12 * c + i) rfl (by omega) (by decide) 20 rfl ?_
    refine v_istore dX5_warmthOf_20 (by decide) [(4, .int (ms (150 + 12 * c + i))), (3, .int (nI i)), (2, .int (sm (fun m => wOf (ms (2 + m)) (ms (150 + 12 * c + m))) i)), (0, .ref (ga G (93))), (1, .int (nI c))] rfl 22 rfl ?_
    refine v_aload_n dX5_warmthOf_22 3 rfl 23 rfl ?_
    refine v_get (i := 0) (ci := 5) (T := TX5) (C := RX5) (N := 16) (v := .ref (ga G (94))) dX5_warmthOf_23 inB5 rfl qw_686 rfl (by decide) (by decide) (cel_mod G _) rfl 26 rfl ?_
    refine v_iconst dX5_warmthOf_26 2 rfl 27 rfl ?_
    refine v_iload_n dX5_warmthOf_27 1 rfl 28 rfl ?_
    refine n_iadd dX5_warmthOf_28 2 i rfl rfl 29 rfl ?_
    refine v_iald (a := ms) dX5_warmthOf_29 (by decide) (cel_ms G _) (2 + i) rfl (by omega) (by decide) 30 rfl ?_
    refine v_istore dX5_warmthOf_30 (by decide) [(5, .int (ms (2 + i))), (4, .int (ms (150 + 12 * c + i))), (3, .int (nI i)), (2, .int (sm (fun m => wOf (ms (2 + m)) (ms (150 + 12 * c + m))) i)), (0, .ref (ga G (93))), (1, .int (nI c))] rfl 32 rfl ?_
    refine v_iload_n dX5_warmthOf_32 3 rfl 33 rfl ?_
    refine v_iload dX5_warmthOf_33 0 rfl 35 rfl ?_
    refine v_if_ge dX5_warmthOf_35 45 (by decide) 38 rfl (fun c2 => ?_) (fun c2 => ?_)
    · skip
      refine v_iload dX5_warmthOf_45 0 rfl 47 rfl ?_
      refine v_bipush dX5_warmthOf_47 10 rfl 49 rfl ?_
      refine v_icmp_le dX5_warmthOf_49 59 (by decide) 52 rfl (fun c3 => ?_) (fun c3 => ?_)
      · skip
        refine v_iload dX5_warmthOf_59 1 rfl 61 rfl ?_
        refine v_iadd dX5_warmthOf_61 62 rfl ?_
        obtain ⟨z4, ez4⟩ : ∃ y : Int32, y = (sm (fun m => wOf (ms (2 + m)) (ms (150 + 12 * c + m))) i) + (ms (150 + 12 * c + i)) := ⟨_, rfl⟩
        rw [← ez4]
        refine v_istore_n dX5_warmthOf_62 2 rfl (by decide) [(2, .int z4), (5, .int (ms (2 + i))), (4, .int (ms (150 + 12 * c + i))), (3, .int (nI i)), (0, .ref (ga G (93))), (1, .int (nI c))] rfl 63 rfl ?_
        refine v_iinc dX5_warmthOf_63 3 rfl (nI (i + 1)) (nI_1 _) (by decide) [(3, .int (nI (i + 1))), (2, .int z4), (5, .int (ms (2 + i))), (4, .int (ms (150 + 12 * c + i))), (0, .ref (ga G (93))), (1, .int (nI c))] rfl 66 rfl ?_
        refine v_goto dX5_warmthOf_66 4 (by decide) ?_
        subst ez4
        have e9 : sm (fun m => wOf (ms (2 + m)) (ms (150 + 12 * c + m))) (i + 1) = ((sm (fun m => wOf (ms (2 + m)) (ms (150 + 12 * c + m))) i) + (ms (150 + 12 * c + i))) := by simp [sm, wOf, c2, Int32.not_lt.mpr c2, c3, Int32.not_lt.mpr c3]
        rw [← e9]
        refine v_pick [0, 1, 4, 5] [(3, .int (nI (i + 1))), (2, .int (sm (fun m => wOf (ms (2 + m)) (ms (150 + 12 * c + m))) (i + 1))), (0, .ref (ga G (93))), (1, .int (nI c))] rfl ?_
        exact ih (i + 1) (by omega) hk
      · skip
        refine v_iload dX5_warmthOf_52 1 rfl 54 rfl ?_
        refine v_iconst dX5_warmthOf_54 2 rfl 55 rfl ?_
        refine v_idiv dX5_warmthOf_55 (by decide) 56 rfl ?_
        refine v_goto dX5_warmthOf_56 61 (by decide) ?_
        refine v_iadd dX5_warmthOf_61 62 rfl ?_
        obtain ⟨z5, ez5⟩ : ∃ y : Int32, y = (sm (fun m => wOf (ms (2 + m)) (ms (150 + 12 * c + m))) i) + ((ms (150 + 12 * c + i)) / 2) := ⟨_, rfl⟩
        rw [← ez5]
        refine v_istore_n dX5_warmthOf_62 2 rfl (by decide) [(2, .int z5), (5, .int (ms (2 + i))), (4, .int (ms (150 + 12 * c + i))), (3, .int (nI i)), (0, .ref (ga G (93))), (1, .int (nI c))] rfl 63 rfl ?_
        refine v_iinc dX5_warmthOf_63 3 rfl (nI (i + 1)) (nI_1 _) (by decide) [(3, .int (nI (i + 1))), (2, .int z5), (5, .int (ms (2 + i))), (4, .int (ms (150 + 12 * c + i))), (0, .ref (ga G (93))), (1, .int (nI c))] rfl 66 rfl ?_
        refine v_goto dX5_warmthOf_66 4 (by decide) ?_
        subst ez5
        have e9 : sm (fun m => wOf (ms (2 + m)) (ms (150 + 12 * c + m))) (i + 1) = ((sm (fun m => wOf (ms (2 + m)) (ms (150 + 12 * c + m))) i) + ((ms (150 + 12 * c + i)) / 2)) := by simp [sm, wOf, c2, Int32.not_lt.mpr c2, c3, Int32.not_le.mp c3]
        rw [← e9]
        refine v_pick [0, 1, 4, 5] [(3, .int (nI (i + 1))), (2, .int (sm (fun m => wOf (ms (2 + m)) (ms (150 + 12 * c + m))) (i + 1))), (0, .ref (ga G (93))), (1, .int (nI c))] rfl ?_
        exact ih (i + 1) (by omega) hk
    · skip
      refine v_iconst dX5_warmthOf_38 2 rfl 39 rfl ?_
      refine v_iload dX5_warmthOf_39 1 rfl 41 rfl ?_
      refine v_imul dX5_warmthOf_41 42 rfl ?_
      refine v_goto dX5_warmthOf_42 61 (by decide) ?_
      refine v_iadd dX5_warmthOf_61 62 rfl ?_
      obtain ⟨z6, ez6⟩ : ∃ y : Int32, y = (sm (fun m => wOf (ms (2 + m)) (ms (150 + 12 * c + m))) i) + (2 * (ms (150 + 12 * c + i))) := ⟨_, rfl⟩
      rw [← ez6]
      refine v_istore_n dX5_warmthOf_62 2 rfl (by decide) [(2, .int z6), (5, .int (ms (2 + i))), (4, .int (ms (150 + 12 * c + i))), (3, .int (nI i)), (0, .ref (ga G (93))), (1, .int (nI c))] rfl 63 rfl ?_
      refine v_iinc dX5_warmthOf_63 3 rfl (nI (i + 1)) (nI_1 _) (by decide) [(3, .int (nI (i + 1))), (2, .int z6), (5, .int (ms (2 + i))), (4, .int (ms (150 + 12 * c + i))), (0, .ref (ga G (93))), (1, .int (nI c))] rfl 66 rfl ?_
      refine v_goto dX5_warmthOf_66 4 (by decide) ?_
      subst ez6
      have e9 : sm (fun m => wOf (ms (2 + m)) (ms (150 + 12 * c + m))) (i + 1) = ((sm (fun m => wOf (ms (2 + m)) (ms (150 + 12 * c + m))) i) + (2 * (ms (150 + 12 * c + i)))) := by simp [sm, wOf, c2, Int32.not_le.mp c2]
      rw [← e9]
      refine v_pick [0, 1, 4, 5] [(3, .int (nI (i + 1))), (2, .int (sm (fun m => wOf (ms (2 + m)) (ms (150 + 12 * c + m))) (i + 1))), (0, .ref (ga G (93))), (1, .int (nI c))] rfl ?_
      exact ih (i + 1) (by omega) hk
set_option maxHeartbeats 1000000 in
set_option maxRecDepth 4000 in
theorem c_X5_warmthOf (l : Launch) {G : Gl} {K : CS} {ms : Nat → Int32} {mk : Nat → Int32} {mo : Nat → Int32} {ma : Nat → Int32} {mf : Nat → Int32} {ik : Int32} {mt : Nat → Int32} {td : Nat} {fr : Nat} {tt : Nat} {vl : Int32} {wr : Int32} {mb : Nat → Int32} {mz : Nat → Int32} {nu : Nat → Int64} {mv : Nat → Int64} {c : Nat} (hc : c < 4) : Ct l G yX5_warmthOf cX5_warmthOf 6 (some .int) 1 21 [.ref (ga G (93)), .int (nI c)] (K, (ms, mk, mo, ma, mf, ik, mt, td, fr, tt, vl, wr, mb, mz, nu, mv)) (some (.int (mWarm ms c))) (K, (ms, mk, mo, ma, mf, ik, mt, td, fr, tt, vl, wr, mb, mz, nu, mv)) := by
  refine Ct.of (own := RX5) (by decide) rfl (Nat.le_of_ble_eq_true rfl) rfl (fun X => ?_)
  refine v_iconst dX5_warmthOf_0 0 rfl 1 rfl ?_
  refine v_istore_n dX5_warmthOf_1 2 rfl (by decide) [(2, .int 0), (0, .ref (ga G (93))), (1, .int (nI c))] rfl 2 rfl ?_
  refine v_iconst dX5_warmthOf_2 0 rfl 3 rfl ?_
  refine v_istore_n dX5_warmthOf_3 3 rfl (by decide) [(3, .int 0), (2, .int 0), (0, .ref (ga G (93))), (1, .int (nI c))] rfl 4 rfl ?_
  refine lp_mwarmthOf l hc 12 0 (by omega) ?_
  refine v_iload_n dX5_warmthOf_69 1 rfl 70 rfl ?_
  exact v_iret dX5_warmthOf_70 (by rfl) (by rfl)
set_option maxHeartbeats 1000000 in
set_option maxRecDepth 4000 in
theorem lp_mharshOf (l : Launch) {G : Gl} {X : VX} {ov : Option Value} {wF : WS} {K : CS} {ms : Nat → Int32} {mk : Nat → Int32} {mo : Nat → Int32} {ma : Nat → Int32} {mf : Nat → Int32} {ik : Int32} {mt : Nat → Int32} {td : Nat} {fr : Nat} {tt : Nat} {vl : Int32} {wr : Int32} {mb : Nat → Int32} {mz : Nat → Int32} {nu : Nat → Int64} {mv : Nat → Int64} {c : Nat} (hc : c < 4) : ∀ n i : Nat, i + n = 12 → V l X 1 21 cX5_harshOf 4 RX5 (some .int) G ov wF (K, (ms, mk, mo, ma, mf, ik, mt, td, fr, tt, vl, wr, mb, mz, nu, mv)) 42 [(3, .int (nI 12)), (2, .int (sm (fun m => ms (150 + 12 * c + m) * ms (26 + m) / 100) 12)), (0, .ref (ga G (93))), (1, .int (nI c))] [] → V l X 1 21 cX5_harshOf 4 RX5 (some .int) G ov wF (K, (ms, mk, mo, ma, mf, ik, mt, td, fr, tt, vl, wr, mb, mz, nu, mv)) 4 [(3, .int (nI i)), (2, .int (sm (fun m => ms (150 + 12 * c + m) * ms (26 + m) / 100) i)), (0, .ref (ga G (93))), (1, .int (nI c))] [] := by
  intro n
  induction n with
  | zero =>
    intro i hin hk
    obtain rfl : 12 = i := by omega
    refine v_iload_n dX5_harshOf_4 0 rfl 5 rfl ?_
    refine v_bipush dX5_harshOf_5 12 rfl 7 rfl ?_
    refine n_icmp_ge dX5_harshOf_7 12 12 rfl rfl (by omega) (by omega) 42 (by decide) 10 rfl (fun c1 => ?_) (fun c1 => absurd c1 (by omega))
    exact hk
  | succ n ih =>
    intro i hin hk
    refine v_iload_n dX5_harshOf_4 0 rfl 5 rfl ?_
    refine v_bipush dX5_harshOf_5 12 rfl 7 rfl ?_
    refine n_icmp_ge dX5_harshOf_7 i 12 rfl rfl (by omega) (by omega) 42 (by decide) 10 rfl (fun c1 => absurd c1 (by omega)) (fun c1 => ?_)
    refine v_iload_n dX5_harshOf_10 1 rfl 11 rfl ?_
    refine v_aload_n dX5_harshOf_11 2 rfl 12 rfl ?_
    refine v_get (i := 0) (ci := 5) (T := TX5) (C := RX5) (N := 16) (v := .ref (ga G (94))) dX5_harshOf_12 inB5 rfl qw_686 rfl (by decide) (by decide) (cel_mod G _) rfl 15 rfl ?_
    refine v_iload_n dX5_harshOf_15 3 rfl 16 rfl ?_
    refine v_iload_n dX5_harshOf_16 0 rfl 17 rfl ?_
    refine v_callS (c_X5_coatSpot l c i) kal_X5_coatSpot rfl dX5_harshOf_17 qw_864 qw_865 (by decide) [.ref (ga G (94)), .int (sm (fun m => ms (150 + 12 * c + m) * ms (26 + m) / 100) i)] (Nat.le_of_ble_eq_true rfl) rfl rfl 20 rfl ?_
    refine v_iald (a := ms) dX5_harshOf_20 (by decide) (cel_ms G _) (150 + 12 * c + i) rfl (by omega) (by decide) 21 rfl ?_
    refine v_aload_n dX5_harshOf_21 2 rfl 22 rfl ?_
    refine v_get (i := 0) (ci := 5) (T := TX5) (C := RX5) (N := 16) (v := .ref (ga G (94))) dX5_harshOf_22 inB5 rfl qw_686 rfl (by decide) (by decide) (cel_mod G _) rfl 25 rfl ?_
    refine v_bipush dX5_harshOf_25 26 rfl 27 rfl ?_
    refine v_iload_n dX5_harshOf_27 0 rfl 28 rfl ?_
    refine n_iadd dX5_harshOf_28 26 i rfl rfl 29 rfl ?_
    refine v_iald (a := ms) dX5_harshOf_29 (by decide) (cel_ms G _) (26 + i) rfl (by omega) (by decide) 30 rfl ?_
    refine v_imul dX5_harshOf_30 31 rfl ?_
    refine v_bipush dX5_harshOf_31 100 rfl 33 rfl ?_
    refine v_idiv dX5_harshOf_33 (by decide) 34 rfl ?_
    refine v_iadd dX5_harshOf_34 35 rfl ?_
    obtain ⟨z2, ez2⟩ : ∃ y : Int32, y = (sm (fun m => ms (150 + 12 * c + m) * ms (26 + m) / 100) i) + (((ms (150 + 12 * c + i)) * (ms (26 + i))) / 100) := ⟨_, rfl⟩
    rw [← ez2]
    refine v_istore_n dX5_harshOf_35 2 rfl (by decide) [(2, .int z2), (3, .int (nI i)), (0, .ref (ga G (93))), (1, .int (nI c))] rfl 36 rfl ?_
    refine v_iinc dX5_harshOf_36 1 rfl (nI (i + 1)) (nI_1 _) (by decide) [(3, .int (nI (i + 1))), (2, .int z2), (0, .ref (ga G (93))), (1, .int (nI c))] rfl 39 rfl ?_
    refine v_goto dX5_harshOf_39 4 (by decide) ?_
    subst ez2
    exact ih (i + 1) (by omega) hk
set_option maxHeartbeats 1000000 in
set_option maxRecDepth 4000 in
theorem c_X5_harshOf (l : Launch) {G : Gl} {K : CS} {ms : Nat → Int32} {mk : Nat → Int32} {mo : Nat → Int32} {ma : Nat → Int32} {mf : Nat → Int32} {ik : Int32} {mt : Nat → Int32} {td : Nat} {fr : Nat} {tt : Nat} {vl : Int32} {wr : Int32} {mb : Nat → Int32} {mz : Nat → Int32} {nu : Nat → Int64} {mv : Nat → Int64} {c : Nat} (hc : c < 4) : Ct l G yX5_harshOf cX5_harshOf 4 (some .int) 1 21 [.ref (ga G (93)), .int (nI c)] (K, (ms, mk, mo, ma, mf, ik, mt, td, fr, tt, vl, wr, mb, mz, nu, mv)) (some (.int (mHarsh ms c))) (K, (ms, mk, mo, ma, mf, ik, mt, td, fr, tt, vl, wr, mb, mz, nu, mv)) := by
  refine Ct.of (own := RX5) (by decide) rfl (Nat.le_of_ble_eq_true rfl) rfl (fun X => ?_)
  refine v_iconst dX5_harshOf_0 0 rfl 1 rfl ?_
  refine v_istore_n dX5_harshOf_1 2 rfl (by decide) [(2, .int 0), (0, .ref (ga G (93))), (1, .int (nI c))] rfl 2 rfl ?_
  refine v_iconst dX5_harshOf_2 0 rfl 3 rfl ?_
  refine v_istore_n dX5_harshOf_3 3 rfl (by decide) [(3, .int 0), (2, .int 0), (0, .ref (ga G (93))), (1, .int (nI c))] rfl 4 rfl ?_
  refine lp_mharshOf l hc 12 0 (by omega) ?_
  refine v_iload_n dX5_harshOf_42 1 rfl 43 rfl ?_
  exact v_iret dX5_harshOf_43 (by rfl) (by rfl)
set_option maxHeartbeats 1000000 in
set_option maxRecDepth 4000 in
theorem lp_mmonthsIn (l : Launch) {G : Gl} {X : VX} {ov : Option Value} {wF : WS} {K : CS} {ms : Nat → Int32} {mk : Nat → Int32} {mo : Nat → Int32} {ma : Nat → Int32} {mf : Nat → Int32} {ik : Int32} {mt : Nat → Int32} {td : Nat} {fr : Nat} {tt : Nat} {vl : Int32} {wr : Int32} {mb : Nat → Int32} {mz : Nat → Int32} {nu : Nat → Int64} {mv : Nat → Int64} {c : Nat} (hc : c < 4) : ∀ n i : Nat, i + n = 12 → V l X 1 21 cX5_monthsIn 4 RX5 (some .int) G ov wF (K, (ms, mk, mo, ma, mf, ik, mt, td, fr, tt, vl, wr, mb, mz, nu, mv)) 39 [(3, .int (nI 12)), (2, .int (mMsk ms c 12)), (0, .ref (ga G (93))), (1, .int (nI c))] [] → V l X 1 21 cX5_monthsIn 4 RX5 (some .int) G ov wF (K, (ms, mk, mo, ma, mf, ik, mt, td, fr, tt, vl, wr, mb, mz, nu, mv)) 4 [(3, .int (nI i)), (2, .int (mMsk ms c i)), (0, .ref (ga G (93))), (1, .int (nI c))] [] := by
  intro n
  induction n with
  | zero =>
    intro i hin hk
    obtain rfl : 12 = i := by omega
    refine v_iload_n dX5_monthsIn_4 0 rfl 5 rfl ?_
    refine v_bipush dX5_monthsIn_5 12 rfl 7 rfl ?_
    refine n_icmp_ge dX5_monthsIn_7 12 12 rfl rfl (by omega) (by omega) 39 (by decide) 10 rfl (fun c1 => ?_) (fun c1 => absurd c1 (by omega))
    exact hk
  | succ n ih =>
    intro i hin hk
    refine v_iload_n dX5_monthsIn_4 0 rfl 5 rfl ?_
    refine v_bipush dX5_monthsIn_5 12 rfl 7 rfl ?_
    refine n_icmp_ge dX5_monthsIn_7 i 12 rfl rfl (by omega) (by omega) 39 (by decide) 10 rfl (fun c1 => absurd c1 (by omega)) (fun c1 => ?_)
    refine v_iload_n dX5_monthsIn_10 1 rfl 11 rfl ?_
    refine v_aload_n dX5_monthsIn_11 2 rfl 12 rfl ?_
    refine v_get (i := 0) (ci := 5) (T := TX5) (C := RX5) (N := 16) (v := .ref (ga G (94))) dX5_monthsIn_12 inB5 rfl qw_686 rfl (by decide) (by decide) (cel_mod G _) rfl 15 rfl ?_
    refine v_iload_n dX5_monthsIn_15 3 rfl 16 rfl ?_
    refine v_iload_n dX5_monthsIn_16 0 rfl 17 rfl ?_
    refine v_callS (c_X5_coatSpot l c i) kal_X5_coatSpot rfl dX5_monthsIn_17 qw_864 qw_865 (by decide) [.ref (ga G (94)), .int (mMsk ms c i)] (Nat.le_of_ble_eq_true rfl) rfl rfl 20 rfl ?_
    refine v_iald (a := ms) dX5_monthsIn_20 (by decide) (cel_ms G _) (150 + 12 * c + i) rfl (by omega) (by decide) 21 rfl ?_
    refine v_if_le dX5_monthsIn_21 30 (by decide) 24 rfl (fun c2 => ?_) (fun c2 => ?_)
    · skip
      refine v_iconst dX5_monthsIn_30 0 rfl 31 rfl ?_
      refine v_ior dX5_monthsIn_31 32 rfl ?_
      refine v_istore_n dX5_monthsIn_32 2 rfl (by decide) [(2, .int ((mMsk ms c i) ||| 0)), (3, .int (nI i)), (0, .ref (ga G (93))), (1, .int (nI c))] rfl 33 rfl ?_
      refine v_iinc dX5_monthsIn_33 1 rfl (nI (i + 1)) (nI_1 _) (by decide) [(3, .int (nI (i + 1))), (2, .int ((mMsk ms c i) ||| 0)), (0, .ref (ga G (93))), (1, .int (nI c))] rfl 36 rfl ?_
      refine v_goto dX5_monthsIn_36 4 (by decide) ?_
      have e9 : mMsk ms c (i + 1) = (mMsk ms c i) ||| 0 := by simp [mMsk, c2, Int32.not_lt.mpr c2]
      rw [← e9]
      exact ih (i + 1) (by omega) hk
    · skip
      refine v_iconst dX5_monthsIn_24 1 rfl 25 rfl ?_
      refine v_iload_n dX5_monthsIn_25 0 rfl 26 rfl ?_
      refine v_ishl dX5_monthsIn_26 27 rfl ?_
      refine v_goto dX5_monthsIn_27 31 (by decide) ?_
      refine v_ior dX5_monthsIn_31 32 rfl ?_
      refine v_istore_n dX5_monthsIn_32 2 rfl (by decide) [(2, .int ((mMsk ms c i) ||| (1 <<< ((nI i) &&& 31)))), (3, .int (nI i)), (0, .ref (ga G (93))), (1, .int (nI c))] rfl 33 rfl ?_
      refine v_iinc dX5_monthsIn_33 1 rfl (nI (i + 1)) (nI_1 _) (by decide) [(3, .int (nI (i + 1))), (2, .int ((mMsk ms c i) ||| (1 <<< ((nI i) &&& 31)))), (0, .ref (ga G (93))), (1, .int (nI c))] rfl 36 rfl ?_
      refine v_goto dX5_monthsIn_36 4 (by decide) ?_
      have e9 : mMsk ms c (i + 1) = (mMsk ms c i) ||| (1 <<< ((nI i) &&& 31)) := by simp [mMsk, c2, Int32.not_le.mp c2]
      rw [← e9]
      exact ih (i + 1) (by omega) hk
set_option maxHeartbeats 1000000 in
set_option maxRecDepth 4000 in
theorem c_X5_monthsIn (l : Launch) {G : Gl} {K : CS} {ms : Nat → Int32} {mk : Nat → Int32} {mo : Nat → Int32} {ma : Nat → Int32} {mf : Nat → Int32} {ik : Int32} {mt : Nat → Int32} {td : Nat} {fr : Nat} {tt : Nat} {vl : Int32} {wr : Int32} {mb : Nat → Int32} {mz : Nat → Int32} {nu : Nat → Int64} {mv : Nat → Int64} {c : Nat} (hc : c < 4) : Ct l G yX5_monthsIn cX5_monthsIn 4 (some .int) 1 21 [.ref (ga G (93)), .int (nI c)] (K, (ms, mk, mo, ma, mf, ik, mt, td, fr, tt, vl, wr, mb, mz, nu, mv)) (some (.int (mMsk ms c 12))) (K, (ms, mk, mo, ma, mf, ik, mt, td, fr, tt, vl, wr, mb, mz, nu, mv)) := by
  refine Ct.of (own := RX5) (by decide) rfl (Nat.le_of_ble_eq_true rfl) rfl (fun X => ?_)
  refine v_iconst dX5_monthsIn_0 0 rfl 1 rfl ?_
  refine v_istore_n dX5_monthsIn_1 2 rfl (by decide) [(2, .int 0), (0, .ref (ga G (93))), (1, .int (nI c))] rfl 2 rfl ?_
  refine v_iconst dX5_monthsIn_2 0 rfl 3 rfl ?_
  refine v_istore_n dX5_monthsIn_3 3 rfl (by decide) [(3, .int 0), (2, .int 0), (0, .ref (ga G (93))), (1, .int (nI c))] rfl 4 rfl ?_
  refine lp_mmonthsIn l hc 12 0 (by omega) ?_
  refine v_iload_n dX5_monthsIn_39 1 rfl 40 rfl ?_
  exact v_iret dX5_monthsIn_40 (by rfl) (by rfl)
set_option maxHeartbeats 1000000 in
set_option maxRecDepth 4000 in
theorem lp_mcoats (l : Launch) {G : Gl} {X : VX} {ov : Option Value} {wF : WS} {K : CS} {ms : Nat → Int32} {mk : Nat → Int32} {mo : Nat → Int32} {ma : Nat → Int32} {mf : Nat → Int32} {ik : Int32} {mt : Nat → Int32} {td : Nat} {fr : Nat} {tt : Nat} {vl : Int32} {wr : Int32} {mb : Nat → Int32} {mz : Nat → Int32} {nu : Nat → Int64} {mv : Nat → Int64} : ∀ n i : Nat, i + n = 4 → V l X 2 44 cX5_coatsMade 3 RX5 (some .int) G ov wF (K, (ms, mk, mo, ma, mf, ik, mt, td, fr, tt, vl, wr, mb, mz, nu, mv)) 31 [(2, .int (nI 4)), (1, .int (mCoats ms 4)), (0, .ref (ga G (93)))] [] → V l X 2 44 cX5_coatsMade 3 RX5 (some .int) G ov wF (K, (ms, mk, mo, ma, mf, ik, mt, td, fr, tt, vl, wr, mb, mz, nu, mv)) 4 [(2, .int (nI i)), (1, .int (mCoats ms i)), (0, .ref (ga G (93)))] [] := by
  intro n
  induction n with
  | zero =>
    intro i hin hk
    obtain rfl : 4 = i := by omega
    refine v_iload_n dX5_coatsMade_4 0 rfl 5 rfl ?_
    refine v_iconst dX5_coatsMade_5 4 rfl 6 rfl ?_
    refine n_icmp_ge dX5_coatsMade_6 4 4 rfl rfl (by omega) (by omega) 31 (by decide) 9 rfl (fun c1 => ?_) (fun c1 => absurd c1 (by omega))
    exact hk
  | succ n ih =>
    intro i hin hk
    refine v_iload_n dX5_coatsMade_4 0 rfl 5 rfl ?_
    refine v_iconst dX5_coatsMade_5 4 rfl 6 rfl ?_
    refine n_icmp_ge dX5_coatsMade_6 i 4 rfl rfl (by omega) (by omega) 31 (by decide) 9 rfl (fun c1 => absurd c1 (by omega)) (fun c1 => ?_)
    refine v_iload_n dX5_coatsMade_9 1 rfl 10 rfl ?_
    refine v_aload_n dX5_coatsMade_10 2 rfl 11 rfl ?_
    refine v_iload_n dX5_coatsMade_11 0 rfl 12 rfl ?_
    refine v_callV (c_X5_monthsIn l (c := i) (by omega)) kal_X5_monthsIn rfl dX5_coatsMade_12 qw_883 qw_885 qw_30 rfl (by decide) (cel_mod G _) (by decide) [.int (mCoats ms i)] (Nat.le_of_ble_eq_true rfl) rfl rfl 15 rfl ?_
    refine v_if_ne dX5_coatsMade_15 22 (by decide) 18 rfl (fun c2 => ?_) (fun c2 => ?_)
    · skip
      refine v_iconst dX5_coatsMade_22 1 rfl 23 rfl ?_
      refine v_iadd dX5_coatsMade_23 24 rfl ?_
      refine v_istore_n dX5_coatsMade_24 1 rfl (by decide) [(1, .int ((mCoats ms i) + 1)), (2, .int (nI i)), (0, .ref (ga G (93)))] rfl 25 rfl ?_
      refine v_iinc dX5_coatsMade_25 1 rfl (nI (i + 1)) (nI_1 _) (by decide) [(2, .int (nI (i + 1))), (1, .int ((mCoats ms i) + 1)), (0, .ref (ga G (93)))] rfl 28 rfl ?_
      refine v_goto dX5_coatsMade_28 4 (by decide) ?_
      have e9 : mCoats ms (i + 1) = (mCoats ms i) + 1 := by simp [mCoats, c2, Ne.symm c2]
      rw [← e9]
      exact ih (i + 1) (by omega) hk
    · skip
      refine v_iconst dX5_coatsMade_18 0 rfl 19 rfl ?_
      refine v_goto dX5_coatsMade_19 23 (by decide) ?_
      refine v_iadd dX5_coatsMade_23 24 rfl ?_
      refine v_istore_n dX5_coatsMade_24 1 rfl (by decide) [(1, .int ((mCoats ms i) + 0)), (2, .int (nI i)), (0, .ref (ga G (93)))] rfl 25 rfl ?_
      refine v_iinc dX5_coatsMade_25 1 rfl (nI (i + 1)) (nI_1 _) (by decide) [(2, .int (nI (i + 1))), (1, .int ((mCoats ms i) + 0)), (0, .ref (ga G (93)))] rfl 28 rfl ?_
      refine v_goto dX5_coatsMade_28 4 (by decide) ?_
      have e9 : mCoats ms (i + 1) = (mCoats ms i) + 0 := by simp [mCoats, c2]
      rw [← e9]
      exact ih (i + 1) (by omega) hk
set_option maxHeartbeats 1000000 in
set_option maxRecDepth 4000 in
theorem c_X5_coatsMade (l : Launch) {G : Gl} {K : CS} {ms : Nat → Int32} {mk : Nat → Int32} {mo : Nat → Int32} {ma : Nat → Int32} {mf : Nat → Int32} {ik : Int32} {mt : Nat → Int32} {td : Nat} {fr : Nat} {tt : Nat} {vl : Int32} {wr : Int32} {mb : Nat → Int32} {mz : Nat → Int32} {nu : Nat → Int64} {mv : Nat → Int64}  : Ct l G yX5_coatsMade cX5_coatsMade 3 (some .int) 2 44 [.ref (ga G (93))] (K, (ms, mk, mo, ma, mf, ik, mt, td, fr, tt, vl, wr, mb, mz, nu, mv)) (some (.int (mCoats ms 4))) (K, (ms, mk, mo, ma, mf, ik, mt, td, fr, tt, vl, wr, mb, mz, nu, mv)) := by
  refine Ct.of (own := RX5) (by decide) rfl (Nat.le_of_ble_eq_true rfl) rfl (fun X => ?_)
  refine v_iconst dX5_coatsMade_0 0 rfl 1 rfl ?_
  refine v_istore_n dX5_coatsMade_1 1 rfl (by decide) [(1, .int 0), (0, .ref (ga G (93)))] rfl 2 rfl ?_
  refine v_iconst dX5_coatsMade_2 0 rfl 3 rfl ?_
  refine v_istore_n dX5_coatsMade_3 2 rfl (by decide) [(2, .int 0), (1, .int 0), (0, .ref (ga G (93)))] rfl 4 rfl ?_
  refine lp_mcoats l  4 0 (by omega) ?_
  refine v_iload_n dX5_coatsMade_31 1 rfl 32 rfl ?_
  exact v_iret dX5_coatsMade_32 (by rfl) (by rfl)
set_option maxHeartbeats 1000000 in
set_option maxRecDepth 4000 in
theorem c_X5_cuts (l : Launch) {G : Gl} {K : CS} {ms : Nat → Int32} {mk : Nat → Int32} {mo : Nat → Int32} {ma : Nat → Int32} {mf : Nat → Int32} {ik : Int32} {mt : Nat → Int32} {td : Nat} {fr : Nat} {tt : Nat} {vl : Int32} {wr : Int32} {mb : Nat → Int32} {mz : Nat → Int32} {nu : Nat → Int64} {mv : Nat → Int64} {c m : Nat} (hc : c < 4) (hm : m < 12) (x : Int32) : Ct l G yX5_cuts cX5_cuts 4 (some .int) 1 21 [.ref (ga G (93)), .int (nI c), .int (nI m), .int x] (K, (ms, mk, mo, ma, mf, ik, mt, td, fr, tt, vl, wr, mb, mz, nu, mv)) (some (.int (mCuts ms c m x (150 + 12 * c + m)))) (K, ((mCuts ms c m x), mk, mo, ma, mf, ik, mt, td, fr, tt, vl, wr, mb, mz, nu, mv)) := by
  refine Ct.of (own := RX5) (by decide) rfl (Nat.le_of_ble_eq_true rfl) rfl (fun X => ?_)
  refine v_aload_n dX5_cuts_0 0 rfl 1 rfl ?_
  refine v_get (i := 0) (ci := 5) (T := TX5) (C := RX5) (N := 16) (v := .ref (ga G (94))) dX5_cuts_1 inB5 rfl qw_686 rfl (by decide) (by decide) (cel_mod G _) rfl 4 rfl ?_
  refine v_bipush dX5_cuts_4 14 rfl 6 rfl ?_
  refine v_iload_n dX5_cuts_6 2 rfl 7 rfl ?_
  refine n_iadd dX5_cuts_7 14 m rfl rfl 8 rfl ?_
  refine v_dup2 dX5_cuts_8 rfl rfl 9 rfl ?_
  refine v_iald (a := ms) dX5_cuts_9 (by decide) (cel_ms G _) (14 + m) rfl (by omega) (by decide) 10 rfl ?_
  refine v_iload_n dX5_cuts_10 3 rfl 11 rfl ?_
  refine v_isub dX5_cuts_11 12 rfl ?_
  refine v_iast (w2 := (K, (upd ms (14 + m) ((ms (14 + m)) - x), mk, mo, ma, mf, ik, mt, td, fr, tt, vl, wr, mb, mz, nu, mv))) dX5_cuts_12 (by decide) (cel_ms G _) (14 + m) rfl (by omega) (by decide) u_ms 13 rfl ?_
  refine v_aload_n dX5_cuts_13 0 rfl 14 rfl ?_
  refine v_get (i := 0) (ci := 5) (T := TX5) (C := RX5) (N := 16) (v := .ref (ga G (94))) dX5_cuts_14 inB5 rfl qw_686 rfl (by decide) (by decide) (cel_mod G _) rfl 17 rfl ?_
  refine v_iload_n dX5_cuts_17 1 rfl 18 rfl ?_
  refine v_iload_n dX5_cuts_18 2 rfl 19 rfl ?_
  refine v_callS (c_X5_coatSpot l c m) kal_X5_coatSpot rfl dX5_cuts_19 qw_864 qw_865 (by decide) [.ref (ga G (94))] (Nat.le_of_ble_eq_true rfl) rfl rfl 22 rfl ?_
  refine v_dup2 dX5_cuts_22 rfl rfl 23 rfl ?_
  refine v_iald (a := upd ms (14 + m) ((ms (14 + m)) - x)) dX5_cuts_23 (by decide) (cel_ms G _) (150 + 12 * c + m) rfl (by omega) (by decide) 24 rfl ?_
  refine v_iload_n dX5_cuts_24 3 rfl 25 rfl ?_
  refine v_iadd dX5_cuts_25 26 rfl ?_
  refine v_iast (w2 := (K, (upd (upd ms (14 + m) ((ms (14 + m)) - x)) (150 + 12 * c + m) (((upd ms (14 + m) ((ms (14 + m)) - x)) (150 + 12 * c + m)) + x), mk, mo, ma, mf, ik, mt, td, fr, tt, vl, wr, mb, mz, nu, mv))) dX5_cuts_26 (by decide) (cel_ms G _) (150 + 12 * c + m) rfl (by omega) (by decide) u_ms 27 rfl ?_
  refine v_aload_n dX5_cuts_27 0 rfl 28 rfl ?_
  refine v_get (i := 0) (ci := 5) (T := TX5) (C := RX5) (N := 16) (v := .ref (ga G (94))) dX5_cuts_28 inB5 rfl qw_686 rfl (by decide) (by decide) (cel_mod G _) rfl 31 rfl ?_
  refine v_iload_n dX5_cuts_31 1 rfl 32 rfl ?_
  refine v_iload_n dX5_cuts_32 2 rfl 33 rfl ?_
  refine v_callS (c_X5_coatSpot l c m) kal_X5_coatSpot rfl dX5_cuts_33 qw_864 qw_865 (by decide) [.ref (ga G (94))] (Nat.le_of_ble_eq_true rfl) rfl rfl 36 rfl ?_
  refine v_iald (a := upd (upd ms (14 + m) ((ms (14 + m)) - x)) (150 + 12 * c + m) (((upd ms (14 + m) ((ms (14 + m)) - x)) (150 + 12 * c + m)) + x)) dX5_cuts_36 (by decide) (cel_ms G _) (150 + 12 * c + m) rfl (by omega) (by decide) 37 rfl ?_
  exact v_iret dX5_cuts_37 (by rfl) (by rfl)
