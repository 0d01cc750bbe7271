set_option maxHeartbeats 1000000 in
set_option maxRecDepth 4000 in
theorem c_X5_cutItem (l : Launch) {G : Gl} {K : CS} {ms : Nat → Int32} {mk : Nat → Int32} {mo : Nat → Int32} {ma : Nat → Int32} {mf : Nat → Int32} {ik : Int32} {mt : Nat → Int32} {td : Nat} {fr : Nat} {tt : Nat} {vl : Int32} {wr : Int32} {mb : Nat → Int32} {mz : Nat → Int32} {nu : Nat → Int64} {mv : Nat → Int64} (htd : td ≤ 120) (hfr : fr ≤ 120) (htt : tt ≤ 120) : Ct l G yX5_cutItem cX5_cutItem 4 none 5 113 [.ref (ga G (93))] (K, (ms, mk, mo, ma, mf, ik, mt, td, fr, tt, vl, wr, mb, mz, nu, mv)) (none) (K, ((ciX mt td (fr, tt, vl, wr) ms).2, mk, mo, ma, mf, ik, mt, td, (ciX mt td (fr, tt, vl, wr) ms).1.1, (ciX mt td (fr, tt, vl, wr) ms).1.2.1, (ciX mt td (fr, tt, vl, wr) ms).1.2.2.1, (ciX mt td (fr, tt, vl, wr) ms).1.2.2.2, mb, mz, nu, mv)) := by
  refine Ct.of (own := RX5) (by decide) rfl (Nat.le_of_ble_eq_true rfl) rfl (fun X => ?_)
  refine v_aload_n dX5_cutItem_0 0 rfl 1 rfl ?_
  refine v_iconst dX5_cutItem_1 1 rfl 2 rfl ?_
  refine v_callV (c_X5_must l htd hfr htt true) kal_X5_must rfl dX5_cutItem_2 qw_1041 qw_1043 qw_46 rfl (by decide) (cel_mod G _) (by decide) [] (Nat.le_of_ble_eq_true rfl) rfl rfl 5 rfl ?_
  generalize hx1 : musX mt td true (fr, tt, vl, wr) = x1
  have gx1 : musX mt td true (fr, tt, vl, wr) = x1 := hx1
  have ix1 : XI x1 := gx1 ▸ XI_mus htd ⟨hfr, htt⟩
  refine v_aload_n dX5_cutItem_5 0 rfl 6 rfl ?_
  refine v_iconst dX5_cutItem_6 0 rfl 7 rfl ?_
  refine v_iconst dX5_cutItem_7 3 rfl 8 rfl ?_
  refine v_callV (c_X5_number l htd ix1.1 ix1.2 3) kal_X5_number rfl dX5_cutItem_8 qw_1046 qw_1048 qw_47 rfl (by decide) (cel_mod G _) (by decide) [] (Nat.le_of_ble_eq_true rfl) rfl rfl 11 rfl ?_
  generalize hx2 : numX mt td 3 (x1.1, x1.2.1, x1.2.2.1, x1.2.2.2) = x2
  have gx2 : numX mt td 3 x1 = x2 := hx2
  have ix2 : XI x2 := gx2 ▸ XI_num htd ix1
  refine v_aload_n dX5_cutItem_11 0 rfl 12 rfl ?_
  refine v_get (i := 10) (ci := 5) (T := TX5) (C := RX5) (N := 16) (v := .int x2.2.2.1) dX5_cutItem_12 inB5 rfl qw_696 rfl (by decide) (by decide) (cel_mod G _) rfl 15 rfl ?_
  refine v_istore_n dX5_cutItem_15 1 rfl (by decide) [(1, .int x2.2.2.1), (0, .ref (ga G (93)))] rfl 16 rfl ?_
  refine v_aload_n dX5_cutItem_16 1 rfl 17 rfl ?_
  refine v_iconst dX5_cutItem_17 0 rfl 18 rfl ?_
  refine v_bipush dX5_cutItem_18 11 rfl 20 rfl ?_
  refine v_callV (c_X5_number l htd ix2.1 ix2.2 11) kal_X5_number rfl dX5_cutItem_20 qw_1046 qw_1048 qw_47 rfl (by decide) (cel_mod G _) (by decide) [] (Nat.le_of_ble_eq_true rfl) rfl rfl 23 rfl ?_
  generalize hx3 : numX mt td 11 (x2.1, x2.2.1, x2.2.2.1, x2.2.2.2) = x3
  have gx3 : numX mt td 11 x2 = x3 := hx3
  have ix3 : XI x3 := gx3 ▸ XI_num htd ix2
  refine v_aload_n dX5_cutItem_23 1 rfl 24 rfl ?_
  refine v_get (i := 10) (ci := 5) (T := TX5) (C := RX5) (N := 16) (v := .int x3.2.2.1) dX5_cutItem_24 inB5 rfl qw_696 rfl (by decide) (by decide) (cel_mod G _) rfl 27 rfl ?_
  refine v_istore_n dX5_cutItem_27 2 rfl (by decide) [(2, .int x3.2.2.1), (1, .int x2.2.2.1), (0, .ref (ga G (93)))] rfl 28 rfl ?_
  refine v_aload_n dX5_cutItem_28 2 rfl 29 rfl ?_
  refine v_get (i := 11) (ci := 5) (T := TX5) (C := RX5) (N := 16) (v := .int x3.2.2.2) dX5_cutItem_29 inB5 rfl qw_697 rfl (by decide) (by decide) (cel_mod G _) rfl 32 rfl ?_
  refine v_if_eq dX5_cutItem_32 36 (by decide) 35 rfl (fun c1 => ?_) (fun c1 => ?_)
  · skip
    obtain ⟨jc, h1jc, h2jc, ejc⟩ := inb_ix (lo := 0) (hi := 3) (show inb 0 3 x2.2.2.1 = true from by have q := (num_ok (mt := mt) (td := td) (h9 := 3) (x := x1) (by rw [gx2]; exact (num_ok (mt := mt) (td := td) (h9 := 11) (x := x2) (by rw [gx3]; assumption)).1)).2; rw [gx2] at q; exact q)
    have ecjc : (nI jc).toNatClampNeg = jc := nI_clamp (by omega)
    refine v_ls (ls2 := [(2, .int x3.2.2.1), (1, .int (nI jc)), (0, .ref (ga G (93)))]) (by rw [ejc]) ?_
    obtain ⟨jm, h1jm, h2jm, ejm⟩ := inb_ix (lo := 0) (hi := 11) (show inb 0 11 x3.2.2.1 = true from by have q := (num_ok (mt := mt) (td := td) (h9 := 11) (x := x2) (by rw [gx3]; assumption)).2; rw [gx3] at q; exact q)
    have ecjm : (nI jm).toNatClampNeg = jm := nI_clamp (by omega)
    refine v_ls (ls2 := [(2, .int (nI jm)), (1, .int (nI jc)), (0, .ref (ga G (93)))]) (by rw [ejm]) ?_
    refine v_sipush dX5_cutItem_36 999 rfl 39 rfl ?_
    refine v_aload_n dX5_cutItem_39 2 rfl 40 rfl ?_
    refine v_get (i := 0) (ci := 5) (T := TX5) (C := RX5) (N := 16) (v := .ref (ga G (94))) dX5_cutItem_40 inB5 rfl qw_686 rfl (by decide) (by decide) (cel_mod G _) rfl 43 rfl ?_
    refine v_iload_n dX5_cutItem_43 1 rfl 44 rfl ?_
    refine v_iload_n dX5_cutItem_44 0 rfl 45 rfl ?_
    refine v_callS (c_X5_coatSpot l jc jm) kal_X5_coatSpot rfl dX5_cutItem_45 qw_864 qw_865 (by decide) [.ref (ga G (94)), .int 999] (Nat.le_of_ble_eq_true rfl) rfl rfl 48 rfl ?_
    refine v_iald (a := ms) dX5_cutItem_48 (by decide) (cel_ms G _) (150 + 12 * jc + jm) rfl (by omega) (by decide) 49 rfl ?_
    refine v_isub dX5_cutItem_49 50 rfl ?_
    refine v_istore_n dX5_cutItem_50 3 rfl (by decide) [(3, .int (999 - (ms (150 + 12 * jc + jm)))), (2, .int (nI jm)), (1, .int (nI jc)), (0, .ref (ga G (93)))] rfl 51 rfl ?_
    refine v_aload_n dX5_cutItem_51 3 rfl 52 rfl ?_
    refine v_iconst dX5_cutItem_52 0 rfl 53 rfl ?_
    refine v_aload_n dX5_cutItem_53 3 rfl 54 rfl ?_
    refine v_get (i := 0) (ci := 5) (T := TX5) (C := RX5) (N := 16) (v := .ref (ga G (94))) dX5_cutItem_54 inB5 rfl qw_686 rfl (by decide) (by decide) (cel_mod G _) rfl 57 rfl ?_
    refine v_bipush dX5_cutItem_57 14 rfl 59 rfl ?_
    refine v_iload_n dX5_cutItem_59 1 rfl 60 rfl ?_
    refine n_iadd dX5_cutItem_60 14 jm rfl rfl 61 rfl ?_
    refine v_iald (a := ms) dX5_cutItem_61 (by decide) (cel_ms G _) (14 + jm) rfl (by omega) (by decide) 62 rfl ?_
    refine v_iload_n dX5_cutItem_62 0 rfl 63 rfl ?_
    refine v_callS (c_X5_heldTo l (ms (14 + jm)) (999 - (ms (150 + 12 * jc + jm)))) kal_X5_heldTo rfl dX5_cutItem_63 qw_891 qw_892 (by decide) [.int 0, .ref (ga G (93))] (Nat.le_of_ble_eq_true rfl) rfl rfl 66 rfl ?_
    refine v_callV (c_X5_number l htd ix3.1 ix3.2 (mn (ms (14 + jm)) (999 - (ms (150 + 12 * jc + jm))))) kal_X5_number rfl dX5_cutItem_66 qw_1046 qw_1048 qw_47 rfl (by decide) (cel_mod G _) (by decide) [] (Nat.le_of_ble_eq_true rfl) rfl rfl 69 rfl ?_
    generalize hx4 : numX mt td (mn (ms (14 + jm)) (999 - (ms (150 + 12 * jc + jm)))) (x3.1, x3.2.1, x3.2.2.1, x3.2.2.2) = x4
    have gx4 : numX mt td (mn (ms (14 + jm)) (999 - (ms (150 + 12 * jc + jm)))) x3 = x4 := hx4
    have ix4 : XI x4 := gx4 ▸ XI_num htd ix3
    refine v_aload_n dX5_cutItem_69 3 rfl 70 rfl ?_
    refine v_get (i := 11) (ci := 5) (T := TX5) (C := RX5) (N := 16) (v := .int x4.2.2.2) dX5_cutItem_70 inB5 rfl qw_697 rfl (by decide) (by decide) (cel_mod G _) rfl 73 rfl ?_
    refine v_if_ne dX5_cutItem_73 87 (by decide) 76 rfl (fun c2 => ?_) (fun c2 => ?_)
    · skip
      exact v_vret dX5_cutItem_87 (by rfl) (by simp only [ciX, ciM, x3X, x2X, x1X, c1, c2, Ne.symm c2, gx1, gx2, gx3, gx4, if_true, if_false, ↓reduceIte] <;> first | rfl | (simp only [ejc, ecjc, ejm, ecjm, c1, c2, Ne.symm c2, gx1, gx2, gx3, gx4, if_true, if_false, ↓reduceIte] <;> rfl))
    · skip
      refine v_aload_n dX5_cutItem_76 3 rfl 77 rfl ?_
      refine v_iload_n dX5_cutItem_77 2 rfl 78 rfl ?_
      refine v_iload_n dX5_cutItem_78 1 rfl 79 rfl ?_
      refine v_aload_n dX5_cutItem_79 3 rfl 80 rfl ?_
      refine v_get (i := 10) (ci := 5) (T := TX5) (C := RX5) (N := 16) (v := .int x4.2.2.1) dX5_cutItem_80 inB5 rfl qw_696 rfl (by decide) (by decide) (cel_mod G _) rfl 83 rfl ?_
      refine v_callV (c_X5_cuts l (c := jc) (m := jm) (by omega) (by omega) x4.2.2.1) kal_X5_cuts rfl dX5_cutItem_83 qw_867 qw_869 qw_27 rfl (by decide) (cel_mod G _) (by decide) [] (Nat.le_of_ble_eq_true rfl) rfl rfl 86 rfl ?_
      refine v_pop dX5_cutItem_86 rfl 87 rfl ?_
      exact v_vret dX5_cutItem_87 (by rfl) (by simp only [ciX, ciM, x3X, x2X, x1X, c1, c2, gx1, gx2, gx3, gx4, if_true, if_false, ↓reduceIte] <;> first | rfl | (simp only [ejc, ecjc, ejm, ecjm, c1, c2, gx1, gx2, gx3, gx4, if_true, if_false, ↓reduceIte] <;> rfl))
  · skip
    exact v_vret dX5_cutItem_35 (by rfl) (by simp only [ciX, ciM, x3X, x2X, x1X, c1, Ne.symm c1, gx1, gx2, gx3, if_true, if_false, ↓reduceIte] <;> first | rfl | (simp only [ejc, ecjc, ejm, ecjm, c1, Ne.symm c1, gx1, gx2, gx3, if_true, if_false, ↓reduceIte] <;> rfl))
set_option maxHeartbeats 1000000 in
set_option maxRecDepth 4000 in
theorem c_X5_kindHere (l : Launch) {G : Gl} {K : CS} {ms : Nat → Int32} {mk : Nat → Int32} {mo : Nat → Int32} {ma : Nat → Int32} {mf : Nat → Int32} {ik : Int32} {mt : Nat → Int32} {td : Nat} {fr : Nat} {tt : Nat} {vl : Int32} {wr : Int32} {mb : Nat → Int32} {mz : Nat → Int32} {nu : Nat → Int64} {mv : Nat → Int64} (htd : td ≤ 120) (hfr : fr ≤ 120) (htt : tt ≤ 120) : Ct l G yX5_kindHere cX5_kindHere 3 (some .int) 3 68 [.ref (ga G (93))] (K, (ms, mk, mo, ma, mf, ik, mt, td, fr, tt, vl, wr, mb, mz, nu, mv)) (some (.int (kdX (wrdX mt td (fr, tt, vl, wr))))) (K, (ms, mk, mo, ma, mf, ik, mt, td, fr, tt, vl, wr, mb, mz, nu, mv)) := by
  refine Ct.of (own := RX5) (by decide) rfl (Nat.le_of_ble_eq_true rfl) rfl (fun X => ?_)
  refine v_aload_n dX5_kindHere_0 0 rfl 1 rfl ?_
  refine v_callV (c_X5_word l htd hfr htt) kal_X5_word rfl dX5_kindHere_1 qw_1025 qw_1027 qw_44 rfl (by decide) (cel_mod G _) (by decide) [] (Nat.le_of_ble_eq_true rfl) rfl rfl 4 rfl ?_
  generalize hw1 : wrdX mt td (fr, tt, vl, wr) = w1
  have gw1 : wrdX mt td (fr, tt, vl, wr) = w1 := hw1
  refine v_lstore_n dX5_kindHere_4 1 rfl (by decide) [(1, .long w1), (0, .ref (ga G (93)))] rfl 5 rfl ?_
  refine v_lload_n dX5_kindHere_5 0 rfl 6 rfl ?_
  refine v_ldc2 dX5_kindHere_6 5861 qw_1031 9 rfl ?_
  refine v_lcmp dX5_kindHere_9 10 rfl ?_
  refine v_if_ne dX5_kindHere_10 17 (by decide) 13 rfl (fun c1 => ?_) (fun c1 => ?_)
  · skip
    refine v_lload_n dX5_kindHere_17 0 rfl 18 rfl ?_
    refine v_ldc2 dX5_kindHere_18 18477 qw_1032 21 rfl ?_
    refine v_lcmp dX5_kindHere_21 22 rfl ?_
    refine v_if_ne dX5_kindHere_22 29 (by decide) 25 rfl (fun c2 => ?_) (fun c2 => ?_)
    · skip
      refine v_lload_n dX5_kindHere_29 0 rfl 30 rfl ?_
      refine v_ldc2 dX5_kindHere_30 394658 qw_1033 33 rfl ?_
      refine v_lcmp dX5_kindHere_33 34 rfl ?_
      refine v_if_ne dX5_kindHere_34 41 (by decide) 37 rfl (fun c3 => ?_) (fun c3 => ?_)
      · skip
        refine v_lload_n dX5_kindHere_41 0 rfl 42 rfl ?_
        refine v_ldc2 dX5_kindHere_42 777658546 qw_1034 45 rfl ?_
        refine v_lcmp dX5_kindHere_45 46 rfl ?_
        refine v_if_ne dX5_kindHere_46 53 (by decide) 49 rfl (fun c4 => ?_) (fun c4 => ?_)
        · skip
          refine v_lload_n dX5_kindHere_53 0 rfl 54 rfl ?_
          refine v_ldc2 dX5_kindHere_54 2491499 qw_1035 57 rfl ?_
          refine v_lcmp dX5_kindHere_57 58 rfl ?_
          refine v_if_ne dX5_kindHere_58 65 (by decide) 61 rfl (fun c5 => ?_) (fun c5 => ?_)
          · skip
            refine v_lload_n dX5_kindHere_65 0 rfl 66 rfl ?_
            refine v_ldc2 dX5_kindHere_66 16564 qw_1036 69 rfl ?_
            refine v_lcmp dX5_kindHere_69 70 rfl ?_
            refine v_if_ne dX5_kindHere_70 77 (by decide) 73 rfl (fun c6 => ?_) (fun c6 => ?_)
            · skip
              refine v_iconst dX5_kindHere_77 (-1) rfl 78 rfl ?_
              exact v_iret dX5_kindHere_78 (by simp [kdX, c1, Ne.symm c1, c2, Ne.symm c2, c3, Ne.symm c3, c4, Ne.symm c4, c5, Ne.symm c5, c6, Ne.symm c6, gw1]) (by rfl)
            · skip
              refine v_iconst dX5_kindHere_73 5 rfl 74 rfl ?_
              refine v_goto dX5_kindHere_74 78 (by decide) ?_
              exact v_iret dX5_kindHere_78 (by simp [kdX, c1, Ne.symm c1, c2, Ne.symm c2, c3, Ne.symm c3, c4, Ne.symm c4, c5, Ne.symm c5, c6, gw1]) (by rfl)
          · skip
            refine v_iconst dX5_kindHere_61 4 rfl 62 rfl ?_
            refine v_goto dX5_kindHere_62 78 (by decide) ?_
            exact v_iret dX5_kindHere_78 (by simp [kdX, c1, Ne.symm c1, c2, Ne.symm c2, c3, Ne.symm c3, c4, Ne.symm c4, c5, gw1]) (by rfl)
        · skip
          refine v_iconst dX5_kindHere_49 3 rfl 50 rfl ?_
          refine v_goto dX5_kindHere_50 78 (by decide) ?_
          exact v_iret dX5_kindHere_78 (by simp [kdX, c1, Ne.symm c1, c2, Ne.symm c2, c3, Ne.symm c3, c4, gw1]) (by rfl)
      · skip
        refine v_iconst dX5_kindHere_37 2 rfl 38 rfl ?_
        refine v_goto dX5_kindHere_38 78 (by decide) ?_
        exact v_iret dX5_kindHere_78 (by simp [kdX, c1, Ne.symm c1, c2, Ne.symm c2, c3, gw1]) (by rfl)
    · skip
      refine v_iconst dX5_kindHere_25 1 rfl 26 rfl ?_
      refine v_goto dX5_kindHere_26 78 (by decide) ?_
      exact v_iret dX5_kindHere_78 (by simp [kdX, c1, Ne.symm c1, c2, gw1]) (by rfl)
  · skip
    refine v_iconst dX5_kindHere_13 0 rfl 14 rfl ?_
    refine v_goto dX5_kindHere_14 78 (by decide) ?_
    exact v_iret dX5_kindHere_78 (by simp [kdX, c1, gw1]) (by rfl)
set_option maxHeartbeats 1000000 in
set_option maxRecDepth 4000 in
theorem c_X5_eweItem (l : Launch) {G : Gl} {K : CS} {ms : Nat → Int32} {mk : Nat → Int32} {mo : Nat → Int32} {ma : Nat → Int32} {mf : Nat → Int32} {ik : Int32} {mt : Nat → Int32} {td : Nat} {fr : Nat} {tt : Nat} {vl : Int32} {wr : Int32} {mb : Nat → Int32} {mz : Nat → Int32} {nu : Nat → Int64} {mv : Nat → Int64} (htd : td ≤ 120) (hfr : fr ≤ 120) (htt : tt ≤ 120) {nE : Nat} (hn : ms 1 = nI nE) (hn8 : nE ≤ 8) (k9 : Int32) : Ct l G yX5_eweItem cX5_eweItem 3 none 5 113 [.ref (ga G (93)), .int k9] (K, (ms, mk, mo, ma, mf, ik, mt, td, fr, tt, vl, wr, mb, mz, nu, mv)) (none) (K, ((eiX mt td nE k9 (fr, tt, vl, wr) ms).2, mk, mo, ma, mf, ik, mt, td, (eiX mt td nE k9 (fr, tt, vl, wr) ms).1.1, (eiX mt td nE k9 (fr, tt, vl, wr) ms).1.2.1, (eiX mt td nE k9 (fr, tt, vl, wr) ms).1.2.2.1, (eiX mt td nE k9 (fr, tt, vl, wr) ms).1.2.2.2, mb, mz, nu, mv)) := by
  refine Ct.of (own := RX5) (by decide) rfl (Nat.le_of_ble_eq_true rfl) rfl (fun X => ?_)
  refine v_aload_n dX5_eweItem_0 0 rfl 1 rfl ?_
  refine v_aload_n dX5_eweItem_1 0 rfl 2 rfl ?_
  refine v_get (i := 0) (ci := 5) (T := TX5) (C := RX5) (N := 16) (v := .ref (ga G (94))) dX5_eweItem_2 inB5 rfl qw_686 rfl (by decide) (by decide) (cel_mod G _) rfl 5 rfl ?_
  refine v_iconst dX5_eweItem_5 1 rfl 6 rfl ?_
  refine v_iald (a := ms) dX5_eweItem_6 (by decide) (cel_ms G _) 1 rfl (by omega) (by decide) 7 rfl ?_
  refine v_topi (nI nE) hn ?_
  refine v_bipush dX5_eweItem_7 8 rfl 9 rfl ?_
  refine n_icmp_ge dX5_eweItem_9 nE 8 rfl rfl (by omega) (by omega) 16 (by decide) 12 rfl (fun c1 => ?_) (fun c1 => ?_)
  · skip
    refine v_iconst dX5_eweItem_16 0 rfl 17 rfl ?_
    refine v_callV (c_X5_must l htd hfr htt false) kal_X5_must rfl dX5_eweItem_17 qw_1041 qw_1043 qw_46 rfl (by decide) (cel_mod G _) (by decide) [] (Nat.le_of_ble_eq_true rfl) rfl rfl 20 rfl ?_
    generalize hx1 : musX mt td false (fr, tt, vl, wr) = x1
    have gx1 : musX mt td false (fr, tt, vl, wr) = x1 := hx1
    have ix1 : XI x1 := gx1 ▸ XI_mus htd ⟨hfr, htt⟩
    refine v_aload_n dX5_eweItem_20 0 rfl 21 rfl ?_
    refine v_get (i := 11) (ci := 5) (T := TX5) (C := RX5) (N := 16) (v := .int x1.2.2.2) dX5_eweItem_21 inB5 rfl qw_697 rfl (by decide) (by decide) (cel_mod G _) rfl 24 rfl ?_
    refine v_if_eq dX5_eweItem_24 28 (by decide) 27 rfl (fun c2 => ?_) (fun c2 => ?_)
    · skip
      exact absurd ((mus_ok (mt := mt) (td := td) (ok := false) (x := (fr, tt, vl, wr)) (by rw [gx1]; assumption)).2.1) (by decide)
    · skip
      exact v_vret dX5_eweItem_27 (by rfl) (by simp only [eiX, e3X, e1X, c1, Nat.not_lt.mpr c1, c2, Ne.symm c2, gx1, decide_true, decide_false, if_true, if_false, ↓reduceIte] <;> rfl)
  · skip
    refine v_iconst dX5_eweItem_12 1 rfl 13 rfl ?_
    refine v_goto dX5_eweItem_13 17 (by decide) ?_
    refine v_callV (c_X5_must l htd hfr htt true) kal_X5_must rfl dX5_eweItem_17 qw_1041 qw_1043 qw_46 rfl (by decide) (cel_mod G _) (by decide) [] (Nat.le_of_ble_eq_true rfl) rfl rfl 20 rfl ?_
    generalize hx1 : musX mt td true (fr, tt, vl, wr) = x1
    have gx1 : musX mt td true (fr, tt, vl, wr) = x1 := hx1
    have ix1 : XI x1 := gx1 ▸ XI_mus htd ⟨hfr, htt⟩
    refine v_aload_n dX5_eweItem_20 0 rfl 21 rfl ?_
    refine v_get (i := 11) (ci := 5) (T := TX5) (C := RX5) (N := 16) (v := .int x1.2.2.2) dX5_eweItem_21 inB5 rfl qw_697 rfl (by decide) (by decide) (cel_mod G _) rfl 24 rfl ?_
    refine v_if_eq dX5_eweItem_24 28 (by decide) 27 rfl (fun c3 => ?_) (fun c3 => ?_)
    · skip
      refine v_aload_n dX5_eweItem_28 0 rfl 29 rfl ?_
      refine v_iload_n dX5_eweItem_29 1 rfl 30 rfl ?_
      refine v_callV (c_X5_adds l hn (by omega) k9) kal_X5_adds rfl dX5_eweItem_30 qw_797 qw_799 qw_20 rfl (by decide) (cel_mod G _) (by decide) [] (Nat.le_of_ble_eq_true rfl) rfl rfl 33 rfl ?_
      refine v_istore_n dX5_eweItem_33 2 rfl (by decide) [(2, .int (nI nE)), (0, .ref (ga G (93))), (1, .int k9)] rfl 34 rfl ?_
      refine v_aload_n dX5_eweItem_34 1 rfl 35 rfl ?_
      refine v_callV (c_X5_word l htd ix1.1 ix1.2) kal_X5_word rfl dX5_eweItem_35 qw_1025 qw_1027 qw_44 rfl (by decide) (cel_mod G _) (by decide) [] (Nat.le_of_ble_eq_true rfl) rfl rfl 38 rfl ?_
      generalize hw1 : wrdX mt td (x1.1, x1.2.1, x1.2.2.1, x1.2.2.2) = w1
      have gw1 : wrdX mt td x1 = w1 := hw1
      refine v_ldc2 dX5_eweItem_38 220503316 qw_1045 41 rfl ?_
      refine v_lcmp dX5_eweItem_41 42 rfl ?_
      refine v_if_ne dX5_eweItem_42 71 (by decide) 45 rfl (fun c4 => ?_) (fun c4 => ?_)
      · skip
        exact v_vret dX5_eweItem_71 (by rfl) (by simp only [eiX, e3X, e1X, c1, Nat.not_le.mpr c1, c3, c4, Ne.symm c4, gx1, gw1, decide_true, decide_false, if_true, if_false, ↓reduceIte] <;> rfl)
      · skip
        refine v_aload_n dX5_eweItem_45 1 rfl 46 rfl ?_
        refine v_iconst dX5_eweItem_46 1 rfl 47 rfl ?_
        refine v_callV (c_X5_must l htd ix1.1 ix1.2 true) kal_X5_must rfl dX5_eweItem_47 qw_1041 qw_1043 qw_46 rfl (by decide) (cel_mod G _) (by decide) [] (Nat.le_of_ble_eq_true rfl) rfl rfl 50 rfl ?_
        generalize hx2 : musX mt td true (x1.1, x1.2.1, x1.2.2.1, x1.2.2.2) = x2
        have gx2 : musX mt td true x1 = x2 := hx2
        have ix2 : XI x2 := gx2 ▸ XI_mus htd ix1
        refine v_aload_n dX5_eweItem_50 1 rfl 51 rfl ?_
        refine v_iconst dX5_eweItem_51 0 rfl 52 rfl ?_
        refine v_bipush dX5_eweItem_52 99 rfl 54 rfl ?_
        refine v_callV (c_X5_number l htd ix2.1 ix2.2 99) kal_X5_number rfl dX5_eweItem_54 qw_1046 qw_1048 qw_47 rfl (by decide) (cel_mod G _) (by decide) [] (Nat.le_of_ble_eq_true rfl) rfl rfl 57 rfl ?_
        generalize hx3 : numX mt td 99 (x2.1, x2.2.1, x2.2.2.1, x2.2.2.2) = x3
        have gx3 : numX mt td 99 x2 = x3 := hx3
        have ix3 : XI x3 := gx3 ▸ XI_num htd ix2
        refine v_aload_n dX5_eweItem_57 1 rfl 58 rfl ?_
        refine v_get (i := 0) (ci := 5) (T := TX5) (C := RX5) (N := 16) (v := .ref (ga G (94))) dX5_eweItem_58 inB5 rfl qw_686 rfl (by decide) (by decide) (cel_mod G _) rfl 61 rfl ?_
        refine v_iload_n dX5_eweItem_61 0 rfl 62 rfl ?_
        refine v_iconst dX5_eweItem_62 1 rfl 63 rfl ?_
        refine v_callS (c_X5_spot l nE 1) kal_X5_spot rfl dX5_eweItem_63 qw_785 qw_786 (by decide) [.ref (ga G (94))] (Nat.le_of_ble_eq_true rfl) rfl rfl 66 rfl ?_
        refine v_aload_n dX5_eweItem_66 1 rfl 67 rfl ?_
        refine v_get (i := 10) (ci := 5) (T := TX5) (C := RX5) (N := 16) (v := .int x3.2.2.1) dX5_eweItem_67 inB5 rfl qw_696 rfl (by decide) (by decide) (cel_mod G _) rfl 70 rfl ?_
        refine v_iast (w2 := (K, (upd (mAdd ms nE k9) (38 + 14 * nE + 1) x3.2.2.1, mk, mo, ma, mf, ik, mt, td, x3.1, x3.2.1, x3.2.2.1, x3.2.2.2, mb, mz, nu, mv))) dX5_eweItem_70 (by decide) (cel_ms G _) (38 + 14 * nE + 1) rfl (by omega) (by decide) u_ms 71 rfl ?_
        exact v_vret dX5_eweItem_71 (by rfl) (by simp only [eiX, e3X, e1X, c1, Nat.not_le.mpr c1, c3, c4, gx1, gw1, gx2, gx3, decide_true, decide_false, if_true, if_false, ↓reduceIte] <;> rfl)
    · skip
      exact v_vret dX5_eweItem_27 (by rfl) (by simp only [eiX, e3X, e1X, c1, Nat.not_le.mpr c1, c3, Ne.symm c3, gx1, decide_true, decide_false, if_true, if_false, ↓reduceIte] <;> rfl)
set_option maxHeartbeats 1000000 in
set_option maxRecDepth 4000 in
theorem c_X5_item (l : Launch) {G : Gl} {K : CS} {ms : Nat → Int32} {mk : Nat → Int32} {mo : Nat → Int32} {ma : Nat → Int32} {mf : Nat → Int32} {ik : Int32} {mt : Nat → Int32} {td : Nat} {fr : Nat} {tt : Nat} {vl : Int32} {wr : Int32} {mb : Nat → Int32} {mz : Nat → Int32} {nu : Nat → Int64} {mv : Nat → Int64} (htd : td ≤ 120) (hfr : fr ≤ 120) (htt : tt ≤ 120) {nE : Nat} (hn : ms 1 = nI nE) (hn8 : nE ≤ 8) : Ct l G yX5_item cX5_item 4 none 6 136 [.ref (ga G (93))] (K, (ms, mk, mo, ma, mf, ik, mt, td, fr, tt, vl, wr, mb, mz, nu, mv)) (none) (K, ((itX mt td nE (fr, tt, vl, wr) ms).2, mk, mo, ma, mf, ik, mt, td, (itX mt td nE (fr, tt, vl, wr) ms).1.1, (itX mt td nE (fr, tt, vl, wr) ms).1.2.1, (itX mt td nE (fr, tt, vl, wr) ms).1.2.2.1, (itX mt td nE (fr, tt, vl, wr) ms).1.2.2.2, mb, mz, nu, mv)) := by
  refine Ct.of (own := RX5) (by decide) rfl (Nat.le_of_ble_eq_true rfl) rfl (fun X => ?_)
  refine v_aload_n dX5_item_0 0 rfl 1 rfl ?_
  refine v_callV (c_X5_kindHere l htd hfr htt) kal_X5_kindHere rfl dX5_item_1 qw_1021 qw_1023 qw_43 rfl (by decide) (cel_mod G _) (by decide) [] (Nat.le_of_ble_eq_true rfl) rfl rfl 4 rfl ?_
  generalize gw1 : wrdX mt td (fr, tt, vl, wr) = w1
  refine v_istore_n dX5_item_4 1 rfl (by decide) [(1, .int (kdX w1)), (0, .ref (ga G (93)))] rfl 5 rfl ?_
  refine v_aload_n dX5_item_5 1 rfl 6 rfl ?_
  refine v_callV (c_X5_word l htd hfr htt) kal_X5_word rfl dX5_item_6 qw_1025 qw_1027 qw_44 rfl (by decide) (cel_mod G _) (by decide) [] (Nat.le_of_ble_eq_true rfl) rfl rfl 9 rfl ?_
  rw [gw1]
  refine v_lstore_n dX5_item_9 2 rfl (by decide) [(2, .long w1), (1, .int (kdX w1)), (0, .ref (ga G (93)))] rfl 10 rfl ?_
  refine v_iload_n dX5_item_10 1 rfl 11 rfl ?_
  refine v_if_lt dX5_item_11 22 (by decide) 14 rfl (fun c1 => ?_) (fun c1 => ?_)
  · skip
    refine v_lload_n dX5_item_22 0 rfl 23 rfl ?_
    refine v_ldc2 dX5_item_23 114052 qw_1050 26 rfl ?_
    refine v_lcmp dX5_item_26 27 rfl ?_
    refine v_if_ne dX5_item_27 38 (by decide) 30 rfl (fun c2 => ?_) (fun c2 => ?_)
    · skip
      refine v_lload_n dX5_item_38 0 rfl 39 rfl ?_
      refine v_ldc2 dX5_item_39 435588 qw_1055 42 rfl ?_
      refine v_lcmp dX5_item_42 43 rfl ?_
      refine v_if_ne dX5_item_43 54 (by decide) 46 rfl (fun c3 => ?_) (fun c3 => ?_)
      · skip
        refine v_lload_n dX5_item_54 0 rfl 55 rfl ?_
        refine v_ldc2 dX5_item_55 3764 qw_1056 58 rfl ?_
        refine v_lcmp dX5_item_58 59 rfl ?_
        refine v_if_ne dX5_item_59 69 (by decide) 62 rfl (fun c4 => ?_) (fun c4 => ?_)
        · skip
          refine v_lload_n dX5_item_69 0 rfl 70 rfl ?_
          refine v_ldc2 dX5_item_70 20594245 qw_1061 73 rfl ?_
          refine v_lcmp dX5_item_73 74 rfl ?_
          refine v_if_ne dX5_item_74 84 (by decide) 77 rfl (fun c5 => ?_) (fun c5 => ?_)
          · skip
            refine v_aload_n dX5_item_84 2 rfl 85 rfl ?_
            refine v_iconst dX5_item_85 0 rfl 86 rfl ?_
            refine v_callV (c_X5_must l htd hfr htt false) kal_X5_must rfl dX5_item_86 qw_1041 qw_1043 qw_46 rfl (by decide) (cel_mod G _) (by decide) [] (Nat.le_of_ble_eq_true rfl) rfl rfl 89 rfl ?_
            generalize hx1 : musX mt td false (fr, tt, vl, wr) = x1
            have gx1 : musX mt td false (fr, tt, vl, wr) = x1 := hx1
            have ix1 : XI x1 := gx1 ▸ XI_mus htd ⟨hfr, htt⟩
            exact v_vret dX5_item_89 (by rfl) (by simp only [itX, c1, Int32.not_le.mpr c1, c2, Ne.symm c2, c3, Ne.symm c3, c4, Ne.symm c4, c5, Ne.symm c5, gw1, gx1, if_true, if_false, ↓reduceIte] <;> rfl)
          · skip
            refine v_aload_n dX5_item_77 2 rfl 78 rfl ?_
            refine v_callV (c_X5_storeItem l htd hfr htt ) kal_X5_storeItem rfl dX5_item_78 qw_1062 qw_1064 qw_50 rfl (by decide) (cel_mod G _) (by decide) [] (Nat.le_of_ble_eq_true rfl) rfl rfl 81 rfl ?_
            generalize hr : siX mt td (fr, tt, vl, wr) ms = r
            refine v_goto dX5_item_81 89 (by decide) ?_
            exact v_vret dX5_item_89 (by rfl) (by simp only [itX, c1, Int32.not_le.mpr c1, c2, Ne.symm c2, c3, Ne.symm c3, c4, Ne.symm c4, c5, gw1, hr, if_true, if_false, ↓reduceIte] <;> rfl)
        · skip
          refine v_aload_n dX5_item_62 2 rfl 63 rfl ?_
          refine v_callV (c_X5_cutItem l htd hfr htt ) kal_X5_cutItem rfl dX5_item_63 qw_1057 qw_1059 qw_49 rfl (by decide) (cel_mod G _) (by decide) [] (Nat.le_of_ble_eq_true rfl) rfl rfl 66 rfl ?_
          generalize hr : ciX mt td (fr, tt, vl, wr) ms = r
          refine v_goto dX5_item_66 89 (by decide) ?_
          exact v_vret dX5_item_89 (by rfl) (by simp only [itX, c1, Int32.not_le.mpr c1, c2, Ne.symm c2, c3, Ne.symm c3, c4, gw1, hr, if_true, if_false, ↓reduceIte] <;> rfl)
      · skip
        refine v_aload_n dX5_item_46 2 rfl 47 rfl ?_
        refine v_iconst dX5_item_47 1 rfl 48 rfl ?_
        refine v_callV (c_X5_weatherItem l htd hfr htt 1) kal_X5_weatherItem rfl dX5_item_48 qw_1051 qw_1053 qw_48 rfl (by decide) (cel_mod G _) (by decide) [] (Nat.le_of_ble_eq_true rfl) rfl rfl 51 rfl ?_
        generalize hr : wiX mt td 1 (fr, tt, vl, wr) ms = r
        refine v_goto dX5_item_51 89 (by decide) ?_
        exact v_vret dX5_item_89 (by rfl) (by simp only [itX, c1, Int32.not_le.mpr c1, c2, Ne.symm c2, c3, gw1, hr, if_true, if_false, ↓reduceIte] <;> rfl)
    · skip
      refine v_aload_n dX5_item_30 2 rfl 31 rfl ?_
      refine v_iconst dX5_item_31 (-1) rfl 32 rfl ?_
      refine v_callV (c_X5_weatherItem l htd hfr htt (-1)) kal_X5_weatherItem rfl dX5_item_32 qw_1051 qw_1053 qw_48 rfl (by decide) (cel_mod G _) (by decide) [] (Nat.le_of_ble_eq_true rfl) rfl rfl 35 rfl ?_
      generalize hr : wiX mt td (-1) (fr, tt, vl, wr) ms = r
      refine v_goto dX5_item_35 89 (by decide) ?_
      exact v_vret dX5_item_89 (by rfl) (by simp only [itX, c1, Int32.not_le.mpr c1, c2, gw1, hr, if_true, if_false, ↓reduceIte] <;> rfl)
  · skip
    refine v_aload_n dX5_item_14 2 rfl 15 rfl ?_
    refine v_iload_n dX5_item_15 1 rfl 16 rfl ?_
    refine v_callV (c_X5_eweItem l htd hfr htt hn hn8 (kdX w1)) kal_X5_eweItem rfl dX5_item_16 qw_1037 qw_1039 qw_45 rfl (by decide) (cel_mod G _) (by decide) [] (Nat.le_of_ble_eq_true rfl) rfl rfl 19 rfl ?_
    generalize hr : eiX mt td nE (kdX w1) (fr, tt, vl, wr) ms = r
    refine v_goto dX5_item_19 89 (by decide) ?_
    exact v_vret dX5_item_89 (by rfl) (by simp only [itX, c1, Int32.not_lt.mp c1, gw1, hr, if_true, if_false, ↓reduceIte] <;> rfl)
