set_option maxHeartbeats 1000000 in
set_option maxRecDepth 4000 in
theorem c_X5_weatherItem (l : Launch) {G : Gl} {K : CS} {ms : Nat → Int32} {mk : Nat → Int32} {mo : Nat → Int32} {ma : Nat → Int32} {mf : Nat → Int32} {ik : Int32} {mt : Nat → Int32} {td : Nat} {fr : Nat} {tt : Nat} {vl : Int32} {wr : Int32} {mb : Nat → Int32} {mz : Nat → Int32} {nu : Nat → Int64} {mv : Nat → Int64} (htd : td ≤ 120) (hfr : fr ≤ 120) (htt : tt ≤ 120) (sg : Int32) : Ct l G yX5_weatherItem cX5_weatherItem 3 none 5 113 [.ref (ga G (93)), .int sg] (K, (ms, mk, mo, ma, mf, ik, mt, td, fr, tt, vl, wr, mb, mz, nu, mv)) (none) (K, ((wiX mt td sg (fr, tt, vl, wr) ms).2, mk, mo, ma, mf, ik, mt, td, (wiX mt td sg (fr, tt, vl, wr) ms).1.1, (wiX mt td sg (fr, tt, vl, wr) ms).1.2.1, (wiX mt td sg (fr, tt, vl, wr) ms).1.2.2.1, (wiX mt td sg (fr, tt, vl, wr) ms).1.2.2.2, mb, mz, nu, mv)) := by
  refine Ct.of (own := RX5) (by decide) rfl (Nat.le_of_ble_eq_true rfl) rfl (fun X => ?_)
  refine v_aload_n dX5_weatherItem_0 0 rfl 1 rfl ?_
  refine v_iconst dX5_weatherItem_1 1 rfl 2 rfl ?_
  refine v_callV (c_X5_must l htd hfr htt true) kal_X5_must rfl dX5_weatherItem_2 qw_1041 qw_1043 qw_46 rfl (by decide) (cel_mod G _) (by decide) [] (Nat.le_of_ble_eq_true rfl) rfl rfl 5 rfl ?_
  generalize hx1 : musX mt td true (fr, tt, vl, wr) = x1
  have gx1 : musX mt td true (fr, tt, vl, wr) = x1 := hx1
  have ix1 : XI x1 := gx1 ▸ XI_mus htd ⟨hfr, htt⟩
  refine v_aload_n dX5_weatherItem_5 0 rfl 6 rfl ?_
  refine v_iconst dX5_weatherItem_6 0 rfl 7 rfl ?_
  refine v_bipush dX5_weatherItem_7 11 rfl 9 rfl ?_
  refine v_callV (c_X5_number l htd ix1.1 ix1.2 11) kal_X5_number rfl dX5_weatherItem_9 qw_1046 qw_1048 qw_47 rfl (by decide) (cel_mod G _) (by decide) [] (Nat.le_of_ble_eq_true rfl) rfl rfl 12 rfl ?_
  generalize hx2 : numX mt td 11 (x1.1, x1.2.1, x1.2.2.1, x1.2.2.2) = x2
  have gx2 : numX mt td 11 x1 = x2 := hx2
  have ix2 : XI x2 := gx2 ▸ XI_num htd ix1
  refine v_aload_n dX5_weatherItem_12 0 rfl 13 rfl ?_
  refine v_get (i := 10) (ci := 5) (T := TX5) (C := RX5) (N := 16) (v := .int x2.2.2.1) dX5_weatherItem_13 inB5 rfl qw_696 rfl (by decide) (by decide) (cel_mod G _) rfl 16 rfl ?_
  refine v_istore_n dX5_weatherItem_16 2 rfl (by decide) [(2, .int x2.2.2.1), (0, .ref (ga G (93))), (1, .int sg)] rfl 17 rfl ?_
  refine v_aload_n dX5_weatherItem_17 1 rfl 18 rfl ?_
  refine v_iconst dX5_weatherItem_18 0 rfl 19 rfl ?_
  refine v_bipush dX5_weatherItem_19 20 rfl 21 rfl ?_
  refine v_callV (c_X5_number l htd ix2.1 ix2.2 20) kal_X5_number rfl dX5_weatherItem_21 qw_1046 qw_1048 qw_47 rfl (by decide) (cel_mod G _) (by decide) [] (Nat.le_of_ble_eq_true rfl) rfl rfl 24 rfl ?_
  generalize hx3 : numX mt td 20 (x2.1, x2.2.1, x2.2.2.1, x2.2.2.2) = x3
  have gx3 : numX mt td 20 x2 = x3 := hx3
  have ix3 : XI x3 := gx3 ▸ XI_num htd ix2
  refine v_aload_n dX5_weatherItem_24 1 rfl 25 rfl ?_
  refine v_get (i := 11) (ci := 5) (T := TX5) (C := RX5) (N := 16) (v := .int x3.2.2.2) dX5_weatherItem_25 inB5 rfl qw_697 rfl (by decide) (by decide) (cel_mod G _) rfl 28 rfl ?_
  refine v_if_ne dX5_weatherItem_28 45 (by decide) 31 rfl (fun c1 => ?_) (fun c1 => ?_)
  · skip
    exact v_vret dX5_weatherItem_45 (by rfl) (by simp only [wiX, x3X, x2X, x1X, c1, Ne.symm c1, gx1, gx2, gx3, if_true, if_false, ↓reduceIte] <;> first | rfl | (simp only [ejm, ecjm] <;> rfl))
  · skip
    obtain ⟨jm, h1jm, h2jm, ejm⟩ := inb_ix (lo := 0) (hi := 11) (show inb 0 11 x2.2.2.1 = true from by have q := (num_ok (mt := mt) (td := td) (h9 := 11) (x := x1) (by rw [gx2]; exact (num_ok (mt := mt) (td := td) (h9 := 20) (x := x2) (by rw [gx3]; assumption)).1)).2; rw [gx2] at q; exact q)
    have ecjm : (nI jm).toNatClampNeg = jm := nI_clamp (by omega)
    refine v_ls (ls2 := [(2, .int (nI jm)), (0, .ref (ga G (93))), (1, .int sg)]) (by rw [ejm]) ?_
    refine v_aload_n dX5_weatherItem_31 1 rfl 32 rfl ?_
    refine v_get (i := 0) (ci := 5) (T := TX5) (C := RX5) (N := 16) (v := .ref (ga G (94))) dX5_weatherItem_32 inB5 rfl qw_686 rfl (by decide) (by decide) (cel_mod G _) rfl 35 rfl ?_
    refine v_iconst dX5_weatherItem_35 2 rfl 36 rfl ?_
    refine v_iload_n dX5_weatherItem_36 0 rfl 37 rfl ?_
    refine n_iadd dX5_weatherItem_37 2 jm rfl rfl 38 rfl ?_
    refine v_iload_n dX5_weatherItem_38 2 rfl 39 rfl ?_
    refine v_aload_n dX5_weatherItem_39 1 rfl 40 rfl ?_
    refine v_get (i := 10) (ci := 5) (T := TX5) (C := RX5) (N := 16) (v := .int x3.2.2.1) dX5_weatherItem_40 inB5 rfl qw_696 rfl (by decide) (by decide) (cel_mod G _) rfl 43 rfl ?_
    refine v_imul dX5_weatherItem_43 44 rfl ?_
    refine v_iast (w2 := (K, (upd ms (2 + jm) (sg * x3.2.2.1), mk, mo, ma, mf, ik, mt, td, x3.1, x3.2.1, x3.2.2.1, x3.2.2.2, mb, mz, nu, mv))) dX5_weatherItem_44 (by decide) (cel_ms G _) (2 + jm) rfl (by omega) (by decide) u_ms 45 rfl ?_
    exact v_vret dX5_weatherItem_45 (by rfl) (by simp only [wiX, x3X, x2X, x1X, c1, gx1, gx2, gx3, if_true, if_false, ↓reduceIte] <;> first | rfl | (simp only [ejm, ecjm] <;> rfl))
set_option maxHeartbeats 1000000 in
set_option maxRecDepth 4000 in
theorem c_X5_storeItem (l : Launch) {G : Gl} {K : CS} {ms : Nat → Int32} {mk : Nat → Int32} {mo : Nat → Int32} {ma : Nat → Int32} {mf : Nat → Int32} {ik : Int32} {mt : Nat → Int32} {td : Nat} {fr : Nat} {tt : Nat} {vl : Int32} {wr : Int32} {mb : Nat → Int32} {mz : Nat → Int32} {nu : Nat → Int64} {mv : Nat → Int64} (htd : td ≤ 120) (hfr : fr ≤ 120) (htt : tt ≤ 120) : Ct l G yX5_storeItem cX5_storeItem 2 none 5 113 [.ref (ga G (93))] (K, (ms, mk, mo, ma, mf, ik, mt, td, fr, tt, vl, wr, mb, mz, nu, mv)) (none) (K, ((siX mt td (fr, tt, vl, wr) ms).2, mk, mo, ma, mf, ik, mt, td, (siX mt td (fr, tt, vl, wr) ms).1.1, (siX mt td (fr, tt, vl, wr) ms).1.2.1, (siX mt td (fr, tt, vl, wr) ms).1.2.2.1, (siX mt td (fr, tt, vl, wr) ms).1.2.2.2, mb, mz, nu, mv)) := by
  refine Ct.of (own := RX5) (by decide) rfl (Nat.le_of_ble_eq_true rfl) rfl (fun X => ?_)
  refine v_aload_n dX5_storeItem_0 0 rfl 1 rfl ?_
  refine v_iconst dX5_storeItem_1 1 rfl 2 rfl ?_
  refine v_callV (c_X5_must l htd hfr htt true) kal_X5_must rfl dX5_storeItem_2 qw_1041 qw_1043 qw_46 rfl (by decide) (cel_mod G _) (by decide) [] (Nat.le_of_ble_eq_true rfl) rfl rfl 5 rfl ?_
  generalize hx1 : musX mt td true (fr, tt, vl, wr) = x1
  have gx1 : musX mt td true (fr, tt, vl, wr) = x1 := hx1
  have ix1 : XI x1 := gx1 ▸ XI_mus htd ⟨hfr, htt⟩
  refine v_aload_n dX5_storeItem_5 0 rfl 6 rfl ?_
  refine v_iconst dX5_storeItem_6 0 rfl 7 rfl ?_
  refine v_bipush dX5_storeItem_7 11 rfl 9 rfl ?_
  refine v_callV (c_X5_number l htd ix1.1 ix1.2 11) kal_X5_number rfl dX5_storeItem_9 qw_1046 qw_1048 qw_47 rfl (by decide) (cel_mod G _) (by decide) [] (Nat.le_of_ble_eq_true rfl) rfl rfl 12 rfl ?_
  generalize hx2 : numX mt td 11 (x1.1, x1.2.1, x1.2.2.1, x1.2.2.2) = x2
  have gx2 : numX mt td 11 x1 = x2 := hx2
  have ix2 : XI x2 := gx2 ▸ XI_num htd ix1
  refine v_aload_n dX5_storeItem_12 0 rfl 13 rfl ?_
  refine v_get (i := 10) (ci := 5) (T := TX5) (C := RX5) (N := 16) (v := .int x2.2.2.1) dX5_storeItem_13 inB5 rfl qw_696 rfl (by decide) (by decide) (cel_mod G _) rfl 16 rfl ?_
  refine v_istore_n dX5_storeItem_16 1 rfl (by decide) [(1, .int x2.2.2.1), (0, .ref (ga G (93)))] rfl 17 rfl ?_
  refine v_aload_n dX5_storeItem_17 1 rfl 18 rfl ?_
  refine v_iconst dX5_storeItem_18 0 rfl 19 rfl ?_
  refine v_sipush dX5_storeItem_19 9999 rfl 22 rfl ?_
  refine v_callV (c_X5_number l htd ix2.1 ix2.2 9999) kal_X5_number rfl dX5_storeItem_22 qw_1046 qw_1048 qw_47 rfl (by decide) (cel_mod G _) (by decide) [] (Nat.le_of_ble_eq_true rfl) rfl rfl 25 rfl ?_
  generalize hx3 : numX mt td 9999 (x2.1, x2.2.1, x2.2.2.1, x2.2.2.2) = x3
  have gx3 : numX mt td 9999 x2 = x3 := hx3
  have ix3 : XI x3 := gx3 ▸ XI_num htd ix2
  refine v_aload_n dX5_storeItem_25 1 rfl 26 rfl ?_
  refine v_get (i := 11) (ci := 5) (T := TX5) (C := RX5) (N := 16) (v := .int x3.2.2.2) dX5_storeItem_26 inB5 rfl qw_697 rfl (by decide) (by decide) (cel_mod G _) rfl 29 rfl ?_
  refine v_if_ne dX5_storeItem_29 45 (by decide) 32 rfl (fun c1 => ?_) (fun c1 => ?_)
  · skip
    exact v_vret dX5_storeItem_45 (by rfl) (by simp only [siX, x3X, x2X, x1X, c1, Ne.symm c1, gx1, gx2, gx3, if_true, if_false, ↓reduceIte] <;> first | rfl | (simp only [ejm, ecjm] <;> rfl))
  · skip
    obtain ⟨jm, h1jm, h2jm, ejm⟩ := inb_ix (lo := 0) (hi := 11) (show inb 0 11 x2.2.2.1 = true from by have q := (num_ok (mt := mt) (td := td) (h9 := 11) (x := x1) (by rw [gx2]; exact (num_ok (mt := mt) (td := td) (h9 := 9999) (x := x2) (by rw [gx3]; assumption)).1)).2; rw [gx2] at q; exact q)
    have ecjm : (nI jm).toNatClampNeg = jm := nI_clamp (by omega)
    refine v_ls (ls2 := [(1, .int (nI jm)), (0, .ref (ga G (93)))]) (by rw [ejm]) ?_
    refine v_aload_n dX5_storeItem_32 1 rfl 33 rfl ?_
    refine v_get (i := 0) (ci := 5) (T := TX5) (C := RX5) (N := 16) (v := .ref (ga G (94))) dX5_storeItem_33 inB5 rfl qw_686 rfl (by decide) (by decide) (cel_mod G _) rfl 36 rfl ?_
    refine v_bipush dX5_storeItem_36 14 rfl 38 rfl ?_
    refine v_iload_n dX5_storeItem_38 0 rfl 39 rfl ?_
    refine n_iadd dX5_storeItem_39 14 jm rfl rfl 40 rfl ?_
    refine v_aload_n dX5_storeItem_40 1 rfl 41 rfl ?_
    refine v_get (i := 10) (ci := 5) (T := TX5) (C := RX5) (N := 16) (v := .int x3.2.2.1) dX5_storeItem_41 inB5 rfl qw_696 rfl (by decide) (by decide) (cel_mod G _) rfl 44 rfl ?_
    refine v_iast (w2 := (K, (upd ms (14 + jm) x3.2.2.1, mk, mo, ma, mf, ik, mt, td, x3.1, x3.2.1, x3.2.2.1, x3.2.2.2, mb, mz, nu, mv))) dX5_storeItem_44 (by decide) (cel_ms G _) (14 + jm) rfl (by omega) (by decide) u_ms 45 rfl ?_
    exact v_vret dX5_storeItem_45 (by rfl) (by simp only [siX, x3X, x2X, x1X, c1, gx1, gx2, gx3, if_true, if_false, ↓reduceIte] <;> first | rfl | (simp only [ejm, ecjm] <;> rfl))
