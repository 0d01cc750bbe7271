section VROWS2
variable {l : Launch} {X : VX} {f n : Nat} {cc : ByteArray} {nL : Nat} {own : String} {ret : Option FieldType} {G : Gl} {ov : Option Value} {wF w : WS} {pc : Nat} {ls ls2 : List (Nat × Value)} {st : List Value}
theorem v_copyl {k1 k2 N1 N2 : Nat} {a b : Nat → Int64} {w2 : WS} {index : Nat} (hd : decode cc pc = .ok (.invokestatic index, 3)) (hlink : Cond.methodLink own index arraycopyName ∈ BIG) (hf : 1 ≤ f) (hr : (st.map fun v => v.category).sum + (nativeFrameWords "java/lang/System" "arraycopy" 5 + 11) ≤ n) (h1 : k1 < 104) (hc1 : cel G w k1 = aj (gcJ G) N1 a) (h2 : k2 < 104) (hc2 : cel G w k2 = aj (gcJ G) N2 b) {x y z : Int32} (i j mm : Nat) (hx : x = nI i) (hy : y = nI j) (hz : z = nI mm) (hm1 : i + mm ≤ N1) (hm2 : j + mm ≤ N2) (hN1 : N1 < 2 ^ 31) (hN2 : N2 < 2 ^ 31) (hw2 : ∀ j2, j2 < 104 → cel G w2 j2 = if j2 = k2 then aj (gcJ G) N2 (va_cpy a b i j mm) else cel G w j2) (q : Nat) (hq : pc + 3 = q) (hkk : V l X f n cc nL own ret G ov wF w2 q ls (st)) : V l X f n cc nL own ret G ov wF w pc ls (.int z :: .int y :: .ref (ga G k2) :: .int x :: .ref (ga G k1) :: st) := by
  obtain ⟨p, e, s, m, args, below, meth, c⟩ := X
  intro hX H locs la hw hS hl
  subst hq
  subst hx
  subst hy
  subst hz
  have hi : i < 2 ^ 31 := by omega
  have hj : j < 2 ^ 31 := by omega
  have hmm : mm < 2 ^ 31 := by omega
  refine va_copyl (D := gD G) hX.1 hX.2.1 (by rw [hX.2.2.1]; exact hl.1.symm) hX.2.2.2.1 (hX.2.2.2.2.1 _ hlink) (hX.2.2.2.2.1 _ qw_native_copy) (hX.2.2.2.2.1 _ qw_static_copy) (hX.2.2.2.2.1 _ qw_init_System) hX.2.2.2.2.2.1.1 hw (hX.2.2.2.2.2.1.2.2.1.D w) hS k1 k2 2 2 (ty := .long) (wl_at h1 hc1) (wl_at h2 hc2) rfl rfl rfl (nI_pos hi) (nI_pos hj) (nI_pos hmm) (by rw [nI_clamp hi, nI_clamp hmm]; exact hm1) (by rw [nI_clamp hj, nI_clamp hmm]; exact hm2) (fun _ _ => rfl) hf hr hd (fun H1 locs1 hP1 _ hS1 => ?_)
  rw [nI_clamp hi, nI_clamp hj, nI_clamp hmm] at hP1
  refine hkk hX H1 locs1 la ?_ hS1 hl
  have e := wl_set h2 hw2
  unfold aj at e
  rw [e] at hP1
  exact hP1
end VROWS2
set_option maxHeartbeats 1000000 in
set_option maxRecDepth 4000 in
theorem lp_fillJ (l : Launch) {G : Gl} {X : VX} {ov : Option Value} {wF : WS} {par : Nat → Pa} {tp : Tp} {sh : Nat → Sh} {tl : Nat → Int32} {hi : Int32} {M : MS} {s : Nat} {sn : Rl} {zz : Nat} {sb : Int32} (hs : s < 4) : ∀ n i : Nat, i + n = 40 → V l X 0 0 cJ7_fill_d0a16 5 RJ7 none G ov wF ((par, tp, va_up sh s ((z40 sn 40), zz, sb), tl, hi), M) 22 [(3, .int (nI 40)), (4, .int (nI 40)), (0, .ref (ga G (88 + s))), (1, .long 0)] [] → V l X 0 0 cJ7_fill_d0a16 5 RJ7 none G ov wF ((par, tp, va_up sh s ((z40 sn i), zz, sb), tl, hi), M) 6 [(3, .int (nI i)), (4, .int (nI 40)), (0, .ref (ga G (88 + s))), (1, .long 0)] [] := by
  intro n
  induction n with
  | zero =>
    intro i hin hk
    obtain rfl : 40 = i := by omega
    refine v_iload_n dJ7_fill_d0a16_6 0 rfl 7 rfl ?_
    refine v_iload dJ7_fill_d0a16_7 1 rfl 9 rfl ?_
    refine n_icmp_ge dJ7_fill_d0a16_9 40 40 rfl rfl (by omega) (by omega) 22 (by decide) 12 rfl (fun c1 => ?_) (fun c1 => absurd c1 (by omega))
    exact hk
  | succ n ih =>
    intro i hin hk
    refine v_iload_n dJ7_fill_d0a16_6 0 rfl 7 rfl ?_
    refine v_iload dJ7_fill_d0a16_7 1 rfl 9 rfl ?_
    refine n_icmp_ge dJ7_fill_d0a16_9 i 40 rfl rfl (by omega) (by omega) 22 (by decide) 12 rfl (fun c1 => absurd c1 (by omega)) (fun c1 => ?_)
    refine v_aload_n dJ7_fill_d0a16_12 2 rfl 13 rfl ?_
    refine v_iload_n dJ7_fill_d0a16_13 0 rfl 14 rfl ?_
    refine v_lload_n dJ7_fill_d0a16_14 3 rfl 15 rfl ?_
    refine v_last (w2 := ((par, tp, va_up sh s ((vp_updL (z40 sn i) i 0), zz, sb), tl, hi), M)) dJ7_fill_d0a16_15 (k_num (by omega)) (f_num (by omega)) i rfl (by omega) (by decide) (u_sn (by omega)) 16 rfl ?_
    refine v_iinc dJ7_fill_d0a16_16 0 rfl (nI (i + 1)) (nI_1 _) (by decide) [(3, .int (nI (i + 1))), (4, .int (nI 40)), (0, .ref (ga G (88 + s))), (1, .long 0)] rfl 19 rfl ?_
    refine v_goto dJ7_fill_d0a16_19 6 (by decide) ?_
    refine v_w (w2 := ((par, tp, va_up sh s ((z40 sn (i + 1)), zz, sb), tl, hi), M)) (by rw [z40_s]) ?_
    exact ih (i + 1) (by omega) hk
set_option maxHeartbeats 1000000 in
set_option maxRecDepth 4000 in
theorem c_J7_fill_d0a16 (l : Launch) {G : Gl} {par : Nat → Pa} {tp : Tp} {sh : Nat → Sh} {tl : Nat → Int32} {hi : Int32} {M : MS} {s : Nat} {sn : Rl} {zz : Nat} {sb : Int32} (hs : s < 4) : Ct l G yJ7_fill_d0a16 cJ7_fill_d0a16 5 none 0 0 [.ref (ga G (88 + s)), .long 0] ((par, tp, va_up sh s (sn, zz, sb), tl, hi), M) (none) ((par, tp, va_up sh s ((z40 sn 40), zz, sb), tl, hi), M) := by
  refine Ct.of (own := RJ7) (by decide) rfl (Nat.le_of_ble_eq_true rfl) rfl (fun X => ?_)
  refine v_iconst dJ7_fill_d0a16_0 0 rfl 1 rfl ?_
  refine v_istore_n dJ7_fill_d0a16_1 3 rfl (by decide) [(3, .int 0), (0, .ref (ga G (88 + s))), (1, .long 0)] rfl 2 rfl ?_
  refine v_aload_n dJ7_fill_d0a16_2 1 rfl 3 rfl ?_
  refine v_alenL (a := sn) (N := 40) dJ7_fill_d0a16_3 (k_num (by omega)) (f_num (by omega)) 4 rfl ?_
  refine v_istore dJ7_fill_d0a16_4 (by decide) [(4, .int (nI 40)), (3, .int 0), (0, .ref (ga G (88 + s))), (1, .long 0)] rfl 6 rfl ?_
  refine v_pick [1, 0, 2, 3] [(3, .int 0), (4, .int (nI 40)), (0, .ref (ga G (88 + s))), (1, .long 0)] rfl ?_
  refine v_w (w2 := ((par, tp, va_up sh s ((z40 sn 0), zz, sb), tl, hi), M)) (by rw [z40_0]) ?_
  refine lp_fillJ l hs 40 0 (by omega) ?_
  exact v_vret dJ7_fill_d0a16_22 (by rfl) (by rfl)
set_option maxHeartbeats 1000000 in
set_option maxRecDepth 4000 in
theorem c_X2_isMissing (l : Launch) {G : Gl} {par : Nat → Pa} {tp : Tp} {sh : Nat → Sh} {tl : Nat → Int32} {hi : Int32} {M : MS} {s : Nat} {sn : Rl} {zz : Nat} {sb : Int32} (hs : s < 4) : Ct l G yX2_isMissing cX2_isMissing 1 (some .boolean) 0 0 [.ref (ga G (84 + s))] ((par, tp, va_up sh s (sn, zz, sb), tl, hi), M) (some (.int (b2 (decide (sb = 0))))) ((par, tp, va_up sh s (sn, zz, sb), tl, hi), M) := by
  refine Ct.of (own := RX2) (by decide) rfl (Nat.le_of_ble_eq_true rfl) rfl (fun X => ?_)
  refine v_aload_n dX2_isMissing_0 0 rfl 1 rfl ?_
  refine v_get (i := 2) (ci := 2) (T := TX2) (C := RX2) (N := 3) (v := .int sb) dX2_isMissing_1 inB2 rfl qw_186 rfl (by decide) (k_she (by omega)) (f_she (by omega)) rfl 4 rfl ?_
  refine v_if_ne dX2_isMissing_4 11 (by decide) 7 rfl (fun c1 => ?_) (fun c1 => ?_)
  · skip
    refine v_iconst dX2_isMissing_11 0 rfl 12 rfl ?_
    exact v_zret dX2_isMissing_12 rfl (by simp [b2, c1, Ne.symm c1]) (by rfl)
  · skip
    refine v_iconst dX2_isMissing_7 1 rfl 8 rfl ?_
    refine v_goto dX2_isMissing_8 12 (by decide) ?_
    exact v_zret dX2_isMissing_12 rfl (by simp [b2, c1]) (by rfl)
set_option maxHeartbeats 1000000 in
set_option maxRecDepth 4000 in
theorem c_X2_has (l : Launch) {G : Gl} {par : Nat → Pa} {tp : Tp} {sh : Nat → Sh} {tl : Nat → Int32} {hi : Int32} {M : MS} {s : Nat} {sn : Rl} {zz : Nat} {sb : Int32} (hs : s < 4) (a b : Int32) : Ct l G yX2_has cX2_has 3 (some .boolean) 0 0 [.ref (ga G (84 + s)), .int a, .int b] ((par, tp, va_up sh s (sn, zz, sb), tl, hi), M) (some (.int (b2 (hasS zz a b)))) ((par, tp, va_up sh s (sn, zz, sb), tl, hi), M) := by
  refine Ct.of (own := RX2) (by decide) rfl (Nat.le_of_ble_eq_true rfl) rfl (fun X => ?_)
  refine v_iload_n dX2_has_0 1 rfl 1 rfl ?_
  refine v_if_lt dX2_has_1 30 (by decide) 4 rfl (fun c1 => ?_) (fun c1 => ?_)
  · skip
    refine v_iconst dX2_has_30 0 rfl 31 rfl ?_
    exact v_zret dX2_has_31 rfl (by simp [hasS, b2, c1, Int32.not_le.mpr c1]) (by rfl)
  · skip
    refine v_iload_n dX2_has_4 2 rfl 5 rfl ?_
    refine v_if_lt dX2_has_5 30 (by decide) 8 rfl (fun c2 => ?_) (fun c2 => ?_)
    · skip
      refine v_iconst dX2_has_30 0 rfl 31 rfl ?_
      exact v_zret dX2_has_31 rfl (by simp [hasS, b2, c1, Int32.not_lt.mp c1, c2, Int32.not_le.mpr c2]) (by rfl)
    · skip
      refine v_iload_n dX2_has_8 1 rfl 9 rfl ?_
      refine v_aload_n dX2_has_9 0 rfl 10 rfl ?_
      refine v_get (i := 1) (ci := 2) (T := TX2) (C := RX2) (N := 3) (v := .int (nI zz)) dX2_has_10 inB2 rfl qw_184 rfl (by decide) (k_she (by omega)) (f_she (by omega)) rfl 13 rfl ?_
      refine v_icmp_gt dX2_has_13 30 (by decide) 16 rfl (fun c3 => ?_) (fun c3 => ?_)
      · skip
        refine v_iconst dX2_has_30 0 rfl 31 rfl ?_
        exact v_zret dX2_has_31 rfl (by simp [hasS, b2, c1, Int32.not_lt.mp c1, c2, Int32.not_lt.mp c2, c3, Int32.not_le.mpr c3]) (by rfl)
      · skip
        refine v_iload_n dX2_has_16 2 rfl 17 rfl ?_
        refine v_aload_n dX2_has_17 0 rfl 18 rfl ?_
        refine v_get (i := 1) (ci := 2) (T := TX2) (C := RX2) (N := 3) (v := .int (nI zz)) dX2_has_18 inB2 rfl qw_184 rfl (by decide) (k_she (by omega)) (f_she (by omega)) rfl 21 rfl ?_
        refine v_iload_n dX2_has_21 1 rfl 22 rfl ?_
        refine v_isub dX2_has_22 23 rfl ?_
        refine v_icmp_gt dX2_has_23 30 (by decide) 26 rfl (fun c4 => ?_) (fun c4 => ?_)
        · skip
          refine v_iconst dX2_has_30 0 rfl 31 rfl ?_
          exact v_zret dX2_has_31 rfl (by simp [hasS, b2, c1, Int32.not_lt.mp c1, c2, Int32.not_lt.mp c2, c3, Int32.not_lt.mp c3, c4, Int32.not_le.mpr c4]) (by rfl)
        · skip
          refine v_iconst dX2_has_26 1 rfl 27 rfl ?_
          refine v_goto dX2_has_27 31 (by decide) ?_
          exact v_zret dX2_has_31 rfl (by simp [hasS, b2, c1, Int32.not_lt.mp c1, c2, Int32.not_lt.mp c2, c3, Int32.not_lt.mp c3, c4, Int32.not_lt.mp c4]) (by rfl)
set_option maxHeartbeats 1000000 in
set_option maxRecDepth 4000 in
theorem c_X2_lay (l : Launch) {G : Gl} {par : Nat → Pa} {tp : Tp} {sh : Nat → Sh} {tl : Nat → Int32} {hi : Int32} {M : MS} {s : Nat} {sn : Rl} {zz : Nat} {sb : Int32} (hs : s < 4) (b : Int32) {z : Nat} : Ct l G yX2_lay cX2_lay 3 none 1 24 [.ref (ga G (84 + s)), .int b, .int (nI z)] ((par, tp, va_up sh s (sn, zz, sb), tl, hi), M) (none) ((par, tp, va_up sh s ((z40 sn 40), z, b), tl, hi), M) := by
  refine Ct.of (own := RX2) (by decide) rfl (Nat.le_of_ble_eq_true rfl) rfl (fun X => ?_)
  refine v_aload_n dX2_lay_0 0 rfl 1 rfl ?_
  refine v_iload_n dX2_lay_1 1 rfl 2 rfl ?_
  refine v_put (i := 2) (ci := 2) (T := TX2) (C := RX2) (N := 3) (ty := .int) (w2 := ((par, tp, va_up sh s (sn, zz, b), tl, hi), M)) dX2_lay_2 inB2 tyX2 tyX2_ok nmX2 rfl qw_186 rfl rfl rfl rfl rfl (by decide) (k_she (by omega)) (f_she (by omega)) (Nat.le_of_ble_eq_true rfl) (u_sh (by omega)) 5 rfl ?_
  refine v_aload_n dX2_lay_5 0 rfl 6 rfl ?_
  refine v_iload_n dX2_lay_6 2 rfl 7 rfl ?_
  refine v_put (i := 1) (ci := 2) (T := TX2) (C := RX2) (N := 3) (ty := .int) (w2 := ((par, tp, va_up sh s (sn, z, b), tl, hi), M)) dX2_lay_7 inB2 tyX2 tyX2_ok nmX2 rfl qw_184 rfl rfl rfl rfl rfl (by decide) (k_she (by omega)) (f_she (by omega)) (Nat.le_of_ble_eq_true rfl) (u_sh (by omega)) 10 rfl ?_
  refine v_aload_n dX2_lay_10 0 rfl 11 rfl ?_
  refine v_get (i := 0) (ci := 2) (T := TX2) (C := RX2) (N := 3) (v := .ref (ga G (88 + s))) dX2_lay_11 inB2 rfl qw_182 rfl (by decide) (k_she (by omega)) (f_she (by omega)) rfl 14 rfl ?_
  refine v_lconst dX2_lay_14 0 rfl 15 rfl ?_
  refine v_callS (c_J7_fill_d0a16 l (by omega)) kal_J7_fill_d0a16 rfl dX2_lay_15 qw_609 qw_610 (by decide) [] (Nat.le_of_ble_eq_true rfl) rfl rfl 18 rfl ?_
  exact v_vret dX2_lay_18 (by rfl) (by rfl)
set_option maxHeartbeats 1000000 in
set_option maxRecDepth 4000 in
theorem c_X2_put (l : Launch) {G : Gl} {par : Nat → Pa} {tp : Tp} {sh : Nat → Sh} {tl : Nat → Int32} {hi : Int32} {M : MS} {s : Nat} {sn : Rl} {zz : Nat} {sb : Int32} (hs : s < 4) {i : Nat} (hi9 : i < 40) (v : Int64) : Ct l G yX2_put cX2_put 4 none 0 0 [.ref (ga G (84 + s)), .int (nI i), .long v] ((par, tp, va_up sh s (sn, zz, sb), tl, hi), M) (none) ((par, tp, va_up sh s ((vp_updL sn i (nrw sb v)), zz, sb), tl, hi), M) := by
  refine Ct.of (own := RX2) (by decide) rfl (Nat.le_of_ble_eq_true rfl) rfl (fun X => ?_)
  refine v_aload_n dX2_put_0 0 rfl 1 rfl ?_
  refine v_get (i := 2) (ci := 2) (T := TX2) (C := RX2) (N := 3) (v := .int sb) dX2_put_1 inB2 rfl qw_186 rfl (by decide) (k_she (by omega)) (f_she (by omega)) rfl 4 rfl ?_
  refine v_bipush dX2_put_4 8 rfl 6 rfl ?_
  refine v_icmp_ne dX2_put_6 22 (by decide) 9 rfl (fun c1 => ?_) (fun c1 => ?_)
  · skip
    refine v_aload_n dX2_put_22 0 rfl 23 rfl ?_
    refine v_get (i := 2) (ci := 2) (T := TX2) (C := RX2) (N := 3) (v := .int sb) dX2_put_23 inB2 rfl qw_186 rfl (by decide) (k_she (by omega)) (f_she (by omega)) rfl 26 rfl ?_
    refine v_bipush dX2_put_26 16 rfl 28 rfl ?_
    refine v_icmp_ne dX2_put_28 44 (by decide) 31 rfl (fun c2 => ?_) (fun c2 => ?_)
    · skip
      refine v_aload_n dX2_put_44 0 rfl 45 rfl ?_
      refine v_get (i := 0) (ci := 2) (T := TX2) (C := RX2) (N := 3) (v := .ref (ga G (88 + s))) dX2_put_45 inB2 rfl qw_182 rfl (by decide) (k_she (by omega)) (f_she (by omega)) rfl 48 rfl ?_
      refine v_iload_n dX2_put_48 1 rfl 49 rfl ?_
      refine v_lload_n dX2_put_49 2 rfl 50 rfl ?_
      refine v_last (w2 := ((par, tp, va_up sh s ((vp_updL sn i v), zz, sb), tl, hi), M)) dX2_put_50 (k_num (by omega)) (f_num (by omega)) i rfl (by omega) (by decide) (u_sn (by omega)) 51 rfl ?_
      exact v_vret dX2_put_51 (by rfl) (by simp [nrw, c1, Ne.symm c1, c2, Ne.symm c2])
    · skip
      refine v_aload_n dX2_put_31 0 rfl 32 rfl ?_
      refine v_get (i := 0) (ci := 2) (T := TX2) (C := RX2) (N := 3) (v := .ref (ga G (88 + s))) dX2_put_32 inB2 rfl qw_182 rfl (by decide) (k_she (by omega)) (f_she (by omega)) rfl 35 rfl ?_
      refine v_iload_n dX2_put_35 1 rfl 36 rfl ?_
      refine v_lload_n dX2_put_36 2 rfl 37 rfl ?_
      refine v_l2i dX2_put_37 38 rfl ?_
      refine v_i2s dX2_put_38 39 rfl ?_
      refine v_i2l dX2_put_39 40 rfl ?_
      refine v_last (w2 := ((par, tp, va_up sh s ((vp_updL sn i ((v.toInt32 : Int32).toInt16.toInt32 : Int32).toInt64), zz, sb), tl, hi), M)) dX2_put_40 (k_num (by omega)) (f_num (by omega)) i rfl (by omega) (by decide) (u_sn (by omega)) 41 rfl ?_
      refine v_goto dX2_put_41 51 (by decide) ?_
      exact v_vret dX2_put_51 (by rfl) (by simp [nrw, c1, Ne.symm c1, c2])
  · skip
    refine v_aload_n dX2_put_9 0 rfl 10 rfl ?_
    refine v_get (i := 0) (ci := 2) (T := TX2) (C := RX2) (N := 3) (v := .ref (ga G (88 + s))) dX2_put_10 inB2 rfl qw_182 rfl (by decide) (k_she (by omega)) (f_she (by omega)) rfl 13 rfl ?_
    refine v_iload_n dX2_put_13 1 rfl 14 rfl ?_
    refine v_lload_n dX2_put_14 2 rfl 15 rfl ?_
    refine v_l2i dX2_put_15 16 rfl ?_
    refine v_i2b dX2_put_16 17 rfl ?_
    refine v_i2l dX2_put_17 18 rfl ?_
    refine v_last (w2 := ((par, tp, va_up sh s ((vp_updL sn i ((v.toInt32 : Int32).toInt8.toInt32 : Int32).toInt64), zz, sb), tl, hi), M)) dX2_put_18 (k_num (by omega)) (f_num (by omega)) i rfl (by omega) (by decide) (u_sn (by omega)) 19 rfl ?_
    refine v_goto dX2_put_19 51 (by decide) ?_
    exact v_vret dX2_put_51 (by rfl) (by simp [nrw, c1])
set_option maxHeartbeats 1000000 in
set_option maxRecDepth 4000 in
theorem c_X4_sheet (l : Launch) {G : Gl} {K : CS} {M : MS} (a b c : Int32) : Ct l G yX4_sheet cX4_sheet 4 (some .int) 2 46 [.ref (ga G (0)), .int a, .int b, .int c] (K, M) (some (.int (cSheet K a b c).1)) ((cSheet K a b c).2, M) := by
  obtain ⟨par, tp, sh, tl, hi⟩ := K
  refine Ct.of (own := RX4) (by decide) rfl (Nat.le_of_ble_eq_true rfl) rfl (fun X => ?_)
  refine v_iload_n dX4_sheet_0 1 rfl 1 rfl ?_
  refine v_callS (c_X4_isSheet l a) kal_X4_isSheet rfl dX4_sheet_1 qw_602 qw_603 (by decide) [] (Nat.le_of_ble_eq_true rfl) rfl rfl 4 rfl ?_
  refine v_ifb_eq dX4_sheet_4 29 (by decide) 7 rfl (fun c1 => ?_) (fun c1 => ?_)
  · skip
    refine v_aload_n dX4_sheet_29 0 rfl 30 rfl ?_
    refine v_iconst dX4_sheet_30 0 rfl 31 rfl ?_
    refine v_callV (c_X4_found l (k := 0) (by decide)) kal_X4_found rfl dX4_sheet_31 qw_234 qw_236 qw_0 rfl (by decide) (cel_obj G _) (by decide) [] (Nat.le_of_ble_eq_true rfl) rfl rfl 34 rfl ?_
    exact v_iret dX4_sheet_34 (by simp only [cSheet, okb, c1, Bool.and_self, Bool.and_true, Bool.true_and, Bool.and_false, Bool.false_and, if_true, if_false, Bool.false_eq_true, ↓reduceIte] <;> first | rfl | (simp [cFind, lF, kSh, kP, kL, va_up_i, true_and]; done) | (simp [cFind, lF, kSh, kP, kL, va_up_i, true_and]; rfl)) (by simp only [cSheet, okb, c1, Bool.and_self, Bool.and_true, Bool.true_and, Bool.and_false, Bool.false_and, if_true, if_false, Bool.false_eq_true, ↓reduceIte] <;> first | rfl | (simp [cFind, lF, kSh, kP, kL, va_up_i, true_and]; done) | (simp [cFind, lF, kSh, kP, kL, va_up_i, true_and]; rfl))
  · skip
    obtain ⟨ja, h1ja, h2ja, rfl⟩ := inb_ix (lo := 0) (hi := 3) c1
    have eja : (nI ja).toNatClampNeg = ja := nI_clamp (by omega)
    refine v_iload_n dX4_sheet_7 2 rfl 8 rfl ?_
    refine v_if_eq dX4_sheet_8 35 (by decide) 11 rfl (fun c2 => ?_) (fun c2 => ?_)
    · skip
      refine v_iload_n dX4_sheet_35 3 rfl 36 rfl ?_
      refine v_if_ge dX4_sheet_36 46 (by decide) 39 rfl (fun c3 => ?_) (fun c3 => ?_)
      · skip
        refine v_iload_n dX4_sheet_46 3 rfl 47 rfl ?_
        refine v_bipush dX4_sheet_47 40 rfl 49 rfl ?_
        refine v_icmp_le dX4_sheet_49 58 (by decide) 52 rfl (fun c4 => ?_) (fun c4 => ?_)
        · skip
          obtain ⟨jc, h31jc, rfl⟩ : ∃ j : Nat, j < 2 ^ 31 ∧ c = nI j := nI_of (Int32.not_lt.mpr (by assumption))
          have ejc : (nI jc).toNatClampNeg = jc := nI_clamp h31jc
          refine v_aload_n dX4_sheet_58 0 rfl 59 rfl ?_
          refine v_get (i := 5) (ci := 4) (T := TX4) (C := RX4) (N := 8) (v := .ref (ga G (83))) dX4_sheet_59 inB4 rfl qw_201 rfl (by decide) (by decide) (cel_obj G _) rfl 62 rfl ?_
          refine v_iload_n dX4_sheet_62 1 rfl 63 rfl ?_
          refine v_aaldS dX4_sheet_63 (by decide) (cel_shs G _) ja rfl (by omega) (by decide) rfl 64 rfl ?_
          refine v_iload_n dX4_sheet_64 2 rfl 65 rfl ?_
          refine v_iload_n dX4_sheet_65 2 rfl 66 rfl ?_
          refine v_if_ne dX4_sheet_66 73 (by decide) 69 rfl (fun c5 => absurd c5 (fun q => q c2)) (fun c5 => ?_)
          refine v_iconst dX4_sheet_69 0 rfl 70 rfl ?_
          refine v_goto dX4_sheet_70 74 (by decide) ?_
          refine v_w (w2 := ((par, tp, va_up sh ja ((sh ja).1, (sh ja).2.1, (sh ja).2.2), tl, hi), M)) (congrArg (fun z => ((par, tp, z, tl, hi), M)) (va_up_i sh ja).symm) ?_
          refine v_callV (c_X2_lay l (by omega) b (z := 0)) kal_X2_lay rfl dX4_sheet_74 qw_605 qw_606 qw_607 rfl (k_she (by omega)) (f_she (by omega)) (by decide) [] (Nat.le_of_ble_eq_true rfl) rfl rfl 77 rfl ?_
          refine v_aload_n dX4_sheet_77 0 rfl 78 rfl ?_
          refine v_get (i := 5) (ci := 4) (T := TX4) (C := RX4) (N := 8) (v := .ref (ga G (83))) dX4_sheet_78 inB4 rfl qw_201 rfl (by decide) (by decide) (cel_obj G _) rfl 81 rfl ?_
          refine v_iload_n dX4_sheet_81 1 rfl 82 rfl ?_
          refine v_aaldS dX4_sheet_82 (by decide) (cel_shs G _) ja rfl (by omega) (by decide) rfl 83 rfl ?_
          refine v_get (i := 1) (ci := 2) (T := TX2) (C := RX2) (N := 3) (v := .int (nI 0)) dX4_sheet_83 inB2 rfl qw_185 rfl (by decide) (k_she (by omega)) (f_she (by omega)) rfl 86 rfl ?_
          exact v_iret dX4_sheet_86 (by simp only [cSheet, okb, c1, eja, ejc, Bool.and_self, Bool.and_true, Bool.true_and, Bool.and_false, Bool.false_and, if_true, if_false, Bool.false_eq_true, ↓reduceIte] <;> first | rfl | (simp [cFind, lF, kSh, kP, kL, va_up_i, c2, c3, Int32.not_lt.mpr c3, c4, Int32.not_lt.mpr c4, eja, ejc]; done) | (simp [cFind, lF, kSh, kP, kL, va_up_i, c2, c3, Int32.not_lt.mpr c3, c4, Int32.not_lt.mpr c4, eja, ejc]; rfl)) (by simp only [cSheet, okb, c1, eja, ejc, Bool.and_self, Bool.and_true, Bool.true_and, Bool.and_false, Bool.false_and, if_true, if_false, Bool.false_eq_true, ↓reduceIte] <;> first | rfl | (simp [cFind, lF, kSh, kP, kL, va_up_i, c2, c3, Int32.not_lt.mpr c3, c4, Int32.not_lt.mpr c4, eja, ejc]; done) | (simp [cFind, lF, kSh, kP, kL, va_up_i, c2, c3, Int32.not_lt.mpr c3, c4, Int32.not_lt.mpr c4, eja, ejc]; rfl))
        · skip
          refine v_aload_n dX4_sheet_52 0 rfl 53 rfl ?_
          refine v_iconst dX4_sheet_53 0 rfl 54 rfl ?_
          refine v_callV (c_X4_found l (k := 0) (by decide)) kal_X4_found rfl dX4_sheet_54 qw_234 qw_236 qw_0 rfl (by decide) (cel_obj G _) (by decide) [] (Nat.le_of_ble_eq_true rfl) rfl rfl 57 rfl ?_
          exact v_iret dX4_sheet_57 (by simp only [cSheet, okb, c1, eja, Bool.and_self, Bool.and_true, Bool.true_and, Bool.and_false, Bool.false_and, if_true, if_false, Bool.false_eq_true, ↓reduceIte] <;> first | rfl | (simp [cFind, lF, kSh, kP, kL, va_up_i, c2, c3, Int32.not_lt.mpr c3, c4, Int32.not_le.mp c4, eja]; done) | (simp [cFind, lF, kSh, kP, kL, va_up_i, c2, c3, Int32.not_lt.mpr c3, c4, Int32.not_le.mp c4, eja]; rfl)) (by simp only [cSheet, okb, c1, eja, Bool.and_self, Bool.and_true, Bool.true_and, Bool.and_false, Bool.false_and, if_true, if_false, Bool.false_eq_true, ↓reduceIte] <;> first | rfl | (simp [cFind, lF, kSh, kP, kL, va_up_i, c2, c3, Int32.not_lt.mpr c3, c4, Int32.not_le.mp c4, eja]; done) | (simp [cFind, lF, kSh, kP, kL, va_up_i, c2, c3, Int32.not_lt.mpr c3, c4, Int32.not_le.mp c4, eja]; rfl))
      · skip
        refine v_aload_n dX4_sheet_39 0 rfl 40 rfl ?_
        refine v_bipush dX4_sheet_40 6 rfl 42 rfl ?_
        refine v_callV (c_X4_found l (k := 6) (by decide)) kal_X4_found rfl dX4_sheet_42 qw_234 qw_236 qw_0 rfl (by decide) (cel_obj G _) (by decide) [] (Nat.le_of_ble_eq_true rfl) rfl rfl 45 rfl ?_
        exact v_iret dX4_sheet_45 (by simp only [cSheet, okb, c1, eja, Bool.and_self, Bool.and_true, Bool.true_and, Bool.and_false, Bool.false_and, if_true, if_false, Bool.false_eq_true, ↓reduceIte] <;> first | rfl | (simp [cFind, lF, kSh, kP, kL, va_up_i, c2, c3, Int32.not_le.mp c3, eja]; done) | (simp [cFind, lF, kSh, kP, kL, va_up_i, c2, c3, Int32.not_le.mp c3, eja]; rfl)) (by simp only [cSheet, okb, c1, eja, Bool.and_self, Bool.and_true, Bool.true_and, Bool.and_false, Bool.false_and, if_true, if_false, Bool.false_eq_true, ↓reduceIte] <;> first | rfl | (simp [cFind, lF, kSh, kP, kL, va_up_i, c2, c3, Int32.not_le.mp c3, eja]; done) | (simp [cFind, lF, kSh, kP, kL, va_up_i, c2, c3, Int32.not_le.mp c3, eja]; rfl))
    · skip
      refine v_iload_n dX4_sheet_11 2 rfl 12 rfl ?_
      refine v_bipush dX4_sheet_12 8 rfl 14 rfl ?_
      refine v_icmp_eq dX4_sheet_14 35 (by decide) 17 rfl (fun c6 => ?_) (fun c6 => ?_)
      · skip
        refine v_iload_n dX4_sheet_35 3 rfl 36 rfl ?_
        refine v_if_ge dX4_sheet_36 46 (by decide) 39 rfl (fun c7 => ?_) (fun c7 => ?_)
        · skip
          refine v_iload_n dX4_sheet_46 3 rfl 47 rfl ?_
          refine v_bipush dX4_sheet_47 40 rfl 49 rfl ?_
          refine v_icmp_le dX4_sheet_49 58 (by decide) 52 rfl (fun c8 => ?_) (fun c8 => ?_)
          · skip
            obtain ⟨jc, h31jc, rfl⟩ : ∃ j : Nat, j < 2 ^ 31 ∧ c = nI j := nI_of (Int32.not_lt.mpr (by assumption))
            have ejc : (nI jc).toNatClampNeg = jc := nI_clamp h31jc
            refine v_aload_n dX4_sheet_58 0 rfl 59 rfl ?_
            refine v_get (i := 5) (ci := 4) (T := TX4) (C := RX4) (N := 8) (v := .ref (ga G (83))) dX4_sheet_59 inB4 rfl qw_201 rfl (by decide) (by decide) (cel_obj G _) rfl 62 rfl ?_
            refine v_iload_n dX4_sheet_62 1 rfl 63 rfl ?_
            refine v_aaldS dX4_sheet_63 (by decide) (cel_shs G _) ja rfl (by omega) (by decide) rfl 64 rfl ?_
            refine v_iload_n dX4_sheet_64 2 rfl 65 rfl ?_
            refine v_iload_n dX4_sheet_65 2 rfl 66 rfl ?_
            refine v_if_ne dX4_sheet_66 73 (by decide) 69 rfl (fun c9 => ?_) (fun c9 => absurd c9 c2)
            refine v_iload_n dX4_sheet_73 3 rfl 74 rfl ?_
            refine v_w (w2 := ((par, tp, va_up sh ja ((sh ja).1, (sh ja).2.1, (sh ja).2.2), tl, hi), M)) (congrArg (fun z => ((par, tp, z, tl, hi), M)) (va_up_i sh ja).symm) ?_
            refine v_callV (c_X2_lay l (by omega) b (z := jc)) kal_X2_lay rfl dX4_sheet_74 qw_605 qw_606 qw_607 rfl (k_she (by omega)) (f_she (by omega)) (by decide) [] (Nat.le_of_ble_eq_true rfl) rfl rfl 77 rfl ?_
            refine v_aload_n dX4_sheet_77 0 rfl 78 rfl ?_
            refine v_get (i := 5) (ci := 4) (T := TX4) (C := RX4) (N := 8) (v := .ref (ga G (83))) dX4_sheet_78 inB4 rfl qw_201 rfl (by decide) (by decide) (cel_obj G _) rfl 81 rfl ?_
            refine v_iload_n dX4_sheet_81 1 rfl 82 rfl ?_
            refine v_aaldS dX4_sheet_82 (by decide) (cel_shs G _) ja rfl (by omega) (by decide) rfl 83 rfl ?_
            refine v_get (i := 1) (ci := 2) (T := TX2) (C := RX2) (N := 3) (v := .int (nI jc)) dX4_sheet_83 inB2 rfl qw_185 rfl (by decide) (k_she (by omega)) (f_she (by omega)) rfl 86 rfl ?_
            exact v_iret dX4_sheet_86 (by simp only [cSheet, okb, c1, eja, ejc, Bool.and_self, Bool.and_true, Bool.true_and, Bool.and_false, Bool.false_and, if_true, if_false, Bool.false_eq_true, ↓reduceIte] <;> first | rfl | (simp [cFind, lF, kSh, kP, kL, va_up_i, c2, Ne.symm c2, c6, c7, Int32.not_lt.mpr c7, c8, Int32.not_lt.mpr c8, eja, ejc]; done) | (simp [cFind, lF, kSh, kP, kL, va_up_i, c2, Ne.symm c2, c6, c7, Int32.not_lt.mpr c7, c8, Int32.not_lt.mpr c8, eja, ejc]; rfl)) (by simp only [cSheet, okb, c1, eja, ejc, Bool.and_self, Bool.and_true, Bool.true_and, Bool.and_false, Bool.false_and, if_true, if_false, Bool.false_eq_true, ↓reduceIte] <;> first | rfl | (simp [cFind, lF, kSh, kP, kL, va_up_i, c2, Ne.symm c2, c6, c7, Int32.not_lt.mpr c7, c8, Int32.not_lt.mpr c8, eja, ejc]; done) | (simp [cFind, lF, kSh, kP, kL, va_up_i, c2, Ne.symm c2, c6, c7, Int32.not_lt.mpr c7, c8, Int32.not_lt.mpr c8, eja, ejc]; rfl))
          · skip
            refine v_aload_n dX4_sheet_52 0 rfl 53 rfl ?_
            refine v_iconst dX4_sheet_53 0 rfl 54 rfl ?_
            refine v_callV (c_X4_found l (k := 0) (by decide)) kal_X4_found rfl dX4_sheet_54 qw_234 qw_236 qw_0 rfl (by decide) (cel_obj G _) (by decide) [] (Nat.le_of_ble_eq_true rfl) rfl rfl 57 rfl ?_
            exact v_iret dX4_sheet_57 (by simp only [cSheet, okb, c1, eja, Bool.and_self, Bool.and_true, Bool.true_and, Bool.and_false, Bool.false_and, if_true, if_false, Bool.false_eq_true, ↓reduceIte] <;> first | rfl | (simp [cFind, lF, kSh, kP, kL, va_up_i, c2, Ne.symm c2, c6, c7, Int32.not_lt.mpr c7, c8, Int32.not_le.mp c8, eja]; done) | (simp [cFind, lF, kSh, kP, kL, va_up_i, c2, Ne.symm c2, c6, c7, Int32.not_lt.mpr c7, c8, Int32.not_le.mp c8, eja]; rfl)) (by simp only [cSheet, okb, c1, eja, Bool.and_self, Bool.and_true, Bool.true_and, Bool.and_false, Bool.false_and, if_true, if_false, Bool.false_eq_true, ↓reduceIte] <;> first | rfl | (simp [cFind, lF, kSh, kP, kL, va_up_i, c2, Ne.symm c2, c6, c7, Int32.not_lt.mpr c7, c8, Int32.not_le.mp c8, eja]; done) | (simp [cFind, lF, kSh, kP, kL, va_up_i, c2, Ne.symm c2, c6, c7, Int32.not_lt.mpr c7, c8, Int32.not_le.mp c8, eja]; rfl))
        · skip
          refine v_aload_n dX4_sheet_39 0 rfl 40 rfl ?_
          refine v_bipush dX4_sheet_40 6 rfl 42 rfl ?_
          refine v_callV (c_X4_found l (k := 6) (by decide)) kal_X4_found rfl dX4_sheet_42 qw_234 qw_236 qw_0 rfl (by decide) (cel_obj G _) (by decide) [] (Nat.le_of_ble_eq_true rfl) rfl rfl 45 rfl ?_
          exact v_iret dX4_sheet_45 (by simp only [cSheet, okb, c1, eja, Bool.and_self, Bool.and_true, Bool.true_and, Bool.and_false, Bool.false_and, if_true, if_false, Bool.false_eq_true, ↓reduceIte] <;> first | rfl | (simp [cFind, lF, kSh, kP, kL, va_up_i, c2, Ne.symm c2, c6, c7, Int32.not_le.mp c7, eja]; done) | (simp [cFind, lF, kSh, kP, kL, va_up_i, c2, Ne.symm c2, c6, c7, Int32.not_le.mp c7, eja]; rfl)) (by simp only [cSheet, okb, c1, eja, Bool.and_self, Bool.and_true, Bool.true_and, Bool.and_false, Bool.false_and, if_true, if_false, Bool.false_eq_true, ↓reduceIte] <;> first | rfl | (simp [cFind, lF, kSh, kP, kL, va_up_i, c2, Ne.symm c2, c6, c7, Int32.not_le.mp c7, eja]; done) | (simp [cFind, lF, kSh, kP, kL, va_up_i, c2, Ne.symm c2, c6, c7, Int32.not_le.mp c7, eja]; rfl))
      · skip
        refine v_iload_n dX4_sheet_17 2 rfl 18 rfl ?_
        refine v_bipush dX4_sheet_18 16 rfl 20 rfl ?_
        refine v_icmp_eq dX4_sheet_20 35 (by decide) 23 rfl (fun c10 => ?_) (fun c10 => ?_)
        · skip
          refine v_iload_n dX4_sheet_35 3 rfl 36 rfl ?_
          refine v_if_ge dX4_sheet_36 46 (by decide) 39 rfl (fun c11 => ?_) (fun c11 => ?_)
          · skip
            refine v_iload_n dX4_sheet_46 3 rfl 47 rfl ?_
            refine v_bipush dX4_sheet_47 40 rfl 49 rfl ?_
            refine v_icmp_le dX4_sheet_49 58 (by decide) 52 rfl (fun c12 => ?_) (fun c12 => ?_)
            · skip
              obtain ⟨jc, h31jc, rfl⟩ : ∃ j : Nat, j < 2 ^ 31 ∧ c = nI j := nI_of (Int32.not_lt.mpr (by assumption))
              have ejc : (nI jc).toNatClampNeg = jc := nI_clamp h31jc
              refine v_aload_n dX4_sheet_58 0 rfl 59 rfl ?_
              refine v_get (i := 5) (ci := 4) (T := TX4) (C := RX4) (N := 8) (v := .ref (ga G (83))) dX4_sheet_59 inB4 rfl qw_201 rfl (by decide) (by decide) (cel_obj G _) rfl 62 rfl ?_
              refine v_iload_n dX4_sheet_62 1 rfl 63 rfl ?_
              refine v_aaldS dX4_sheet_63 (by decide) (cel_shs G _) ja rfl (by omega) (by decide) rfl 64 rfl ?_
              refine v_iload_n dX4_sheet_64 2 rfl 65 rfl ?_
              refine v_iload_n dX4_sheet_65 2 rfl 66 rfl ?_
              refine v_if_ne dX4_sheet_66 73 (by decide) 69 rfl (fun c13 => ?_) (fun c13 => absurd c13 c2)
              refine v_iload_n dX4_sheet_73 3 rfl 74 rfl ?_
              refine v_w (w2 := ((par, tp, va_up sh ja ((sh ja).1, (sh ja).2.1, (sh ja).2.2), tl, hi), M)) (congrArg (fun z => ((par, tp, z, tl, hi), M)) (va_up_i sh ja).symm) ?_
              refine v_callV (c_X2_lay l (by omega) b (z := jc)) kal_X2_lay rfl dX4_sheet_74 qw_605 qw_606 qw_607 rfl (k_she (by omega)) (f_she (by omega)) (by decide) [] (Nat.le_of_ble_eq_true rfl) rfl rfl 77 rfl ?_
              refine v_aload_n dX4_sheet_77 0 rfl 78 rfl ?_
              refine v_get (i := 5) (ci := 4) (T := TX4) (C := RX4) (N := 8) (v := .ref (ga G (83))) dX4_sheet_78 inB4 rfl qw_201 rfl (by decide) (by decide) (cel_obj G _) rfl 81 rfl ?_
              refine v_iload_n dX4_sheet_81 1 rfl 82 rfl ?_
              refine v_aaldS dX4_sheet_82 (by decide) (cel_shs G _) ja rfl (by omega) (by decide) rfl 83 rfl ?_
              refine v_get (i := 1) (ci := 2) (T := TX2) (C := RX2) (N := 3) (v := .int (nI jc)) dX4_sheet_83 inB2 rfl qw_185 rfl (by decide) (k_she (by omega)) (f_she (by omega)) rfl 86 rfl ?_
              exact v_iret dX4_sheet_86 (by simp only [cSheet, okb, c1, eja, ejc, Bool.and_self, Bool.and_true, Bool.true_and, Bool.and_false, Bool.false_and, if_true, if_false, Bool.false_eq_true, ↓reduceIte] <;> first | rfl | (simp [cFind, lF, kSh, kP, kL, va_up_i, c2, Ne.symm c2, c6, Ne.symm c6, c10, c11, Int32.not_lt.mpr c11, c12, Int32.not_lt.mpr c12, eja, ejc]; done) | (simp [cFind, lF, kSh, kP, kL, va_up_i, c2, Ne.symm c2, c6, Ne.symm c6, c10, c11, Int32.not_lt.mpr c11, c12, Int32.not_lt.mpr c12, eja, ejc]; rfl)) (by simp only [cSheet, okb, c1, eja, ejc, Bool.and_self, Bool.and_true, Bool.true_and, Bool.and_false, Bool.false_and, if_true, if_false, Bool.false_eq_true, ↓reduceIte] <;> first | rfl | (simp [cFind, lF, kSh, kP, kL, va_up_i, c2, Ne.symm c2, c6, Ne.symm c6, c10, c11, Int32.not_lt.mpr c11, c12, Int32.not_lt.mpr c12, eja, ejc]; done) | (simp [cFind, lF, kSh, kP, kL, va_up_i, c2, Ne.symm c2, c6, Ne.symm c6, c10, c11, Int32.not_lt.mpr c11, c12, Int32.not_lt.mpr c12, eja, ejc]; rfl))
            · skip
              refine v_aload_n dX4_sheet_52 0 rfl 53 rfl ?_
              refine v_iconst dX4_sheet_53 0 rfl 54 rfl ?_
              refine v_callV (c_X4_found l (k := 0) (by decide)) kal_X4_found rfl dX4_sheet_54 qw_234 qw_236 qw_0 rfl (by decide) (cel_obj G _) (by decide) [] (Nat.le_of_ble_eq_true rfl) rfl rfl 57 rfl ?_
              exact v_iret dX4_sheet_57 (by simp only [cSheet, okb, c1, eja, Bool.and_self, Bool.and_true, Bool.true_and, Bool.and_false, Bool.false_and, if_true, if_false, Bool.false_eq_true, ↓reduceIte] <;> first | rfl | (simp [cFind, lF, kSh, kP, kL, va_up_i, c2, Ne.symm c2, c6, Ne.symm c6, c10, c11, Int32.not_lt.mpr c11, c12, Int32.not_le.mp c12, eja]; done) | (simp [cFind, lF, kSh, kP, kL, va_up_i, c2, Ne.symm c2, c6, Ne.symm c6, c10, c11, Int32.not_lt.mpr c11, c12, Int32.not_le.mp c12, eja]; rfl)) (by simp only [cSheet, okb, c1, eja, Bool.and_self, Bool.and_true, Bool.true_and, Bool.and_false, Bool.false_and, if_true, if_false, Bool.false_eq_true, ↓reduceIte] <;> first | rfl | (simp [cFind, lF, kSh, kP, kL, va_up_i, c2, Ne.symm c2, c6, Ne.symm c6, c10, c11, Int32.not_lt.mpr c11, c12, Int32.not_le.mp c12, eja]; done) | (simp [cFind, lF, kSh, kP, kL, va_up_i, c2, Ne.symm c2, c6, Ne.symm c6, c10, c11, Int32.not_lt.mpr c11, c12, Int32.not_le.mp c12, eja]; rfl))
          · skip
            refine v_aload_n dX4_sheet_39 0 rfl 40 rfl ?_
            refine v_bipush dX4_sheet_40 6 rfl 42 rfl ?_
            refine v_callV (c_X4_found l (k := 6) (by decide)) kal_X4_found rfl dX4_sheet_42 qw_234 qw_236 qw_0 rfl (by decide) (cel_obj G _) (by decide) [] (Nat.le_of_ble_eq_true rfl) rfl rfl 45 rfl ?_
            exact v_iret dX4_sheet_45 (by simp only [cSheet, okb, c1, eja, Bool.and_self, Bool.and_true, Bool.true_and, Bool.and_false, Bool.false_and, if_true, if_false, Bool.false_eq_true, ↓reduceIte] <;> first | rfl | (simp [cFind, lF, kSh, kP, kL, va_up_i, c2, Ne.symm c2, c6, Ne.symm c6, c10, c11, Int32.not_le.mp c11, eja]; done) | (simp [cFind, lF, kSh, kP, kL, va_up_i, c2, Ne.symm c2, c6, Ne.symm c6, c10, c11, Int32.not_le.mp c11, eja]; rfl)) (by simp only [cSheet, okb, c1, eja, Bool.and_self, Bool.and_true, Bool.true_and, Bool.and_false, Bool.false_and, if_true, if_false, Bool.false_eq_true, ↓reduceIte] <;> first | rfl | (simp [cFind, lF, kSh, kP, kL, va_up_i, c2, Ne.symm c2, c6, Ne.symm c6, c10, c11, Int32.not_le.mp c11, eja]; done) | (simp [cFind, lF, kSh, kP, kL, va_up_i, c2, Ne.symm c2, c6, Ne.symm c6, c10, c11, Int32.not_le.mp c11, eja]; rfl))
        · skip
          refine v_iload_n dX4_sheet_23 2 rfl 24 rfl ?_
          refine v_bipush dX4_sheet_24 64 rfl 26 rfl ?_
          refine v_icmp_eq dX4_sheet_26 35 (by decide) 29 rfl (fun c14 => ?_) (fun c14 => ?_)
          · skip
            refine v_iload_n dX4_sheet_35 3 rfl 36 rfl ?_
            refine v_if_ge dX4_sheet_36 46 (by decide) 39 rfl (fun c15 => ?_) (fun c15 => ?_)
            · skip
              refine v_iload_n dX4_sheet_46 3 rfl 47 rfl ?_
              refine v_bipush dX4_sheet_47 40 rfl 49 rfl ?_
              refine v_icmp_le dX4_sheet_49 58 (by decide) 52 rfl (fun c16 => ?_) (fun c16 => ?_)
              · skip
                obtain ⟨jc, h31jc, rfl⟩ : ∃ j : Nat, j < 2 ^ 31 ∧ c = nI j := nI_of (Int32.not_lt.mpr (by assumption))
                have ejc : (nI jc).toNatClampNeg = jc := nI_clamp h31jc
                refine v_aload_n dX4_sheet_58 0 rfl 59 rfl ?_
                refine v_get (i := 5) (ci := 4) (T := TX4) (C := RX4) (N := 8) (v := .ref (ga G (83))) dX4_sheet_59 inB4 rfl qw_201 rfl (by decide) (by decide) (cel_obj G _) rfl 62 rfl ?_
                refine v_iload_n dX4_sheet_62 1 rfl 63 rfl ?_
                refine v_aaldS dX4_sheet_63 (by decide) (cel_shs G _) ja rfl (by omega) (by decide) rfl 64 rfl ?_
                refine v_iload_n dX4_sheet_64 2 rfl 65 rfl ?_
                refine v_iload_n dX4_sheet_65 2 rfl 66 rfl ?_
                refine v_if_ne dX4_sheet_66 73 (by decide) 69 rfl (fun c17 => ?_) (fun c17 => absurd c17 c2)
                refine v_iload_n dX4_sheet_73 3 rfl 74 rfl ?_
                refine v_w (w2 := ((par, tp, va_up sh ja ((sh ja).1, (sh ja).2.1, (sh ja).2.2), tl, hi), M)) (congrArg (fun z => ((par, tp, z, tl, hi), M)) (va_up_i sh ja).symm) ?_
                refine v_callV (c_X2_lay l (by omega) b (z := jc)) kal_X2_lay rfl dX4_sheet_74 qw_605 qw_606 qw_607 rfl (k_she (by omega)) (f_she (by omega)) (by decide) [] (Nat.le_of_ble_eq_true rfl) rfl rfl 77 rfl ?_
                refine v_aload_n dX4_sheet_77 0 rfl 78 rfl ?_
                refine v_get (i := 5) (ci := 4) (T := TX4) (C := RX4) (N := 8) (v := .ref (ga G (83))) dX4_sheet_78 inB4 rfl qw_201 rfl (by decide) (by decide) (cel_obj G _) rfl 81 rfl ?_
                refine v_iload_n dX4_sheet_81 1 rfl 82 rfl ?_
                refine v_aaldS dX4_sheet_82 (by decide) (cel_shs G _) ja rfl (by omega) (by decide) rfl 83 rfl ?_
                refine v_get (i := 1) (ci := 2) (T := TX2) (C := RX2) (N := 3) (v := .int (nI jc)) dX4_sheet_83 inB2 rfl qw_185 rfl (by decide) (k_she (by omega)) (f_she (by omega)) rfl 86 rfl ?_
                exact v_iret dX4_sheet_86 (by simp only [cSheet, okb, c1, eja, ejc, Bool.and_self, Bool.and_true, Bool.true_and, Bool.and_false, Bool.false_and, if_true, if_false, Bool.false_eq_true, ↓reduceIte] <;> first | rfl | (simp [cFind, lF, kSh, kP, kL, va_up_i, c2, Ne.symm c2, c6, Ne.symm c6, c10, Ne.symm c10, c14, c15, Int32.not_lt.mpr c15, c16, Int32.not_lt.mpr c16, eja, ejc]; done) | (simp [cFind, lF, kSh, kP, kL, va_up_i, c2, Ne.symm c2, c6, Ne.symm c6, c10, Ne.symm c10, c14, c15, Int32.not_lt.mpr c15, c16, Int32.not_lt.mpr c16, eja, ejc]; rfl)) (by simp only [cSheet, okb, c1, eja, ejc, Bool.and_self, Bool.and_true, Bool.true_and, Bool.and_false, Bool.false_and, if_true, if_false, Bool.false_eq_true, ↓reduceIte] <;> first | rfl | (simp [cFind, lF, kSh, kP, kL, va_up_i, c2, Ne.symm c2, c6, Ne.symm c6, c10, Ne.symm c10, c14, c15, Int32.not_lt.mpr c15, c16, Int32.not_lt.mpr c16, eja, ejc]; done) | (simp [cFind, lF, kSh, kP, kL, va_up_i, c2, Ne.symm c2, c6, Ne.symm c6, c10, Ne.symm c10, c14, c15, Int32.not_lt.mpr c15, c16, Int32.not_lt.mpr c16, eja, ejc]; rfl))
              · skip
                refine v_aload_n dX4_sheet_52 0 rfl 53 rfl ?_
                refine v_iconst dX4_sheet_53 0 rfl 54 rfl ?_
                refine v_callV (c_X4_found l (k := 0) (by decide)) kal_X4_found rfl dX4_sheet_54 qw_234 qw_236 qw_0 rfl (by decide) (cel_obj G _) (by decide) [] (Nat.le_of_ble_eq_true rfl) rfl rfl 57 rfl ?_
                exact v_iret dX4_sheet_57 (by simp only [cSheet, okb, c1, eja, Bool.and_self, Bool.and_true, Bool.true_and, Bool.and_false, Bool.false_and, if_true, if_false, Bool.false_eq_true, ↓reduceIte] <;> first | rfl | (simp [cFind, lF, kSh, kP, kL, va_up_i, c2, Ne.symm c2, c6, Ne.symm c6, c10, Ne.symm c10, c14, c15, Int32.not_lt.mpr c15, c16, Int32.not_le.mp c16, eja]; done) | (simp [cFind, lF, kSh, kP, kL, va_up_i, c2, Ne.symm c2, c6, Ne.symm c6, c10, Ne.symm c10, c14, c15, Int32.not_lt.mpr c15, c16, Int32.not_le.mp c16, eja]; rfl)) (by simp only [cSheet, okb, c1, eja, Bool.and_self, Bool.and_true, Bool.true_and, Bool.and_false, Bool.false_and, if_true, if_false, Bool.false_eq_true, ↓reduceIte] <;> first | rfl | (simp [cFind, lF, kSh, kP, kL, va_up_i, c2, Ne.symm c2, c6, Ne.symm c6, c10, Ne.symm c10, c14, c15, Int32.not_lt.mpr c15, c16, Int32.not_le.mp c16, eja]; done) | (simp [cFind, lF, kSh, kP, kL, va_up_i, c2, Ne.symm c2, c6, Ne.symm c6, c10, Ne.symm c10, c14, c15, Int32.not_lt.mpr c15, c16, Int32.not_le.mp c16, eja]; rfl))
            · skip
              refine v_aload_n dX4_sheet_39 0 rfl 40 rfl ?_
              refine v_bipush dX4_sheet_40 6 rfl 42 rfl ?_
              refine v_callV (c_X4_found l (k := 6) (by decide)) kal_X4_found rfl dX4_sheet_42 qw_234 qw_236 qw_0 rfl (by decide) (cel_obj G _) (by decide) [] (Nat.le_of_ble_eq_true rfl) rfl rfl 45 rfl ?_
              exact v_iret dX4_sheet_45 (by simp only [cSheet, okb, c1, eja, Bool.and_self, Bool.and_true, Bool.true_and, Bool.and_false, Bool.false_and, if_true, if_false, Bool.false_eq_true, ↓reduceIte] <;> first | rfl | (simp [cFind, lF, kSh, kP, kL, va_up_i, c2, Ne.symm c2, c6, Ne.symm c6, c10, Ne.symm c10, c14, c15, Int32.not_le.mp c15, eja]; done) | (simp [cFind, lF, kSh, kP, kL, va_up_i, c2, Ne.symm c2, c6, Ne.symm c6, c10, Ne.symm c10, c14, c15, Int32.not_le.mp c15, eja]; rfl)) (by simp only [cSheet, okb, c1, eja, Bool.and_self, Bool.and_true, Bool.true_and, Bool.and_false, Bool.false_and, if_true, if_false, Bool.false_eq_true, ↓reduceIte] <;> first | rfl | (simp [cFind, lF, kSh, kP, kL, va_up_i, c2, Ne.symm c2, c6, Ne.symm c6, c10, Ne.symm c10, c14, c15, Int32.not_le.mp c15, eja]; done) | (simp [cFind, lF, kSh, kP, kL, va_up_i, c2, Ne.symm c2, c6, Ne.symm c6, c10, Ne.symm c10, c14, c15, Int32.not_le.mp c15, eja]; rfl))
          · skip
            refine v_aload_n dX4_sheet_29 0 rfl 30 rfl ?_
            refine v_iconst dX4_sheet_30 0 rfl 31 rfl ?_
            refine v_callV (c_X4_found l (k := 0) (by decide)) kal_X4_found rfl dX4_sheet_31 qw_234 qw_236 qw_0 rfl (by decide) (cel_obj G _) (by decide) [] (Nat.le_of_ble_eq_true rfl) rfl rfl 34 rfl ?_
            exact v_iret dX4_sheet_34 (by simp only [cSheet, okb, c1, eja, Bool.and_self, Bool.and_true, Bool.true_and, Bool.and_false, Bool.false_and, if_true, if_false, Bool.false_eq_true, ↓reduceIte] <;> first | rfl | (simp [cFind, lF, kSh, kP, kL, va_up_i, c2, Ne.symm c2, c6, Ne.symm c6, c10, Ne.symm c10, c14, Ne.symm c14, eja]; done) | (simp [cFind, lF, kSh, kP, kL, va_up_i, c2, Ne.symm c2, c6, Ne.symm c6, c10, Ne.symm c10, c14, Ne.symm c14, eja]; rfl)) (by simp only [cSheet, okb, c1, eja, Bool.and_self, Bool.and_true, Bool.true_and, Bool.and_false, Bool.false_and, if_true, if_false, Bool.false_eq_true, ↓reduceIte] <;> first | rfl | (simp [cFind, lF, kSh, kP, kL, va_up_i, c2, Ne.symm c2, c6, Ne.symm c6, c10, Ne.symm c10, c14, Ne.symm c14, eja]; done) | (simp [cFind, lF, kSh, kP, kL, va_up_i, c2, Ne.symm c2, c6, Ne.symm c6, c10, Ne.symm c10, c14, Ne.symm c14, eja]; rfl))
set_option maxHeartbeats 1000000 in
set_option maxRecDepth 4000 in
theorem c_X4_write (l : Launch) {G : Gl} {K : CS} {M : MS} (hz : ∀ s, s < 4 → (K.2.2.1 s).2.1 ≤ 40) (a b : Int32) (v : Int64) : Ct l G yX4_write cX4_write 8 (some .long) 2 42 [.ref (ga G (0)), .int a, .int b, .long v] (K, M) (some (.long (cWrite K a b v).1)) ((cWrite K a b v).2, M) := by
  obtain ⟨par, tp, sh, tl, hi⟩ := K
  dsimp only at hz
  refine Ct.of (own := RX4) (by decide) rfl (Nat.le_of_ble_eq_true rfl) rfl (fun X => ?_)
  refine v_iload_n dX4_write_0 1 rfl 1 rfl ?_
  refine v_callS (c_X4_isSheet l a) kal_X4_isSheet rfl dX4_write_1 qw_602 qw_603 (by decide) [] (Nat.le_of_ble_eq_true rfl) rfl rfl 4 rfl ?_
  refine v_ifb_ne dX4_write_4 14 (by decide) 7 rfl (fun c1 => ?_) (fun c1 => ?_)
  · skip
    obtain ⟨ja, h1ja, h2ja, rfl⟩ := inb_ix (lo := 0) (hi := 3) c1
    have eja : (nI ja).toNatClampNeg = ja := nI_clamp (by omega)
    have hzja := hz ja (by omega)
    refine v_aload_n dX4_write_14 0 rfl 15 rfl ?_
    refine v_get (i := 5) (ci := 4) (T := TX4) (C := RX4) (N := 8) (v := .ref (ga G (83))) dX4_write_15 inB4 rfl qw_201 rfl (by decide) (by decide) (cel_obj G _) rfl 18 rfl ?_
    refine v_iload_n dX4_write_18 1 rfl 19 rfl ?_
    refine v_aaldS dX4_write_19 (by decide) (cel_shs G _) ja rfl (by omega) (by decide) rfl 20 rfl ?_
    refine v_astore dX4_write_20 (by decide) [(5, .ref (ga G (84 + ja))), (0, .ref (ga G (0))), (1, .int (nI ja)), (2, .int b), (3, .long v)] rfl 22 rfl ?_
    refine v_aload dX4_write_22 0 rfl 24 rfl ?_
    refine v_w (w2 := ((par, tp, va_up sh ja ((sh ja).1, (sh ja).2.1, (sh ja).2.2), tl, hi), M)) (congrArg (fun z => ((par, tp, z, tl, hi), M)) (va_up_i sh ja).symm) ?_
    refine v_callV (c_X2_isMissing l (by omega)) kal_X2_isMissing rfl dX4_write_24 qw_616 qw_617 qw_618 rfl (k_she (by omega)) (f_she (by omega)) (by decide) [] (Nat.le_of_ble_eq_true rfl) rfl rfl 27 rfl ?_
    refine v_w (w2 := ((par, tp, sh, tl, hi), M)) (congrArg (fun z => ((par, tp, z, tl, hi), M)) (va_up_i sh ja)) ?_
    refine v_ifb_eq dX4_write_27 37 (by decide) 30 rfl (fun c2 => ?_) (fun c2 => ?_)
    · skip
      have dc2 := of_decide_eq_false c2
      refine v_iload_n dX4_write_37 3 rfl 38 rfl ?_
      refine v_iconst dX4_write_38 0 rfl 39 rfl ?_
      refine v_aload dX4_write_39 0 rfl 41 rfl ?_
      refine v_get (i := 1) (ci := 2) (T := TX2) (C := RX2) (N := 3) (v := .int (nI (sh ja).2.1)) dX4_write_41 inB2 rfl qw_185 rfl (by decide) (k_she (by omega)) (cel_she G _ (by omega)) rfl 44 rfl ?_
      refine v_iconst dX4_write_44 1 rfl 45 rfl ?_
      refine v_isub dX4_write_45 46 rfl ?_
      refine v_callS (c_X4_isWithin l b 0 ((nI (sh ja).2.1) - 1) (lo := 0) (hi := ((((sh ja).2.1 : Nat) : Int) - 1)) rfl (nI_m1 (by omega))) kal_X4_isWithin rfl dX4_write_46 qw_228 qw_229 (by decide) [] (Nat.le_of_ble_eq_true rfl) rfl rfl 49 rfl ?_
      refine v_topi (b2 (inE (sh ja).2.1 b)) rfl ?_
      refine v_ifb_ne dX4_write_49 59 (by decide) 52 rfl (fun c3 => ?_) (fun c3 => ?_)
      · skip
        obtain ⟨jb, h2jb, rfl⟩ := inE_ix c3
        have ejb : (nI jb).toNatClampNeg = jb := nI_clamp (by omega)
        refine v_aload dX4_write_59 0 rfl 61 rfl ?_
        refine v_get (i := 0) (ci := 2) (T := TX2) (C := RX2) (N := 3) (v := .ref (ga G (88 + ja))) dX4_write_61 inB2 rfl qw_183 rfl (by decide) (k_she (by omega)) (cel_she G _ (by omega)) rfl 64 rfl ?_
        refine v_iload_n dX4_write_64 3 rfl 65 rfl ?_
        refine v_lald (a := (sh ja).1) dX4_write_65 (k_num (by omega)) (cel_num G _ (by omega)) jb rfl (by omega) (by decide) 66 rfl ?_
        refine v_lstore dX4_write_66 (by decide) [(6, .long ((sh ja).1 jb)), (5, .ref (ga G (84 + ja))), (0, .ref (ga G (0))), (1, .int (nI ja)), (2, .int (nI jb)), (3, .long v)] rfl 68 rfl ?_
        refine v_aload dX4_write_68 1 rfl 70 rfl ?_
        refine v_iload_n dX4_write_70 4 rfl 71 rfl ?_
        refine v_lload_n dX4_write_71 5 rfl 72 rfl ?_
        refine v_w (w2 := ((par, tp, va_up sh ja ((sh ja).1, (sh ja).2.1, (sh ja).2.2), tl, hi), M)) (congrArg (fun z => ((par, tp, z, tl, hi), M)) (va_up_i sh ja).symm) ?_
        refine v_callV (c_X2_put l (by omega) (i := jb) (by omega) v) kal_X2_put rfl dX4_write_72 qw_620 qw_621 qw_622 rfl (k_she (by omega)) (f_she (by omega)) (by decide) [] (Nat.le_of_ble_eq_true rfl) rfl rfl 75 rfl ?_
        refine v_lload dX4_write_75 0 rfl 77 rfl ?_
        exact v_lret dX4_write_77 (by simp only [cWrite, okb, c1, c2, c3, eja, ejb, Bool.and_self, Bool.and_true, Bool.true_and, Bool.and_false, Bool.false_and, if_true, if_false, Bool.false_eq_true, ↓reduceIte] <;> first | rfl | (simp [cFind, lF, kSh, kP, kL, va_up_i, dc2, eja, ejb]; done) | (simp [cFind, lF, kSh, kP, kL, va_up_i, dc2, eja, ejb]; rfl)) (by simp only [cWrite, okb, c1, c2, c3, eja, ejb, Bool.and_self, Bool.and_true, Bool.true_and, Bool.and_false, Bool.false_and, if_true, if_false, Bool.false_eq_true, ↓reduceIte] <;> first | rfl | (simp [cFind, lF, kSh, kP, kL, va_up_i, dc2, eja, ejb]; done) | (simp [cFind, lF, kSh, kP, kL, va_up_i, dc2, eja, ejb]; rfl))
      · skip
        refine v_aload_n dX4_write_52 1 rfl 53 rfl ?_
        refine v_iconst dX4_write_53 0 rfl 54 rfl ?_
        refine v_callV (c_X4_found l (k := 0) (by decide)) kal_X4_found rfl dX4_write_54 qw_234 qw_236 qw_0 rfl (by decide) (cel_obj G _) (by decide) [] (Nat.le_of_ble_eq_true rfl) rfl rfl 57 rfl ?_
        refine v_i2l dX4_write_57 58 rfl ?_
        exact v_lret dX4_write_58 (by simp only [cWrite, okb, c1, c2, c3, eja, Bool.and_self, Bool.and_true, Bool.true_and, Bool.and_false, Bool.false_and, if_true, if_false, Bool.false_eq_true, ↓reduceIte] <;> first | rfl | (simp [cFind, lF, kSh, kP, kL, va_up_i, dc2, eja]; done) | (simp [cFind, lF, kSh, kP, kL, va_up_i, dc2, eja]; rfl)) (by simp only [cWrite, okb, c1, c2, c3, eja, Bool.and_self, Bool.and_true, Bool.true_and, Bool.and_false, Bool.false_and, if_true, if_false, Bool.false_eq_true, ↓reduceIte] <;> first | rfl | (simp [cFind, lF, kSh, kP, kL, va_up_i, dc2, eja]; done) | (simp [cFind, lF, kSh, kP, kL, va_up_i, dc2, eja]; rfl))
    · skip
      have dc2 := of_decide_eq_true c2
      refine v_aload_n dX4_write_30 1 rfl 31 rfl ?_
      refine v_iconst dX4_write_31 5 rfl 32 rfl ?_
      refine v_callV (c_X4_found l (k := 5) (by decide)) kal_X4_found rfl dX4_write_32 qw_234 qw_236 qw_0 rfl (by decide) (cel_obj G _) (by decide) [] (Nat.le_of_ble_eq_true rfl) rfl rfl 35 rfl ?_
      refine v_i2l dX4_write_35 36 rfl ?_
      exact v_lret dX4_write_36 (by simp only [cWrite, okb, c1, c2, eja, Bool.and_self, Bool.and_true, Bool.true_and, Bool.and_false, Bool.false_and, if_true, if_false, Bool.false_eq_true, ↓reduceIte] <;> first | rfl | (simp [cFind, lF, kSh, kP, kL, va_up_i, dc2, eja]; done) | (simp [cFind, lF, kSh, kP, kL, va_up_i, dc2, eja]; rfl)) (by simp only [cWrite, okb, c1, c2, eja, Bool.and_self, Bool.and_true, Bool.true_and, Bool.and_false, Bool.false_and, if_true, if_false, Bool.false_eq_true, ↓reduceIte] <;> first | rfl | (simp [cFind, lF, kSh, kP, kL, va_up_i, dc2, eja]; done) | (simp [cFind, lF, kSh, kP, kL, va_up_i, dc2, eja]; rfl))
  · skip
    refine v_aload_n dX4_write_7 0 rfl 8 rfl ?_
    refine v_iconst dX4_write_8 0 rfl 9 rfl ?_
    refine v_callV (c_X4_found l (k := 0) (by decide)) kal_X4_found rfl dX4_write_9 qw_234 qw_236 qw_0 rfl (by decide) (cel_obj G _) (by decide) [] (Nat.le_of_ble_eq_true rfl) rfl rfl 12 rfl ?_
    refine v_i2l dX4_write_12 13 rfl ?_
    exact v_lret dX4_write_13 (by simp only [cWrite, okb, c1, Bool.and_self, Bool.and_true, Bool.true_and, Bool.and_false, Bool.false_and, if_true, if_false, Bool.false_eq_true, ↓reduceIte] <;> first | rfl | (simp [cFind, lF, kSh, kP, kL, va_up_i, true_and]; done) | (simp [cFind, lF, kSh, kP, kL, va_up_i, true_and]; rfl)) (by simp only [cWrite, okb, c1, Bool.and_self, Bool.and_true, Bool.true_and, Bool.and_false, Bool.false_and, if_true, if_false, Bool.false_eq_true, ↓reduceIte] <;> first | rfl | (simp [cFind, lF, kSh, kP, kL, va_up_i, true_and]; done) | (simp [cFind, lF, kSh, kP, kL, va_up_i, true_and]; rfl))
