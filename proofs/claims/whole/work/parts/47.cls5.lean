theorem hasS_ix {z : Nat} (hz : z ≤ 40) {f n : Int32} (h : hasS z f n = true) : ∃ j m : Nat, f = nI j ∧ n = nI m ∧ j + m ≤ z := by
  unfold hasS at h
  by_cases h1 : f < 0
  · simp [h1] at h
  · by_cases h2 : n < 0
    · simp [h1, h2] at h
    · by_cases h3 : nI z < f
      · simp [h1, h2, h3] at h
      · by_cases h4 : nI z - f < n
        · simp [h1, h2, h3, h4] at h
        · obtain ⟨j, hj, rfl⟩ := nI_of h1
          obtain ⟨m, hm, rfl⟩ := nI_of h2
          exact ⟨j, m, rfl, rfl, cp_l1 hz hj hm h4⟩
set_option maxHeartbeats 1000000 in
set_option maxRecDepth 4000 in
theorem c_X4_copy (l : Launch) {G : Gl} {K : CS} {M : MS} (hz : ∀ s, s < 4 → (K.2.2.1 s).2.1 ≤ 40) (a b c d e : Int32) : Ct l G yX4_copy cX4_copy 8 (some .int) 2 42 [.ref (ga G (0)), .int a, .int b, .int c, .int d, .int e] (K, M) (some (.int (cCopy K a b c d e).1)) ((cCopy K a b c d e).2, M) := by
  obtain ⟨par, tp, sh, tl, hi⟩ := K
  dsimp only at hz
  refine Ct.of (own := RX4) (by decide) rfl (Nat.le_of_ble_eq_true rfl) rfl (fun X => ?_)
  refine v_iload_n dX4_copy_0 1 rfl 1 rfl ?_
  refine v_callS (c_X4_isSheet l a) kal_X4_isSheet rfl dX4_copy_1 qw_602 qw_603 (by decide) [] (Nat.le_of_ble_eq_true rfl) rfl rfl 4 rfl ?_
  refine v_ifb_eq dX4_copy_4 14 (by decide) 7 rfl (fun c1 => ?_) (fun c1 => ?_)
  · skip
    refine v_aload_n dX4_copy_14 0 rfl 15 rfl ?_
    refine v_iconst dX4_copy_15 0 rfl 16 rfl ?_
    refine v_callV (c_X4_found l (k := 0) (by decide)) kal_X4_found rfl dX4_copy_16 qw_234 qw_236 qw_0 rfl (by decide) (cel_obj G _) (by decide) [] (Nat.le_of_ble_eq_true rfl) rfl rfl 19 rfl ?_
    exact v_iret dX4_copy_19 (by simp only [cCopy, okb, c1, Bool.and_self, Bool.and_true, Bool.true_and, Bool.and_false, Bool.false_and, if_true, if_false, Bool.false_eq_true, ↓reduceIte] <;> first | rfl | (simp [cFind, lF, kSh, kP, kL, va_up_i, true_and]; done) | (simp [cFind, lF, kSh, kP, kL, va_up_i, true_and]; rfl)) (by simp only [cCopy, okb, c1, Bool.and_self, Bool.and_true, Bool.true_and, Bool.and_false, Bool.false_and, if_true, if_false, Bool.false_eq_true, ↓reduceIte] <;> first | rfl | (simp [cFind, lF, kSh, kP, kL, va_up_i, true_and]; done) | (simp [cFind, lF, kSh, kP, kL, va_up_i, true_and]; rfl))
  · skip
    obtain ⟨ja, h1ja, h2ja, rfl⟩ := inb_ix (lo := 0) (hi := 3) c1
    have eja : (nI ja).toNatClampNeg = ja := nI_clamp (by omega)
    have hzja := hz ja (by omega)
    refine v_iload_n dX4_copy_7 3 rfl 8 rfl ?_
    refine v_callS (c_X4_isSheet l c) kal_X4_isSheet rfl dX4_copy_8 qw_602 qw_603 (by decide) [] (Nat.le_of_ble_eq_true rfl) rfl rfl 11 rfl ?_
    refine v_ifb_ne dX4_copy_11 20 (by decide) 14 rfl (fun c2 => ?_) (fun c2 => ?_)
    · skip
      obtain ⟨jc, h1jc, h2jc, rfl⟩ := inb_ix (lo := 0) (hi := 3) c2
      have ejc : (nI jc).toNatClampNeg = jc := nI_clamp (by omega)
      have hzjc := hz jc (by omega)
      refine v_aload_n dX4_copy_20 0 rfl 21 rfl ?_
      refine v_get (i := 5) (ci := 4) (T := TX4) (C := RX4) (N := 8) (v := .ref (ga G (83))) dX4_copy_21 inB4 rfl qw_201 rfl (by decide) (by decide) (cel_obj G _) rfl 24 rfl ?_
      refine v_iload_n dX4_copy_24 1 rfl 25 rfl ?_
      refine v_aaldS dX4_copy_25 (by decide) (cel_shs G _) ja rfl (by omega) (by decide) rfl 26 rfl ?_
      refine v_astore dX4_copy_26 (by decide) [(6, .ref (ga G (84 + ja))), (0, .ref (ga G (0))), (1, .int (nI ja)), (2, .int b), (3, .int (nI jc)), (4, .int d), (5, .int e)] rfl 28 rfl ?_
      refine v_aload_n dX4_copy_28 1 rfl 29 rfl ?_
      refine v_get (i := 5) (ci := 4) (T := TX4) (C := RX4) (N := 8) (v := .ref (ga G (83))) dX4_copy_29 inB4 rfl qw_201 rfl (by decide) (by decide) (cel_obj G _) rfl 32 rfl ?_
      refine v_iload_n dX4_copy_32 4 rfl 33 rfl ?_
      refine v_aaldS dX4_copy_33 (by decide) (cel_shs G _) jc rfl (by omega) (by decide) rfl 34 rfl ?_
      refine v_astore dX4_copy_34 (by decide) [(7, .ref (ga G (84 + jc))), (6, .ref (ga G (84 + ja))), (0, .ref (ga G (0))), (1, .int (nI ja)), (2, .int b), (3, .int (nI jc)), (4, .int d), (5, .int e)] rfl 36 rfl ?_
      refine v_aload dX4_copy_36 1 rfl 38 rfl ?_
      refine v_w (w2 := ((par, tp, va_up sh ja ((sh ja).1, (sh ja).2.1, (sh ja).2.2), tl, hi), M)) (congrArg (fun z => ((par, tp, z, tl, hi), M)) (va_up_i sh ja).symm) ?_
      refine v_callV (c_X2_isMissing l (by omega)) kal_X2_isMissing rfl dX4_copy_38 qw_616 qw_617 qw_618 rfl (k_she (by omega)) (f_she (by omega)) (by decide) [] (Nat.le_of_ble_eq_true rfl) rfl rfl 41 rfl ?_
      refine v_w (w2 := ((par, tp, sh, tl, hi), M)) (congrArg (fun z => ((par, tp, z, tl, hi), M)) (va_up_i sh ja)) ?_
      refine v_ifb_ne dX4_copy_41 52 (by decide) 44 rfl (fun c3 => ?_) (fun c3 => ?_)
      · skip
        have dc3 := of_decide_eq_true c3
        refine v_aload_n dX4_copy_52 2 rfl 53 rfl ?_
        refine v_iconst dX4_copy_53 5 rfl 54 rfl ?_
        refine v_callV (c_X4_found l (k := 5) (by decide)) kal_X4_found rfl dX4_copy_54 qw_234 qw_236 qw_0 rfl (by decide) (cel_obj G _) (by decide) [] (Nat.le_of_ble_eq_true rfl) rfl rfl 57 rfl ?_
        exact v_iret dX4_copy_57 (by simp only [cCopy, okb, c1, c2, c3, eja, ejc, Bool.and_self, Bool.and_true, Bool.true_and, Bool.and_false, Bool.false_and, if_true, if_false, Bool.false_eq_true, ↓reduceIte] <;> first | rfl | (simp [cFind, lF, kSh, kP, kL, va_up_i, dc3, eja, ejc]; done) | (simp [cFind, lF, kSh, kP, kL, va_up_i, dc3, eja, ejc]; rfl)) (by simp only [cCopy, okb, c1, c2, c3, eja, ejc, Bool.and_self, Bool.and_true, Bool.true_and, Bool.and_false, Bool.false_and, if_true, if_false, Bool.false_eq_true, ↓reduceIte] <;> first | rfl | (simp [cFind, lF, kSh, kP, kL, va_up_i, dc3, eja, ejc]; done) | (simp [cFind, lF, kSh, kP, kL, va_up_i, dc3, eja, ejc]; rfl))
      · skip
        have dc3 := of_decide_eq_false c3
        refine v_aload dX4_copy_44 0 rfl 46 rfl ?_
        refine v_w (w2 := ((par, tp, va_up sh jc ((sh jc).1, (sh jc).2.1, (sh jc).2.2), tl, hi), M)) (congrArg (fun z => ((par, tp, z, tl, hi), M)) (va_up_i sh jc).symm) ?_
        refine v_callV (c_X2_isMissing l (by omega)) kal_X2_isMissing rfl dX4_copy_46 qw_616 qw_617 qw_618 rfl (k_she (by omega)) (f_she (by omega)) (by decide) [] (Nat.le_of_ble_eq_true rfl) rfl rfl 49 rfl ?_
        refine v_w (w2 := ((par, tp, sh, tl, hi), M)) (congrArg (fun z => ((par, tp, z, tl, hi), M)) (va_up_i sh jc)) ?_
        refine v_ifb_eq dX4_copy_49 58 (by decide) 52 rfl (fun c4 => ?_) (fun c4 => ?_)
        · skip
          have dc4 := of_decide_eq_false c4
          refine v_aload dX4_copy_58 1 rfl 60 rfl ?_
          refine v_get (i := 2) (ci := 2) (T := TX2) (C := RX2) (N := 3) (v := .int (sh ja).2.2) dX4_copy_60 inB2 rfl qw_187 rfl (by decide) (k_she (by omega)) (cel_she G _ (by omega)) rfl 63 rfl ?_
          refine v_aload dX4_copy_63 0 rfl 65 rfl ?_
          refine v_get (i := 2) (ci := 2) (T := TX2) (C := RX2) (N := 3) (v := .int (sh jc).2.2) dX4_copy_65 inB2 rfl qw_187 rfl (by decide) (k_she (by omega)) (cel_she G _ (by omega)) rfl 68 rfl ?_
          refine v_icmp_eq dX4_copy_68 77 (by decide) 71 rfl (fun c5 => ?_) (fun c5 => ?_)
          · skip
            refine v_aload dX4_copy_77 1 rfl 79 rfl ?_
            refine v_iload_n dX4_copy_79 4 rfl 80 rfl ?_
            refine v_iload dX4_copy_80 7 rfl 82 rfl ?_
            refine v_w (w2 := ((par, tp, va_up sh ja ((sh ja).1, (sh ja).2.1, (sh ja).2.2), tl, hi), M)) (congrArg (fun z => ((par, tp, z, tl, hi), M)) (va_up_i sh ja).symm) ?_
            refine v_callV (c_X2_has l (by omega) b e) kal_X2_has rfl dX4_copy_82 qw_628 qw_629 qw_630 rfl (k_she (by omega)) (f_she (by omega)) (by decide) [] (Nat.le_of_ble_eq_true rfl) rfl rfl 85 rfl ?_
            refine v_w (w2 := ((par, tp, sh, tl, hi), M)) (congrArg (fun z => ((par, tp, z, tl, hi), M)) (va_up_i sh ja)) ?_
            refine v_ifb_eq dX4_copy_85 100 (by decide) 88 rfl (fun c6 => ?_) (fun c6 => ?_)
            · skip
              refine v_aload_n dX4_copy_100 2 rfl 101 rfl ?_
              refine v_iconst dX4_copy_101 0 rfl 102 rfl ?_
              refine v_callV (c_X4_found l (k := 0) (by decide)) kal_X4_found rfl dX4_copy_102 qw_234 qw_236 qw_0 rfl (by decide) (cel_obj G _) (by decide) [] (Nat.le_of_ble_eq_true rfl) rfl rfl 105 rfl ?_
              exact v_iret dX4_copy_105 (by simp only [cCopy, okb, c1, c2, c3, c4, c6, eja, ejc, Bool.and_self, Bool.and_true, Bool.true_and, Bool.and_false, Bool.false_and, if_true, if_false, Bool.false_eq_true, ↓reduceIte] <;> first | rfl | (simp [cFind, lF, kSh, kP, kL, va_up_i, dc3, dc4, c5, eja, ejc]; done) | (simp [cFind, lF, kSh, kP, kL, va_up_i, dc3, dc4, c5, eja, ejc]; rfl)) (by simp only [cCopy, okb, c1, c2, c3, c4, c6, eja, ejc, Bool.and_self, Bool.and_true, Bool.true_and, Bool.and_false, Bool.false_and, if_true, if_false, Bool.false_eq_true, ↓reduceIte] <;> first | rfl | (simp [cFind, lF, kSh, kP, kL, va_up_i, dc3, dc4, c5, eja, ejc]; done) | (simp [cFind, lF, kSh, kP, kL, va_up_i, dc3, dc4, c5, eja, ejc]; rfl))
            · skip
              refine v_aload dX4_copy_88 0 rfl 90 rfl ?_
              refine v_iload dX4_copy_90 6 rfl 92 rfl ?_
              refine v_iload dX4_copy_92 7 rfl 94 rfl ?_
              refine v_w (w2 := ((par, tp, va_up sh jc ((sh jc).1, (sh jc).2.1, (sh jc).2.2), tl, hi), M)) (congrArg (fun z => ((par, tp, z, tl, hi), M)) (va_up_i sh jc).symm) ?_
              refine v_callV (c_X2_has l (by omega) d e) kal_X2_has rfl dX4_copy_94 qw_628 qw_629 qw_630 rfl (k_she (by omega)) (f_she (by omega)) (by decide) [] (Nat.le_of_ble_eq_true rfl) rfl rfl 97 rfl ?_
              refine v_w (w2 := ((par, tp, sh, tl, hi), M)) (congrArg (fun z => ((par, tp, z, tl, hi), M)) (va_up_i sh jc)) ?_
              refine v_ifb_ne dX4_copy_97 106 (by decide) 100 rfl (fun c7 => ?_) (fun c7 => ?_)
              · skip
                obtain ⟨jb, je, rfl, rfl, hq1⟩ := hasS_ix hzja (by assumption)
                obtain ⟨jd, je2, rfl, he2, hq2⟩ := hasS_ix hzjc (by assumption)
                have ejb : (nI jb).toNatClampNeg = jb := nI_clamp (by omega)
                have ejd : (nI jd).toNatClampNeg = jd := nI_clamp (by omega)
                have eje : (nI je).toNatClampNeg = je := nI_clamp (by omega)
                have he3 : je = je2 := by have h9 := congrArg Int32.toNatClampNeg he2; rw [nI_clamp (by omega), nI_clamp (by omega)] at h9; exact h9
                refine v_aload dX4_copy_106 1 rfl 108 rfl ?_
                refine v_get (i := 0) (ci := 2) (T := TX2) (C := RX2) (N := 3) (v := .ref (ga G (88 + ja))) dX4_copy_108 inB2 rfl qw_183 rfl (by decide) (k_she (by omega)) (cel_she G _ (by omega)) rfl 111 rfl ?_
                refine v_iload_n dX4_copy_111 4 rfl 112 rfl ?_
                refine v_aload dX4_copy_112 0 rfl 114 rfl ?_
                refine v_get (i := 0) (ci := 2) (T := TX2) (C := RX2) (N := 3) (v := .ref (ga G (88 + jc))) dX4_copy_114 inB2 rfl qw_183 rfl (by decide) (k_she (by omega)) (cel_she G _ (by omega)) rfl 117 rfl ?_
                refine v_iload dX4_copy_117 6 rfl 119 rfl ?_
                refine v_iload dX4_copy_119 7 rfl 121 rfl ?_
                refine v_w (w2 := ((par, tp, va_up sh jc ((sh jc).1, (sh jc).2.1, (sh jc).2.2), tl, hi), M)) (congrArg (fun z => ((par, tp, z, tl, hi), M)) (va_up_i sh jc).symm) ?_
                refine v_copyl (w2 := ((par, tp, va_up sh jc ((va_cpy ((va_up sh jc ((sh jc).1, (sh jc).2.1, (sh jc).2.2)) ja).1 (sh jc).1 jb jd je), (sh jc).2.1, (sh jc).2.2), tl, hi), M)) (a := ((va_up sh jc ((sh jc).1, (sh jc).2.1, (sh jc).2.2)) ja).1) (b := (sh jc).1) dX4_copy_121 qw_632 (by decide) (Nat.le_of_ble_eq_true rfl) (k_num (by omega)) (cel_num G _ (by omega)) (k_num (by omega)) (f_num (by omega)) jb jd je rfl rfl rfl (by omega) (by omega) (by decide) (by decide) (u_sn (by omega)) 124 rfl ?_
                refine v_w (w2 := ((par, tp, va_up sh jc ((va_cpy (sh ja).1 (sh jc).1 jb jd je), (sh jc).2.1, (sh jc).2.2), tl, hi), M)) (congrArg (fun z : Nat → Sh => ((par, tp, va_up sh jc ((va_cpy (z ja).1 (sh jc).1 jb jd je), (sh jc).2.1, (sh jc).2.2), tl, hi), M)) (va_up_i sh jc)) ?_
                refine v_iload dX4_copy_124 7 rfl 126 rfl ?_
                exact v_iret dX4_copy_126 (by simp only [cCopy, okb, c1, c2, c3, c4, c6, c7, eja, ejc, ejb, ejd, eje, Bool.and_self, Bool.and_true, Bool.true_and, Bool.and_false, Bool.false_and, if_true, if_false, Bool.false_eq_true, ↓reduceIte] <;> first | rfl | (simp [cFind, lF, kSh, kP, kL, va_up_i, dc3, dc4, c5, eja, ejc, ejb, ejd, eje]; done) | (simp [cFind, lF, kSh, kP, kL, va_up_i, dc3, dc4, c5, eja, ejc, ejb, ejd, eje]; rfl)) (by simp only [cCopy, okb, c1, c2, c3, c4, c6, c7, eja, ejc, ejb, ejd, eje, Bool.and_self, Bool.and_true, Bool.true_and, Bool.and_false, Bool.false_and, if_true, if_false, Bool.false_eq_true, ↓reduceIte] <;> first | rfl | (simp [cFind, lF, kSh, kP, kL, va_up_i, dc3, dc4, c5, eja, ejc, ejb, ejd, eje]; done) | (simp [cFind, lF, kSh, kP, kL, va_up_i, dc3, dc4, c5, eja, ejc, ejb, ejd, eje]; rfl))
              · skip
                refine v_aload_n dX4_copy_100 2 rfl 101 rfl ?_
                refine v_iconst dX4_copy_101 0 rfl 102 rfl ?_
                refine v_callV (c_X4_found l (k := 0) (by decide)) kal_X4_found rfl dX4_copy_102 qw_234 qw_236 qw_0 rfl (by decide) (cel_obj G _) (by decide) [] (Nat.le_of_ble_eq_true rfl) rfl rfl 105 rfl ?_
                exact v_iret dX4_copy_105 (by simp only [cCopy, okb, c1, c2, c3, c4, c6, c7, eja, ejc, Bool.and_self, Bool.and_true, Bool.true_and, Bool.and_false, Bool.false_and, if_true, if_false, Bool.false_eq_true, ↓reduceIte] <;> first | rfl | (simp [cFind, lF, kSh, kP, kL, va_up_i, dc3, dc4, c5, eja, ejc]; done) | (simp [cFind, lF, kSh, kP, kL, va_up_i, dc3, dc4, c5, eja, ejc]; rfl)) (by simp only [cCopy, okb, c1, c2, c3, c4, c6, c7, eja, ejc, Bool.and_self, Bool.and_true, Bool.true_and, Bool.and_false, Bool.false_and, if_true, if_false, Bool.false_eq_true, ↓reduceIte] <;> first | rfl | (simp [cFind, lF, kSh, kP, kL, va_up_i, dc3, dc4, c5, eja, ejc]; done) | (simp [cFind, lF, kSh, kP, kL, va_up_i, dc3, dc4, c5, eja, ejc]; rfl))
          · skip
            refine v_aload_n dX4_copy_71 2 rfl 72 rfl ?_
            refine v_iconst dX4_copy_72 2 rfl 73 rfl ?_
            refine v_callV (c_X4_found l (k := 2) (by decide)) kal_X4_found rfl dX4_copy_73 qw_234 qw_236 qw_0 rfl (by decide) (cel_obj G _) (by decide) [] (Nat.le_of_ble_eq_true rfl) rfl rfl 76 rfl ?_
            exact v_iret dX4_copy_76 (by simp only [cCopy, okb, c1, c2, c3, c4, eja, ejc, Bool.and_self, Bool.and_true, Bool.true_and, Bool.and_false, Bool.false_and, if_true, if_false, Bool.false_eq_true, ↓reduceIte] <;> first | rfl | (simp [cFind, lF, kSh, kP, kL, va_up_i, dc3, dc4, c5, Ne.symm c5, eja, ejc]; done) | (simp [cFind, lF, kSh, kP, kL, va_up_i, dc3, dc4, c5, Ne.symm c5, eja, ejc]; rfl)) (by simp only [cCopy, okb, c1, c2, c3, c4, eja, ejc, Bool.and_self, Bool.and_true, Bool.true_and, Bool.and_false, Bool.false_and, if_true, if_false, Bool.false_eq_true, ↓reduceIte] <;> first | rfl | (simp [cFind, lF, kSh, kP, kL, va_up_i, dc3, dc4, c5, Ne.symm c5, eja, ejc]; done) | (simp [cFind, lF, kSh, kP, kL, va_up_i, dc3, dc4, c5, Ne.symm c5, eja, ejc]; rfl))
        · skip
          have dc4 := of_decide_eq_true c4
          refine v_aload_n dX4_copy_52 2 rfl 53 rfl ?_
          refine v_iconst dX4_copy_53 5 rfl 54 rfl ?_
          refine v_callV (c_X4_found l (k := 5) (by decide)) kal_X4_found rfl dX4_copy_54 qw_234 qw_236 qw_0 rfl (by decide) (cel_obj G _) (by decide) [] (Nat.le_of_ble_eq_true rfl) rfl rfl 57 rfl ?_
          exact v_iret dX4_copy_57 (by simp only [cCopy, okb, c1, c2, c3, c4, eja, ejc, Bool.and_self, Bool.and_true, Bool.true_and, Bool.and_false, Bool.false_and, if_true, if_false, Bool.false_eq_true, ↓reduceIte] <;> first | rfl | (simp [cFind, lF, kSh, kP, kL, va_up_i, dc3, dc4, eja, ejc]; done) | (simp [cFind, lF, kSh, kP, kL, va_up_i, dc3, dc4, eja, ejc]; rfl)) (by simp only [cCopy, okb, c1, c2, c3, c4, eja, ejc, Bool.and_self, Bool.and_true, Bool.true_and, Bool.and_false, Bool.false_and, if_true, if_false, Bool.false_eq_true, ↓reduceIte] <;> first | rfl | (simp [cFind, lF, kSh, kP, kL, va_up_i, dc3, dc4, eja, ejc]; done) | (simp [cFind, lF, kSh, kP, kL, va_up_i, dc3, dc4, eja, ejc]; rfl))
    · skip
      refine v_aload_n dX4_copy_14 0 rfl 15 rfl ?_
      refine v_iconst dX4_copy_15 0 rfl 16 rfl ?_
      refine v_callV (c_X4_found l (k := 0) (by decide)) kal_X4_found rfl dX4_copy_16 qw_234 qw_236 qw_0 rfl (by decide) (cel_obj G _) (by decide) [] (Nat.le_of_ble_eq_true rfl) rfl rfl 19 rfl ?_
      exact v_iret dX4_copy_19 (by simp only [cCopy, okb, c1, c2, eja, Bool.and_self, Bool.and_true, Bool.true_and, Bool.and_false, Bool.false_and, if_true, if_false, Bool.false_eq_true, ↓reduceIte] <;> first | rfl | (simp [cFind, lF, kSh, kP, kL, va_up_i, eja]; done) | (simp [cFind, lF, kSh, kP, kL, va_up_i, eja]; rfl)) (by simp only [cCopy, okb, c1, c2, eja, Bool.and_self, Bool.and_true, Bool.true_and, Bool.and_false, Bool.false_and, if_true, if_false, Bool.false_eq_true, ↓reduceIte] <;> first | rfl | (simp [cFind, lF, kSh, kP, kL, va_up_i, eja]; done) | (simp [cFind, lF, kSh, kP, kL, va_up_i, eja]; rfl))
set_option maxHeartbeats 1000000 in
set_option maxRecDepth 4000 in
theorem lp_clays (l : Launch) {G : Gl} {X : VX} {ov : Option Value} {wF : WS} {par : Nat → Pa} {tp : Tp} {sh : Nat → Sh} {tl : Nat → Int32} {hi : Int32} {M : MS} {ja : Nat} (hja : ja < 4) (hzja : (sh ja).2.1 ≤ 40) : ∀ n i : Nat, i + n = (min (sh ja).2.1 12) → V l X 2 42 cX4_lays 7 RX4 (some .int) G ov wF ((va_up par 0 ((par 0).1, (par 0).2.1, (lyW (par 0).2.2.1 (sh ja).1 (min (sh ja).2.1 12)), (par 0).2.2.2.1, (par 0).2.2.2.2.1, (par 0).2.2.2.2.2.1, (par 0).2.2.2.2.2.2), tp, sh, tl, hi), M) 103 [(4, .int (nI (min (sh ja).2.1 12))), (3, .int (cyN (sh ja).1 (min (sh ja).2.1 12))), (0, .ref (ga G (0))), (1, .int (nI ja)), (2, .ref (ga G (84 + ja)))] [] → V l X 2 42 cX4_lays 7 RX4 (some .int) G ov wF ((va_up par 0 ((par 0).1, (par 0).2.1, (lyW (par 0).2.2.1 (sh ja).1 i), (par 0).2.2.2.1, (par 0).2.2.2.2.1, (par 0).2.2.2.2.2.1, (par 0).2.2.2.2.2.2), tp, sh, tl, hi), M) 38 [(4, .int (nI i)), (3, .int (cyN (sh ja).1 i)), (0, .ref (ga G (0))), (1, .int (nI ja)), (2, .ref (ga G (84 + ja)))] [] := by
  intro n
  induction n with
  | zero =>
    intro i hin hk
    obtain rfl : (min (sh ja).2.1 12) = i := by omega
    refine v_iload dX4_lays_38 0 rfl 40 rfl ?_
    refine v_bipush dX4_lays_40 12 rfl 42 rfl ?_
    refine n_icmp_ge dX4_lays_42 (min (sh ja).2.1 12) 12 rfl rfl (by omega) (by omega) 103 (by decide) 45 rfl (fun c1 => ?_) (fun c1 => ?_)
    · skip
      exact hk
    · skip
      refine v_iload dX4_lays_45 0 rfl 47 rfl ?_
      refine v_aload_n dX4_lays_47 4 rfl 48 rfl ?_
      refine v_get (i := 1) (ci := 2) (T := TX2) (C := RX2) (N := 3) (v := .int (nI (sh ja).2.1)) dX4_lays_48 inB2 rfl qw_185 rfl (by decide) (k_she (by omega)) (cel_she G _ (by omega)) rfl 51 rfl ?_
      refine n_icmp_ge dX4_lays_51 (min (sh ja).2.1 12) (sh ja).2.1 rfl rfl (by omega) (by omega) 103 (by decide) 54 rfl (fun c2 => ?_) (fun c2 => absurd c2 (by omega))
      exact hk
  | succ n ih =>
    intro i hin hk
    refine v_iload dX4_lays_38 0 rfl 40 rfl ?_
    refine v_bipush dX4_lays_40 12 rfl 42 rfl ?_
    refine n_icmp_ge dX4_lays_42 i 12 rfl rfl (by omega) (by omega) 103 (by decide) 45 rfl (fun c1 => absurd c1 (by omega)) (fun c1 => ?_)
    refine v_iload dX4_lays_45 0 rfl 47 rfl ?_
    refine v_aload_n dX4_lays_47 4 rfl 48 rfl ?_
    refine v_get (i := 1) (ci := 2) (T := TX2) (C := RX2) (N := 3) (v := .int (nI (sh ja).2.1)) dX4_lays_48 inB2 rfl qw_185 rfl (by decide) (k_she (by omega)) (cel_she G _ (by omega)) rfl 51 rfl ?_
    refine n_icmp_ge dX4_lays_51 i (sh ja).2.1 rfl rfl (by omega) (by omega) 103 (by decide) 54 rfl (fun c2 => absurd c2 (by omega)) (fun c2 => ?_)
    refine v_aload_n dX4_lays_54 4 rfl 55 rfl ?_
    refine v_get (i := 0) (ci := 2) (T := TX2) (C := RX2) (N := 3) (v := .ref (ga G (88 + ja))) dX4_lays_55 inB2 rfl qw_183 rfl (by decide) (k_she (by omega)) (cel_she G _ (by omega)) rfl 58 rfl ?_
    refine v_iload dX4_lays_58 0 rfl 60 rfl ?_
    refine v_lald (a := (sh ja).1) dX4_lays_60 (k_num (by omega)) (cel_num G _ (by omega)) i rfl (by omega) (by decide) 61 rfl ?_
    refine v_lstore dX4_lays_61 (by decide) [(5, .long ((sh ja).1 i)), (4, .int (nI i)), (3, .int (cyN (sh ja).1 i)), (0, .ref (ga G (0))), (1, .int (nI ja)), (2, .ref (ga G (84 + ja)))] rfl 63 rfl ?_
    refine v_lload dX4_lays_63 0 rfl 65 rfl ?_
    refine v_ldc2 dX4_lays_65 (-20) qw_637 68 rfl ?_
    refine v_lcmp dX4_lays_68 69 rfl ?_
    refine v_if_lt dX4_lays_69 97 (by decide) 72 rfl (fun c3 => ?_) (fun c3 => ?_)
    · skip
      refine v_iinc dX4_lays_97 1 rfl (nI (i + 1)) (nI_1 _) (by decide) [(4, .int (nI (i + 1))), (5, .long ((sh ja).1 i)), (3, .int (cyN (sh ja).1 i)), (0, .ref (ga G (0))), (1, .int (nI ja)), (2, .ref (ga G (84 + ja)))] rfl 100 rfl ?_
      refine v_goto dX4_lays_100 38 (by decide) ?_
      refine v_pick [0, 2, 3, 4, 5] [(4, .int (nI (i + 1))), (3, .int (cyN (sh ja).1 i)), (0, .ref (ga G (0))), (1, .int (nI ja)), (2, .ref (ga G (84 + ja)))] rfl ?_
      have e91 : cyN (sh ja).1 i = cyN (sh ja).1 (i + 1) := by simp [cyN, c3, Int32.not_le.mpr c3]
      refine v_ls (ls2 := [(4, .int (nI (i + 1))), (3, .int (cyN (sh ja).1 (i + 1))), (0, .ref (ga G (0))), (1, .int (nI ja)), (2, .ref (ga G (84 + ja)))]) (by simp only [List.cons.injEq, Prod.mk.injEq, Value.int.injEq, true_and, and_true, and_self]; exact e91) ?_
      have e92 : (lyW (par 0).2.2.1 (sh ja).1 i) = lyW (par 0).2.2.1 (sh ja).1 (i + 1) := by simp only [lyW, c3, Int32.not_le.mpr c3, if_true, if_false, ↓reduceIte]
      refine v_w (w2 := ((va_up par 0 ((par 0).1, (par 0).2.1, (lyW (par 0).2.2.1 (sh ja).1 (i + 1)), (par 0).2.2.2.1, (par 0).2.2.2.2.1, (par 0).2.2.2.2.2.1, (par 0).2.2.2.2.2.2), tp, sh, tl, hi), M)) (by rw [e92]) ?_
      exact ih (i + 1) (by omega) hk
    · skip
      refine v_lload dX4_lays_72 0 rfl 74 rfl ?_
      refine v_ldc2 dX4_lays_74 20 qw_638 77 rfl ?_
      refine v_lcmp dX4_lays_77 78 rfl ?_
      refine v_if_gt dX4_lays_78 97 (by decide) 81 rfl (fun c4 => ?_) (fun c4 => ?_)
      · skip
        refine v_iinc dX4_lays_97 1 rfl (nI (i + 1)) (nI_1 _) (by decide) [(4, .int (nI (i + 1))), (5, .long ((sh ja).1 i)), (3, .int (cyN (sh ja).1 i)), (0, .ref (ga G (0))), (1, .int (nI ja)), (2, .ref (ga G (84 + ja)))] rfl 100 rfl ?_
        refine v_goto dX4_lays_100 38 (by decide) ?_
        refine v_pick [0, 2, 3, 4, 5] [(4, .int (nI (i + 1))), (3, .int (cyN (sh ja).1 i)), (0, .ref (ga G (0))), (1, .int (nI ja)), (2, .ref (ga G (84 + ja)))] rfl ?_
        have e91 : cyN (sh ja).1 i = cyN (sh ja).1 (i + 1) := by simp [cyN, c3, Int32.not_lt.mp c3, c4, Int32.not_le.mpr c4]
        refine v_ls (ls2 := [(4, .int (nI (i + 1))), (3, .int (cyN (sh ja).1 (i + 1))), (0, .ref (ga G (0))), (1, .int (nI ja)), (2, .ref (ga G (84 + ja)))]) (by simp only [List.cons.injEq, Prod.mk.injEq, Value.int.injEq, true_and, and_true, and_self]; exact e91) ?_
        have e92 : (lyW (par 0).2.2.1 (sh ja).1 i) = lyW (par 0).2.2.1 (sh ja).1 (i + 1) := by simp only [lyW, c3, Int32.not_lt.mp c3, c4, Int32.not_le.mpr c4, if_true, if_false, ↓reduceIte]
        refine v_w (w2 := ((va_up par 0 ((par 0).1, (par 0).2.1, (lyW (par 0).2.2.1 (sh ja).1 (i + 1)), (par 0).2.2.2.1, (par 0).2.2.2.2.1, (par 0).2.2.2.2.2.1, (par 0).2.2.2.2.2.2), tp, sh, tl, hi), M)) (by rw [e92]) ?_
        exact ih (i + 1) (by omega) hk
      · skip
        refine v_aload_n dX4_lays_81 3 rfl 82 rfl ?_
        refine v_get (i := 0) (ci := 4) (T := TX4) (C := RX4) (N := 8) (v := .ref (ga G (1 + 0))) dX4_lays_82 inB4 rfl qw_196 rfl (by decide) (by decide) (cel_obj G _) rfl 85 rfl ?_
        refine v_get (i := 2) (ci := 1) (T := TX1) (C := RX1) (N := 7) (v := .ref (ga G (4 + 0))) dX4_lays_85 inB1 rfl qw_120 rfl (by decide) (k_par h03) (f_par h03) rfl 88 rfl ?_
        refine v_iload dX4_lays_88 1 rfl 90 rfl ?_
        refine v_lload dX4_lays_90 0 rfl 92 rfl ?_
        refine v_l2i dX4_lays_92 93 rfl ?_
        refine v_iast (w2 := ((va_up par 0 ((par 0).1, (par 0).2.1, (upd (lyW (par 0).2.2.1 (sh ja).1 i) i ((sh ja).1 i).toInt32), (par 0).2.2.2.1, (par 0).2.2.2.2.1, (par 0).2.2.2.2.2.1, (par 0).2.2.2.2.2.2), tp, sh, tl, hi), M)) dX4_lays_93 (k_wea h03) (f_wea h03) i rfl (by omega) (by decide) (u_W h03) 94 rfl ?_
        refine v_iinc dX4_lays_94 2 rfl ((cyN (sh ja).1 i) + 1) rfl (by decide) [(3, .int ((cyN (sh ja).1 i) + 1)), (5, .long ((sh ja).1 i)), (4, .int (nI i)), (0, .ref (ga G (0))), (1, .int (nI ja)), (2, .ref (ga G (84 + ja)))] rfl 97 rfl ?_
        refine v_iinc dX4_lays_97 2 rfl (nI (i + 1)) (nI_1 _) (by decide) [(4, .int (nI (i + 1))), (3, .int ((cyN (sh ja).1 i) + 1)), (5, .long ((sh ja).1 i)), (0, .ref (ga G (0))), (1, .int (nI ja)), (2, .ref (ga G (84 + ja)))] rfl 100 rfl ?_
        refine v_goto dX4_lays_100 38 (by decide) ?_
        refine v_pick [0, 1, 3, 4, 5] [(4, .int (nI (i + 1))), (3, .int ((cyN (sh ja).1 i) + 1)), (0, .ref (ga G (0))), (1, .int (nI ja)), (2, .ref (ga G (84 + ja)))] rfl ?_
        have e91 : (cyN (sh ja).1 i) + 1 = cyN (sh ja).1 (i + 1) := by simp [cyN, c3, Int32.not_lt.mp c3, c4, Int32.not_lt.mp c4]
        refine v_ls (ls2 := [(4, .int (nI (i + 1))), (3, .int (cyN (sh ja).1 (i + 1))), (0, .ref (ga G (0))), (1, .int (nI ja)), (2, .ref (ga G (84 + ja)))]) (by simp only [List.cons.injEq, Prod.mk.injEq, Value.int.injEq, true_and, and_true, and_self]; exact e91) ?_
        have e92 : (upd (lyW (par 0).2.2.1 (sh ja).1 i) i ((sh ja).1 i).toInt32) = lyW (par 0).2.2.1 (sh ja).1 (i + 1) := by simp only [lyW, c3, Int32.not_lt.mp c3, c4, Int32.not_lt.mp c4, if_true, if_false, ↓reduceIte]
        refine v_w (w2 := ((va_up par 0 ((par 0).1, (par 0).2.1, (lyW (par 0).2.2.1 (sh ja).1 (i + 1)), (par 0).2.2.2.1, (par 0).2.2.2.2.1, (par 0).2.2.2.2.2.1, (par 0).2.2.2.2.2.2), tp, sh, tl, hi), M)) (by rw [e92]) ?_
        exact ih (i + 1) (by omega) hk
set_option maxHeartbeats 1000000 in
set_option maxRecDepth 4000 in
theorem c_X4_lays (l : Launch) {G : Gl} {K : CS} {M : MS} (hz : ∀ s, s < 4 → (K.2.2.1 s).2.1 ≤ 40) (a : Int32) : Ct l G yX4_lays cX4_lays 7 (some .int) 2 42 [.ref (ga G (0)), .int a] (K, M) (some (.int (cLays K a).1)) ((cLays K a).2, M) := by
  obtain ⟨par, tp, sh, tl, hi⟩ := K
  dsimp only at hz
  refine Ct.of (own := RX4) (by decide) rfl (Nat.le_of_ble_eq_true rfl) rfl (fun X => ?_)
  refine v_iload_n dX4_lays_0 1 rfl 1 rfl ?_
  refine v_callS (c_X4_isSheet l a) kal_X4_isSheet rfl dX4_lays_1 qw_602 qw_603 (by decide) [] (Nat.le_of_ble_eq_true rfl) rfl rfl 4 rfl ?_
  refine v_ifb_ne dX4_lays_4 13 (by decide) 7 rfl (fun c1 => ?_) (fun c1 => ?_)
  · skip
    obtain ⟨ja, h1ja, h2ja, rfl⟩ := inb_ix (lo := 0) (hi := 3) c1
    have eja : (nI ja).toNatClampNeg = ja := nI_clamp (by omega)
    have hzja := hz ja (by omega)
    refine v_aload_n dX4_lays_13 0 rfl 14 rfl ?_
    refine v_get (i := 5) (ci := 4) (T := TX4) (C := RX4) (N := 8) (v := .ref (ga G (83))) dX4_lays_14 inB4 rfl qw_201 rfl (by decide) (by decide) (cel_obj G _) rfl 17 rfl ?_
    refine v_iload_n dX4_lays_17 1 rfl 18 rfl ?_
    refine v_aaldS dX4_lays_18 (by decide) (cel_shs G _) ja rfl (by omega) (by decide) rfl 19 rfl ?_
    refine v_astore_n dX4_lays_19 2 rfl (by decide) [(2, .ref (ga G (84 + ja))), (0, .ref (ga G (0))), (1, .int (nI ja))] rfl 20 rfl ?_
    refine v_aload_n dX4_lays_20 0 rfl 21 rfl ?_
    refine v_w (w2 := ((par, tp, va_up sh ja ((sh ja).1, (sh ja).2.1, (sh ja).2.2), tl, hi), M)) (congrArg (fun z => ((par, tp, z, tl, hi), M)) (va_up_i sh ja).symm) ?_
    refine v_callV (c_X2_isMissing l (by omega)) kal_X2_isMissing rfl dX4_lays_21 qw_616 qw_617 qw_618 rfl (k_she (by omega)) (f_she (by omega)) (by decide) [] (Nat.le_of_ble_eq_true rfl) rfl rfl 24 rfl ?_
    refine v_w (w2 := ((par, tp, sh, tl, hi), M)) (congrArg (fun z => ((par, tp, z, tl, hi), M)) (va_up_i sh ja)) ?_
    refine v_ifb_eq dX4_lays_24 33 (by decide) 27 rfl (fun c2 => ?_) (fun c2 => ?_)
    · skip
      have dc2 := of_decide_eq_false c2
      refine v_iconst dX4_lays_33 0 rfl 34 rfl ?_
      refine v_istore_n dX4_lays_34 3 rfl (by decide) [(3, .int 0), (2, .ref (ga G (84 + ja))), (0, .ref (ga G (0))), (1, .int (nI ja))] rfl 35 rfl ?_
      refine v_iconst dX4_lays_35 0 rfl 36 rfl ?_
      refine v_istore dX4_lays_36 (by decide) [(4, .int 0), (3, .int 0), (2, .ref (ga G (84 + ja))), (0, .ref (ga G (0))), (1, .int (nI ja))] rfl 38 rfl ?_
      refine v_w (w2 := ((va_up par 0 ((par 0).1, (par 0).2.1, (par 0).2.2.1, (par 0).2.2.2.1, (par 0).2.2.2.2.1, (par 0).2.2.2.2.2.1, (par 0).2.2.2.2.2.2), tp, sh, tl, hi), M)) (congrArg (fun z => ((z, tp, sh, tl, hi), M)) (va_up_i par 0).symm) ?_
      refine v_pick [0, 1, 3, 4, 2] [(4, .int 0), (3, .int 0), (0, .ref (ga G (0))), (1, .int (nI ja)), (2, .ref (ga G (84 + ja)))] rfl ?_
      refine lp_clays l (ja := ja) (by omega) hzja (min (sh ja).2.1 12) 0 (by omega) ?_
      refine v_iload_n dX4_lays_103 1 rfl 104 rfl ?_
      exact v_iret dX4_lays_104 (by simp only [cLays, okb, c1, c2, eja, Bool.and_self, Bool.and_true, Bool.true_and, Bool.and_false, Bool.false_and, if_true, if_false, Bool.false_eq_true, ↓reduceIte] <;> first | rfl | (simp [cFind, lF, kSh, kP, kL, va_up_i, dc2, eja]; done) | (simp [cFind, lF, kSh, kP, kL, va_up_i, dc2, eja]; rfl)) (by simp only [cLays, okb, c1, c2, eja, Bool.and_self, Bool.and_true, Bool.true_and, Bool.and_false, Bool.false_and, if_true, if_false, Bool.false_eq_true, ↓reduceIte] <;> first | rfl | (simp [cFind, lF, kSh, kP, kL, va_up_i, dc2, eja]; done) | (simp [cFind, lF, kSh, kP, kL, va_up_i, dc2, eja]; rfl))
    · skip
      have dc2 := of_decide_eq_true c2
      refine v_aload_n dX4_lays_27 1 rfl 28 rfl ?_
      refine v_iconst dX4_lays_28 5 rfl 29 rfl ?_
      refine v_callV (c_X4_found l (k := 5) (by decide)) kal_X4_found rfl dX4_lays_29 qw_234 qw_236 qw_0 rfl (by decide) (cel_obj G _) (by decide) [] (Nat.le_of_ble_eq_true rfl) rfl rfl 32 rfl ?_
      exact v_iret dX4_lays_32 (by simp only [cLays, okb, c1, c2, eja, Bool.and_self, Bool.and_true, Bool.true_and, Bool.and_false, Bool.false_and, if_true, if_false, Bool.false_eq_true, ↓reduceIte] <;> first | rfl | (simp [cFind, lF, kSh, kP, kL, va_up_i, dc2, eja]; done) | (simp [cFind, lF, kSh, kP, kL, va_up_i, dc2, eja]; rfl)) (by simp only [cLays, okb, c1, c2, eja, Bool.and_self, Bool.and_true, Bool.true_and, Bool.and_false, Bool.false_and, if_true, if_false, Bool.false_eq_true, ↓reduceIte] <;> first | rfl | (simp [cFind, lF, kSh, kP, kL, va_up_i, dc2, eja]; done) | (simp [cFind, lF, kSh, kP, kL, va_up_i, dc2, eja]; rfl))
  · skip
    refine v_aload_n dX4_lays_7 0 rfl 8 rfl ?_
    refine v_iconst dX4_lays_8 0 rfl 9 rfl ?_
    refine v_callV (c_X4_found l (k := 0) (by decide)) kal_X4_found rfl dX4_lays_9 qw_234 qw_236 qw_0 rfl (by decide) (cel_obj G _) (by decide) [] (Nat.le_of_ble_eq_true rfl) rfl rfl 12 rfl ?_
    exact v_iret dX4_lays_12 (by simp only [cLays, okb, c1, Bool.and_self, Bool.and_true, Bool.true_and, Bool.and_false, Bool.false_and, if_true, if_false, Bool.false_eq_true, ↓reduceIte] <;> first | rfl | (simp [cFind, lF, kSh, kP, kL, va_up_i, true_and]; done) | (simp [cFind, lF, kSh, kP, kL, va_up_i, true_and]; rfl)) (by simp only [cLays, okb, c1, Bool.and_self, Bool.and_true, Bool.true_and, Bool.and_false, Bool.false_and, if_true, if_false, Bool.false_eq_true, ↓reduceIte] <;> first | rfl | (simp [cFind, lF, kSh, kP, kL, va_up_i, true_and]; done) | (simp [cFind, lF, kSh, kP, kL, va_up_i, true_and]; rfl))
set_option maxHeartbeats 1000000 in
set_option maxRecDepth 4000 in
theorem lp_told (l : Launch) {G : Gl} {X : VX} {ov : Option Value} {wF : WS} {par : Nat → Pa} {tp : Tp} {sh : Nat → Sh} {tl : Nat → Int32} {hi : Int32} {M : MS} {mo sz : Nat} {W S R : Nat → Int32} {C : Nat → Nat → Int32} {E : Nat → Ew} {k f x : Int32} {fl : Nat → Int32} {ja : Nat} (hja : ja < 4) (hzja : (sh ja).2.1 ≤ 40) (hmo : (par 0).1 < 2 ^ 20) (hk1 : ∀ i : Nat, i < (sh ja).2.1 → (∀ j, j < i → (gP1 (sh ja).1 (k, f, x, fl) (par 0).2.2.1 (par 0).1) j = false) → (gP1 (sh ja).1 (k, f, x, fl) (par 0).2.2.1 (par 0).1) i = true → V l X 4 92 cX4_growsAsTold 3 RX4 (some .boolean) G ov wF ((va_up par 3 (mo, sz, W, S, R, C, va_up E 0 ((aGo (k, f, x, fl) (par 0).2.2.1 (par 0).1 i).1, (aGo (k, f, x, fl) (par 0).2.2.1 (par 0).1 i).2.1, (aGo (k, f, x, fl) (par 0).2.2.1 (par 0).1 i).2.2.1, (aGo (k, f, x, fl) (par 0).2.2.1 (par 0).1 i).2.2.2)), tp, sh, tl, hi), M) 28 [(2, .int (nI i)), (0, .ref (ga G (0))), (1, .ref (ga G (84 + ja)))] []) (hk0 : (∀ j, j < (sh ja).2.1 → (gP1 (sh ja).1 (k, f, x, fl) (par 0).2.2.1 (par 0).1) j = false) → V l X 4 92 cX4_growsAsTold 3 RX4 (some .boolean) G ov wF ((va_up par 3 (mo, sz, W, S, R, C, va_up E 0 ((aGo (k, f, x, fl) (par 0).2.2.1 (par 0).1 (sh ja).2.1).1, (aGo (k, f, x, fl) (par 0).2.2.1 (par 0).1 (sh ja).2.1).2.1, (aGo (k, f, x, fl) (par 0).2.2.1 (par 0).1 (sh ja).2.1).2.2.1, (aGo (k, f, x, fl) (par 0).2.2.1 (par 0).1 (sh ja).2.1).2.2.2)), tp, sh, tl, hi), M) 42 [(2, .int (nI (sh ja).2.1)), (0, .ref (ga G (0))), (1, .ref (ga G (84 + ja)))] []) : ∀ n i : Nat, i + n = (sh ja).2.1 → (∀ j, j < i → (gP1 (sh ja).1 (k, f, x, fl) (par 0).2.2.1 (par 0).1) j = false) → V l X 4 92 cX4_growsAsTold 3 RX4 (some .boolean) G ov wF ((va_up par 3 (mo, sz, W, S, R, C, va_up E 0 ((aGo (k, f, x, fl) (par 0).2.2.1 (par 0).1 i).1, (aGo (k, f, x, fl) (par 0).2.2.1 (par 0).1 i).2.1, (aGo (k, f, x, fl) (par 0).2.2.1 (par 0).1 i).2.2.1, (aGo (k, f, x, fl) (par 0).2.2.1 (par 0).1 i).2.2.2)), tp, sh, tl, hi), M) 2 [(2, .int (nI i)), (0, .ref (ga G (0))), (1, .ref (ga G (84 + ja)))] [] := by
  intro n
  induction n with
  | zero =>
    intro i hin hno
    obtain rfl : (sh ja).2.1 = i := by omega
    refine v_iload_n dX4_growsAsTold_2 0 rfl 3 rfl ?_
    refine v_aload_n dX4_growsAsTold_3 2 rfl 4 rfl ?_
    refine v_get (i := 1) (ci := 2) (T := TX2) (C := RX2) (N := 3) (v := .int (nI (sh ja).2.1)) dX4_growsAsTold_4 inB2 rfl qw_185 rfl (by decide) (k_she (by omega)) (cel_she G _ (by omega)) rfl 7 rfl ?_
    refine n_icmp_ge dX4_growsAsTold_7 (sh ja).2.1 (sh ja).2.1 rfl rfl (by omega) (by omega) 42 (by decide) 10 rfl (fun c1 => ?_) (fun c1 => absurd c1 (by omega))
    exact hk0 hno
  | succ n ih =>
    intro i hin hno
    refine v_iload_n dX4_growsAsTold_2 0 rfl 3 rfl ?_
    refine v_aload_n dX4_growsAsTold_3 2 rfl 4 rfl ?_
    refine v_get (i := 1) (ci := 2) (T := TX2) (C := RX2) (N := 3) (v := .int (nI (sh ja).2.1)) dX4_growsAsTold_4 inB2 rfl qw_185 rfl (by decide) (k_she (by omega)) (cel_she G _ (by omega)) rfl 7 rfl ?_
    refine n_icmp_ge dX4_growsAsTold_7 i (sh ja).2.1 rfl rfl (by omega) (by omega) 42 (by decide) 10 rfl (fun c1 => absurd c1 (by omega)) (fun c1 => ?_)
    refine v_aload_n dX4_growsAsTold_10 2 rfl 11 rfl ?_
    refine v_get (i := 0) (ci := 2) (T := TX2) (C := RX2) (N := 3) (v := .ref (ga G (88 + ja))) dX4_growsAsTold_11 inB2 rfl qw_183 rfl (by decide) (k_she (by omega)) (cel_she G _ (by omega)) rfl 14 rfl ?_
    refine v_iload_n dX4_growsAsTold_14 0 rfl 15 rfl ?_
    refine v_lald (a := (sh ja).1) dX4_growsAsTold_15 (k_num (by omega)) (cel_num G _ (by omega)) i rfl (by omega) (by decide) 16 rfl ?_
    refine v_aload_n dX4_growsAsTold_16 1 rfl 17 rfl ?_
    refine v_get (i := 3) (ci := 4) (T := TX4) (C := RX4) (N := 8) (v := .ref (ga G (31 + (8 * 3 + 0)))) dX4_growsAsTold_17 inB4 rfl qw_199 rfl (by decide) (by decide) (cel_obj G _) rfl 20 rfl ?_
    refine v_get (i := 2) (ci := 0) (T := TX0) (C := RX0) (N := 4) (v := .int (aGo (k, f, x, fl) (par 0).2.2.1 (par 0).1 i).2.2.1) dX4_growsAsTold_20 inB0 rfl qw_100 rfl (by decide) (k_ewe h30) (f_ewe h30 h08) rfl 23 rfl ?_
    refine v_i2l dX4_growsAsTold_23 24 rfl ?_
    refine v_lcmp dX4_growsAsTold_24 25 rfl ?_
    refine v_if_eq dX4_growsAsTold_25 30 (by decide) 28 rfl (fun c2 => ?_) (fun c2 => ?_)
    · skip
      refine v_aload_n dX4_growsAsTold_30 1 rfl 31 rfl ?_
      refine v_iload_n dX4_growsAsTold_31 0 rfl 32 rfl ?_
      refine v_iconst dX4_growsAsTold_32 1 rfl 33 rfl ?_
      refine v_callV (c_X4_passAloneFrom l (by first | omega | (dsimp only; omega))) kal_X4_passAloneFrom rfl dX4_growsAsTold_33 qw_418 qw_420 qw_3 rfl (by decide) (cel_obj G _) (by decide) [] (Nat.le_of_ble_eq_true rfl) rfl rfl 36 rfl ?_
      refine v_iinc dX4_growsAsTold_36 0 rfl (nI (i + 1)) (nI_1 _) (by decide) [(2, .int (nI (i + 1))), (0, .ref (ga G (0))), (1, .ref (ga G (84 + ja)))] rfl 39 rfl ?_
      refine v_goto dX4_growsAsTold_39 2 (by decide) ?_
      exact ih (i + 1) (by omega) (lt_s hno (by simp [gP1, lcmp_eq.mp c2]))
    · skip
      exact hk1 i (by omega) hno (by simp [gP1, ncmp c2])
set_option maxHeartbeats 1000000 in
set_option maxRecDepth 4000 in
theorem c_X4_growsAsTold (l : Launch) {G : Gl} {par : Nat → Pa} {tp : Tp} {sh : Nat → Sh} {tl : Nat → Int32} {hi : Int32} {M : MS} {mo sz : Nat} {W S R : Nat → Int32} {C : Nat → Nat → Int32} {E : Nat → Ew} {k f x : Int32} {fl : Nat → Int32} {ja : Nat} (hja : ja < 4) (hzja : (sh ja).2.1 ≤ 40) (hmo : (par 0).1 < 2 ^ 20) : Ct l G yX4_growsAsTold cX4_growsAsTold 3 (some .boolean) 4 92 [.ref (ga G (0)), .ref (ga G (84 + ja))] ((va_up par 3 (mo, sz, W, S, R, C, va_up E 0 (k, f, x, fl)), tp, sh, tl, hi), M) (some (.int (b2 (gTold (sh ja).1 (k, f, x, fl) (par 0).2.2.1 (par 0).1 (sh ja).2.1)))) ((va_up par 3 (mo, sz, W, S, R, C, va_up E 0 ((gLast (sh ja).1 (k, f, x, fl) (par 0).2.2.1 (par 0).1 (sh ja).2.1).1, (gLast (sh ja).1 (k, f, x, fl) (par 0).2.2.1 (par 0).1 (sh ja).2.1).2.1, (gLast (sh ja).1 (k, f, x, fl) (par 0).2.2.1 (par 0).1 (sh ja).2.1).2.2.1, (gLast (sh ja).1 (k, f, x, fl) (par 0).2.2.1 (par 0).1 (sh ja).2.1).2.2.2)), tp, sh, tl, hi), M) := by
  refine Ct.of (own := RX4) (by decide) rfl (Nat.le_of_ble_eq_true rfl) rfl (fun X => ?_)
  refine v_iconst dX4_growsAsTold_0 0 rfl 1 rfl ?_
  refine v_istore_n dX4_growsAsTold_1 2 rfl (by decide) [(2, .int 0), (0, .ref (ga G (0))), (1, .ref (ga G (84 + ja)))] rfl 2 rfl ?_
  refine lp_told l (mo := mo) (sz := sz) (W := W) (S := S) (R := R) (C := C) (E := E) (k := k) (f := f) (x := x) (fl := fl) hja hzja hmo (fun i hi9 hno hyes => ?_) (fun hno => ?_) (sh ja).2.1 0 (by omega) (fun _ h => absurd h (Nat.not_lt_zero _))
  · skip
    have hF : fa_first (gP1 (sh ja).1 (k, f, x, fl) (par 0).2.2.1 (par 0).1) (sh ja).2.1 = i := fa_first_eq (by omega) hno (fun _ => hyes)
    have hF2 : i < (sh ja).2.1 := hi9
    refine v_iconst dX4_growsAsTold_28 0 rfl 29 rfl ?_
    exact v_zret dX4_growsAsTold_29 rfl (by first | (have h9 := Nat.ne_of_lt hF2; simp [gTold, b2, hF, h9]; done) | (simp [gTold, b2, hF]; done)) (by unfold gLast; rw [hF])
  · skip
    have hF : fa_first (gP1 (sh ja).1 (k, f, x, fl) (par 0).2.2.1 (par 0).1) (sh ja).2.1 = (sh ja).2.1 := fa_first_eq (Nat.le_refl _) hno (fun h => absurd h (Nat.lt_irrefl _))
    refine v_iconst dX4_growsAsTold_42 1 rfl 43 rfl ?_
    exact v_zret dX4_growsAsTold_43 rfl (by first | (have h9 := Nat.ne_of_lt hF2; simp [gTold, b2, hF, h9]; done) | (simp [gTold, b2, hF]; done)) (by unfold gLast; rw [hF])
set_option maxHeartbeats 1000000 in
set_option maxRecDepth 4000 in
theorem lp_cbook (l : Launch) {G : Gl} {X : VX} {ov : Option Value} {wF : WS} {par : Nat → Pa} {tp : Tp} {sh : Nat → Sh} {tl : Nat → Int32} {hi : Int32} {M : MS} {ja jb : Nat} (hja : ja < 4) (hjb : jb < 8) (hzja : (sh ja).2.1 ≤ 40) (hmo : (par 0).1 < 2 ^ 20) : ∀ n i : Nat, i + n = (sh ja).2.1 → V l X 4 92 cX4_book 5 RX4 (some .int) G ov wF ((va_up par 3 ((par 3).1, (par 3).2.1, (par 3).2.2.1, (par 3).2.2.2.1, (par 3).2.2.2.2.1, (par 3).2.2.2.2.2.1, va_up (par 3).2.2.2.2.2.2 0 ((aGo (eBecome ((par 3).2.2.2.2.2.2 0) ((par 0).2.2.2.2.2.2 jb)) (par 0).2.2.1 (par 0).1 (sh ja).2.1).1, (aGo (eBecome ((par 3).2.2.2.2.2.2 0) ((par 0).2.2.2.2.2.2 jb)) (par 0).2.2.1 (par 0).1 (sh ja).2.1).2.1, (aGo (eBecome ((par 3).2.2.2.2.2.2 0) ((par 0).2.2.2.2.2.2 jb)) (par 0).2.2.1 (par 0).1 (sh ja).2.1).2.2.1, (aGo (eBecome ((par 3).2.2.2.2.2.2 0) ((par 0).2.2.2.2.2.2 jb)) (par 0).2.2.1 (par 0).1 (sh ja).2.1).2.2.2)), tp, va_up sh ja ((bkC (sh ja).1 (sh ja).2.2 (eBecome ((par 3).2.2.2.2.2.2 0) ((par 0).2.2.2.2.2.2 jb)) (par 0).2.2.1 (par 0).1 (sh ja).2.1), (sh ja).2.1, (sh ja).2.2), tl, hi), M) 102 [(4, .int (nI (sh ja).2.1)), (0, .ref (ga G (0))), (1, .int (nI ja)), (2, .int (nI jb)), (3, .ref (ga G (84 + ja)))] [] → V l X 4 92 cX4_book 5 RX4 (some .int) G ov wF ((va_up par 3 ((par 3).1, (par 3).2.1, (par 3).2.2.1, (par 3).2.2.2.1, (par 3).2.2.2.2.1, (par 3).2.2.2.2.2.1, va_up (par 3).2.2.2.2.2.2 0 ((aGo (eBecome ((par 3).2.2.2.2.2.2 0) ((par 0).2.2.2.2.2.2 jb)) (par 0).2.2.1 (par 0).1 i).1, (aGo (eBecome ((par 3).2.2.2.2.2.2 0) ((par 0).2.2.2.2.2.2 jb)) (par 0).2.2.1 (par 0).1 i).2.1, (aGo (eBecome ((par 3).2.2.2.2.2.2 0) ((par 0).2.2.2.2.2.2 jb)) (par 0).2.2.1 (par 0).1 i).2.2.1, (aGo (eBecome ((par 3).2.2.2.2.2.2 0) ((par 0).2.2.2.2.2.2 jb)) (par 0).2.2.1 (par 0).1 i).2.2.2)), tp, va_up sh ja ((bkC (sh ja).1 (sh ja).2.2 (eBecome ((par 3).2.2.2.2.2.2 0) ((par 0).2.2.2.2.2.2 jb)) (par 0).2.2.1 (par 0).1 i), (sh ja).2.1, (sh ja).2.2), tl, hi), M) 66 [(4, .int (nI i)), (0, .ref (ga G (0))), (1, .int (nI ja)), (2, .int (nI jb)), (3, .ref (ga G (84 + ja)))] [] := by
  intro n
  induction n with
  | zero =>
    intro i hin hk
    obtain rfl : (sh ja).2.1 = i := by omega
    refine v_iload dX4_book_66 0 rfl 68 rfl ?_
    refine v_aload_n dX4_book_68 4 rfl 69 rfl ?_
    refine v_get (i := 1) (ci := 2) (T := TX2) (C := RX2) (N := 3) (v := .int (nI (sh ja).2.1)) dX4_book_69 inB2 rfl qw_185 rfl (by decide) (k_she (by omega)) (f_she (by omega)) rfl 72 rfl ?_
    refine n_icmp_ge dX4_book_72 (sh ja).2.1 (sh ja).2.1 rfl rfl (by omega) (by omega) 102 (by decide) 75 rfl (fun c1 => ?_) (fun c1 => absurd c1 (by omega))
    exact hk
  | succ n ih =>
    intro i hin hk
    refine v_iload dX4_book_66 0 rfl 68 rfl ?_
    refine v_aload_n dX4_book_68 4 rfl 69 rfl ?_
    refine v_get (i := 1) (ci := 2) (T := TX2) (C := RX2) (N := 3) (v := .int (nI (sh ja).2.1)) dX4_book_69 inB2 rfl qw_185 rfl (by decide) (k_she (by omega)) (f_she (by omega)) rfl 72 rfl ?_
    refine n_icmp_ge dX4_book_72 i (sh ja).2.1 rfl rfl (by omega) (by omega) 102 (by decide) 75 rfl (fun c1 => absurd c1 (by omega)) (fun c1 => ?_)
    refine v_aload_n dX4_book_75 4 rfl 76 rfl ?_
    refine v_iload dX4_book_76 0 rfl 78 rfl ?_
    refine v_aload_n dX4_book_78 1 rfl 79 rfl ?_
    refine v_get (i := 3) (ci := 4) (T := TX4) (C := RX4) (N := 8) (v := .ref (ga G (31 + (8 * 3 + 0)))) dX4_book_79 inB4 rfl qw_199 rfl (by decide) (by decide) (cel_obj G _) rfl 82 rfl ?_
    refine v_get (i := 2) (ci := 0) (T := TX0) (C := RX0) (N := 4) (v := .int (aGo (eBecome ((par 3).2.2.2.2.2.2 0) ((par 0).2.2.2.2.2.2 jb)) (par 0).2.2.1 (par 0).1 i).2.2.1) dX4_book_82 inB0 rfl qw_100 rfl (by decide) (k_ewe h30) (f_ewe h30 h08) rfl 85 rfl ?_
    refine v_i2l dX4_book_85 86 rfl ?_
    refine v_callV (c_X2_put l (by omega) (i := i) (by omega) ((aGo (eBecome ((par 3).2.2.2.2.2.2 0) ((par 0).2.2.2.2.2.2 jb)) (par 0).2.2.1 (par 0).1 i).2.2.1 : Int32).toInt64) kal_X2_put rfl dX4_book_86 qw_620 qw_621 qw_622 rfl (k_she (by omega)) (f_she (by omega)) (by decide) [] (Nat.le_of_ble_eq_true rfl) rfl rfl 89 rfl ?_
    refine v_aload_n dX4_book_89 1 rfl 90 rfl ?_
    refine v_iload dX4_book_90 0 rfl 92 rfl ?_
    refine v_iconst dX4_book_92 1 rfl 93 rfl ?_
    refine v_callV (c_X4_passAloneFrom l (by first | omega | (dsimp only; omega))) kal_X4_passAloneFrom rfl dX4_book_93 qw_418 qw_420 qw_3 rfl (by decide) (cel_obj G _) (by decide) [] (Nat.le_of_ble_eq_true rfl) rfl rfl 96 rfl ?_
    refine v_iinc dX4_book_96 0 rfl (nI (i + 1)) (nI_1 _) (by decide) [(4, .int (nI (i + 1))), (0, .ref (ga G (0))), (1, .int (nI ja)), (2, .int (nI jb)), (3, .ref (ga G (84 + ja)))] rfl 99 rfl ?_
    refine v_goto dX4_book_99 66 (by decide) ?_
    refine v_w (w2 := ((va_up par 3 ((par 3).1, (par 3).2.1, (par 3).2.2.1, (par 3).2.2.2.1, (par 3).2.2.2.2.1, (par 3).2.2.2.2.2.1, va_up (par 3).2.2.2.2.2.2 0 ((aGo (eBecome ((par 3).2.2.2.2.2.2 0) ((par 0).2.2.2.2.2.2 jb)) (par 0).2.2.1 (par 0).1 (i + 1)).1, (aGo (eBecome ((par 3).2.2.2.2.2.2 0) ((par 0).2.2.2.2.2.2 jb)) (par 0).2.2.1 (par 0).1 (i + 1)).2.1, (aGo (eBecome ((par 3).2.2.2.2.2.2 0) ((par 0).2.2.2.2.2.2 jb)) (par 0).2.2.1 (par 0).1 (i + 1)).2.2.1, (aGo (eBecome ((par 3).2.2.2.2.2.2 0) ((par 0).2.2.2.2.2.2 jb)) (par 0).2.2.1 (par 0).1 (i + 1)).2.2.2)), tp, va_up sh ja ((bkC (sh ja).1 (sh ja).2.2 (eBecome ((par 3).2.2.2.2.2.2 0) ((par 0).2.2.2.2.2.2 jb)) (par 0).2.2.1 (par 0).1 (i + 1)), (sh ja).2.1, (sh ja).2.2), tl, hi), M)) (rfl) ?_
    exact ih (i + 1) (by omega) hk
set_option maxHeartbeats 1000000 in
set_option maxRecDepth 4000 in
theorem c_X4_book (l : Launch) {G : Gl} {K : CS} {M : MS} (hsz : (K.1 0).2.1 ≤ 8) (hmo : (K.1 0).1 < 2 ^ 20) (hz : ∀ s, s < 4 → (K.2.2.1 s).2.1 ≤ 40) (a b : Int32) : Ct l G yX4_book cX4_book 5 (some .int) 4 92 [.ref (ga G (0)), .int a, .int b] (K, M) (some (.int (cBook K a b).1)) ((cBook K a b).2, M) := by
  obtain ⟨par, tp, sh, tl, hi⟩ := K
  dsimp only at hsz hmo hz
  refine Ct.of (own := RX4) (by decide) rfl (Nat.le_of_ble_eq_true rfl) rfl (fun X => ?_)
  refine v_iload_n dX4_book_0 1 rfl 1 rfl ?_
  refine v_callS (c_X4_isSheet l a) kal_X4_isSheet rfl dX4_book_1 qw_602 qw_603 (by decide) [] (Nat.le_of_ble_eq_true rfl) rfl rfl 4 rfl ?_
  refine v_ifb_ne dX4_book_4 13 (by decide) 7 rfl (fun c1 => ?_) (fun c1 => ?_)
  · skip
    obtain ⟨ja, h1ja, h2ja, rfl⟩ := inb_ix (lo := 0) (hi := 3) c1
    have eja : (nI ja).toNatClampNeg = ja := nI_clamp (by omega)
    have hzja := hz ja (by omega)
    refine v_aload_n dX4_book_13 0 rfl 14 rfl ?_
    refine v_get (i := 5) (ci := 4) (T := TX4) (C := RX4) (N := 8) (v := .ref (ga G (83))) dX4_book_14 inB4 rfl qw_201 rfl (by decide) (by decide) (cel_obj G _) rfl 17 rfl ?_
    refine v_iload_n dX4_book_17 1 rfl 18 rfl ?_
    refine v_aaldS dX4_book_18 (by decide) (cel_shs G _) ja rfl (by omega) (by decide) rfl 19 rfl ?_
    refine v_astore_n dX4_book_19 3 rfl (by decide) [(3, .ref (ga G (84 + ja))), (0, .ref (ga G (0))), (1, .int (nI ja)), (2, .int b)] rfl 20 rfl ?_
    refine v_aload_n dX4_book_20 0 rfl 21 rfl ?_
    refine v_w (w2 := ((par, tp, va_up sh ja ((sh ja).1, (sh ja).2.1, (sh ja).2.2), tl, hi), M)) (congrArg (fun z => ((par, tp, z, tl, hi), M)) (va_up_i sh ja).symm) ?_
    refine v_callV (c_X2_isMissing l (by omega)) kal_X2_isMissing rfl dX4_book_21 qw_616 qw_617 qw_618 rfl (k_she (by omega)) (f_she (by omega)) (by decide) [] (Nat.le_of_ble_eq_true rfl) rfl rfl 24 rfl ?_
    refine v_w (w2 := ((par, tp, sh, tl, hi), M)) (congrArg (fun z => ((par, tp, z, tl, hi), M)) (va_up_i sh ja)) ?_
    refine v_ifb_eq dX4_book_24 33 (by decide) 27 rfl (fun c2 => ?_) (fun c2 => ?_)
    · skip
      have dc2 := of_decide_eq_false c2
      refine v_aload_n dX4_book_33 1 rfl 34 rfl ?_
      refine v_iload_n dX4_book_34 3 rfl 35 rfl ?_
      refine v_callV (c_X4_isEwe l (K := (par, tp, sh, tl, hi)) (by first | exact hsz | assumption) b) kal_X4_isEwe rfl dX4_book_35 qw_285 qw_287 qw_1 rfl (by decide) (cel_obj G _) (by decide) [] (Nat.le_of_ble_eq_true rfl) rfl rfl 38 rfl ?_
      refine v_topi (b2 (inE (par 0).2.1 b)) rfl ?_
      refine v_w (w2 := ((par, tp, sh, tl, hi), M)) rfl ?_
      refine v_ifb_ne dX4_book_38 47 (by decide) 41 rfl (fun c3 => ?_) (fun c3 => ?_)
      · skip
        obtain ⟨jb, h2jb, rfl⟩ := inE_ix c3
        have ejb : (nI jb).toNatClampNeg = jb := nI_clamp (by omega)
        refine v_aload_n dX4_book_47 1 rfl 48 rfl ?_
        refine v_get (i := 3) (ci := 4) (T := TX4) (C := RX4) (N := 8) (v := .ref (ga G (31 + (8 * 3 + 0)))) dX4_book_48 inB4 rfl qw_199 rfl (by decide) (by decide) (cel_obj G _) rfl 51 rfl ?_
        refine v_aload_n dX4_book_51 1 rfl 52 rfl ?_
        refine v_get (i := 0) (ci := 4) (T := TX4) (C := RX4) (N := 8) (v := .ref (ga G (1 + 0))) dX4_book_52 inB4 rfl qw_196 rfl (by decide) (by decide) (cel_obj G _) rfl 55 rfl ?_
        refine v_get (i := 5) (ci := 1) (T := TX1) (C := RX1) (N := 7) (v := .ref (ga G (13 + 0))) dX4_book_55 inB1 rfl qw_128 rfl (by decide) (k_par h03) (cel_par G _ h03) rfl 58 rfl ?_
        refine v_iload_n dX4_book_58 3 rfl 59 rfl ?_
        refine v_aaldE dX4_book_59 (k_ews h03) (cel_ews G _ h03) jb rfl (by omega) (by decide) rfl 60 rfl ?_
        refine v_w (w2 := ((va_up par 3 ((par 3).1, (par 3).2.1, (par 3).2.2.1, (par 3).2.2.2.1, (par 3).2.2.2.2.1, (par 3).2.2.2.2.2.1, (par 3).2.2.2.2.2.2), tp, sh, tl, hi), M)) (congrArg (fun z => ((z, tp, sh, tl, hi), M)) (va_up_i par 3).symm) ?_
        refine v_w (w2 := ((va_up par 3 ((par 3).1, (par 3).2.1, (par 3).2.2.1, (par 3).2.2.2.1, (par 3).2.2.2.2.1, (par 3).2.2.2.2.2.1, va_up (par 3).2.2.2.2.2.2 0 (((par 3).2.2.2.2.2.2 0).1, ((par 3).2.2.2.2.2.2 0).2.1, ((par 3).2.2.2.2.2.2 0).2.2.1, ((par 3).2.2.2.2.2.2 0).2.2.2)), tp, sh, tl, hi), M)) (congrArg (fun z => ((va_up par 3 ((par 3).1, (par 3).2.1, (par 3).2.2.1, (par 3).2.2.2.1, (par 3).2.2.2.2.1, (par 3).2.2.2.2.2.1, z), tp, sh, tl, hi), M)) (va_up_i (par 3).2.2.2.2.2.2 0).symm) ?_
        refine v_callV (c_X0_become l h30 h08 (q := 0) (d := jb) (by omega) (by omega) (by decide)) kal_X0_become rfl dX4_book_60 qw_407 qw_408 qw_409 rfl (k_ewe h30) (f_ewe h30 h08) (by decide) [] (Nat.le_of_ble_eq_true rfl) rfl rfl 63 rfl ?_
        refine v_iconst dX4_book_63 0 rfl 64 rfl ?_
        refine v_istore dX4_book_64 (by decide) [(4, .int 0), (3, .ref (ga G (84 + ja))), (0, .ref (ga G (0))), (1, .int (nI ja)), (2, .int (nI jb))] rfl 66 rfl ?_
        refine v_w (w2 := ((va_up par 3 ((par 3).1, (par 3).2.1, (par 3).2.2.1, (par 3).2.2.2.1, (par 3).2.2.2.2.1, (par 3).2.2.2.2.2.1, va_up (par 3).2.2.2.2.2.2 0 ((eBecome (((par 3).2.2.2.2.2.2 0).1, ((par 3).2.2.2.2.2.2 0).2.1, ((par 3).2.2.2.2.2.2 0).2.2.1, ((par 3).2.2.2.2.2.2 0).2.2.2) ((par 0).2.2.2.2.2.2 jb)).1, (eBecome (((par 3).2.2.2.2.2.2 0).1, ((par 3).2.2.2.2.2.2 0).2.1, ((par 3).2.2.2.2.2.2 0).2.2.1, ((par 3).2.2.2.2.2.2 0).2.2.2) ((par 0).2.2.2.2.2.2 jb)).2.1, (eBecome (((par 3).2.2.2.2.2.2 0).1, ((par 3).2.2.2.2.2.2 0).2.1, ((par 3).2.2.2.2.2.2 0).2.2.1, ((par 3).2.2.2.2.2.2 0).2.2.2) ((par 0).2.2.2.2.2.2 jb)).2.2.1, (eBecome (((par 3).2.2.2.2.2.2 0).1, ((par 3).2.2.2.2.2.2 0).2.1, ((par 3).2.2.2.2.2.2 0).2.2.1, ((par 3).2.2.2.2.2.2 0).2.2.2) ((par 0).2.2.2.2.2.2 jb)).2.2.2)), tp, va_up sh ja ((sh ja).1, (sh ja).2.1, (sh ja).2.2), tl, hi), M)) (congrArg (fun z => ((va_up par 3 ((par 3).1, (par 3).2.1, (par 3).2.2.1, (par 3).2.2.2.1, (par 3).2.2.2.2.1, (par 3).2.2.2.2.2.1, va_up (par 3).2.2.2.2.2.2 0 ((eBecome (((par 3).2.2.2.2.2.2 0).1, ((par 3).2.2.2.2.2.2 0).2.1, ((par 3).2.2.2.2.2.2 0).2.2.1, ((par 3).2.2.2.2.2.2 0).2.2.2) ((par 0).2.2.2.2.2.2 jb)).1, (eBecome (((par 3).2.2.2.2.2.2 0).1, ((par 3).2.2.2.2.2.2 0).2.1, ((par 3).2.2.2.2.2.2 0).2.2.1, ((par 3).2.2.2.2.2.2 0).2.2.2) ((par 0).2.2.2.2.2.2 jb)).2.1, (eBecome (((par 3).2.2.2.2.2.2 0).1, ((par 3).2.2.2.2.2.2 0).2.1, ((par 3).2.2.2.2.2.2 0).2.2.1, ((par 3).2.2.2.2.2.2 0).2.2.2) ((par 0).2.2.2.2.2.2 jb)).2.2.1, (eBecome (((par 3).2.2.2.2.2.2 0).1, ((par 3).2.2.2.2.2.2 0).2.1, ((par 3).2.2.2.2.2.2 0).2.2.1, ((par 3).2.2.2.2.2.2 0).2.2.2) ((par 0).2.2.2.2.2.2 jb)).2.2.2)), tp, z, tl, hi), M)) (va_up_i sh ja).symm) ?_
        refine v_pick [0, 2, 3, 4, 1] [(4, .int 0), (0, .ref (ga G (0))), (1, .int (nI ja)), (2, .int (nI jb)), (3, .ref (ga G (84 + ja)))] rfl ?_
        refine lp_cbook l (ja := ja) (jb := jb) (by omega) (by omega) hzja hmo (sh ja).2.1 0 (by omega) ?_
        refine v_aload_n dX4_book_102 4 rfl 103 rfl ?_
        refine v_get (i := 1) (ci := 2) (T := TX2) (C := RX2) (N := 3) (v := .int (nI (sh ja).2.1)) dX4_book_103 inB2 rfl qw_185 rfl (by decide) (k_she (by omega)) (f_she (by omega)) rfl 106 rfl ?_
        exact v_iret dX4_book_106 (by simp only [cBook, okb, c1, c2, c3, eja, ejb, Bool.and_self, Bool.and_true, Bool.true_and, Bool.and_false, Bool.false_and, if_true, if_false, Bool.false_eq_true, ↓reduceIte] <;> first | rfl | (simp only [kSh, kP, kL, cLone, dc2, eja, ejb, if_true, if_false, ↓reduceIte]; rfl) | (simp [cFind, lF, kSh, kP, kL, va_up_i, dc2, eja, ejb]; done) | (simp [cFind, lF, kSh, kP, kL, va_up_i, dc2, eja, ejb]; rfl)) (by simp only [cBook, okb, c1, c2, c3, eja, ejb, Bool.and_self, Bool.and_true, Bool.true_and, Bool.and_false, Bool.false_and, if_true, if_false, Bool.false_eq_true, ↓reduceIte] <;> first | rfl | (simp only [kSh, kP, kL, cLone, dc2, eja, ejb, if_true, if_false, ↓reduceIte]; rfl) | (simp [cFind, lF, kSh, kP, kL, va_up_i, dc2, eja, ejb]; done) | (simp [cFind, lF, kSh, kP, kL, va_up_i, dc2, eja, ejb]; rfl))
      · skip
        refine v_aload_n dX4_book_41 1 rfl 42 rfl ?_
        refine v_iconst dX4_book_42 0 rfl 43 rfl ?_
        refine v_callV (c_X4_found l (k := 0) (by decide)) kal_X4_found rfl dX4_book_43 qw_234 qw_236 qw_0 rfl (by decide) (cel_obj G _) (by decide) [] (Nat.le_of_ble_eq_true rfl) rfl rfl 46 rfl ?_
        exact v_iret dX4_book_46 (by simp only [cBook, okb, c1, c2, c3, eja, Bool.and_self, Bool.and_true, Bool.true_and, Bool.and_false, Bool.false_and, if_true, if_false, Bool.false_eq_true, ↓reduceIte] <;> first | rfl | (simp only [kSh, kP, kL, cLone, dc2, eja, if_true, if_false, ↓reduceIte]; rfl) | (simp [cFind, lF, kSh, kP, kL, va_up_i, dc2, eja]; done) | (simp [cFind, lF, kSh, kP, kL, va_up_i, dc2, eja]; rfl)) (by simp only [cBook, okb, c1, c2, c3, eja, Bool.and_self, Bool.and_true, Bool.true_and, Bool.and_false, Bool.false_and, if_true, if_false, Bool.false_eq_true, ↓reduceIte] <;> first | rfl | (simp only [kSh, kP, kL, cLone, dc2, eja, if_true, if_false, ↓reduceIte]; rfl) | (simp [cFind, lF, kSh, kP, kL, va_up_i, dc2, eja]; done) | (simp [cFind, lF, kSh, kP, kL, va_up_i, dc2, eja]; rfl))
    · skip
      have dc2 := of_decide_eq_true c2
      refine v_aload_n dX4_book_27 1 rfl 28 rfl ?_
      refine v_iconst dX4_book_28 5 rfl 29 rfl ?_
      refine v_callV (c_X4_found l (k := 5) (by decide)) kal_X4_found rfl dX4_book_29 qw_234 qw_236 qw_0 rfl (by decide) (cel_obj G _) (by decide) [] (Nat.le_of_ble_eq_true rfl) rfl rfl 32 rfl ?_
      exact v_iret dX4_book_32 (by simp only [cBook, okb, c1, c2, eja, Bool.and_self, Bool.and_true, Bool.true_and, Bool.and_false, Bool.false_and, if_true, if_false, Bool.false_eq_true, ↓reduceIte] <;> first | rfl | (simp only [kSh, kP, kL, cLone, dc2, eja, if_true, if_false, ↓reduceIte]; rfl) | (simp [cFind, lF, kSh, kP, kL, va_up_i, dc2, eja]; done) | (simp [cFind, lF, kSh, kP, kL, va_up_i, dc2, eja]; rfl)) (by simp only [cBook, okb, c1, c2, eja, Bool.and_self, Bool.and_true, Bool.true_and, Bool.and_false, Bool.false_and, if_true, if_false, Bool.false_eq_true, ↓reduceIte] <;> first | rfl | (simp only [kSh, kP, kL, cLone, dc2, eja, if_true, if_false, ↓reduceIte]; rfl) | (simp [cFind, lF, kSh, kP, kL, va_up_i, dc2, eja]; done) | (simp [cFind, lF, kSh, kP, kL, va_up_i, dc2, eja]; rfl))
  · skip
    refine v_aload_n dX4_book_7 0 rfl 8 rfl ?_
    refine v_iconst dX4_book_8 0 rfl 9 rfl ?_
    refine v_callV (c_X4_found l (k := 0) (by decide)) kal_X4_found rfl dX4_book_9 qw_234 qw_236 qw_0 rfl (by decide) (cel_obj G _) (by decide) [] (Nat.le_of_ble_eq_true rfl) rfl rfl 12 rfl ?_
    exact v_iret dX4_book_12 (by simp only [cBook, okb, c1, Bool.and_self, Bool.and_true, Bool.true_and, Bool.and_false, Bool.false_and, if_true, if_false, Bool.false_eq_true, ↓reduceIte] <;> first | rfl | (simp only [kSh, kP, kL, cLone, true_and, if_true, if_false, ↓reduceIte]; rfl) | (simp [cFind, lF, kSh, kP, kL, va_up_i, true_and]; done) | (simp [cFind, lF, kSh, kP, kL, va_up_i, true_and]; rfl)) (by simp only [cBook, okb, c1, Bool.and_self, Bool.and_true, Bool.true_and, Bool.and_false, Bool.false_and, if_true, if_false, Bool.false_eq_true, ↓reduceIte] <;> first | rfl | (simp only [kSh, kP, kL, cLone, true_and, if_true, if_false, ↓reduceIte]; rfl) | (simp [cFind, lF, kSh, kP, kL, va_up_i, true_and]; done) | (simp [cFind, lF, kSh, kP, kL, va_up_i, true_and]; rfl))
set_option maxHeartbeats 1000000 in
set_option maxRecDepth 4000 in
theorem lp_cread1 (l : Launch) {G : Gl} {X : VX} {ov : Option Value} {wF : WS} {par : Nat → Pa} {tp : Tp} {sh : Nat → Sh} {tl : Nat → Int32} {hi : Int32} {M : MS} {ja jb : Nat} (hja : ja < 4) (hjb : jb < 8) (hzja : (sh ja).2.1 ≤ 40) (hmo : (par 0).1 < 2 ^ 20) {k9 : Nat} (s0 : Ew × Int32) : ∀ n i : Nat, i + n = 100 → V l X 5 114 cX4_read 7 RX4 (some .int) G ov wF ((va_up par 3 ((par 3).1, (par 3).2.1, (par 3).2.2.1, (par 3).2.2.2.1, (par 3).2.2.2.2.1, (par 3).2.2.2.2.2.1, va_up (par 3).2.2.2.2.2.2 0 ((rdI (sh ja).1 (sh ja).2.1 ((par 0).2.2.2.2.2.2 jb) (par 0).2.2.1 (par 0).1 k9 s0 100).1.1, (rdI (sh ja).1 (sh ja).2.1 ((par 0).2.2.2.2.2.2 jb) (par 0).2.2.1 (par 0).1 k9 s0 100).1.2.1, (rdI (sh ja).1 (sh ja).2.1 ((par 0).2.2.2.2.2.2 jb) (par 0).2.2.1 (par 0).1 k9 s0 100).1.2.2.1, (rdI (sh ja).1 (sh ja).2.1 ((par 0).2.2.2.2.2.2 jb) (par 0).2.2.1 (par 0).1 k9 s0 100).1.2.2.2)), tp, sh, tl, hi), M) 121 [(6, .int (nI 100)), (4, .int (rdI (sh ja).1 (sh ja).2.1 ((par 0).2.2.2.2.2.2 jb) (par 0).2.2.1 (par 0).1 k9 s0 100).2), (5, .int (nI k9)), (0, .ref (ga G (0))), (1, .int (nI ja)), (2, .int (nI jb)), (3, .ref (ga G (84 + ja)))] [] → V l X 5 114 cX4_read 7 RX4 (some .int) G ov wF ((va_up par 3 ((par 3).1, (par 3).2.1, (par 3).2.2.1, (par 3).2.2.2.1, (par 3).2.2.2.2.1, (par 3).2.2.2.2.2.1, va_up (par 3).2.2.2.2.2.2 0 ((rdI (sh ja).1 (sh ja).2.1 ((par 0).2.2.2.2.2.2 jb) (par 0).2.2.1 (par 0).1 k9 s0 i).1.1, (rdI (sh ja).1 (sh ja).2.1 ((par 0).2.2.2.2.2.2 jb) (par 0).2.2.1 (par 0).1 k9 s0 i).1.2.1, (rdI (sh ja).1 (sh ja).2.1 ((par 0).2.2.2.2.2.2 jb) (par 0).2.2.1 (par 0).1 k9 s0 i).1.2.2.1, (rdI (sh ja).1 (sh ja).2.1 ((par 0).2.2.2.2.2.2 jb) (par 0).2.2.1 (par 0).1 k9 s0 i).1.2.2.2)), tp, sh, tl, hi), M) 63 [(6, .int (nI i)), (4, .int (rdI (sh ja).1 (sh ja).2.1 ((par 0).2.2.2.2.2.2 jb) (par 0).2.2.1 (par 0).1 k9 s0 i).2), (5, .int (nI k9)), (0, .ref (ga G (0))), (1, .int (nI ja)), (2, .int (nI jb)), (3, .ref (ga G (84 + ja)))] [] := by
  intro n
  induction n with
  | zero =>
    intro i hin hk
    obtain rfl : 100 = i := by omega
    refine v_iload dX4_read_63 0 rfl 65 rfl ?_
    refine v_bipush dX4_read_65 99 rfl 67 rfl ?_
    refine n_icmp_gt dX4_read_67 100 99 rfl rfl (by omega) (by omega) 121 (by decide) 70 rfl (fun c1 => ?_) (fun c1 => absurd c1 (by omega))
    exact hk
  | succ n ih =>
    intro i hin hk
    refine v_iload dX4_read_63 0 rfl 65 rfl ?_
    refine v_bipush dX4_read_65 99 rfl 67 rfl ?_
    refine n_icmp_gt dX4_read_67 i 99 rfl rfl (by omega) (by omega) 121 (by decide) 70 rfl (fun c1 => absurd c1 (by omega)) (fun c1 => ?_)
    refine v_aload_n dX4_read_70 3 rfl 71 rfl ?_
    refine v_get (i := 3) (ci := 4) (T := TX4) (C := RX4) (N := 8) (v := .ref (ga G (31 + (8 * 3 + 0)))) dX4_read_71 inB4 rfl qw_199 rfl (by decide) (by decide) (cel_obj G _) rfl 74 rfl ?_
    refine v_aload_n dX4_read_74 3 rfl 75 rfl ?_
    refine v_get (i := 0) (ci := 4) (T := TX4) (C := RX4) (N := 8) (v := .ref (ga G (1 + 0))) dX4_read_75 inB4 rfl qw_196 rfl (by decide) (by decide) (cel_obj G _) rfl 78 rfl ?_
    refine v_get (i := 5) (ci := 1) (T := TX1) (C := RX1) (N := 7) (v := .ref (ga G (13 + 0))) dX4_read_78 inB1 rfl qw_128 rfl (by decide) (k_par h03) (cel_par G _ h03) rfl 81 rfl ?_
    refine v_iload_n dX4_read_81 5 rfl 82 rfl ?_
    refine v_aaldE dX4_read_82 (k_ews h03) (cel_ews G _ h03) jb rfl (by omega) (by decide) rfl 83 rfl ?_
    refine v_callV (c_X0_become l h30 h08 (q := 0) (d := jb) (by omega) (by omega) (by decide)) kal_X0_become rfl dX4_read_83 qw_407 qw_408 qw_409 rfl (k_ewe h30) (f_ewe h30 h08) (by decide) [] (Nat.le_of_ble_eq_true rfl) rfl rfl 86 rfl ?_
    refine v_aload_n dX4_read_86 3 rfl 87 rfl ?_
    refine v_get (i := 3) (ci := 4) (T := TX4) (C := RX4) (N := 8) (v := .ref (ga G (31 + (8 * 3 + 0)))) dX4_read_87 inB4 rfl qw_199 rfl (by decide) (by decide) (cel_obj G _) rfl 90 rfl ?_
    refine v_iload dX4_read_90 2 rfl 92 rfl ?_
    refine v_put (i := 0) (ci := 0) (T := TX0) (C := RX0) (N := 4) (ty := .int) (w2 := ((va_up par 3 ((par 3).1, (par 3).2.1, (par 3).2.2.1, (par 3).2.2.2.1, (par 3).2.2.2.2.1, (par 3).2.2.2.2.2.1, va_up (par 3).2.2.2.2.2.2 0 ((nI k9), (eBecome ((rdI (sh ja).1 (sh ja).2.1 ((par 0).2.2.2.2.2.2 jb) (par 0).2.2.1 (par 0).1 k9 s0 i).1.1, (rdI (sh ja).1 (sh ja).2.1 ((par 0).2.2.2.2.2.2 jb) (par 0).2.2.1 (par 0).1 k9 s0 i).1.2.1, (rdI (sh ja).1 (sh ja).2.1 ((par 0).2.2.2.2.2.2 jb) (par 0).2.2.1 (par 0).1 k9 s0 i).1.2.2.1, (rdI (sh ja).1 (sh ja).2.1 ((par 0).2.2.2.2.2.2 jb) (par 0).2.2.1 (par 0).1 k9 s0 i).1.2.2.2) ((par 0).2.2.2.2.2.2 jb)).2.1, (eBecome ((rdI (sh ja).1 (sh ja).2.1 ((par 0).2.2.2.2.2.2 jb) (par 0).2.2.1 (par 0).1 k9 s0 i).1.1, (rdI (sh ja).1 (sh ja).2.1 ((par 0).2.2.2.2.2.2 jb) (par 0).2.2.1 (par 0).1 k9 s0 i).1.2.1, (rdI (sh ja).1 (sh ja).2.1 ((par 0).2.2.2.2.2.2 jb) (par 0).2.2.1 (par 0).1 k9 s0 i).1.2.2.1, (rdI (sh ja).1 (sh ja).2.1 ((par 0).2.2.2.2.2.2 jb) (par 0).2.2.1 (par 0).1 k9 s0 i).1.2.2.2) ((par 0).2.2.2.2.2.2 jb)).2.2.1, (eBecome ((rdI (sh ja).1 (sh ja).2.1 ((par 0).2.2.2.2.2.2 jb) (par 0).2.2.1 (par 0).1 k9 s0 i).1.1, (rdI (sh ja).1 (sh ja).2.1 ((par 0).2.2.2.2.2.2 jb) (par 0).2.2.1 (par 0).1 k9 s0 i).1.2.1, (rdI (sh ja).1 (sh ja).2.1 ((par 0).2.2.2.2.2.2 jb) (par 0).2.2.1 (par 0).1 k9 s0 i).1.2.2.1, (rdI (sh ja).1 (sh ja).2.1 ((par 0).2.2.2.2.2.2 jb) (par 0).2.2.1 (par 0).1 k9 s0 i).1.2.2.2) ((par 0).2.2.2.2.2.2 jb)).2.2.2)), tp, sh, tl, hi), M)) dX4_read_92 inB0 tyX0 tyX0_ok nmX0 rfl qw_95 rfl rfl rfl rfl rfl (by decide) (k_ewe h30) (f_ewe h30 h08) (Nat.le_of_ble_eq_true rfl) (u_E h30 h08) 95 rfl ?_
    refine v_aload_n dX4_read_95 3 rfl 96 rfl ?_
    refine v_get (i := 3) (ci := 4) (T := TX4) (C := RX4) (N := 8) (v := .ref (ga G (31 + (8 * 3 + 0)))) dX4_read_96 inB4 rfl qw_199 rfl (by decide) (by decide) (cel_obj G _) rfl 99 rfl ?_
    refine v_iload dX4_read_99 0 rfl 101 rfl ?_
    refine v_put (i := 1) (ci := 0) (T := TX0) (C := RX0) (N := 4) (ty := .int) (w2 := ((va_up par 3 ((par 3).1, (par 3).2.1, (par 3).2.2.1, (par 3).2.2.2.1, (par 3).2.2.2.2.1, (par 3).2.2.2.2.2.1, va_up (par 3).2.2.2.2.2.2 0 ((nI k9), (nI i), (eBecome ((rdI (sh ja).1 (sh ja).2.1 ((par 0).2.2.2.2.2.2 jb) (par 0).2.2.1 (par 0).1 k9 s0 i).1.1, (rdI (sh ja).1 (sh ja).2.1 ((par 0).2.2.2.2.2.2 jb) (par 0).2.2.1 (par 0).1 k9 s0 i).1.2.1, (rdI (sh ja).1 (sh ja).2.1 ((par 0).2.2.2.2.2.2 jb) (par 0).2.2.1 (par 0).1 k9 s0 i).1.2.2.1, (rdI (sh ja).1 (sh ja).2.1 ((par 0).2.2.2.2.2.2 jb) (par 0).2.2.1 (par 0).1 k9 s0 i).1.2.2.2) ((par 0).2.2.2.2.2.2 jb)).2.2.1, (eBecome ((rdI (sh ja).1 (sh ja).2.1 ((par 0).2.2.2.2.2.2 jb) (par 0).2.2.1 (par 0).1 k9 s0 i).1.1, (rdI (sh ja).1 (sh ja).2.1 ((par 0).2.2.2.2.2.2 jb) (par 0).2.2.1 (par 0).1 k9 s0 i).1.2.1, (rdI (sh ja).1 (sh ja).2.1 ((par 0).2.2.2.2.2.2 jb) (par 0).2.2.1 (par 0).1 k9 s0 i).1.2.2.1, (rdI (sh ja).1 (sh ja).2.1 ((par 0).2.2.2.2.2.2 jb) (par 0).2.2.1 (par 0).1 k9 s0 i).1.2.2.2) ((par 0).2.2.2.2.2.2 jb)).2.2.2)), tp, sh, tl, hi), M)) dX4_read_101 inB0 tyX0 tyX0_ok nmX0 rfl qw_98 rfl rfl rfl rfl rfl (by decide) (k_ewe h30) (f_ewe h30 h08) (Nat.le_of_ble_eq_true rfl) (u_E h30 h08) 104 rfl ?_
    refine v_aload_n dX4_read_104 3 rfl 105 rfl ?_
    refine v_aload_n dX4_read_105 6 rfl 106 rfl ?_
    refine v_callV (c_X4_growsAsTold l (ja := ja) (by omega) hzja hmo) kal_X4_growsAsTold rfl dX4_read_106 qw_647 qw_649 qw_13 rfl (by decide) (cel_obj G _) (by decide) [] (Nat.le_of_ble_eq_true rfl) rfl rfl 109 rfl ?_
    refine v_ifb_eq dX4_read_109 115 (by decide) 112 rfl (fun c2 => ?_) (fun c2 => ?_)
    · skip
      refine v_iinc dX4_read_115 0 rfl (nI (i + 1)) (nI_1 _) (by decide) [(6, .int (nI (i + 1))), (4, .int (rdI (sh ja).1 (sh ja).2.1 ((par 0).2.2.2.2.2.2 jb) (par 0).2.2.1 (par 0).1 k9 s0 i).2), (5, .int (nI k9)), (0, .ref (ga G (0))), (1, .int (nI ja)), (2, .int (nI jb)), (3, .ref (ga G (84 + ja)))] rfl 118 rfl ?_
      refine v_goto dX4_read_118 63 (by decide) ?_
      have e91 : (rdI (sh ja).1 (sh ja).2.1 ((par 0).2.2.2.2.2.2 jb) (par 0).2.2.1 (par 0).1 k9 s0 i).2 = (rdI (sh ja).1 (sh ja).2.1 ((par 0).2.2.2.2.2.2 jb) (par 0).2.2.1 (par 0).1 k9 s0 (i + 1)).2 := by simp [rdI, rdA, c2]
      refine v_ls (ls2 := [(6, .int (nI (i + 1))), (4, .int (rdI (sh ja).1 (sh ja).2.1 ((par 0).2.2.2.2.2.2 jb) (par 0).2.2.1 (par 0).1 k9 s0 (i + 1)).2), (5, .int (nI k9)), (0, .ref (ga G (0))), (1, .int (nI ja)), (2, .int (nI jb)), (3, .ref (ga G (84 + ja)))]) (by simp only [List.cons.injEq, Prod.mk.injEq, Value.int.injEq, true_and, and_true, and_self]; exact e91) ?_
      refine v_w (w2 := ((va_up par 3 ((par 3).1, (par 3).2.1, (par 3).2.2.1, (par 3).2.2.2.1, (par 3).2.2.2.2.1, (par 3).2.2.2.2.2.1, va_up (par 3).2.2.2.2.2.2 0 ((rdI (sh ja).1 (sh ja).2.1 ((par 0).2.2.2.2.2.2 jb) (par 0).2.2.1 (par 0).1 k9 s0 (i + 1)).1.1, (rdI (sh ja).1 (sh ja).2.1 ((par 0).2.2.2.2.2.2 jb) (par 0).2.2.1 (par 0).1 k9 s0 (i + 1)).1.2.1, (rdI (sh ja).1 (sh ja).2.1 ((par 0).2.2.2.2.2.2 jb) (par 0).2.2.1 (par 0).1 k9 s0 (i + 1)).1.2.2.1, (rdI (sh ja).1 (sh ja).2.1 ((par 0).2.2.2.2.2.2 jb) (par 0).2.2.1 (par 0).1 k9 s0 (i + 1)).1.2.2.2)), tp, sh, tl, hi), M)) (rfl) ?_
      exact ih (i + 1) (by omega) hk
    · skip
      refine v_iinc dX4_read_112 1 rfl ((rdI (sh ja).1 (sh ja).2.1 ((par 0).2.2.2.2.2.2 jb) (par 0).2.2.1 (par 0).1 k9 s0 i).2 + 1) rfl (by decide) [(4, .int ((rdI (sh ja).1 (sh ja).2.1 ((par 0).2.2.2.2.2.2 jb) (par 0).2.2.1 (par 0).1 k9 s0 i).2 + 1)), (6, .int (nI i)), (5, .int (nI k9)), (0, .ref (ga G (0))), (1, .int (nI ja)), (2, .int (nI jb)), (3, .ref (ga G (84 + ja)))] rfl 115 rfl ?_
      refine v_iinc dX4_read_115 1 rfl (nI (i + 1)) (nI_1 _) (by decide) [(6, .int (nI (i + 1))), (4, .int ((rdI (sh ja).1 (sh ja).2.1 ((par 0).2.2.2.2.2.2 jb) (par 0).2.2.1 (par 0).1 k9 s0 i).2 + 1)), (5, .int (nI k9)), (0, .ref (ga G (0))), (1, .int (nI ja)), (2, .int (nI jb)), (3, .ref (ga G (84 + ja)))] rfl 118 rfl ?_
      refine v_goto dX4_read_118 63 (by decide) ?_
      have e91 : (rdI (sh ja).1 (sh ja).2.1 ((par 0).2.2.2.2.2.2 jb) (par 0).2.2.1 (par 0).1 k9 s0 i).2 + 1 = (rdI (sh ja).1 (sh ja).2.1 ((par 0).2.2.2.2.2.2 jb) (par 0).2.2.1 (par 0).1 k9 s0 (i + 1)).2 := by simp [rdI, rdA, c2]
      refine v_ls (ls2 := [(6, .int (nI (i + 1))), (4, .int (rdI (sh ja).1 (sh ja).2.1 ((par 0).2.2.2.2.2.2 jb) (par 0).2.2.1 (par 0).1 k9 s0 (i + 1)).2), (5, .int (nI k9)), (0, .ref (ga G (0))), (1, .int (nI ja)), (2, .int (nI jb)), (3, .ref (ga G (84 + ja)))]) (by simp only [List.cons.injEq, Prod.mk.injEq, Value.int.injEq, true_and, and_true, and_self]; exact e91) ?_
      refine v_w (w2 := ((va_up par 3 ((par 3).1, (par 3).2.1, (par 3).2.2.1, (par 3).2.2.2.1, (par 3).2.2.2.2.1, (par 3).2.2.2.2.2.1, va_up (par 3).2.2.2.2.2.2 0 ((rdI (sh ja).1 (sh ja).2.1 ((par 0).2.2.2.2.2.2 jb) (par 0).2.2.1 (par 0).1 k9 s0 (i + 1)).1.1, (rdI (sh ja).1 (sh ja).2.1 ((par 0).2.2.2.2.2.2 jb) (par 0).2.2.1 (par 0).1 k9 s0 (i + 1)).1.2.1, (rdI (sh ja).1 (sh ja).2.1 ((par 0).2.2.2.2.2.2 jb) (par 0).2.2.1 (par 0).1 k9 s0 (i + 1)).1.2.2.1, (rdI (sh ja).1 (sh ja).2.1 ((par 0).2.2.2.2.2.2 jb) (par 0).2.2.1 (par 0).1 k9 s0 (i + 1)).1.2.2.2)), tp, sh, tl, hi), M)) (rfl) ?_
      exact ih (i + 1) (by omega) hk
set_option maxHeartbeats 1000000 in
set_option maxRecDepth 4000 in
theorem lp_cread2 (l : Launch) {G : Gl} {X : VX} {ov : Option Value} {wF : WS} {par : Nat → Pa} {tp : Tp} {sh : Nat → Sh} {tl : Nat → Int32} {hi : Int32} {M : MS} {ja jb : Nat} (hja : ja < 4) (hjb : jb < 8) (hzja : (sh ja).2.1 ≤ 40) (hmo : (par 0).1 < 2 ^ 20) : ∀ n i : Nat, i + n = 6 → V l X 5 114 cX4_read 7 RX4 (some .int) G ov wF ((va_up par 3 ((par 3).1, (par 3).2.1, (par 3).2.2.1, (par 3).2.2.2.1, (par 3).2.2.2.2.1, (par 3).2.2.2.2.2.1, va_up (par 3).2.2.2.2.2.2 0 ((rdO (sh ja).1 (sh ja).2.1 ((par 0).2.2.2.2.2.2 jb) (par 0).2.2.1 (par 0).1 ((par 3).2.2.2.2.2.2 0) 6).1.1, (rdO (sh ja).1 (sh ja).2.1 ((par 0).2.2.2.2.2.2 jb) (par 0).2.2.1 (par 0).1 ((par 3).2.2.2.2.2.2 0) 6).1.2.1, (rdO (sh ja).1 (sh ja).2.1 ((par 0).2.2.2.2.2.2 jb) (par 0).2.2.1 (par 0).1 ((par 3).2.2.2.2.2.2 0) 6).1.2.2.1, (rdO (sh ja).1 (sh ja).2.1 ((par 0).2.2.2.2.2.2 jb) (par 0).2.2.1 (par 0).1 ((par 3).2.2.2.2.2.2 0) 6).1.2.2.2)), tp, sh, tl, hi), M) 127 [(5, .int (nI 6)), (4, .int (rdO (sh ja).1 (sh ja).2.1 ((par 0).2.2.2.2.2.2 jb) (par 0).2.2.1 (par 0).1 ((par 3).2.2.2.2.2.2 0) 6).2), (0, .ref (ga G (0))), (1, .int (nI ja)), (2, .int (nI jb)), (3, .ref (ga G (84 + ja)))] [] → V l X 5 114 cX4_read 7 RX4 (some .int) G ov wF ((va_up par 3 ((par 3).1, (par 3).2.1, (par 3).2.2.1, (par 3).2.2.2.1, (par 3).2.2.2.2.1, (par 3).2.2.2.2.2.1, va_up (par 3).2.2.2.2.2.2 0 ((rdO (sh ja).1 (sh ja).2.1 ((par 0).2.2.2.2.2.2 jb) (par 0).2.2.1 (par 0).1 ((par 3).2.2.2.2.2.2 0) i).1.1, (rdO (sh ja).1 (sh ja).2.1 ((par 0).2.2.2.2.2.2 jb) (par 0).2.2.1 (par 0).1 ((par 3).2.2.2.2.2.2 0) i).1.2.1, (rdO (sh ja).1 (sh ja).2.1 ((par 0).2.2.2.2.2.2 jb) (par 0).2.2.1 (par 0).1 ((par 3).2.2.2.2.2.2 0) i).1.2.2.1, (rdO (sh ja).1 (sh ja).2.1 ((par 0).2.2.2.2.2.2 jb) (par 0).2.2.1 (par 0).1 ((par 3).2.2.2.2.2.2 0) i).1.2.2.2)), tp, sh, tl, hi), M) 53 [(5, .int (nI i)), (4, .int (rdO (sh ja).1 (sh ja).2.1 ((par 0).2.2.2.2.2.2 jb) (par 0).2.2.1 (par 0).1 ((par 3).2.2.2.2.2.2 0) i).2), (0, .ref (ga G (0))), (1, .int (nI ja)), (2, .int (nI jb)), (3, .ref (ga G (84 + ja)))] [] := by
  intro n
  induction n with
  | zero =>
    intro i hin hk
    obtain rfl : 6 = i := by omega
    refine v_iload dX4_read_53 0 rfl 55 rfl ?_
    refine v_bipush dX4_read_55 6 rfl 57 rfl ?_
    refine n_icmp_ge dX4_read_57 6 6 rfl rfl (by omega) (by omega) 127 (by decide) 60 rfl (fun c1 => ?_) (fun c1 => absurd c1 (by omega))
    exact hk
  | succ n ih =>
    intro i hin hk
    refine v_iload dX4_read_53 0 rfl 55 rfl ?_
    refine v_bipush dX4_read_55 6 rfl 57 rfl ?_
    refine n_icmp_ge dX4_read_57 i 6 rfl rfl (by omega) (by omega) 127 (by decide) 60 rfl (fun c1 => absurd c1 (by omega)) (fun c1 => ?_)
    refine v_iconst dX4_read_60 0 rfl 61 rfl ?_
    refine v_istore dX4_read_61 (by decide) [(6, .int 0), (5, .int (nI i)), (4, .int (rdO (sh ja).1 (sh ja).2.1 ((par 0).2.2.2.2.2.2 jb) (par 0).2.2.1 (par 0).1 ((par 3).2.2.2.2.2.2 0) i).2), (0, .ref (ga G (0))), (1, .int (nI ja)), (2, .int (nI jb)), (3, .ref (ga G (84 + ja)))] rfl 63 rfl ?_
    refine v_pick [0, 2, 1, 3, 4, 5, 6] [(6, .int 0), (4, .int (rdO (sh ja).1 (sh ja).2.1 ((par 0).2.2.2.2.2.2 jb) (par 0).2.2.1 (par 0).1 ((par 3).2.2.2.2.2.2 0) i).2), (5, .int (nI i)), (0, .ref (ga G (0))), (1, .int (nI ja)), (2, .int (nI jb)), (3, .ref (ga G (84 + ja)))] rfl ?_
    refine lp_cread1 l (ja := ja) (jb := jb) hja hjb hzja hmo (k9 := i) (rdO (sh ja).1 (sh ja).2.1 ((par 0).2.2.2.2.2.2 jb) (par 0).2.2.1 (par 0).1 ((par 3).2.2.2.2.2.2 0) i) 100 0 (by omega) ?_
    refine v_iinc dX4_read_121 2 rfl (nI (i + 1)) (nI_1 _) (by decide) [(5, .int (nI (i + 1))), (6, .int (nI 100)), (4, .int (rdI (sh ja).1 (sh ja).2.1 ((par 0).2.2.2.2.2.2 jb) (par 0).2.2.1 (par 0).1 i (rdO (sh ja).1 (sh ja).2.1 ((par 0).2.2.2.2.2.2 jb) (par 0).2.2.1 (par 0).1 ((par 3).2.2.2.2.2.2 0) i) 100).2), (0, .ref (ga G (0))), (1, .int (nI ja)), (2, .int (nI jb)), (3, .ref (ga G (84 + ja)))] rfl 124 rfl ?_
    refine v_goto dX4_read_124 53 (by decide) ?_
    refine v_pick [0, 2, 3, 4, 5, 6] [(5, .int (nI (i + 1))), (4, .int (rdO (sh ja).1 (sh ja).2.1 ((par 0).2.2.2.2.2.2 jb) (par 0).2.2.1 (par 0).1 ((par 3).2.2.2.2.2.2 0) (i + 1)).2), (0, .ref (ga G (0))), (1, .int (nI ja)), (2, .int (nI jb)), (3, .ref (ga G (84 + ja)))] rfl ?_
    refine v_w (w2 := ((va_up par 3 ((par 3).1, (par 3).2.1, (par 3).2.2.1, (par 3).2.2.2.1, (par 3).2.2.2.2.1, (par 3).2.2.2.2.2.1, va_up (par 3).2.2.2.2.2.2 0 ((rdO (sh ja).1 (sh ja).2.1 ((par 0).2.2.2.2.2.2 jb) (par 0).2.2.1 (par 0).1 ((par 3).2.2.2.2.2.2 0) (i + 1)).1.1, (rdO (sh ja).1 (sh ja).2.1 ((par 0).2.2.2.2.2.2 jb) (par 0).2.2.1 (par 0).1 ((par 3).2.2.2.2.2.2 0) (i + 1)).1.2.1, (rdO (sh ja).1 (sh ja).2.1 ((par 0).2.2.2.2.2.2 jb) (par 0).2.2.1 (par 0).1 ((par 3).2.2.2.2.2.2 0) (i + 1)).1.2.2.1, (rdO (sh ja).1 (sh ja).2.1 ((par 0).2.2.2.2.2.2 jb) (par 0).2.2.1 (par 0).1 ((par 3).2.2.2.2.2.2 0) (i + 1)).1.2.2.2)), tp, sh, tl, hi), M)) (rfl) ?_
    exact ih (i + 1) (by omega) hk
set_option maxHeartbeats 1000000 in
set_option maxRecDepth 4000 in
theorem c_X4_read (l : Launch) {G : Gl} {K : CS} {M : MS} (hsz : (K.1 0).2.1 ≤ 8) (hmo : (K.1 0).1 < 2 ^ 20) (hz : ∀ s, s < 4 → (K.2.2.1 s).2.1 ≤ 40) (a b : Int32) : Ct l G yX4_read cX4_read 7 (some .int) 5 114 [.ref (ga G (0)), .int a, .int b] (K, M) (some (.int (cRead K a b).1)) ((cRead K a b).2, M) := by
  obtain ⟨par, tp, sh, tl, hi⟩ := K
  dsimp only at hsz hmo hz
  refine Ct.of (own := RX4) (by decide) rfl (Nat.le_of_ble_eq_true rfl) rfl (fun X => ?_)
  refine v_iload_n dX4_read_0 1 rfl 1 rfl ?_
  refine v_callS (c_X4_isSheet l a) kal_X4_isSheet rfl dX4_read_1 qw_602 qw_603 (by decide) [] (Nat.le_of_ble_eq_true rfl) rfl rfl 4 rfl ?_
  refine v_ifb_ne dX4_read_4 13 (by decide) 7 rfl (fun c1 => ?_) (fun c1 => ?_)
  · skip
    obtain ⟨ja, h1ja, h2ja, rfl⟩ := inb_ix (lo := 0) (hi := 3) c1
    have eja : (nI ja).toNatClampNeg = ja := nI_clamp (by omega)
    have hzja := hz ja (by omega)
    refine v_aload_n dX4_read_13 0 rfl 14 rfl ?_
    refine v_get (i := 5) (ci := 4) (T := TX4) (C := RX4) (N := 8) (v := .ref (ga G (83))) dX4_read_14 inB4 rfl qw_201 rfl (by decide) (by decide) (cel_obj G _) rfl 17 rfl ?_
    refine v_iload_n dX4_read_17 1 rfl 18 rfl ?_
    refine v_aaldS dX4_read_18 (by decide) (cel_shs G _) ja rfl (by omega) (by decide) rfl 19 rfl ?_
    refine v_astore_n dX4_read_19 3 rfl (by decide) [(3, .ref (ga G (84 + ja))), (0, .ref (ga G (0))), (1, .int (nI ja)), (2, .int b)] rfl 20 rfl ?_
    refine v_aload_n dX4_read_20 0 rfl 21 rfl ?_
    refine v_w (w2 := ((par, tp, va_up sh ja ((sh ja).1, (sh ja).2.1, (sh ja).2.2), tl, hi), M)) (congrArg (fun z => ((par, tp, z, tl, hi), M)) (va_up_i sh ja).symm) ?_
    refine v_callV (c_X2_isMissing l (by omega)) kal_X2_isMissing rfl dX4_read_21 qw_616 qw_617 qw_618 rfl (k_she (by omega)) (f_she (by omega)) (by decide) [] (Nat.le_of_ble_eq_true rfl) rfl rfl 24 rfl ?_
    refine v_w (w2 := ((par, tp, sh, tl, hi), M)) (congrArg (fun z => ((par, tp, z, tl, hi), M)) (va_up_i sh ja)) ?_
    refine v_ifb_eq dX4_read_24 33 (by decide) 27 rfl (fun c2 => ?_) (fun c2 => ?_)
    · skip
      have dc2 := of_decide_eq_false c2
      refine v_aload_n dX4_read_33 1 rfl 34 rfl ?_
      refine v_iload_n dX4_read_34 3 rfl 35 rfl ?_
      refine v_callV (c_X4_isEwe l (K := (par, tp, sh, tl, hi)) (by first | exact hsz | assumption) b) kal_X4_isEwe rfl dX4_read_35 qw_285 qw_287 qw_1 rfl (by decide) (cel_obj G _) (by decide) [] (Nat.le_of_ble_eq_true rfl) rfl rfl 38 rfl ?_
      refine v_topi (b2 (inE (par 0).2.1 b)) rfl ?_
      refine v_w (w2 := ((par, tp, sh, tl, hi), M)) rfl ?_
      refine v_ifb_ne dX4_read_38 47 (by decide) 41 rfl (fun c3 => ?_) (fun c3 => ?_)
      · skip
        obtain ⟨jb, h2jb, rfl⟩ := inE_ix c3
        have ejb : (nI jb).toNatClampNeg = jb := nI_clamp (by omega)
        refine v_iconst dX4_read_47 0 rfl 48 rfl ?_
        refine v_istore dX4_read_48 (by decide) [(4, .int 0), (3, .ref (ga G (84 + ja))), (0, .ref (ga G (0))), (1, .int (nI ja)), (2, .int (nI jb))] rfl 50 rfl ?_
        refine v_iconst dX4_read_50 0 rfl 51 rfl ?_
        refine v_istore dX4_read_51 (by decide) [(5, .int 0), (4, .int 0), (3, .ref (ga G (84 + ja))), (0, .ref (ga G (0))), (1, .int (nI ja)), (2, .int (nI jb))] rfl 53 rfl ?_
        refine v_w (w2 := ((va_up par 3 ((par 3).1, (par 3).2.1, (par 3).2.2.1, (par 3).2.2.2.1, (par 3).2.2.2.2.1, (par 3).2.2.2.2.2.1, (par 3).2.2.2.2.2.2), tp, sh, tl, hi), M)) (congrArg (fun z => ((z, tp, sh, tl, hi), M)) (va_up_i par 3).symm) ?_
        refine v_w (w2 := ((va_up par 3 ((par 3).1, (par 3).2.1, (par 3).2.2.1, (par 3).2.2.2.1, (par 3).2.2.2.2.1, (par 3).2.2.2.2.2.1, va_up (par 3).2.2.2.2.2.2 0 (((par 3).2.2.2.2.2.2 0).1, ((par 3).2.2.2.2.2.2 0).2.1, ((par 3).2.2.2.2.2.2 0).2.2.1, ((par 3).2.2.2.2.2.2 0).2.2.2)), tp, sh, tl, hi), M)) (congrArg (fun z => ((va_up par 3 ((par 3).1, (par 3).2.1, (par 3).2.2.1, (par 3).2.2.2.1, (par 3).2.2.2.2.1, (par 3).2.2.2.2.2.1, z), tp, sh, tl, hi), M)) (va_up_i (par 3).2.2.2.2.2.2 0).symm) ?_
        refine v_pick [0, 1, 3, 4, 5, 2] [(5, .int 0), (4, .int 0), (0, .ref (ga G (0))), (1, .int (nI ja)), (2, .int (nI jb)), (3, .ref (ga G (84 + ja)))] rfl ?_
        refine lp_cread2 l (ja := ja) (jb := jb) (by omega) (by omega) hzja hmo 6 0 (by omega) ?_
        refine v_iload dX4_read_127 1 rfl 129 rfl ?_
        exact v_iret dX4_read_129 (by simp only [cRead, cRd, okb, c1, c2, c3, eja, ejb, Bool.and_self, Bool.and_true, Bool.true_and, Bool.and_false, Bool.false_and, if_true, if_false, Bool.false_eq_true, ↓reduceIte] <;> first | rfl | (simp only [kSh, kP, kL, dc2, eja, ejb, if_true, if_false, ↓reduceIte]; rfl) | (simp [cFind, lF, kSh, kP, kL, va_up_i, dc2, eja, ejb]; done) | (simp [cFind, lF, kSh, kP, kL, va_up_i, dc2, eja, ejb]; rfl)) (by simp only [cRead, cRd, okb, c1, c2, c3, eja, ejb, Bool.and_self, Bool.and_true, Bool.true_and, Bool.and_false, Bool.false_and, if_true, if_false, Bool.false_eq_true, ↓reduceIte] <;> first | rfl | (simp only [kSh, kP, kL, dc2, eja, ejb, if_true, if_false, ↓reduceIte]; rfl) | (simp [cFind, lF, kSh, kP, kL, va_up_i, dc2, eja, ejb]; done) | (simp [cFind, lF, kSh, kP, kL, va_up_i, dc2, eja, ejb]; rfl))
      · skip
        refine v_aload_n dX4_read_41 1 rfl 42 rfl ?_
        refine v_iconst dX4_read_42 0 rfl 43 rfl ?_
        refine v_callV (c_X4_found l (k := 0) (by decide)) kal_X4_found rfl dX4_read_43 qw_234 qw_236 qw_0 rfl (by decide) (cel_obj G _) (by decide) [] (Nat.le_of_ble_eq_true rfl) rfl rfl 46 rfl ?_
        exact v_iret dX4_read_46 (by simp only [cRead, cRd, okb, c1, c2, c3, eja, Bool.and_self, Bool.and_true, Bool.true_and, Bool.and_false, Bool.false_and, if_true, if_false, Bool.false_eq_true, ↓reduceIte] <;> first | rfl | (simp only [kSh, kP, kL, dc2, eja, if_true, if_false, ↓reduceIte]; rfl) | (simp [cFind, lF, kSh, kP, kL, va_up_i, dc2, eja]; done) | (simp [cFind, lF, kSh, kP, kL, va_up_i, dc2, eja]; rfl)) (by simp only [cRead, cRd, okb, c1, c2, c3, eja, Bool.and_self, Bool.and_true, Bool.true_and, Bool.and_false, Bool.false_and, if_true, if_false, Bool.false_eq_true, ↓reduceIte] <;> first | rfl | (simp only [kSh, kP, kL, dc2, eja, if_true, if_false, ↓reduceIte]; rfl) | (simp [cFind, lF, kSh, kP, kL, va_up_i, dc2, eja]; done) | (simp [cFind, lF, kSh, kP, kL, va_up_i, dc2, eja]; rfl))
    · skip
      have dc2 := of_decide_eq_true c2
      refine v_aload_n dX4_read_27 1 rfl 28 rfl ?_
      refine v_iconst dX4_read_28 5 rfl 29 rfl ?_
      refine v_callV (c_X4_found l (k := 5) (by decide)) kal_X4_found rfl dX4_read_29 qw_234 qw_236 qw_0 rfl (by decide) (cel_obj G _) (by decide) [] (Nat.le_of_ble_eq_true rfl) rfl rfl 32 rfl ?_
      exact v_iret dX4_read_32 (by simp only [cRead, cRd, okb, c1, c2, eja, Bool.and_self, Bool.and_true, Bool.true_and, Bool.and_false, Bool.false_and, if_true, if_false, Bool.false_eq_true, ↓reduceIte] <;> first | rfl | (simp only [kSh, kP, kL, dc2, eja, if_true, if_false, ↓reduceIte]; rfl) | (simp [cFind, lF, kSh, kP, kL, va_up_i, dc2, eja]; done) | (simp [cFind, lF, kSh, kP, kL, va_up_i, dc2, eja]; rfl)) (by simp only [cRead, cRd, okb, c1, c2, eja, Bool.and_self, Bool.and_true, Bool.true_and, Bool.and_false, Bool.false_and, if_true, if_false, Bool.false_eq_true, ↓reduceIte] <;> first | rfl | (simp only [kSh, kP, kL, dc2, eja, if_true, if_false, ↓reduceIte]; rfl) | (simp [cFind, lF, kSh, kP, kL, va_up_i, dc2, eja]; done) | (simp [cFind, lF, kSh, kP, kL, va_up_i, dc2, eja]; rfl))
  · skip
    refine v_aload_n dX4_read_7 0 rfl 8 rfl ?_
    refine v_iconst dX4_read_8 0 rfl 9 rfl ?_
    refine v_callV (c_X4_found l (k := 0) (by decide)) kal_X4_found rfl dX4_read_9 qw_234 qw_236 qw_0 rfl (by decide) (cel_obj G _) (by decide) [] (Nat.le_of_ble_eq_true rfl) rfl rfl 12 rfl ?_
    exact v_iret dX4_read_12 (by simp only [cRead, cRd, okb, c1, Bool.and_self, Bool.and_true, Bool.true_and, Bool.and_false, Bool.false_and, if_true, if_false, Bool.false_eq_true, ↓reduceIte] <;> first | rfl | (simp only [kSh, kP, kL, true_and, if_true, if_false, ↓reduceIte]; rfl) | (simp [cFind, lF, kSh, kP, kL, va_up_i, true_and]; done) | (simp [cFind, lF, kSh, kP, kL, va_up_i, true_and]; rfl)) (by simp only [cRead, cRd, okb, c1, Bool.and_self, Bool.and_true, Bool.true_and, Bool.and_false, Bool.false_and, if_true, if_false, Bool.false_eq_true, ↓reduceIte] <;> first | rfl | (simp only [kSh, kP, kL, true_and, if_true, if_false, ↓reduceIte]; rfl) | (simp [cFind, lF, kSh, kP, kL, va_up_i, true_and]; done) | (simp [cFind, lF, kSh, kP, kL, va_up_i, true_and]; rfl))
