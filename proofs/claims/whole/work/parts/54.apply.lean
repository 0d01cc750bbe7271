theorem c_takeItemP (l : Launch) {G : Gl} {par : Nat → Pa} {tp : Tp} {sh : Nat → Sh} {tl : Nat → Int32} {hi : Int32} {M : MS} {P : Pa} (hT : TI tp) (hsz : P.2.1 ≤ 8) : Ct l G yX3_takeItem cX3_takeItem 3 (some .boolean) 7 151 [.ref (ga G (81)), .ref (ga G (1 + 2))] ((va_up par 2 P, tp, sh, tl, hi), M) (some (.int (b2 (tkIt tp P).1))) ((va_up par 2 (tkIt tp P).2.2, (tkIt tp P).2.1, sh, tl, hi), M) := by
  obtain ⟨mo, sz, W, S, R, C, E⟩ := P
  exact c_X3_takeItem l hT hsz
set_option maxHeartbeats 1000000 in
set_option maxRecDepth 4000 in
theorem lp_apply (l : Launch) {G : Gl} {X : VX} {par : Nat → Pa} {sh : Nat → Sh} {tl : Nat → Int32} {hi : Int32} {M : MS} : ∀ (n i : Nat) (T : Tp) (P : Pa), i + n = 121 → TI T → P.2.1 ≤ 8 → V l X 8 173 cX3_applyTo 3 RX3 (some .int) G (some (.int (apR n i T P).1)) ((va_up par 2 (apR n i T P).2.2, (apR n i T P).2.1, sh, tl, hi), M) (((va_up par 2 P), T, sh, tl, hi), M) 11 [(2, .int (nI i)), (0, .ref (ga G (81))), (1, .ref (ga G (1 + 2)))] [] := by
  intro n
  induction n with
  | zero =>
    intro i T P hin hT hsz
    obtain rfl : 121 = i := by omega
    refine v_iload_n dX3_applyTo_11 0 rfl 12 rfl ?_
    refine v_bipush dX3_applyTo_12 120 rfl 14 rfl ?_
    refine n_icmp_gt dX3_applyTo_14 121 120 rfl rfl (by omega) (by omega) 66 (by decide) 17 rfl (fun c1 => ?_) (fun c1 => absurd c1 (by omega))
    refine v_iconst dX3_applyTo_66 (-1) rfl 67 rfl ?_
    refine v_aload_n dX3_applyTo_67 1 rfl 68 rfl ?_
    refine v_get (i := 3) (ci := 3) (T := TX3) (C := RX3) (N := 6) (v := .int (nI T.2.2.2.1)) dX3_applyTo_68 inB3 rfl qw_158 rfl (by decide) (by decide) (cel_tap G _) rfl 71 rfl ?_
    refine v_isub dX3_applyTo_71 72 rfl ?_
    exact v_iret dX3_applyTo_72 (by rfl) (by rfl)
  | succ n ih =>
    intro i T P hin hT hsz
    refine v_iload_n dX3_applyTo_11 0 rfl 12 rfl ?_
    refine v_bipush dX3_applyTo_12 120 rfl 14 rfl ?_
    refine n_icmp_gt dX3_applyTo_14 i 120 rfl rfl (by omega) (by omega) 66 (by decide) 17 rfl (fun c1 => absurd c1 (by omega)) (fun c1 => ?_)
    refine v_aload_n dX3_applyTo_17 1 rfl 18 rfl ?_
    refine v_aload_n dX3_applyTo_18 2 rfl 19 rfl ?_
    refine v_callV (c_takeItemP l hT hsz) kal_X3_takeItem rfl dX3_applyTo_19 qw_500 qw_502 qw_5 rfl (by decide) (cel_tap G _) (by decide) [] (Nat.le_of_ble_eq_true rfl) rfl rfl 22 rfl ?_
    have hTr := TI_it (P := P) hT
    have hszr := sz_it (T := T) hsz
    generalize hr : tkIt T P = r at hTr hszr ⊢
    refine v_ifb_ne dX3_applyTo_22 32 (by decide) 25 rfl (fun c2 => ?_) (fun c2 => ?_)
    · skip
      refine v_aload_n dX3_applyTo_32 1 rfl 33 rfl ?_
      refine v_get (i := 2) (ci := 3) (T := TX3) (C := RX3) (N := 6) (v := .int r.2.1.2.2.1) dX3_applyTo_33 inB3 rfl qw_157 rfl (by decide) (by decide) (cel_tap G _) rfl 36 rfl ?_
      refine v_if_ne dX3_applyTo_36 41 (by decide) 39 rfl (fun c3 => ?_) (fun c3 => ?_)
      · skip
        refine v_aload_n dX3_applyTo_41 1 rfl 42 rfl ?_
        refine v_get (i := 2) (ci := 3) (T := TX3) (C := RX3) (N := 6) (v := .int r.2.1.2.2.1) dX3_applyTo_42 inB3 rfl qw_157 rfl (by decide) (by decide) (cel_tap G _) rfl 45 rfl ?_
        refine v_iconst dX3_applyTo_45 3 rfl 46 rfl ?_
        refine v_icmp_eq dX3_applyTo_46 56 (by decide) 49 rfl (fun c4 => ?_) (fun c4 => ?_)
        · skip
          refine v_aload_n dX3_applyTo_56 1 rfl 57 rfl ?_
          refine v_callV (c_X3_step l hTr.1 hTr.2.2) kal_X3_step rfl dX3_applyTo_57 qw_489 qw_491 qw_4 rfl (by decide) (cel_tap G _) (by decide) [] (Nat.le_of_ble_eq_true rfl) rfl rfl 60 rfl ?_
          refine v_w (w2 := (((va_up par 2 r.2.2), (stepT r.2.1), sh, tl, hi), M)) rfl ?_
          refine v_iinc dX3_applyTo_60 0 rfl (nI (i + 1)) (nI_1 _) (by decide) [(2, .int (nI (i + 1))), (0, .ref (ga G (81))), (1, .ref (ga G (1 + 2)))] rfl 63 rfl ?_
          refine v_goto dX3_applyTo_63 11 (by decide) ?_
          have e9 : apR (n + 1) i T P = apR n (i + 1) (stepT r.2.1) r.2.2 := by rw [apR_s, hr, if_pos c2, if_neg c3, if_pos c4]
          rw [e9]
          exact ih (i + 1) _ _ (by omega) (TI_step hTr) hszr
        · skip
          refine v_iconst dX3_applyTo_49 (-1) rfl 50 rfl ?_
          refine v_aload_n dX3_applyTo_50 1 rfl 51 rfl ?_
          refine v_get (i := 3) (ci := 3) (T := TX3) (C := RX3) (N := 6) (v := .int (nI r.2.1.2.2.2.1)) dX3_applyTo_51 inB3 rfl qw_158 rfl (by decide) (by decide) (cel_tap G _) rfl 54 rfl ?_
          refine v_isub dX3_applyTo_54 55 rfl ?_
          exact v_iret dX3_applyTo_55 (by rw [apR_s, hr]; simp only [c2, c3, Ne.symm c3, c4, Ne.symm c4, if_true, if_false, Bool.false_eq_true, ↓reduceIte] <;> rfl) (by rw [apR_s, hr]; simp only [c2, c3, Ne.symm c3, c4, Ne.symm c4, if_true, if_false, Bool.false_eq_true, ↓reduceIte] <;> rfl)
      · skip
        refine v_iload_n dX3_applyTo_39 0 rfl 40 rfl ?_
        exact v_iret dX3_applyTo_40 (by rw [apR_s, hr]; simp only [c2, c3, if_true, if_false, Bool.false_eq_true, ↓reduceIte] <;> rfl) (by rw [apR_s, hr]; simp only [c2, c3, if_true, if_false, Bool.false_eq_true, ↓reduceIte] <;> rfl)
    · skip
      refine v_iconst dX3_applyTo_25 (-1) rfl 26 rfl ?_
      refine v_aload_n dX3_applyTo_26 1 rfl 27 rfl ?_
      refine v_get (i := 3) (ci := 3) (T := TX3) (C := RX3) (N := 6) (v := .int (nI r.2.1.2.2.2.1)) dX3_applyTo_27 inB3 rfl qw_158 rfl (by decide) (by decide) (cel_tap G _) rfl 30 rfl ?_
      refine v_isub dX3_applyTo_30 31 rfl ?_
      exact v_iret dX3_applyTo_31 (by rw [apR_s, hr]; simp only [c2, if_true, if_false, Bool.false_eq_true, ↓reduceIte] <;> rfl) (by rw [apR_s, hr]; simp only [c2, if_true, if_false, Bool.false_eq_true, ↓reduceIte] <;> rfl)
set_option maxHeartbeats 1000000 in
set_option maxRecDepth 4000 in
theorem c_X3_applyTo (l : Launch) {G : Gl} {par : Nat → Pa} {tp : Tp} {sh : Nat → Sh} {tl : Nat → Int32} {hi : Int32} {M : MS} {P : Pa} (htz : tp.2.1 ≤ 120) (hsz : P.2.1 ≤ 8) : Ct l G yX3_applyTo cX3_applyTo 3 (some .int) 8 173 [.ref (ga G (81)), .ref (ga G (1 + 2))] (((va_up par 2 P), tp, sh, tl, hi), M) (some (.int (apR 120 1 (stepT (tE0 tp)) P).1)) ((va_up par 2 (apR 120 1 (stepT (tE0 tp)) P).2.2, (apR 120 1 (stepT (tE0 tp)) P).2.1, sh, tl, hi), M) := by
  refine Ct.of (own := RX3) (by decide) rfl (Nat.le_of_ble_eq_true rfl) rfl (fun X => ?_)
  refine v_aload_n dX3_applyTo_0 0 rfl 1 rfl ?_
  refine v_iconst dX3_applyTo_1 0 rfl 2 rfl ?_
  refine v_put (i := 4) (ci := 3) (T := TX3) (C := RX3) (N := 6) (ty := .int) (w2 := (((va_up par 2 P), (tp.1, tp.2.1, tp.2.2.1, tp.2.2.2.1, 0, tp.2.2.2.2.2), sh, tl, hi), M)) dX3_applyTo_2 inB3 tyX3 tyX3_ok nmX3 rfl qw_159 rfl rfl rfl rfl rfl (by decide) (by decide) (cel_tap G _) (Nat.le_of_ble_eq_true rfl) u_tp 5 rfl ?_
  refine v_aload_n dX3_applyTo_5 0 rfl 6 rfl ?_
  refine v_callV (c_X3_step l htz (Nat.zero_le _)) kal_X3_step rfl dX3_applyTo_6 qw_489 qw_491 qw_4 rfl (by decide) (cel_tap G _) (by decide) [] (Nat.le_of_ble_eq_true rfl) rfl rfl 9 rfl ?_
  refine v_w (w2 := (((va_up par 2 P), (stepT (tE0 tp)), sh, tl, hi), M)) rfl ?_
  refine v_iconst dX3_applyTo_9 1 rfl 10 rfl ?_
  refine v_istore_n dX3_applyTo_10 2 rfl (by decide) [(2, .int 1), (0, .ref (ga G (81))), (1, .ref (ga G (1 + 2)))] rfl 11 rfl ?_
  exact lp_apply l 120 1 (stepT (tE0 tp)) P (by decide) (TI_st htz (Nat.zero_le _)) hsz
set_option maxHeartbeats 1000000 in
set_option maxRecDepth 4000 in
theorem c_X4_parish (l : Launch) {G : Gl} {K : CS} {M : MS} (hsz : (K.1 0).2.1 ≤ 8) (htz : K.2.1.2.1 ≤ 120) : Ct l G yX4_parish cX4_parish 2 (some .int) 9 195 [.ref (ga G (0))] (K, M) (some (.int (cParish K).1)) ((cParish K).2, M) := by
  obtain ⟨par, tp, sh, tl, hi⟩ := K
  dsimp only at hsz htz
  refine Ct.of (own := RX4) (by decide) rfl (Nat.le_of_ble_eq_true rfl) rfl (fun X => ?_)
  refine v_aload_n dX4_parish_0 0 rfl 1 rfl ?_
  refine v_get (i := 2) (ci := 4) (T := TX4) (C := RX4) (N := 8) (v := .ref (ga G (1 + 2))) dX4_parish_1 inB4 rfl qw_198 rfl (by decide) (by decide) (cel_obj G _) rfl 4 rfl ?_
  refine v_aload_n dX4_parish_4 0 rfl 5 rfl ?_
  refine v_get (i := 0) (ci := 4) (T := TX4) (C := RX4) (N := 8) (v := .ref (ga G (1 + 0))) dX4_parish_5 inB4 rfl qw_196 rfl (by decide) (by decide) (cel_obj G _) rfl 8 rfl ?_
  refine v_w (w2 := ((va_up par 2 ((par 2).1, (par 2).2.1, (par 2).2.2.1, (par 2).2.2.2.1, (par 2).2.2.2.2.1, (par 2).2.2.2.2.2.1, (par 2).2.2.2.2.2.2), tp, sh, tl, hi), M)) (congrArg (fun z => ((z, tp, sh, tl, hi), M)) (va_up_i par 2).symm) ?_
  refine v_callV (c_X1_become l h23 (q := 0) h03 (by decide) (by first | exact hsz | exact (show r.2.2.2.1 ≤ 8 from hszr))) kal_X1_become rfl dX4_parish_8 qw_428 qw_429 qw_430 rfl (k_par h23) (f_par h23) (by decide) [] (Nat.le_of_ble_eq_true rfl) rfl rfl 11 rfl ?_
  refine v_aload_n dX4_parish_11 0 rfl 12 rfl ?_
  refine v_get (i := 4) (ci := 4) (T := TX4) (C := RX4) (N := 8) (v := .ref (ga G (81))) dX4_parish_12 inB4 rfl qw_200 rfl (by decide) (by decide) (cel_obj G _) rfl 15 rfl ?_
  refine v_aload_n dX4_parish_15 0 rfl 16 rfl ?_
  refine v_get (i := 2) (ci := 4) (T := TX4) (C := RX4) (N := 8) (v := .ref (ga G (1 + 2))) dX4_parish_16 inB4 rfl qw_198 rfl (by decide) (by decide) (cel_obj G _) rfl 19 rfl ?_
  refine v_w (w2 := (((va_up par 2 (pCopy (par 2) (par 0))), tp, sh, tl, hi), M)) rfl ?_
  refine v_callV (c_X3_applyTo l (P := (pCopy (par 2) (par 0))) htz (show (par 0).2.1 ≤ 8 from hsz)) kal_X3_applyTo rfl dX4_parish_19 qw_485 qw_486 qw_487 rfl (by decide) (cel_tap G _) (by decide) [] (Nat.le_of_ble_eq_true rfl) rfl rfl 22 rfl ?_
  have hszr := sz_ap 120 1 (stepT (tE0 tp)) (pCopy (par 2) (par 0)) (show (par 0).2.1 ≤ 8 from hsz)
  generalize hr : apR 120 1 (stepT (tE0 tp)) (pCopy (par 2) (par 0)) = r at hszr ⊢
  refine v_istore_n dX4_parish_22 1 rfl (by decide) [(1, .int r.1), (0, .ref (ga G (0)))] rfl 23 rfl ?_
  refine v_iload_n dX4_parish_23 0 rfl 24 rfl ?_
  refine v_if_lt dX4_parish_24 38 (by decide) 27 rfl (fun c1 => ?_) (fun c1 => ?_)
  · skip
    refine v_aload_n dX4_parish_38 1 rfl 39 rfl ?_
    refine v_get (i := 4) (ci := 4) (T := TX4) (C := RX4) (N := 8) (v := .ref (ga G (81))) dX4_parish_39 inB4 rfl qw_200 rfl (by decide) (by decide) (cel_obj G _) rfl 42 rfl ?_
    refine v_iconst dX4_parish_42 0 rfl 43 rfl ?_
    refine v_put (i := 1) (ci := 3) (T := TX3) (C := RX3) (N := 6) (ty := .int) (w2 := (((va_up par 2 r.2.2), (r.2.1.1, 0, r.2.1.2.2.1, r.2.1.2.2.2.1, r.2.1.2.2.2.2.1, r.2.1.2.2.2.2.2), sh, tl, hi), M)) dX4_parish_43 inB3 tyX3 tyX3_ok nmX3 rfl qw_156 rfl rfl rfl rfl rfl (by decide) (by decide) (cel_tap G _) (Nat.le_of_ble_eq_true rfl) u_tp 46 rfl ?_
    refine v_iload_n dX4_parish_46 0 rfl 47 rfl ?_
    exact v_iret dX4_parish_47 (by simp only [cParish, cPr, apT, hr, c1, Int32.not_le.mpr c1, if_true, if_false, ↓reduceIte] <;> rfl) (by simp only [cParish, cPr, apT, hr, c1, Int32.not_le.mpr c1, if_true, if_false, ↓reduceIte] <;> rfl)
  · skip
    refine v_aload_n dX4_parish_27 1 rfl 28 rfl ?_
    refine v_get (i := 0) (ci := 4) (T := TX4) (C := RX4) (N := 8) (v := .ref (ga G (1 + 0))) dX4_parish_28 inB4 rfl qw_196 rfl (by decide) (by decide) (cel_obj G _) rfl 31 rfl ?_
    refine v_aload_n dX4_parish_31 1 rfl 32 rfl ?_
    refine v_get (i := 2) (ci := 4) (T := TX4) (C := RX4) (N := 8) (v := .ref (ga G (1 + 2))) dX4_parish_32 inB4 rfl qw_198 rfl (by decide) (by decide) (cel_obj G _) rfl 35 rfl ?_
    refine v_w (w2 := ((va_up (va_up par 2 r.2.2) 0 (((va_up par 2 r.2.2) 0).1, ((va_up par 2 r.2.2) 0).2.1, ((va_up par 2 r.2.2) 0).2.2.1, ((va_up par 2 r.2.2) 0).2.2.2.1, ((va_up par 2 r.2.2) 0).2.2.2.2.1, ((va_up par 2 r.2.2) 0).2.2.2.2.2.1, ((va_up par 2 r.2.2) 0).2.2.2.2.2.2), r.2.1, sh, tl, hi), M)) (congrArg (fun z => ((z, r.2.1, sh, tl, hi), M)) (va_up_i (va_up par 2 r.2.2) 0).symm) ?_
    refine v_callV (c_X1_become l h03 (q := 2) h23 (by decide) (by first | exact hsz | exact (show r.2.2.2.1 ≤ 8 from hszr))) kal_X1_become rfl dX4_parish_35 qw_428 qw_429 qw_430 rfl (k_par h03) (f_par h03) (by decide) [] (Nat.le_of_ble_eq_true rfl) rfl rfl 38 rfl ?_
    refine v_aload_n dX4_parish_38 1 rfl 39 rfl ?_
    refine v_get (i := 4) (ci := 4) (T := TX4) (C := RX4) (N := 8) (v := .ref (ga G (81))) dX4_parish_39 inB4 rfl qw_200 rfl (by decide) (by decide) (cel_obj G _) rfl 42 rfl ?_
    refine v_iconst dX4_parish_42 0 rfl 43 rfl ?_
    refine v_put (i := 1) (ci := 3) (T := TX3) (C := RX3) (N := 6) (ty := .int) (w2 := ((va_up (va_up par 2 r.2.2) 0 ((pCopy ((va_up par 2 r.2.2) 0) ((va_up par 2 r.2.2) 2)).1, (pCopy ((va_up par 2 r.2.2) 0) ((va_up par 2 r.2.2) 2)).2.1, (pCopy ((va_up par 2 r.2.2) 0) ((va_up par 2 r.2.2) 2)).2.2.1, (pCopy ((va_up par 2 r.2.2) 0) ((va_up par 2 r.2.2) 2)).2.2.2.1, (pCopy ((va_up par 2 r.2.2) 0) ((va_up par 2 r.2.2) 2)).2.2.2.2.1, (pCopy ((va_up par 2 r.2.2) 0) ((va_up par 2 r.2.2) 2)).2.2.2.2.2.1, (pCopy ((va_up par 2 r.2.2) 0) ((va_up par 2 r.2.2) 2)).2.2.2.2.2.2), (r.2.1.1, 0, r.2.1.2.2.1, r.2.1.2.2.2.1, r.2.1.2.2.2.2.1, r.2.1.2.2.2.2.2), sh, tl, hi), M)) dX4_parish_43 inB3 tyX3 tyX3_ok nmX3 rfl qw_156 rfl rfl rfl rfl rfl (by decide) (by decide) (cel_tap G _) (Nat.le_of_ble_eq_true rfl) u_tp 46 rfl ?_
    refine v_iload_n dX4_parish_46 0 rfl 47 rfl ?_
    exact v_iret dX4_parish_47 (by simp only [cParish, cPr, apT, hr, c1, Int32.not_lt.mp c1, if_true, if_false, ↓reduceIte] <;> rfl) (by simp only [cParish, cPr, apT, hr, c1, Int32.not_lt.mp c1, if_true, if_false, ↓reduceIte] <;> rfl)
