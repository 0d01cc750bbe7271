theorem apR_s (n i : Nat) (T : Tp) (P : Pa) : apR (n + 1) i T P = if (tkIt T P).1 then (if (tkIt T P).2.1.2.2.1 = 0 then (nI i, (tkIt T P).2) else if (tkIt T P).2.1.2.2.1 = 3 then apR n (i + 1) (stepT (tkIt T P).2.1) (tkIt T P).2.2 else (-1 - nI (tkIt T P).2.1.2.2.2.1, (tkIt T P).2)) else (-1 - nI (tkIt T P).2.1.2.2.2.1, (tkIt T P).2) := rfl
theorem sz_ap : ∀ (n i : Nat) (T : Tp) (P : Pa), P.2.1 ≤ 8 → (apR n i T P).2.2.2.1 ≤ 8 := by
  intro n
  induction n with
  | zero => exact fun _ _ _ h => h
  | succ n ih =>
    intro i T P h
    have h1 := sz_it (T := T) h
    have h2 := ih (i + 1) (stepT (tkIt T P).2.1) (tkIt T P).2.2 h1
    rw [apR_s]
    generalize tkIt T P = r at h1 h2 ⊢
    generalize apR n (i + 1) (stepT r.2.1) r.2.2 = z at h2 ⊢
    by_cases c1 : r.1 = true
    · rw [if_pos c1]
      by_cases c2 : r.2.1.2.2.1 = 0
      · rw [if_pos c2]
        exact h1
      · rw [if_neg c2]
        by_cases c3 : r.2.1.2.2.1 = 3
        · rw [if_pos c3]
          exact h2
        · rw [if_neg c3]
          exact h1
    · rw [if_neg c1]
      exact h1
set_option maxHeartbeats 1000000 in
set_option maxRecDepth 4000 in
theorem c_X3_takeNumber (l : Launch) {G : Gl} {par : Nat → Pa} {tp : Tp} {sh : Nat → Sh} {tl : Nat → Int32} {hi : Int32} {M : MS} (hT : TI tp) (m : Int32) : Ct l G yX3_takeNumber cX3_takeNumber 3 (some .int) 2 41 [.ref (ga G (81)), .int m] ((par, tp, sh, tl, hi), M) (some (.int (tkN tp m).1)) ((par, (tkN tp m).2, sh, tl, hi), M) := by
  refine Ct.of (own := RX3) (by decide) rfl (Nat.le_of_ble_eq_true rfl) rfl (fun X => ?_)
  refine v_aload_n dX3_takeNumber_0 0 rfl 1 rfl ?_
  refine v_get (i := 2) (ci := 3) (T := TX3) (C := RX3) (N := 6) (v := .int tp.2.2.1) dX3_takeNumber_1 inB3 rfl qw_157 rfl (by decide) (by decide) (cel_tap G _) rfl 4 rfl ?_
  refine v_iconst dX3_takeNumber_4 2 rfl 5 rfl ?_
  refine v_icmp_ne dX3_takeNumber_5 16 (by decide) 8 rfl (fun c1 => ?_) (fun c1 => ?_)
  · skip
    refine v_iconst dX3_takeNumber_16 (-1) rfl 17 rfl ?_
    exact v_iret dX3_takeNumber_17 (by simp [tkN, c1, Ne.symm c1]) (by simp [tkN, c1, Ne.symm c1])
  · skip
    refine v_aload_n dX3_takeNumber_8 0 rfl 9 rfl ?_
    refine v_get (i := 5) (ci := 3) (T := TX3) (C := RX3) (N := 6) (v := .int tp.2.2.2.2.2) dX3_takeNumber_9 inB3 rfl qw_160 rfl (by decide) (by decide) (cel_tap G _) rfl 12 rfl ?_
    refine v_iload_n dX3_takeNumber_12 1 rfl 13 rfl ?_
    refine v_icmp_le dX3_takeNumber_13 18 (by decide) 16 rfl (fun c2 => ?_) (fun c2 => ?_)
    · skip
      refine v_aload_n dX3_takeNumber_18 0 rfl 19 rfl ?_
      refine v_get (i := 5) (ci := 3) (T := TX3) (C := RX3) (N := 6) (v := .int tp.2.2.2.2.2) dX3_takeNumber_19 inB3 rfl qw_160 rfl (by decide) (by decide) (cel_tap G _) rfl 22 rfl ?_
      refine v_istore_n dX3_takeNumber_22 2 rfl (by decide) [(2, .int tp.2.2.2.2.2), (0, .ref (ga G (81))), (1, .int m)] rfl 23 rfl ?_
      refine v_aload_n dX3_takeNumber_23 1 rfl 24 rfl ?_
      refine v_callV (c_X3_step l hT.1 hT.2.2) kal_X3_step rfl dX3_takeNumber_24 qw_489 qw_491 qw_4 rfl (by decide) (cel_tap G _) (by decide) [] (Nat.le_of_ble_eq_true rfl) rfl rfl 27 rfl ?_
      refine v_w (w2 := ((par, (stepT tp), sh, tl, hi), M)) rfl ?_
      refine v_iload_n dX3_takeNumber_27 0 rfl 28 rfl ?_
      exact v_iret dX3_takeNumber_28 (by simp [tkN, c1, c2, Int32.not_lt.mpr c2]) (by simp [tkN, c1, c2, Int32.not_lt.mpr c2])
    · skip
      refine v_iconst dX3_takeNumber_16 (-1) rfl 17 rfl ?_
      exact v_iret dX3_takeNumber_17 (by simp [tkN, c1, c2, Int32.not_le.mp c2]) (by simp [tkN, c1, c2, Int32.not_le.mp c2])
set_option maxHeartbeats 1000000 in
set_option maxRecDepth 4000 in
theorem c_X3_takeWeather (l : Launch) {G : Gl} {par : Nat → Pa} {tp : Tp} {sh : Nat → Sh} {tl : Nat → Int32} {hi : Int32} {M : MS} {mo sz : Nat} {W S R : Nat → Int32} {C : Nat → Nat → Int32} {E : Nat → Ew} (hT : TI tp) (sg : Int32) : Ct l G yX3_takeWeather cX3_takeWeather 5 (some .boolean) 3 63 [.ref (ga G (81)), .ref (ga G (1 + 2)), .int sg] ((va_up par 2 (mo, sz, W, S, R, C, E), tp, sh, tl, hi), M) (some (.int (b2 (tkWe tp (mo, sz, W, S, R, C, E) sg).1))) ((va_up par 2 (tkWe tp (mo, sz, W, S, R, C, E) sg).2.2, (tkWe tp (mo, sz, W, S, R, C, E) sg).2.1, sh, tl, hi), M) := by
  refine Ct.of (own := RX3) (by decide) rfl (Nat.le_of_ble_eq_true rfl) rfl (fun X => ?_)
  refine v_aload_n dX3_takeWeather_0 0 rfl 1 rfl ?_
  refine v_callV (c_X3_step l hT.1 hT.2.2) kal_X3_step rfl dX3_takeWeather_1 qw_489 qw_491 qw_4 rfl (by decide) (cel_tap G _) (by decide) [] (Nat.le_of_ble_eq_true rfl) rfl rfl 4 rfl ?_
  refine v_w (w2 := ((va_up par 2 (mo, sz, W, S, R, C, E), (stepT tp), sh, tl, hi), M)) rfl ?_
  refine v_aload_n dX3_takeWeather_4 0 rfl 5 rfl ?_
  refine v_bipush dX3_takeWeather_5 11 rfl 7 rfl ?_
  refine v_callV (c_X3_takeNumber l (TI_step hT) 11) kal_X3_takeNumber rfl dX3_takeWeather_7 qw_575 qw_577 qw_9 rfl (by decide) (cel_tap G _) (by decide) [] (Nat.le_of_ble_eq_true rfl) rfl rfl 10 rfl ?_
  refine v_topi (wA tp).1 rfl ?_
  refine v_w (w2 := ((va_up par 2 (mo, sz, W, S, R, C, E), (wA tp).2, sh, tl, hi), M)) rfl ?_
  refine v_istore_n dX3_takeWeather_10 3 rfl (by decide) [(3, .int (wA tp).1), (0, .ref (ga G (81))), (1, .ref (ga G (1 + 2))), (2, .int sg)] rfl 11 rfl ?_
  refine v_iload_n dX3_takeWeather_11 0 rfl 12 rfl ?_
  refine v_if_ge dX3_takeWeather_12 17 (by decide) 15 rfl (fun c1 => ?_) (fun c1 => ?_)
  · skip
    obtain ⟨jm, h2jm, ejm⟩ : ∃ j : Nat, j ≤ 11 ∧ (wA tp).1 = nI j := tkN_ix (k := 11) (by decide) (Int32.not_lt.mpr (by assumption))
    have ecjm : (nI jm).toNatClampNeg = jm := nI_clamp (by omega)
    refine v_ls (ls2 := [(3, .int (nI jm)), (0, .ref (ga G (81))), (1, .ref (ga G (1 + 2))), (2, .int sg)]) (by rw [ejm]) ?_
    refine v_aload_n dX3_takeWeather_17 1 rfl 18 rfl ?_
    refine v_bipush dX3_takeWeather_18 20 rfl 20 rfl ?_
    refine v_callV (c_X3_takeNumber l (TI_tk (m := 11) (TI_step hT)) 20) kal_X3_takeNumber rfl dX3_takeWeather_20 qw_575 qw_577 qw_9 rfl (by decide) (cel_tap G _) (by decide) [] (Nat.le_of_ble_eq_true rfl) rfl rfl 23 rfl ?_
    refine v_topi (wB1 tp).1 rfl ?_
    refine v_w (w2 := ((va_up par 2 (mo, sz, W, S, R, C, E), (wB1 tp).2, sh, tl, hi), M)) rfl ?_
    refine v_istore dX3_takeWeather_23 (by decide) [(4, .int (wB1 tp).1), (3, .int (nI jm)), (0, .ref (ga G (81))), (1, .ref (ga G (1 + 2))), (2, .int sg)] rfl 25 rfl ?_
    refine v_iload dX3_takeWeather_25 0 rfl 27 rfl ?_
    refine v_if_ge dX3_takeWeather_27 32 (by decide) 30 rfl (fun c2 => ?_) (fun c2 => ?_)
    · skip
      refine v_aload_n dX3_takeWeather_32 3 rfl 33 rfl ?_
      refine v_get (i := 2) (ci := 1) (T := TX1) (C := RX1) (N := 7) (v := .ref (ga G (4 + 2))) dX3_takeWeather_33 inB1 rfl qw_121 rfl (by decide) (k_par h23) (f_par h23) rfl 36 rfl ?_
      refine v_iload_n dX3_takeWeather_36 1 rfl 37 rfl ?_
      refine v_iload_n dX3_takeWeather_37 4 rfl 38 rfl ?_
      refine v_iload dX3_takeWeather_38 0 rfl 40 rfl ?_
      refine v_imul dX3_takeWeather_40 41 rfl ?_
      refine v_iast (w2 := ((va_up par 2 (mo, sz, (upd W jm (sg * (wB1 tp).1)), S, R, C, E), (wB1 tp).2, sh, tl, hi), M)) dX3_takeWeather_41 (k_wea h23) (f_wea h23) jm rfl (by omega) (by decide) (u_W h23) 42 rfl ?_
      refine v_iconst dX3_takeWeather_42 1 rfl 43 rfl ?_
      exact v_zret dX3_takeWeather_43 rfl (by simp only [tkWe, b2, c1, Int32.not_lt.mpr c1, c2, Int32.not_lt.mpr c2, if_true, if_false, Bool.false_eq_true, ↓reduceIte] <;> first | rfl | (simp only [ejm, ecjm, sW]; done) | (simp only [ejm, ecjm, sW] <;> rfl)) (by simp only [tkWe, b2, c1, Int32.not_lt.mpr c1, c2, Int32.not_lt.mpr c2, if_true, if_false, Bool.false_eq_true, ↓reduceIte] <;> first | rfl | (simp only [ejm, ecjm, sW]; done) | (simp only [ejm, ecjm, sW] <;> rfl))
    · skip
      refine v_iconst dX3_takeWeather_30 0 rfl 31 rfl ?_
      exact v_zret dX3_takeWeather_31 rfl (by simp only [tkWe, b2, c1, Int32.not_lt.mpr c1, c2, Int32.not_le.mp c2, if_true, if_false, Bool.false_eq_true, ↓reduceIte] <;> first | rfl | (simp only [ejm, ecjm, sW]; done) | (simp only [ejm, ecjm, sW] <;> rfl)) (by simp only [tkWe, b2, c1, Int32.not_lt.mpr c1, c2, Int32.not_le.mp c2, if_true, if_false, Bool.false_eq_true, ↓reduceIte] <;> first | rfl | (simp only [ejm, ecjm, sW]; done) | (simp only [ejm, ecjm, sW] <;> rfl))
  · skip
    refine v_iconst dX3_takeWeather_15 0 rfl 16 rfl ?_
    exact v_zret dX3_takeWeather_16 rfl (by simp only [tkWe, b2, c1, Int32.not_le.mp c1, if_true, if_false, Bool.false_eq_true, ↓reduceIte] <;> first | rfl | (simp only [ejm, ecjm, sW]; done) | (simp only [ejm, ecjm, sW] <;> rfl)) (by simp only [tkWe, b2, c1, Int32.not_le.mp c1, if_true, if_false, Bool.false_eq_true, ↓reduceIte] <;> first | rfl | (simp only [ejm, ecjm, sW]; done) | (simp only [ejm, ecjm, sW] <;> rfl))
set_option maxHeartbeats 1000000 in
set_option maxRecDepth 4000 in
theorem c_X3_takeStore (l : Launch) {G : Gl} {par : Nat → Pa} {tp : Tp} {sh : Nat → Sh} {tl : Nat → Int32} {hi : Int32} {M : MS} {mo sz : Nat} {W S R : Nat → Int32} {C : Nat → Nat → Int32} {E : Nat → Ew} (hT : TI tp)  : Ct l G yX3_takeStore cX3_takeStore 4 (some .boolean) 3 63 [.ref (ga G (81)), .ref (ga G (1 + 2))] ((va_up par 2 (mo, sz, W, S, R, C, E), tp, sh, tl, hi), M) (some (.int (b2 (tkSt tp (mo, sz, W, S, R, C, E)).1))) ((va_up par 2 (tkSt tp (mo, sz, W, S, R, C, E)).2.2, (tkSt tp (mo, sz, W, S, R, C, E)).2.1, sh, tl, hi), M) := by
  refine Ct.of (own := RX3) (by decide) rfl (Nat.le_of_ble_eq_true rfl) rfl (fun X => ?_)
  refine v_aload_n dX3_takeStore_0 0 rfl 1 rfl ?_
  refine v_callV (c_X3_step l hT.1 hT.2.2) kal_X3_step rfl dX3_takeStore_1 qw_489 qw_491 qw_4 rfl (by decide) (cel_tap G _) (by decide) [] (Nat.le_of_ble_eq_true rfl) rfl rfl 4 rfl ?_
  refine v_w (w2 := ((va_up par 2 (mo, sz, W, S, R, C, E), (stepT tp), sh, tl, hi), M)) rfl ?_
  refine v_aload_n dX3_takeStore_4 0 rfl 5 rfl ?_
  refine v_bipush dX3_takeStore_5 11 rfl 7 rfl ?_
  refine v_callV (c_X3_takeNumber l (TI_step hT) 11) kal_X3_takeNumber rfl dX3_takeStore_7 qw_575 qw_577 qw_9 rfl (by decide) (cel_tap G _) (by decide) [] (Nat.le_of_ble_eq_true rfl) rfl rfl 10 rfl ?_
  refine v_topi (sA1 tp).1 rfl ?_
  refine v_w (w2 := ((va_up par 2 (mo, sz, W, S, R, C, E), (sA1 tp).2, sh, tl, hi), M)) rfl ?_
  refine v_istore_n dX3_takeStore_10 2 rfl (by decide) [(2, .int (sA1 tp).1), (0, .ref (ga G (81))), (1, .ref (ga G (1 + 2)))] rfl 11 rfl ?_
  refine v_iload_n dX3_takeStore_11 0 rfl 12 rfl ?_
  refine v_if_ge dX3_takeStore_12 17 (by decide) 15 rfl (fun c1 => ?_) (fun c1 => ?_)
  · skip
    obtain ⟨jm, h2jm, ejm⟩ : ∃ j : Nat, j ≤ 11 ∧ (sA1 tp).1 = nI j := tkN_ix (k := 11) (by decide) (Int32.not_lt.mpr (by assumption))
    have ecjm : (nI jm).toNatClampNeg = jm := nI_clamp (by omega)
    refine v_ls (ls2 := [(2, .int (nI jm)), (0, .ref (ga G (81))), (1, .ref (ga G (1 + 2)))]) (by rw [ejm]) ?_
    refine v_aload_n dX3_takeStore_17 1 rfl 18 rfl ?_
    refine v_sipush dX3_takeStore_18 9999 rfl 21 rfl ?_
    refine v_callV (c_X3_takeNumber l (TI_tk (m := 11) (TI_step hT)) 9999) kal_X3_takeNumber rfl dX3_takeStore_21 qw_575 qw_577 qw_9 rfl (by decide) (cel_tap G _) (by decide) [] (Nat.le_of_ble_eq_true rfl) rfl rfl 24 rfl ?_
    refine v_topi (sN1 tp).1 rfl ?_
    refine v_w (w2 := ((va_up par 2 (mo, sz, W, S, R, C, E), (sN1 tp).2, sh, tl, hi), M)) rfl ?_
    refine v_istore_n dX3_takeStore_24 3 rfl (by decide) [(3, .int (sN1 tp).1), (2, .int (nI jm)), (0, .ref (ga G (81))), (1, .ref (ga G (1 + 2)))] rfl 25 rfl ?_
    refine v_iload_n dX3_takeStore_25 0 rfl 26 rfl ?_
    refine v_if_ge dX3_takeStore_26 31 (by decide) 29 rfl (fun c2 => ?_) (fun c2 => ?_)
    · skip
      refine v_aload_n dX3_takeStore_31 3 rfl 32 rfl ?_
      refine v_get (i := 3) (ci := 1) (T := TX1) (C := RX1) (N := 7) (v := .ref (ga G (7 + 2))) dX3_takeStore_32 inB1 rfl qw_124 rfl (by decide) (k_par h23) (f_par h23) rfl 35 rfl ?_
      refine v_iload_n dX3_takeStore_35 1 rfl 36 rfl ?_
      refine v_iload_n dX3_takeStore_36 0 rfl 37 rfl ?_
      refine v_iast (w2 := ((va_up par 2 (mo, sz, W, (upd S jm (sN1 tp).1), R, C, E), (sN1 tp).2, sh, tl, hi), M)) dX3_takeStore_37 (k_sto h23) (f_sto h23) jm rfl (by omega) (by decide) (u_S h23) 38 rfl ?_
      refine v_iconst dX3_takeStore_38 1 rfl 39 rfl ?_
      exact v_zret dX3_takeStore_39 rfl (by simp only [tkSt, b2, c1, Int32.not_lt.mpr c1, c2, Int32.not_lt.mpr c2, if_true, if_false, Bool.false_eq_true, ↓reduceIte] <;> first | rfl | (simp only [ejm, ecjm, sSt]; done) | (simp only [ejm, ecjm, sSt] <;> rfl)) (by simp only [tkSt, b2, c1, Int32.not_lt.mpr c1, c2, Int32.not_lt.mpr c2, if_true, if_false, Bool.false_eq_true, ↓reduceIte] <;> first | rfl | (simp only [ejm, ecjm, sSt]; done) | (simp only [ejm, ecjm, sSt] <;> rfl))
    · skip
      refine v_iconst dX3_takeStore_29 0 rfl 30 rfl ?_
      exact v_zret dX3_takeStore_30 rfl (by simp only [tkSt, b2, c1, Int32.not_lt.mpr c1, c2, Int32.not_le.mp c2, if_true, if_false, Bool.false_eq_true, ↓reduceIte] <;> first | rfl | (simp only [ejm, ecjm, sSt]; done) | (simp only [ejm, ecjm, sSt] <;> rfl)) (by simp only [tkSt, b2, c1, Int32.not_lt.mpr c1, c2, Int32.not_le.mp c2, if_true, if_false, Bool.false_eq_true, ↓reduceIte] <;> first | rfl | (simp only [ejm, ecjm, sSt]; done) | (simp only [ejm, ecjm, sSt] <;> rfl))
  · skip
    refine v_iconst dX3_takeStore_15 0 rfl 16 rfl ?_
    exact v_zret dX3_takeStore_16 rfl (by simp only [tkSt, b2, c1, Int32.not_le.mp c1, if_true, if_false, Bool.false_eq_true, ↓reduceIte] <;> first | rfl | (simp only [ejm, ecjm, sSt]; done) | (simp only [ejm, ecjm, sSt] <;> rfl)) (by simp only [tkSt, b2, c1, Int32.not_le.mp c1, if_true, if_false, Bool.false_eq_true, ↓reduceIte] <;> first | rfl | (simp only [ejm, ecjm, sSt]; done) | (simp only [ejm, ecjm, sSt] <;> rfl))
set_option maxHeartbeats 1000000 in
set_option maxRecDepth 4000 in
theorem c_X3_takeCut (l : Launch) {G : Gl} {par : Nat → Pa} {tp : Tp} {sh : Nat → Sh} {tl : Nat → Int32} {hi : Int32} {M : MS} {mo sz : Nat} {W S R : Nat → Int32} {C : Nat → Nat → Int32} {E : Nat → Ew} (hT : TI tp)  : Ct l G yX3_takeCut cX3_takeCut 5 (some .boolean) 3 63 [.ref (ga G (81)), .ref (ga G (1 + 2))] ((va_up par 2 (mo, sz, W, S, R, C, E), tp, sh, tl, hi), M) (some (.int (b2 (tkCu tp (mo, sz, W, S, R, C, E)).1))) ((va_up par 2 (tkCu tp (mo, sz, W, S, R, C, E)).2.2, (tkCu tp (mo, sz, W, S, R, C, E)).2.1, sh, tl, hi), M) := by
  refine Ct.of (own := RX3) (by decide) rfl (Nat.le_of_ble_eq_true rfl) rfl (fun X => ?_)
  refine v_aload_n dX3_takeCut_0 0 rfl 1 rfl ?_
  refine v_callV (c_X3_step l hT.1 hT.2.2) kal_X3_step rfl dX3_takeCut_1 qw_489 qw_491 qw_4 rfl (by decide) (cel_tap G _) (by decide) [] (Nat.le_of_ble_eq_true rfl) rfl rfl 4 rfl ?_
  refine v_w (w2 := ((va_up par 2 (mo, sz, W, S, R, C, E), (stepT tp), sh, tl, hi), M)) rfl ?_
  refine v_aload_n dX3_takeCut_4 0 rfl 5 rfl ?_
  refine v_iconst dX3_takeCut_5 3 rfl 6 rfl ?_
  refine v_callV (c_X3_takeNumber l (TI_step hT) 3) kal_X3_takeNumber rfl dX3_takeCut_6 qw_575 qw_577 qw_9 rfl (by decide) (cel_tap G _) (by decide) [] (Nat.le_of_ble_eq_true rfl) rfl rfl 9 rfl ?_
  refine v_topi (cA tp).1 rfl ?_
  refine v_w (w2 := ((va_up par 2 (mo, sz, W, S, R, C, E), (cA tp).2, sh, tl, hi), M)) rfl ?_
  refine v_istore_n dX3_takeCut_9 2 rfl (by decide) [(2, .int (cA tp).1), (0, .ref (ga G (81))), (1, .ref (ga G (1 + 2)))] rfl 10 rfl ?_
  refine v_iload_n dX3_takeCut_10 0 rfl 11 rfl ?_
  refine v_if_ge dX3_takeCut_11 16 (by decide) 14 rfl (fun c1 => ?_) (fun c1 => ?_)
  · skip
    obtain ⟨jc, h2jc, ejc⟩ : ∃ j : Nat, j ≤ 3 ∧ (cA tp).1 = nI j := tkN_ix (k := 3) (by decide) (Int32.not_lt.mpr (by assumption))
    have ecjc : (nI jc).toNatClampNeg = jc := nI_clamp (by omega)
    refine v_ls (ls2 := [(2, .int (nI jc)), (0, .ref (ga G (81))), (1, .ref (ga G (1 + 2)))]) (by rw [ejc]) ?_
    refine v_aload_n dX3_takeCut_16 1 rfl 17 rfl ?_
    refine v_bipush dX3_takeCut_17 11 rfl 19 rfl ?_
    refine v_callV (c_X3_takeNumber l (TI_tk (m := 3) (TI_step hT)) 11) kal_X3_takeNumber rfl dX3_takeCut_19 qw_575 qw_577 qw_9 rfl (by decide) (cel_tap G _) (by decide) [] (Nat.le_of_ble_eq_true rfl) rfl rfl 22 rfl ?_
    refine v_topi (cB1 tp).1 rfl ?_
    refine v_w (w2 := ((va_up par 2 (mo, sz, W, S, R, C, E), (cB1 tp).2, sh, tl, hi), M)) rfl ?_
    refine v_istore_n dX3_takeCut_22 3 rfl (by decide) [(3, .int (cB1 tp).1), (2, .int (nI jc)), (0, .ref (ga G (81))), (1, .ref (ga G (1 + 2)))] rfl 23 rfl ?_
    refine v_iload_n dX3_takeCut_23 0 rfl 24 rfl ?_
    refine v_if_ge dX3_takeCut_24 29 (by decide) 27 rfl (fun c2 => ?_) (fun c2 => ?_)
    · skip
      obtain ⟨jm, h2jm, ejm⟩ : ∃ j : Nat, j ≤ 11 ∧ (cB1 tp).1 = nI j := tkN_ix (k := 11) (by decide) (Int32.not_lt.mpr (by assumption))
      have ecjm : (nI jm).toNatClampNeg = jm := nI_clamp (by omega)
      refine v_ls (ls2 := [(3, .int (nI jm)), (2, .int (nI jc)), (0, .ref (ga G (81))), (1, .ref (ga G (1 + 2)))]) (by rw [ejm]) ?_
      refine v_aload_n dX3_takeCut_29 2 rfl 30 rfl ?_
      refine v_aload_n dX3_takeCut_30 3 rfl 31 rfl ?_
      refine v_get (i := 3) (ci := 1) (T := TX1) (C := RX1) (N := 7) (v := .ref (ga G (7 + 2))) dX3_takeCut_31 inB1 rfl qw_124 rfl (by decide) (k_par h23) (f_par h23) rfl 34 rfl ?_
      refine v_iload_n dX3_takeCut_34 0 rfl 35 rfl ?_
      refine v_iald (a := S) dX3_takeCut_35 (k_sto h23) (f_sto h23) jm rfl (by omega) (by decide) 36 rfl ?_
      refine v_aload_n dX3_takeCut_36 3 rfl 37 rfl ?_
      refine v_iload_n dX3_takeCut_37 1 rfl 38 rfl ?_
      refine v_iload_n dX3_takeCut_38 0 rfl 39 rfl ?_
      refine v_callV (c_X1_roomInCoat l h23 (c := jc) (m := jm) (by omega) (by omega) ) kal_X1_roomInCoat rfl dX3_takeCut_39 qw_591 qw_338 qw_339 rfl (k_par h23) (f_par h23) (by decide) [.int (S jm), .ref (ga G (81))] (Nat.le_of_ble_eq_true rfl) rfl rfl 42 rfl ?_
      refine v_mmin dX3_takeCut_42 qw_499 (by decide) (Nat.le_of_ble_eq_true rfl) 45 rfl ?_
      refine v_topi (cM1 tp (mo, sz, W, S, R, C, E)) (by show _ = mn (S (ix (cB1 tp).1)) (999 - C (ix (cA tp).1) (ix (cB1 tp).1)); rw [ejc, ejm, show ix (nI jc) = jc from ecjc, show ix (nI jm) = jm from ecjm]; rfl) ?_
      refine v_callV (c_X3_takeNumber l (TI_tk (m := 11) (TI_tk (m := 3) (TI_step hT))) (cM1 tp (mo, sz, W, S, R, C, E))) kal_X3_takeNumber rfl dX3_takeCut_45 qw_575 qw_577 qw_9 rfl (by decide) (cel_tap G _) (by decide) [] (Nat.le_of_ble_eq_true rfl) rfl rfl 48 rfl ?_
      refine v_topi (cD1 tp (mo, sz, W, S, R, C, E)).1 rfl ?_
      refine v_w (w2 := ((va_up par 2 (mo, sz, W, S, R, C, E), (cD1 tp (mo, sz, W, S, R, C, E)).2, sh, tl, hi), M)) rfl ?_
      refine v_istore dX3_takeCut_48 (by decide) [(4, .int (cD1 tp (mo, sz, W, S, R, C, E)).1), (3, .int (nI jm)), (2, .int (nI jc)), (0, .ref (ga G (81))), (1, .ref (ga G (1 + 2)))] rfl 50 rfl ?_
      refine v_iload dX3_takeCut_50 0 rfl 52 rfl ?_
      refine v_if_ge dX3_takeCut_52 57 (by decide) 55 rfl (fun c3 => ?_) (fun c3 => ?_)
      · skip
        refine v_aload_n dX3_takeCut_57 4 rfl 58 rfl ?_
        refine v_iload_n dX3_takeCut_58 2 rfl 59 rfl ?_
        refine v_iload_n dX3_takeCut_59 1 rfl 60 rfl ?_
        refine v_iload dX3_takeCut_60 0 rfl 62 rfl ?_
        refine v_callV (c_X1_cutFor l h23 (c := jc) (m := jm) (by omega) (by omega) (cD1 tp (mo, sz, W, S, R, C, E)).1) kal_X1_cutFor rfl dX3_takeCut_62 qw_592 qw_342 qw_343 rfl (k_par h23) (f_par h23) (by decide) [] (Nat.le_of_ble_eq_true rfl) rfl rfl 65 rfl ?_
        refine v_iconst dX3_takeCut_65 1 rfl 66 rfl ?_
        exact v_zret dX3_takeCut_66 rfl (by simp only [tkCu, b2, c1, Int32.not_lt.mpr c1, c2, Int32.not_lt.mpr c2, c3, Int32.not_lt.mpr c3, if_true, if_false, Bool.false_eq_true, ↓reduceIte] <;> first | rfl | (simp only [ejc, ejm, ecjc, ecjm, pCut]; done) | (simp only [ejc, ejm, ecjc, ecjm, pCut] <;> rfl)) (by simp only [tkCu, b2, c1, Int32.not_lt.mpr c1, c2, Int32.not_lt.mpr c2, c3, Int32.not_lt.mpr c3, if_true, if_false, Bool.false_eq_true, ↓reduceIte] <;> first | rfl | (simp only [ejc, ejm, ecjc, ecjm, pCut]; done) | (simp only [ejc, ejm, ecjc, ecjm, pCut] <;> rfl))
      · skip
        refine v_iconst dX3_takeCut_55 0 rfl 56 rfl ?_
        exact v_zret dX3_takeCut_56 rfl (by simp only [tkCu, b2, c1, Int32.not_lt.mpr c1, c2, Int32.not_lt.mpr c2, c3, Int32.not_le.mp c3, if_true, if_false, Bool.false_eq_true, ↓reduceIte] <;> first | rfl | (simp only [ejc, ejm, ecjc, ecjm, pCut]; done) | (simp only [ejc, ejm, ecjc, ecjm, pCut] <;> rfl)) (by simp only [tkCu, b2, c1, Int32.not_lt.mpr c1, c2, Int32.not_lt.mpr c2, c3, Int32.not_le.mp c3, if_true, if_false, Bool.false_eq_true, ↓reduceIte] <;> first | rfl | (simp only [ejc, ejm, ecjc, ecjm, pCut]; done) | (simp only [ejc, ejm, ecjc, ecjm, pCut] <;> rfl))
    · skip
      refine v_iconst dX3_takeCut_27 0 rfl 28 rfl ?_
      exact v_zret dX3_takeCut_28 rfl (by simp only [tkCu, b2, c1, Int32.not_lt.mpr c1, c2, Int32.not_le.mp c2, if_true, if_false, Bool.false_eq_true, ↓reduceIte] <;> first | rfl | (simp only [ejc, ejm, ecjc, ecjm, pCut]; done) | (simp only [ejc, ejm, ecjc, ecjm, pCut] <;> rfl)) (by simp only [tkCu, b2, c1, Int32.not_lt.mpr c1, c2, Int32.not_le.mp c2, if_true, if_false, Bool.false_eq_true, ↓reduceIte] <;> first | rfl | (simp only [ejc, ejm, ecjc, ecjm, pCut]; done) | (simp only [ejc, ejm, ecjc, ecjm, pCut] <;> rfl))
  · skip
    refine v_iconst dX3_takeCut_14 0 rfl 15 rfl ?_
    exact v_zret dX3_takeCut_15 rfl (by simp only [tkCu, b2, c1, Int32.not_le.mp c1, if_true, if_false, Bool.false_eq_true, ↓reduceIte] <;> first | rfl | (simp only [ejc, ejm, ecjc, ecjm, pCut]; done) | (simp only [ejc, ejm, ecjc, ecjm, pCut] <;> rfl)) (by simp only [tkCu, b2, c1, Int32.not_le.mp c1, if_true, if_false, Bool.false_eq_true, ↓reduceIte] <;> first | rfl | (simp only [ejc, ejm, ecjc, ecjm, pCut]; done) | (simp only [ejc, ejm, ecjc, ecjm, pCut] <;> rfl))
set_option maxHeartbeats 1000000 in
set_option maxRecDepth 4000 in
theorem c_X3_takeEwe (l : Launch) {G : Gl} {par : Nat → Pa} {tp : Tp} {sh : Nat → Sh} {tl : Nat → Int32} {hi : Int32} {M : MS} {mo sz : Nat} {W S R : Nat → Int32} {C : Nat → Nat → Int32} {E : Nat → Ew} (hT : TI tp) (k9 : Int32) (hsz : sz ≤ 8) : Ct l G yX3_takeEwe cX3_takeEwe 4 (some .boolean) 6 128 [.ref (ga G (81)), .ref (ga G (1 + 2)), .int k9] ((va_up par 2 (mo, sz, W, S, R, C, E), tp, sh, tl, hi), M) (some (.int (b2 (tkEw tp (mo, sz, W, S, R, C, E) k9).1))) ((va_up par 2 (tkEw tp (mo, sz, W, S, R, C, E) k9).2.2, (tkEw tp (mo, sz, W, S, R, C, E) k9).2.1, sh, tl, hi), M) := by
  refine Ct.of (own := RX3) (by decide) rfl (Nat.le_of_ble_eq_true rfl) rfl (fun X => ?_)
  refine v_aload_n dX3_takeEwe_0 1 rfl 1 rfl ?_
  refine v_callV (c_X1_isFull l h23 (by omega) ) kal_X1_isFull rfl dX3_takeEwe_1 qw_573 qw_266 qw_267 rfl (k_par h23) (f_par h23) (by decide) [] (Nat.le_of_ble_eq_true rfl) rfl rfl 4 rfl ?_
  refine v_ifb_eq dX3_takeEwe_4 9 (by decide) 7 rfl (fun c1 => ?_) (fun c1 => ?_)
  · skip
    have dc1 := of_decide_eq_false c1
    refine v_aload_n dX3_takeEwe_9 0 rfl 10 rfl ?_
    refine v_callV (c_X3_step l hT.1 hT.2.2) kal_X3_step rfl dX3_takeEwe_10 qw_489 qw_491 qw_4 rfl (by decide) (cel_tap G _) (by decide) [] (Nat.le_of_ble_eq_true rfl) rfl rfl 13 rfl ?_
    refine v_w (w2 := ((va_up par 2 (mo, sz, W, S, R, C, E), (stepT tp), sh, tl, hi), M)) rfl ?_
    refine v_iconst dX3_takeEwe_13 0 rfl 14 rfl ?_
    refine v_istore_n dX3_takeEwe_14 3 rfl (by decide) [(3, .int 0), (0, .ref (ga G (81))), (1, .ref (ga G (1 + 2))), (2, .int k9)] rfl 15 rfl ?_
    refine v_aload_n dX3_takeEwe_15 1 rfl 16 rfl ?_
    refine v_ldcs dX3_takeEwe_16 10 (by decide) rfl 18 rfl ?_
    refine v_callV (c_X3_isWord l (k := 10) (by omega) (TI_step hT).2.1 (TI_step hT).2.2) kal_X3_isWord rfl dX3_takeEwe_18 qw_517 qw_519 qw_7 rfl (by decide) (cel_tap G _) (by decide) [] (Nat.le_of_ble_eq_true rfl) rfl rfl 21 rfl ?_
    refine v_topi (b2 (isWT (stepT tp) 10)) rfl ?_
    refine v_w (w2 := ((va_up par 2 (mo, sz, W, S, R, C, E), (stepT tp), sh, tl, hi), M)) rfl ?_
    refine v_ifb_eq dX3_takeEwe_21 35 (by decide) 24 rfl (fun c2 => ?_) (fun c2 => ?_)
    · skip
      refine v_iload_n dX3_takeEwe_35 0 rfl 36 rfl ?_
      refine v_if_ge dX3_takeEwe_36 41 (by decide) 39 rfl (fun c3 => ?_) (fun c3 => absurd c3 (by decide))
      refine v_aload_n dX3_takeEwe_41 2 rfl 42 rfl ?_
      refine v_iload_n dX3_takeEwe_42 3 rfl 43 rfl ?_
      refine v_iload_n dX3_takeEwe_43 0 rfl 44 rfl ?_
      refine v_callV (c_X1_add l h23 (by omega) k9 0) kal_X1_add rfl dX3_takeEwe_44 qw_579 qw_270 qw_271 rfl (k_par h23) (f_par h23) (by decide) [] (Nat.le_of_ble_eq_true rfl) rfl rfl 47 rfl ?_
      refine v_iconst dX3_takeEwe_47 1 rfl 48 rfl ?_
      exact v_zret dX3_takeEwe_48 rfl (by simp only [tkEw, b2, c1, dc1, c2, if_true, if_false, Bool.false_eq_true, ↓reduceIte] <;> first | rfl | (simp only [pAdd]; done) | (simp only [pAdd] <;> rfl)) (by simp only [tkEw, b2, c1, dc1, c2, if_true, if_false, Bool.false_eq_true, ↓reduceIte] <;> first | rfl | (simp only [pAdd]; done) | (simp only [pAdd] <;> rfl))
    · skip
      refine v_aload_n dX3_takeEwe_24 1 rfl 25 rfl ?_
      refine v_callV (c_X3_step l (TI_step hT).1 (TI_step hT).2.2) kal_X3_step rfl dX3_takeEwe_25 qw_489 qw_491 qw_4 rfl (by decide) (cel_tap G _) (by decide) [] (Nat.le_of_ble_eq_true rfl) rfl rfl 28 rfl ?_
      refine v_w (w2 := ((va_up par 2 (mo, sz, W, S, R, C, E), (stepT (stepT tp)), sh, tl, hi), M)) rfl ?_
      refine v_aload_n dX3_takeEwe_28 1 rfl 29 rfl ?_
      refine v_bipush dX3_takeEwe_29 99 rfl 31 rfl ?_
      refine v_callV (c_X3_takeNumber l (TI_step (TI_step hT)) 99) kal_X3_takeNumber rfl dX3_takeEwe_31 qw_575 qw_577 qw_9 rfl (by decide) (cel_tap G _) (by decide) [] (Nat.le_of_ble_eq_true rfl) rfl rfl 34 rfl ?_
      refine v_topi (eN tp).1 rfl ?_
      refine v_w (w2 := ((va_up par 2 (mo, sz, W, S, R, C, E), (eN tp).2, sh, tl, hi), M)) rfl ?_
      refine v_istore_n dX3_takeEwe_34 3 rfl (by decide) [(3, .int (eN tp).1), (0, .ref (ga G (81))), (1, .ref (ga G (1 + 2))), (2, .int k9)] rfl 35 rfl ?_
      refine v_iload_n dX3_takeEwe_35 0 rfl 36 rfl ?_
      refine v_if_ge dX3_takeEwe_36 41 (by decide) 39 rfl (fun c4 => ?_) (fun c4 => ?_)
      · skip
        refine v_aload_n dX3_takeEwe_41 2 rfl 42 rfl ?_
        refine v_iload_n dX3_takeEwe_42 3 rfl 43 rfl ?_
        refine v_iload_n dX3_takeEwe_43 0 rfl 44 rfl ?_
        refine v_callV (c_X1_add l h23 (by omega) k9 (eN tp).1) kal_X1_add rfl dX3_takeEwe_44 qw_579 qw_270 qw_271 rfl (k_par h23) (f_par h23) (by decide) [] (Nat.le_of_ble_eq_true rfl) rfl rfl 47 rfl ?_
        refine v_iconst dX3_takeEwe_47 1 rfl 48 rfl ?_
        exact v_zret dX3_takeEwe_48 rfl (by simp only [tkEw, b2, c1, dc1, c2, c4, Int32.not_lt.mpr c4, if_true, if_false, Bool.false_eq_true, ↓reduceIte] <;> first | rfl | (simp only [pAdd]; done) | (simp only [pAdd] <;> rfl)) (by simp only [tkEw, b2, c1, dc1, c2, c4, Int32.not_lt.mpr c4, if_true, if_false, Bool.false_eq_true, ↓reduceIte] <;> first | rfl | (simp only [pAdd]; done) | (simp only [pAdd] <;> rfl))
      · skip
        refine v_iconst dX3_takeEwe_39 0 rfl 40 rfl ?_
        exact v_zret dX3_takeEwe_40 rfl (by simp only [tkEw, b2, c1, dc1, c2, c4, Int32.not_le.mp c4, if_true, if_false, Bool.false_eq_true, ↓reduceIte] <;> first | rfl | (simp only [pAdd]; done) | (simp only [pAdd] <;> rfl)) (by simp only [tkEw, b2, c1, dc1, c2, c4, Int32.not_le.mp c4, if_true, if_false, Bool.false_eq_true, ↓reduceIte] <;> first | rfl | (simp only [pAdd]; done) | (simp only [pAdd] <;> rfl))
  · skip
    have dc1 := of_decide_eq_true c1
    refine v_iconst dX3_takeEwe_7 0 rfl 8 rfl ?_
    exact v_zret dX3_takeEwe_8 rfl (by simp only [tkEw, b2, c1, dc1, if_true, if_false, Bool.false_eq_true, ↓reduceIte] <;> first | rfl | (simp only [pAdd]; done) | (simp only [pAdd] <;> rfl)) (by simp only [tkEw, b2, c1, dc1, if_true, if_false, Bool.false_eq_true, ↓reduceIte] <;> first | rfl | (simp only [pAdd]; done) | (simp only [pAdd] <;> rfl))
set_option maxHeartbeats 1000000 in
set_option maxRecDepth 4000 in
theorem c_X3_takeItem (l : Launch) {G : Gl} {par : Nat → Pa} {tp : Tp} {sh : Nat → Sh} {tl : Nat → Int32} {hi : Int32} {M : MS} {mo sz : Nat} {W S R : Nat → Int32} {C : Nat → Nat → Int32} {E : Nat → Ew} (hT : TI tp) (hsz : sz ≤ 8) : Ct l G yX3_takeItem cX3_takeItem 3 (some .boolean) 7 151 [.ref (ga G (81)), .ref (ga G (1 + 2))] ((va_up par 2 (mo, sz, W, S, R, C, E), tp, sh, tl, hi), M) (some (.int (b2 (tkIt tp (mo, sz, W, S, R, C, E)).1))) ((va_up par 2 (tkIt tp (mo, sz, W, S, R, C, E)).2.2, (tkIt tp (mo, sz, W, S, R, C, E)).2.1, sh, tl, hi), M) := by
  refine Ct.of (own := RX3) (by decide) rfl (Nat.le_of_ble_eq_true rfl) rfl (fun X => ?_)
  refine v_aload_n dX3_takeItem_0 0 rfl 1 rfl ?_
  refine v_callV (c_X3_kindNamed l hT.2.1 hT.2.2) kal_X3_kindNamed rfl dX3_takeItem_1 qw_504 qw_506 qw_6 rfl (by decide) (cel_tap G _) (by decide) [] (Nat.le_of_ble_eq_true rfl) rfl rfl 4 rfl ?_
  refine v_topi (kdN tp) rfl ?_
  refine v_w (w2 := ((va_up par 2 (mo, sz, W, S, R, C, E), tp, sh, tl, hi), M)) rfl ?_
  refine v_istore_n dX3_takeItem_4 2 rfl (by decide) [(2, .int (kdN tp)), (0, .ref (ga G (81))), (1, .ref (ga G (1 + 2)))] rfl 5 rfl ?_
  refine v_iload_n dX3_takeItem_5 0 rfl 6 rfl ?_
  refine v_if_lt dX3_takeItem_6 16 (by decide) 9 rfl (fun c1 => ?_) (fun c1 => ?_)
  · skip
    refine v_aload_n dX3_takeItem_16 1 rfl 17 rfl ?_
    refine v_ldcs dX3_takeItem_17 6 (by decide) rfl 19 rfl ?_
    refine v_callV (c_X3_isWord l (k := 6) (by omega) hT.2.1 hT.2.2) kal_X3_isWord rfl dX3_takeItem_19 qw_517 qw_519 qw_7 rfl (by decide) (cel_tap G _) (by decide) [] (Nat.le_of_ble_eq_true rfl) rfl rfl 22 rfl ?_
    refine v_topi (b2 (isWT tp 6)) rfl ?_
    refine v_w (w2 := ((va_up par 2 (mo, sz, W, S, R, C, E), tp, sh, tl, hi), M)) rfl ?_
    refine v_ifb_eq dX3_takeItem_22 32 (by decide) 25 rfl (fun c2 => ?_) (fun c2 => ?_)
    · skip
      refine v_aload_n dX3_takeItem_32 1 rfl 33 rfl ?_
      refine v_ldcs dX3_takeItem_33 7 (by decide) rfl 35 rfl ?_
      refine v_callV (c_X3_isWord l (k := 7) (by omega) hT.2.1 hT.2.2) kal_X3_isWord rfl dX3_takeItem_35 qw_517 qw_519 qw_7 rfl (by decide) (cel_tap G _) (by decide) [] (Nat.le_of_ble_eq_true rfl) rfl rfl 38 rfl ?_
      refine v_topi (b2 (isWT tp 7)) rfl ?_
      refine v_w (w2 := ((va_up par 2 (mo, sz, W, S, R, C, E), tp, sh, tl, hi), M)) rfl ?_
      refine v_ifb_eq dX3_takeItem_38 48 (by decide) 41 rfl (fun c3 => ?_) (fun c3 => ?_)
      · skip
        refine v_aload_n dX3_takeItem_48 1 rfl 49 rfl ?_
        refine v_ldcs dX3_takeItem_49 8 (by decide) rfl 51 rfl ?_
        refine v_callV (c_X3_isWord l (k := 8) (by omega) hT.2.1 hT.2.2) kal_X3_isWord rfl dX3_takeItem_51 qw_517 qw_519 qw_7 rfl (by decide) (cel_tap G _) (by decide) [] (Nat.le_of_ble_eq_true rfl) rfl rfl 54 rfl ?_
        refine v_topi (b2 (isWT tp 8)) rfl ?_
        refine v_w (w2 := ((va_up par 2 (mo, sz, W, S, R, C, E), tp, sh, tl, hi), M)) rfl ?_
        refine v_ifb_eq dX3_takeItem_54 63 (by decide) 57 rfl (fun c4 => ?_) (fun c4 => ?_)
        · skip
          refine v_aload_n dX3_takeItem_63 1 rfl 64 rfl ?_
          refine v_ldcs dX3_takeItem_64 9 (by decide) rfl 66 rfl ?_
          refine v_callV (c_X3_isWord l (k := 9) (by omega) hT.2.1 hT.2.2) kal_X3_isWord rfl dX3_takeItem_66 qw_517 qw_519 qw_7 rfl (by decide) (cel_tap G _) (by decide) [] (Nat.le_of_ble_eq_true rfl) rfl rfl 69 rfl ?_
          refine v_topi (b2 (isWT tp 9)) rfl ?_
          refine v_w (w2 := ((va_up par 2 (mo, sz, W, S, R, C, E), tp, sh, tl, hi), M)) rfl ?_
          refine v_ifb_eq dX3_takeItem_69 84 (by decide) 72 rfl (fun c5 => ?_) (fun c5 => ?_)
          · skip
            refine v_iconst dX3_takeItem_84 0 rfl 85 rfl ?_
            exact v_zret dX3_takeItem_85 rfl (by simp only [tkIt, c1, Int32.not_le.mpr c1, c2, c3, c4, c5, if_true, if_false, Bool.false_eq_true, ↓reduceIte] <;> first | rfl | (simp only [b2, c1, Int32.not_le.mpr c1, c2, c3, c4, c5, if_true, if_false, Bool.false_eq_true, ↓reduceIte]; done)) (by simp only [tkIt, c1, Int32.not_le.mpr c1, c2, c3, c4, c5, if_true, if_false, Bool.false_eq_true, ↓reduceIte] <;> first | rfl | (simp only [b2, c1, Int32.not_le.mpr c1, c2, c3, c4, c5, if_true, if_false, Bool.false_eq_true, ↓reduceIte]; done))
          · skip
            refine v_aload_n dX3_takeItem_72 1 rfl 73 rfl ?_
            refine v_aload_n dX3_takeItem_73 2 rfl 74 rfl ?_
            refine v_callV (c_X3_takeStore l hT) kal_X3_takeStore rfl dX3_takeItem_74 qw_594 qw_596 qw_12 rfl (by decide) (cel_tap G _) (by decide) [] (Nat.le_of_ble_eq_true rfl) rfl rfl 77 rfl ?_
            refine v_w (w2 := ((va_up par 2 ((tkSt tp (mo, sz, W, S, R, C, E)).2.2.1, (tkSt tp (mo, sz, W, S, R, C, E)).2.2.2.1, (tkSt tp (mo, sz, W, S, R, C, E)).2.2.2.2.1, (tkSt tp (mo, sz, W, S, R, C, E)).2.2.2.2.2.1, (tkSt tp (mo, sz, W, S, R, C, E)).2.2.2.2.2.2.1, (tkSt tp (mo, sz, W, S, R, C, E)).2.2.2.2.2.2.2.1, (tkSt tp (mo, sz, W, S, R, C, E)).2.2.2.2.2.2.2.2), (tkSt tp (mo, sz, W, S, R, C, E)).2.1, sh, tl, hi), M)) rfl ?_
            refine v_topi (b2 (tkSt tp (mo, sz, W, S, R, C, E)).1) rfl ?_
            refine v_ifb_eq dX3_takeItem_77 84 (by decide) 80 rfl (fun c6 => ?_) (fun c6 => ?_)
            · skip
              refine v_iconst dX3_takeItem_84 0 rfl 85 rfl ?_
              exact v_zret dX3_takeItem_85 rfl (by simp only [tkIt, c1, Int32.not_le.mpr c1, c2, c3, c4, c5, c6, if_true, if_false, Bool.false_eq_true, ↓reduceIte] <;> first | rfl | (simp only [b2, c1, Int32.not_le.mpr c1, c2, c3, c4, c5, c6, if_true, if_false, Bool.false_eq_true, ↓reduceIte]; done)) (by simp only [tkIt, c1, Int32.not_le.mpr c1, c2, c3, c4, c5, c6, if_true, if_false, Bool.false_eq_true, ↓reduceIte] <;> first | rfl | (simp only [b2, c1, Int32.not_le.mpr c1, c2, c3, c4, c5, c6, if_true, if_false, Bool.false_eq_true, ↓reduceIte]; done))
            · skip
              refine v_iconst dX3_takeItem_80 1 rfl 81 rfl ?_
              refine v_goto dX3_takeItem_81 85 (by decide) ?_
              exact v_zret dX3_takeItem_85 rfl (by simp only [tkIt, c1, Int32.not_le.mpr c1, c2, c3, c4, c5, c6, if_true, if_false, Bool.false_eq_true, ↓reduceIte] <;> first | rfl | (simp only [b2, c1, Int32.not_le.mpr c1, c2, c3, c4, c5, c6, if_true, if_false, Bool.false_eq_true, ↓reduceIte]; done)) (by simp only [tkIt, c1, Int32.not_le.mpr c1, c2, c3, c4, c5, c6, if_true, if_false, Bool.false_eq_true, ↓reduceIte] <;> first | rfl | (simp only [b2, c1, Int32.not_le.mpr c1, c2, c3, c4, c5, c6, if_true, if_false, Bool.false_eq_true, ↓reduceIte]; done))
        · skip
          refine v_aload_n dX3_takeItem_57 1 rfl 58 rfl ?_
          refine v_aload_n dX3_takeItem_58 2 rfl 59 rfl ?_
          refine v_callV (c_X3_takeCut l hT) kal_X3_takeCut rfl dX3_takeItem_59 qw_587 qw_589 qw_11 rfl (by decide) (cel_tap G _) (by decide) [] (Nat.le_of_ble_eq_true rfl) rfl rfl 62 rfl ?_
          refine v_w (w2 := ((va_up par 2 ((tkCu tp (mo, sz, W, S, R, C, E)).2.2.1, (tkCu tp (mo, sz, W, S, R, C, E)).2.2.2.1, (tkCu tp (mo, sz, W, S, R, C, E)).2.2.2.2.1, (tkCu tp (mo, sz, W, S, R, C, E)).2.2.2.2.2.1, (tkCu tp (mo, sz, W, S, R, C, E)).2.2.2.2.2.2.1, (tkCu tp (mo, sz, W, S, R, C, E)).2.2.2.2.2.2.2.1, (tkCu tp (mo, sz, W, S, R, C, E)).2.2.2.2.2.2.2.2), (tkCu tp (mo, sz, W, S, R, C, E)).2.1, sh, tl, hi), M)) rfl ?_
          refine v_topi (b2 (tkCu tp (mo, sz, W, S, R, C, E)).1) rfl ?_
          exact v_zret dX3_takeItem_62 (g_nar _) (by simp only [tkIt, c1, Int32.not_le.mpr c1, c2, c3, c4, if_true, if_false, Bool.false_eq_true, ↓reduceIte] <;> first | rfl | (simp only [b2, c1, Int32.not_le.mpr c1, c2, c3, c4, if_true, if_false, Bool.false_eq_true, ↓reduceIte]; done)) (by simp only [tkIt, c1, Int32.not_le.mpr c1, c2, c3, c4, if_true, if_false, Bool.false_eq_true, ↓reduceIte] <;> first | rfl | (simp only [b2, c1, Int32.not_le.mpr c1, c2, c3, c4, if_true, if_false, Bool.false_eq_true, ↓reduceIte]; done))
      · skip
        refine v_aload_n dX3_takeItem_41 1 rfl 42 rfl ?_
        refine v_aload_n dX3_takeItem_42 2 rfl 43 rfl ?_
        refine v_iconst dX3_takeItem_43 1 rfl 44 rfl ?_
        refine v_callV (c_X3_takeWeather l hT 1) kal_X3_takeWeather rfl dX3_takeItem_44 qw_581 qw_583 qw_10 rfl (by decide) (cel_tap G _) (by decide) [] (Nat.le_of_ble_eq_true rfl) rfl rfl 47 rfl ?_
        refine v_w (w2 := ((va_up par 2 ((tkWe tp (mo, sz, W, S, R, C, E) 1).2.2.1, (tkWe tp (mo, sz, W, S, R, C, E) 1).2.2.2.1, (tkWe tp (mo, sz, W, S, R, C, E) 1).2.2.2.2.1, (tkWe tp (mo, sz, W, S, R, C, E) 1).2.2.2.2.2.1, (tkWe tp (mo, sz, W, S, R, C, E) 1).2.2.2.2.2.2.1, (tkWe tp (mo, sz, W, S, R, C, E) 1).2.2.2.2.2.2.2.1, (tkWe tp (mo, sz, W, S, R, C, E) 1).2.2.2.2.2.2.2.2), (tkWe tp (mo, sz, W, S, R, C, E) 1).2.1, sh, tl, hi), M)) rfl ?_
        refine v_topi (b2 (tkWe tp (mo, sz, W, S, R, C, E) 1).1) rfl ?_
        exact v_zret dX3_takeItem_47 (g_nar _) (by simp only [tkIt, c1, Int32.not_le.mpr c1, c2, c3, if_true, if_false, Bool.false_eq_true, ↓reduceIte] <;> first | rfl | (simp only [b2, c1, Int32.not_le.mpr c1, c2, c3, if_true, if_false, Bool.false_eq_true, ↓reduceIte]; done)) (by simp only [tkIt, c1, Int32.not_le.mpr c1, c2, c3, if_true, if_false, Bool.false_eq_true, ↓reduceIte] <;> first | rfl | (simp only [b2, c1, Int32.not_le.mpr c1, c2, c3, if_true, if_false, Bool.false_eq_true, ↓reduceIte]; done))
    · skip
      refine v_aload_n dX3_takeItem_25 1 rfl 26 rfl ?_
      refine v_aload_n dX3_takeItem_26 2 rfl 27 rfl ?_
      refine v_iconst dX3_takeItem_27 (-1) rfl 28 rfl ?_
      refine v_callV (c_X3_takeWeather l hT (-1)) kal_X3_takeWeather rfl dX3_takeItem_28 qw_581 qw_583 qw_10 rfl (by decide) (cel_tap G _) (by decide) [] (Nat.le_of_ble_eq_true rfl) rfl rfl 31 rfl ?_
      refine v_w (w2 := ((va_up par 2 ((tkWe tp (mo, sz, W, S, R, C, E) (-1)).2.2.1, (tkWe tp (mo, sz, W, S, R, C, E) (-1)).2.2.2.1, (tkWe tp (mo, sz, W, S, R, C, E) (-1)).2.2.2.2.1, (tkWe tp (mo, sz, W, S, R, C, E) (-1)).2.2.2.2.2.1, (tkWe tp (mo, sz, W, S, R, C, E) (-1)).2.2.2.2.2.2.1, (tkWe tp (mo, sz, W, S, R, C, E) (-1)).2.2.2.2.2.2.2.1, (tkWe tp (mo, sz, W, S, R, C, E) (-1)).2.2.2.2.2.2.2.2), (tkWe tp (mo, sz, W, S, R, C, E) (-1)).2.1, sh, tl, hi), M)) rfl ?_
      refine v_topi (b2 (tkWe tp (mo, sz, W, S, R, C, E) (-1)).1) rfl ?_
      exact v_zret dX3_takeItem_31 (g_nar _) (by simp only [tkIt, c1, Int32.not_le.mpr c1, c2, if_true, if_false, Bool.false_eq_true, ↓reduceIte] <;> first | rfl | (simp only [b2, c1, Int32.not_le.mpr c1, c2, if_true, if_false, Bool.false_eq_true, ↓reduceIte]; done)) (by simp only [tkIt, c1, Int32.not_le.mpr c1, c2, if_true, if_false, Bool.false_eq_true, ↓reduceIte] <;> first | rfl | (simp only [b2, c1, Int32.not_le.mpr c1, c2, if_true, if_false, Bool.false_eq_true, ↓reduceIte]; done))
  · skip
    refine v_aload_n dX3_takeItem_9 1 rfl 10 rfl ?_
    refine v_aload_n dX3_takeItem_10 2 rfl 11 rfl ?_
    refine v_iload_n dX3_takeItem_11 0 rfl 12 rfl ?_
    refine v_callV (c_X3_takeEwe l hT (kdN tp) hsz) kal_X3_takeEwe rfl dX3_takeItem_12 qw_569 qw_571 qw_8 rfl (by decide) (cel_tap G _) (by decide) [] (Nat.le_of_ble_eq_true rfl) rfl rfl 15 rfl ?_
    refine v_w (w2 := ((va_up par 2 ((tkEw tp (mo, sz, W, S, R, C, E) (kdN tp)).2.2.1, (tkEw tp (mo, sz, W, S, R, C, E) (kdN tp)).2.2.2.1, (tkEw tp (mo, sz, W, S, R, C, E) (kdN tp)).2.2.2.2.1, (tkEw tp (mo, sz, W, S, R, C, E) (kdN tp)).2.2.2.2.2.1, (tkEw tp (mo, sz, W, S, R, C, E) (kdN tp)).2.2.2.2.2.2.1, (tkEw tp (mo, sz, W, S, R, C, E) (kdN tp)).2.2.2.2.2.2.2.1, (tkEw tp (mo, sz, W, S, R, C, E) (kdN tp)).2.2.2.2.2.2.2.2), (tkEw tp (mo, sz, W, S, R, C, E) (kdN tp)).2.1, sh, tl, hi), M)) rfl ?_
    refine v_topi (b2 (tkEw tp (mo, sz, W, S, R, C, E) (kdN tp)).1) rfl ?_
    exact v_zret dX3_takeItem_15 (g_nar _) (by simp only [tkIt, c1, Int32.not_lt.mp c1, if_true, if_false, Bool.false_eq_true, ↓reduceIte] <;> first | rfl | (simp only [b2, c1, Int32.not_lt.mp c1, if_true, if_false, Bool.false_eq_true, ↓reduceIte]; done)) (by simp only [tkIt, c1, Int32.not_lt.mp c1, if_true, if_false, Bool.false_eq_true, ↓reduceIte] <;> first | rfl | (simp only [b2, c1, Int32.not_lt.mp c1, if_true, if_false, Bool.false_eq_true, ↓reduceIte]; done))
