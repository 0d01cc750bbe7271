set_option maxHeartbeats 1000000 in
set_option maxRecDepth 4000 in
theorem lp_enough (l : Launch) {G : Gl} {X : VX} {ov : Option Value} {wF : WS} {par : Nat → Pa} {tp : Tp} {sh : Nat → Sh} {tl : Nat → Int32} {hi : Int32} {M : MS} (hsz : (par 0).2.1 ≤ 8) (hmo : (par 0).1 < 2 ^ 20) {ja : Nat} (hja : ja < 12) (b : Int32) (hk1 : ∀ i : Nat, i < 121 → (∀ j, j < i → (cEn (par, tp, sh, tl, hi) ja b) j = false) → (cEn (par, tp, sh, tl, hi) ja b) i = true → V l X 4 89 cX4_enough 4 RX4 (some .int) G ov wF ((va_up par 2 ((pPass (pCopy (par 2) (par 0)) i).1, (pPass (pCopy (par 2) (par 0)) i).2.1, (pPass (pCopy (par 2) (par 0)) i).2.2.1, (pPass (pCopy (par 2) (par 0)) i).2.2.2.1, (pPass (pCopy (par 2) (par 0)) i).2.2.2.2.1, (pPass (pCopy (par 2) (par 0)) i).2.2.2.2.2.1, (pPass (pCopy (par 2) (par 0)) i).2.2.2.2.2.2), tp, sh, tl, hi), M) 56 [(3, .int (nI i)), (0, .ref (ga G (0))), (1, .int (nI ja)), (2, .int b)] []) (hk0 : (∀ j, j < 121 → (cEn (par, tp, sh, tl, hi) ja b) j = false) → V l X 4 89 cX4_enough 4 RX4 (some .int) G ov wF ((va_up par 2 ((pPass (pCopy (par 2) (par 0)) 121).1, (pPass (pCopy (par 2) (par 0)) 121).2.1, (pPass (pCopy (par 2) (par 0)) 121).2.2.1, (pPass (pCopy (par 2) (par 0)) 121).2.2.2.1, (pPass (pCopy (par 2) (par 0)) 121).2.2.2.2.1, (pPass (pCopy (par 2) (par 0)) 121).2.2.2.2.2.1, (pPass (pCopy (par 2) (par 0)) 121).2.2.2.2.2.2), tp, sh, tl, hi), M) 71 [(3, .int (nI 121)), (0, .ref (ga G (0))), (1, .int (nI ja)), (2, .int b)] []) : ∀ n i : Nat, i + n = 121 → (∀ j, j < i → (cEn (par, tp, sh, tl, hi) ja b) j = false) → V l X 4 89 cX4_enough 4 RX4 (some .int) G ov wF ((va_up par 2 ((pPass (pCopy (par 2) (par 0)) i).1, (pPass (pCopy (par 2) (par 0)) i).2.1, (pPass (pCopy (par 2) (par 0)) i).2.2.1, (pPass (pCopy (par 2) (par 0)) i).2.2.2.1, (pPass (pCopy (par 2) (par 0)) i).2.2.2.2.1, (pPass (pCopy (par 2) (par 0)) i).2.2.2.2.2.1, (pPass (pCopy (par 2) (par 0)) i).2.2.2.2.2.2), tp, sh, tl, hi), M) 37 [(3, .int (nI i)), (0, .ref (ga G (0))), (1, .int (nI ja)), (2, .int b)] [] := by
  intro n
  induction n with
  | zero =>
    intro i hin hno
    obtain rfl : 121 = i := by omega
    refine v_iload_n dX4_enough_37 0 rfl 38 rfl ?_
    refine v_bipush dX4_enough_38 120 rfl 40 rfl ?_
    refine n_icmp_gt dX4_enough_40 121 120 rfl rfl (by omega) (by omega) 71 (by decide) 43 rfl (fun c1 => ?_) (fun c1 => absurd c1 (by omega))
    exact hk0 hno
  | succ n ih =>
    intro i hin hno
    refine v_iload_n dX4_enough_37 0 rfl 38 rfl ?_
    refine v_bipush dX4_enough_38 120 rfl 40 rfl ?_
    refine n_icmp_gt dX4_enough_40 i 120 rfl rfl (by omega) (by omega) 71 (by decide) 43 rfl (fun c1 => absurd c1 (by omega)) (fun c1 => ?_)
    refine v_aload_n dX4_enough_43 1 rfl 44 rfl ?_
    refine v_get (i := 2) (ci := 4) (T := TX4) (C := RX4) (N := 8) (v := .ref (ga G (1 + 2))) dX4_enough_44 inB4 rfl qw_198 rfl (by decide) (by decide) (cel_obj G _) rfl 47 rfl ?_
    refine v_get (i := 3) (ci := 1) (T := TX1) (C := RX1) (N := 7) (v := .ref (ga G (7 + 2))) dX4_enough_47 inB1 rfl qw_123 rfl (by decide) (k_par h23) (f_par h23) rfl 50 rfl ?_
    refine v_iload_n dX4_enough_50 2 rfl 51 rfl ?_
    refine v_iald (a := (pPass (pCopy (par 2) (par 0)) i).2.2.2.1) dX4_enough_51 (k_sto h23) (f_sto h23) ja rfl (by omega) (by decide) 52 rfl ?_
    refine v_iload_n dX4_enough_52 3 rfl 53 rfl ?_
    refine v_icmp_lt dX4_enough_53 58 (by decide) 56 rfl (fun c2 => ?_) (fun c2 => ?_)
    · skip
      refine v_aload_n dX4_enough_58 1 rfl 59 rfl ?_
      refine v_get (i := 2) (ci := 4) (T := TX4) (C := RX4) (N := 8) (v := .ref (ga G (1 + 2))) dX4_enough_59 inB4 rfl qw_198 rfl (by decide) (by decide) (cel_obj G _) rfl 62 rfl ?_
      refine v_callV (c_X1_passOne l h23 (by have q1 : (pPass (pCopy (par 2) (par 0)) i).2.1 = (par 0).2.1 := pPass_sz (pCopy (par 2) (par 0)) i; omega) (by have q2 : (pPass (pCopy (par 2) (par 0)) i).1 = (par 0).1 + i := pPass_mo (pCopy (par 2) (par 0)) i; omega)) kal_X1_passOne rfl dX4_enough_62 qw_438 qw_385 qw_386 rfl (k_par h23) (f_par h23) (by decide) [] (Nat.le_of_ble_eq_true rfl) rfl rfl 65 rfl ?_
      refine v_iinc dX4_enough_65 0 rfl (nI (i + 1)) (nI_1 _) (by decide) [(3, .int (nI (i + 1))), (0, .ref (ga G (0))), (1, .int (nI ja)), (2, .int b)] rfl 68 rfl ?_
      refine v_goto dX4_enough_68 37 (by decide) ?_
      exact ih (i + 1) (by omega) (lt_s hno (by simp only [cEn, cQ, decide_eq_false_iff_not]; exact Int32.not_le.mpr c2))
    · skip
      exact hk1 i (by omega) hno (by simp only [cEn, cQ, decide_eq_true_eq]; exact Int32.not_lt.mp c2)
set_option maxHeartbeats 1000000 in
set_option maxRecDepth 4000 in
theorem c_X4_enough (l : Launch) {G : Gl} {K : CS} {M : MS} (hsz : (K.1 0).2.1 ≤ 8) (hmo : (K.1 0).1 < 2 ^ 20) (a b : Int32) : Ct l G yX4_enough cX4_enough 4 (some .int) 4 89 [.ref (ga G (0)), .int a, .int b] (K, M) (some (.int (cEnough K a b).1)) ((cEnough K a b).2, M) := by
  obtain ⟨par, tp, sh, tl, hi⟩ := K
  dsimp only at hsz hmo
  refine Ct.of (own := RX4) (by decide) rfl (Nat.le_of_ble_eq_true rfl) rfl (fun X => ?_)
  refine v_iload_n dX4_enough_0 1 rfl 1 rfl ?_
  refine v_callS (c_X4_isMonth l a) kal_X4_isMonth rfl dX4_enough_1 qw_225 qw_226 (by decide) [] (Nat.le_of_ble_eq_true rfl) rfl rfl 4 rfl ?_
  refine v_ifb_eq dX4_enough_4 18 (by decide) 7 rfl (fun c1 => ?_) (fun c1 => ?_)
  · skip
    refine v_aload_n dX4_enough_18 0 rfl 19 rfl ?_
    refine v_iconst dX4_enough_19 0 rfl 20 rfl ?_
    refine v_callV (c_X4_found l (k := 0) (by decide)) kal_X4_found rfl dX4_enough_20 qw_234 qw_236 qw_0 rfl (by decide) (cel_obj G _) (by decide) [] (Nat.le_of_ble_eq_true rfl) rfl rfl 23 rfl ?_
    exact v_iret dX4_enough_23 (by simp only [cEnough, c1, Bool.and_self, Bool.and_true, Bool.true_and, Bool.and_false, Bool.false_and, if_true, if_false, Bool.false_eq_true, ↓reduceIte] <;> first | rfl | (simp only [true_and, if_true, if_false, ↓reduceIte] <;> rfl) | (simp [cFind, kP, kL, sE, va_up_i, true_and]; done)) (by simp only [cEnough, c1, Bool.and_self, Bool.and_true, Bool.true_and, Bool.and_false, Bool.false_and, if_true, if_false, Bool.false_eq_true, ↓reduceIte] <;> first | rfl | (simp only [true_and, if_true, if_false, ↓reduceIte] <;> rfl) | (simp [cFind, kP, kL, sE, va_up_i, true_and]; done))
  · skip
    obtain ⟨ja, h1ja, h2ja, rfl⟩ := inb_ix (lo := 0) (hi := 11) c1
    have eja : (nI ja).toNatClampNeg = ja := nI_clamp (by omega)
    refine v_iload_n dX4_enough_7 2 rfl 8 rfl ?_
    refine v_iconst dX4_enough_8 0 rfl 9 rfl ?_
    refine v_sipush dX4_enough_9 9999 rfl 12 rfl ?_
    refine v_callS (c_X4_isWithin l b 0 9999 (lo := 0) (hi := 9999) rfl rfl) kal_X4_isWithin rfl dX4_enough_12 qw_228 qw_229 (by decide) [] (Nat.le_of_ble_eq_true rfl) rfl rfl 15 rfl ?_
    refine v_ifb_ne dX4_enough_15 24 (by decide) 18 rfl (fun c2 => ?_) (fun c2 => ?_)
    · skip
      refine v_aload_n dX4_enough_24 0 rfl 25 rfl ?_
      refine v_get (i := 2) (ci := 4) (T := TX4) (C := RX4) (N := 8) (v := .ref (ga G (1 + 2))) dX4_enough_25 inB4 rfl qw_198 rfl (by decide) (by decide) (cel_obj G _) rfl 28 rfl ?_
      refine v_aload_n dX4_enough_28 0 rfl 29 rfl ?_
      refine v_get (i := 0) (ci := 4) (T := TX4) (C := RX4) (N := 8) (v := .ref (ga G (1 + 0))) dX4_enough_29 inB4 rfl qw_196 rfl (by decide) (by decide) (cel_obj G _) rfl 32 rfl ?_
      refine v_w (w2 := ((va_up par 2 ((par 2).1, (par 2).2.1, (par 2).2.2.1, (par 2).2.2.2.1, (par 2).2.2.2.2.1, (par 2).2.2.2.2.2.1, (par 2).2.2.2.2.2.2), tp, sh, tl, hi), M)) (congrArg (fun z => ((z, tp, sh, tl, hi), M)) (va_up_i par 2).symm) ?_
      refine v_callV (c_X1_become l h23 (q := 0) h03 (by decide) (by omega)) kal_X1_become rfl dX4_enough_32 qw_428 qw_429 qw_430 rfl (k_par h23) (f_par h23) (by decide) [] (Nat.le_of_ble_eq_true rfl) rfl rfl 35 rfl ?_
      refine v_iconst dX4_enough_35 0 rfl 36 rfl ?_
      refine v_istore_n dX4_enough_36 3 rfl (by decide) [(3, .int 0), (0, .ref (ga G (0))), (1, .int (nI ja)), (2, .int b)] rfl 37 rfl ?_
      refine lp_enough l hsz hmo (ja := ja) (by omega) b (fun i hi hno hyes => ?_) (fun hno => ?_) 121 0 (by omega) (fun _ h => absurd h (Nat.not_lt_zero _))
      · skip
        have hF : fa_first (cEn (par, tp, sh, tl, hi) ja b) 121 = i := fa_first_eq (by omega) hno (fun _ => hyes)
        have hF2 : i < 121 := hi
        refine v_iload_n dX4_enough_56 0 rfl 57 rfl ?_
        exact v_iret dX4_enough_57 (by simp only [cEnough, c1, c2, eja, hF, hF2, Bool.and_self, Bool.and_true, Bool.true_and, Bool.and_false, Bool.false_and, if_true, if_false, Bool.false_eq_true, ↓reduceIte] <;> first | rfl | (simp only [eja, hF, hF2, if_true, if_false, ↓reduceIte] <;> rfl) | (simp [cFind, kP, kL, sE, va_up_i, eja, hF, hF2]; done)) (by simp only [cEnough, c1, c2, eja, hF, hF2, Bool.and_self, Bool.and_true, Bool.true_and, Bool.and_false, Bool.false_and, if_true, if_false, Bool.false_eq_true, ↓reduceIte] <;> first | rfl | (simp only [eja, hF, hF2, if_true, if_false, ↓reduceIte] <;> rfl) | (simp [cFind, kP, kL, sE, va_up_i, eja, hF, hF2]; done))
      · skip
        have hF : fa_first (cEn (par, tp, sh, tl, hi) ja b) 121 = 121 := fa_first_eq (Nat.le_refl _) hno (fun h => absurd h (Nat.lt_irrefl _))
        refine v_aload_n dX4_enough_71 1 rfl 72 rfl ?_
        refine v_iconst dX4_enough_72 3 rfl 73 rfl ?_
        refine v_callV (c_X4_found l (k := 3) (by decide)) kal_X4_found rfl dX4_enough_73 qw_234 qw_236 qw_0 rfl (by decide) (cel_obj G _) (by decide) [] (Nat.le_of_ble_eq_true rfl) rfl rfl 76 rfl ?_
        exact v_iret dX4_enough_76 (by simp only [cEnough, c1, c2, eja, hF, Nat.lt_irrefl, Bool.and_self, Bool.and_true, Bool.true_and, Bool.and_false, Bool.false_and, if_true, if_false, Bool.false_eq_true, ↓reduceIte] <;> first | rfl | (simp only [eja, hF, Nat.lt_irrefl, if_true, if_false, ↓reduceIte] <;> rfl) | (simp [cFind, kP, kL, sE, va_up_i, eja, hF, Nat.lt_irrefl]; done)) (by simp only [cEnough, c1, c2, eja, hF, Nat.lt_irrefl, Bool.and_self, Bool.and_true, Bool.true_and, Bool.and_false, Bool.false_and, if_true, if_false, Bool.false_eq_true, ↓reduceIte] <;> first | rfl | (simp only [eja, hF, Nat.lt_irrefl, if_true, if_false, ↓reduceIte] <;> rfl) | (simp [cFind, kP, kL, sE, va_up_i, eja, hF, Nat.lt_irrefl]; done))
    · skip
      refine v_aload_n dX4_enough_18 0 rfl 19 rfl ?_
      refine v_iconst dX4_enough_19 0 rfl 20 rfl ?_
      refine v_callV (c_X4_found l (k := 0) (by decide)) kal_X4_found rfl dX4_enough_20 qw_234 qw_236 qw_0 rfl (by decide) (cel_obj G _) (by decide) [] (Nat.le_of_ble_eq_true rfl) rfl rfl 23 rfl ?_
      exact v_iret dX4_enough_23 (by simp only [cEnough, c1, c2, eja, Bool.and_self, Bool.and_true, Bool.true_and, Bool.and_false, Bool.false_and, if_true, if_false, Bool.false_eq_true, ↓reduceIte] <;> first | rfl | (simp only [eja, if_true, if_false, ↓reduceIte] <;> rfl) | (simp [cFind, kP, kL, sE, va_up_i, eja]; done)) (by simp only [cEnough, c1, c2, eja, Bool.and_self, Bool.and_true, Bool.true_and, Bool.and_false, Bool.false_and, if_true, if_false, Bool.false_eq_true, ↓reduceIte] <;> first | rfl | (simp only [eja, if_true, if_false, ↓reduceIte] <;> rfl) | (simp [cFind, kP, kL, sE, va_up_i, eja]; done))
set_option maxHeartbeats 1000000 in
set_option maxRecDepth 4000 in
theorem lp_calm (l : Launch) {G : Gl} {X : VX} {ov : Option Value} {wF : WS} {par : Nat → Pa} {tp : Tp} {sh : Nat → Sh} {tl : Nat → Int32} {hi : Int32} {M : MS} {ja : Nat} (fr0 ds : Int32) (hk1 : ∀ i : Nat, i < 121 → (∀ j, j < i → (clP fr0 ds) j = false) → (clP fr0 ds) i = true → V l X 2 43 cX4_calm 5 RX4 (some .int) G ov wF ((par, tp, sh, tl, hi), M) 57 [(4, .int (nI i)), (2, .int (clm fr0 ds i)), (3, .int ds), (0, .ref (ga G (0))), (1, .int (nI ja))] []) (hk0 : (∀ j, j < 121 → (clP fr0 ds) j = false) → V l X 2 43 cX4_calm 5 RX4 (some .int) G ov wF ((par, tp, sh, tl, hi), M) 70 [(4, .int (nI 121)), (2, .int (clm fr0 ds 121)), (3, .int ds), (0, .ref (ga G (0))), (1, .int (nI ja))] []) : ∀ n i : Nat, i + n = 121 → (∀ j, j < i → (clP fr0 ds) j = false) → V l X 2 43 cX4_calm 5 RX4 (some .int) G ov wF ((par, tp, sh, tl, hi), M) 46 [(4, .int (nI i)), (2, .int (clm fr0 ds i)), (3, .int ds), (0, .ref (ga G (0))), (1, .int (nI ja))] [] := by
  intro n
  induction n with
  | zero =>
    intro i hin hno
    obtain rfl : 121 = i := by omega
    refine v_iload dX4_calm_46 0 rfl 48 rfl ?_
    refine v_bipush dX4_calm_48 120 rfl 50 rfl ?_
    refine n_icmp_gt dX4_calm_50 121 120 rfl rfl (by omega) (by omega) 70 (by decide) 53 rfl (fun c1 => ?_) (fun c1 => absurd c1 (by omega))
    exact hk0 hno
  | succ n ih =>
    intro i hin hno
    refine v_iload dX4_calm_46 0 rfl 48 rfl ?_
    refine v_bipush dX4_calm_48 120 rfl 50 rfl ?_
    refine n_icmp_gt dX4_calm_50 i 120 rfl rfl (by omega) (by omega) 70 (by decide) 53 rfl (fun c1 => absurd c1 (by omega)) (fun c1 => ?_)
    refine v_iload_n dX4_calm_53 1 rfl 54 rfl ?_
    refine v_if_gt dX4_calm_54 60 (by decide) 57 rfl (fun c2 => ?_) (fun c2 => ?_)
    · skip
      refine v_iload_n dX4_calm_60 1 rfl 61 rfl ?_
      refine v_iload_n dX4_calm_61 2 rfl 62 rfl ?_
      refine v_isub dX4_calm_62 63 rfl ?_
      refine v_istore_n dX4_calm_63 2 rfl (by decide) [(2, .int ((clm fr0 ds i) - ds)), (4, .int (nI i)), (3, .int ds), (0, .ref (ga G (0))), (1, .int (nI ja))] rfl 64 rfl ?_
      refine v_iinc dX4_calm_64 1 rfl (nI (i + 1)) (nI_1 _) (by decide) [(4, .int (nI (i + 1))), (2, .int ((clm fr0 ds i) - ds)), (3, .int ds), (0, .ref (ga G (0))), (1, .int (nI ja))] rfl 67 rfl ?_
      refine v_goto dX4_calm_67 46 (by decide) ?_
      exact ih (i + 1) (by omega) (lt_s hno (by simp only [clP, decide_eq_false_iff_not]; exact Int32.not_le.mpr c2))
    · skip
      exact hk1 i (by omega) hno (by simp only [clP, decide_eq_true_eq]; exact Int32.not_lt.mp c2)
set_option maxHeartbeats 1000000 in
set_option maxRecDepth 4000 in
theorem c_X4_calm (l : Launch) {G : Gl} {K : CS} {M : MS} (hsz : (K.1 0).2.1 ≤ 8) (a : Int32) : Ct l G yX4_calm cX4_calm 5 (some .int) 2 43 [.ref (ga G (0)), .int a] (K, M) (some (.int (cCalm K a).1)) ((cCalm K a).2, M) := by
  obtain ⟨par, tp, sh, tl, hi⟩ := K
  dsimp only at hsz
  refine Ct.of (own := RX4) (by decide) rfl (Nat.le_of_ble_eq_true rfl) rfl (fun X => ?_)
  refine v_aload_n dX4_calm_0 0 rfl 1 rfl ?_
  refine v_iload_n dX4_calm_1 1 rfl 2 rfl ?_
  refine v_callV (c_X4_isEwe l (K := (par, tp, sh, tl, hi)) (by first | exact hsz | assumption) a) kal_X4_isEwe rfl dX4_calm_2 qw_285 qw_287 qw_1 rfl (by decide) (cel_obj G _) (by decide) [] (Nat.le_of_ble_eq_true rfl) rfl rfl 5 rfl ?_
  refine v_topi (b2 (inE (par 0).2.1 a)) rfl ?_
  refine v_w (w2 := ((par, tp, sh, tl, hi), M)) rfl ?_
  refine v_ifb_ne dX4_calm_5 14 (by decide) 8 rfl (fun c1 => ?_) (fun c1 => ?_)
  · skip
    obtain ⟨ja, h2ja, rfl⟩ := inE_ix c1
    have eja : (nI ja).toNatClampNeg = ja := nI_clamp (by omega)
    refine v_aload_n dX4_calm_14 0 rfl 15 rfl ?_
    refine v_get (i := 0) (ci := 4) (T := TX4) (C := RX4) (N := 8) (v := .ref (ga G (1 + 0))) dX4_calm_15 inB4 rfl qw_196 rfl (by decide) (by decide) (cel_obj G _) rfl 18 rfl ?_
    refine v_get (i := 5) (ci := 1) (T := TX1) (C := RX1) (N := 7) (v := .ref (ga G (13 + 0))) dX4_calm_18 inB1 rfl qw_128 rfl (by decide) (k_par h03) (cel_par G _ h03) rfl 21 rfl ?_
    refine v_iload_n dX4_calm_21 1 rfl 22 rfl ?_
    refine v_aaldE dX4_calm_22 (k_ews h03) (cel_ews G _ h03) ja rfl (by omega) (by decide) rfl 23 rfl ?_
    refine v_get (i := 1) (ci := 0) (T := TX0) (C := RX0) (N := 4) (v := .int ((par 0).2.2.2.2.2.2 ja).2.1) dX4_calm_23 inB0 rfl qw_98 rfl (by decide) (k_ewe (by omega)) (cel_ewe G _ (by omega) (by omega)) rfl 26 rfl ?_
    refine v_istore_n dX4_calm_26 2 rfl (by decide) [(2, .int ((par 0).2.2.2.2.2.2 ja).2.1), (0, .ref (ga G (0))), (1, .int (nI ja))] rfl 27 rfl ?_
    refine v_aload_n dX4_calm_27 1 rfl 28 rfl ?_
    refine v_get (i := 0) (ci := 4) (T := TX4) (C := RX4) (N := 8) (v := .ref (ga G (1 + 0))) dX4_calm_28 inB4 rfl qw_196 rfl (by decide) (by decide) (cel_obj G _) rfl 31 rfl ?_
    refine v_get (i := 5) (ci := 1) (T := TX1) (C := RX1) (N := 7) (v := .ref (ga G (13 + 0))) dX4_calm_31 inB1 rfl qw_128 rfl (by decide) (k_par h03) (cel_par G _ h03) rfl 34 rfl ?_
    refine v_iload_n dX4_calm_34 2 rfl 35 rfl ?_
    refine v_aaldE dX4_calm_35 (k_ews h03) (cel_ews G _ h03) ja rfl (by omega) (by decide) rfl 36 rfl ?_
    refine v_get (i := 0) (ci := 0) (T := TX0) (C := RX0) (N := 4) (v := .int ((par 0).2.2.2.2.2.2 ja).1) dX4_calm_36 inB0 rfl qw_95 rfl (by decide) (k_ewe (by omega)) (cel_ewe G _ (by omega) (by omega)) rfl 39 rfl ?_
    refine v_callS (c_X4_calms l ((par 0).2.2.2.2.2.2 ja).1) kal_X4_calms rfl dX4_calm_39 qw_289 qw_290 (by decide) [] (Nat.le_of_ble_eq_true rfl) rfl rfl 42 rfl ?_
    refine v_istore_n dX4_calm_42 3 rfl (by decide) [(3, .int (kCalms ((par 0).2.2.2.2.2.2 ja).1)), (2, .int ((par 0).2.2.2.2.2.2 ja).2.1), (0, .ref (ga G (0))), (1, .int (nI ja))] rfl 43 rfl ?_
    refine v_iconst dX4_calm_43 0 rfl 44 rfl ?_
    refine v_istore dX4_calm_44 (by decide) [(4, .int 0), (3, .int (kCalms ((par 0).2.2.2.2.2.2 ja).1)), (2, .int ((par 0).2.2.2.2.2.2 ja).2.1), (0, .ref (ga G (0))), (1, .int (nI ja))] rfl 46 rfl ?_
    refine v_pick [0, 2, 1, 3, 4] [(4, .int 0), (2, .int ((par 0).2.2.2.2.2.2 ja).2.1), (3, .int (kCalms ((par 0).2.2.2.2.2.2 ja).1)), (0, .ref (ga G (0))), (1, .int (nI ja))] rfl ?_
    refine lp_calm l (ja := ja) ((par 0).2.2.2.2.2.2 ja).2.1 (kCalms ((par 0).2.2.2.2.2.2 ja).1) (fun i hi hno hyes => ?_) (fun hno => ?_) 121 0 (by omega) (fun _ h => absurd h (Nat.not_lt_zero _))
    · skip
      have hF : fa_first (clP ((par 0).2.2.2.2.2.2 ja).2.1 (kCalms ((par 0).2.2.2.2.2.2 ja).1)) 121 = i := fa_first_eq (by omega) hno (fun _ => hyes)
      have hF2 : i < 121 := hi
      refine v_iload dX4_calm_57 0 rfl 59 rfl ?_
      exact v_iret dX4_calm_59 (by simp only [cCalm, c1, eja, hF, hF2, Bool.and_self, Bool.and_true, Bool.true_and, Bool.and_false, Bool.false_and, if_true, if_false, Bool.false_eq_true, ↓reduceIte] <;> first | rfl | (simp only [eja, hF, hF2, if_true, if_false, ↓reduceIte] <;> rfl) | (simp [cFind, kP, kL, sE, va_up_i, eja, hF, hF2]; done)) (by simp only [cCalm, c1, eja, hF, hF2, Bool.and_self, Bool.and_true, Bool.true_and, Bool.and_false, Bool.false_and, if_true, if_false, Bool.false_eq_true, ↓reduceIte] <;> first | rfl | (simp only [eja, hF, hF2, if_true, if_false, ↓reduceIte] <;> rfl) | (simp [cFind, kP, kL, sE, va_up_i, eja, hF, hF2]; done))
    · skip
      have hF : fa_first (clP ((par 0).2.2.2.2.2.2 ja).2.1 (kCalms ((par 0).2.2.2.2.2.2 ja).1)) 121 = 121 := fa_first_eq (Nat.le_refl _) hno (fun h => absurd h (Nat.lt_irrefl _))
      refine v_aload_n dX4_calm_70 3 rfl 71 rfl ?_
      refine v_iconst dX4_calm_71 3 rfl 72 rfl ?_
      refine v_callV (c_X4_found l (k := 3) (by decide)) kal_X4_found rfl dX4_calm_72 qw_234 qw_236 qw_0 rfl (by decide) (cel_obj G _) (by decide) [] (Nat.le_of_ble_eq_true rfl) rfl rfl 75 rfl ?_
      exact v_iret dX4_calm_75 (by simp only [cCalm, c1, eja, hF, Nat.lt_irrefl, Bool.and_self, Bool.and_true, Bool.true_and, Bool.and_false, Bool.false_and, if_true, if_false, Bool.false_eq_true, ↓reduceIte] <;> first | rfl | (simp only [eja, hF, Nat.lt_irrefl, if_true, if_false, ↓reduceIte] <;> rfl) | (simp [cFind, kP, kL, sE, va_up_i, eja, hF, Nat.lt_irrefl]; done)) (by simp only [cCalm, c1, eja, hF, Nat.lt_irrefl, Bool.and_self, Bool.and_true, Bool.true_and, Bool.and_false, Bool.false_and, if_true, if_false, Bool.false_eq_true, ↓reduceIte] <;> first | rfl | (simp only [eja, hF, Nat.lt_irrefl, if_true, if_false, ↓reduceIte] <;> rfl) | (simp [cFind, kP, kL, sE, va_up_i, eja, hF, Nat.lt_irrefl]; done))
  · skip
    refine v_aload_n dX4_calm_8 0 rfl 9 rfl ?_
    refine v_iconst dX4_calm_9 0 rfl 10 rfl ?_
    refine v_callV (c_X4_found l (k := 0) (by decide)) kal_X4_found rfl dX4_calm_10 qw_234 qw_236 qw_0 rfl (by decide) (cel_obj G _) (by decide) [] (Nat.le_of_ble_eq_true rfl) rfl rfl 13 rfl ?_
    exact v_iret dX4_calm_13 (by simp only [cCalm, c1, Bool.and_self, Bool.and_true, Bool.true_and, Bool.and_false, Bool.false_and, if_true, if_false, Bool.false_eq_true, ↓reduceIte] <;> first | rfl | (simp only [true_and, if_true, if_false, ↓reduceIte] <;> rfl) | (simp [cFind, kP, kL, sE, va_up_i, true_and]; done)) (by simp only [cCalm, c1, Bool.and_self, Bool.and_true, Bool.true_and, Bool.and_false, Bool.false_and, if_true, if_false, Bool.false_eq_true, ↓reduceIte] <;> first | rfl | (simp only [true_and, if_true, if_false, ↓reduceIte] <;> rfl) | (simp [cFind, kP, kL, sE, va_up_i, true_and]; done))
