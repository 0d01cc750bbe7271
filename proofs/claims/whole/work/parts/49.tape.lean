set_option maxHeartbeats 1000000 in
set_option maxRecDepth 4000 in
theorem c_X3_isLetter (l : Launch) {G : Gl} {w : WS} (x : Int32) : Ct l G yX3_isLetter cX3_isLetter 1 (some .boolean) 0 0 [.int x] w (some (.int (b2 (inb 97 122 x)))) w := by
  refine Ct.of (own := RX3) (by decide) rfl (Nat.le_of_ble_eq_true rfl) rfl (fun X => ?_)
  refine v_iload_n dX3_isLetter_0 0 rfl 1 rfl ?_
  refine v_bipush dX3_isLetter_1 97 rfl 3 rfl ?_
  refine v_icmp_lt dX3_isLetter_3 16 (by decide) 6 rfl (fun c1 => ?_) (fun c1 => ?_)
  · skip
    refine v_iconst dX3_isLetter_16 0 rfl 17 rfl ?_
    exact v_zret dX3_isLetter_17 rfl (by exact congrArg (fun q => some (Value.int q)) (b2_raw (a := 97) (b := 122) rfl rfl (by first | exact Or.inl ⟨rfl, Or.inl c1⟩ | exact Or.inl ⟨rfl, Or.inr c2⟩ | exact Or.inr ⟨rfl, c1, c2⟩))) (by rfl)
  · skip
    refine v_iload_n dX3_isLetter_6 0 rfl 7 rfl ?_
    refine v_bipush dX3_isLetter_7 122 rfl 9 rfl ?_
    refine v_icmp_gt dX3_isLetter_9 16 (by decide) 12 rfl (fun c2 => ?_) (fun c2 => ?_)
    · skip
      refine v_iconst dX3_isLetter_16 0 rfl 17 rfl ?_
      exact v_zret dX3_isLetter_17 rfl (by exact congrArg (fun q => some (Value.int q)) (b2_raw (a := 97) (b := 122) rfl rfl (by first | exact Or.inl ⟨rfl, Or.inl c1⟩ | exact Or.inl ⟨rfl, Or.inr c2⟩ | exact Or.inr ⟨rfl, c1, c2⟩))) (by rfl)
    · skip
      refine v_iconst dX3_isLetter_12 1 rfl 13 rfl ?_
      refine v_goto dX3_isLetter_13 17 (by decide) ?_
      exact v_zret dX3_isLetter_17 rfl (by exact congrArg (fun q => some (Value.int q)) (b2_raw (a := 97) (b := 122) rfl rfl (by first | exact Or.inl ⟨rfl, Or.inl c1⟩ | exact Or.inl ⟨rfl, Or.inr c2⟩ | exact Or.inr ⟨rfl, c1, c2⟩))) (by rfl)
set_option maxHeartbeats 1000000 in
set_option maxRecDepth 4000 in
theorem c_X3_isDigit (l : Launch) {G : Gl} {w : WS} (x : Int32) : Ct l G yX3_isDigit cX3_isDigit 1 (some .boolean) 0 0 [.int x] w (some (.int (b2 (inb 48 57 x)))) w := by
  refine Ct.of (own := RX3) (by decide) rfl (Nat.le_of_ble_eq_true rfl) rfl (fun X => ?_)
  refine v_iload_n dX3_isDigit_0 0 rfl 1 rfl ?_
  refine v_bipush dX3_isDigit_1 48 rfl 3 rfl ?_
  refine v_icmp_lt dX3_isDigit_3 16 (by decide) 6 rfl (fun c1 => ?_) (fun c1 => ?_)
  · skip
    refine v_iconst dX3_isDigit_16 0 rfl 17 rfl ?_
    exact v_zret dX3_isDigit_17 rfl (by exact congrArg (fun q => some (Value.int q)) (b2_raw (a := 48) (b := 57) rfl rfl (by first | exact Or.inl ⟨rfl, Or.inl c1⟩ | exact Or.inl ⟨rfl, Or.inr c2⟩ | exact Or.inr ⟨rfl, c1, c2⟩))) (by rfl)
  · skip
    refine v_iload_n dX3_isDigit_6 0 rfl 7 rfl ?_
    refine v_bipush dX3_isDigit_7 57 rfl 9 rfl ?_
    refine v_icmp_gt dX3_isDigit_9 16 (by decide) 12 rfl (fun c2 => ?_) (fun c2 => ?_)
    · skip
      refine v_iconst dX3_isDigit_16 0 rfl 17 rfl ?_
      exact v_zret dX3_isDigit_17 rfl (by exact congrArg (fun q => some (Value.int q)) (b2_raw (a := 48) (b := 57) rfl rfl (by first | exact Or.inl ⟨rfl, Or.inl c1⟩ | exact Or.inl ⟨rfl, Or.inr c2⟩ | exact Or.inr ⟨rfl, c1, c2⟩))) (by rfl)
    · skip
      refine v_iconst dX3_isDigit_12 1 rfl 13 rfl ?_
      refine v_goto dX3_isDigit_13 17 (by decide) ?_
      exact v_zret dX3_isDigit_17 rfl (by exact congrArg (fun q => some (Value.int q)) (b2_raw (a := 48) (b := 57) rfl rfl (by first | exact Or.inl ⟨rfl, Or.inl c1⟩ | exact Or.inl ⟨rfl, Or.inr c2⟩ | exact Or.inr ⟨rfl, c1, c2⟩))) (by rfl)
set_option maxHeartbeats 1000000 in
set_option maxRecDepth 4000 in
theorem lp_step1 (l : Launch) {G : Gl} {X : VX} {ov : Option Value} {wF : WS} {par : Nat → Pa} {tb : Nat → Int32} {tz te : Nat} {tk tv : Int32} (htz : tz ≤ 120) {sh : Nat → Sh} {tl : Nat → Int32} {hi : Int32} {M : MS} : ∀ (n : Nat) (i : Nat), tz - i = n → i ≤ 120 → V l X 1 21 cX3_step 1 RX3 none G ov wF ((par, (tb, tz, tk, (skW (pSp tb) n i), te, tv), sh, tl, hi), M) 46 [(0, .ref (ga G (81)))] [] → V l X 1 21 cX3_step 1 RX3 none G ov wF ((par, (tb, tz, tk, i, te, tv), sh, tl, hi), M) 8 [(0, .ref (ga G (81)))] [] := by
  intro n
  induction n with
  | zero =>
    intro i hin hi20 hk
    refine v_aload_n dX3_step_8 0 rfl 9 rfl ?_
    refine v_get (i := 3) (ci := 3) (T := TX3) (C := RX3) (N := 6) (v := .int (nI i)) dX3_step_9 inB3 rfl qw_158 rfl (by decide) (by decide) (cel_tap G _) rfl 12 rfl ?_
    refine v_aload_n dX3_step_12 0 rfl 13 rfl ?_
    refine v_get (i := 1) (ci := 3) (T := TX3) (C := RX3) (N := 6) (v := .int (nI tz)) dX3_step_13 inB3 rfl qw_155 rfl (by decide) (by decide) (cel_tap G _) rfl 16 rfl ?_
    refine n_icmp_ge dX3_step_16 i tz rfl rfl (by omega) (by omega) 46 (by decide) 19 rfl (fun c1 => ?_) (fun c1 => absurd c1 (by omega))
    exact hk
  | succ n ih =>
    intro i hin hi20 hk
    refine v_aload_n dX3_step_8 0 rfl 9 rfl ?_
    refine v_get (i := 3) (ci := 3) (T := TX3) (C := RX3) (N := 6) (v := .int (nI i)) dX3_step_9 inB3 rfl qw_158 rfl (by decide) (by decide) (cel_tap G _) rfl 12 rfl ?_
    refine v_aload_n dX3_step_12 0 rfl 13 rfl ?_
    refine v_get (i := 1) (ci := 3) (T := TX3) (C := RX3) (N := 6) (v := .int (nI tz)) dX3_step_13 inB3 rfl qw_155 rfl (by decide) (by decide) (cel_tap G _) rfl 16 rfl ?_
    refine n_icmp_ge dX3_step_16 i tz rfl rfl (by omega) (by omega) 46 (by decide) 19 rfl (fun c1 => absurd c1 (by omega)) (fun c1 => ?_)
    refine v_aload_n dX3_step_19 0 rfl 20 rfl ?_
    refine v_get (i := 0) (ci := 3) (T := TX3) (C := RX3) (N := 6) (v := .ref (ga G (82))) dX3_step_20 inB3 rfl qw_154 rfl (by decide) (by decide) (cel_tap G _) rfl 23 rfl ?_
    refine v_aload_n dX3_step_23 0 rfl 24 rfl ?_
    refine v_get (i := 3) (ci := 3) (T := TX3) (C := RX3) (N := 6) (v := .int (nI i)) dX3_step_24 inB3 rfl qw_158 rfl (by decide) (by decide) (cel_tap G _) rfl 27 rfl ?_
    refine v_bald (a := tb) dX3_step_27 (by decide) (cel_byt G _) i rfl (by omega) (by decide) 28 rfl ?_
    refine v_bipush dX3_step_28 32 rfl 30 rfl ?_
    refine v_icmp_ne dX3_step_30 46 (by decide) 33 rfl (fun c2 => ?_) (fun c2 => ?_)
    · skip
      rw [skW_f (show pSp tb i = false from decide_eq_false c2)] at hk
      exact hk
    · skip
      refine v_aload_n dX3_step_33 0 rfl 34 rfl ?_
      refine v_dup dX3_step_34 rfl 35 rfl ?_
      refine v_get (i := 3) (ci := 3) (T := TX3) (C := RX3) (N := 6) (v := .int (nI i)) dX3_step_35 inB3 rfl qw_158 rfl (by decide) (by decide) (cel_tap G _) rfl 38 rfl ?_
      refine v_iconst dX3_step_38 1 rfl 39 rfl ?_
      refine n_iadd dX3_step_39 i 1 rfl rfl 40 rfl ?_
      refine v_put (i := 3) (ci := 3) (T := TX3) (C := RX3) (N := 6) (ty := .int) (w2 := ((par, (tb, tz, tk, (i + 1), te, tv), sh, tl, hi), M)) dX3_step_40 inB3 tyX3 tyX3_ok nmX3 rfl qw_158 rfl rfl rfl rfl rfl (by decide) (by decide) (cel_tap G _) (Nat.le_of_ble_eq_true rfl) u_tp 43 rfl ?_
      refine v_goto dX3_step_43 8 (by decide) ?_
      rw [skW_t (show pSp tb i = true from decide_eq_true (by first | exact c2 | exact Classical.not_not.mp c2))] at hk
      exact ih (i + 1) (by omega) (by omega) hk
set_option maxHeartbeats 1000000 in
set_option maxRecDepth 4000 in
theorem lp_step2 (l : Launch) {G : Gl} {X : VX} {ov : Option Value} {wF : WS} {par : Nat → Pa} {tb : Nat → Int32} {tz ta : Nat} {tk tv : Int32} (htz : tz ≤ 120) {sh : Nat → Sh} {tl : Nat → Int32} {hi : Int32} {M : MS} : ∀ (n : Nat) (i : Nat), tz - i = n → i ≤ 120 → V l X 1 21 cX3_step 1 RX3 none G ov wF ((par, (tb, tz, tk, ta, (skW (pLe tb) n i), tv), sh, tl, hi), M) 259 [(0, .ref (ga G (81)))] [] → V l X 1 21 cX3_step 1 RX3 none G ov wF ((par, (tb, tz, tk, ta, i, tv), sh, tl, hi), M) 93 [(0, .ref (ga G (81)))] [] := by
  intro n
  induction n with
  | zero =>
    intro i hin hi20 hk
    refine v_aload_n dX3_step_93 0 rfl 94 rfl ?_
    refine v_get (i := 4) (ci := 3) (T := TX3) (C := RX3) (N := 6) (v := .int (nI i)) dX3_step_94 inB3 rfl qw_159 rfl (by decide) (by decide) (cel_tap G _) rfl 97 rfl ?_
    refine v_aload_n dX3_step_97 0 rfl 98 rfl ?_
    refine v_get (i := 1) (ci := 3) (T := TX3) (C := RX3) (N := 6) (v := .int (nI tz)) dX3_step_98 inB3 rfl qw_155 rfl (by decide) (by decide) (cel_tap G _) rfl 101 rfl ?_
    refine n_icmp_ge dX3_step_101 i tz rfl rfl (by omega) (by omega) 259 (by decide) 104 rfl (fun c1 => ?_) (fun c1 => absurd c1 (by omega))
    exact hk
  | succ n ih =>
    intro i hin hi20 hk
    refine v_aload_n dX3_step_93 0 rfl 94 rfl ?_
    refine v_get (i := 4) (ci := 3) (T := TX3) (C := RX3) (N := 6) (v := .int (nI i)) dX3_step_94 inB3 rfl qw_159 rfl (by decide) (by decide) (cel_tap G _) rfl 97 rfl ?_
    refine v_aload_n dX3_step_97 0 rfl 98 rfl ?_
    refine v_get (i := 1) (ci := 3) (T := TX3) (C := RX3) (N := 6) (v := .int (nI tz)) dX3_step_98 inB3 rfl qw_155 rfl (by decide) (by decide) (cel_tap G _) rfl 101 rfl ?_
    refine n_icmp_ge dX3_step_101 i tz rfl rfl (by omega) (by omega) 259 (by decide) 104 rfl (fun c1 => absurd c1 (by omega)) (fun c1 => ?_)
    refine v_aload_n dX3_step_104 0 rfl 105 rfl ?_
    refine v_get (i := 0) (ci := 3) (T := TX3) (C := RX3) (N := 6) (v := .ref (ga G (82))) dX3_step_105 inB3 rfl qw_154 rfl (by decide) (by decide) (cel_tap G _) rfl 108 rfl ?_
    refine v_aload_n dX3_step_108 0 rfl 109 rfl ?_
    refine v_get (i := 4) (ci := 3) (T := TX3) (C := RX3) (N := 6) (v := .int (nI i)) dX3_step_109 inB3 rfl qw_159 rfl (by decide) (by decide) (cel_tap G _) rfl 112 rfl ?_
    refine v_bald (a := tb) dX3_step_112 (by decide) (cel_byt G _) i rfl (by omega) (by decide) 113 rfl ?_
    refine v_callS (c_X3_isLetter l (tb i)) kal_X3_isLetter rfl dX3_step_113 qw_493 qw_494 (by decide) [] (Nat.le_of_ble_eq_true rfl) rfl rfl 116 rfl ?_
    refine v_ifb_eq dX3_step_116 259 (by decide) 119 rfl (fun c2 => ?_) (fun c2 => ?_)
    · skip
      rw [skW_f (show pLe tb i = false from c2)] at hk
      exact hk
    · skip
      refine v_aload_n dX3_step_119 0 rfl 120 rfl ?_
      refine v_dup dX3_step_120 rfl 121 rfl ?_
      refine v_get (i := 4) (ci := 3) (T := TX3) (C := RX3) (N := 6) (v := .int (nI i)) dX3_step_121 inB3 rfl qw_159 rfl (by decide) (by decide) (cel_tap G _) rfl 124 rfl ?_
      refine v_iconst dX3_step_124 1 rfl 125 rfl ?_
      refine n_iadd dX3_step_125 i 1 rfl rfl 126 rfl ?_
      refine v_put (i := 4) (ci := 3) (T := TX3) (C := RX3) (N := 6) (ty := .int) (w2 := ((par, (tb, tz, tk, ta, (i + 1), tv), sh, tl, hi), M)) dX3_step_126 inB3 tyX3 tyX3_ok nmX3 rfl qw_159 rfl rfl rfl rfl rfl (by decide) (by decide) (cel_tap G _) (Nat.le_of_ble_eq_true rfl) u_tp 129 rfl ?_
      refine v_goto dX3_step_129 93 (by decide) ?_
      rw [skW_t (show pLe tb i = true from c2)] at hk
      exact ih (i + 1) (by omega) (by omega) hk
set_option maxHeartbeats 1000000 in
set_option maxRecDepth 4000 in
theorem lp_step3 (l : Launch) {G : Gl} {X : VX} {ov : Option Value} {wF : WS} {par : Nat → Pa} {tb : Nat → Int32} {tz ta : Nat} {tk : Int32} (htz : tz ≤ 120) {sh : Nat → Sh} {tl : Nat → Int32} {hi : Int32} {M : MS} : ∀ (n : Nat) (i : Nat) (tv : Int32), tz - i = n → i ≤ 120 → V l X 1 21 cX3_step 1 RX3 none G ov wF ((par, (tb, tz, tk, ta, (skW (pDi tb) n i), (dgV tb n i tv)), sh, tl, hi), M) 259 [(0, .ref (ga G (81)))] [] → V l X 1 21 cX3_step 1 RX3 none G ov wF ((par, (tb, tz, tk, ta, i, tv), sh, tl, hi), M) 157 [(0, .ref (ga G (81)))] [] := by
  intro n
  induction n with
  | zero =>
    intro i tv hin hi20 hk
    refine v_aload_n dX3_step_157 0 rfl 158 rfl ?_
    refine v_get (i := 4) (ci := 3) (T := TX3) (C := RX3) (N := 6) (v := .int (nI i)) dX3_step_158 inB3 rfl qw_159 rfl (by decide) (by decide) (cel_tap G _) rfl 161 rfl ?_
    refine v_aload_n dX3_step_161 0 rfl 162 rfl ?_
    refine v_get (i := 1) (ci := 3) (T := TX3) (C := RX3) (N := 6) (v := .int (nI tz)) dX3_step_162 inB3 rfl qw_155 rfl (by decide) (by decide) (cel_tap G _) rfl 165 rfl ?_
    refine n_icmp_ge dX3_step_165 i tz rfl rfl (by omega) (by omega) 259 (by decide) 168 rfl (fun c1 => ?_) (fun c1 => absurd c1 (by omega))
    exact hk
  | succ n ih =>
    intro i tv hin hi20 hk
    refine v_aload_n dX3_step_157 0 rfl 158 rfl ?_
    refine v_get (i := 4) (ci := 3) (T := TX3) (C := RX3) (N := 6) (v := .int (nI i)) dX3_step_158 inB3 rfl qw_159 rfl (by decide) (by decide) (cel_tap G _) rfl 161 rfl ?_
    refine v_aload_n dX3_step_161 0 rfl 162 rfl ?_
    refine v_get (i := 1) (ci := 3) (T := TX3) (C := RX3) (N := 6) (v := .int (nI tz)) dX3_step_162 inB3 rfl qw_155 rfl (by decide) (by decide) (cel_tap G _) rfl 165 rfl ?_
    refine n_icmp_ge dX3_step_165 i tz rfl rfl (by omega) (by omega) 259 (by decide) 168 rfl (fun c1 => absurd c1 (by omega)) (fun c1 => ?_)
    refine v_aload_n dX3_step_168 0 rfl 169 rfl ?_
    refine v_get (i := 0) (ci := 3) (T := TX3) (C := RX3) (N := 6) (v := .ref (ga G (82))) dX3_step_169 inB3 rfl qw_154 rfl (by decide) (by decide) (cel_tap G _) rfl 172 rfl ?_
    refine v_aload_n dX3_step_172 0 rfl 173 rfl ?_
    refine v_get (i := 4) (ci := 3) (T := TX3) (C := RX3) (N := 6) (v := .int (nI i)) dX3_step_173 inB3 rfl qw_159 rfl (by decide) (by decide) (cel_tap G _) rfl 176 rfl ?_
    refine v_bald (a := tb) dX3_step_176 (by decide) (cel_byt G _) i rfl (by omega) (by decide) 177 rfl ?_
    refine v_callS (c_X3_isDigit l (tb i)) kal_X3_isDigit rfl dX3_step_177 qw_496 qw_497 (by decide) [] (Nat.le_of_ble_eq_true rfl) rfl rfl 180 rfl ?_
    refine v_ifb_eq dX3_step_180 259 (by decide) 183 rfl (fun c2 => ?_) (fun c2 => ?_)
    · skip
      rw [skW_f (show pDi tb i = false from c2), dgV_f (show pDi tb i = false from c2)] at hk
      exact hk
    · skip
      refine v_aload_n dX3_step_183 0 rfl 184 rfl ?_
      refine v_sipush dX3_step_184 10000 rfl 187 rfl ?_
      refine v_bipush dX3_step_187 10 rfl 189 rfl ?_
      refine v_aload_n dX3_step_189 0 rfl 190 rfl ?_
      refine v_get (i := 5) (ci := 3) (T := TX3) (C := RX3) (N := 6) (v := .int tv) dX3_step_190 inB3 rfl qw_160 rfl (by decide) (by decide) (cel_tap G _) rfl 193 rfl ?_
      refine v_imul dX3_step_193 194 rfl ?_
      refine v_aload_n dX3_step_194 0 rfl 195 rfl ?_
      refine v_get (i := 0) (ci := 3) (T := TX3) (C := RX3) (N := 6) (v := .ref (ga G (82))) dX3_step_195 inB3 rfl qw_154 rfl (by decide) (by decide) (cel_tap G _) rfl 198 rfl ?_
      refine v_aload_n dX3_step_198 0 rfl 199 rfl ?_
      refine v_get (i := 4) (ci := 3) (T := TX3) (C := RX3) (N := 6) (v := .int (nI i)) dX3_step_199 inB3 rfl qw_159 rfl (by decide) (by decide) (cel_tap G _) rfl 202 rfl ?_
      refine v_bald (a := tb) dX3_step_202 (by decide) (cel_byt G _) i rfl (by omega) (by decide) 203 rfl ?_
      refine v_iadd dX3_step_203 204 rfl ?_
      refine v_bipush dX3_step_204 48 rfl 206 rfl ?_
      refine v_isub dX3_step_206 207 rfl ?_
      refine v_mmin dX3_step_207 qw_499 (by decide) (Nat.le_of_ble_eq_true rfl) 210 rfl ?_
      refine v_put (i := 5) (ci := 3) (T := TX3) (C := RX3) (N := 6) (ty := .int) (w2 := ((par, (tb, tz, tk, ta, i, (if ((10 * tv) + (tb i)) - 48 < 10000 then ((10 * tv) + (tb i)) - 48 else 10000)), sh, tl, hi), M)) dX3_step_210 inB3 tyX3 tyX3_ok nmX3 rfl qw_160 rfl rfl rfl rfl rfl (by decide) (by decide) (cel_tap G _) (Nat.le_of_ble_eq_true rfl) u_tp 213 rfl ?_
      refine v_aload_n dX3_step_213 0 rfl 214 rfl ?_
      refine v_dup dX3_step_214 rfl 215 rfl ?_
      refine v_get (i := 4) (ci := 3) (T := TX3) (C := RX3) (N := 6) (v := .int (nI i)) dX3_step_215 inB3 rfl qw_159 rfl (by decide) (by decide) (cel_tap G _) rfl 218 rfl ?_
      refine v_iconst dX3_step_218 1 rfl 219 rfl ?_
      refine n_iadd dX3_step_219 i 1 rfl rfl 220 rfl ?_
      refine v_put (i := 4) (ci := 3) (T := TX3) (C := RX3) (N := 6) (ty := .int) (w2 := ((par, (tb, tz, tk, ta, (i + 1), (if ((10 * tv) + (tb i)) - 48 < 10000 then ((10 * tv) + (tb i)) - 48 else 10000)), sh, tl, hi), M)) dX3_step_220 inB3 tyX3 tyX3_ok nmX3 rfl qw_159 rfl rfl rfl rfl rfl (by decide) (by decide) (cel_tap G _) (Nat.le_of_ble_eq_true rfl) u_tp 223 rfl ?_
      refine v_goto dX3_step_223 157 (by decide) ?_
      rw [skW_t (show pDi tb i = true from c2), dgV_t (show pDi tb i = true from c2)] at hk
      exact ih (i + 1) _ (by omega) (by omega) hk
set_option maxHeartbeats 1000000 in
set_option maxRecDepth 4000 in
theorem c_X3_step (l : Launch) {G : Gl} {par : Nat → Pa} {tb : Nat → Int32} {tz ta te : Nat} {tk tv : Int32} {sh : Nat → Sh} {tl : Nat → Int32} {hi : Int32} {M : MS} (htz : tz ≤ 120) (hte : te ≤ 120) : Ct l G yX3_step cX3_step 1 none 1 21 [.ref (ga G (81))] ((par, (tb, tz, tk, ta, te, tv), sh, tl, hi), M) (none) ((par, stepT (tb, tz, tk, ta, te, tv), sh, tl, hi), M) := by
  refine Ct.of (own := RX3) (by decide) rfl (Nat.le_of_ble_eq_true rfl) rfl (fun X => ?_)
  refine v_aload_n dX3_step_0 0 rfl 1 rfl ?_
  refine v_aload_n dX3_step_1 0 rfl 2 rfl ?_
  refine v_get (i := 4) (ci := 3) (T := TX3) (C := RX3) (N := 6) (v := .int (nI te)) dX3_step_2 inB3 rfl qw_159 rfl (by decide) (by decide) (cel_tap G _) rfl 5 rfl ?_
  refine v_put (i := 3) (ci := 3) (T := TX3) (C := RX3) (N := 6) (ty := .int) (w2 := ((par, (tb, tz, tk, te, te, tv), sh, tl, hi), M)) dX3_step_5 inB3 tyX3 tyX3_ok nmX3 rfl qw_158 rfl rfl rfl rfl rfl (by decide) (by decide) (cel_tap G _) (Nat.le_of_ble_eq_true rfl) u_tp 8 rfl ?_
  refine lp_step1 l htz (tz - te) te rfl (by omega) ?_
  have hle := skW_le (pSp tb) (tz - te) te
  generalize hA : skW (pSp tb) (tz - te) te = a9 at hle ⊢
  refine v_aload_n dX3_step_46 0 rfl 47 rfl ?_
  refine v_aload_n dX3_step_47 0 rfl 48 rfl ?_
  refine v_get (i := 3) (ci := 3) (T := TX3) (C := RX3) (N := 6) (v := .int (nI a9)) dX3_step_48 inB3 rfl qw_158 rfl (by decide) (by decide) (cel_tap G _) rfl 51 rfl ?_
  refine v_put (i := 4) (ci := 3) (T := TX3) (C := RX3) (N := 6) (ty := .int) (w2 := ((par, (tb, tz, tk, a9, a9, tv), sh, tl, hi), M)) dX3_step_51 inB3 tyX3 tyX3_ok nmX3 rfl qw_159 rfl rfl rfl rfl rfl (by decide) (by decide) (cel_tap G _) (Nat.le_of_ble_eq_true rfl) u_tp 54 rfl ?_
  refine v_aload_n dX3_step_54 0 rfl 55 rfl ?_
  refine v_get (i := 3) (ci := 3) (T := TX3) (C := RX3) (N := 6) (v := .int (nI a9)) dX3_step_55 inB3 rfl qw_158 rfl (by decide) (by decide) (cel_tap G _) rfl 58 rfl ?_
  refine v_aload_n dX3_step_58 0 rfl 59 rfl ?_
  refine v_get (i := 1) (ci := 3) (T := TX3) (C := RX3) (N := 6) (v := .int (nI tz)) dX3_step_59 inB3 rfl qw_155 rfl (by decide) (by decide) (cel_tap G _) rfl 62 rfl ?_
  refine n_icmp_lt dX3_step_62 a9 tz rfl rfl (by omega) (by omega) 73 (by decide) 65 rfl (fun c1 => ?_) (fun c1 => ?_)
  · skip
    refine v_aload_n dX3_step_73 0 rfl 74 rfl ?_
    refine v_get (i := 0) (ci := 3) (T := TX3) (C := RX3) (N := 6) (v := .ref (ga G (82))) dX3_step_74 inB3 rfl qw_154 rfl (by decide) (by decide) (cel_tap G _) rfl 77 rfl ?_
    refine v_aload_n dX3_step_77 0 rfl 78 rfl ?_
    refine v_get (i := 3) (ci := 3) (T := TX3) (C := RX3) (N := 6) (v := .int (nI a9)) dX3_step_78 inB3 rfl qw_158 rfl (by decide) (by decide) (cel_tap G _) rfl 81 rfl ?_
    refine v_bald (a := tb) dX3_step_81 (by decide) (cel_byt G _) a9 rfl (by omega) (by decide) 82 rfl ?_
    refine v_callS (c_X3_isLetter l (tb a9)) kal_X3_isLetter rfl dX3_step_82 qw_493 qw_494 (by decide) [] (Nat.le_of_ble_eq_true rfl) rfl rfl 85 rfl ?_
    refine v_ifb_eq dX3_step_85 132 (by decide) 88 rfl (fun c2 => ?_) (fun c2 => ?_)
    · skip
      refine v_aload_n dX3_step_132 0 rfl 133 rfl ?_
      refine v_get (i := 0) (ci := 3) (T := TX3) (C := RX3) (N := 6) (v := .ref (ga G (82))) dX3_step_133 inB3 rfl qw_154 rfl (by decide) (by decide) (cel_tap G _) rfl 136 rfl ?_
      refine v_aload_n dX3_step_136 0 rfl 137 rfl ?_
      refine v_get (i := 3) (ci := 3) (T := TX3) (C := RX3) (N := 6) (v := .int (nI a9)) dX3_step_137 inB3 rfl qw_158 rfl (by decide) (by decide) (cel_tap G _) rfl 140 rfl ?_
      refine v_bald (a := tb) dX3_step_140 (by decide) (cel_byt G _) a9 rfl (by omega) (by decide) 141 rfl ?_
      refine v_callS (c_X3_isDigit l (tb a9)) kal_X3_isDigit rfl dX3_step_141 qw_496 qw_497 (by decide) [] (Nat.le_of_ble_eq_true rfl) rfl rfl 144 rfl ?_
      refine v_ifb_eq dX3_step_144 226 (by decide) 147 rfl (fun c3 => ?_) (fun c3 => ?_)
      · skip
        refine v_aload_n dX3_step_226 0 rfl 227 rfl ?_
        refine v_aload_n dX3_step_227 0 rfl 228 rfl ?_
        refine v_get (i := 0) (ci := 3) (T := TX3) (C := RX3) (N := 6) (v := .ref (ga G (82))) dX3_step_228 inB3 rfl qw_154 rfl (by decide) (by decide) (cel_tap G _) rfl 231 rfl ?_
        refine v_aload_n dX3_step_231 0 rfl 232 rfl ?_
        refine v_get (i := 3) (ci := 3) (T := TX3) (C := RX3) (N := 6) (v := .int (nI a9)) dX3_step_232 inB3 rfl qw_158 rfl (by decide) (by decide) (cel_tap G _) rfl 235 rfl ?_
        refine v_bald (a := tb) dX3_step_235 (by decide) (cel_byt G _) a9 rfl (by omega) (by decide) 236 rfl ?_
        refine v_bipush dX3_step_236 59 rfl 238 rfl ?_
        refine v_icmp_ne dX3_step_238 245 (by decide) 241 rfl (fun c4 => ?_) (fun c4 => ?_)
        · skip
          refine v_iconst dX3_step_245 4 rfl 246 rfl ?_
          refine v_put (i := 2) (ci := 3) (T := TX3) (C := RX3) (N := 6) (ty := .int) (w2 := ((par, (tb, tz, 4, a9, a9, tv), sh, tl, hi), M)) dX3_step_246 inB3 tyX3 tyX3_ok nmX3 rfl qw_157 rfl rfl rfl rfl rfl (by decide) (by decide) (cel_tap G _) (Nat.le_of_ble_eq_true rfl) u_tp 249 rfl ?_
          refine v_aload_n dX3_step_249 0 rfl 250 rfl ?_
          refine v_dup dX3_step_250 rfl 251 rfl ?_
          refine v_get (i := 4) (ci := 3) (T := TX3) (C := RX3) (N := 6) (v := .int (nI a9)) dX3_step_251 inB3 rfl qw_159 rfl (by decide) (by decide) (cel_tap G _) rfl 254 rfl ?_
          refine v_iconst dX3_step_254 1 rfl 255 rfl ?_
          refine n_iadd dX3_step_255 a9 1 rfl rfl 256 rfl ?_
          refine v_put (i := 4) (ci := 3) (T := TX3) (C := RX3) (N := 6) (ty := .int) (w2 := ((par, (tb, tz, 4, a9, (a9 + 1), tv), sh, tl, hi), M)) dX3_step_256 inB3 tyX3 tyX3_ok nmX3 rfl qw_159 rfl rfl rfl rfl rfl (by decide) (by decide) (cel_tap G _) (Nat.le_of_ble_eq_true rfl) u_tp 259 rfl ?_
          exact v_vret dX3_step_259 (by rfl) (by simp only [stepT, stE, stA, c2, c3, hA, if_true, if_false, Bool.false_eq_true, ↓reduceIte] <;> simp [c1, Nat.not_le.mpr c1, c4, Ne.symm c4, hA])
        · skip
          refine v_iconst dX3_step_241 3 rfl 242 rfl ?_
          refine v_goto dX3_step_242 246 (by decide) ?_
          refine v_put (i := 2) (ci := 3) (T := TX3) (C := RX3) (N := 6) (ty := .int) (w2 := ((par, (tb, tz, 3, a9, a9, tv), sh, tl, hi), M)) dX3_step_246 inB3 tyX3 tyX3_ok nmX3 rfl qw_157 rfl rfl rfl rfl rfl (by decide) (by decide) (cel_tap G _) (Nat.le_of_ble_eq_true rfl) u_tp 249 rfl ?_
          refine v_aload_n dX3_step_249 0 rfl 250 rfl ?_
          refine v_dup dX3_step_250 rfl 251 rfl ?_
          refine v_get (i := 4) (ci := 3) (T := TX3) (C := RX3) (N := 6) (v := .int (nI a9)) dX3_step_251 inB3 rfl qw_159 rfl (by decide) (by decide) (cel_tap G _) rfl 254 rfl ?_
          refine v_iconst dX3_step_254 1 rfl 255 rfl ?_
          refine n_iadd dX3_step_255 a9 1 rfl rfl 256 rfl ?_
          refine v_put (i := 4) (ci := 3) (T := TX3) (C := RX3) (N := 6) (ty := .int) (w2 := ((par, (tb, tz, 3, a9, (a9 + 1), tv), sh, tl, hi), M)) dX3_step_256 inB3 tyX3 tyX3_ok nmX3 rfl qw_159 rfl rfl rfl rfl rfl (by decide) (by decide) (cel_tap G _) (Nat.le_of_ble_eq_true rfl) u_tp 259 rfl ?_
          exact v_vret dX3_step_259 (by rfl) (by simp only [stepT, stE, stA, c2, c3, hA, if_true, if_false, Bool.false_eq_true, ↓reduceIte] <;> simp [c1, Nat.not_le.mpr c1, c4, hA])
      · skip
        refine v_aload_n dX3_step_147 0 rfl 148 rfl ?_
        refine v_iconst dX3_step_148 2 rfl 149 rfl ?_
        refine v_put (i := 2) (ci := 3) (T := TX3) (C := RX3) (N := 6) (ty := .int) (w2 := ((par, (tb, tz, 2, a9, a9, tv), sh, tl, hi), M)) dX3_step_149 inB3 tyX3 tyX3_ok nmX3 rfl qw_157 rfl rfl rfl rfl rfl (by decide) (by decide) (cel_tap G _) (Nat.le_of_ble_eq_true rfl) u_tp 152 rfl ?_
        refine v_aload_n dX3_step_152 0 rfl 153 rfl ?_
        refine v_iconst dX3_step_153 0 rfl 154 rfl ?_
        refine v_put (i := 5) (ci := 3) (T := TX3) (C := RX3) (N := 6) (ty := .int) (w2 := ((par, (tb, tz, 2, a9, a9, 0), sh, tl, hi), M)) dX3_step_154 inB3 tyX3 tyX3_ok nmX3 rfl qw_160 rfl rfl rfl rfl rfl (by decide) (by decide) (cel_tap G _) (Nat.le_of_ble_eq_true rfl) u_tp 157 rfl ?_
        refine lp_step3 l htz (tz - a9) a9 0 rfl (by omega) ?_
        exact v_vret dX3_step_259 (by rfl) (by simp only [stepT, stE, stA, c2, c3, hA, if_true, if_false, Bool.false_eq_true, ↓reduceIte] <;> simp [c1, Nat.not_le.mpr c1, hA])
    · skip
      refine v_aload_n dX3_step_88 0 rfl 89 rfl ?_
      refine v_iconst dX3_step_89 1 rfl 90 rfl ?_
      refine v_put (i := 2) (ci := 3) (T := TX3) (C := RX3) (N := 6) (ty := .int) (w2 := ((par, (tb, tz, 1, a9, a9, tv), sh, tl, hi), M)) dX3_step_90 inB3 tyX3 tyX3_ok nmX3 rfl qw_157 rfl rfl rfl rfl rfl (by decide) (by decide) (cel_tap G _) (Nat.le_of_ble_eq_true rfl) u_tp 93 rfl ?_
      refine lp_step2 l htz (tz - a9) a9 rfl (by omega) ?_
      exact v_vret dX3_step_259 (by rfl) (by simp only [stepT, stE, stA, c2, hA, if_true, if_false, Bool.false_eq_true, ↓reduceIte] <;> simp [c1, Nat.not_le.mpr c1, hA])
  · skip
    refine v_aload_n dX3_step_65 0 rfl 66 rfl ?_
    refine v_iconst dX3_step_66 0 rfl 67 rfl ?_
    refine v_put (i := 2) (ci := 3) (T := TX3) (C := RX3) (N := 6) (ty := .int) (w2 := ((par, (tb, tz, 0, a9, a9, tv), sh, tl, hi), M)) dX3_step_67 inB3 tyX3 tyX3_ok nmX3 rfl qw_157 rfl rfl rfl rfl rfl (by decide) (by decide) (cel_tap G _) (Nat.le_of_ble_eq_true rfl) u_tp 70 rfl ?_
    refine v_goto dX3_step_70 259 (by decide) ?_
    exact v_vret dX3_step_259 (by rfl) (by simp only [stepT, stE, stA, hA, if_true, if_false, Bool.false_eq_true, ↓reduceIte] <;> simp [c1, Nat.not_lt.mpr c1, hA])
