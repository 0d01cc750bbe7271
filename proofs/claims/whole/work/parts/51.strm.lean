set_option maxHeartbeats 1000000 in
set_option maxRecDepth 4000 in
theorem c_J3n (l : Launch) {G : Gl} {w : WS} {i n : Nat} (hin : i < n) (hn : n < 2 ^ 31) : Ct l G yJ3_checkIndex_8e157 cJ3_checkIndex_8e157 3 (some .int) 0 0 [.int (nI i), .int (nI n), .null] w (some (.int (nI i))) w := by
  refine Ct.of (own := RJ3) (by decide) rfl (Nat.le_of_ble_eq_true rfl) rfl (fun X => ?_)
  refine v_iload_n dJ3_checkIndex_8e157_0 0 rfl 1 rfl ?_
  refine v_if_lt dJ3_checkIndex_8e157_1 9 (by decide) 4 rfl (fun c1 => absurd c1 (fun q => by have h9 := Int32.lt_iff_toInt_lt.mp q; rw [nI_toInt (by omega)] at h9; have e0 : (0 : Int32).toInt = 0 := rfl; omega)) (fun c1 => ?_)
  refine v_iload_n dJ3_checkIndex_8e157_4 0 rfl 5 rfl ?_
  refine v_iload_n dJ3_checkIndex_8e157_5 1 rfl 6 rfl ?_
  refine n_icmp_lt dJ3_checkIndex_8e157_6 i n rfl rfl (by omega) (by omega) 16 (by decide) 9 rfl (fun c2 => ?_) (fun c2 => absurd c2 (by omega))
  refine v_iload_n dJ3_checkIndex_8e157_16 0 rfl 17 rfl ?_
  exact v_iret dJ3_checkIndex_8e157_17 (by rfl) (by rfl)
set_option maxHeartbeats 1000000 in
set_option maxRecDepth 4000 in
theorem c_J3r (l : Launch) {G : Gl} {w : WS} {i n t : Nat} (hin : i < n) (hn : n < 2 ^ 31) : Ct l G yJ3_checkIndex_8e157 cJ3_checkIndex_8e157 3 (some .int) 0 0 [.int (nI i), .int (nI n), .ref t] w (some (.int (nI i))) w := by
  refine Ct.of (own := RJ3) (by decide) rfl (Nat.le_of_ble_eq_true rfl) rfl (fun X => ?_)
  refine v_iload_n dJ3_checkIndex_8e157_0 0 rfl 1 rfl ?_
  refine v_if_lt dJ3_checkIndex_8e157_1 9 (by decide) 4 rfl (fun c1 => absurd c1 (fun q => by have h9 := Int32.lt_iff_toInt_lt.mp q; rw [nI_toInt (by omega)] at h9; have e0 : (0 : Int32).toInt = 0 := rfl; omega)) (fun c1 => ?_)
  refine v_iload_n dJ3_checkIndex_8e157_4 0 rfl 5 rfl ?_
  refine v_iload_n dJ3_checkIndex_8e157_5 1 rfl 6 rfl ?_
  refine n_icmp_lt dJ3_checkIndex_8e157_6 i n rfl rfl (by omega) (by omega) 16 (by decide) 9 rfl (fun c2 => ?_) (fun c2 => absurd c2 (by omega))
  refine v_iload_n dJ3_checkIndex_8e157_16 0 rfl 17 rfl ?_
  exact v_iret dJ3_checkIndex_8e157_17 (by rfl) (by rfl)
set_option maxHeartbeats 1000000 in
set_option maxRecDepth 4000 in
theorem c_J0_checkIndex_df160 (l : Launch) {G : Gl} {w : WS} {i n : Nat} (hin : i < n) (hn : n < 2 ^ 31) : Ct l G yJ0_checkIndex_df160 cJ0_checkIndex_df160 2 none 1 22 [.int (nI i), .int (nI n)] w (none) w := by
  refine Ct.of (own := RJ0) (by decide) rfl (Nat.le_of_ble_eq_true rfl) rfl (fun X => ?_)
  refine v_iload_n dJ0_checkIndex_df160_0 0 rfl 1 rfl ?_
  refine v_iload_n dJ0_checkIndex_df160_1 1 rfl 2 rfl ?_
  refine v_getsq dJ0_checkIndex_df160_2 qw_545 5 rfl ?_ (fun t => ?_)
  · skip
    refine v_callS (c_J3n l (i := i) (n := n) (by omega) (by omega)) kal_J3_checkIndex_8e157 rfl dJ0_checkIndex_df160_5 qw_547 qw_548 (by decide) [] (Nat.le_of_ble_eq_true rfl) rfl rfl 8 rfl ?_
    refine v_pop dJ0_checkIndex_df160_8 rfl 9 rfl ?_
    exact v_vret dJ0_checkIndex_df160_9 (by rfl) (by rfl)
  · skip
    refine v_callS (c_J3r l (i := i) (n := n) (by omega) (by omega)) kal_J3_checkIndex_8e157 rfl dJ0_checkIndex_df160_5 qw_547 qw_548 (by decide) [] (Nat.le_of_ble_eq_true rfl) rfl rfl 8 rfl ?_
    refine v_pop dJ0_checkIndex_df160_8 rfl 9 rfl ?_
    exact v_vret dJ0_checkIndex_df160_9 (by rfl) (by rfl)
set_option maxHeartbeats 1000000 in
set_option maxRecDepth 4000 in
theorem c_J1_charAt_3b067 (l : Launch) {G : Gl} {w : WS} {k i : Nat} (h11 : k < 11) (hi9 : i < sL k) : Ct l G yJ1_charAt_3b067 cJ1_charAt_3b067 2 (some .char) 2 43 [.ref (gV G k), .int (nI i)] w (some (.int (sB k i))) w := by
  have h6 := sL_le k h11
  have hnar : narrow .char (.int (sB k i)) = .int (sB k i) := congrArg Value.int (sB_c2 k h11 i hi9)
  refine Ct.of (own := RJ1) (by decide) rfl (Nat.le_of_ble_eq_true rfl) rfl (fun X => ?_)
  refine v_iload_n dJ1_charAt_3b067_0 1 rfl 1 rfl ?_
  refine v_aload_n dJ1_charAt_3b067_1 0 rfl 2 rfl ?_
  refine v_slen dJ1_charAt_3b067_2 (by omega) 3 rfl ?_
  refine v_callS (c_J0_checkIndex_df160 l (i := i) (n := sL k) (by omega) (by omega)) kal_J0_checkIndex_df160 rfl dJ1_charAt_3b067_3 qw_542 qw_543 (by decide) [] (Nat.le_of_ble_eq_true rfl) rfl rfl 6 rfl ?_
  refine v_aload_n dJ1_charAt_3b067_6 0 rfl 7 rfl ?_
  refine v_iload_n dJ1_charAt_3b067_7 1 rfl 8 rfl ?_
  refine v_sbald dJ1_charAt_3b067_8 (by omega) i rfl (by omega) 9 rfl ?_
  refine v_sipush dJ1_charAt_3b067_9 255 rfl 12 rfl ?_
  refine v_iand dJ1_charAt_3b067_12 13 rfl ?_
  refine v_i2c dJ1_charAt_3b067_13 14 rfl ?_
  refine v_topi (sB k i) (sB_c k h11 i hi9) ?_
  exact v_zret dJ1_charAt_3b067_14 (by first | rfl | assumption) (by rfl) (by rfl)
set_option maxHeartbeats 1000000 in
set_option maxRecDepth 4000 in
theorem c_J0_isLatin1_aae02 (l : Launch) {G : Gl} {w : WS} {k : Nat} (h11 : k < 11) : Ct l G yJ0_isLatin1_aae02 cJ0_isLatin1_aae02 1 (some .boolean) 0 0 [.ref (gK G k)] w (some (.int 1)) w := by
  refine Ct.of (own := RJ0) (by decide) rfl (Nat.le_of_ble_eq_true rfl) rfl (fun X => ?_)
  refine v_gets1 dJ0_isLatin1_aae02_0 qw_529 3 rfl ?_
  refine v_if_eq dJ0_isLatin1_aae02_3 17 (by decide) 6 rfl (fun c1 => absurd c1 (by decide)) (fun c1 => ?_)
  refine v_aload_n dJ0_isLatin1_aae02_6 0 rfl 7 rfl ?_
  refine v_scod dJ0_isLatin1_aae02_7 qw_1142 (by omega) 10 rfl ?_
  refine v_if_ne dJ0_isLatin1_aae02_10 17 (by decide) 13 rfl (fun c2 => absurd c2 (by decide)) (fun c2 => ?_)
  refine v_iconst dJ0_isLatin1_aae02_13 1 rfl 14 rfl ?_
  refine v_goto dJ0_isLatin1_aae02_14 18 (by decide) ?_
  exact v_zret dJ0_isLatin1_aae02_18 rfl (by rfl) (by rfl)
set_option maxHeartbeats 1000000 in
set_option maxRecDepth 4000 in
theorem c_J0_coder_7d493 (l : Launch) {G : Gl} {w : WS} {k : Nat} (h11 : k < 11) : Ct l G yJ0_coder_7d493 cJ0_coder_7d493 1 (some .byte) 0 0 [.ref (gK G k)] w (some (.int 0)) w := by
  refine Ct.of (own := RJ0) (by decide) rfl (Nat.le_of_ble_eq_true rfl) rfl (fun X => ?_)
  refine v_gets1 dJ0_coder_7d493_0 qw_529 3 rfl ?_
  refine v_if_eq dJ0_coder_7d493_3 13 (by decide) 6 rfl (fun c1 => absurd c1 (by decide)) (fun c1 => ?_)
  refine v_aload_n dJ0_coder_7d493_6 0 rfl 7 rfl ?_
  refine v_scod dJ0_coder_7d493_7 qw_1142 (by omega) 10 rfl ?_
  refine v_goto dJ0_coder_7d493_10 14 (by decide) ?_
  exact v_zret dJ0_coder_7d493_14 rfl (by rfl) (by rfl)
set_option maxHeartbeats 1000000 in
set_option maxRecDepth 4000 in
theorem c_J0_length_8abf5 (l : Launch) {G : Gl} {w : WS} {k : Nat} (h11 : k < 11) : Ct l G yJ0_length_8abf5 cJ0_length_8abf5 1 (some .int) 1 20 [.ref (gK G k)] w (some (.int (nI (sL k)))) w := by
  have h6 := sL_le k h11
  refine Ct.of (own := RJ0) (by decide) rfl (Nat.le_of_ble_eq_true rfl) rfl (fun X => ?_)
  refine v_aload_n dJ0_length_8abf5_0 0 rfl 1 rfl ?_
  refine v_sval dJ0_length_8abf5_1 qw_1141 (by omega) 4 rfl ?_
  refine v_slen dJ0_length_8abf5_4 (by omega) 5 rfl ?_
  refine v_aload_n dJ0_length_8abf5_5 0 rfl 6 rfl ?_
  refine v_callVs (c_J0_coder_7d493 l (k := k) (by omega)) kal_J0_coder_7d493 rfl dJ0_length_8abf5_6 qw_525 qw_526 qw_527 rfl (by omega) (by decide) [.int (nI (sL k))] (Nat.le_of_ble_eq_true rfl) rfl rfl 9 rfl ?_
  refine v_ishr dJ0_length_8abf5_9 10 rfl ?_
  refine v_topi (nI (sL k)) (sL_sh k h11) ?_
  exact v_iret dJ0_length_8abf5_10 (by rfl) (by rfl)
set_option maxHeartbeats 1000000 in
set_option maxRecDepth 4000 in
theorem c_J0_charAt_5068e (l : Launch) {G : Gl} {w : WS} {k i : Nat} (h11 : k < 11) (hi9 : i < sL k) : Ct l G yJ0_charAt_5068e cJ0_charAt_5068e 2 (some .char) 4 85 [.ref (gK G k), .int (nI i)] w (some (.int (sB k i))) w := by
  have h6 := sL_le k h11
  have hnar : narrow .char (.int (sB k i)) = .int (sB k i) := congrArg Value.int (sB_c2 k h11 i hi9)
  refine Ct.of (own := RJ0) (by decide) rfl (Nat.le_of_ble_eq_true rfl) rfl (fun X => ?_)
  refine v_aload_n dJ0_charAt_5068e_0 0 rfl 1 rfl ?_
  refine v_callVs (c_J0_isLatin1_aae02 l (k := k) (by omega)) kal_J0_isLatin1_aae02 rfl dJ0_charAt_5068e_1 qw_535 qw_536 qw_537 rfl (by omega) (by decide) [] (Nat.le_of_ble_eq_true rfl) rfl rfl 4 rfl ?_
  refine v_if_eq dJ0_charAt_5068e_4 16 (by decide) 7 rfl (fun c1 => absurd c1 (by decide)) (fun c1 => ?_)
  refine v_aload_n dJ0_charAt_5068e_7 0 rfl 8 rfl ?_
  refine v_sval dJ0_charAt_5068e_8 qw_1141 (by omega) 11 rfl ?_
  refine v_iload_n dJ0_charAt_5068e_11 1 rfl 12 rfl ?_
  refine v_callS (c_J1_charAt_3b067 l (k := k) (i := i) (by omega) (by omega)) kal_J1_charAt_3b067 rfl dJ0_charAt_5068e_12 qw_539 qw_540 (by decide) [] (Nat.le_of_ble_eq_true rfl) rfl rfl 15 rfl ?_
  exact v_zret dJ0_charAt_5068e_15 (by first | rfl | assumption) (by rfl) (by rfl)
def wP (tb : Rw) (ta k : Nat) : Nat → Bool := fun j => !decide (tb (ta + j) = sB k j)
def isW (tb : Rw) (tk : Int32) (ta te k : Nat) : Bool := decide (tk = 1) && (decide (te - ta = sL k) && decide (fa_first (wP tb ta k) (sL k) = sL k))
def isWT (T : Tp) (k : Nat) : Bool := isW T.1 T.2.2.1 T.2.2.2.1 T.2.2.2.2.1 k
set_option maxHeartbeats 1000000 in
set_option maxRecDepth 4000 in
theorem lp_isword (l : Launch) {G : Gl} {X : VX} {ov : Option Value} {wF : WS} {par : Nat → Pa} {tb : Nat → Int32} {tz ta te : Nat} {tk tv : Int32} {sh : Nat → Sh} {tl : Nat → Int32} {hi : Int32} {M : MS} {k : Nat} (h11 : k < 11) (hta : ta ≤ te) (hte : te ≤ 120) (h6 : sL k ≤ 6) (hl9 : te - ta = sL k) (hk1 : ∀ i : Nat, i < (sL k) → (∀ j, j < i → (wP tb ta k) j = false) → (wP tb ta k) i = true → V l X 5 106 cX3_isWord 3 RX3 (some .boolean) G ov wF ((par, (tb, tz, tk, ta, te, tv), sh, tl, hi), M) 55 [(2, .int (nI i)), (0, .ref (ga G (81))), (1, .ref (gK G k))] []) (hk0 : (∀ j, j < (sL k) → (wP tb ta k) j = false) → V l X 5 106 cX3_isWord 3 RX3 (some .boolean) G ov wF ((par, (tb, tz, tk, ta, te, tv), sh, tl, hi), M) 63 [(2, .int (nI (sL k))), (0, .ref (ga G (81))), (1, .ref (gK G k))] []) : ∀ n i : Nat, i + n = (sL k) → (∀ j, j < i → (wP tb ta k) j = false) → V l X 5 106 cX3_isWord 3 RX3 (some .boolean) G ov wF ((par, (tb, tz, tk, ta, te, tv), sh, tl, hi), M) 28 [(2, .int (nI i)), (0, .ref (ga G (81))), (1, .ref (gK G k))] [] := by
  intro n
  induction n with
  | zero =>
    intro i hin hno
    obtain rfl : (sL k) = i := by omega
    refine v_iload_n dX3_isWord_28 0 rfl 29 rfl ?_
    refine v_aload_n dX3_isWord_29 2 rfl 30 rfl ?_
    refine v_callVs (c_J0_length_8abf5 l (k := k) (by omega)) kal_J0_length_8abf5 rfl dX3_isWord_30 qw_521 qw_522 qw_523 rfl (by omega) (by decide) [.int (nI (sL k))] (Nat.le_of_ble_eq_true rfl) rfl rfl 33 rfl ?_
    refine n_icmp_ge dX3_isWord_33 (sL k) (sL k) rfl rfl (by omega) (by omega) 63 (by decide) 36 rfl (fun c1 => ?_) (fun c1 => absurd c1 (by omega))
    exact hk0 hno
  | succ n ih =>
    intro i hin hno
    refine v_iload_n dX3_isWord_28 0 rfl 29 rfl ?_
    refine v_aload_n dX3_isWord_29 2 rfl 30 rfl ?_
    refine v_callVs (c_J0_length_8abf5 l (k := k) (by omega)) kal_J0_length_8abf5 rfl dX3_isWord_30 qw_521 qw_522 qw_523 rfl (by omega) (by decide) [.int (nI i)] (Nat.le_of_ble_eq_true rfl) rfl rfl 33 rfl ?_
    refine n_icmp_ge dX3_isWord_33 i (sL k) rfl rfl (by omega) (by omega) 63 (by decide) 36 rfl (fun c1 => absurd c1 (by omega)) (fun c1 => ?_)
    refine v_aload_n dX3_isWord_36 1 rfl 37 rfl ?_
    refine v_get (i := 0) (ci := 3) (T := TX3) (C := RX3) (N := 6) (v := .ref (ga G (82))) dX3_isWord_37 inB3 rfl qw_154 rfl (by decide) (by decide) (cel_tap G _) rfl 40 rfl ?_
    refine v_aload_n dX3_isWord_40 1 rfl 41 rfl ?_
    refine v_get (i := 3) (ci := 3) (T := TX3) (C := RX3) (N := 6) (v := .int (nI ta)) dX3_isWord_41 inB3 rfl qw_158 rfl (by decide) (by decide) (cel_tap G _) rfl 44 rfl ?_
    refine v_iload_n dX3_isWord_44 0 rfl 45 rfl ?_
    refine n_iadd dX3_isWord_45 ta i rfl rfl 46 rfl ?_
    refine v_bald (a := tb) dX3_isWord_46 (by decide) (cel_byt G _) (ta + i) rfl (by omega) (by decide) 47 rfl ?_
    refine v_aload_n dX3_isWord_47 2 rfl 48 rfl ?_
    refine v_iload_n dX3_isWord_48 0 rfl 49 rfl ?_
    refine v_callVs (c_J0_charAt_5068e l (k := k) (i := i) (by omega) (by omega)) kal_J0_charAt_5068e rfl dX3_isWord_49 qw_531 qw_532 qw_533 rfl (by omega) (by decide) [.int (tb (ta + i))] (Nat.le_of_ble_eq_true rfl) rfl rfl 52 rfl ?_
    refine v_icmp_eq dX3_isWord_52 57 (by decide) 55 rfl (fun c2 => ?_) (fun c2 => ?_)
    · skip
      refine v_iinc dX3_isWord_57 0 rfl (nI (i + 1)) (nI_1 _) (by decide) [(2, .int (nI (i + 1))), (0, .ref (ga G (81))), (1, .ref (gK G k))] rfl 60 rfl ?_
      refine v_goto dX3_isWord_60 28 (by decide) ?_
      exact ih (i + 1) (by omega) (lt_s hno (by simp [wP, c2]))
    · skip
      exact hk1 i (by omega) hno (by simp [wP, c2])
set_option maxHeartbeats 1000000 in
set_option maxRecDepth 4000 in
theorem c_X3_isWord (l : Launch) {G : Gl} {par : Nat → Pa} {tb : Nat → Int32} {tz ta te : Nat} {tk tv : Int32} {sh : Nat → Sh} {tl : Nat → Int32} {hi : Int32} {M : MS} {k : Nat} (h11 : k < 11) (hta : ta ≤ te) (hte : te ≤ 120) : Ct l G yX3_isWord cX3_isWord 3 (some .boolean) 5 106 [.ref (ga G (81)), .ref (gK G k)] ((par, (tb, tz, tk, ta, te, tv), sh, tl, hi), M) (some (.int (b2 (isW tb tk ta te k)))) ((par, (tb, tz, tk, ta, te, tv), sh, tl, hi), M) := by
  have h6 := sL_le k h11
  refine Ct.of (own := RX3) (by decide) rfl (Nat.le_of_ble_eq_true rfl) rfl (fun X => ?_)
  refine v_aload_n dX3_isWord_0 0 rfl 1 rfl ?_
  refine v_get (i := 2) (ci := 3) (T := TX3) (C := RX3) (N := 6) (v := .int tk) dX3_isWord_1 inB3 rfl qw_157 rfl (by decide) (by decide) (cel_tap G _) rfl 4 rfl ?_
  refine v_iconst dX3_isWord_4 1 rfl 5 rfl ?_
  refine v_icmp_ne dX3_isWord_5 24 (by decide) 8 rfl (fun c1 => ?_) (fun c1 => ?_)
  · skip
    refine v_iconst dX3_isWord_24 0 rfl 25 rfl ?_
    exact v_zret dX3_isWord_25 rfl (by first | (have h9 := Nat.ne_of_lt hF2; simp [isW, b2, hF, h9]; done) | (simp [isW, b2, c1, Ne.symm c1]; done)) (by rfl)
  · skip
    refine v_aload_n dX3_isWord_8 0 rfl 9 rfl ?_
    refine v_get (i := 4) (ci := 3) (T := TX3) (C := RX3) (N := 6) (v := .int (nI te)) dX3_isWord_9 inB3 rfl qw_159 rfl (by decide) (by decide) (cel_tap G _) rfl 12 rfl ?_
    refine v_aload_n dX3_isWord_12 0 rfl 13 rfl ?_
    refine v_get (i := 3) (ci := 3) (T := TX3) (C := RX3) (N := 6) (v := .int (nI ta)) dX3_isWord_13 inB3 rfl qw_158 rfl (by decide) (by decide) (cel_tap G _) rfl 16 rfl ?_
    refine n_isub dX3_isWord_16 te ta rfl rfl (by omega) 17 rfl ?_
    refine v_aload_n dX3_isWord_17 1 rfl 18 rfl ?_
    refine v_callVs (c_J0_length_8abf5 l (k := k) (by omega)) kal_J0_length_8abf5 rfl dX3_isWord_18 qw_521 qw_522 qw_523 rfl (by omega) (by decide) [.int (nI (te - ta))] (Nat.le_of_ble_eq_true rfl) rfl rfl 21 rfl ?_
    refine n_icmp_eq dX3_isWord_21 (te - ta) (sL k) rfl rfl (by omega) (by omega) 26 (by decide) 24 rfl (fun c2 => ?_) (fun c2 => ?_)
    · skip
      refine v_iconst dX3_isWord_26 0 rfl 27 rfl ?_
      refine v_istore_n dX3_isWord_27 2 rfl (by decide) [(2, .int 0), (0, .ref (ga G (81))), (1, .ref (gK G k))] rfl 28 rfl ?_
      refine lp_isword l (par := par) (sh := sh) (tl := tl) (hi := hi) (M := M) (tb := tb) (tz := tz) (ta := ta) (te := te) (tk := tk) (tv := tv) h11 hta hte h6 (by omega) (fun i hi9 hno hyes => ?_) (fun hno => ?_) (sL k) 0 (by omega) (fun _ h => absurd h (Nat.not_lt_zero _))
      · skip
        have hF : fa_first (wP tb ta k) (sL k) = i := fa_first_eq (by omega) hno (fun _ => hyes)
        have hF2 : i < (sL k) := hi9
        refine v_iconst dX3_isWord_55 0 rfl 56 rfl ?_
        exact v_zret dX3_isWord_56 rfl (by first | (have h9 := Nat.ne_of_lt hF2; simp [isW, b2, hF, h9]; done) | (simp [isW, b2, c1, c2, hF, hF2]; done)) (by rfl)
      · skip
        have hF : fa_first (wP tb ta k) (sL k) = (sL k) := fa_first_eq (Nat.le_refl _) hno (fun h => absurd h (Nat.lt_irrefl _))
        refine v_iconst dX3_isWord_63 1 rfl 64 rfl ?_
        exact v_zret dX3_isWord_64 rfl (by first | (have h9 := Nat.ne_of_lt hF2; simp [isW, b2, hF, h9]; done) | (simp [isW, b2, c1, c2, hF, Nat.lt_irrefl]; done)) (by rfl)
    · skip
      refine v_iconst dX3_isWord_24 0 rfl 25 rfl ?_
      exact v_zret dX3_isWord_25 rfl (by first | (have h9 := Nat.ne_of_lt hF2; simp [isW, b2, hF, h9]; done) | (simp [isW, b2, c1, c2]; done)) (by rfl)
set_option maxHeartbeats 1000000 in
set_option maxRecDepth 4000 in
theorem c_nk0 (l : Launch) {G : Gl} {w : WS} : Ct l G yX3_nameOfKind cX3_nameOfKind 1 (some (.object "java/lang/String")) 0 0 [.int (nI 0)] w (some (.ref (gK G 0))) w := by
  refine Ct.of (own := RX3) (by decide) rfl (Nat.le_of_ble_eq_true rfl) rfl (fun X => ?_)
  refine v_iload_n dX3_nameOfKind_0 0 rfl 1 rfl ?_
  refine v_tabOut dX3_nameOfKind_1 (by decide) 51 (by decide) ?_
  refine v_ldcs dX3_nameOfKind_51 0 (by decide) rfl 53 rfl ?_
  exact v_aret dX3_nameOfKind_53 (by rfl) (by rfl)
set_option maxHeartbeats 1000000 in
set_option maxRecDepth 4000 in
theorem c_nk1 (l : Launch) {G : Gl} {w : WS} : Ct l G yX3_nameOfKind cX3_nameOfKind 1 (some (.object "java/lang/String")) 0 0 [.int (nI 1)] w (some (.ref (gK G 1))) w := by
  refine Ct.of (own := RX3) (by decide) rfl (Nat.le_of_ble_eq_true rfl) rfl (fun X => ?_)
  refine v_iload_n dX3_nameOfKind_0 0 rfl 1 rfl ?_
  refine v_tabIn dX3_nameOfKind_1 (by decide) (by decide) (off := 35) (by decide) 36 (by decide) ?_
  refine v_ldcs dX3_nameOfKind_36 1 (by decide) rfl 38 rfl ?_
  exact v_aret dX3_nameOfKind_38 (by rfl) (by rfl)
set_option maxHeartbeats 1000000 in
set_option maxRecDepth 4000 in
theorem c_nk2 (l : Launch) {G : Gl} {w : WS} : Ct l G yX3_nameOfKind cX3_nameOfKind 1 (some (.object "java/lang/String")) 0 0 [.int (nI 2)] w (some (.ref (gK G 2))) w := by
  refine Ct.of (own := RX3) (by decide) rfl (Nat.le_of_ble_eq_true rfl) rfl (fun X => ?_)
  refine v_iload_n dX3_nameOfKind_0 0 rfl 1 rfl ?_
  refine v_tabIn dX3_nameOfKind_1 (by decide) (by decide) (off := 38) (by decide) 39 (by decide) ?_
  refine v_ldcs dX3_nameOfKind_39 2 (by decide) rfl 41 rfl ?_
  exact v_aret dX3_nameOfKind_41 (by rfl) (by rfl)
set_option maxHeartbeats 1000000 in
set_option maxRecDepth 4000 in
theorem c_nk3 (l : Launch) {G : Gl} {w : WS} : Ct l G yX3_nameOfKind cX3_nameOfKind 1 (some (.object "java/lang/String")) 0 0 [.int (nI 3)] w (some (.ref (gK G 3))) w := by
  refine Ct.of (own := RX3) (by decide) rfl (Nat.le_of_ble_eq_true rfl) rfl (fun X => ?_)
  refine v_iload_n dX3_nameOfKind_0 0 rfl 1 rfl ?_
  refine v_tabIn dX3_nameOfKind_1 (by decide) (by decide) (off := 41) (by decide) 42 (by decide) ?_
  refine v_ldcs dX3_nameOfKind_42 3 (by decide) rfl 44 rfl ?_
  exact v_aret dX3_nameOfKind_44 (by rfl) (by rfl)
set_option maxHeartbeats 1000000 in
set_option maxRecDepth 4000 in
theorem c_nk4 (l : Launch) {G : Gl} {w : WS} : Ct l G yX3_nameOfKind cX3_nameOfKind 1 (some (.object "java/lang/String")) 0 0 [.int (nI 4)] w (some (.ref (gK G 4))) w := by
  refine Ct.of (own := RX3) (by decide) rfl (Nat.le_of_ble_eq_true rfl) rfl (fun X => ?_)
  refine v_iload_n dX3_nameOfKind_0 0 rfl 1 rfl ?_
  refine v_tabIn dX3_nameOfKind_1 (by decide) (by decide) (off := 44) (by decide) 45 (by decide) ?_
  refine v_ldcs dX3_nameOfKind_45 4 (by decide) rfl 47 rfl ?_
  exact v_aret dX3_nameOfKind_47 (by rfl) (by rfl)
set_option maxHeartbeats 1000000 in
set_option maxRecDepth 4000 in
theorem c_nk5 (l : Launch) {G : Gl} {w : WS} : Ct l G yX3_nameOfKind cX3_nameOfKind 1 (some (.object "java/lang/String")) 0 0 [.int (nI 5)] w (some (.ref (gK G 5))) w := by
  refine Ct.of (own := RX3) (by decide) rfl (Nat.le_of_ble_eq_true rfl) rfl (fun X => ?_)
  refine v_iload_n dX3_nameOfKind_0 0 rfl 1 rfl ?_
  refine v_tabIn dX3_nameOfKind_1 (by decide) (by decide) (off := 47) (by decide) 48 (by decide) ?_
  refine v_ldcs dX3_nameOfKind_48 5 (by decide) rfl 50 rfl ?_
  exact v_aret dX3_nameOfKind_50 (by rfl) (by rfl)
theorem c_X3_nameOfKind (l : Launch) {G : Gl} {w : WS} {k : Nat} (hk : k < 6) : Ct l G yX3_nameOfKind cX3_nameOfKind 1 (some (.object "java/lang/String")) 0 0 [.int (nI k)] w (some (.ref (gK G k))) w := by
  rcases (show k = 0 ∨ k = 1 ∨ k = 2 ∨ k = 3 ∨ k = 4 ∨ k = 5 by omega) with rfl | rfl | rfl | rfl | rfl | rfl
  · exact c_nk0 l
  · exact c_nk1 l
  · exact c_nk2 l
  · exact c_nk3 l
  · exact c_nk4 l
  · exact c_nk5 l
set_option maxHeartbeats 1000000 in
set_option maxRecDepth 4000 in
theorem lp_kindnamed (l : Launch) {G : Gl} {X : VX} {ov : Option Value} {wF : WS} {par : Nat → Pa} {tb : Nat → Int32} {tz ta te : Nat} {tk tv : Int32} {sh : Nat → Sh} {tl : Nat → Int32} {hi : Int32} {M : MS} (hta : ta ≤ te) (hte : te ≤ 120) (hk1 : ∀ i : Nat, i < 6 → (∀ j, j < i → (isW tb tk ta te) j = false) → (isW tb tk ta te) i = true → V l X 6 128 cX3_kindNamed 2 RX3 (some .int) G ov wF ((par, (tb, tz, tk, ta, te, tv), sh, tl, hi), M) 19 [(1, .int (nI i)), (0, .ref (ga G (81)))] []) (hk0 : (∀ j, j < 6 → (isW tb tk ta te) j = false) → V l X 6 128 cX3_kindNamed 2 RX3 (some .int) G ov wF ((par, (tb, tz, tk, ta, te, tv), sh, tl, hi), M) 27 [(1, .int (nI 6)), (0, .ref (ga G (81)))] []) : ∀ n i : Nat, i + n = 6 → (∀ j, j < i → (isW tb tk ta te) j = false) → V l X 6 128 cX3_kindNamed 2 RX3 (some .int) G ov wF ((par, (tb, tz, tk, ta, te, tv), sh, tl, hi), M) 2 [(1, .int (nI i)), (0, .ref (ga G (81)))] [] := by
  intro n
  induction n with
  | zero =>
    intro i hin hno
    obtain rfl : 6 = i := by omega
    refine v_iload_n dX3_kindNamed_2 0 rfl 3 rfl ?_
    refine v_bipush dX3_kindNamed_3 6 rfl 5 rfl ?_
    refine n_icmp_ge dX3_kindNamed_5 6 6 rfl rfl (by omega) (by omega) 27 (by decide) 8 rfl (fun c1 => ?_) (fun c1 => absurd c1 (by omega))
    exact hk0 hno
  | succ n ih =>
    intro i hin hno
    refine v_iload_n dX3_kindNamed_2 0 rfl 3 rfl ?_
    refine v_bipush dX3_kindNamed_3 6 rfl 5 rfl ?_
    refine n_icmp_ge dX3_kindNamed_5 i 6 rfl rfl (by omega) (by omega) 27 (by decide) 8 rfl (fun c1 => absurd c1 (by omega)) (fun c1 => ?_)
    refine v_aload_n dX3_kindNamed_8 1 rfl 9 rfl ?_
    refine v_iload_n dX3_kindNamed_9 0 rfl 10 rfl ?_
    refine v_callS (c_X3_nameOfKind l (k := i) (by omega)) kal_X3_nameOfKind rfl dX3_kindNamed_10 qw_508 qw_509 (by decide) [.ref (ga G (81))] (Nat.le_of_ble_eq_true rfl) rfl rfl 13 rfl ?_
    refine v_callV (c_X3_isWord l (k := i) (by omega) (by omega) (by omega)) kal_X3_isWord rfl dX3_kindNamed_13 qw_517 qw_519 qw_7 rfl (by decide) (cel_tap G _) (by decide) [] (Nat.le_of_ble_eq_true rfl) rfl rfl 16 rfl ?_
    refine v_ifb_eq dX3_kindNamed_16 21 (by decide) 19 rfl (fun c2 => ?_) (fun c2 => ?_)
    · skip
      refine v_iinc dX3_kindNamed_21 0 rfl (nI (i + 1)) (nI_1 _) (by decide) [(1, .int (nI (i + 1))), (0, .ref (ga G (81)))] rfl 24 rfl ?_
      refine v_goto dX3_kindNamed_24 2 (by decide) ?_
      exact ih (i + 1) (by omega) (lt_s hno (c2))
    · skip
      exact hk1 i (by omega) hno (c2)
def kdN (T : Tp) : Int32 := if fa_first (isW T.1 T.2.2.1 T.2.2.2.1 T.2.2.2.2.1) 6 < 6 then nI (fa_first (isW T.1 T.2.2.1 T.2.2.2.1 T.2.2.2.2.1) 6) else -1
set_option maxHeartbeats 1000000 in
set_option maxRecDepth 4000 in
theorem c_X3_kindNamed (l : Launch) {G : Gl} {par : Nat → Pa} {tb : Nat → Int32} {tz ta te : Nat} {tk tv : Int32} {sh : Nat → Sh} {tl : Nat → Int32} {hi : Int32} {M : MS} (hta : ta ≤ te) (hte : te ≤ 120) : Ct l G yX3_kindNamed cX3_kindNamed 2 (some .int) 6 128 [.ref (ga G (81))] ((par, (tb, tz, tk, ta, te, tv), sh, tl, hi), M) (some (.int (kdN (tb, tz, tk, ta, te, tv)))) ((par, (tb, tz, tk, ta, te, tv), sh, tl, hi), M) := by
  refine Ct.of (own := RX3) (by decide) rfl (Nat.le_of_ble_eq_true rfl) rfl (fun X => ?_)
  refine v_iconst dX3_kindNamed_0 0 rfl 1 rfl ?_
  refine v_istore_n dX3_kindNamed_1 1 rfl (by decide) [(1, .int 0), (0, .ref (ga G (81)))] rfl 2 rfl ?_
  refine lp_kindnamed l (par := par) (sh := sh) (tl := tl) (hi := hi) (M := M) (tb := tb) (tz := tz) (ta := ta) (te := te) (tk := tk) (tv := tv) hta hte (fun i hi9 hno hyes => ?_) (fun hno => ?_) 6 0 (by omega) (fun _ h => absurd h (Nat.not_lt_zero _))
  · skip
    have hF : fa_first (isW tb tk ta te) 6 = i := fa_first_eq (by omega) hno (fun _ => hyes)
    have hF2 : i < 6 := hi9
    refine v_iload_n dX3_kindNamed_19 0 rfl 20 rfl ?_
    exact v_iret dX3_kindNamed_20 (by simp [kdN, hF, hF2]) (by rfl)
  · skip
    have hF : fa_first (isW tb tk ta te) 6 = 6 := fa_first_eq (Nat.le_refl _) hno (fun h => absurd h (Nat.lt_irrefl _))
    refine v_iconst dX3_kindNamed_27 (-1) rfl 28 rfl ?_
    exact v_iret dX3_kindNamed_28 (by simp [kdN, hF, Nat.lt_irrefl]) (by rfl)
