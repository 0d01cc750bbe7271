theorem v_ls {l : Launch} {X : VX} {f n : Nat} {cc : ByteArray} {nL : Nat} {own : String} {ret : Option FieldType} {G : Gl} {ov : Option Value} {wF w : WS} {pc : Nat} {ls ls2 : List (Nat × Value)} {st : List Value} (e : ls = ls2) (hk : V l X f n cc nL own ret G ov wF w pc ls2 st) : V l X f n cc nL own ret G ov wF w pc ls st := by rw [e]; exact hk
def lastA (a : Rw) (f : Nat → Rw) : Nat → Rw
  | 0 => a
  | i + 1 => f i
set_option maxHeartbeats 1000000 in
set_option maxRecDepth 4000 in
theorem lp_mkind (l : Launch) {G : Gl} {X : VX} {ov : Option Value} {wF : WS} {K : CS} {ms : Nat → Int32} {mk : Nat → Int32} {mo : Nat → Int32} {ma : Nat → Int32} {mf : Nat → Int32} {ik : Int32} {mt : Nat → Int32} {td : Nat} {fr : Nat} {tt : Nat} {vl : Int32} {wr : Int32} {mb : Nat → Int32} {mz : Nat → Int32} {nu : Nat → Int64} {mv : Nat → Int64} {nE : Nat} (hn : ms 1 = nI nE) (hn8 : nE ≤ 8) {t0 : Nat} (hm : ms 0 = nI t0) (hmo : t0 < 2 ^ 20) {ja jb : Nat} (hja : ja < nE) (hjb : jb ≤ 60) (x3 : Int32) : ∀ n i : Nat, i + n = 6 → V l X 7 157 cX5_kind 8 RX5 (some .int) G ov wF (K, ((kS ms (38 + 14 * ja + 0) nI 6), mk, mo, (lastA ma (fun i => kS ms (38 + 14 * ja + 0) nI (i + 1)) 6), mf, ik, mt, td, fr, tt, vl, wr, mb, mz, nu, mv)) 103 [(6, .int (nI 6)), (5, .int (amx (vKind ms nE t0 ja jb) 0 (-1) 6).2), (4, .int (amx (vKind ms nE t0 ja jb) 0 (-1) 6).1), (3, .int x3), (0, .ref (ga G (93))), (1, .int (nI ja)), (2, .int (nI jb))] [] → V l X 7 157 cX5_kind 8 RX5 (some .int) G ov wF (K, ((kS ms (38 + 14 * ja + 0) nI i), mk, mo, (lastA ma (fun i => kS ms (38 + 14 * ja + 0) nI (i + 1)) i), mf, ik, mt, td, fr, tt, vl, wr, mb, mz, nu, mv)) 38 [(6, .int (nI i)), (5, .int (amx (vKind ms nE t0 ja jb) 0 (-1) i).2), (4, .int (amx (vKind ms nE t0 ja jb) 0 (-1) i).1), (3, .int x3), (0, .ref (ga G (93))), (1, .int (nI ja)), (2, .int (nI jb))] [] := by
  intro n
  induction n with
  | zero =>
    intro i hin hk
    obtain rfl : 6 = i := by omega
    refine v_iload dX5_kind_38 0 rfl 40 rfl ?_
    refine v_iconst dX5_kind_40 5 rfl 41 rfl ?_
    refine n_icmp_gt dX5_kind_41 6 5 rfl rfl (by omega) (by omega) 103 (by decide) 44 rfl (fun c1 => ?_) (fun c1 => absurd c1 (by omega))
    exact hk
  | succ n ih =>
    intro i hin hk
    refine v_iload dX5_kind_38 0 rfl 40 rfl ?_
    refine v_iconst dX5_kind_40 5 rfl 41 rfl ?_
    refine n_icmp_gt dX5_kind_41 i 5 rfl rfl (by omega) (by omega) 103 (by decide) 44 rfl (fun c1 => absurd c1 (by omega)) (fun c1 => ?_)
    refine v_aload_n dX5_kind_44 4 rfl 45 rfl ?_
    refine v_get (i := 0) (ci := 5) (T := TX5) (C := RX5) (N := 16) (v := .ref (ga G (94))) dX5_kind_45 inB5 rfl qw_686 rfl (by decide) (by decide) (cel_mod G _) rfl 48 rfl ?_
    refine v_iload_n dX5_kind_48 5 rfl 49 rfl ?_
    refine v_iconst dX5_kind_49 0 rfl 50 rfl ?_
    refine v_callS (c_X5_spot l ja 0) kal_X5_spot rfl dX5_kind_50 qw_785 qw_786 (by decide) [.ref (ga G (94))] (Nat.le_of_ble_eq_true rfl) rfl rfl 53 rfl ?_
    refine v_iload dX5_kind_53 0 rfl 55 rfl ?_
    refine v_iast (w2 := (K, (upd (kS ms (38 + 14 * ja + 0) nI i) (38 + 14 * ja + 0) (nI i), mk, mo, (lastA ma (fun i => kS ms (38 + 14 * ja + 0) nI (i + 1)) i), mf, ik, mt, td, fr, tt, vl, wr, mb, mz, nu, mv))) dX5_kind_55 (by decide) (cel_ms G _) (38 + 14 * ja + 0) rfl (by omega) (by decide) u_ms 56 rfl ?_
    refine v_aload_n dX5_kind_56 4 rfl 57 rfl ?_
    refine v_bipush dX5_kind_57 14 rfl 59 rfl ?_
    refine v_iload_n dX5_kind_59 6 rfl 60 rfl ?_
    refine v_callV (c_X5_twelveBehind l ((show (upd (kS ms (38 + 14 * ja + 0) nI i) (38 + 14 * ja + 0) (nI i)) 1 = ms 1 from (by first | (rw [upd_ne (by omega), upd_ne (by omega)]; done) | (rw [upd_ne (by omega), kS_lo _ _ _ _ (by omega)]; done) | (rw [kS_lo _ _ _ _ (by omega)]; done) | (rw [upd_ne (by omega)]; done) | rfl)).trans hn) hn8 ((show (upd (kS ms (38 + 14 * ja + 0) nI i) (38 + 14 * ja + 0) (nI i)) 0 = ms 0 from (by first | (rw [upd_ne (by omega), upd_ne (by omega)]; done) | (rw [upd_ne (by omega), kS_lo _ _ _ _ (by omega)]; done) | (rw [kS_lo _ _ _ _ (by omega)]; done) | (rw [upd_ne (by omega)]; done) | rfl)).trans hm) (by omega) (k := 14) (by omega)) kal_X5_twelveBehind rfl dX5_kind_60 qw_919 qw_921 qw_34 rfl (by decide) (cel_mod G _) (by decide) [] (Nat.le_of_ble_eq_true rfl) rfl rfl 63 rfl ?_
    refine v_topi (vKind ms nE t0 ja jb i) (by unfold vKind; rw [kS_upd]) ?_
    refine v_istore dX5_kind_63 (by decide) [(7, .int (vKind ms nE t0 ja jb i)), (6, .int (nI i)), (5, .int (amx (vKind ms nE t0 ja jb) 0 (-1) i).2), (4, .int (amx (vKind ms nE t0 ja jb) 0 (-1) i).1), (3, .int x3), (0, .ref (ga G (93))), (1, .int (nI ja)), (2, .int (nI jb))] rfl 65 rfl ?_
    refine v_iload dX5_kind_65 0 rfl 67 rfl ?_
    refine v_iload dX5_kind_67 2 rfl 69 rfl ?_
    refine v_icmp_le dX5_kind_69 77 (by decide) 72 rfl (fun c2 => ?_) (fun c2 => ?_)
    · skip
      refine v_iload dX5_kind_77 3 rfl 79 rfl ?_
      refine v_istore dX5_kind_79 (by decide) [(4, .int (amx (vKind ms nE t0 ja jb) 0 (-1) i).1), (7, .int (vKind ms nE t0 ja jb i)), (6, .int (nI i)), (5, .int (amx (vKind ms nE t0 ja jb) 0 (-1) i).2), (3, .int x3), (0, .ref (ga G (93))), (1, .int (nI ja)), (2, .int (nI jb))] rfl 81 rfl ?_
      refine v_iload dX5_kind_81 1 rfl 83 rfl ?_
      refine v_iload dX5_kind_83 3 rfl 85 rfl ?_
      refine v_icmp_le dX5_kind_85 93 (by decide) 88 rfl (fun c3 => ?_) (fun c3 => absurd c3 (fun q => by have h9 := c2; simp only [Int32.lt_iff_toInt_lt, Int32.le_iff_toInt_le] at h9 q; omega))
      refine v_iload dX5_kind_93 3 rfl 95 rfl ?_
      refine v_istore dX5_kind_95 (by decide) [(5, .int (amx (vKind ms nE t0 ja jb) 0 (-1) i).2), (4, .int (amx (vKind ms nE t0 ja jb) 0 (-1) i).1), (7, .int (vKind ms nE t0 ja jb i)), (6, .int (nI i)), (3, .int x3), (0, .ref (ga G (93))), (1, .int (nI ja)), (2, .int (nI jb))] rfl 97 rfl ?_
      refine v_iinc dX5_kind_97 3 rfl (nI (i + 1)) (nI_1 _) (by decide) [(6, .int (nI (i + 1))), (5, .int (amx (vKind ms nE t0 ja jb) 0 (-1) i).2), (4, .int (amx (vKind ms nE t0 ja jb) 0 (-1) i).1), (7, .int (vKind ms nE t0 ja jb i)), (3, .int x3), (0, .ref (ga G (93))), (1, .int (nI ja)), (2, .int (nI jb))] rfl 100 rfl ?_
      refine v_goto dX5_kind_100 38 (by decide) ?_
      refine v_pick [0, 1, 2, 4, 5, 6, 7] [(6, .int (nI (i + 1))), (5, .int (amx (vKind ms nE t0 ja jb) 0 (-1) i).2), (4, .int (amx (vKind ms nE t0 ja jb) 0 (-1) i).1), (3, .int x3), (0, .ref (ga G (93))), (1, .int (nI ja)), (2, .int (nI jb))] rfl ?_
      have e91 : (amx (vKind ms nE t0 ja jb) 0 (-1) i).1 = (amx (vKind ms nE t0 ja jb) 0 (-1) (i + 1)).1 := by simp [amx, c2, Int32.not_lt.mpr c2]
      have e92 : (amx (vKind ms nE t0 ja jb) 0 (-1) i).2 = (amx (vKind ms nE t0 ja jb) 0 (-1) (i + 1)).2 := by simp [amx, c2, Int32.not_lt.mpr c2]
      refine v_ls (ls2 := [(6, .int (nI (i + 1))), (5, .int (amx (vKind ms nE t0 ja jb) 0 (-1) (i + 1)).2), (4, .int (amx (vKind ms nE t0 ja jb) 0 (-1) (i + 1)).1), (3, .int x3), (0, .ref (ga G (93))), (1, .int (nI ja)), (2, .int (nI jb))]) (by simp only [List.cons.injEq, Prod.mk.injEq, Value.int.injEq, true_and, and_true, and_self]; exact ⟨e92, e91⟩) ?_
      exact ih (i + 1) (by omega) hk
    · skip
      refine v_iload dX5_kind_72 1 rfl 74 rfl ?_
      refine v_goto dX5_kind_74 79 (by decide) ?_
      refine v_istore dX5_kind_79 (by decide) [(4, .int (nI i)), (7, .int (vKind ms nE t0 ja jb i)), (6, .int (nI i)), (5, .int (amx (vKind ms nE t0 ja jb) 0 (-1) i).2), (3, .int x3), (0, .ref (ga G (93))), (1, .int (nI ja)), (2, .int (nI jb))] rfl 81 rfl ?_
      refine v_iload dX5_kind_81 1 rfl 83 rfl ?_
      refine v_iload dX5_kind_83 3 rfl 85 rfl ?_
      refine v_icmp_le dX5_kind_85 93 (by decide) 88 rfl (fun c4 => absurd c4 (fun q => by have h9 := c2; simp only [Int32.lt_iff_toInt_lt, Int32.le_iff_toInt_le] at h9 q; omega)) (fun c4 => ?_)
      refine v_iload dX5_kind_88 1 rfl 90 rfl ?_
      refine v_goto dX5_kind_90 95 (by decide) ?_
      refine v_istore dX5_kind_95 (by decide) [(5, .int (vKind ms nE t0 ja jb i)), (4, .int (nI i)), (7, .int (vKind ms nE t0 ja jb i)), (6, .int (nI i)), (3, .int x3), (0, .ref (ga G (93))), (1, .int (nI ja)), (2, .int (nI jb))] rfl 97 rfl ?_
      refine v_iinc dX5_kind_97 3 rfl (nI (i + 1)) (nI_1 _) (by decide) [(6, .int (nI (i + 1))), (5, .int (vKind ms nE t0 ja jb i)), (4, .int (nI i)), (7, .int (vKind ms nE t0 ja jb i)), (3, .int x3), (0, .ref (ga G (93))), (1, .int (nI ja)), (2, .int (nI jb))] rfl 100 rfl ?_
      refine v_goto dX5_kind_100 38 (by decide) ?_
      refine v_pick [0, 1, 2, 4, 5, 6, 7] [(6, .int (nI (i + 1))), (5, .int (vKind ms nE t0 ja jb i)), (4, .int (nI i)), (3, .int x3), (0, .ref (ga G (93))), (1, .int (nI ja)), (2, .int (nI jb))] rfl ?_
      have e91 : nI i = (amx (vKind ms nE t0 ja jb) 0 (-1) (i + 1)).1 := by simp [amx, c2, Int32.not_le.mp c2]
      have e92 : vKind ms nE t0 ja jb i = (amx (vKind ms nE t0 ja jb) 0 (-1) (i + 1)).2 := by simp [amx, c2, Int32.not_le.mp c2]
      refine v_ls (ls2 := [(6, .int (nI (i + 1))), (5, .int (amx (vKind ms nE t0 ja jb) 0 (-1) (i + 1)).2), (4, .int (amx (vKind ms nE t0 ja jb) 0 (-1) (i + 1)).1), (3, .int x3), (0, .ref (ga G (93))), (1, .int (nI ja)), (2, .int (nI jb))]) (by simp only [List.cons.injEq, Prod.mk.injEq, Value.int.injEq, true_and, and_true, and_self]; exact ⟨e92, e91⟩) ?_
      exact ih (i + 1) (by omega) hk
set_option maxHeartbeats 1000000 in
set_option maxRecDepth 4000 in
theorem c_X5_kind (l : Launch) {G : Gl} {K : CS} {M : MS} {nE : Nat} (hn : M.1 1 = nI nE) (hn8 : nE ≤ 8) {t0 : Nat} (hm : M.1 0 = nI t0) (hmo : t0 < 2 ^ 20) (a b : Int32) : Ct l G yX5_kind cX5_kind 8 (some .int) 7 157 [.ref (ga G (93)), .int a, .int b] (K, M) (some (.int (qKind M nE t0 a b).1)) (K, (qKind M nE t0 a b).2) := by
  obtain ⟨ms, mk, mo, ma, mf, ik, mt, td, fr, tt, vl, wr, mb, mz, nu, mv⟩ := M
  dsimp only at hn hm
  refine Ct.of (own := RX5) (by decide) rfl (Nat.le_of_ble_eq_true rfl) rfl (fun X => ?_)
  refine v_aload_n dX5_kind_0 0 rfl 1 rfl ?_
  refine v_iload_n dX5_kind_1 1 rfl 2 rfl ?_
  refine v_callV (c_X5_isEwe l hn hn8 a) kal_X5_isEwe rfl dX5_kind_2 qw_805 qw_807 qw_21 rfl (by decide) (cel_mod G _) (by decide) [] (Nat.le_of_ble_eq_true rfl) rfl rfl 5 rfl ?_
  refine v_ifb_eq dX5_kind_5 15 (by decide) 8 rfl (fun c1 => ?_) (fun c1 => ?_)
  · skip
    refine v_aload_n dX5_kind_15 0 rfl 16 rfl ?_
    refine v_ldc dX5_kind_16 (-1000000001) qw_755 18 rfl ?_
    refine v_callV (c_X5_finds l (k := 0) (by decide) (-1000000001) (by decide)) kal_X5_finds rfl dX5_kind_18 qw_756 qw_758 qw_15 rfl (by decide) (cel_mod G _) (by decide) [] (Nat.le_of_ble_eq_true rfl) rfl rfl 21 rfl ?_
    exact v_iret dX5_kind_21 (by simp only [qKind, c1, Bool.and_self, Bool.and_true, Bool.true_and, Bool.and_false, Bool.false_and, if_true, if_false, Bool.false_eq_true, ↓reduceIte] <;> simp [mFind, xs, xa, fnd0, true_and]) (by simp only [qKind, c1, Bool.and_self, Bool.and_true, Bool.true_and, Bool.and_false, Bool.false_and, if_true, if_false, Bool.false_eq_true, ↓reduceIte] <;> first | (simp [mFind, xs, xa, fnd0, true_and]; done) | (rw [kS_upd, fa_upd_same rfl]; rfl) | (rw [kS_upd, fa_upd_same rfl]; show _ = (_, _); simp [xa, lastA, kS_s]; rfl))
  · skip
    obtain ⟨ja, h2ja, rfl⟩ := inE_ix c1
    have eja : (nI ja).toNatClampNeg = ja := nI_clamp (by omega)
    refine v_iload_n dX5_kind_8 2 rfl 9 rfl ?_
    refine v_callS (c_X5_isSoon l b) kal_X5_isSoon rfl dX5_kind_9 qw_957 qw_958 (by decide) [] (Nat.le_of_ble_eq_true rfl) rfl rfl 12 rfl ?_
    refine v_ifb_ne dX5_kind_12 22 (by decide) 15 rfl (fun c2 => ?_) (fun c2 => ?_)
    · skip
      obtain ⟨jb, h1jb, h2jb, rfl⟩ := inb_ix (lo := 1) (hi := 60) c2
      have ejb : (nI jb).toNatClampNeg = jb := nI_clamp (by omega)
      refine v_aload_n dX5_kind_22 0 rfl 23 rfl ?_
      refine v_iload_n dX5_kind_23 1 rfl 24 rfl ?_
      refine v_iconst dX5_kind_24 0 rfl 25 rfl ?_
      refine v_callV (c_X5_its l (e := ja) (k := 0) (by omega) (by omega)) kal_X5_its rfl dX5_kind_25 qw_810 qw_812 qw_22 rfl (by decide) (cel_mod G _) (by decide) [] (Nat.le_of_ble_eq_true rfl) rfl rfl 28 rfl ?_
      refine v_istore_n dX5_kind_28 3 rfl (by decide) [(3, .int (ms (38 + 14 * ja + 0))), (0, .ref (ga G (93))), (1, .int (nI ja)), (2, .int (nI jb))] rfl 29 rfl ?_
      refine v_iconst dX5_kind_29 0 rfl 30 rfl ?_
      refine v_istore dX5_kind_30 (by decide) [(4, .int 0), (3, .int (ms (38 + 14 * ja + 0))), (0, .ref (ga G (93))), (1, .int (nI ja)), (2, .int (nI jb))] rfl 32 rfl ?_
      refine v_iconst dX5_kind_32 (-1) rfl 33 rfl ?_
      refine v_istore dX5_kind_33 (by decide) [(5, .int (-1)), (4, .int 0), (3, .int (ms (38 + 14 * ja + 0))), (0, .ref (ga G (93))), (1, .int (nI ja)), (2, .int (nI jb))] rfl 35 rfl ?_
      refine v_iconst dX5_kind_35 0 rfl 36 rfl ?_
      refine v_istore dX5_kind_36 (by decide) [(6, .int 0), (5, .int (-1)), (4, .int 0), (3, .int (ms (38 + 14 * ja + 0))), (0, .ref (ga G (93))), (1, .int (nI ja)), (2, .int (nI jb))] rfl 38 rfl ?_
      refine lp_mkind l hn hn8 hm hmo (ja := ja) (jb := jb) (by omega) (by omega) (ms (38 + 14 * ja + 0)) 6 0 (by omega) ?_
      refine v_aload_n dX5_kind_103 4 rfl 104 rfl ?_
      refine v_get (i := 0) (ci := 5) (T := TX5) (C := RX5) (N := 16) (v := .ref (ga G (94))) dX5_kind_104 inB5 rfl qw_686 rfl (by decide) (by decide) (cel_mod G _) rfl 107 rfl ?_
      refine v_iload_n dX5_kind_107 5 rfl 108 rfl ?_
      refine v_iconst dX5_kind_108 0 rfl 109 rfl ?_
      refine v_callS (c_X5_spot l ja 0) kal_X5_spot rfl dX5_kind_109 qw_785 qw_786 (by decide) [.ref (ga G (94))] (Nat.le_of_ble_eq_true rfl) rfl rfl 112 rfl ?_
      refine v_iload_n dX5_kind_112 3 rfl 113 rfl ?_
      refine v_iast (w2 := (K, (upd (kS ms (38 + 14 * ja + 0) nI 6) (38 + 14 * ja + 0) (ms (38 + 14 * ja + 0)), mk, mo, (lastA ma (fun i => kS ms (38 + 14 * ja + 0) nI (i + 1)) 6), mf, ik, mt, td, fr, tt, vl, wr, mb, mz, nu, mv))) dX5_kind_113 (by decide) (cel_ms G _) (38 + 14 * ja + 0) rfl (by omega) (by decide) u_ms 114 rfl ?_
      refine v_iload dX5_kind_114 2 rfl 116 rfl ?_
      exact v_iret dX5_kind_116 (by simp only [qKind, c1, c2, eja, ejb, Bool.and_self, Bool.and_true, Bool.true_and, Bool.and_false, Bool.false_and, if_true, if_false, Bool.false_eq_true, ↓reduceIte] <;> simp [mFind, xs, xa, fnd0, eja, ejb]) (by simp only [qKind, c1, c2, eja, ejb, Bool.and_self, Bool.and_true, Bool.true_and, Bool.and_false, Bool.false_and, if_true, if_false, Bool.false_eq_true, ↓reduceIte] <;> first | (simp [mFind, xs, xa, fnd0, eja, ejb]; done) | (rw [kS_upd, fa_upd_same rfl]; rfl) | (rw [kS_upd, fa_upd_same rfl]; show _ = (_, _); simp [xa, lastA, kS_s]; rfl))
    · skip
      refine v_aload_n dX5_kind_15 0 rfl 16 rfl ?_
      refine v_ldc dX5_kind_16 (-1000000001) qw_755 18 rfl ?_
      refine v_callV (c_X5_finds l (k := 0) (by decide) (-1000000001) (by decide)) kal_X5_finds rfl dX5_kind_18 qw_756 qw_758 qw_15 rfl (by decide) (cel_mod G _) (by decide) [] (Nat.le_of_ble_eq_true rfl) rfl rfl 21 rfl ?_
      exact v_iret dX5_kind_21 (by simp only [qKind, c1, c2, eja, Bool.and_self, Bool.and_true, Bool.true_and, Bool.and_false, Bool.false_and, if_true, if_false, Bool.false_eq_true, ↓reduceIte] <;> simp [mFind, xs, xa, fnd0, eja]) (by simp only [qKind, c1, c2, eja, Bool.and_self, Bool.and_true, Bool.true_and, Bool.and_false, Bool.false_and, if_true, if_false, Bool.false_eq_true, ↓reduceIte] <;> first | (simp [mFind, xs, xa, fnd0, eja]; done) | (rw [kS_upd, fa_upd_same rfl]; rfl) | (rw [kS_upd, fa_upd_same rfl]; show _ = (_, _); simp [xa, lastA, kS_s]; rfl))
set_option maxHeartbeats 1000000 in
set_option maxRecDepth 4000 in
theorem lp_mcold (l : Launch) {G : Gl} {X : VX} {ov : Option Value} {wF : WS} {K : CS} {ms : Nat → Int32} {mk : Nat → Int32} {mo : Nat → Int32} {ma : Nat → Int32} {mf : Nat → Int32} {ik : Int32} {mt : Nat → Int32} {td : Nat} {fr : Nat} {tt : Nat} {vl : Int32} {wr : Int32} {mb : Nat → Int32} {mz : Nat → Int32} {nu : Nat → Int64} {mv : Nat → Int64} {nE : Nat} (hn : ms 1 = nI nE) (hn8 : nE ≤ 8) {t0 : Nat} (hm : ms 0 = nI t0) (hmo : t0 < 2 ^ 20) {ja jb : Nat} (hja : ja < 12) (hjb : jb ≤ 60) (c x4 : Int32) (hk1 : ∀ i : Nat, i < 41 → (∀ j, j < i → (pCold ms nE t0 ja jb c) j = false) → (pCold ms nE t0 ja jb c) i = true → V l X 7 157 cX5_cold 7 RX5 (some .int) G ov wF (K, ((kS ms (2 + ja) (fun i => 20 - nI i) (i + 1)), mk, mo, (kS ms (2 + ja) (fun i => 20 - nI i) (i + 1)), mf, ik, mt, td, fr, tt, vl, wr, mb, mz, nu, mv)) 103 [(5, .int (20 - nI i)), (4, .int x4), (0, .ref (ga G (93))), (1, .int (nI ja)), (2, .int (nI jb)), (3, .int c)] []) (hk0 : (∀ j, j < 41 → (pCold ms nE t0 ja jb c) j = false) → V l X 7 157 cX5_cold 7 RX5 (some .int) G ov wF (K, ((kS ms (2 + ja) (fun i => 20 - nI i) 41), mk, mo, (lastA ma (fun i => kS ms (2 + ja) (fun i => 20 - nI i) (i + 1)) 41), mf, ik, mt, td, fr, tt, vl, wr, mb, mz, nu, mv)) 103 [(5, .int 21), (4, .int x4), (0, .ref (ga G (93))), (1, .int (nI ja)), (2, .int (nI jb)), (3, .int c)] []) : ∀ n i : Nat, i + n = 41 → (∀ j, j < i → (pCold ms nE t0 ja jb c) j = false) → V l X 7 157 cX5_cold 7 RX5 (some .int) G ov wF (K, ((kS ms (2 + ja) (fun i => 20 - nI i) i), mk, mo, (lastA ma (fun i => kS ms (2 + ja) (fun i => 20 - nI i) (i + 1)) i), mf, ik, mt, td, fr, tt, vl, wr, mb, mz, nu, mv)) 51 [(6, .int (20 - nI i)), (5, .int 21), (4, .int x4), (0, .ref (ga G (93))), (1, .int (nI ja)), (2, .int (nI jb)), (3, .int c)] [] := by
  intro n
  induction n with
  | zero =>
    intro i hin hno
    obtain rfl : 41 = i := by omega
    refine v_iload dX5_cold_51 0 rfl 53 rfl ?_
    refine v_bipush dX5_cold_53 (-20) rfl 55 rfl ?_
    refine v_icmp_lt dX5_cold_55 103 (by decide) 58 rfl (fun c1 => ?_) (fun c1 => absurd c1 (by decide))
    refine v_pick [1, 2, 3, 4, 5, 6] [(5, .int 21), (4, .int x4), (0, .ref (ga G (93))), (1, .int (nI ja)), (2, .int (nI jb)), (3, .int c)] rfl ?_
    exact hk0 hno
  | succ n ih =>
    intro i hin hno
    have hw9 : (20 - nI i : Int32).toInt = 20 - (i : Int) := dn_t (a := 20) i (by decide) (by omega)
    refine v_iload dX5_cold_51 0 rfl 53 rfl ?_
    refine v_bipush dX5_cold_53 (-20) rfl 55 rfl ?_
    refine v_icmp_lt dX5_cold_55 103 (by decide) 58 rfl (fun c1 => absurd c1 (fun q => by have h9 := (Int32.lt_iff_toInt_lt).mp q; have e9 : (-20 : Int32).toInt = -20 := rfl; omega)) (fun c1 => ?_)
    refine v_iload dX5_cold_58 1 rfl 60 rfl ?_
    refine v_bipush dX5_cold_60 20 rfl 62 rfl ?_
    refine v_icmp_le dX5_cold_62 103 (by decide) 65 rfl (fun c2 => absurd c2 (by decide)) (fun c2 => ?_)
    refine v_aload_n dX5_cold_65 3 rfl 66 rfl ?_
    refine v_get (i := 0) (ci := 5) (T := TX5) (C := RX5) (N := 16) (v := .ref (ga G (94))) dX5_cold_66 inB5 rfl qw_686 rfl (by decide) (by decide) (cel_mod G _) rfl 69 rfl ?_
    refine v_iconst dX5_cold_69 2 rfl 70 rfl ?_
    refine v_iload_n dX5_cold_70 4 rfl 71 rfl ?_
    refine n_iadd dX5_cold_71 2 ja rfl rfl 72 rfl ?_
    refine v_iload dX5_cold_72 0 rfl 74 rfl ?_
    refine v_iast (w2 := (K, (upd (kS ms (2 + ja) (fun i => 20 - nI i) i) (2 + ja) (20 - nI i), mk, mo, (lastA ma (fun i => kS ms (2 + ja) (fun i => 20 - nI i) (i + 1)) i), mf, ik, mt, td, fr, tt, vl, wr, mb, mz, nu, mv))) dX5_cold_74 (by decide) (cel_ms G _) (2 + ja) rfl (by omega) (by decide) u_ms 75 rfl ?_
    refine v_aload_n dX5_cold_75 3 rfl 76 rfl ?_
    refine v_bipush dX5_cold_76 14 rfl 78 rfl ?_
    refine v_iload_n dX5_cold_78 4 rfl 79 rfl ?_
    refine n_iadd dX5_cold_79 14 ja rfl rfl 80 rfl ?_
    refine v_iload_n dX5_cold_80 5 rfl 81 rfl ?_
    refine v_callV (c_X5_behind l ((show (upd (kS ms (2 + ja) (fun i => 20 - nI i) i) (2 + ja) (20 - nI i)) 1 = ms 1 from (by first | (rw [upd_ne (by omega), upd_ne (by omega)]; done) | (rw [upd_ne (by omega), kS_lo _ _ _ _ (by omega)]; done) | (rw [kS_lo _ _ _ _ (by omega)]; done) | (rw [upd_ne (by omega)]; done) | rfl)).trans hn) hn8 ((show (upd (kS ms (2 + ja) (fun i => 20 - nI i) i) (2 + ja) (20 - nI i)) 0 = ms 0 from (by first | (rw [upd_ne (by omega), upd_ne (by omega)]; done) | (rw [upd_ne (by omega), kS_lo _ _ _ _ (by omega)]; done) | (rw [kS_lo _ _ _ _ (by omega)]; done) | (rw [upd_ne (by omega)]; done) | rfl)).trans hm) (by omega) (k := 14 + ja) (by omega)) kal_X5_behind rfl dX5_cold_81 qw_931 qw_933 qw_37 rfl (by decide) (cel_mod G _) (by decide) [] (Nat.le_of_ble_eq_true rfl) rfl rfl 84 rfl ?_
    refine v_topi (mGo (upd ms (2 + ja) (20 - nI i)) nE t0 jb (14 + ja)) (by rw [kS_upd]) ?_
    refine v_iload_n dX5_cold_84 6 rfl 85 rfl ?_
    refine v_icmp_lt dX5_cold_85 93 (by decide) 88 rfl (fun c3 => ?_) (fun c3 => ?_)
    · skip
      refine v_iload dX5_cold_93 1 rfl 95 rfl ?_
      refine v_istore dX5_cold_95 (by decide) [(5, .int 21), (6, .int (20 - nI i)), (4, .int x4), (0, .ref (ga G (93))), (1, .int (nI ja)), (2, .int (nI jb)), (3, .int c)] rfl 97 rfl ?_
      refine v_iinc dX5_cold_97 1 rfl (20 - nI (i + 1)) (dn_i _ _) (by decide) [(6, .int (20 - nI (i + 1))), (5, .int 21), (4, .int x4), (0, .ref (ga G (93))), (1, .int (nI ja)), (2, .int (nI jb)), (3, .int c)] rfl 100 rfl ?_
      refine v_goto dX5_cold_100 51 (by decide) ?_
      exact ih (i + 1) (by omega) (lt_s hno (by simp [pCold, c3, Int32.not_le.mpr c3]))
    · skip
      refine v_iload dX5_cold_88 0 rfl 90 rfl ?_
      refine v_goto dX5_cold_90 95 (by decide) ?_
      refine v_istore dX5_cold_95 (by decide) [(5, .int (20 - nI i)), (6, .int (20 - nI i)), (4, .int x4), (0, .ref (ga G (93))), (1, .int (nI ja)), (2, .int (nI jb)), (3, .int c)] rfl 97 rfl ?_
      refine v_iinc dX5_cold_97 1 rfl (20 - nI (i + 1)) (dn_i _ _) (by decide) [(6, .int (20 - nI (i + 1))), (5, .int (20 - nI i)), (4, .int x4), (0, .ref (ga G (93))), (1, .int (nI ja)), (2, .int (nI jb)), (3, .int c)] rfl 100 rfl ?_
      refine v_goto dX5_cold_100 51 (by decide) ?_
      refine v_iload dX5_cold_51 0 rfl 53 rfl ?_
      refine v_bipush dX5_cold_53 (-20) rfl 55 rfl ?_
      refine v_icmp_lt dX5_cold_55 103 (by decide) 58 rfl (fun c4 => ?_) (fun c4 => ?_)
      · skip
        refine v_pick [1, 2, 3, 4, 5, 6] [(5, .int (20 - nI i)), (4, .int x4), (0, .ref (ga G (93))), (1, .int (nI ja)), (2, .int (nI jb)), (3, .int c)] rfl ?_
        exact hk1 i (by omega) hno (by simp [pCold, c3, Int32.not_lt.mp c3, c4, Int32.not_le.mpr c4])
      · skip
        refine v_iload dX5_cold_58 1 rfl 60 rfl ?_
        refine v_bipush dX5_cold_60 20 rfl 62 rfl ?_
        refine v_icmp_le dX5_cold_62 103 (by decide) 65 rfl (fun c5 => ?_) (fun c5 => absurd c5 (fun q => by have h9 := (show ¬ (20 - nI i : Int32).toInt ≤ (20 : Int32).toInt from fun z => q ((Int32.le_iff_toInt_le).mpr z)); have e9 : (20 : Int32).toInt = 20 := rfl; omega))
        refine v_pick [1, 2, 3, 4, 5, 6] [(5, .int (20 - nI i)), (4, .int x4), (0, .ref (ga G (93))), (1, .int (nI ja)), (2, .int (nI jb)), (3, .int c)] rfl ?_
        exact hk1 i (by omega) hno (by simp [pCold, c3, Int32.not_lt.mp c3, c4, Int32.not_lt.mp c4])
set_option maxHeartbeats 1000000 in
set_option maxRecDepth 4000 in
theorem lp_mbears (l : Launch) {G : Gl} {X : VX} {ov : Option Value} {wF : WS} {K : CS} {ms : Nat → Int32} {mk : Nat → Int32} {mo : Nat → Int32} {ma : Nat → Int32} {mf : Nat → Int32} {ik : Int32} {mt : Nat → Int32} {td : Nat} {fr : Nat} {tt : Nat} {vl : Int32} {wr : Int32} {mb : Nat → Int32} {mz : Nat → Int32} {nu : Nat → Int64} {mv : Nat → Int64} {nE : Nat} (hn : ms 1 = nI nE) (hn8 : nE ≤ 8) {t0 : Nat} (hm : ms 0 = nI t0) (hmo : t0 < 2 ^ 20) {ja jb : Nat} (hja : ja < nE) (hjb : jb ≤ 60) (c x4 : Int32) (hk1 : ∀ i : Nat, i < 100 → (∀ j, j < i → (pBears ms nE t0 ja jb c) j = false) → (pBears ms nE t0 ja jb c) i = true → V l X 7 157 cX5_bears 7 RX5 (some .int) G ov wF (K, ((kS ms (38 + 14 * ja + 1) (fun i => 99 - nI i) (i + 1)), mk, mo, (kS ms (38 + 14 * ja + 1) (fun i => 99 - nI i) (i + 1)), mf, ik, mt, td, fr, tt, vl, wr, mb, mz, nu, mv)) 104 [(5, .int (99 - nI i)), (4, .int x4), (0, .ref (ga G (93))), (1, .int (nI ja)), (2, .int (nI jb)), (3, .int c)] []) (hk0 : (∀ j, j < 100 → (pBears ms nE t0 ja jb c) j = false) → V l X 7 157 cX5_bears 7 RX5 (some .int) G ov wF (K, ((kS ms (38 + 14 * ja + 1) (fun i => 99 - nI i) 100), mk, mo, (lastA ma (fun i => kS ms (38 + 14 * ja + 1) (fun i => 99 - nI i) (i + 1)) 100), mf, ik, mt, td, fr, tt, vl, wr, mb, mz, nu, mv)) 104 [(5, .int (-1)), (4, .int x4), (0, .ref (ga G (93))), (1, .int (nI ja)), (2, .int (nI jb)), (3, .int c)] []) : ∀ n i : Nat, i + n = 100 → (∀ j, j < i → (pBears ms nE t0 ja jb c) j = false) → V l X 7 157 cX5_bears 7 RX5 (some .int) G ov wF (K, ((kS ms (38 + 14 * ja + 1) (fun i => 99 - nI i) i), mk, mo, (lastA ma (fun i => kS ms (38 + 14 * ja + 1) (fun i => 99 - nI i) (i + 1)) i), mf, ik, mt, td, fr, tt, vl, wr, mb, mz, nu, mv)) 54 [(6, .int (99 - nI i)), (5, .int (-1)), (4, .int x4), (0, .ref (ga G (93))), (1, .int (nI ja)), (2, .int (nI jb)), (3, .int c)] [] := by
  intro n
  induction n with
  | zero =>
    intro i hin hno
    obtain rfl : 100 = i := by omega
    refine v_iload dX5_bears_54 0 rfl 56 rfl ?_
    refine v_if_lt dX5_bears_56 104 (by decide) 59 rfl (fun c1 => ?_) (fun c1 => absurd c1 (by decide))
    refine v_pick [1, 2, 3, 4, 5, 6] [(5, .int (-1)), (4, .int x4), (0, .ref (ga G (93))), (1, .int (nI ja)), (2, .int (nI jb)), (3, .int c)] rfl ?_
    exact hk0 hno
  | succ n ih =>
    intro i hin hno
    have hw9 : (99 - nI i : Int32).toInt = 99 - (i : Int) := dn_t (a := 99) i (by decide) (by omega)
    refine v_iload dX5_bears_54 0 rfl 56 rfl ?_
    refine v_if_lt dX5_bears_56 104 (by decide) 59 rfl (fun c1 => absurd c1 (fun q => by have h9 := (Int32.lt_iff_toInt_lt).mp q; have e9 : (0 : Int32).toInt = 0 := rfl; omega)) (fun c1 => ?_)
    refine v_iload dX5_bears_59 1 rfl 61 rfl ?_
    refine v_if_ge dX5_bears_61 104 (by decide) 64 rfl (fun c2 => absurd c2 (by decide)) (fun c2 => ?_)
    refine v_aload_n dX5_bears_64 3 rfl 65 rfl ?_
    refine v_get (i := 0) (ci := 5) (T := TX5) (C := RX5) (N := 16) (v := .ref (ga G (94))) dX5_bears_65 inB5 rfl qw_686 rfl (by decide) (by decide) (cel_mod G _) rfl 68 rfl ?_
    refine v_iload_n dX5_bears_68 4 rfl 69 rfl ?_
    refine v_iconst dX5_bears_69 1 rfl 70 rfl ?_
    refine v_callS (c_X5_spot l ja 1) kal_X5_spot rfl dX5_bears_70 qw_785 qw_786 (by decide) [.ref (ga G (94))] (Nat.le_of_ble_eq_true rfl) rfl rfl 73 rfl ?_
    refine v_iload dX5_bears_73 0 rfl 75 rfl ?_
    refine v_iast (w2 := (K, (upd (kS ms (38 + 14 * ja + 1) (fun i => 99 - nI i) i) (38 + 14 * ja + 1) (99 - nI i), mk, mo, (lastA ma (fun i => kS ms (38 + 14 * ja + 1) (fun i => 99 - nI i) (i + 1)) i), mf, ik, mt, td, fr, tt, vl, wr, mb, mz, nu, mv))) dX5_bears_75 (by decide) (cel_ms G _) (38 + 14 * ja + 1) rfl (by omega) (by decide) u_ms 76 rfl ?_
    refine v_aload_n dX5_bears_76 3 rfl 77 rfl ?_
    refine v_iload_n dX5_bears_77 4 rfl 78 rfl ?_
    refine v_iconst dX5_bears_78 2 rfl 79 rfl ?_
    refine v_callS (c_X5_spot l ja 2) kal_X5_spot rfl dX5_bears_79 qw_785 qw_786 (by decide) [.ref (ga G (93))] (Nat.le_of_ble_eq_true rfl) rfl rfl 82 rfl ?_
    refine v_iload_n dX5_bears_82 5 rfl 83 rfl ?_
    refine v_callV (c_X5_twelveBehind l ((show (upd (kS ms (38 + 14 * ja + 1) (fun i => 99 - nI i) i) (38 + 14 * ja + 1) (99 - nI i)) 1 = ms 1 from (by first | (rw [upd_ne (by omega), upd_ne (by omega)]; done) | (rw [upd_ne (by omega), kS_lo _ _ _ _ (by omega)]; done) | (rw [kS_lo _ _ _ _ (by omega)]; done) | (rw [upd_ne (by omega)]; done) | rfl)).trans hn) hn8 ((show (upd (kS ms (38 + 14 * ja + 1) (fun i => 99 - nI i) i) (38 + 14 * ja + 1) (99 - nI i)) 0 = ms 0 from (by first | (rw [upd_ne (by omega), upd_ne (by omega)]; done) | (rw [upd_ne (by omega), kS_lo _ _ _ _ (by omega)]; done) | (rw [kS_lo _ _ _ _ (by omega)]; done) | (rw [upd_ne (by omega)]; done) | rfl)).trans hm) (by omega) (k := 38 + 14 * ja + 2) (by omega)) kal_X5_twelveBehind rfl dX5_bears_83 qw_919 qw_921 qw_34 rfl (by decide) (cel_mod G _) (by decide) [] (Nat.le_of_ble_eq_true rfl) rfl rfl 86 rfl ?_
    refine v_topi (sm (fun m => mGo (upd ms (38 + 14 * ja + 1) (99 - nI i)) nE t0 jb (38 + 14 * ja + 2 + m)) 12) (by rw [kS_upd]) ?_
    refine v_iload_n dX5_bears_86 6 rfl 87 rfl ?_
    refine v_icmp_lt dX5_bears_87 95 (by decide) 90 rfl (fun c3 => ?_) (fun c3 => ?_)
    · skip
      refine v_iconst dX5_bears_95 (-1) rfl 96 rfl ?_
      refine v_istore dX5_bears_96 (by decide) [(5, .int (-1)), (6, .int (99 - nI i)), (4, .int x4), (0, .ref (ga G (93))), (1, .int (nI ja)), (2, .int (nI jb)), (3, .int c)] rfl 98 rfl ?_
      refine v_iinc dX5_bears_98 1 rfl (99 - nI (i + 1)) (dn_i _ _) (by decide) [(6, .int (99 - nI (i + 1))), (5, .int (-1)), (4, .int x4), (0, .ref (ga G (93))), (1, .int (nI ja)), (2, .int (nI jb)), (3, .int c)] rfl 101 rfl ?_
      refine v_goto dX5_bears_101 54 (by decide) ?_
      exact ih (i + 1) (by omega) (lt_s hno (by simp [pBears, c3, Int32.not_le.mpr c3]))
    · skip
      refine v_iload dX5_bears_90 0 rfl 92 rfl ?_
      refine v_goto dX5_bears_92 96 (by decide) ?_
      refine v_istore dX5_bears_96 (by decide) [(5, .int (99 - nI i)), (6, .int (99 - nI i)), (4, .int x4), (0, .ref (ga G (93))), (1, .int (nI ja)), (2, .int (nI jb)), (3, .int c)] rfl 98 rfl ?_
      refine v_iinc dX5_bears_98 1 rfl (99 - nI (i + 1)) (dn_i _ _) (by decide) [(6, .int (99 - nI (i + 1))), (5, .int (99 - nI i)), (4, .int x4), (0, .ref (ga G (93))), (1, .int (nI ja)), (2, .int (nI jb)), (3, .int c)] rfl 101 rfl ?_
      refine v_goto dX5_bears_101 54 (by decide) ?_
      refine v_iload dX5_bears_54 0 rfl 56 rfl ?_
      refine v_if_lt dX5_bears_56 104 (by decide) 59 rfl (fun c4 => ?_) (fun c4 => ?_)
      · skip
        refine v_pick [1, 2, 3, 4, 5, 6] [(5, .int (99 - nI i)), (4, .int x4), (0, .ref (ga G (93))), (1, .int (nI ja)), (2, .int (nI jb)), (3, .int c)] rfl ?_
        exact hk1 i (by omega) hno (by simp [pBears, c3, Int32.not_lt.mp c3, c4, Int32.not_le.mpr c4])
      · skip
        refine v_iload dX5_bears_59 1 rfl 61 rfl ?_
        refine v_if_ge dX5_bears_61 104 (by decide) 64 rfl (fun c5 => ?_) (fun c5 => absurd c5 (fun q => by have h9 := (show ¬ (0 : Int32).toInt ≤ (99 - nI i : Int32).toInt from fun z => q ((Int32.le_iff_toInt_le).mpr z)); have e9 : (0 : Int32).toInt = 0 := rfl; omega))
        refine v_pick [1, 2, 3, 4, 5, 6] [(5, .int (99 - nI i)), (4, .int x4), (0, .ref (ga G (93))), (1, .int (nI ja)), (2, .int (nI jb)), (3, .int c)] rfl ?_
        exact hk1 i (by omega) hno (by simp [pBears, c3, Int32.not_lt.mp c3, c4, Int32.not_lt.mp c4])
set_option maxHeartbeats 1000000 in
set_option maxRecDepth 4000 in
theorem c_X5_cold (l : Launch) {G : Gl} {K : CS} {M : MS} {nE : Nat} (hn : M.1 1 = nI nE) (hn8 : nE ≤ 8) {t0 : Nat} (hm : M.1 0 = nI t0) (hmo : t0 < 2 ^ 20) (a b c : Int32) : Ct l G yX5_cold cX5_cold 7 (some .int) 7 157 [.ref (ga G (93)), .int a, .int b, .int c] (K, M) (some (.int (qCold M nE t0 a b c).1)) (K, (qCold M nE t0 a b c).2) := by
  obtain ⟨ms, mk, mo, ma, mf, ik, mt, td, fr, tt, vl, wr, mb, mz, nu, mv⟩ := M
  dsimp only at hn hm
  refine Ct.of (own := RX5) (by decide) rfl (Nat.le_of_ble_eq_true rfl) rfl (fun X => ?_)
  refine v_iload_n dX5_cold_0 1 rfl 1 rfl ?_
  refine v_callS (c_X5_isMonth l a) kal_X5_isMonth rfl dX5_cold_1 qw_739 qw_740 (by decide) [] (Nat.le_of_ble_eq_true rfl) rfl rfl 4 rfl ?_
  refine v_ifb_eq dX5_cold_4 26 (by decide) 7 rfl (fun c1 => ?_) (fun c1 => ?_)
  · skip
    refine v_aload_n dX5_cold_26 0 rfl 27 rfl ?_
    refine v_ldc dX5_cold_27 (-1000000001) qw_755 29 rfl ?_
    refine v_callV (c_X5_finds l (k := 0) (by decide) (-1000000001) (by decide)) kal_X5_finds rfl dX5_cold_29 qw_756 qw_758 qw_15 rfl (by decide) (cel_mod G _) (by decide) [] (Nat.le_of_ble_eq_true rfl) rfl rfl 32 rfl ?_
    exact v_iret dX5_cold_32 (by simp only [qCold, c1, Bool.and_self, Bool.and_true, Bool.true_and, Bool.and_false, Bool.false_and, if_true, if_false, Bool.false_eq_true, ↓reduceIte] <;> first | (simp [mFind, xs, xa, fnd0, fnd3, true_and]; done) | (simp only [kS_upd, fa_upd_same]; simp [mFind, xs, xa, fnd0, fnd3, lastA, kS_s, true_and]; done) | (rw [kS_upd, fa_upd_same rfl]; simp [mFind, xs, xa, fnd0, fnd3, lastA, kS_s, true_and])) (by simp only [qCold, c1, Bool.and_self, Bool.and_true, Bool.true_and, Bool.and_false, Bool.false_and, if_true, if_false, Bool.false_eq_true, ↓reduceIte] <;> first | (simp [mFind, xs, xa, fnd0, fnd3, true_and]; done) | (simp only [kS_upd, fa_upd_same]; simp [mFind, xs, xa, fnd0, fnd3, lastA, kS_s, true_and]; done) | (rw [kS_upd, fa_upd_same rfl]; simp [mFind, xs, xa, fnd0, fnd3, lastA, kS_s, true_and]))
  · skip
    obtain ⟨ja, h1ja, h2ja, rfl⟩ := inb_ix (lo := 0) (hi := 11) c1
    have eja : (nI ja).toNatClampNeg = ja := nI_clamp (by omega)
    refine v_iload_n dX5_cold_7 2 rfl 8 rfl ?_
    refine v_callS (c_X5_isSoon l b) kal_X5_isSoon rfl dX5_cold_8 qw_957 qw_958 (by decide) [] (Nat.le_of_ble_eq_true rfl) rfl rfl 11 rfl ?_
    refine v_ifb_eq dX5_cold_11 26 (by decide) 14 rfl (fun c2 => ?_) (fun c2 => ?_)
    · skip
      refine v_aload_n dX5_cold_26 0 rfl 27 rfl ?_
      refine v_ldc dX5_cold_27 (-1000000001) qw_755 29 rfl ?_
      refine v_callV (c_X5_finds l (k := 0) (by decide) (-1000000001) (by decide)) kal_X5_finds rfl dX5_cold_29 qw_756 qw_758 qw_15 rfl (by decide) (cel_mod G _) (by decide) [] (Nat.le_of_ble_eq_true rfl) rfl rfl 32 rfl ?_
      exact v_iret dX5_cold_32 (by simp only [qCold, c1, c2, eja, Bool.and_self, Bool.and_true, Bool.true_and, Bool.and_false, Bool.false_and, if_true, if_false, Bool.false_eq_true, ↓reduceIte] <;> first | (simp [mFind, xs, xa, fnd0, fnd3, eja]; done) | (simp only [kS_upd, fa_upd_same]; simp [mFind, xs, xa, fnd0, fnd3, lastA, kS_s, eja]; done) | (rw [kS_upd, fa_upd_same rfl]; simp [mFind, xs, xa, fnd0, fnd3, lastA, kS_s, eja])) (by simp only [qCold, c1, c2, eja, Bool.and_self, Bool.and_true, Bool.true_and, Bool.and_false, Bool.false_and, if_true, if_false, Bool.false_eq_true, ↓reduceIte] <;> first | (simp [mFind, xs, xa, fnd0, fnd3, eja]; done) | (simp only [kS_upd, fa_upd_same]; simp [mFind, xs, xa, fnd0, fnd3, lastA, kS_s, eja]; done) | (rw [kS_upd, fa_upd_same rfl]; simp [mFind, xs, xa, fnd0, fnd3, lastA, kS_s, eja]))
    · skip
      obtain ⟨jb, h1jb, h2jb, rfl⟩ := inb_ix (lo := 1) (hi := 60) c2
      have ejb : (nI jb).toNatClampNeg = jb := nI_clamp (by omega)
      refine v_iload_n dX5_cold_14 3 rfl 15 rfl ?_
      refine v_i2l dX5_cold_15 16 rfl ?_
      refine v_lconst dX5_cold_16 0 rfl 17 rfl ?_
      refine v_ldc2 dX5_cold_17 9999 qw_943 20 rfl ?_
      refine v_callS (c_X5_in l (c : Int32).toInt64 0 9999 (z := (c : Int32).toInt) (lo := 0) (hi := 9999) (i2l_i _) rfl rfl) kal_X5_in rfl dX5_cold_20 qw_743 qw_744 (by decide) [] (Nat.le_of_ble_eq_true rfl) rfl rfl 23 rfl ?_
      refine v_topi (b2 (inb 0 9999 c)) rfl ?_
      refine v_ifb_ne dX5_cold_23 33 (by decide) 26 rfl (fun c3 => ?_) (fun c3 => ?_)
      · skip
        refine v_aload_n dX5_cold_33 0 rfl 34 rfl ?_
        refine v_get (i := 0) (ci := 5) (T := TX5) (C := RX5) (N := 16) (v := .ref (ga G (94))) dX5_cold_34 inB5 rfl qw_686 rfl (by decide) (by decide) (cel_mod G _) rfl 37 rfl ?_
        refine v_iconst dX5_cold_37 2 rfl 38 rfl ?_
        refine v_iload_n dX5_cold_38 1 rfl 39 rfl ?_
        refine n_iadd dX5_cold_39 2 ja rfl rfl 40 rfl ?_
        refine v_iald (a := ms) dX5_cold_40 (by decide) (cel_ms G _) (2 + ja) rfl (by omega) (by decide) 41 rfl ?_
        refine v_istore dX5_cold_41 (by decide) [(4, .int (ms (2 + ja))), (0, .ref (ga G (93))), (1, .int (nI ja)), (2, .int (nI jb)), (3, .int c)] rfl 43 rfl ?_
        refine v_bipush dX5_cold_43 21 rfl 45 rfl ?_
        refine v_istore dX5_cold_45 (by decide) [(5, .int 21), (4, .int (ms (2 + ja))), (0, .ref (ga G (93))), (1, .int (nI ja)), (2, .int (nI jb)), (3, .int c)] rfl 47 rfl ?_
        refine v_bipush dX5_cold_47 20 rfl 49 rfl ?_
        refine v_istore dX5_cold_49 (by decide) [(6, .int 20), (5, .int 21), (4, .int (ms (2 + ja))), (0, .ref (ga G (93))), (1, .int (nI ja)), (2, .int (nI jb)), (3, .int c)] rfl 51 rfl ?_
        refine lp_mcold l hn hn8 hm hmo (ja := ja) (jb := jb) (by omega) (by omega) c (ms (2 + ja)) (fun i hi hno hyes => ?_) (fun hno => ?_) 41 0 (by omega) (fun _ h => absurd h (Nat.not_lt_zero _))
        · skip
          have hF : fa_first (pCold ms nE t0 ja jb c) 41 = i := fa_first_eq (by omega) hno (fun _ => hyes)
          have hF2 : i < 41 := hi
          have hw9 : (20 - nI i : Int32).toInt = 20 - (i : Int) := dn_t (a := 20) i (by decide) (by omega)
          refine v_aload_n dX5_cold_103 2 rfl 104 rfl ?_
          refine v_get (i := 0) (ci := 5) (T := TX5) (C := RX5) (N := 16) (v := .ref (ga G (94))) dX5_cold_104 inB5 rfl qw_686 rfl (by decide) (by decide) (cel_mod G _) rfl 107 rfl ?_
          refine v_iconst dX5_cold_107 2 rfl 108 rfl ?_
          refine v_iload_n dX5_cold_108 3 rfl 109 rfl ?_
          refine n_iadd dX5_cold_109 2 ja rfl rfl 110 rfl ?_
          refine v_iload dX5_cold_110 1 rfl 112 rfl ?_
          refine v_iast (w2 := (K, (upd (kS ms (2 + ja) (fun i => 20 - nI i) (i + 1)) (2 + ja) (ms (2 + ja)), mk, mo, (kS ms (2 + ja) (fun i => 20 - nI i) (i + 1)), mf, ik, mt, td, fr, tt, vl, wr, mb, mz, nu, mv))) dX5_cold_112 (by decide) (cel_ms G _) (2 + ja) rfl (by omega) (by decide) u_ms 113 rfl ?_
          refine v_iload dX5_cold_113 0 rfl 115 rfl ?_
          refine v_bipush dX5_cold_115 20 rfl 117 rfl ?_
          refine v_icmp_le dX5_cold_117 129 (by decide) 120 rfl (fun c4 => ?_) (fun c4 => absurd c4 (fun q => by have h9 := (show ¬ (20 - nI i : Int32).toInt ≤ (20 : Int32).toInt from fun z => q ((Int32.le_iff_toInt_le).mpr z)); have e9 : (20 : Int32).toInt = 20 := rfl; omega))
          refine v_iload dX5_cold_129 0 rfl 131 rfl ?_
          exact v_iret dX5_cold_131 (by simp only [qCold, c1, c2, c3, eja, ejb, hF, hF2, Bool.and_self, Bool.and_true, Bool.true_and, Bool.and_false, Bool.false_and, if_true, if_false, Bool.false_eq_true, ↓reduceIte] <;> first | (simp [mFind, xs, xa, fnd0, fnd3, eja, ejb, hF, hF2]; done) | (simp only [kS_upd, fa_upd_same]; simp [mFind, xs, xa, fnd0, fnd3, lastA, kS_s, eja, ejb, hF, hF2]; done) | (rw [kS_upd, fa_upd_same rfl]; simp [mFind, xs, xa, fnd0, fnd3, lastA, kS_s, eja, ejb, hF, hF2])) (by simp only [qCold, c1, c2, c3, eja, ejb, hF, hF2, Bool.and_self, Bool.and_true, Bool.true_and, Bool.and_false, Bool.false_and, if_true, if_false, Bool.false_eq_true, ↓reduceIte] <;> first | (simp [mFind, xs, xa, fnd0, fnd3, eja, ejb, hF, hF2]; done) | (simp only [kS_upd, fa_upd_same]; simp [mFind, xs, xa, fnd0, fnd3, lastA, kS_s, eja, ejb, hF, hF2]; done) | (rw [kS_upd, fa_upd_same rfl]; simp [mFind, xs, xa, fnd0, fnd3, lastA, kS_s, eja, ejb, hF, hF2]))
        · skip
          have hF : fa_first (pCold ms nE t0 ja jb c) 41 = 41 := fa_first_eq (Nat.le_refl _) hno (fun h => absurd h (Nat.lt_irrefl _))
          refine v_aload_n dX5_cold_103 2 rfl 104 rfl ?_
          refine v_get (i := 0) (ci := 5) (T := TX5) (C := RX5) (N := 16) (v := .ref (ga G (94))) dX5_cold_104 inB5 rfl qw_686 rfl (by decide) (by decide) (cel_mod G _) rfl 107 rfl ?_
          refine v_iconst dX5_cold_107 2 rfl 108 rfl ?_
          refine v_iload_n dX5_cold_108 3 rfl 109 rfl ?_
          refine n_iadd dX5_cold_109 2 ja rfl rfl 110 rfl ?_
          refine v_iload dX5_cold_110 1 rfl 112 rfl ?_
          refine v_iast (w2 := (K, (upd (kS ms (2 + ja) (fun i => 20 - nI i) 41) (2 + ja) (ms (2 + ja)), mk, mo, (lastA ma (fun i => kS ms (2 + ja) (fun i => 20 - nI i) (i + 1)) 41), mf, ik, mt, td, fr, tt, vl, wr, mb, mz, nu, mv))) dX5_cold_112 (by decide) (cel_ms G _) (2 + ja) rfl (by omega) (by decide) u_ms 113 rfl ?_
          refine v_iload dX5_cold_113 0 rfl 115 rfl ?_
          refine v_bipush dX5_cold_115 20 rfl 117 rfl ?_
          refine v_icmp_le dX5_cold_117 129 (by decide) 120 rfl (fun c5 => absurd c5 (by decide)) (fun c5 => ?_)
          refine v_aload_n dX5_cold_120 2 rfl 121 rfl ?_
          refine v_ldc dX5_cold_121 (-1000000004) qw_948 123 rfl ?_
          refine v_callV (c_X5_finds l (k := 3) (by decide) (-1000000004) (by decide)) kal_X5_finds rfl dX5_cold_123 qw_756 qw_758 qw_15 rfl (by decide) (cel_mod G _) (by decide) [] (Nat.le_of_ble_eq_true rfl) rfl rfl 126 rfl ?_
          refine v_goto dX5_cold_126 131 (by decide) ?_
          exact v_iret dX5_cold_131 (by simp only [qCold, c1, c2, c3, eja, ejb, hF, Bool.and_self, Bool.and_true, Bool.true_and, Bool.and_false, Bool.false_and, if_true, if_false, Bool.false_eq_true, ↓reduceIte] <;> first | (simp [mFind, xs, xa, fnd0, fnd3, eja, ejb, hF]; done) | (simp only [kS_upd, fa_upd_same]; simp [mFind, xs, xa, fnd0, fnd3, lastA, kS_s, eja, ejb, hF]; done) | (rw [kS_upd, fa_upd_same rfl]; simp [mFind, xs, xa, fnd0, fnd3, lastA, kS_s, eja, ejb, hF])) (by simp only [qCold, c1, c2, c3, eja, ejb, hF, Bool.and_self, Bool.and_true, Bool.true_and, Bool.and_false, Bool.false_and, if_true, if_false, Bool.false_eq_true, ↓reduceIte] <;> first | (simp [mFind, xs, xa, fnd0, fnd3, eja, ejb, hF]; done) | (simp only [kS_upd, fa_upd_same]; simp [mFind, xs, xa, fnd0, fnd3, lastA, kS_s, eja, ejb, hF]; done) | (rw [kS_upd, fa_upd_same rfl]; simp [mFind, xs, xa, fnd0, fnd3, lastA, kS_s, eja, ejb, hF]))
      · skip
        refine v_aload_n dX5_cold_26 0 rfl 27 rfl ?_
        refine v_ldc dX5_cold_27 (-1000000001) qw_755 29 rfl ?_
        refine v_callV (c_X5_finds l (k := 0) (by decide) (-1000000001) (by decide)) kal_X5_finds rfl dX5_cold_29 qw_756 qw_758 qw_15 rfl (by decide) (cel_mod G _) (by decide) [] (Nat.le_of_ble_eq_true rfl) rfl rfl 32 rfl ?_
        exact v_iret dX5_cold_32 (by simp only [qCold, c1, c2, c3, eja, ejb, Bool.and_self, Bool.and_true, Bool.true_and, Bool.and_false, Bool.false_and, if_true, if_false, Bool.false_eq_true, ↓reduceIte] <;> first | (simp [mFind, xs, xa, fnd0, fnd3, eja, ejb]; done) | (simp only [kS_upd, fa_upd_same]; simp [mFind, xs, xa, fnd0, fnd3, lastA, kS_s, eja, ejb]; done) | (rw [kS_upd, fa_upd_same rfl]; simp [mFind, xs, xa, fnd0, fnd3, lastA, kS_s, eja, ejb])) (by simp only [qCold, c1, c2, c3, eja, ejb, Bool.and_self, Bool.and_true, Bool.true_and, Bool.and_false, Bool.false_and, if_true, if_false, Bool.false_eq_true, ↓reduceIte] <;> first | (simp [mFind, xs, xa, fnd0, fnd3, eja, ejb]; done) | (simp only [kS_upd, fa_upd_same]; simp [mFind, xs, xa, fnd0, fnd3, lastA, kS_s, eja, ejb]; done) | (rw [kS_upd, fa_upd_same rfl]; simp [mFind, xs, xa, fnd0, fnd3, lastA, kS_s, eja, ejb]))
set_option maxHeartbeats 1000000 in
set_option maxRecDepth 4000 in
theorem c_X5_bears (l : Launch) {G : Gl} {K : CS} {M : MS} {nE : Nat} (hn : M.1 1 = nI nE) (hn8 : nE ≤ 8) {t0 : Nat} (hm : M.1 0 = nI t0) (hmo : t0 < 2 ^ 20) (a b c : Int32) : Ct l G yX5_bears cX5_bears 7 (some .int) 7 157 [.ref (ga G (93)), .int a, .int b, .int c] (K, M) (some (.int (qBears M nE t0 a b c).1)) (K, (qBears M nE t0 a b c).2) := by
  obtain ⟨ms, mk, mo, ma, mf, ik, mt, td, fr, tt, vl, wr, mb, mz, nu, mv⟩ := M
  dsimp only at hn hm
  refine Ct.of (own := RX5) (by decide) rfl (Nat.le_of_ble_eq_true rfl) rfl (fun X => ?_)
  refine v_aload_n dX5_bears_0 0 rfl 1 rfl ?_
  refine v_iload_n dX5_bears_1 1 rfl 2 rfl ?_
  refine v_callV (c_X5_isEwe l hn hn8 a) kal_X5_isEwe rfl dX5_bears_2 qw_805 qw_807 qw_21 rfl (by decide) (cel_mod G _) (by decide) [] (Nat.le_of_ble_eq_true rfl) rfl rfl 5 rfl ?_
  refine v_ifb_eq dX5_bears_5 32 (by decide) 8 rfl (fun c1 => ?_) (fun c1 => ?_)
  · skip
    refine v_aload_n dX5_bears_32 0 rfl 33 rfl ?_
    refine v_ldc dX5_bears_33 (-1000000001) qw_755 35 rfl ?_
    refine v_callV (c_X5_finds l (k := 0) (by decide) (-1000000001) (by decide)) kal_X5_finds rfl dX5_bears_35 qw_756 qw_758 qw_15 rfl (by decide) (cel_mod G _) (by decide) [] (Nat.le_of_ble_eq_true rfl) rfl rfl 38 rfl ?_
    exact v_iret dX5_bears_38 (by simp only [qBears, c1, Bool.and_self, Bool.and_true, Bool.true_and, Bool.and_false, Bool.false_and, if_true, if_false, Bool.false_eq_true, ↓reduceIte] <;> first | (simp [mFind, xs, xa, fnd0, fnd3, true_and]; done) | (simp only [kS_upd, fa_upd_same]; simp [mFind, xs, xa, fnd0, fnd3, lastA, kS_s, true_and]; done) | (rw [kS_upd, fa_upd_same rfl]; simp [mFind, xs, xa, fnd0, fnd3, lastA, kS_s, true_and])) (by simp only [qBears, c1, Bool.and_self, Bool.and_true, Bool.true_and, Bool.and_false, Bool.false_and, if_true, if_false, Bool.false_eq_true, ↓reduceIte] <;> first | (simp [mFind, xs, xa, fnd0, fnd3, true_and]; done) | (simp only [kS_upd, fa_upd_same]; simp [mFind, xs, xa, fnd0, fnd3, lastA, kS_s, true_and]; done) | (rw [kS_upd, fa_upd_same rfl]; simp [mFind, xs, xa, fnd0, fnd3, lastA, kS_s, true_and]))
  · skip
    obtain ⟨ja, h2ja, rfl⟩ := inE_ix c1
    have eja : (nI ja).toNatClampNeg = ja := nI_clamp (by omega)
    refine v_iload_n dX5_bears_8 2 rfl 9 rfl ?_
    refine v_i2l dX5_bears_9 10 rfl ?_
    refine v_lconst dX5_bears_10 0 rfl 11 rfl ?_
    refine v_ldc2 dX5_bears_11 60 qw_898 14 rfl ?_
    refine v_callS (c_X5_in l (b : Int32).toInt64 0 60 (z := (b : Int32).toInt) (lo := 0) (hi := 60) (i2l_i _) rfl rfl) kal_X5_in rfl dX5_bears_14 qw_743 qw_744 (by decide) [] (Nat.le_of_ble_eq_true rfl) rfl rfl 17 rfl ?_
    refine v_topi (b2 (inb 0 60 b)) rfl ?_
    refine v_ifb_eq dX5_bears_17 32 (by decide) 20 rfl (fun c2 => ?_) (fun c2 => ?_)
    · skip
      refine v_aload_n dX5_bears_32 0 rfl 33 rfl ?_
      refine v_ldc dX5_bears_33 (-1000000001) qw_755 35 rfl ?_
      refine v_callV (c_X5_finds l (k := 0) (by decide) (-1000000001) (by decide)) kal_X5_finds rfl dX5_bears_35 qw_756 qw_758 qw_15 rfl (by decide) (cel_mod G _) (by decide) [] (Nat.le_of_ble_eq_true rfl) rfl rfl 38 rfl ?_
      exact v_iret dX5_bears_38 (by simp only [qBears, c1, c2, eja, Bool.and_self, Bool.and_true, Bool.true_and, Bool.and_false, Bool.false_and, if_true, if_false, Bool.false_eq_true, ↓reduceIte] <;> first | (simp [mFind, xs, xa, fnd0, fnd3, eja]; done) | (simp only [kS_upd, fa_upd_same]; simp [mFind, xs, xa, fnd0, fnd3, lastA, kS_s, eja]; done) | (rw [kS_upd, fa_upd_same rfl]; simp [mFind, xs, xa, fnd0, fnd3, lastA, kS_s, eja])) (by simp only [qBears, c1, c2, eja, Bool.and_self, Bool.and_true, Bool.true_and, Bool.and_false, Bool.false_and, if_true, if_false, Bool.false_eq_true, ↓reduceIte] <;> first | (simp [mFind, xs, xa, fnd0, fnd3, eja]; done) | (simp only [kS_upd, fa_upd_same]; simp [mFind, xs, xa, fnd0, fnd3, lastA, kS_s, eja]; done) | (rw [kS_upd, fa_upd_same rfl]; simp [mFind, xs, xa, fnd0, fnd3, lastA, kS_s, eja]))
    · skip
      obtain ⟨jb, h1jb, h2jb, rfl⟩ := inb_ix (lo := 0) (hi := 60) c2
      have ejb : (nI jb).toNatClampNeg = jb := nI_clamp (by omega)
      refine v_iload_n dX5_bears_20 3 rfl 21 rfl ?_
      refine v_i2l dX5_bears_21 22 rfl ?_
      refine v_lconst dX5_bears_22 0 rfl 23 rfl ?_
      refine v_ldc2 dX5_bears_23 1188 qw_972 26 rfl ?_
      refine v_callS (c_X5_in l (c : Int32).toInt64 0 1188 (z := (c : Int32).toInt) (lo := 0) (hi := 1188) (i2l_i _) rfl rfl) kal_X5_in rfl dX5_bears_26 qw_743 qw_744 (by decide) [] (Nat.le_of_ble_eq_true rfl) rfl rfl 29 rfl ?_
      refine v_topi (b2 (inb 0 1188 c)) rfl ?_
      refine v_ifb_ne dX5_bears_29 39 (by decide) 32 rfl (fun c3 => ?_) (fun c3 => ?_)
      · skip
        refine v_aload_n dX5_bears_39 0 rfl 40 rfl ?_
        refine v_iload_n dX5_bears_40 1 rfl 41 rfl ?_
        refine v_iconst dX5_bears_41 1 rfl 42 rfl ?_
        refine v_callV (c_X5_its l (e := ja) (k := 1) (by omega) (by omega)) kal_X5_its rfl dX5_bears_42 qw_810 qw_812 qw_22 rfl (by decide) (cel_mod G _) (by decide) [] (Nat.le_of_ble_eq_true rfl) rfl rfl 45 rfl ?_
        refine v_istore dX5_bears_45 (by decide) [(4, .int (ms (38 + 14 * ja + 1))), (0, .ref (ga G (93))), (1, .int (nI ja)), (2, .int (nI jb)), (3, .int c)] rfl 47 rfl ?_
        refine v_iconst dX5_bears_47 (-1) rfl 48 rfl ?_
        refine v_istore dX5_bears_48 (by decide) [(5, .int (-1)), (4, .int (ms (38 + 14 * ja + 1))), (0, .ref (ga G (93))), (1, .int (nI ja)), (2, .int (nI jb)), (3, .int c)] rfl 50 rfl ?_
        refine v_bipush dX5_bears_50 99 rfl 52 rfl ?_
        refine v_istore dX5_bears_52 (by decide) [(6, .int 99), (5, .int (-1)), (4, .int (ms (38 + 14 * ja + 1))), (0, .ref (ga G (93))), (1, .int (nI ja)), (2, .int (nI jb)), (3, .int c)] rfl 54 rfl ?_
        refine lp_mbears l hn hn8 hm hmo (ja := ja) (jb := jb) (by omega) (by omega) c (ms (38 + 14 * ja + 1)) (fun i hi hno hyes => ?_) (fun hno => ?_) 100 0 (by omega) (fun _ h => absurd h (Nat.not_lt_zero _))
        · skip
          have hF : fa_first (pBears ms nE t0 ja jb c) 100 = i := fa_first_eq (by omega) hno (fun _ => hyes)
          have hF2 : i < 100 := hi
          have hw9 : (99 - nI i : Int32).toInt = 99 - (i : Int) := dn_t (a := 99) i (by decide) (by omega)
          refine v_aload_n dX5_bears_104 2 rfl 105 rfl ?_
          refine v_get (i := 0) (ci := 5) (T := TX5) (C := RX5) (N := 16) (v := .ref (ga G (94))) dX5_bears_105 inB5 rfl qw_686 rfl (by decide) (by decide) (cel_mod G _) rfl 108 rfl ?_
          refine v_iload_n dX5_bears_108 3 rfl 109 rfl ?_
          refine v_iconst dX5_bears_109 1 rfl 110 rfl ?_
          refine v_callS (c_X5_spot l ja 1) kal_X5_spot rfl dX5_bears_110 qw_785 qw_786 (by decide) [.ref (ga G (94))] (Nat.le_of_ble_eq_true rfl) rfl rfl 113 rfl ?_
          refine v_iload dX5_bears_113 1 rfl 115 rfl ?_
          refine v_iast (w2 := (K, (upd (kS ms (38 + 14 * ja + 1) (fun i => 99 - nI i) (i + 1)) (38 + 14 * ja + 1) (ms (38 + 14 * ja + 1)), mk, mo, (kS ms (38 + 14 * ja + 1) (fun i => 99 - nI i) (i + 1)), mf, ik, mt, td, fr, tt, vl, wr, mb, mz, nu, mv))) dX5_bears_115 (by decide) (cel_ms G _) (38 + 14 * ja + 1) rfl (by omega) (by decide) u_ms 116 rfl ?_
          refine v_iload dX5_bears_116 0 rfl 118 rfl ?_
          refine v_if_ge dX5_bears_118 130 (by decide) 121 rfl (fun c4 => ?_) (fun c4 => absurd c4 (fun q => by have h9 := (show ¬ (0 : Int32).toInt ≤ (99 - nI i : Int32).toInt from fun z => q ((Int32.le_iff_toInt_le).mpr z)); have e9 : (0 : Int32).toInt = 0 := rfl; omega))
          refine v_iload dX5_bears_130 0 rfl 132 rfl ?_
          exact v_iret dX5_bears_132 (by simp only [qBears, c1, c2, c3, eja, ejb, hF, hF2, Bool.and_self, Bool.and_true, Bool.true_and, Bool.and_false, Bool.false_and, if_true, if_false, Bool.false_eq_true, ↓reduceIte] <;> first | (simp [mFind, xs, xa, fnd0, fnd3, eja, ejb, hF, hF2]; done) | (simp only [kS_upd, fa_upd_same]; simp [mFind, xs, xa, fnd0, fnd3, lastA, kS_s, eja, ejb, hF, hF2]; done) | (rw [kS_upd, fa_upd_same rfl]; simp [mFind, xs, xa, fnd0, fnd3, lastA, kS_s, eja, ejb, hF, hF2])) (by simp only [qBears, c1, c2, c3, eja, ejb, hF, hF2, Bool.and_self, Bool.and_true, Bool.true_and, Bool.and_false, Bool.false_and, if_true, if_false, Bool.false_eq_true, ↓reduceIte] <;> first | (simp [mFind, xs, xa, fnd0, fnd3, eja, ejb, hF, hF2]; done) | (simp only [kS_upd, fa_upd_same]; simp [mFind, xs, xa, fnd0, fnd3, lastA, kS_s, eja, ejb, hF, hF2]; done) | (rw [kS_upd, fa_upd_same rfl]; simp [mFind, xs, xa, fnd0, fnd3, lastA, kS_s, eja, ejb, hF, hF2]))
        · skip
          have hF : fa_first (pBears ms nE t0 ja jb c) 100 = 100 := fa_first_eq (Nat.le_refl _) hno (fun h => absurd h (Nat.lt_irrefl _))
          refine v_aload_n dX5_bears_104 2 rfl 105 rfl ?_
          refine v_get (i := 0) (ci := 5) (T := TX5) (C := RX5) (N := 16) (v := .ref (ga G (94))) dX5_bears_105 inB5 rfl qw_686 rfl (by decide) (by decide) (cel_mod G _) rfl 108 rfl ?_
          refine v_iload_n dX5_bears_108 3 rfl 109 rfl ?_
          refine v_iconst dX5_bears_109 1 rfl 110 rfl ?_
          refine v_callS (c_X5_spot l ja 1) kal_X5_spot rfl dX5_bears_110 qw_785 qw_786 (by decide) [.ref (ga G (94))] (Nat.le_of_ble_eq_true rfl) rfl rfl 113 rfl ?_
          refine v_iload dX5_bears_113 1 rfl 115 rfl ?_
          refine v_iast (w2 := (K, (upd (kS ms (38 + 14 * ja + 1) (fun i => 99 - nI i) 100) (38 + 14 * ja + 1) (ms (38 + 14 * ja + 1)), mk, mo, (lastA ma (fun i => kS ms (38 + 14 * ja + 1) (fun i => 99 - nI i) (i + 1)) 100), mf, ik, mt, td, fr, tt, vl, wr, mb, mz, nu, mv))) dX5_bears_115 (by decide) (cel_ms G _) (38 + 14 * ja + 1) rfl (by omega) (by decide) u_ms 116 rfl ?_
          refine v_iload dX5_bears_116 0 rfl 118 rfl ?_
          refine v_if_ge dX5_bears_118 130 (by decide) 121 rfl (fun c5 => absurd c5 (by decide)) (fun c5 => ?_)
          refine v_aload_n dX5_bears_121 2 rfl 122 rfl ?_
          refine v_ldc dX5_bears_122 (-1000000004) qw_948 124 rfl ?_
          refine v_callV (c_X5_finds l (k := 3) (by decide) (-1000000004) (by decide)) kal_X5_finds rfl dX5_bears_124 qw_756 qw_758 qw_15 rfl (by decide) (cel_mod G _) (by decide) [] (Nat.le_of_ble_eq_true rfl) rfl rfl 127 rfl ?_
          refine v_goto dX5_bears_127 132 (by decide) ?_
          exact v_iret dX5_bears_132 (by simp only [qBears, c1, c2, c3, eja, ejb, hF, Bool.and_self, Bool.and_true, Bool.true_and, Bool.and_false, Bool.false_and, if_true, if_false, Bool.false_eq_true, ↓reduceIte] <;> first | (simp [mFind, xs, xa, fnd0, fnd3, eja, ejb, hF]; done) | (simp only [kS_upd, fa_upd_same]; simp [mFind, xs, xa, fnd0, fnd3, lastA, kS_s, eja, ejb, hF]; done) | (rw [kS_upd, fa_upd_same rfl]; simp [mFind, xs, xa, fnd0, fnd3, lastA, kS_s, eja, ejb, hF])) (by simp only [qBears, c1, c2, c3, eja, ejb, hF, Bool.and_self, Bool.and_true, Bool.true_and, Bool.and_false, Bool.false_and, if_true, if_false, Bool.false_eq_true, ↓reduceIte] <;> first | (simp [mFind, xs, xa, fnd0, fnd3, eja, ejb, hF]; done) | (simp only [kS_upd, fa_upd_same]; simp [mFind, xs, xa, fnd0, fnd3, lastA, kS_s, eja, ejb, hF]; done) | (rw [kS_upd, fa_upd_same rfl]; simp [mFind, xs, xa, fnd0, fnd3, lastA, kS_s, eja, ejb, hF]))
      · skip
        refine v_aload_n dX5_bears_32 0 rfl 33 rfl ?_
        refine v_ldc dX5_bears_33 (-1000000001) qw_755 35 rfl ?_
        refine v_callV (c_X5_finds l (k := 0) (by decide) (-1000000001) (by decide)) kal_X5_finds rfl dX5_bears_35 qw_756 qw_758 qw_15 rfl (by decide) (cel_mod G _) (by decide) [] (Nat.le_of_ble_eq_true rfl) rfl rfl 38 rfl ?_
        exact v_iret dX5_bears_38 (by simp only [qBears, c1, c2, c3, eja, ejb, Bool.and_self, Bool.and_true, Bool.true_and, Bool.and_false, Bool.false_and, if_true, if_false, Bool.false_eq_true, ↓reduceIte] <;> first | (simp [mFind, xs, xa, fnd0, fnd3, eja, ejb]; done) | (simp only [kS_upd, fa_upd_same]; simp [mFind, xs, xa, fnd0, fnd3, lastA, kS_s, eja, ejb]; done) | (rw [kS_upd, fa_upd_same rfl]; simp [mFind, xs, xa, fnd0, fnd3, lastA, kS_s, eja, ejb])) (by simp only [qBears, c1, c2, c3, eja, ejb, Bool.and_self, Bool.and_true, Bool.true_and, Bool.and_false, Bool.false_and, if_true, if_false, Bool.false_eq_true, ↓reduceIte] <;> first | (simp [mFind, xs, xa, fnd0, fnd3, eja, ejb]; done) | (simp only [kS_upd, fa_upd_same]; simp [mFind, xs, xa, fnd0, fnd3, lastA, kS_s, eja, ejb]; done) | (rw [kS_upd, fa_upd_same rfl]; simp [mFind, xs, xa, fnd0, fnd3, lastA, kS_s, eja, ejb]))
set_option maxHeartbeats 1000000 in
set_option maxRecDepth 4000 in
theorem lp_mmilder (l : Launch) {G : Gl} {X : VX} {ov : Option Value} {wF : WS} {K : CS} {ms : Nat → Int32} {mk : Nat → Int32} {mo : Nat → Int32} {ma : Nat → Int32} {mf : Nat → Int32} {ik : Int32} {mt : Nat → Int32} {td : Nat} {fr : Nat} {tt : Nat} {vl : Int32} {wr : Int32} {mb : Nat → Int32} {mz : Nat → Int32} {nu : Nat → Int64} {mv : Nat → Int64} {nE : Nat} (hn : ms 1 = nI nE) (hn8 : nE ≤ 8) {t0 : Nat} (hm : ms 0 = nI t0) (hmo : t0 < 2 ^ 20) {ja : Nat} (hja : ja ≤ 60) : ∀ n i : Nat, i + n = 12 → V l X 7 157 cX5_milder 7 RX5 (some .int) G ov wF (K, (ms, mk, mo, (lastA ma (fun i => upd ms (2 + i) (mn (ms (2 + i) + 5) 20)) 12), mf, ik, mt, td, fr, tt, vl, wr, mb, mz, nu, mv)) 107 [(4, .int (nI 12)), (3, .int (amn (vMild ms nE t0 ja) 0 999999 12).2), (2, .int (amn (vMild ms nE t0 ja) 0 999999 12).1), (0, .ref (ga G (93))), (1, .int (nI ja))] [] → V l X 7 157 cX5_milder 7 RX5 (some .int) G ov wF (K, (ms, mk, mo, (lastA ma (fun i => upd ms (2 + i) (mn (ms (2 + i) + 5) 20)) i), mf, ik, mt, td, fr, tt, vl, wr, mb, mz, nu, mv)) 22 [(4, .int (nI i)), (3, .int (amn (vMild ms nE t0 ja) 0 999999 i).2), (2, .int (amn (vMild ms nE t0 ja) 0 999999 i).1), (0, .ref (ga G (93))), (1, .int (nI ja))] [] := by
  intro n
  induction n with
  | zero =>
    intro i hin hk
    obtain rfl : 12 = i := by omega
    refine v_iload dX5_milder_22 0 rfl 24 rfl ?_
    refine v_bipush dX5_milder_24 12 rfl 26 rfl ?_
    refine n_icmp_ge dX5_milder_26 12 12 rfl rfl (by omega) (by omega) 107 (by decide) 29 rfl (fun c1 => ?_) (fun c1 => absurd c1 (by omega))
    exact hk
  | succ n ih =>
    intro i hin hk
    refine v_iload dX5_milder_22 0 rfl 24 rfl ?_
    refine v_bipush dX5_milder_24 12 rfl 26 rfl ?_
    refine n_icmp_ge dX5_milder_26 i 12 rfl rfl (by omega) (by omega) 107 (by decide) 29 rfl (fun c1 => absurd c1 (by omega)) (fun c1 => ?_)
    refine v_aload_n dX5_milder_29 3 rfl 30 rfl ?_
    refine v_iconst dX5_milder_30 2 rfl 31 rfl ?_
    refine v_iload dX5_milder_31 0 rfl 33 rfl ?_
    refine n_iadd dX5_milder_33 2 i rfl rfl 34 rfl ?_
    refine v_aload_n dX5_milder_34 3 rfl 35 rfl ?_
    refine v_get (i := 0) (ci := 5) (T := TX5) (C := RX5) (N := 16) (v := .ref (ga G (94))) dX5_milder_35 inB5 rfl qw_686 rfl (by decide) (by decide) (cel_mod G _) rfl 38 rfl ?_
    refine v_iconst dX5_milder_38 2 rfl 39 rfl ?_
    refine v_iload dX5_milder_39 0 rfl 41 rfl ?_
    refine n_iadd dX5_milder_41 2 i rfl rfl 42 rfl ?_
    refine v_iald (a := ms) dX5_milder_42 (by decide) (cel_ms G _) (2 + i) rfl (by omega) (by decide) 43 rfl ?_
    refine v_iconst dX5_milder_43 5 rfl 44 rfl ?_
    refine v_iadd dX5_milder_44 45 rfl ?_
    refine v_bipush dX5_milder_45 20 rfl 47 rfl ?_
    refine v_callS (c_X5_heldTo l ((ms (2 + i)) + 5) 20) kal_X5_heldTo rfl dX5_milder_47 qw_891 qw_892 (by decide) [.int (nI (2 + i)), .ref (ga G (93))] (Nat.le_of_ble_eq_true rfl) rfl rfl 50 rfl ?_
    refine v_callV (c_X5_becomes l (k := 2 + i) (by omega) (mn ((ms (2 + i)) + 5) 20)) kal_X5_becomes rfl dX5_milder_50 qw_751 qw_753 qw_14 rfl (by decide) (cel_mod G _) (by decide) [] (Nat.le_of_ble_eq_true rfl) rfl rfl 53 rfl ?_
    refine v_istore dX5_milder_53 (by decide) [(5, .int (ms (2 + i))), (4, .int (nI i)), (3, .int (amn (vMild ms nE t0 ja) 0 999999 i).2), (2, .int (amn (vMild ms nE t0 ja) 0 999999 i).1), (0, .ref (ga G (93))), (1, .int (nI ja))] rfl 55 rfl ?_
    refine v_aload_n dX5_milder_55 4 rfl 56 rfl ?_
    refine v_bipush dX5_milder_56 26 rfl 58 rfl ?_
    refine v_iload_n dX5_milder_58 5 rfl 59 rfl ?_
    refine v_callV (c_X5_twelveBehind l ((show (upd ms (2 + i) (mn ((ms (2 + i)) + 5) 20)) 1 = ms 1 from (by first | (rw [upd_ne (by omega), upd_ne (by omega)]; done) | (rw [upd_ne (by omega), kS_lo _ _ _ _ (by omega)]; done) | (rw [kS_lo _ _ _ _ (by omega)]; done) | (rw [upd_ne (by omega)]; done) | rfl)).trans hn) hn8 ((show (upd ms (2 + i) (mn ((ms (2 + i)) + 5) 20)) 0 = ms 0 from (by first | (rw [upd_ne (by omega), upd_ne (by omega)]; done) | (rw [upd_ne (by omega), kS_lo _ _ _ _ (by omega)]; done) | (rw [kS_lo _ _ _ _ (by omega)]; done) | (rw [upd_ne (by omega)]; done) | rfl)).trans hm) (by omega) (k := 26) (by omega)) kal_X5_twelveBehind rfl dX5_milder_59 qw_919 qw_921 qw_34 rfl (by decide) (cel_mod G _) (by decide) [] (Nat.le_of_ble_eq_true rfl) rfl rfl 62 rfl ?_
    refine v_topi (vMild ms nE t0 ja i) (rfl) ?_
    refine v_istore dX5_milder_62 (by decide) [(6, .int (vMild ms nE t0 ja i)), (5, .int (ms (2 + i))), (4, .int (nI i)), (3, .int (amn (vMild ms nE t0 ja) 0 999999 i).2), (2, .int (amn (vMild ms nE t0 ja) 0 999999 i).1), (0, .ref (ga G (93))), (1, .int (nI ja))] rfl 64 rfl ?_
    refine v_aload_n dX5_milder_64 5 rfl 65 rfl ?_
    refine v_get (i := 0) (ci := 5) (T := TX5) (C := RX5) (N := 16) (v := .ref (ga G (94))) dX5_milder_65 inB5 rfl qw_686 rfl (by decide) (by decide) (cel_mod G _) rfl 68 rfl ?_
    refine v_iconst dX5_milder_68 2 rfl 69 rfl ?_
    refine v_iload dX5_milder_69 2 rfl 71 rfl ?_
    refine n_iadd dX5_milder_71 2 i rfl rfl 72 rfl ?_
    refine v_iload dX5_milder_72 1 rfl 74 rfl ?_
    refine v_iast (w2 := (K, (upd (upd ms (2 + i) (mn ((ms (2 + i)) + 5) 20)) (2 + i) (ms (2 + i)), mk, mo, upd ms (2 + i) (mn ((ms (2 + i)) + 5) 20), mf, ik, mt, td, fr, tt, vl, wr, mb, mz, nu, mv))) dX5_milder_74 (by decide) (cel_ms G _) (2 + i) rfl (by omega) (by decide) u_ms 75 rfl ?_
    refine v_iload dX5_milder_75 0 rfl 77 rfl ?_
    refine v_iload_n dX5_milder_77 3 rfl 78 rfl ?_
    refine v_icmp_ge dX5_milder_78 86 (by decide) 81 rfl (fun c2 => ?_) (fun c2 => ?_)
    · skip
      refine v_iload_n dX5_milder_86 4 rfl 87 rfl ?_
      refine v_istore_n dX5_milder_87 2 rfl (by decide) [(2, .int (amn (vMild ms nE t0 ja) 0 999999 i).1), (6, .int (vMild ms nE t0 ja i)), (5, .int (ms (2 + i))), (4, .int (nI i)), (3, .int (amn (vMild ms nE t0 ja) 0 999999 i).2), (0, .ref (ga G (93))), (1, .int (nI ja))] rfl 88 rfl ?_
      refine v_iload dX5_milder_88 1 rfl 90 rfl ?_
      refine v_iload_n dX5_milder_90 4 rfl 91 rfl ?_
      refine v_icmp_ge dX5_milder_91 99 (by decide) 94 rfl (fun c3 => ?_) (fun c3 => absurd c3 (fun q => by have h9 := c2; simp only [Int32.lt_iff_toInt_lt, Int32.le_iff_toInt_le] at h9 q; omega))
      refine v_iload_n dX5_milder_99 4 rfl 100 rfl ?_
      refine v_istore_n dX5_milder_100 3 rfl (by decide) [(3, .int (amn (vMild ms nE t0 ja) 0 999999 i).2), (2, .int (amn (vMild ms nE t0 ja) 0 999999 i).1), (6, .int (vMild ms nE t0 ja i)), (5, .int (ms (2 + i))), (4, .int (nI i)), (0, .ref (ga G (93))), (1, .int (nI ja))] rfl 101 rfl ?_
      refine v_iinc dX5_milder_101 4 rfl (nI (i + 1)) (nI_1 _) (by decide) [(4, .int (nI (i + 1))), (3, .int (amn (vMild ms nE t0 ja) 0 999999 i).2), (2, .int (amn (vMild ms nE t0 ja) 0 999999 i).1), (6, .int (vMild ms nE t0 ja i)), (5, .int (ms (2 + i))), (0, .ref (ga G (93))), (1, .int (nI ja))] rfl 104 rfl ?_
      refine v_goto dX5_milder_104 22 (by decide) ?_
      refine v_pick [0, 1, 2, 5, 6] [(4, .int (nI (i + 1))), (3, .int (amn (vMild ms nE t0 ja) 0 999999 i).2), (2, .int (amn (vMild ms nE t0 ja) 0 999999 i).1), (0, .ref (ga G (93))), (1, .int (nI ja))] rfl ?_
      have e91 : (amn (vMild ms nE t0 ja) 0 999999 i).1 = (amn (vMild ms nE t0 ja) 0 999999 (i + 1)).1 := by simp [amn, c2, Int32.not_lt.mpr c2]
      have e92 : (amn (vMild ms nE t0 ja) 0 999999 i).2 = (amn (vMild ms nE t0 ja) 0 999999 (i + 1)).2 := by simp [amn, c2, Int32.not_lt.mpr c2]
      refine v_ls (ls2 := [(4, .int (nI (i + 1))), (3, .int (amn (vMild ms nE t0 ja) 0 999999 (i + 1)).2), (2, .int (amn (vMild ms nE t0 ja) 0 999999 (i + 1)).1), (0, .ref (ga G (93))), (1, .int (nI ja))]) (by simp only [List.cons.injEq, Prod.mk.injEq, Value.int.injEq, true_and, and_true, and_self]; exact ⟨e92, e91⟩) ?_
      refine v_w (w2 := (K, (ms, mk, mo, (lastA ma (fun i => upd ms (2 + i) (mn (ms (2 + i) + 5) 20)) (i + 1)), mf, ik, mt, td, fr, tt, vl, wr, mb, mz, nu, mv))) (by rw [fa_upd_twice, fa_upd_same rfl]; rfl) ?_
      exact ih (i + 1) (by omega) hk
    · skip
      refine v_iload dX5_milder_81 2 rfl 83 rfl ?_
      refine v_goto dX5_milder_83 87 (by decide) ?_
      refine v_istore_n dX5_milder_87 2 rfl (by decide) [(2, .int (nI i)), (6, .int (vMild ms nE t0 ja i)), (5, .int (ms (2 + i))), (4, .int (nI i)), (3, .int (amn (vMild ms nE t0 ja) 0 999999 i).2), (0, .ref (ga G (93))), (1, .int (nI ja))] rfl 88 rfl ?_
      refine v_iload dX5_milder_88 1 rfl 90 rfl ?_
      refine v_iload_n dX5_milder_90 4 rfl 91 rfl ?_
      refine v_icmp_ge dX5_milder_91 99 (by decide) 94 rfl (fun c4 => absurd c4 (fun q => by have h9 := c2; simp only [Int32.lt_iff_toInt_lt, Int32.le_iff_toInt_le] at h9 q; omega)) (fun c4 => ?_)
      refine v_iload dX5_milder_94 1 rfl 96 rfl ?_
      refine v_goto dX5_milder_96 100 (by decide) ?_
      refine v_istore_n dX5_milder_100 3 rfl (by decide) [(3, .int (vMild ms nE t0 ja i)), (2, .int (nI i)), (6, .int (vMild ms nE t0 ja i)), (5, .int (ms (2 + i))), (4, .int (nI i)), (0, .ref (ga G (93))), (1, .int (nI ja))] rfl 101 rfl ?_
      refine v_iinc dX5_milder_101 4 rfl (nI (i + 1)) (nI_1 _) (by decide) [(4, .int (nI (i + 1))), (3, .int (vMild ms nE t0 ja i)), (2, .int (nI i)), (6, .int (vMild ms nE t0 ja i)), (5, .int (ms (2 + i))), (0, .ref (ga G (93))), (1, .int (nI ja))] rfl 104 rfl ?_
      refine v_goto dX5_milder_104 22 (by decide) ?_
      refine v_pick [0, 1, 2, 5, 6] [(4, .int (nI (i + 1))), (3, .int (vMild ms nE t0 ja i)), (2, .int (nI i)), (0, .ref (ga G (93))), (1, .int (nI ja))] rfl ?_
      have e91 : nI i = (amn (vMild ms nE t0 ja) 0 999999 (i + 1)).1 := by simp [amn, c2, Int32.not_le.mp c2]
      have e92 : vMild ms nE t0 ja i = (amn (vMild ms nE t0 ja) 0 999999 (i + 1)).2 := by simp [amn, c2, Int32.not_le.mp c2]
      refine v_ls (ls2 := [(4, .int (nI (i + 1))), (3, .int (amn (vMild ms nE t0 ja) 0 999999 (i + 1)).2), (2, .int (amn (vMild ms nE t0 ja) 0 999999 (i + 1)).1), (0, .ref (ga G (93))), (1, .int (nI ja))]) (by simp only [List.cons.injEq, Prod.mk.injEq, Value.int.injEq, true_and, and_true, and_self]; exact ⟨e92, e91⟩) ?_
      refine v_w (w2 := (K, (ms, mk, mo, (lastA ma (fun i => upd ms (2 + i) (mn (ms (2 + i) + 5) 20)) (i + 1)), mf, ik, mt, td, fr, tt, vl, wr, mb, mz, nu, mv))) (by rw [fa_upd_twice, fa_upd_same rfl]; rfl) ?_
      exact ih (i + 1) (by omega) hk
set_option maxHeartbeats 1000000 in
set_option maxRecDepth 4000 in
theorem c_X5_milder (l : Launch) {G : Gl} {K : CS} {M : MS} {nE : Nat} (hn : M.1 1 = nI nE) (hn8 : nE ≤ 8) {t0 : Nat} (hm : M.1 0 = nI t0) (hmo : t0 < 2 ^ 20) (a : Int32) : Ct l G yX5_milder cX5_milder 7 (some .int) 7 157 [.ref (ga G (93)), .int a] (K, M) (some (.int (qMilder M nE t0 a).1)) (K, (qMilder M nE t0 a).2) := by
  obtain ⟨ms, mk, mo, ma, mf, ik, mt, td, fr, tt, vl, wr, mb, mz, nu, mv⟩ := M
  dsimp only at hn hm
  refine Ct.of (own := RX5) (by decide) rfl (Nat.le_of_ble_eq_true rfl) rfl (fun X => ?_)
  refine v_iload_n dX5_milder_0 1 rfl 1 rfl ?_
  refine v_callS (c_X5_isSoon l a) kal_X5_isSoon rfl dX5_milder_1 qw_957 qw_958 (by decide) [] (Nat.le_of_ble_eq_true rfl) rfl rfl 4 rfl ?_
  refine v_ifb_ne dX5_milder_4 14 (by decide) 7 rfl (fun c1 => ?_) (fun c1 => ?_)
  · skip
    obtain ⟨ja, h1ja, h2ja, rfl⟩ := inb_ix (lo := 1) (hi := 60) c1
    have eja : (nI ja).toNatClampNeg = ja := nI_clamp (by omega)
    refine v_iconst dX5_milder_14 0 rfl 15 rfl ?_
    refine v_istore_n dX5_milder_15 2 rfl (by decide) [(2, .int 0), (0, .ref (ga G (93))), (1, .int (nI ja))] rfl 16 rfl ?_
    refine v_ldc dX5_milder_16 999999 qw_977 18 rfl ?_
    refine v_istore_n dX5_milder_18 3 rfl (by decide) [(3, .int 999999), (2, .int 0), (0, .ref (ga G (93))), (1, .int (nI ja))] rfl 19 rfl ?_
    refine v_iconst dX5_milder_19 0 rfl 20 rfl ?_
    refine v_istore dX5_milder_20 (by decide) [(4, .int 0), (3, .int 999999), (2, .int 0), (0, .ref (ga G (93))), (1, .int (nI ja))] rfl 22 rfl ?_
    refine lp_mmilder l hn hn8 hm hmo (ja := ja) (by omega) 12 0 (by omega) ?_
    refine v_iload_n dX5_milder_107 2 rfl 108 rfl ?_
    exact v_iret dX5_milder_108 (by simp only [qMilder, c1, eja, Bool.and_self, Bool.and_true, Bool.true_and, Bool.and_false, Bool.false_and, if_true, if_false, Bool.false_eq_true, ↓reduceIte] <;> simp [mFind, xs, xa, fnd0, eja]) (by simp only [qMilder, c1, eja, if_true, if_false, Bool.false_eq_true, ↓reduceIte] <;> first | (simp [mFind, xs, xa, fnd0, eja]; done) | rfl)
  · skip
    refine v_aload_n dX5_milder_7 0 rfl 8 rfl ?_
    refine v_ldc dX5_milder_8 (-1000000001) qw_755 10 rfl ?_
    refine v_callV (c_X5_finds l (k := 0) (by decide) (-1000000001) (by decide)) kal_X5_finds rfl dX5_milder_10 qw_756 qw_758 qw_15 rfl (by decide) (cel_mod G _) (by decide) [] (Nat.le_of_ble_eq_true rfl) rfl rfl 13 rfl ?_
    exact v_iret dX5_milder_13 (by simp only [qMilder, c1, Bool.and_self, Bool.and_true, Bool.true_and, Bool.and_false, Bool.false_and, if_true, if_false, Bool.false_eq_true, ↓reduceIte] <;> simp [mFind, xs, xa, fnd0, true_and]) (by simp only [qMilder, c1, if_true, if_false, Bool.false_eq_true, ↓reduceIte] <;> first | (simp [mFind, xs, xa, fnd0, true_and]; done) | rfl)
set_option maxHeartbeats 1000000 in
set_option maxRecDepth 4000 in
theorem lp_mbest (l : Launch) {G : Gl} {X : VX} {ov : Option Value} {wF : WS} {K : CS} {ms : Nat → Int32} {mk : Nat → Int32} {mo : Nat → Int32} {ma : Nat → Int32} {mf : Nat → Int32} {ik : Int32} {mt : Nat → Int32} {td : Nat} {fr : Nat} {tt : Nat} {vl : Int32} {wr : Int32} {mb : Nat → Int32} {mz : Nat → Int32} {nu : Nat → Int64} {mv : Nat → Int64} {ja : Nat} (hja : ja < 4) (b : Int32) : ∀ n i : Nat, i + n = 12 → V l X 2 46 cX5_best 7 RX5 (some .int) G ov wF (K, (ms, mk, mo, ma, mf, ik, mt, td, fr, tt, vl, wr, mb, mz, nu, mv)) 147 [(5, .int (nI 12)), (4, .int (amc (qB1 ms ja b) (vB1 ms ja b) 12).2), (3, .int (amc (qB1 ms ja b) (vB1 ms ja b) 12).1), (0, .ref (ga G (93))), (1, .int (nI ja)), (2, .int b)] [] → V l X 2 46 cX5_best 7 RX5 (some .int) G ov wF (K, (ms, mk, mo, ma, mf, ik, mt, td, fr, tt, vl, wr, mb, mz, nu, mv)) 34 [(5, .int (nI i)), (4, .int (amc (qB1 ms ja b) (vB1 ms ja b) i).2), (3, .int (amc (qB1 ms ja b) (vB1 ms ja b) i).1), (0, .ref (ga G (93))), (1, .int (nI ja)), (2, .int b)] [] := by
  intro n
  induction n with
  | zero =>
    intro i hin hk
    obtain rfl : 12 = i := by omega
    refine v_iload dX5_best_34 0 rfl 36 rfl ?_
    refine v_bipush dX5_best_36 12 rfl 38 rfl ?_
    refine n_icmp_ge dX5_best_38 12 12 rfl rfl (by omega) (by omega) 147 (by decide) 41 rfl (fun c1 => ?_) (fun c1 => absurd c1 (by omega))
    exact hk
  | succ n ih =>
    intro i hin hk
    refine v_iload dX5_best_34 0 rfl 36 rfl ?_
    refine v_bipush dX5_best_36 12 rfl 38 rfl ?_
    refine n_icmp_ge dX5_best_38 i 12 rfl rfl (by omega) (by omega) 147 (by decide) 41 rfl (fun c1 => absurd c1 (by omega)) (fun c1 => ?_)
    refine v_aload_n dX5_best_41 3 rfl 42 rfl ?_
    refine v_get (i := 0) (ci := 5) (T := TX5) (C := RX5) (N := 16) (v := .ref (ga G (94))) dX5_best_42 inB5 rfl qw_686 rfl (by decide) (by decide) (cel_mod G _) rfl 45 rfl ?_
    refine v_bipush dX5_best_45 14 rfl 47 rfl ?_
    refine v_iload dX5_best_47 0 rfl 49 rfl ?_
    refine n_iadd dX5_best_49 14 i rfl rfl 50 rfl ?_
    refine v_iald (a := ms) dX5_best_50 (by decide) (cel_ms G _) (14 + i) rfl (by omega) (by decide) 51 rfl ?_
    refine v_iload_n dX5_best_51 5 rfl 52 rfl ?_
    refine v_icmp_lt dX5_best_52 141 (by decide) 55 rfl (fun c2 => ?_) (fun c2 => ?_)
    · skip
      refine v_iinc dX5_best_141 0 rfl (nI (i + 1)) (nI_1 _) (by decide) [(5, .int (nI (i + 1))), (4, .int (amc (qB1 ms ja b) (vB1 ms ja b) i).2), (3, .int (amc (qB1 ms ja b) (vB1 ms ja b) i).1), (0, .ref (ga G (93))), (1, .int (nI ja)), (2, .int b)] rfl 144 rfl ?_
      refine v_goto dX5_best_144 34 (by decide) ?_
      have e91 : (amc (qB1 ms ja b) (vB1 ms ja b) i).1 = (amc (qB1 ms ja b) (vB1 ms ja b) (i + 1)).1 := by simp [amc, qB1, c2, Int32.not_le.mpr c2]
      have e92 : (amc (qB1 ms ja b) (vB1 ms ja b) i).2 = (amc (qB1 ms ja b) (vB1 ms ja b) (i + 1)).2 := by simp [amc, qB1, c2, Int32.not_le.mpr c2]
      refine v_ls (ls2 := [(5, .int (nI (i + 1))), (4, .int (amc (qB1 ms ja b) (vB1 ms ja b) (i + 1)).2), (3, .int (amc (qB1 ms ja b) (vB1 ms ja b) (i + 1)).1), (0, .ref (ga G (93))), (1, .int (nI ja)), (2, .int b)]) (by simp only [List.cons.injEq, Prod.mk.injEq, Value.int.injEq, true_and, and_true, and_self]; exact ⟨e92, e91⟩) ?_
      exact ih (i + 1) (by omega) hk
    · skip
      refine v_aload_n dX5_best_55 3 rfl 56 rfl ?_
      refine v_get (i := 0) (ci := 5) (T := TX5) (C := RX5) (N := 16) (v := .ref (ga G (94))) dX5_best_56 inB5 rfl qw_686 rfl (by decide) (by decide) (cel_mod G _) rfl 59 rfl ?_
      refine v_iload_n dX5_best_59 4 rfl 60 rfl ?_
      refine v_iload dX5_best_60 0 rfl 62 rfl ?_
      refine v_callS (c_X5_coatSpot l ja i) kal_X5_coatSpot rfl dX5_best_62 qw_864 qw_865 (by decide) [.ref (ga G (94))] (Nat.le_of_ble_eq_true rfl) rfl rfl 65 rfl ?_
      refine v_iald (a := ms) dX5_best_65 (by decide) (cel_ms G _) (150 + 12 * ja + i) rfl (by omega) (by decide) 66 rfl ?_
      refine v_iload_n dX5_best_66 5 rfl 67 rfl ?_
      refine v_iadd dX5_best_67 68 rfl ?_
      refine v_sipush dX5_best_68 999 rfl 71 rfl ?_
      refine v_icmp_gt dX5_best_71 141 (by decide) 74 rfl (fun c3 => ?_) (fun c3 => ?_)
      · skip
        refine v_iinc dX5_best_141 0 rfl (nI (i + 1)) (nI_1 _) (by decide) [(5, .int (nI (i + 1))), (4, .int (amc (qB1 ms ja b) (vB1 ms ja b) i).2), (3, .int (amc (qB1 ms ja b) (vB1 ms ja b) i).1), (0, .ref (ga G (93))), (1, .int (nI ja)), (2, .int b)] rfl 144 rfl ?_
        refine v_goto dX5_best_144 34 (by decide) ?_
        have e91 : (amc (qB1 ms ja b) (vB1 ms ja b) i).1 = (amc (qB1 ms ja b) (vB1 ms ja b) (i + 1)).1 := by simp [amc, qB1, c2, Int32.not_lt.mp c2, c3, Int32.not_le.mpr c3]
        have e92 : (amc (qB1 ms ja b) (vB1 ms ja b) i).2 = (amc (qB1 ms ja b) (vB1 ms ja b) (i + 1)).2 := by simp [amc, qB1, c2, Int32.not_lt.mp c2, c3, Int32.not_le.mpr c3]
        refine v_ls (ls2 := [(5, .int (nI (i + 1))), (4, .int (amc (qB1 ms ja b) (vB1 ms ja b) (i + 1)).2), (3, .int (amc (qB1 ms ja b) (vB1 ms ja b) (i + 1)).1), (0, .ref (ga G (93))), (1, .int (nI ja)), (2, .int b)]) (by simp only [List.cons.injEq, Prod.mk.injEq, Value.int.injEq, true_and, and_true, and_self]; exact ⟨e92, e91⟩) ?_
        exact ih (i + 1) (by omega) hk
      · skip
        refine v_aload_n dX5_best_74 3 rfl 75 rfl ?_
        refine v_get (i := 0) (ci := 5) (T := TX5) (C := RX5) (N := 16) (v := .ref (ga G (94))) dX5_best_75 inB5 rfl qw_686 rfl (by decide) (by decide) (cel_mod G _) rfl 78 rfl ?_
        refine v_iload_n dX5_best_78 4 rfl 79 rfl ?_
        refine v_iload dX5_best_79 0 rfl 81 rfl ?_
        refine v_callS (c_X5_coatSpot l ja i) kal_X5_coatSpot rfl dX5_best_81 qw_864 qw_865 (by decide) [.ref (ga G (94))] (Nat.le_of_ble_eq_true rfl) rfl rfl 84 rfl ?_
        refine v_dup2 dX5_best_84 rfl rfl 85 rfl ?_
        refine v_iald (a := ms) dX5_best_85 (by decide) (cel_ms G _) (150 + 12 * ja + i) rfl (by omega) (by decide) 86 rfl ?_
        refine v_iload_n dX5_best_86 5 rfl 87 rfl ?_
        refine v_iadd dX5_best_87 88 rfl ?_
        refine v_iast (w2 := (K, (upd ms (150 + 12 * ja + i) ((ms (150 + 12 * ja + i)) + b), mk, mo, ma, mf, ik, mt, td, fr, tt, vl, wr, mb, mz, nu, mv))) dX5_best_88 (by decide) (cel_ms G _) (150 + 12 * ja + i) rfl (by omega) (by decide) u_ms 89 rfl ?_
        refine v_aload_n dX5_best_89 3 rfl 90 rfl ?_
        refine v_iload_n dX5_best_90 4 rfl 91 rfl ?_
        refine v_callV (c_X5_warmthOf l (c := ja) (by omega)) kal_X5_warmthOf rfl dX5_best_91 qw_875 qw_877 qw_28 rfl (by decide) (cel_mod G _) (by decide) [] (Nat.le_of_ble_eq_true rfl) rfl rfl 94 rfl ?_
        refine v_topi (vB1 ms ja b i) (rfl) ?_
        refine v_istore dX5_best_94 (by decide) [(6, .int (vB1 ms ja b i)), (5, .int (nI i)), (4, .int (amc (qB1 ms ja b) (vB1 ms ja b) i).2), (3, .int (amc (qB1 ms ja b) (vB1 ms ja b) i).1), (0, .ref (ga G (93))), (1, .int (nI ja)), (2, .int b)] rfl 96 rfl ?_
        refine v_aload_n dX5_best_96 4 rfl 97 rfl ?_
        refine v_get (i := 0) (ci := 5) (T := TX5) (C := RX5) (N := 16) (v := .ref (ga G (94))) dX5_best_97 inB5 rfl qw_686 rfl (by decide) (by decide) (cel_mod G _) rfl 100 rfl ?_
        refine v_iload_n dX5_best_100 5 rfl 101 rfl ?_
        refine v_iload dX5_best_101 1 rfl 103 rfl ?_
        refine v_callS (c_X5_coatSpot l ja i) kal_X5_coatSpot rfl dX5_best_103 qw_864 qw_865 (by decide) [.ref (ga G (94))] (Nat.le_of_ble_eq_true rfl) rfl rfl 106 rfl ?_
        refine v_dup2 dX5_best_106 rfl rfl 107 rfl ?_
        refine v_iald (a := upd ms (150 + 12 * ja + i) ((ms (150 + 12 * ja + i)) + b)) dX5_best_107 (by decide) (cel_ms G _) (150 + 12 * ja + i) rfl (by omega) (by decide) 108 rfl ?_
        refine v_iload_n dX5_best_108 6 rfl 109 rfl ?_
        refine v_isub dX5_best_109 110 rfl ?_
        refine v_iast (w2 := (K, (upd (upd ms (150 + 12 * ja + i) ((ms (150 + 12 * ja + i)) + b)) (150 + 12 * ja + i) (((upd ms (150 + 12 * ja + i) ((ms (150 + 12 * ja + i)) + b)) (150 + 12 * ja + i)) - b), mk, mo, ma, mf, ik, mt, td, fr, tt, vl, wr, mb, mz, nu, mv))) dX5_best_110 (by decide) (cel_ms G _) (150 + 12 * ja + i) rfl (by omega) (by decide) u_ms 111 rfl ?_
        refine v_iload dX5_best_111 0 rfl 113 rfl ?_
        refine v_iload dX5_best_113 2 rfl 115 rfl ?_
        refine v_icmp_le dX5_best_115 123 (by decide) 118 rfl (fun c4 => ?_) (fun c4 => ?_)
        · skip
          refine v_iload_n dX5_best_123 3 rfl 124 rfl ?_
          refine v_istore_n dX5_best_124 3 rfl (by decide) [(3, .int (amc (qB1 ms ja b) (vB1 ms ja b) i).1), (6, .int (vB1 ms ja b i)), (5, .int (nI i)), (4, .int (amc (qB1 ms ja b) (vB1 ms ja b) i).2), (0, .ref (ga G (93))), (1, .int (nI ja)), (2, .int b)] rfl 125 rfl ?_
          refine v_iload dX5_best_125 1 rfl 127 rfl ?_
          refine v_iload dX5_best_127 3 rfl 129 rfl ?_
          refine v_icmp_le dX5_best_129 137 (by decide) 132 rfl (fun c5 => ?_) (fun c5 => absurd c5 (fun q => by have h9 := c4; simp only [Int32.lt_iff_toInt_lt, Int32.le_iff_toInt_le] at h9 q; omega))
          refine v_iload dX5_best_137 3 rfl 139 rfl ?_
          refine v_istore dX5_best_139 (by decide) [(4, .int (amc (qB1 ms ja b) (vB1 ms ja b) i).2), (3, .int (amc (qB1 ms ja b) (vB1 ms ja b) i).1), (6, .int (vB1 ms ja b i)), (5, .int (nI i)), (0, .ref (ga G (93))), (1, .int (nI ja)), (2, .int b)] rfl 141 rfl ?_
          refine v_iinc dX5_best_141 3 rfl (nI (i + 1)) (nI_1 _) (by decide) [(5, .int (nI (i + 1))), (4, .int (amc (qB1 ms ja b) (vB1 ms ja b) i).2), (3, .int (amc (qB1 ms ja b) (vB1 ms ja b) i).1), (6, .int (vB1 ms ja b i)), (0, .ref (ga G (93))), (1, .int (nI ja)), (2, .int b)] rfl 144 rfl ?_
          refine v_goto dX5_best_144 34 (by decide) ?_
          refine v_pick [0, 1, 2, 4, 5, 6] [(5, .int (nI (i + 1))), (4, .int (amc (qB1 ms ja b) (vB1 ms ja b) i).2), (3, .int (amc (qB1 ms ja b) (vB1 ms ja b) i).1), (0, .ref (ga G (93))), (1, .int (nI ja)), (2, .int b)] rfl ?_
          have e91 : (amc (qB1 ms ja b) (vB1 ms ja b) i).1 = (amc (qB1 ms ja b) (vB1 ms ja b) (i + 1)).1 := by simp [amc, qB1, c2, Int32.not_lt.mp c2, c3, Int32.not_lt.mp c3, c4, Int32.not_lt.mpr c4]
          have e92 : (amc (qB1 ms ja b) (vB1 ms ja b) i).2 = (amc (qB1 ms ja b) (vB1 ms ja b) (i + 1)).2 := by simp [amc, qB1, c2, Int32.not_lt.mp c2, c3, Int32.not_lt.mp c3, c4, Int32.not_lt.mpr c4]
          refine v_ls (ls2 := [(5, .int (nI (i + 1))), (4, .int (amc (qB1 ms ja b) (vB1 ms ja b) (i + 1)).2), (3, .int (amc (qB1 ms ja b) (vB1 ms ja b) (i + 1)).1), (0, .ref (ga G (93))), (1, .int (nI ja)), (2, .int b)]) (by simp only [List.cons.injEq, Prod.mk.injEq, Value.int.injEq, true_and, and_true, and_self]; exact ⟨e92, e91⟩) ?_
          refine v_w (w2 := (K, (ms, mk, mo, ma, mf, ik, mt, td, fr, tt, vl, wr, mb, mz, nu, mv))) (by rw [fa_upd_twice, pk_us, Int32.add_sub_cancel, fa_upd_same rfl]) ?_
          exact ih (i + 1) (by omega) hk
        · skip
          refine v_iload dX5_best_118 1 rfl 120 rfl ?_
          refine v_goto dX5_best_120 124 (by decide) ?_
          refine v_istore_n dX5_best_124 3 rfl (by decide) [(3, .int (nI i)), (6, .int (vB1 ms ja b i)), (5, .int (nI i)), (4, .int (amc (qB1 ms ja b) (vB1 ms ja b) i).2), (0, .ref (ga G (93))), (1, .int (nI ja)), (2, .int b)] rfl 125 rfl ?_
          refine v_iload dX5_best_125 1 rfl 127 rfl ?_
          refine v_iload dX5_best_127 3 rfl 129 rfl ?_
          refine v_icmp_le dX5_best_129 137 (by decide) 132 rfl (fun c6 => absurd c6 (fun q => by have h9 := c4; simp only [Int32.lt_iff_toInt_lt, Int32.le_iff_toInt_le] at h9 q; omega)) (fun c6 => ?_)
          refine v_iload dX5_best_132 1 rfl 134 rfl ?_
          refine v_goto dX5_best_134 139 (by decide) ?_
          refine v_istore dX5_best_139 (by decide) [(4, .int (vB1 ms ja b i)), (3, .int (nI i)), (6, .int (vB1 ms ja b i)), (5, .int (nI i)), (0, .ref (ga G (93))), (1, .int (nI ja)), (2, .int b)] rfl 141 rfl ?_
          refine v_iinc dX5_best_141 3 rfl (nI (i + 1)) (nI_1 _) (by decide) [(5, .int (nI (i + 1))), (4, .int (vB1 ms ja b i)), (3, .int (nI i)), (6, .int (vB1 ms ja b i)), (0, .ref (ga G (93))), (1, .int (nI ja)), (2, .int b)] rfl 144 rfl ?_
          refine v_goto dX5_best_144 34 (by decide) ?_
          refine v_pick [0, 1, 2, 4, 5, 6] [(5, .int (nI (i + 1))), (4, .int (vB1 ms ja b i)), (3, .int (nI i)), (0, .ref (ga G (93))), (1, .int (nI ja)), (2, .int b)] rfl ?_
          have e91 : nI i = (amc (qB1 ms ja b) (vB1 ms ja b) (i + 1)).1 := by simp [amc, qB1, c2, Int32.not_lt.mp c2, c3, Int32.not_lt.mp c3, c4, Int32.not_le.mp c4]
          have e92 : vB1 ms ja b i = (amc (qB1 ms ja b) (vB1 ms ja b) (i + 1)).2 := by simp [amc, qB1, c2, Int32.not_lt.mp c2, c3, Int32.not_lt.mp c3, c4, Int32.not_le.mp c4]
          refine v_ls (ls2 := [(5, .int (nI (i + 1))), (4, .int (amc (qB1 ms ja b) (vB1 ms ja b) (i + 1)).2), (3, .int (amc (qB1 ms ja b) (vB1 ms ja b) (i + 1)).1), (0, .ref (ga G (93))), (1, .int (nI ja)), (2, .int b)]) (by simp only [List.cons.injEq, Prod.mk.injEq, Value.int.injEq, true_and, and_true, and_self]; exact ⟨e92, e91⟩) ?_
          refine v_w (w2 := (K, (ms, mk, mo, ma, mf, ik, mt, td, fr, tt, vl, wr, mb, mz, nu, mv))) (by rw [fa_upd_twice, pk_us, Int32.add_sub_cancel, fa_upd_same rfl]) ?_
          exact ih (i + 1) (by omega) hk
set_option maxHeartbeats 1000000 in
set_option maxRecDepth 4000 in
theorem c_X5_best (l : Launch) {G : Gl} {K : CS} {M : MS} (a b : Int32) : Ct l G yX5_best cX5_best 7 (some .int) 2 46 [.ref (ga G (93)), .int a, .int b] (K, M) (some (.int (qBest M a b).1)) (K, (qBest M a b).2) := by
  obtain ⟨ms, mk, mo, ma, mf, ik, mt, td, fr, tt, vl, wr, mb, mz, nu, mv⟩ := M
  refine Ct.of (own := RX5) (by decide) rfl (Nat.le_of_ble_eq_true rfl) rfl (fun X => ?_)
  refine v_iload_n dX5_best_0 1 rfl 1 rfl ?_
  refine v_callS (c_X5_isCoat l a) kal_X5_isCoat rfl dX5_best_1 qw_859 qw_860 (by decide) [] (Nat.le_of_ble_eq_true rfl) rfl rfl 4 rfl ?_
  refine v_ifb_eq dX5_best_4 19 (by decide) 7 rfl (fun c1 => ?_) (fun c1 => ?_)
  · skip
    refine v_aload_n dX5_best_19 0 rfl 20 rfl ?_
    refine v_ldc dX5_best_20 (-1000000001) qw_755 22 rfl ?_
    refine v_callV (c_X5_finds l (k := 0) (by decide) (-1000000001) (by decide)) kal_X5_finds rfl dX5_best_22 qw_756 qw_758 qw_15 rfl (by decide) (cel_mod G _) (by decide) [] (Nat.le_of_ble_eq_true rfl) rfl rfl 25 rfl ?_
    exact v_iret dX5_best_25 (by simp only [qBest, c1, Bool.and_self, Bool.and_true, Bool.true_and, Bool.and_false, Bool.false_and, if_true, if_false, Bool.false_eq_true, ↓reduceIte] <;> simp [mFind, xs, xa, fnd0, fnd1, fnd2, fnd3, fnd4, fnd5, fnd6, true_and]) (by simp only [qBest, c1, Bool.and_self, Bool.and_true, Bool.true_and, Bool.and_false, Bool.false_and, if_true, if_false, Bool.false_eq_true, ↓reduceIte] <;> simp [mFind, xs, xa, fnd0, fnd1, fnd2, fnd3, fnd4, fnd5, fnd6, true_and])
  · skip
    obtain ⟨ja, h1ja, h2ja, rfl⟩ := inb_ix (lo := 0) (hi := 3) c1
    have eja : (nI ja).toNatClampNeg = ja := nI_clamp (by omega)
    refine v_iload_n dX5_best_7 2 rfl 8 rfl ?_
    refine v_i2l dX5_best_8 9 rfl ?_
    refine v_lconst dX5_best_9 1 rfl 10 rfl ?_
    refine v_ldc2 dX5_best_10 999 qw_862 13 rfl ?_
    refine v_callS (c_X5_in l (b : Int32).toInt64 1 999 (z := (b : Int32).toInt) (lo := 1) (hi := 999) (i2l_i _) rfl rfl) kal_X5_in rfl dX5_best_13 qw_743 qw_744 (by decide) [] (Nat.le_of_ble_eq_true rfl) rfl rfl 16 rfl ?_
    refine v_topi (b2 (inb 1 999 b)) rfl ?_
    refine v_ifb_ne dX5_best_16 26 (by decide) 19 rfl (fun c2 => ?_) (fun c2 => ?_)
    · skip
      refine v_iconst dX5_best_26 (-1) rfl 27 rfl ?_
      refine v_istore_n dX5_best_27 3 rfl (by decide) [(3, .int (-1)), (0, .ref (ga G (93))), (1, .int (nI ja)), (2, .int b)] rfl 28 rfl ?_
      refine v_iconst dX5_best_28 (-1) rfl 29 rfl ?_
      refine v_istore dX5_best_29 (by decide) [(4, .int (-1)), (3, .int (-1)), (0, .ref (ga G (93))), (1, .int (nI ja)), (2, .int b)] rfl 31 rfl ?_
      refine v_iconst dX5_best_31 0 rfl 32 rfl ?_
      refine v_istore dX5_best_32 (by decide) [(5, .int 0), (4, .int (-1)), (3, .int (-1)), (0, .ref (ga G (93))), (1, .int (nI ja)), (2, .int b)] rfl 34 rfl ?_
      refine lp_mbest l (ja := ja) (by omega) b 12 0 (by omega) ?_
      refine v_iload_n dX5_best_147 2 rfl 148 rfl ?_
      refine v_if_ge dX5_best_148 160 (by decide) 151 rfl (fun c3 => ?_) (fun c3 => ?_)
      · skip
        refine v_iload_n dX5_best_160 2 rfl 161 rfl ?_
        exact v_iret dX5_best_161 (by simp only [qBest, c1, c2, eja, Bool.and_self, Bool.and_true, Bool.true_and, Bool.and_false, Bool.false_and, if_true, if_false, Bool.false_eq_true, ↓reduceIte] <;> simp [mFind, xs, xa, fnd0, fnd1, fnd2, fnd3, fnd4, fnd5, fnd6, c3, Int32.not_lt.mpr c3, eja]) (by simp only [qBest, c1, c2, eja, Bool.and_self, Bool.and_true, Bool.true_and, Bool.and_false, Bool.false_and, if_true, if_false, Bool.false_eq_true, ↓reduceIte] <;> simp [mFind, xs, xa, fnd0, fnd1, fnd2, fnd3, fnd4, fnd5, fnd6, c3, Int32.not_lt.mpr c3, eja])
      · skip
        refine v_aload_n dX5_best_151 3 rfl 152 rfl ?_
        refine v_ldc dX5_best_152 (-1000000004) qw_948 154 rfl ?_
        refine v_callV (c_X5_finds l (k := 3) (by decide) (-1000000004) (by decide)) kal_X5_finds rfl dX5_best_154 qw_756 qw_758 qw_15 rfl (by decide) (cel_mod G _) (by decide) [] (Nat.le_of_ble_eq_true rfl) rfl rfl 157 rfl ?_
        refine v_goto dX5_best_157 161 (by decide) ?_
        exact v_iret dX5_best_161 (by simp only [qBest, c1, c2, eja, Bool.and_self, Bool.and_true, Bool.true_and, Bool.and_false, Bool.false_and, if_true, if_false, Bool.false_eq_true, ↓reduceIte] <;> simp [mFind, xs, xa, fnd0, fnd1, fnd2, fnd3, fnd4, fnd5, fnd6, c3, Int32.not_le.mp c3, eja]) (by simp only [qBest, c1, c2, eja, Bool.and_self, Bool.and_true, Bool.true_and, Bool.and_false, Bool.false_and, if_true, if_false, Bool.false_eq_true, ↓reduceIte] <;> simp [mFind, xs, xa, fnd0, fnd1, fnd2, fnd3, fnd4, fnd5, fnd6, c3, Int32.not_le.mp c3, eja])
    · skip
      refine v_aload_n dX5_best_19 0 rfl 20 rfl ?_
      refine v_ldc dX5_best_20 (-1000000001) qw_755 22 rfl ?_
      refine v_callV (c_X5_finds l (k := 0) (by decide) (-1000000001) (by decide)) kal_X5_finds rfl dX5_best_22 qw_756 qw_758 qw_15 rfl (by decide) (cel_mod G _) (by decide) [] (Nat.le_of_ble_eq_true rfl) rfl rfl 25 rfl ?_
      exact v_iret dX5_best_25 (by simp only [qBest, c1, c2, eja, Bool.and_self, Bool.and_true, Bool.true_and, Bool.and_false, Bool.false_and, if_true, if_false, Bool.false_eq_true, ↓reduceIte] <;> simp [mFind, xs, xa, fnd0, fnd1, fnd2, fnd3, fnd4, fnd5, fnd6, eja]) (by simp only [qBest, c1, c2, eja, Bool.and_self, Bool.and_true, Bool.true_and, Bool.and_false, Bool.false_and, if_true, if_false, Bool.false_eq_true, ↓reduceIte] <;> simp [mFind, xs, xa, fnd0, fnd1, fnd2, fnd3, fnd4, fnd5, fnd6, eja])
set_option maxHeartbeats 1000000 in
set_option maxRecDepth 4000 in
theorem lp_mwarmest (l : Launch) {G : Gl} {X : VX} {ov : Option Value} {wF : WS} {K : CS} {ms : Nat → Int32} {mk : Nat → Int32} {mo : Nat → Int32} {ma : Nat → Int32} {mf : Nat → Int32} {ik : Int32} {mt : Nat → Int32} {td : Nat} {fr : Nat} {tt : Nat} {vl : Int32} {wr : Int32} {mb : Nat → Int32} {mz : Nat → Int32} {nu : Nat → Int64} {mv : Nat → Int64} : ∀ n i : Nat, i + n = 3 → V l X 2 46 cX5_warmest 3 RX5 (some .int) G ov wF (K, (ms, mk, mo, ma, mf, ik, mt, td, fr, tt, vl, wr, mb, mz, nu, mv)) 34 [(2, .int (nI (3 + 1))), (1, .int (nI (wB ms 3))), (0, .ref (ga G (93)))] [] → V l X 2 46 cX5_warmest 3 RX5 (some .int) G ov wF (K, (ms, mk, mo, ma, mf, ik, mt, td, fr, tt, vl, wr, mb, mz, nu, mv)) 4 [(2, .int (nI (i + 1))), (1, .int (nI (wB ms i))), (0, .ref (ga G (93)))] [] := by
  intro n
  induction n with
  | zero =>
    intro i hin hk
    obtain rfl : 3 = i := by omega
    have h98 := wB_le ms 3
    refine v_iload_n dX5_warmest_4 0 rfl 5 rfl ?_
    refine v_iconst dX5_warmest_5 4 rfl 6 rfl ?_
    refine n_icmp_ge dX5_warmest_6 (3 + 1) 4 rfl rfl (by omega) (by omega) 34 (by decide) 9 rfl (fun c1 => ?_) (fun c1 => absurd c1 (by omega))
    exact hk
  | succ n ih =>
    intro i hin hk
    have h98 := wB_le ms i
    refine v_iload_n dX5_warmest_4 0 rfl 5 rfl ?_
    refine v_iconst dX5_warmest_5 4 rfl 6 rfl ?_
    refine n_icmp_ge dX5_warmest_6 (i + 1) 4 rfl rfl (by omega) (by omega) 34 (by decide) 9 rfl (fun c1 => absurd c1 (by omega)) (fun c1 => ?_)
    refine v_aload_n dX5_warmest_9 2 rfl 10 rfl ?_
    refine v_iload_n dX5_warmest_10 0 rfl 11 rfl ?_
    refine v_callV (c_X5_warmthOf l (c := i + 1) (by omega)) kal_X5_warmthOf rfl dX5_warmest_11 qw_875 qw_877 qw_28 rfl (by decide) (cel_mod G _) (by decide) [] (Nat.le_of_ble_eq_true rfl) rfl rfl 14 rfl ?_
    refine v_aload_n dX5_warmest_14 2 rfl 15 rfl ?_
    refine v_iload_n dX5_warmest_15 1 rfl 16 rfl ?_
    refine v_callV (c_X5_warmthOf l (c := wB ms i) (by omega)) kal_X5_warmthOf rfl dX5_warmest_16 qw_875 qw_877 qw_28 rfl (by decide) (cel_mod G _) (by decide) [.int (mWarm ms (i + 1))] (Nat.le_of_ble_eq_true rfl) rfl rfl 19 rfl ?_
    refine v_icmp_le dX5_warmest_19 26 (by decide) 22 rfl (fun c2 => ?_) (fun c2 => ?_)
    · skip
      refine v_iload_n dX5_warmest_26 1 rfl 27 rfl ?_
      refine v_istore_n dX5_warmest_27 1 rfl (by decide) [(1, .int (nI (wB ms i))), (2, .int (nI (i + 1))), (0, .ref (ga G (93)))] rfl 28 rfl ?_
      refine v_iinc dX5_warmest_28 1 rfl (nI ((i + 1) + 1)) (nI_1 _) (by decide) [(2, .int (nI ((i + 1) + 1))), (1, .int (nI (wB ms i))), (0, .ref (ga G (93)))] rfl 31 rfl ?_
      refine v_goto dX5_warmest_31 4 (by decide) ?_
      have e91 : wB ms i = wB ms (i + 1) := by simp [wB, c2, Int32.not_lt.mpr c2]
      refine v_ls (ls2 := [(2, .int (nI (i + 1 + 1))), (1, .int (nI (wB ms (i + 1)))), (0, .ref (ga G (93)))]) (by simp only [List.cons.injEq, Prod.mk.injEq, Value.int.injEq, true_and, and_true, and_self]; exact congrArg nI e91) ?_
      exact ih (i + 1) (by omega) hk
    · skip
      refine v_iload_n dX5_warmest_22 0 rfl 23 rfl ?_
      refine v_goto dX5_warmest_23 27 (by decide) ?_
      refine v_istore_n dX5_warmest_27 1 rfl (by decide) [(1, .int (nI (i + 1))), (2, .int (nI (i + 1))), (0, .ref (ga G (93)))] rfl 28 rfl ?_
      refine v_iinc dX5_warmest_28 1 rfl (nI ((i + 1) + 1)) (nI_1 _) (by decide) [(2, .int (nI ((i + 1) + 1))), (1, .int (nI (i + 1))), (0, .ref (ga G (93)))] rfl 31 rfl ?_
      refine v_goto dX5_warmest_31 4 (by decide) ?_
      have e91 : i + 1 = wB ms (i + 1) := by simp [wB, c2, Int32.not_le.mp c2]
      refine v_ls (ls2 := [(2, .int (nI (i + 1 + 1))), (1, .int (nI (wB ms (i + 1)))), (0, .ref (ga G (93)))]) (by simp only [List.cons.injEq, Prod.mk.injEq, Value.int.injEq, true_and, and_true, and_self]; exact congrArg nI e91) ?_
      exact ih (i + 1) (by omega) hk
set_option maxHeartbeats 1000000 in
set_option maxRecDepth 4000 in
theorem c_X5_warmest (l : Launch) {G : Gl} {K : CS} {M : MS}  : Ct l G yX5_warmest cX5_warmest 3 (some .int) 2 46 [.ref (ga G (93))] (K, M) (some (.int (qWarmest M).1)) (K, (qWarmest M).2) := by
  obtain ⟨ms, mk, mo, ma, mf, ik, mt, td, fr, tt, vl, wr, mb, mz, nu, mv⟩ := M
  refine Ct.of (own := RX5) (by decide) rfl (Nat.le_of_ble_eq_true rfl) rfl (fun X => ?_)
  refine v_iconst dX5_warmest_0 0 rfl 1 rfl ?_
  refine v_istore_n dX5_warmest_1 1 rfl (by decide) [(1, .int 0), (0, .ref (ga G (93)))] rfl 2 rfl ?_
  refine v_iconst dX5_warmest_2 1 rfl 3 rfl ?_
  refine v_istore_n dX5_warmest_3 2 rfl (by decide) [(2, .int 1), (1, .int 0), (0, .ref (ga G (93)))] rfl 4 rfl ?_
  refine lp_mwarmest l  3 0 (by omega) ?_
  refine v_iload_n dX5_warmest_34 1 rfl 35 rfl ?_
  exact v_iret dX5_warmest_35 (by rfl) (by rfl)
