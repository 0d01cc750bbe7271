theorem v_ls {l : Launch} {X : VX} {f n : Nat} {cc : ByteArray} {nL : Nat} {own : String} {ret : Option FieldType} {G : Gl} {ov : Option Value} {wF w : WS} {pc : Nat} {ls ls2 : List (Nat × Value)} {st : List Value} (e : ls = ls2) (hk : V l X f n cc nL own ret G ov wF w pc ls2 st) : V l X f n cc nL own ret G ov wF w pc ls st := by rw [e]; exact hk
def lastA (a : Rw) (f : Nat → Rw) : Nat → Rw
  | 0 => a
  | i + 1 => f i
set_option maxHeartbeats 1000000 in
set_option maxRecDepth 4000 in
theorem lp_mkind (l : Launch) {G : Gl} {X : VX} {ov : Option Value} {wF : WS} {K : CS} {ms : Nat → Int32} {mk : Nat → Int32} {mo : Nat → Int32} {ma : Nat → Int32} {mf : Nat → Int32} {ik : Int32} {mt : Nat → Int32} {td : Nat} {fr : Nat} {tt : Nat} {vl : Int32} {wr : Int32} {mb : Nat → Int32} {mz : Nat → Int32} {nu : Nat → Int64} {mv : Nat → Int64} {nE : Nat} (hn : ms 1 = nI nE) (hn8 : nE ≤ 8) {t0 : Nat} (hm : ms 0 = nI t0) (hmo : t0 < 2 ^ 20) {ja jb : Nat} (hja : ja < nE) (hjb : jb ≤ 60) (x3 : Int32) : ∀ n i : Nat, i + n = 6 → V l X 7 157 cX5_kind 8 RX5 (some .int) G ov wF (K, ((kS ms (38 + 14 * ja + 0) nI 6), mk, mo, (lastA ma (fun i => kS ms (38 + 14 * ja + 0) nI (i + 1)) 6), mf, ik, mt, td, fr, tt, vl, wr, mb, mz, nu, mv)) 103 [(6, .int (nI 6)), (5, .int (amx (vKind ms nE t0 ja jb) 0 (-1) 6).2), (4, .int (amx (vKind ms nE t0 ja jb) 0 (-1) 6).1), (3, .int x3), (0, .ref (ga G (93))), (1, .int (nI ja)), (2, .int (nI jb))] [] → V l X 7 157 cX5_kind 8 RX5 (some .int) G ov wF (K, ((kS ms (38 + 14 * ja + 0) nI i), mk, mo, (lastA ma (fun i => kS ms (38 + 14 * ja + 0) nI (i + 1)) i), mf, ik, mt, td, fr, tt, vl, wr, mb, mz, nu, mv)) 38 [(6, .int (nI i)), (5, .int (amx (vKind ms nE t0 ja jb) 0 (-1) i).2), (4, .int (amx (vKind ms nE t0 ja jb) 0 (-1) i).1), (3, .int x3), (0, .ref (ga G (93))), (1, .int (nI ja)), (2, .int (nI jb))] [] := by
  intro n
  induction n with
  | zero =>
    intro i hin hk
    obtain rfl : 6 = i := by omega
    refine v_iload dX5_kind_38 0 rfl 40 rfl ?_
    refine v_iconst dX5_kind_40 5 rfl 41 rfl ?_
    refine n_icmp_gt dX5_kind_41 6 5 rfl rfl (by omega) (by omega) 103 (by decide) 44 rfl (fun c1 => ?_) (fun c1 => absurd c1 (by omega))
    exact hk
  | succ n ih =>
    intro i hin hk
    refine v_iload dX5_kind_38 0 rfl 40 rfl ?_
    refine v_iconst dX5_kind_40 5 rfl 41 rfl ?_
    refine n_icmp_gt dX5_kind_41 i 5 rfl rfl (by omega) (by omega) 103 (by decide) 44 rfl (fun c1 => absurd c1 (by omega)) (fun c1 => ?_)
    refine v_aload_n dX5_kind_44 4 rfl 45 rfl ?_
    refine v_get (i := 0) (ci := 5) (T := TX5) (C := RX5) (N := 16) (v := .ref (ga G (94))) dX5_kind_45 inB5 rfl qw_686 rfl (by decide) (by decide) (cel_mod G _) rfl 48 rfl ?_
    refine v_iload_n dX5_kind_48 5 rfl 49 rfl ?_
    refine v_iconst dX5_kind_49 0 rfl 50 rfl ?_
    refine v_callS (c_X5_spot l ja 0) kal_X5_spot rfl dX5_kind_50 qw_785 qw_786 (by decide) [.ref (ga G (94))] (Nat.le_of_ble_eq_true rfl) rfl rfl 53 rfl ?_
    refine v_iload dX5_kind_53 0 rfl 55 rfl ?_
    refine v_iast (w2 := (K, (upd (kS ms (38 + 14 * ja + 0) nI i) (38 + 14 * ja + 0) (nI i), mk, mo, (lastA ma (fun i => kS ms (38 + 14 * ja + 0) nI (i + 1)) i), mf, ik, mt, td, fr, tt, vl, wr, mb, mz, nu, mv))) dX5_kind_55 (by decide) (cel_ms G _) (38 + 14 * ja + 0) rfl (by omega) (by decide) u_ms 56 rfl ?_
    refine v_aload_n dX5_kind_56 4 rfl 57 rfl ?_
    refine v_bipush dX5_kind_57 14 rfl 59 rfl ?_
    refine v_iload_n dX5_kind_59 6 rfl 60 rfl ?_
    refine v_callV (c_X5_twelveBehind l ((show (upd (kS ms (38 + 14 * ja + 0) nI i) (38 + 14 * ja + 0) (nI i)) 1 = ms 1 from (by first | (rw [upd_ne (by omega), kS_lo _ _ _ _ (by omega)]; done) | (rw [kS_lo _ _ _ _ (by omega)]; done) | (rw [upd_ne (by omega)]; done) | rfl)).trans hn) hn8 ((show (upd (kS ms (38 + 14 * ja + 0) nI i) (38 + 14 * ja + 0) (nI i)) 0 = ms 0 from (by first | (rw [upd_ne (by omega), kS_lo _ _ _ _ (by omega)]; done) | (rw [kS_lo _ _ _ _ (by omega)]; done) | (rw [upd_ne (by omega)]; done) | rfl)).trans hm) (by omega) (k := 14) (by omega)) kal_X5_twelveBehind rfl dX5_kind_60 qw_919 qw_921 qw_34 rfl (by decide) (cel_mod G _) (by decide) [] (Nat.le_of_ble_eq_true rfl) rfl rfl 63 rfl ?_
    refine v_topi (vKind ms nE t0 ja jb i) (by unfold vKind; rw [kS_upd]) ?_
    refine v_istore dX5_kind_63 (by decide) [(7, .int (vKind ms nE t0 ja jb i)), (6, .int (nI i)), (5, .int (amx (vKind ms nE t0 ja jb) 0 (-1) i).2), (4, .int (amx (vKind ms nE t0 ja jb) 0 (-1) i).1), (3, .int x3), (0, .ref (ga G (93))), (1, .int (nI ja)), (2, .int (nI jb))] rfl 65 rfl ?_
    refine v_iload dX5_kind_65 0 rfl 67 rfl ?_
    refine v_iload dX5_kind_67 2 rfl 69 rfl ?_
    refine v_icmp_le dX5_kind_69 77 (by decide) 72 rfl (fun c2 => ?_) (fun c2 => ?_)
    · skip
      refine v_iload dX5_kind_77 3 rfl 79 rfl ?_
      refine v_istore dX5_kind_79 (by decide) [(4, .int (amx (vKind ms nE t0 ja jb) 0 (-1) i).1), (7, .int (vKind ms nE t0 ja jb i)), (6, .int (nI i)), (5, .int (amx (vKind ms nE t0 ja jb) 0 (-1) i).2), (3, .int x3), (0, .ref (ga G (93))), (1, .int (nI ja)), (2, .int (nI jb))] rfl 81 rfl ?_
      refine v_iload dX5_kind_81 1 rfl 83 rfl ?_
      refine v_iload dX5_kind_83 3 rfl 85 rfl ?_
      refine v_icmp_le dX5_kind_85 93 (by decide) 88 rfl (fun c3 => ?_) (fun c3 => absurd c3 (fun q => by have h9 := c2; simp only [Int32.lt_iff_toInt_lt, Int32.le_iff_toInt_le] at h9 q; omega))
      refine v_iload dX5_kind_93 3 rfl 95 rfl ?_
      refine v_istore dX5_kind_95 (by decide) [(5, .int (amx (vKind ms nE t0 ja jb) 0 (-1) i).2), (4, .int (amx (vKind ms nE t0 ja jb) 0 (-1) i).1), (7, .int (vKind ms nE t0 ja jb i)), (6, .int (nI i)), (3, .int x3), (0, .ref (ga G (93))), (1, .int (nI ja)), (2, .int (nI jb))] rfl 97 rfl ?_
      refine v_iinc dX5_kind_97 3 rfl (nI (i + 1)) (nI_1 _) (by decide) [(6, .int (nI (i + 1))), (5, .int (amx (vKind ms nE t0 ja jb) 0 (-1) i).2), (4, .int (amx (vKind ms nE t0 ja jb) 0 (-1) i).1), (7, .int (vKind ms nE t0 ja jb i)), (3, .int x3), (0, .ref (ga G (93))), (1, .int (nI ja)), (2, .int (nI jb))] rfl 100 rfl ?_
      refine v_goto dX5_kind_100 38 (by decide) ?_
      refine v_pick [0, 1, 2, 4, 5, 6, 7] [(6, .int (nI (i + 1))), (5, .int (amx (vKind ms nE t0 ja jb) 0 (-1) i).2), (4, .int (amx (vKind ms nE t0 ja jb) 0 (-1) i).1), (3, .int x3), (0, .ref (ga G (93))), (1, .int (nI ja)), (2, .int (nI jb))] rfl ?_
      have e91 : (amx (vKind ms nE t0 ja jb) 0 (-1) i).1 = (amx (vKind ms nE t0 ja jb) 0 (-1) (i + 1)).1 := by simp [amx, c2, Int32.not_lt.mpr c2]
      have e92 : (amx (vKind ms nE t0 ja jb) 0 (-1) i).2 = (amx (vKind ms nE t0 ja jb) 0 (-1) (i + 1)).2 := by simp [amx, c2, Int32.not_lt.mpr c2]
      refine v_ls (ls2 := [(6, .int (nI (i + 1))), (5, .int (amx (vKind ms nE t0 ja jb) 0 (-1) (i + 1)).2), (4, .int (amx (vKind ms nE t0 ja jb) 0 (-1) (i + 1)).1), (3, .int x3), (0, .ref (ga G (93))), (1, .int (nI ja)), (2, .int (nI jb))]) (by simp only [List.cons.injEq, Prod.mk.injEq, Value.int.injEq, true_and, and_true, and_self]; exact ⟨e92, e91⟩) ?_
      exact ih (i + 1) (by omega) hk
    · skip
      refine v_iload dX5_kind_72 1 rfl 74 rfl ?_
      refine v_goto dX5_kind_74 79 (by decide) ?_
      refine v_istore dX5_kind_79 (by decide) [(4, .int (nI i)), (7, .int (vKind ms nE t0 ja jb i)), (6, .int (nI i)), (5, .int (amx (vKind ms nE t0 ja jb) 0 (-1) i).2), (3, .int x3), (0, .ref (ga G (93))), (1, .int (nI ja)), (2, .int (nI jb))] rfl 81 rfl ?_
      refine v_iload dX5_kind_81 1 rfl 83 rfl ?_
      refine v_iload dX5_kind_83 3 rfl 85 rfl ?_
      refine v_icmp_le dX5_kind_85 93 (by decide) 88 rfl (fun c4 => absurd c4 (fun q => by have h9 := c2; simp only [Int32.lt_iff_toInt_lt, Int32.le_iff_toInt_le] at h9 q; omega)) (fun c4 => ?_)
      refine v_iload dX5_kind_88 1 rfl 90 rfl ?_
      refine v_goto dX5_kind_90 95 (by decide) ?_
      refine v_istore dX5_kind_95 (by decide) [(5, .int (vKind ms nE t0 ja jb i)), (4, .int (nI i)), (7, .int (vKind ms nE t0 ja jb i)), (6, .int (nI i)), (3, .int x3), (0, .ref (ga G (93))), (1, .int (nI ja)), (2, .int (nI jb))] rfl 97 rfl ?_
      refine v_iinc dX5_kind_97 3 rfl (nI (i + 1)) (nI_1 _) (by decide) [(6, .int (nI (i + 1))), (5, .int (vKind ms nE t0 ja jb i)), (4, .int (nI i)), (7, .int (vKind ms nE t0 ja jb i)), (3, .int x3), (0, .ref (ga G (93))), (1, .int (nI ja)), (2, .int (nI jb))] rfl 100 rfl ?_
      refine v_goto dX5_kind_100 38 (by decide) ?_
      refine v_pick [0, 1, 2, 4, 5, 6, 7] [(6, .int (nI (i + 1))), (5, .int (vKind ms nE t0 ja jb i)), (4, .int (nI i)), (3, .int x3), (0, .ref (ga G (93))), (1, .int (nI ja)), (2, .int (nI jb))] rfl ?_
      have e91 : nI i = (amx (vKind ms nE t0 ja jb) 0 (-1) (i + 1)).1 := by simp [amx, c2, Int32.not_le.mp c2]
      have e92 : vKind ms nE t0 ja jb i = (amx (vKind ms nE t0 ja jb) 0 (-1) (i + 1)).2 := by simp [amx, c2, Int32.not_le.mp c2]
      refine v_ls (ls2 := [(6, .int (nI (i + 1))), (5, .int (amx (vKind ms nE t0 ja jb) 0 (-1) (i + 1)).2), (4, .int (amx (vKind ms nE t0 ja jb) 0 (-1) (i + 1)).1), (3, .int x3), (0, .ref (ga G (93))), (1, .int (nI ja)), (2, .int (nI jb))]) (by simp only [List.cons.injEq, Prod.mk.injEq, Value.int.injEq, true_and, and_true, and_self]; exact ⟨e92, e91⟩) ?_
      exact ih (i + 1) (by omega) hk
set_option maxHeartbeats 1000000 in
set_option maxRecDepth 4000 in
theorem c_X5_kind (l : Launch) {G : Gl} {K : CS} {M : MS} {nE : Nat} (hn : M.1 1 = nI nE) (hn8 : nE ≤ 8) {t0 : Nat} (hm : M.1 0 = nI t0) (hmo : t0 < 2 ^ 20) (a b : Int32) : Ct l G yX5_kind cX5_kind 8 (some .int) 7 157 [.ref (ga G (93)), .int a, .int b] (K, M) (some (.int (qKind M nE t0 a b).1)) (K, (qKind M nE t0 a b).2) := by
  obtain ⟨ms, mk, mo, ma, mf, ik, mt, td, fr, tt, vl, wr, mb, mz, nu, mv⟩ := M
  dsimp only at hn hm
  refine Ct.of (own := RX5) (by decide) rfl (Nat.le_of_ble_eq_true rfl) rfl (fun X => ?_)
  refine v_aload_n dX5_kind_0 0 rfl 1 rfl ?_
  refine v_iload_n dX5_kind_1 1 rfl 2 rfl ?_
  refine v_callV (c_X5_isEwe l hn hn8 a) kal_X5_isEwe rfl dX5_kind_2 qw_805 qw_807 qw_21 rfl (by decide) (cel_mod G _) (by decide) [] (Nat.le_of_ble_eq_true rfl) rfl rfl 5 rfl ?_
  refine v_ifb_eq dX5_kind_5 15 (by decide) 8 rfl (fun c1 => ?_) (fun c1 => ?_)
  · skip
    refine v_aload_n dX5_kind_15 0 rfl 16 rfl ?_
    refine v_ldc dX5_kind_16 (-1000000001) qw_755 18 rfl ?_
    refine v_callV (c_X5_finds l (k := 0) (by decide) (-1000000001) (by decide)) kal_X5_finds rfl dX5_kind_18 qw_756 qw_758 qw_15 rfl (by decide) (cel_mod G _) (by decide) [] (Nat.le_of_ble_eq_true rfl) rfl rfl 21 rfl ?_
    exact v_iret dX5_kind_21 (by simp only [qKind, c1, Bool.and_self, Bool.and_true, Bool.true_and, Bool.and_false, Bool.false_and, if_true, if_false, Bool.false_eq_true, ↓reduceIte] <;> simp [mFind, xs, xa, fnd0, true_and]) (by simp only [qKind, c1, Bool.and_self, Bool.and_true, Bool.true_and, Bool.and_false, Bool.false_and, if_true, if_false, Bool.false_eq_true, ↓reduceIte] <;> first | (simp [mFind, xs, xa, fnd0, true_and]; done) | (rw [kS_upd, fa_upd_same rfl]; rfl) | (rw [kS_upd, fa_upd_same rfl]; show _ = (_, _); simp [xa, lastA, kS_s]; rfl))
  · skip
    obtain ⟨ja, h2ja, rfl⟩ := inE_ix c1
    have eja : (nI ja).toNatClampNeg = ja := nI_clamp (by omega)
    refine v_iload_n dX5_kind_8 2 rfl 9 rfl ?_
    refine v_callS (c_X5_isSoon l b) kal_X5_isSoon rfl dX5_kind_9 qw_957 qw_958 (by decide) [] (Nat.le_of_ble_eq_true rfl) rfl rfl 12 rfl ?_
    refine v_ifb_ne dX5_kind_12 22 (by decide) 15 rfl (fun c2 => ?_) (fun c2 => ?_)
    · skip
      obtain ⟨jb, h1jb, h2jb, rfl⟩ := inb_ix (lo := 1) (hi := 60) c2
      have ejb : (nI jb).toNatClampNeg = jb := nI_clamp (by omega)
      refine v_aload_n dX5_kind_22 0 rfl 23 rfl ?_
      refine v_iload_n dX5_kind_23 1 rfl 24 rfl ?_
      refine v_iconst dX5_kind_24 0 rfl 25 rfl ?_
      refine v_callV (c_X5_its l (e := ja) (k := 0) (by omega) (by omega)) kal_X5_its rfl dX5_kind_25 qw_810 qw_812 qw_22 rfl (by decide) (cel_mod G _) (by decide) [] (Nat.le_of_ble_eq_true rfl) rfl rfl 28 rfl ?_
      refine v_istore_n dX5_kind_28 3 rfl (by decide) [(3, .int (ms (38 + 14 * ja + 0))), (0, .ref (ga G (93))), (1, .int (nI ja)), (2, .int (nI jb))] rfl 29 rfl ?_
      refine v_iconst dX5_kind_29 0 rfl 30 rfl ?_
      refine v_istore dX5_kind_30 (by decide) [(4, .int 0), (3, .int (ms (38 + 14 * ja + 0))), (0, .ref (ga G (93))), (1, .int (nI ja)), (2, .int (nI jb))] rfl 32 rfl ?_
      refine v_iconst dX5_kind_32 (-1) rfl 33 rfl ?_
      refine v_istore dX5_kind_33 (by decide) [(5, .int (-1)), (4, .int 0), (3, .int (ms (38 + 14 * ja + 0))), (0, .ref (ga G (93))), (1, .int (nI ja)), (2, .int (nI jb))] rfl 35 rfl ?_
      refine v_iconst dX5_kind_35 0 rfl 36 rfl ?_
      refine v_istore dX5_kind_36 (by decide) [(6, .int 0), (5, .int (-1)), (4, .int 0), (3, .int (ms (38 + 14 * ja + 0))), (0, .ref (ga G (93))), (1, .int (nI ja)), (2, .int (nI jb))] rfl 38 rfl ?_
      refine lp_mkind l hn hn8 hm hmo (ja := ja) (jb := jb) (by omega) (by omega) (ms (38 + 14 * ja + 0)) 6 0 (by omega) ?_
      refine v_aload_n dX5_kind_103 4 rfl 104 rfl ?_
      refine v_get (i := 0) (ci := 5) (T := TX5) (C := RX5) (N := 16) (v := .ref (ga G (94))) dX5_kind_104 inB5 rfl qw_686 rfl (by decide) (by decide) (cel_mod G _) rfl 107 rfl ?_
      refine v_iload_n dX5_kind_107 5 rfl 108 rfl ?_
      refine v_iconst dX5_kind_108 0 rfl 109 rfl ?_
      refine v_callS (c_X5_spot l ja 0) kal_X5_spot rfl dX5_kind_109 qw_785 qw_786 (by decide) [.ref (ga G (94))] (Nat.le_of_ble_eq_true rfl) rfl rfl 112 rfl ?_
      refine v_iload_n dX5_kind_112 3 rfl 113 rfl ?_
      refine v_iast (w2 := (K, (upd (kS ms (38 + 14 * ja + 0) nI 6) (38 + 14 * ja + 0) (ms (38 + 14 * ja + 0)), mk, mo, (lastA ma (fun i => kS ms (38 + 14 * ja + 0) nI (i + 1)) 6), mf, ik, mt, td, fr, tt, vl, wr, mb, mz, nu, mv))) dX5_kind_113 (by decide) (cel_ms G _) (38 + 14 * ja + 0) rfl (by omega) (by decide) u_ms 114 rfl ?_
      refine v_iload dX5_kind_114 2 rfl 116 rfl ?_
      exact v_iret dX5_kind_116 (by simp only [qKind, c1, c2, eja, ejb, Bool.and_self, Bool.and_true, Bool.true_and, Bool.and_false, Bool.false_and, if_true, if_false, Bool.false_eq_true, ↓reduceIte] <;> simp [mFind, xs, xa, fnd0, eja, ejb]) (by simp only [qKind, c1, c2, eja, ejb, Bool.and_self, Bool.and_true, Bool.true_and, Bool.and_false, Bool.false_and, if_true, if_false, Bool.false_eq_true, ↓reduceIte] <;> first | (simp [mFind, xs, xa, fnd0, eja, ejb]; done) | (rw [kS_upd, fa_upd_same rfl]; rfl) | (rw [kS_upd, fa_upd_same rfl]; show _ = (_, _); simp [xa, lastA, kS_s]; rfl))
    · skip
      refine v_aload_n dX5_kind_15 0 rfl 16 rfl ?_
      refine v_ldc dX5_kind_16 (-1000000001) qw_755 18 rfl ?_
      refine v_callV (c_X5_finds l (k := 0) (by decide) (-1000000001) (by decide)) kal_X5_finds rfl dX5_kind_18 qw_756 qw_758 qw_15 rfl (by decide) (cel_mod G _) (by decide) [] (Nat.le_of_ble_eq_true rfl) rfl rfl 21 rfl ?_
      exact v_iret dX5_kind_21 (by simp only [qKind, c1, c2, eja, Bool.and_self, Bool.and_true, Bool.true_and, Bool.and_false, Bool.false_and, if_true, if_false, Bool.false_eq_true, ↓reduceIte] <;> simp [mFind, xs, xa, fnd0, eja]) (by simp only [qKind, c1, c2, eja, Bool.and_self, Bool.and_true, Bool.true_and, Bool.and_false, Bool.false_and, if_true, if_false, Bool.false_eq_true, ↓reduceIte] <;> first | (simp [mFind, xs, xa, fnd0, eja]; done) | (rw [kS_upd, fa_upd_same rfl]; rfl) | (rw [kS_upd, fa_upd_same rfl]; show _ = (_, _); simp [xa, lastA, kS_s]; rfl))
set_option maxHeartbeats 1000000 in
set_option maxRecDepth 4000 in
theorem lp_mcold (l : Launch) {G : Gl} {X : VX} {ov : Option Value} {wF : WS} {K : CS} {ms : Nat → Int32} {mk : Nat → Int32} {mo : Nat → Int32} {ma : Nat → Int32} {mf : Nat → Int32} {ik : Int32} {mt : Nat → Int32} {td : Nat} {fr : Nat} {tt : Nat} {vl : Int32} {wr : Int32} {mb : Nat → Int32} {mz : Nat → Int32} {nu : Nat → Int64} {mv : Nat → Int64} {nE : Nat} (hn : ms 1 = nI nE) (hn8 : nE ≤ 8) {t0 : Nat} (hm : ms 0 = nI t0) (hmo : t0 < 2 ^ 20) {ja jb : Nat} (hja : ja < 12) (hjb : jb ≤ 60) (c x4 : Int32) (hk1 : ∀ i : Nat, i < 41 → (∀ j, j < i → (pCold ms nE t0 ja jb c) j = false) → (pCold ms nE t0 ja jb c) i = true → V l X 7 157 cX5_cold 7 RX5 (some .int) G ov wF (K, ((kS ms (2 + ja) (fun i => 20 - nI i) (i + 1)), mk, mo, (kS ms (2 + ja) (fun i => 20 - nI i) (i + 1)), mf, ik, mt, td, fr, tt, vl, wr, mb, mz, nu, mv)) 103 [(5, .int (20 - nI i)), (4, .int x4), (0, .ref (ga G (93))), (1, .int (nI ja)), (2, .int (nI jb)), (3, .int c)] []) (hk0 : (∀ j, j < 41 → (pCold ms nE t0 ja jb c) j = false) → V l X 7 157 cX5_cold 7 RX5 (some .int) G ov wF (K, ((kS ms (2 + ja) (fun i => 20 - nI i) 41), mk, mo, (lastA ma (fun i => kS ms (2 + ja) (fun i => 20 - nI i) (i + 1)) 41), mf, ik, mt, td, fr, tt, vl, wr, mb, mz, nu, mv)) 103 [(5, .int 21), (4, .int x4), (0, .ref (ga G (93))), (1, .int (nI ja)), (2, .int (nI jb)), (3, .int c)] []) : ∀ n i : Nat, i + n = 41 → (∀ j, j < i → (pCold ms nE t0 ja jb c) j = false) → V l X 7 157 cX5_cold 7 RX5 (some .int) G ov wF (K, ((kS ms (2 + ja) (fun i => 20 - nI i) i), mk, mo, (lastA ma (fun i => kS ms (2 + ja) (fun i => 20 - nI i) (i + 1)) i), mf, ik, mt, td, fr, tt, vl, wr, mb, mz, nu, mv)) 51 [(6, .int (20 - nI i)), (5, .int 21), (4, .int x4), (0, .ref (ga G (93))), (1, .int (nI ja)), (2, .int (nI jb)), (3, .int c)] [] := by
  intro n
  induction n with
  | zero =>
    intro i hin hno
    obtain rfl : 41 = i := by omega
    refine v_iload dX5_cold_51 0 rfl 53 rfl ?_
    refine v_bipush dX5_cold_53 (-20) rfl 55 rfl ?_
    refine v_icmp_lt dX5_cold_55 103 (by decide) 58 rfl (fun c1 => ?_) (fun c1 => absurd c1 (by decide))
    refine v_pick [1, 2, 3, 4, 5, 6] [(5, .int 21), (4, .int x4), (0, .ref (ga G (93))), (1, .int (nI ja)), (2, .int (nI jb)), (3, .int c)] rfl ?_
    exact hk0 hno
  | succ n ih =>
    intro i hin hno
    have hw9 : (20 - nI i : Int32).toInt = 20 - (i : Int) := dn_t (a := 20) i (by decide) (by omega)
    refine v_iload dX5_cold_51 0 rfl 53 rfl ?_
    refine v_bipush dX5_cold_53 (-20) rfl 55 rfl ?_
    refine v_icmp_lt dX5_cold_55 103 (by decide) 58 rfl (fun c1 => absurd c1 (fun q => by have h9 := (Int32.lt_iff_toInt_lt).mp q; have e9 : (-20 : Int32).toInt = -20 := rfl; omega)) (fun c1 => ?_)
    refine v_iload dX5_cold_58 1 rfl 60 rfl ?_
    refine v_bipush dX5_cold_60 20 rfl 62 rfl ?_
    refine v_icmp_le dX5_cold_62 103 (by decide) 65 rfl (fun c2 => absurd c2 (by decide)) (fun c2 => ?_)
    refine v_aload_n dX5_cold_65 3 rfl 66 rfl ?_
    refine v_get (i := 0) (ci := 5) (T := TX5) (C := RX5) (N := 16) (v := .ref (ga G (94))) dX5_cold_66 inB5 rfl qw_686 rfl (by decide) (by decide) (cel_mod G _) rfl 69 rfl ?_
    refine v_iconst dX5_cold_69 2 rfl 70 rfl ?_
    refine v_iload_n dX5_cold_70 4 rfl 71 rfl ?_
    refine n_iadd dX5_cold_71 2 ja rfl rfl 72 rfl ?_
    refine v_iload dX5_cold_72 0 rfl 74 rfl ?_
    refine v_iast (w2 := (K, (upd (kS ms (2 + ja) (fun i => 20 - nI i) i) (2 + ja) (20 - nI i), mk, mo, (lastA ma (fun i => kS ms (2 + ja) (fun i => 20 - nI i) (i + 1)) i), mf, ik, mt, td, fr, tt, vl, wr, mb, mz, nu, mv))) dX5_cold_74 (by decide) (cel_ms G _) (2 + ja) rfl (by omega) (by decide) u_ms 75 rfl ?_
    refine v_aload_n dX5_cold_75 3 rfl 76 rfl ?_
    refine v_bipush dX5_cold_76 14 rfl 78 rfl ?_
    refine v_iload_n dX5_cold_78 4 rfl 79 rfl ?_
    refine n_iadd dX5_cold_79 14 ja rfl rfl 80 rfl ?_
    refine v_iload_n dX5_cold_80 5 rfl 81 rfl ?_
    refine v_callV (c_X5_behind l ((show (upd (kS ms (2 + ja) (fun i => 20 - nI i) i) (2 + ja) (20 - nI i)) 1 = ms 1 from (by first | (rw [upd_ne (by omega), kS_lo _ _ _ _ (by omega)]; done) | (rw [kS_lo _ _ _ _ (by omega)]; done) | (rw [upd_ne (by omega)]; done) | rfl)).trans hn) hn8 ((show (upd (kS ms (2 + ja) (fun i => 20 - nI i) i) (2 + ja) (20 - nI i)) 0 = ms 0 from (by first | (rw [upd_ne (by omega), kS_lo _ _ _ _ (by omega)]; done) | (rw [kS_lo _ _ _ _ (by omega)]; done) | (rw [upd_ne (by omega)]; done) | rfl)).trans hm) (by omega) (k := 14 + ja) (by omega)) kal_X5_behind rfl dX5_cold_81 qw_931 qw_933 qw_37 rfl (by decide) (cel_mod G _) (by decide) [] (Nat.le_of_ble_eq_true rfl) rfl rfl 84 rfl ?_
    refine v_topi (mGo (upd ms (2 + ja) (20 - nI i)) nE t0 jb (14 + ja)) (by rw [kS_upd]) ?_
    refine v_iload_n dX5_cold_84 6 rfl 85 rfl ?_
    refine v_icmp_lt dX5_cold_85 93 (by decide) 88 rfl (fun c3 => ?_) (fun c3 => ?_)
    · skip
      refine v_iload dX5_cold_93 1 rfl 95 rfl ?_
      refine v_istore dX5_cold_95 (by decide) [(5, .int 21), (6, .int (20 - nI i)), (4, .int x4), (0, .ref (ga G (93))), (1, .int (nI ja)), (2, .int (nI jb)), (3, .int c)] rfl 97 rfl ?_
      refine v_iinc dX5_cold_97 1 rfl (20 - nI (i + 1)) (dn_i _ _) (by decide) [(6, .int (20 - nI (i + 1))), (5, .int 21), (4, .int x4), (0, .ref (ga G (93))), (1, .int (nI ja)), (2, .int (nI jb)), (3, .int c)] rfl 100 rfl ?_
      refine v_goto dX5_cold_100 51 (by decide) ?_
      exact ih (i + 1) (by omega) (lt_s hno (by simp [pCold, c3, Int32.not_le.mpr c3]))
    · skip
      refine v_iload dX5_cold_88 0 rfl 90 rfl ?_
      refine v_goto dX5_cold_90 95 (by decide) ?_
      refine v_istore dX5_cold_95 (by decide) [(5, .int (20 - nI i)), (6, .int (20 - nI i)), (4, .int x4), (0, .ref (ga G (93))), (1, .int (nI ja)), (2, .int (nI jb)), (3, .int c)] rfl 97 rfl ?_
      refine v_iinc dX5_cold_97 1 rfl (20 - nI (i + 1)) (dn_i _ _) (by decide) [(6, .int (20 - nI (i + 1))), (5, .int (20 - nI i)), (4, .int x4), (0, .ref (ga G (93))), (1, .int (nI ja)), (2, .int (nI jb)), (3, .int c)] rfl 100 rfl ?_
      refine v_goto dX5_cold_100 51 (by decide) ?_
      refine v_iload dX5_cold_51 0 rfl 53 rfl ?_
      refine v_bipush dX5_cold_53 (-20) rfl 55 rfl ?_
      refine v_icmp_lt dX5_cold_55 103 (by decide) 58 rfl (fun c4 => ?_) (fun c4 => ?_)
      · skip
        refine v_pick [1, 2, 3, 4, 5, 6] [(5, .int (20 - nI i)), (4, .int x4), (0, .ref (ga G (93))), (1, .int (nI ja)), (2, .int (nI jb)), (3, .int c)] rfl ?_
        exact hk1 i (by omega) hno (by simp [pCold, c3, Int32.not_lt.mp c3, c4, Int32.not_le.mpr c4])
      · skip
        refine v_iload dX5_cold_58 1 rfl 60 rfl ?_
        refine v_bipush dX5_cold_60 20 rfl 62 rfl ?_
        refine v_icmp_le dX5_cold_62 103 (by decide) 65 rfl (fun c5 => ?_) (fun c5 => absurd c5 (fun q => by have h9 := (show ¬ (20 - nI i : Int32).toInt ≤ (20 : Int32).toInt from fun z => q ((Int32.le_iff_toInt_le).mpr z)); have e9 : (20 : Int32).toInt = 20 := rfl; omega))
        refine v_pick [1, 2, 3, 4, 5, 6] [(5, .int (20 - nI i)), (4, .int x4), (0, .ref (ga G (93))), (1, .int (nI ja)), (2, .int (nI jb)), (3, .int c)] rfl ?_
        exact hk1 i (by omega) hno (by simp [pCold, c3, Int32.not_lt.mp c3, c4, Int32.not_lt.mp c4])
set_option maxHeartbeats 1000000 in
set_option maxRecDepth 4000 in
theorem lp_mbears (l : Launch) {G : Gl} {X : VX} {ov : Option Value} {wF : WS} {K : CS} {ms : Nat → Int32} {mk : Nat → Int32} {mo : Nat → Int32} {ma : Nat → Int32} {mf : Nat → Int32} {ik : Int32} {mt : Nat → Int32} {td : Nat} {fr : Nat} {tt : Nat} {vl : Int32} {wr : Int32} {mb : Nat → Int32} {mz : Nat → Int32} {nu : Nat → Int64} {mv : Nat → Int64} {nE : Nat} (hn : ms 1 = nI nE) (hn8 : nE ≤ 8) {t0 : Nat} (hm : ms 0 = nI t0) (hmo : t0 < 2 ^ 20) {ja jb : Nat} (hja : ja < nE) (hjb : jb ≤ 60) (c x4 : Int32) (hk1 : ∀ i : Nat, i < 100 → (∀ j, j < i → (pBears ms nE t0 ja jb c) j = false) → (pBears ms nE t0 ja jb c) i = true → V l X 7 157 cX5_bears 7 RX5 (some .int) G ov wF (K, ((kS ms (38 + 14 * ja + 1) (fun i => 99 - nI i) (i + 1)), mk, mo, (kS ms (38 + 14 * ja + 1) (fun i => 99 - nI i) (i + 1)), mf, ik, mt, td, fr, tt, vl, wr, mb, mz, nu, mv)) 104 [(5, .int (99 - nI i)), (4, .int x4), (0, .ref (ga G (93))), (1, .int (nI ja)), (2, .int (nI jb)), (3, .int c)] []) (hk0 : (∀ j, j < 100 → (pBears ms nE t0 ja jb c) j = false) → V l X 7 157 cX5_bears 7 RX5 (some .int) G ov wF (K, ((kS ms (38 + 14 * ja + 1) (fun i => 99 - nI i) 100), mk, mo, (lastA ma (fun i => kS ms (38 + 14 * ja + 1) (fun i => 99 - nI i) (i + 1)) 100), mf, ik, mt, td, fr, tt, vl, wr, mb, mz, nu, mv)) 104 [(5, .int (-1)), (4, .int x4), (0, .ref (ga G (93))), (1, .int (nI ja)), (2, .int (nI jb)), (3, .int c)] []) : ∀ n i : Nat, i + n = 100 → (∀ j, j < i → (pBears ms nE t0 ja jb c) j = false) → V l X 7 157 cX5_bears 7 RX5 (some .int) G ov wF (K, ((kS ms (38 + 14 * ja + 1) (fun i => 99 - nI i) i), mk, mo, (lastA ma (fun i => kS ms (38 + 14 * ja + 1) (fun i => 99 - nI i) (i + 1)) i), mf, ik, mt, td, fr, tt, vl, wr, mb, mz, nu, mv)) 54 [(6, .int (99 - nI i)), (5, .int (-1)), (4, .int x4), (0, .ref (ga G (93))), (1, .int (nI ja)), (2, .int (nI jb)), (3, .int c)] [] := by
  intro n
  induction n with
  | zero =>
    intro i hin hno
    obtain rfl : 100 = i := by omega
    refine v_iload dX5_bears_54 0 rfl 56 rfl ?_
    refine v_if_lt dX5_bears_56 104 (by decide) 59 rfl (fun c1 => ?_) (fun c1 => absurd c1 (by decide))
    refine v_pick [1, 2, 3, 4, 5, 6] [(5, .int (-1)), (4, .int x4), (0, .ref (ga G (93))), (1, .int (nI ja)), (2, .int (nI jb)), (3, .int c)] rfl ?_
    exact hk0 hno
  | succ n ih =>
    intro i hin hno
    have hw9 : (99 - nI i : Int32).toInt = 99 - (i : Int) := dn_t (a := 99) i (by decide) (by omega)
    refine v_iload dX5_bears_54 0 rfl 56 rfl ?_
    refine v_if_lt dX5_bears_56 104 (by decide) 59 rfl (fun c1 => absurd c1 (fun q => by have h9 := (Int32.lt_iff_toInt_lt).mp q; have e9 : (0 : Int32).toInt = 0 := rfl; omega)) (fun c1 => ?_)
    refine v_iload dX5_bears_59 1 rfl 61 rfl ?_
    refine v_if_ge dX5_bears_61 104 (by decide) 64 rfl (fun c2 => absurd c2 (by decide)) (fun c2 => ?_)
    refine v_aload_n dX5_bears_64 3 rfl 65 rfl ?_
    refine v_get (i := 0) (ci := 5) (T := TX5) (C := RX5) (N := 16) (v := .ref (ga G (94))) dX5_bears_65 inB5 rfl qw_686 rfl (by decide) (by decide) (cel_mod G _) rfl 68 rfl ?_
    refine v_iload_n dX5_bears_68 4 rfl 69 rfl ?_
    refine v_iconst dX5_bears_69 1 rfl 70 rfl ?_
    refine v_callS (c_X5_spot l ja 1) kal_X5_spot rfl dX5_bears_70 qw_785 qw_786 (by decide) [.ref (ga G (94))] (Nat.le_of_ble_eq_true rfl) rfl rfl 73 rfl ?_
    refine v_iload dX5_bears_73 0 rfl 75 rfl ?_
    refine v_iast (w2 := (K, (upd (kS ms (38 + 14 * ja + 1) (fun i => 99 - nI i) i) (38 + 14 * ja + 1) (99 - nI i), mk, mo, (lastA ma (fun i => kS ms (38 + 14 * ja + 1) (fun i => 99 - nI i) (i + 1)) i), mf, ik, mt, td, fr, tt, vl, wr, mb, mz, nu, mv))) dX5_bears_75 (by decide) (cel_ms G _) (38 + 14 * ja + 1) rfl (by omega) (by decide) u_ms 76 rfl ?_
    refine v_aload_n dX5_bears_76 3 rfl 77 rfl ?_
    refine v_iload_n dX5_bears_77 4 rfl 78 rfl ?_
    refine v_iconst dX5_bears_78 2 rfl 79 rfl ?_
    refine v_callS (c_X5_spot l ja 2) kal_X5_spot rfl dX5_bears_79 qw_785 qw_786 (by decide) [.ref (ga G (93))] (Nat.le_of_ble_eq_true rfl) rfl rfl 82 rfl ?_
    refine v_iload_n dX5_bears_82 5 rfl 83 rfl ?_
    refine v_callV (c_X5_twelveBehind l ((show (upd (kS ms (38 + 14 * ja + 1) (fun i => 99 - nI i) i) (38 + 14 * ja + 1) (99 - nI i)) 1 = ms 1 from (by first | (rw [upd_ne (by omega), kS_lo _ _ _ _ (by omega)]; done) | (rw [kS_lo _ _ _ _ (by omega)]; done) | (rw [upd_ne (by omega)]; done) | rfl)).trans hn) hn8 ((show (upd (kS ms (38 + 14 * ja + 1) (fun i => 99 - nI i) i) (38 + 14 * ja + 1) (99 - nI i)) 0 = ms 0 from (by first | (rw [upd_ne (by omega), kS_lo _ _ _ _ (by omega)]; done) | (rw [kS_lo _ _ _ _ (by omega)]; done) | (rw [upd_ne (by omega)]; done) | rfl)).trans hm) (by omega) (k := 38 + 14 * ja + 2) (by omega)) kal_X5_twelveBehind rfl dX5_bears_83 qw_919 qw_921 qw_34 rfl (by decide) (cel_mod G _) (by decide) [] (Nat.le_of_ble_eq_true rfl) rfl rfl 86 rfl ?_
    refine v_topi (sm (fun m => mGo (upd ms (38 + 14 * ja + 1) (99 - nI i)) nE t0 jb (38 + 14 * ja + 2 + m)) 12) (by rw [kS_upd]) ?_
    refine v_iload_n dX5_bears_86 6 rfl 87 rfl ?_
    refine v_icmp_lt dX5_bears_87 95 (by decide) 90 rfl (fun c3 => ?_) (fun c3 => ?_)
    · skip
      refine v_iconst dX5_bears_95 (-1) rfl 96 rfl ?_
      refine v_istore dX5_bears_96 (by decide) [(5, .int (-1)), (6, .int (99 - nI i)), (4, .int x4), (0, .ref (ga G (93))), (1, .int (nI ja)), (2, .int (nI jb)), (3, .int c)] rfl 98 rfl ?_
      refine v_iinc dX5_bears_98 1 rfl (99 - nI (i + 1)) (dn_i _ _) (by decide) [(6, .int (99 - nI (i + 1))), (5, .int (-1)), (4, .int x4), (0, .ref (ga G (93))), (1, .int (nI ja)), (2, .int (nI jb)), (3, .int c)] rfl 101 rfl ?_
      refine v_goto dX5_bears_101 54 (by decide) ?_
      exact ih (i + 1) (by omega) (lt_s hno (by simp [pBears, c3, Int32.not_le.mpr c3]))
    · skip
      refine v_iload dX5_bears_90 0 rfl 92 rfl ?_
      refine v_goto dX5_bears_92 96 (by decide) ?_
      refine v_istore dX5_bears_96 (by decide) [(5, .int (99 - nI i)), (6, .int (99 - nI i)), (4, .int x4), (0, .ref (ga G (93))), (1, .int (nI ja)), (2, .int (nI jb)), (3, .int c)] rfl 98 rfl ?_
      refine v_iinc dX5_bears_98 1 rfl (99 - nI (i + 1)) (dn_i _ _) (by decide) [(6, .int (99 - nI (i + 1))), (5, .int (99 - nI i)), (4, .int x4), (0, .ref (ga G (93))), (1, .int (nI ja)), (2, .int (nI jb)), (3, .int c)] rfl 101 rfl ?_
      refine v_goto dX5_bears_101 54 (by decide) ?_
      refine v_iload dX5_bears_54 0 rfl 56 rfl ?_
      refine v_if_lt dX5_bears_56 104 (by decide) 59 rfl (fun c4 => ?_) (fun c4 => ?_)
      · skip
        refine v_pick [1, 2, 3, 4, 5, 6] [(5, .int (99 - nI i)), (4, .int x4), (0, .ref (ga G (93))), (1, .int (nI ja)), (2, .int (nI jb)), (3, .int c)] rfl ?_
        exact hk1 i (by omega) hno (by simp [pBears, c3, Int32.not_lt.mp c3, c4, Int32.not_le.mpr c4])
      · skip
        refine v_iload dX5_bears_59 1 rfl 61 rfl ?_
        refine v_if_ge dX5_bears_61 104 (by decide) 64 rfl (fun c5 => ?_) (fun c5 => absurd c5 (fun q => by have h9 := (show ¬ (0 : Int32).toInt ≤ (99 - nI i : Int32).toInt from fun z => q ((Int32.le_iff_toInt_le).mpr z)); have e9 : (0 : Int32).toInt = 0 := rfl; omega))
        refine v_pick [1, 2, 3, 4, 5, 6] [(5, .int (99 - nI i)), (4, .int x4), (0, .ref (ga G (93))), (1, .int (nI ja)), (2, .int (nI jb)), (3, .int c)] rfl ?_
        exact hk1 i (by omega) hno (by simp [pBears, c3, Int32.not_lt.mp c3, c4, Int32.not_lt.mp c4])
set_option maxHeartbeats 1000000 in
set_option maxRecDepth 4000 in
theorem c_X5_cold (l : Launch) {G : Gl} {K : CS} {M : MS} {nE : Nat} (hn : M.1 1 = nI nE) (hn8 : nE ≤ 8) {t0 : Nat} (hm : M.1 0 = nI t0) (hmo : t0 < 2 ^ 20) (a b c : Int32) : Ct l G yX5_cold cX5_cold 7 (some .int) 7 157 [.ref (ga G (93)), .int a, .int b, .int c] (K, M) (some (.int (qCold M nE t0 a b c).1)) (K, (qCold M nE t0 a b c).2) := by
  obtain ⟨ms, mk, mo, ma, mf, ik, mt, td, fr, tt, vl, wr, mb, mz, nu, mv⟩ := M
  dsimp only at hn hm
  refine Ct.of (own := RX5) (by decide) rfl (Nat.le_of_ble_eq_true rfl) rfl (fun X => ?_)
  refine v_iload_n dX5_cold_0 1 rfl 1 rfl ?_
  refine v_callS (c_X5_isMonth l a) kal_X5_isMonth rfl dX5_cold_1 qw_739 qw_740 (by decide) [] (Nat.le_of_ble_eq_true rfl) rfl rfl 4 rfl ?_
  refine v_ifb_eq dX5_cold_4 26 (by decide) 7 rfl (fun c1 => ?_) (fun c1 => ?_)
  · skip
    refine v_aload_n dX5_cold_26 0 rfl 27 rfl ?_
    refine v_ldc dX5_cold_27 (-1000000001) qw_755 29 rfl ?_
    refine v_callV (c_X5_finds l (k := 0) (by decide) (-1000000001) (by decide)) kal_X5_finds rfl dX5_cold_29 qw_756 qw_758 qw_15 rfl (by decide) (cel_mod G _) (by decide) [] (Nat.le_of_ble_eq_true rfl) rfl rfl 32 rfl ?_
    exact v_iret dX5_cold_32 (by simp only [qCold, c1, Bool.and_self, Bool.and_true, Bool.true_and, Bool.and_false, Bool.false_and, if_true, if_false, Bool.false_eq_true, ↓reduceIte] <;> first | (simp [mFind, xs, xa, fnd0, fnd3, true_and]; done) | (simp only [kS_upd, fa_upd_same]; simp [mFind, xs, xa, fnd0, fnd3, lastA, kS_s, true_and]; done) | (rw [kS_upd, fa_upd_same rfl]; simp [mFind, xs, xa, fnd0, fnd3, lastA, kS_s, true_and])) (by simp only [qCold, c1, Bool.and_self, Bool.and_true, Bool.true_and, Bool.and_false, Bool.false_and, if_true, if_false, Bool.false_eq_true, ↓reduceIte] <;> first | (simp [mFind, xs, xa, fnd0, fnd3, true_and]; done) | (simp only [kS_upd, fa_upd_same]; simp [mFind, xs, xa, fnd0, fnd3, lastA, kS_s, true_and]; done) | (rw [kS_upd, fa_upd_same rfl]; simp [mFind, xs, xa, fnd0, fnd3, lastA, kS_s, true_and]))
  · skip
    obtain ⟨ja, h1ja, h2ja, rfl⟩ := inb_ix (lo := 0) (hi := 11) c1
    have eja : (nI ja).toNatClampNeg = ja := nI_clamp (by omega)
    refine v_iload_n dX5_cold_7 2 rfl 8 rfl ?_
    refine v_callS (c_X5_isSoon l b) kal_X5_isSoon rfl dX5_cold_8 qw_957 qw_958 (by decide) [] (Nat.le_of_ble_eq_true rfl) rfl rfl 11 rfl ?_
    refine v_ifb_eq dX5_cold_11 26 (by decide) 14 rfl (fun c2 => ?_) (fun c2 => ?_)
    · skip
      refine v_aload_n dX5_cold_26 0 rfl 27 rfl ?_
      refine v_ldc dX5_cold_27 (-1000000001) qw_755 29 rfl ?_
      refine v_callV (c_X5_finds l (k := 0) (by decide) (-1000000001) (by decide)) kal_X5_finds rfl dX5_cold_29 qw_756 qw_758 qw_15 rfl (by decide) (cel_mod G _) (by decide) [] (Nat.le_of_ble_eq_true rfl) rfl rfl 32 rfl ?_
      exact v_iret dX5_cold_32 (by simp only [qCold, c1, c2, eja, Bool.and_self, Bool.and_true, Bool.true_and, Bool.and_false, Bool.false_and, if_true, if_false, Bool.false_eq_true, ↓reduceIte] <;> first | (simp [mFind, xs, xa, fnd0, fnd3, eja]; done) | (simp only [kS_upd, fa_upd_same]; simp [mFind, xs, xa, fnd0, fnd3, lastA, kS_s, eja]; done) | (rw [kS_upd, fa_upd_same rfl]; simp [mFind, xs, xa, fnd0, fnd3, lastA, kS_s, eja])) (by simp only [qCold, c1, c2, eja, Bool.and_self, Bool.and_true, Bool.true_and, Bool.and_false, Bool.false_and, if_true, if_false, Bool.false_eq_true, ↓reduceIte] <;> first | (simp [mFind, xs, xa, fnd0, fnd3, eja]; done) | (simp only [kS_upd, fa_upd_same]; simp [mFind, xs, xa, fnd0, fnd3, lastA, kS_s, eja]; done) | (rw [kS_upd, fa_upd_same rfl]; simp [mFind, xs, xa, fnd0, fnd3, lastA, kS_s, eja]))
    · skip
      obtain ⟨jb, h1jb, h2jb, rfl⟩ := inb_ix (lo := 1) (hi := 60) c2
      have ejb : (nI jb).toNatClampNeg = jb := nI_clamp (by omega)
      refine v_iload_n dX5_cold_14 3 rfl 15 rfl ?_
      refine v_i2l dX5_cold_15 16 rfl ?_
      refine v_lconst dX5_cold_16 0 rfl 17 rfl ?_
      refine v_ldc2 dX5_cold_17 9999 qw_943 20 rfl ?_
      refine v_callS (c_X5_in l (c : Int32).toInt64 0 9999 (z := (c : Int32).toInt) (lo := 0) (hi := 9999) (i2l_i _) rfl rfl) kal_X5_in rfl dX5_cold_20 qw_743 qw_744 (by decide) [] (Nat.le_of_ble_eq_true rfl) rfl rfl 23 rfl ?_
      refine v_topi (b2 (inb 0 9999 c)) rfl ?_
      refine v_ifb_ne dX5_cold_23 33 (by decide) 26 rfl (fun c3 => ?_) (fun c3 => ?_)
      · skip
        refine v_aload_n dX5_cold_33 0 rfl 34 rfl ?_
        refine v_get (i := 0) (ci := 5) (T := TX5) (C := RX5) (N := 16) (v := .ref (ga G (94))) dX5_cold_34 inB5 rfl qw_686 rfl (by decide) (by decide) (cel_mod G _) rfl 37 rfl ?_
        refine v_iconst dX5_cold_37 2 rfl 38 rfl ?_
        refine v_iload_n dX5_cold_38 1 rfl 39 rfl ?_
        refine n_iadd dX5_cold_39 2 ja rfl rfl 40 rfl ?_
        refine v_iald (a := ms) dX5_cold_40 (by decide) (cel_ms G _) (2 + ja) rfl (by omega) (by decide) 41 rfl ?_
        refine v_istore dX5_cold_41 (by decide) [(4, .int (ms (2 + ja))), (0, .ref (ga G (93))), (1, .int (nI ja)), (2, .int (nI jb)), (3, .int c)] rfl 43 rfl ?_
        refine v_bipush dX5_cold_43 21 rfl 45 rfl ?_
        refine v_istore dX5_cold_45 (by decide) [(5, .int 21), (4, .int (ms (2 + ja))), (0, .ref (ga G (93))), (1, .int (nI ja)), (2, .int (nI jb)), (3, .int c)] rfl 47 rfl ?_
        refine v_bipush dX5_cold_47 20 rfl 49 rfl ?_
        refine v_istore dX5_cold_49 (by decide) [(6, .int 20), (5, .int 21), (4, .int (ms (2 + ja))), (0, .ref (ga G (93))), (1, .int (nI ja)), (2, .int (nI jb)), (3, .int c)] rfl 51 rfl ?_
        refine lp_mcold l hn hn8 hm hmo (ja := ja) (jb := jb) (by omega) (by omega) c (ms (2 + ja)) (fun i hi hno hyes => ?_) (fun hno => ?_) 41 0 (by omega) (fun _ h => absurd h (Nat.not_lt_zero _))
        · skip
          have hF : fa_first (pCold ms nE t0 ja jb c) 41 = i := fa_first_eq (by omega) hno (fun _ => hyes)
          have hF2 : i < 41 := hi
          have hw9 : (20 - nI i : Int32).toInt = 20 - (i : Int) := dn_t (a := 20) i (by decide) (by omega)
          refine v_aload_n dX5_cold_103 2 rfl 104 rfl ?_
          refine v_get (i := 0) (ci := 5) (T := TX5) (C := RX5) (N := 16) (v := .ref (ga G (94))) dX5_cold_104 inB5 rfl qw_686 rfl (by decide) (by decide) (cel_mod G _) rfl 107 rfl ?_
          refine v_iconst dX5_cold_107 2 rfl 108 rfl ?_
          refine v_iload_n dX5_cold_108 3 rfl 109 rfl ?_
          refine n_iadd dX5_cold_109 2 ja rfl rfl 110 rfl ?_
          refine v_iload dX5_cold_110 1 rfl 112 rfl ?_
          refine v_iast (w2 := (K, (upd (kS ms (2 + ja) (fun i => 20 - nI i) (i + 1)) (2 + ja) (ms (2 + ja)), mk, mo, (kS ms (2 + ja) (fun i => 20 - nI i) (i + 1)), mf, ik, mt, td, fr, tt, vl, wr, mb, mz, nu, mv))) dX5_cold_112 (by decide) (cel_ms G _) (2 + ja) rfl (by omega) (by decide) u_ms 113 rfl ?_
          refine v_iload dX5_cold_113 0 rfl 115 rfl ?_
          refine v_bipush dX5_cold_115 20 rfl 117 rfl ?_
          refine v_icmp_le dX5_cold_117 129 (by decide) 120 rfl (fun c4 => ?_) (fun c4 => absurd c4 (fun q => by have h9 := (show ¬ (20 - nI i : Int32).toInt ≤ (20 : Int32).toInt from fun z => q ((Int32.le_iff_toInt_le).mpr z)); have e9 : (20 : Int32).toInt = 20 := rfl; omega))
          refine v_iload dX5_cold_129 0 rfl 131 rfl ?_
          exact v_iret dX5_cold_131 (by simp only [qCold, c1, c2, c3, eja, ejb, hF, hF2, Bool.and_self, Bool.and_true, Bool.true_and, Bool.and_false, Bool.false_and, if_true, if_false, Bool.false_eq_true, ↓reduceIte] <;> first | (simp [mFind, xs, xa, fnd0, fnd3, eja, ejb, hF, hF2]; done) | (simp only [kS_upd, fa_upd_same]; simp [mFind, xs, xa, fnd0, fnd3, lastA, kS_s, eja, ejb, hF, hF2]; done) | (rw [kS_upd, fa_upd_same rfl]; simp [mFind, xs, xa, fnd0, fnd3, lastA, kS_s, eja, ejb, hF, hF2])) (by simp only [qCold, c1, c2, c3, eja, ejb, hF, hF2, Bool.and_self, Bool.and_true, Bool.true_and, Bool.and_false, Bool.false_and, if_true, if_false, Bool.false_eq_true, ↓reduceIte] <;> first | (simp [mFind, xs, xa, fnd0, fnd3, eja, ejb, hF, hF2]; done) | (simp only [kS_upd, fa_upd_same]; simp [mFind, xs, xa, fnd0, fnd3, lastA, kS_s, eja, ejb, hF, hF2]; done) | (rw [kS_upd, fa_upd_same rfl]; simp [mFind, xs, xa, fnd0, fnd3, lastA, kS_s, eja, ejb, hF, hF2]))
        · skip
          have hF : fa_first (pCold ms nE t0 ja jb c) 41 = 41 := fa_first_eq (Nat.le_refl _) hno (fun h => absurd h (Nat.lt_irrefl _))
          refine v_aload_n dX5_cold_103 2 rfl 104 rfl ?_
          refine v_get (i := 0) (ci := 5) (T := TX5) (C := RX5) (N := 16) (v := .ref (ga G (94))) dX5_cold_104 inB5 rfl qw_686 rfl (by decide) (by decide) (cel_mod G _) rfl 107 rfl ?_
          refine v_iconst dX5_cold_107 2 rfl 108 rfl ?_
          refine v_iload_n dX5_cold_108 3 rfl 109 rfl ?_
          refine n_iadd dX5_cold_109 2 ja rfl rfl 110 rfl ?_
          refine v_iload dX5_cold_110 1 rfl 112 rfl ?_
          refine v_iast (w2 := (K, (upd (kS ms (2 + ja) (fun i => 20 - nI i) 41) (2 + ja) (ms (2 + ja)), mk, mo, (lastA ma (fun i => kS ms (2 + ja) (fun i => 20 - nI i) (i + 1)) 41), mf, ik, mt, td, fr, tt, vl, wr, mb, mz, nu, mv))) dX5_cold_112 (by decide) (cel_ms G _) (2 + ja) rfl (by omega) (by decide) u_ms 113 rfl ?_
          refine v_iload dX5_cold_113 0 rfl 115 rfl ?_
          refine v_bipush dX5_cold_115 20 rfl 117 rfl ?_
          refine v_icmp_le dX5_cold_117 129 (by decide) 120 rfl (fun c5 => absurd c5 (by decide)) (fun c5 => ?_)
          refine v_aload_n dX5_cold_120 2 rfl 121 rfl ?_
          refine v_ldc dX5_cold_121 (-1000000004) qw_948 123 rfl ?_
          refine v_callV (c_X5_finds l (k := 3) (by decide) (-1000000004) (by decide)) kal_X5_finds rfl dX5_cold_123 qw_756 qw_758 qw_15 rfl (by decide) (cel_mod G _) (by decide) [] (Nat.le_of_ble_eq_true rfl) rfl rfl 126 rfl ?_
          refine v_goto dX5_cold_126 131 (by decide) ?_
          exact v_iret dX5_cold_131 (by simp only [qCold, c1, c2, c3, eja, ejb, hF, Bool.and_self, Bool.and_true, Bool.true_and, Bool.and_false, Bool.false_and, if_true, if_false, Bool.false_eq_true, ↓reduceIte] <;> first | (simp [mFind, xs, xa, fnd0, fnd3, eja, ejb, hF]; done) | (simp only [kS_upd, fa_upd_same]; simp [mFind, xs, xa, fnd0, fnd3, lastA, kS_s, eja, ejb, hF]; done) | (rw [kS_upd, fa_upd_same rfl]; simp [mFind, xs, xa, fnd0, fnd3, lastA, kS_s, eja, ejb, hF])) (by simp only [qCold, c1, c2, c3, eja, ejb, hF, Bool.and_self, Bool.and_true, Bool.true_and, Bool.and_false, Bool.false_and, if_true, if_false, Bool.false_eq_true, ↓reduceIte] <;> first | (simp [mFind, xs, xa, fnd0, fnd3, eja, ejb, hF]; done) | (simp only [kS_upd, fa_upd_same]; simp [mFind, xs, xa, fnd0, fnd3, lastA, kS_s, eja, ejb, hF]; done) | (rw [kS_upd, fa_upd_same rfl]; simp [mFind, xs, xa, fnd0, fnd3, lastA, kS_s, eja, ejb, hF]))
      · skip
        refine v_aload_n dX5_cold_26 0 rfl 27 rfl ?_
        refine v_ldc dX5_cold_27 (-1000000001) qw_755 29 rfl ?_
        refine v_callV (c_X5_finds l (k := 0) (by decide) (-1000000001) (by decide)) kal_X5_finds rfl dX5_cold_29 qw_756 qw_758 qw_15 rfl (by decide) (cel_mod G _) (by decide) [] (Nat.le_of_ble_eq_true rfl) rfl rfl 32 rfl ?_
        exact v_iret dX5_cold_32 (by simp only [qCold, c1, c2, c3, eja, ejb, Bool.and_self, Bool.and_true, Bool.true_and, Bool.and_false, Bool.false_and, if_true, if_false, Bool.false_eq_true, ↓reduceIte] <;> first | (simp [mFind, xs, xa, fnd0, fnd3, eja, ejb]; done) | (simp only [kS_upd, fa_upd_same]; simp [mFind, xs, xa, fnd0, fnd3, lastA, kS_s, eja, ejb]; done) | (rw [kS_upd, fa_upd_same rfl]; simp [mFind, xs, xa, fnd0, fnd3, lastA, kS_s, eja, ejb])) (by simp only [qCold, c1, c2, c3, eja, ejb, Bool.and_self, Bool.and_true, Bool.true_and, Bool.and_false, Bool.false_and, if_true, if_false, Bool.false_eq_true, ↓reduceIte] <;> first | (simp [mFind, xs, xa, fnd0, fnd3, eja, ejb]; done) | (simp only [kS_upd, fa_upd_same]; simp [mFind, xs, xa, fnd0, fnd3, lastA, kS_s, eja, ejb]; done) | (rw [kS_upd, fa_upd_same rfl]; simp [mFind, xs, xa, fnd0, fnd3, lastA, kS_s, eja, ejb]))
set_option maxHeartbeats 1000000 in
set_option maxRecDepth 4000 in
theorem c_X5_bears (l : Launch) {G : Gl} {K : CS} {M : MS} {nE : Nat} (hn : M.1 1 = nI nE) (hn8 : nE ≤ 8) {t0 : Nat} (hm : M.1 0 = nI t0) (hmo : t0 < 2 ^ 20) (a b c : Int32) : Ct l G yX5_bears cX5_bears 7 (some .int) 7 157 [.ref (ga G (93)), .int a, .int b, .int c] (K, M) (some (.int (qBears M nE t0 a b c).1)) (K, (qBears M nE t0 a b c).2) := by
  obtain ⟨ms, mk, mo, ma, mf, ik, mt, td, fr, tt, vl, wr, mb, mz, nu, mv⟩ := M
  dsimp only at hn hm
  refine Ct.of (own := RX5) (by decide) rfl (Nat.le_of_ble_eq_true rfl) rfl (fun X => ?_)
  refine v_aload_n dX5_bears_0 0 rfl 1 rfl ?_
  refine v_iload_n dX5_bears_1 1 rfl 2 rfl ?_
  refine v_callV (c_X5_isEwe l hn hn8 a) kal_X5_isEwe rfl dX5_bears_2 qw_805 qw_807 qw_21 rfl (by decide) (cel_mod G _) (by decide) [] (Nat.le_of_ble_eq_true rfl) rfl rfl 5 rfl ?_
  refine v_ifb_eq dX5_bears_5 32 (by decide) 8 rfl (fun c1 => ?_) (fun c1 => ?_)
  · skip
    refine v_aload_n dX5_bears_32 0 rfl 33 rfl ?_
    refine v_ldc dX5_bears_33 (-1000000001) qw_755 35 rfl ?_
    refine v_callV (c_X5_finds l (k := 0) (by decide) (-1000000001) (by decide)) kal_X5_finds rfl dX5_bears_35 qw_756 qw_758 qw_15 rfl (by decide) (cel_mod G _) (by decide) [] (Nat.le_of_ble_eq_true rfl) rfl rfl 38 rfl ?_
    exact v_iret dX5_bears_38 (by simp only [qBears, c1, Bool.and_self, Bool.and_true, Bool.true_and, Bool.and_false, Bool.false_and, if_true, if_false, Bool.false_eq_true, ↓reduceIte] <;> first | (simp [mFind, xs, xa, fnd0, fnd3, true_and]; done) | (simp only [kS_upd, fa_upd_same]; simp [mFind, xs, xa, fnd0, fnd3, lastA, kS_s, true_and]; done) | (rw [kS_upd, fa_upd_same rfl]; simp [mFind, xs, xa, fnd0, fnd3, lastA, kS_s, true_and])) (by simp only [qBears, c1, Bool.and_self, Bool.and_true, Bool.true_and, Bool.and_false, Bool.false_and, if_true, if_false, Bool.false_eq_true, ↓reduceIte] <;> first | (simp [mFind, xs, xa, fnd0, fnd3, true_and]; done) | (simp only [kS_upd, fa_upd_same]; simp [mFind, xs, xa, fnd0, fnd3, lastA, kS_s, true_and]; done) | (rw [kS_upd, fa_upd_same rfl]; simp [mFind, xs, xa, fnd0, fnd3, lastA, kS_s, true_and]))
  · skip
    obtain ⟨ja, h2ja, rfl⟩ := inE_ix c1
    have eja : (nI ja).toNatClampNeg = ja := nI_clamp (by omega)
    refine v_iload_n dX5_bears_8 2 rfl 9 rfl ?_
    refine v_i2l dX5_bears_9 10 rfl ?_
    refine v_lconst dX5_bears_10 0 rfl 11 rfl ?_
    refine v_ldc2 dX5_bears_11 60 qw_898 14 rfl ?_
    refine v_callS (c_X5_in l (b : Int32).toInt64 0 60 (z := (b : Int32).toInt) (lo := 0) (hi := 60) (i2l_i _) rfl rfl) kal_X5_in rfl dX5_bears_14 qw_743 qw_744 (by decide) [] (Nat.le_of_ble_eq_true rfl) rfl rfl 17 rfl ?_
    refine v_topi (b2 (inb 0 60 b)) rfl ?_
    refine v_ifb_eq dX5_bears_17 32 (by decide) 20 rfl (fun c2 => ?_) (fun c2 => ?_)
    · skip
      refine v_aload_n dX5_bears_32 0 rfl 33 rfl ?_
      refine v_ldc dX5_bears_33 (-1000000001) qw_755 35 rfl ?_
      refine v_callV (c_X5_finds l (k := 0) (by decide) (-1000000001) (by decide)) kal_X5_finds rfl dX5_bears_35 qw_756 qw_758 qw_15 rfl (by decide) (cel_mod G _) (by decide) [] (Nat.le_of_ble_eq_true rfl) rfl rfl 38 rfl ?_
      exact v_iret dX5_bears_38 (by simp only [qBears, c1, c2, eja, Bool.and_self, Bool.and_true, Bool.true_and, Bool.and_false, Bool.false_and, if_true, if_false, Bool.false_eq_true, ↓reduceIte] <;> first | (simp [mFind, xs, xa, fnd0, fnd3, eja]; done) | (simp only [kS_upd, fa_upd_same]; simp [mFind, xs, xa, fnd0, fnd3, lastA, kS_s, eja]; done) | (rw [kS_upd, fa_upd_same rfl]; simp [mFind, xs, xa, fnd0, fnd3, lastA, kS_s, eja])) (by simp only [qBears, c1, c2, eja, Bool.and_self, Bool.and_true, Bool.true_and, Bool.and_false, Bool.false_and, if_true, if_false, Bool.false_eq_true, ↓reduceIte] <;> first | (simp [mFind, xs, xa, fnd0, fnd3, eja]; done) | (simp only [kS_upd, fa_upd_same]; simp [mFind, xs, xa, fnd0, fnd3, lastA, kS_s, eja]; done) | (rw [kS_upd, fa_upd_same rfl]; simp [mFind, xs, xa, fnd0, fnd3, lastA, kS_s, eja]))
    · skip
      obtain ⟨jb, h1jb, h2jb, rfl⟩ := inb_ix (lo := 0) (hi := 60) c2
      have ejb : (nI jb).toNatClampNeg = jb := nI_clamp (by omega)
      refine v_iload_n dX5_bears_20 3 rfl 21 rfl ?_
      refine v_i2l dX5_bears_21 22 rfl ?_
      refine v_lconst dX5_bears_22 0 rfl 23 rfl ?_
      refine v_ldc2 dX5_bears_23 1188 qw_972 26 rfl ?_
      refine v_callS (c_X5_in l (c : Int32).toInt64 0 1188 (z := (c : Int32).toInt) (lo := 0) (hi := 1188) (i2l_i _) rfl rfl) kal_X5_in rfl dX5_bears_26 qw_743 qw_744 (by decide) [] (Nat.le_of_ble_eq_true rfl) rfl rfl 29 rfl ?_
      refine v_topi (b2 (inb 0 1188 c)) rfl ?_
      refine v_ifb_ne dX5_bears_29 39 (by decide) 32 rfl (fun c3 => ?_) (fun c3 => ?_)
      · skip
        refine v_aload_n dX5_bears_39 0 rfl 40 rfl ?_
        refine v_iload_n dX5_bears_40 1 rfl 41 rfl ?_
        refine v_iconst dX5_bears_41 1 rfl 42 rfl ?_
        refine v_callV (c_X5_its l (e := ja) (k := 1) (by omega) (by omega)) kal_X5_its rfl dX5_bears_42 qw_810 qw_812 qw_22 rfl (by decide) (cel_mod G _) (by decide) [] (Nat.le_of_ble_eq_true rfl) rfl rfl 45 rfl ?_
        refine v_istore dX5_bears_45 (by decide) [(4, .int (ms (38 + 14 * ja + 1))), (0, .ref (ga G (93))), (1, .int (nI ja)), (2, .int (nI jb)), (3, .int c)] rfl 47 rfl ?_
        refine v_iconst dX5_bears_47 (-1) rfl 48 rfl ?_
        refine v_istore dX5_bears_48 (by decide) [(5, .int (-1)), (4, .int (ms (38 + 14 * ja + 1))), (0, .ref (ga G (93))), (1, .int (nI ja)), (2, .int (nI jb)), (3, .int c)] rfl 50 rfl ?_
        refine v_bipush dX5_bears_50 99 rfl 52 rfl ?_
        refine v_istore dX5_bears_52 (by decide) [(6, .int 99), (5, .int (-1)), (4, .int (ms (38 + 14 * ja + 1))), (0, .ref (ga G (93))), (1, .int (nI ja)), (2, .int (nI jb)), (3, .int c)] rfl 54 rfl ?_
        refine lp_mbears l hn hn8 hm hmo (ja := ja) (jb := jb) (by omega) (by omega) c (ms (38 + 14 * ja + 1)) (fun i hi hno hyes => ?_) (fun hno => ?_) 100 0 (by omega) (fun _ h => absurd h (Nat.not_lt_zero _))
        · skip
          have hF : fa_first (pBears ms nE t0 ja jb c) 100 = i := fa_first_eq (by omega) hno (fun _ => hyes)
          have hF2 : i < 100 := hi
          have hw9 : (99 - nI i : Int32).toInt = 99 - (i : Int) := dn_t (a := 99) i (by decide) (by omega)
          refine v_aload_n dX5_bears_104 2 rfl 105 rfl ?_
          refine v_get (i := 0) (ci := 5) (T := TX5) (C := RX5) (N := 16) (v := .ref (ga G (94))) dX5_bears_105 inB5 rfl qw_686 rfl (by decide) (by decide) (cel_mod G _) rfl 108 rfl ?_
          refine v_iload_n dX5_bears_108 3 rfl 109 rfl ?_
          refine v_iconst dX5_bears_109 1 rfl 110 rfl ?_
          refine v_callS (c_X5_spot l ja 1) kal_X5_spot rfl dX5_bears_110 qw_785 qw_786 (by decide) [.ref (ga G (94))] (Nat.le_of_ble_eq_true rfl) rfl rfl 113 rfl ?_
          refine v_iload dX5_bears_113 1 rfl 115 rfl ?_
          refine v_iast (w2 := (K, (upd (kS ms (38 + 14 * ja + 1) (fun i => 99 - nI i) (i + 1)) (38 + 14 * ja + 1) (ms (38 + 14 * ja + 1)), mk, mo, (kS ms (38 + 14 * ja + 1) (fun i => 99 - nI i) (i + 1)), mf, ik, mt, td, fr, tt, vl, wr, mb, mz, nu, mv))) dX5_bears_115 (by decide) (cel_ms G _) (38 + 14 * ja + 1) rfl (by omega) (by decide) u_ms 116 rfl ?_
          refine v_iload dX5_bears_116 0 rfl 118 rfl ?_
          refine v_if_ge dX5_bears_118 130 (by decide) 121 rfl (fun c4 => ?_) (fun c4 => absurd c4 (fun q => by have h9 := (show ¬ (0 : Int32).toInt ≤ (99 - nI i : Int32).toInt from fun z => q ((Int32.le_iff_toInt_le).mpr z)); have e9 : (0 : Int32).toInt = 0 := rfl; omega))
          refine v_iload dX5_bears_130 0 rfl 132 rfl ?_
          exact v_iret dX5_bears_132 (by simp only [qBears, c1, c2, c3, eja, ejb, hF, hF2, Bool.and_self, Bool.and_true, Bool.true_and, Bool.and_false, Bool.false_and, if_true, if_false, Bool.false_eq_true, ↓reduceIte] <;> first | (simp [mFind, xs, xa, fnd0, fnd3, eja, ejb, hF, hF2]; done) | (simp only [kS_upd, fa_upd_same]; simp [mFind, xs, xa, fnd0, fnd3, lastA, kS_s, eja, ejb, hF, hF2]; done) | (rw [kS_upd, fa_upd_same rfl]; simp [mFind, xs, xa, fnd0, fnd3, lastA, kS_s, eja, ejb, hF, hF2])) (by simp only [qBears, c1, c2, c3, eja, ejb, hF, hF2, Bool.and_self, Bool.and_true, Bool.true_and, Bool.and_false, Bool.false_and, if_true, if_false, Bool.false_eq_true, ↓reduceIte] <;> first | (simp [mFind, xs, xa, fnd0, fnd3, eja, ejb, hF, hF2]; done) | (simp only [kS_upd, fa_upd_same]; simp [mFind, xs, xa, fnd0, fnd3, lastA, kS_s, eja, ejb, hF, hF2]; done) | (rw [kS_upd, fa_upd_same rfl]; simp [mFind, xs, xa, fnd0, fnd3, lastA, kS_s, eja, ejb, hF, hF2]))
        · skip
          have hF : fa_first (pBears ms nE t0 ja jb c) 100 = 100 := fa_first_eq (Nat.le_refl _) hno (fun h => absurd h (Nat.lt_irrefl _))
          refine v_aload_n dX5_bears_104 2 rfl 105 rfl ?_
          refine v_get (i := 0) (ci := 5) (T := TX5) (C := RX5) (N := 16) (v := .ref (ga G (94))) dX5_bears_105 inB5 rfl qw_686 rfl (by decide) (by decide) (cel_mod G _) rfl 108 rfl ?_
          refine v_iload_n dX5_bears_108 3 rfl 109 rfl ?_
          refine v_iconst dX5_bears_109 1 rfl 110 rfl ?_
          refine v_callS (c_X5_spot l ja 1) kal_X5_spot rfl dX5_bears_110 qw_785 qw_786 (by decide) [.ref (ga G (94))] (Nat.le_of_ble_eq_true rfl) rfl rfl 113 rfl ?_
          refine v_iload dX5_bears_113 1 rfl 115 rfl ?_
          refine v_iast (w2 := (K, (upd (kS ms (38 + 14 * ja + 1) (fun i => 99 - nI i) 100) (38 + 14 * ja + 1) (ms (38 + 14 * ja + 1)), mk, mo, (lastA ma (fun i => kS ms (38 + 14 * ja + 1) (fun i => 99 - nI i) (i + 1)) 100), mf, ik, mt, td, fr, tt, vl, wr, mb, mz, nu, mv))) dX5_bears_115 (by decide) (cel_ms G _) (38 + 14 * ja + 1) rfl (by omega) (by decide) u_ms 116 rfl ?_
          refine v_iload dX5_bears_116 0 rfl 118 rfl ?_
          refine v_if_ge dX5_bears_118 130 (by decide) 121 rfl (fun c5 => absurd c5 (by decide)) (fun c5 => ?_)
          refine v_aload_n dX5_bears_121 2 rfl 122 rfl ?_
          refine v_ldc dX5_bears_122 (-1000000004) qw_948 124 rfl ?_
          refine v_callV (c_X5_finds l (k := 3) (by decide) (-1000000004) (by decide)) kal_X5_finds rfl dX5_bears_124 qw_756 qw_758 qw_15 rfl (by decide) (cel_mod G _) (by decide) [] (Nat.le_of_ble_eq_true rfl) rfl rfl 127 rfl ?_
          refine v_goto dX5_bears_127 132 (by decide) ?_
          exact v_iret dX5_bears_132 (by simp only [qBears, c1, c2, c3, eja, ejb, hF, Bool.and_self, Bool.and_true, Bool.true_and, Bool.and_false, Bool.false_and, if_true, if_false, Bool.false_eq_true, ↓reduceIte] <;> first | (simp [mFind, xs, xa, fnd0, fnd3, eja, ejb, hF]; done) | (simp only [kS_upd, fa_upd_same]; simp [mFind, xs, xa, fnd0, fnd3, lastA, kS_s, eja, ejb, hF]; done) | (rw [kS_upd, fa_upd_same rfl]; simp [mFind, xs, xa, fnd0, fnd3, lastA, kS_s, eja, ejb, hF])) (by simp only [qBears, c1, c2, c3, eja, ejb, hF, Bool.and_self, Bool.and_true, Bool.true_and, Bool.and_false, Bool.false_and, if_true, if_false, Bool.false_eq_true, ↓reduceIte] <;> first | (simp [mFind, xs, xa, fnd0, fnd3, eja, ejb, hF]; done) | (simp only [kS_upd, fa_upd_same]; simp [mFind, xs, xa, fnd0, fnd3, lastA, kS_s, eja, ejb, hF]; done) | (rw [kS_upd, fa_upd_same rfl]; simp [mFind, xs, xa, fnd0, fnd3, lastA, kS_s, eja, ejb, hF]))
      · skip
        refine v_aload_n dX5_bears_32 0 rfl 33 rfl ?_
        refine v_ldc dX5_bears_33 (-1000000001) qw_755 35 rfl ?_
        refine v_callV (c_X5_finds l (k := 0) (by decide) (-1000000001) (by decide)) kal_X5_finds rfl dX5_bears_35 qw_756 qw_758 qw_15 rfl (by decide) (cel_mod G _) (by decide) [] (Nat.le_of_ble_eq_true rfl) rfl rfl 38 rfl ?_
        exact v_iret dX5_bears_38 (by simp only [qBears, c1, c2, c3, eja, ejb, Bool.and_self, Bool.and_true, Bool.true_and, Bool.and_false, Bool.false_and, if_true, if_false, Bool.false_eq_true, ↓reduceIte] <;> first | (simp [mFind, xs, xa, fnd0, fnd3, eja, ejb]; done) | (simp only [kS_upd, fa_upd_same]; simp [mFind, xs, xa, fnd0, fnd3, lastA, kS_s, eja, ejb]; done) | (rw [kS_upd, fa_upd_same rfl]; simp [mFind, xs, xa, fnd0, fnd3, lastA, kS_s, eja, ejb])) (by simp only [qBears, c1, c2, c3, eja, ejb, Bool.and_self, Bool.and_true, Bool.true_and, Bool.and_false, Bool.false_and, if_true, if_false, Bool.false_eq_true, ↓reduceIte] <;> first | (simp [mFind, xs, xa, fnd0, fnd3, eja, ejb]; done) | (simp only [kS_upd, fa_upd_same]; simp [mFind, xs, xa, fnd0, fnd3, lastA, kS_s, eja, ejb]; done) | (rw [kS_upd, fa_upd_same rfl]; simp [mFind, xs, xa, fnd0, fnd3, lastA, kS_s, eja, ejb]))
