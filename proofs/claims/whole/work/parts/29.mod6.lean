theorem sub31 {a b : Nat} (ha : a < 2 ^ 31) (hb : b < 2 ^ 31) : (nI a - nI b).toInt = (a : Int) - b := by
  have h1 := nI_toInt ha
  have h2 := nI_toInt hb
  rw [fb_subI (by rw [h1, h2]; omega) (by rw [h1, h2]; omega), h1, h2]
theorem lt0 {x : Int32} (h : x < 0) : x.toInt < 0 := Int32.lt_iff_toInt_lt.mp h
theorem cp_b {zf : Nat → Nat} {a b c d e : Int32} (h : b < 0) : cpOk zf a b c d e = false := decide_eq_false (fun q => by have := lt0 h; omega)
theorem cp_d {zf : Nat → Nat} {a b c d e : Int32} (h : d < 0) : cpOk zf a b c d e = false := decide_eq_false (fun q => by have := lt0 h; omega)
theorem cp_e {zf : Nat → Nat} {a b c d e : Int32} (h : e < 0) : cpOk zf a b c d e = false := decide_eq_false (fun q => by have := lt0 h; omega)
theorem cp_1 {zf : Nat → Nat} {ja jb je : Nat} {c d : Int32} (h4 : ja < 4) (hz : zf ja ≤ 40) (hb : jb < 2 ^ 31) (he : je < 2 ^ 31) (h : nI (zf ja) - nI jb < nI je) : cpOk zf (nI ja) (nI jb) c d (nI je) = false := by
  have h1 := Int32.lt_iff_toInt_lt.mp h
  rw [sub31 (by omega) hb, nI_toInt he] at h1
  refine decide_eq_false (fun q => ?_)
  rw [show ix (nI ja) = ja from nI_clamp (by omega), nI_toInt hb, nI_toInt he] at q
  omega
theorem cp_2 {zf : Nat → Nat} {jc jd je : Nat} {a b : Int32} (h4 : jc < 4) (hz : zf jc ≤ 40) (hb : jd < 2 ^ 31) (he : je < 2 ^ 31) (h : ¬ nI je ≤ nI (zf jc) - nI jd) : cpOk zf a b (nI jc) (nI jd) (nI je) = false := by
  have h1 : ¬ (nI je).toInt ≤ (nI (zf jc) - nI jd).toInt := fun q => h (Int32.le_iff_toInt_le.mpr q)
  rw [sub31 (by omega) hb, nI_toInt he] at h1
  refine decide_eq_false (fun q => ?_)
  rw [show ix (nI jc) = jc from nI_clamp (by omega), nI_toInt hb, nI_toInt he] at q
  omega
theorem cp_l1 {z jb je : Nat} (hz : z ≤ 40) (hb : jb < 2 ^ 31) (he : je < 2 ^ 31) (h : ¬ nI z - nI jb < nI je) : jb + je ≤ z := by
  have h1 : ¬ (nI z - nI jb).toInt < (nI je).toInt := fun q => h (Int32.lt_iff_toInt_lt.mpr q)
  rw [sub31 (by omega) hb, nI_toInt he] at h1
  omega
theorem cp_l2 {z jb je : Nat} (hz : z ≤ 40) (hb : jb < 2 ^ 31) (he : je < 2 ^ 31) (h : nI je ≤ nI z - nI jb) : jb + je ≤ z := by
  have h1 := Int32.le_iff_toInt_le.mp h
  rw [sub31 (by omega) hb, nI_toInt he] at h1
  omega
theorem cp_t {zf : Nat → Nat} {ja jb jc jd je : Nat} (h4 : ja < 4) (h5 : jc < 4) (ha : zf ja ≤ 40) (hc : zf jc ≤ 40) (h1 : jb + je ≤ zf ja) (h2 : jd + je ≤ zf jc) : cpOk zf (nI ja) (nI jb) (nI jc) (nI jd) (nI je) = true := by
  refine decide_eq_true ?_
  rw [show ix (nI ja) = ja from nI_clamp (by omega), show ix (nI jc) = jc from nI_clamp (by omega), nI_toInt (show jb < 2 ^ 31 by omega), nI_toInt (show jd < 2 ^ 31 by omega), nI_toInt (show je < 2 ^ 31 by omega)]
  omega
set_option maxHeartbeats 1000000 in
set_option maxRecDepth 4000 in
theorem lp_mcopy1 (l : Launch) {G : Gl} {X : VX} {ov : Option Value} {wF : WS} {K : CS} {ms : Nat → Int32} {mk : Nat → Int32} {mo : Nat → Int32} {ma : Nat → Int32} {mf : Nat → Int32} {ik : Int32} {mt : Nat → Int32} {td : Nat} {fr : Nat} {tt : Nat} {vl : Int32} {wr : Int32} {mb : Nat → Int32} {mz : Nat → Int32} {nu : Nat → Int64} {mv : Nat → Int64} {ja jb jc jd je : Nat} (h1 : ja < 4) (h2 : jc < 4) (h3 : jb + je ≤ 40) (h4 : jd + je ≤ 40) : ∀ n i : Nat, i + n = je → V l X 2 45 cX5_copy 7 RX5 (some .int) G ov wF (K, (ms, mk, mo, ma, mf, ik, mt, td, fr, tt, vl, wr, mb, mz, nu, (lCp mv nu 0 (40 * ja + jb) je))) 154 [(6, .int (nI je)), (0, .ref (ga G (93))), (1, .int (nI ja)), (2, .int (nI jb)), (3, .int (nI jc)), (4, .int (nI jd)), (5, .int (nI je))] [] → V l X 2 45 cX5_copy 7 RX5 (some .int) G ov wF (K, (ms, mk, mo, ma, mf, ik, mt, td, fr, tt, vl, wr, mb, mz, nu, (lCp mv nu 0 (40 * ja + jb) i))) 120 [(6, .int (nI i)), (0, .ref (ga G (93))), (1, .int (nI ja)), (2, .int (nI jb)), (3, .int (nI jc)), (4, .int (nI jd)), (5, .int (nI je))] [] := by
  intro n
  induction n with
  | zero =>
    intro i hin hk
    obtain rfl : je = i := by omega
    refine v_iload dX5_copy_120 0 rfl 122 rfl ?_
    refine v_iload dX5_copy_122 6 rfl 124 rfl ?_
    refine n_icmp_ge dX5_copy_124 je je rfl rfl (by omega) (by omega) 154 (by decide) 127 rfl (fun c1 => ?_) (fun c1 => absurd c1 (by omega))
    exact hk
  | succ n ih =>
    intro i hin hk
    refine v_iload dX5_copy_120 0 rfl 122 rfl ?_
    refine v_iload dX5_copy_122 6 rfl 124 rfl ?_
    refine n_icmp_ge dX5_copy_124 i je rfl rfl (by omega) (by omega) 154 (by decide) 127 rfl (fun c1 => absurd c1 (by omega)) (fun c1 => ?_)
    refine v_aload_n dX5_copy_127 1 rfl 128 rfl ?_
    refine v_get (i := 15) (ci := 5) (T := TX5) (C := RX5) (N := 16) (v := .ref (ga G (103))) dX5_copy_128 inB5 rfl qw_701 rfl (by decide) (by decide) (cel_mod G _) rfl 131 rfl ?_
    refine v_iload dX5_copy_131 0 rfl 133 rfl ?_
    refine v_aload_n dX5_copy_133 1 rfl 134 rfl ?_
    refine v_get (i := 14) (ci := 5) (T := TX5) (C := RX5) (N := 16) (v := .ref (ga G (102))) dX5_copy_134 inB5 rfl qw_700 rfl (by decide) (by decide) (cel_mod G _) rfl 137 rfl ?_
    refine v_bipush dX5_copy_137 40 rfl 139 rfl ?_
    refine v_iload_n dX5_copy_139 2 rfl 140 rfl ?_
    refine n_imul dX5_copy_140 40 ja rfl rfl 141 rfl ?_
    refine v_iload_n dX5_copy_141 3 rfl 142 rfl ?_
    refine n_iadd dX5_copy_142 (40 * ja) jb rfl rfl 143 rfl ?_
    refine v_iload dX5_copy_143 0 rfl 145 rfl ?_
    refine n_iadd dX5_copy_145 ((40 * ja) + jb) i rfl rfl 146 rfl ?_
    refine v_lald (a := nu) dX5_copy_146 (by decide) (cel_nu G _) (((40 * ja) + jb) + i) rfl (by omega) (by decide) 147 rfl ?_
    refine v_last (w2 := (K, (ms, mk, mo, ma, mf, ik, mt, td, fr, tt, vl, wr, mb, mz, nu, vp_updL (lCp mv nu 0 (40 * ja + jb) i) i (nu (((40 * ja) + jb) + i))))) dX5_copy_147 (by decide) (cel_mv G _) i rfl (by omega) (by decide) u_mv 148 rfl ?_
    refine v_iinc dX5_copy_148 0 rfl (nI (i + 1)) (nI_1 _) (by decide) [(6, .int (nI (i + 1))), (0, .ref (ga G (93))), (1, .int (nI ja)), (2, .int (nI jb)), (3, .int (nI jc)), (4, .int (nI jd)), (5, .int (nI je))] rfl 151 rfl ?_
    refine v_goto dX5_copy_151 120 (by decide) ?_
    have e91 : vp_updL (lCp mv nu 0 (40 * ja + jb) i) i (nu (((40 * ja) + jb) + i)) = (lCp mv nu 0 (40 * ja + jb) (i + 1)) := by show _ = vp_updL (lCp mv nu 0 (40 * ja + jb) i) (0 + i) _; rw [Nat.zero_add]
    refine v_w (w2 := (K, (ms, mk, mo, ma, mf, ik, mt, td, fr, tt, vl, wr, mb, mz, nu, (lCp mv nu 0 (40 * ja + jb) (i + 1))))) (by rw [e91]) ?_
    exact ih (i + 1) (by omega) hk
set_option maxHeartbeats 1000000 in
set_option maxRecDepth 4000 in
theorem lp_mcopy2 (l : Launch) {G : Gl} {X : VX} {ov : Option Value} {wF : WS} {K : CS} {ms : Nat → Int32} {mk : Nat → Int32} {mo : Nat → Int32} {ma : Nat → Int32} {mf : Nat → Int32} {ik : Int32} {mt : Nat → Int32} {td : Nat} {fr : Nat} {tt : Nat} {vl : Int32} {wr : Int32} {mb : Nat → Int32} {mz : Nat → Int32} {nu : Nat → Int64} {mv : Nat → Int64} {ja jb jc jd je : Nat} (h1 : ja < 4) (h2 : jc < 4) (h3 : jb + je ≤ 40) (h4 : jd + je ≤ 40) : ∀ n i : Nat, i + n = je → V l X 2 45 cX5_copy 7 RX5 (some .int) G ov wF (K, (ms, mk, mo, ma, mf, ik, mt, td, fr, tt, vl, wr, mb, mz, (lCp nu mv (40 * jc + jd) 0 je), mv)) 192 [(6, .int (nI je)), (0, .ref (ga G (93))), (1, .int (nI ja)), (2, .int (nI jb)), (3, .int (nI jc)), (4, .int (nI jd)), (5, .int (nI je))] [] → V l X 2 45 cX5_copy 7 RX5 (some .int) G ov wF (K, (ms, mk, mo, ma, mf, ik, mt, td, fr, tt, vl, wr, mb, mz, (lCp nu mv (40 * jc + jd) 0 i), mv)) 157 [(6, .int (nI i)), (0, .ref (ga G (93))), (1, .int (nI ja)), (2, .int (nI jb)), (3, .int (nI jc)), (4, .int (nI jd)), (5, .int (nI je))] [] := by
  intro n
  induction n with
  | zero =>
    intro i hin hk
    obtain rfl : je = i := by omega
    refine v_iload dX5_copy_157 0 rfl 159 rfl ?_
    refine v_iload dX5_copy_159 6 rfl 161 rfl ?_
    refine n_icmp_ge dX5_copy_161 je je rfl rfl (by omega) (by omega) 192 (by decide) 164 rfl (fun c1 => ?_) (fun c1 => absurd c1 (by omega))
    exact hk
  | succ n ih =>
    intro i hin hk
    refine v_iload dX5_copy_157 0 rfl 159 rfl ?_
    refine v_iload dX5_copy_159 6 rfl 161 rfl ?_
    refine n_icmp_ge dX5_copy_161 i je rfl rfl (by omega) (by omega) 192 (by decide) 164 rfl (fun c1 => absurd c1 (by omega)) (fun c1 => ?_)
    refine v_aload_n dX5_copy_164 1 rfl 165 rfl ?_
    refine v_get (i := 14) (ci := 5) (T := TX5) (C := RX5) (N := 16) (v := .ref (ga G (102))) dX5_copy_165 inB5 rfl qw_700 rfl (by decide) (by decide) (cel_mod G _) rfl 168 rfl ?_
    refine v_bipush dX5_copy_168 40 rfl 170 rfl ?_
    refine v_iload_n dX5_copy_170 4 rfl 171 rfl ?_
    refine n_imul dX5_copy_171 40 jc rfl rfl 172 rfl ?_
    refine v_iload dX5_copy_172 5 rfl 174 rfl ?_
    refine n_iadd dX5_copy_174 (40 * jc) jd rfl rfl 175 rfl ?_
    refine v_iload dX5_copy_175 0 rfl 177 rfl ?_
    refine n_iadd dX5_copy_177 ((40 * jc) + jd) i rfl rfl 178 rfl ?_
    refine v_aload_n dX5_copy_178 1 rfl 179 rfl ?_
    refine v_get (i := 15) (ci := 5) (T := TX5) (C := RX5) (N := 16) (v := .ref (ga G (103))) dX5_copy_179 inB5 rfl qw_701 rfl (by decide) (by decide) (cel_mod G _) rfl 182 rfl ?_
    refine v_iload dX5_copy_182 0 rfl 184 rfl ?_
    refine v_lald (a := mv) dX5_copy_184 (by decide) (cel_mv G _) i rfl (by omega) (by decide) 185 rfl ?_
    refine v_last (w2 := (K, (ms, mk, mo, ma, mf, ik, mt, td, fr, tt, vl, wr, mb, mz, vp_updL (lCp nu mv (40 * jc + jd) 0 i) (((40 * jc) + jd) + i) (mv i), mv))) dX5_copy_185 (by decide) (cel_nu G _) (((40 * jc) + jd) + i) rfl (by omega) (by decide) u_nu 186 rfl ?_
    refine v_iinc dX5_copy_186 0 rfl (nI (i + 1)) (nI_1 _) (by decide) [(6, .int (nI (i + 1))), (0, .ref (ga G (93))), (1, .int (nI ja)), (2, .int (nI jb)), (3, .int (nI jc)), (4, .int (nI jd)), (5, .int (nI je))] rfl 189 rfl ?_
    refine v_goto dX5_copy_189 157 (by decide) ?_
    have e91 : vp_updL (lCp nu mv (40 * jc + jd) 0 i) (((40 * jc) + jd) + i) (mv i) = (lCp nu mv (40 * jc + jd) 0 (i + 1)) := by show _ = vp_updL (lCp nu mv (40 * jc + jd) 0 i) _ (mv (0 + i)); rw [Nat.zero_add]
    refine v_w (w2 := (K, (ms, mk, mo, ma, mf, ik, mt, td, fr, tt, vl, wr, mb, mz, (lCp nu mv (40 * jc + jd) 0 (i + 1)), mv))) (by rw [e91]) ?_
    exact ih (i + 1) (by omega) hk
set_option maxHeartbeats 1000000 in
set_option maxRecDepth 4000 in
theorem c_X5_copy (l : Launch) {G : Gl} {K : CS} {M : MS} {zf : Nat → Nat} (hz : ∀ s, s < 4 → M.2.2.2.2.2.2.2.2.2.2.2.2.2.1 s = nI (zf s) ∧ zf s ≤ 40) (a b c d e : Int32) : Ct l G yX5_copy cX5_copy 7 (some .int) 2 45 [.ref (ga G (93)), .int a, .int b, .int c, .int d, .int e] (K, M) (some (.int (qCopy M zf a b c d e).1)) (K, (qCopy M zf a b c d e).2) := by
  obtain ⟨ms, mk, mo, ma, mf, ik, mt, td, fr, tt, vl, wr, mb, mz, nu, mv⟩ := M
  dsimp only at hz
  refine Ct.of (own := RX5) (by decide) rfl (Nat.le_of_ble_eq_true rfl) rfl (fun X => ?_)
  refine v_iload_n dX5_copy_0 1 rfl 1 rfl ?_
  refine v_callS (c_X5_isOne l a) kal_X5_isOne rfl dX5_copy_1 qw_1074 qw_1075 (by decide) [] (Nat.le_of_ble_eq_true rfl) rfl rfl 4 rfl ?_
  refine v_ifb_eq dX5_copy_4 14 (by decide) 7 rfl (fun c1 => ?_) (fun c1 => ?_)
  · skip
    refine v_aload_n dX5_copy_14 0 rfl 15 rfl ?_
    refine v_ldc dX5_copy_15 (-1000000001) qw_755 17 rfl ?_
    refine v_callV (c_X5_finds l (k := 0) (by decide) (-1000000001) (by decide)) kal_X5_finds rfl dX5_copy_17 qw_756 qw_758 qw_15 rfl (by decide) (cel_mod G _) (by decide) [] (Nat.le_of_ble_eq_true rfl) rfl rfl 20 rfl ?_
    exact v_iret dX5_copy_20 (by simp only [qCopy, c1, Bool.and_self, Bool.and_true, Bool.true_and, Bool.and_false, Bool.false_and, if_true, if_false, Bool.false_eq_true, ↓reduceIte] <;> simp [mFind, fnd0, fnd2, fnd5, true_and]) (by simp only [qCopy, c1, Bool.and_self, Bool.and_true, Bool.true_and, Bool.and_false, Bool.false_and, if_true, if_false, Bool.false_eq_true, ↓reduceIte] <;> simp [mFind, fnd0, fnd2, fnd5, true_and])
  · skip
    obtain ⟨ja, h1ja, h2ja, rfl⟩ := inb_ix (lo := 0) (hi := 3) c1
    have eja : (nI ja).toNatClampNeg = ja := nI_clamp (by omega)
    have hzja := hz ja (by omega)
    refine v_iload_n dX5_copy_7 3 rfl 8 rfl ?_
    refine v_callS (c_X5_isOne l c) kal_X5_isOne rfl dX5_copy_8 qw_1074 qw_1075 (by decide) [] (Nat.le_of_ble_eq_true rfl) rfl rfl 11 rfl ?_
    refine v_ifb_ne dX5_copy_11 21 (by decide) 14 rfl (fun c2 => ?_) (fun c2 => ?_)
    · skip
      obtain ⟨jc, h1jc, h2jc, rfl⟩ := inb_ix (lo := 0) (hi := 3) c2
      have ejc : (nI jc).toNatClampNeg = jc := nI_clamp (by omega)
      have hzjc := hz jc (by omega)
      refine v_aload_n dX5_copy_21 0 rfl 22 rfl ?_
      refine v_get (i := 12) (ci := 5) (T := TX5) (C := RX5) (N := 16) (v := .ref (ga G (100))) dX5_copy_22 inB5 rfl qw_698 rfl (by decide) (by decide) (cel_mod G _) rfl 25 rfl ?_
      refine v_iload_n dX5_copy_25 1 rfl 26 rfl ?_
      refine v_iald (a := mb) dX5_copy_26 (by decide) (cel_mb G _) ja rfl (by omega) (by decide) 27 rfl ?_
      refine v_if_eq dX5_copy_27 39 (by decide) 30 rfl (fun c3 => ?_) (fun c3 => ?_)
      · skip
        refine v_aload_n dX5_copy_39 0 rfl 40 rfl ?_
        refine v_ldcw dX5_copy_40 (-1000000006) qw_1086 43 rfl ?_
        refine v_callV (c_X5_finds l (k := 5) (by decide) (-1000000006) (by decide)) kal_X5_finds rfl dX5_copy_43 qw_756 qw_758 qw_15 rfl (by decide) (cel_mod G _) (by decide) [] (Nat.le_of_ble_eq_true rfl) rfl rfl 46 rfl ?_
        exact v_iret dX5_copy_46 (by simp only [qCopy, c1, c2, eja, ejc, Bool.and_self, Bool.and_true, Bool.true_and, Bool.and_false, Bool.false_and, if_true, if_false, Bool.false_eq_true, ↓reduceIte] <;> simp [mFind, fnd0, fnd2, fnd5, c3, eja, ejc]) (by simp only [qCopy, c1, c2, eja, ejc, Bool.and_self, Bool.and_true, Bool.true_and, Bool.and_false, Bool.false_and, if_true, if_false, Bool.false_eq_true, ↓reduceIte] <;> simp [mFind, fnd0, fnd2, fnd5, c3, eja, ejc])
      · skip
        refine v_aload_n dX5_copy_30 0 rfl 31 rfl ?_
        refine v_get (i := 12) (ci := 5) (T := TX5) (C := RX5) (N := 16) (v := .ref (ga G (100))) dX5_copy_31 inB5 rfl qw_698 rfl (by decide) (by decide) (cel_mod G _) rfl 34 rfl ?_
        refine v_iload_n dX5_copy_34 3 rfl 35 rfl ?_
        refine v_iald (a := mb) dX5_copy_35 (by decide) (cel_mb G _) jc rfl (by omega) (by decide) 36 rfl ?_
        refine v_if_ne dX5_copy_36 47 (by decide) 39 rfl (fun c4 => ?_) (fun c4 => ?_)
        · skip
          refine v_aload_n dX5_copy_47 0 rfl 48 rfl ?_
          refine v_get (i := 12) (ci := 5) (T := TX5) (C := RX5) (N := 16) (v := .ref (ga G (100))) dX5_copy_48 inB5 rfl qw_698 rfl (by decide) (by decide) (cel_mod G _) rfl 51 rfl ?_
          refine v_iload_n dX5_copy_51 1 rfl 52 rfl ?_
          refine v_iald (a := mb) dX5_copy_52 (by decide) (cel_mb G _) ja rfl (by omega) (by decide) 53 rfl ?_
          refine v_aload_n dX5_copy_53 0 rfl 54 rfl ?_
          refine v_get (i := 12) (ci := 5) (T := TX5) (C := RX5) (N := 16) (v := .ref (ga G (100))) dX5_copy_54 inB5 rfl qw_698 rfl (by decide) (by decide) (cel_mod G _) rfl 57 rfl ?_
          refine v_iload_n dX5_copy_57 3 rfl 58 rfl ?_
          refine v_iald (a := mb) dX5_copy_58 (by decide) (cel_mb G _) jc rfl (by omega) (by decide) 59 rfl ?_
          refine v_icmp_eq dX5_copy_59 69 (by decide) 62 rfl (fun c5 => ?_) (fun c5 => ?_)
          · skip
            refine v_iload_n dX5_copy_69 2 rfl 70 rfl ?_
            refine v_if_lt dX5_copy_70 110 (by decide) 73 rfl (fun c6 => ?_) (fun c6 => ?_)
            · skip
              have hok : cpOk zf (nI ja) b (nI jc) d e = false := by first | exact cp_b (by assumption) | exact cp_d (by assumption) | exact cp_e (by assumption) | exact cp_1 (by omega) hzja.2 (by assumption) (by assumption) (by assumption) | exact cp_2 (by omega) hzjc.2 (by assumption) (by assumption) (by assumption)
              refine v_aload_n dX5_copy_110 0 rfl 111 rfl ?_
              refine v_ldc dX5_copy_111 (-1000000001) qw_755 113 rfl ?_
              refine v_callV (c_X5_finds l (k := 0) (by decide) (-1000000001) (by decide)) kal_X5_finds rfl dX5_copy_113 qw_756 qw_758 qw_15 rfl (by decide) (cel_mod G _) (by decide) [] (Nat.le_of_ble_eq_true rfl) rfl rfl 116 rfl ?_
              exact v_iret dX5_copy_116 (by simp only [qCopy, c1, c2, eja, ejc, hok, Bool.and_self, Bool.and_true, Bool.true_and, Bool.and_false, Bool.false_and, if_true, if_false, Bool.false_eq_true, ↓reduceIte] <;> simp [mFind, fnd0, fnd2, fnd5, c3, Ne.symm c3, c4, Ne.symm c4, c5, c6, Int32.not_le.mpr c6, eja, ejc, hok]) (by simp only [qCopy, c1, c2, eja, ejc, hok, Bool.and_self, Bool.and_true, Bool.true_and, Bool.and_false, Bool.false_and, if_true, if_false, Bool.false_eq_true, ↓reduceIte] <;> simp [mFind, fnd0, fnd2, fnd5, c3, Ne.symm c3, c4, Ne.symm c4, c5, c6, Int32.not_le.mpr c6, eja, ejc, hok])
            · skip
              refine v_iload dX5_copy_73 4 rfl 75 rfl ?_
              refine v_if_lt dX5_copy_75 110 (by decide) 78 rfl (fun c7 => ?_) (fun c7 => ?_)
              · skip
                have hok : cpOk zf (nI ja) b (nI jc) d e = false := by first | exact cp_b (by assumption) | exact cp_d (by assumption) | exact cp_e (by assumption) | exact cp_1 (by omega) hzja.2 (by assumption) (by assumption) (by assumption) | exact cp_2 (by omega) hzjc.2 (by assumption) (by assumption) (by assumption)
                refine v_aload_n dX5_copy_110 0 rfl 111 rfl ?_
                refine v_ldc dX5_copy_111 (-1000000001) qw_755 113 rfl ?_
                refine v_callV (c_X5_finds l (k := 0) (by decide) (-1000000001) (by decide)) kal_X5_finds rfl dX5_copy_113 qw_756 qw_758 qw_15 rfl (by decide) (cel_mod G _) (by decide) [] (Nat.le_of_ble_eq_true rfl) rfl rfl 116 rfl ?_
                exact v_iret dX5_copy_116 (by simp only [qCopy, c1, c2, eja, ejc, hok, Bool.and_self, Bool.and_true, Bool.true_and, Bool.and_false, Bool.false_and, if_true, if_false, Bool.false_eq_true, ↓reduceIte] <;> simp [mFind, fnd0, fnd2, fnd5, c3, Ne.symm c3, c4, Ne.symm c4, c5, c6, Int32.not_lt.mp c6, c7, Int32.not_le.mpr c7, eja, ejc, hok]) (by simp only [qCopy, c1, c2, eja, ejc, hok, Bool.and_self, Bool.and_true, Bool.true_and, Bool.and_false, Bool.false_and, if_true, if_false, Bool.false_eq_true, ↓reduceIte] <;> simp [mFind, fnd0, fnd2, fnd5, c3, Ne.symm c3, c4, Ne.symm c4, c5, c6, Int32.not_lt.mp c6, c7, Int32.not_le.mpr c7, eja, ejc, hok])
              · skip
                refine v_iload dX5_copy_78 5 rfl 80 rfl ?_
                refine v_if_lt dX5_copy_80 110 (by decide) 83 rfl (fun c8 => ?_) (fun c8 => ?_)
                · skip
                  have hok : cpOk zf (nI ja) b (nI jc) d e = false := by first | exact cp_b (by assumption) | exact cp_d (by assumption) | exact cp_e (by assumption) | exact cp_1 (by omega) hzja.2 (by assumption) (by assumption) (by assumption) | exact cp_2 (by omega) hzjc.2 (by assumption) (by assumption) (by assumption)
                  refine v_aload_n dX5_copy_110 0 rfl 111 rfl ?_
                  refine v_ldc dX5_copy_111 (-1000000001) qw_755 113 rfl ?_
                  refine v_callV (c_X5_finds l (k := 0) (by decide) (-1000000001) (by decide)) kal_X5_finds rfl dX5_copy_113 qw_756 qw_758 qw_15 rfl (by decide) (cel_mod G _) (by decide) [] (Nat.le_of_ble_eq_true rfl) rfl rfl 116 rfl ?_
                  exact v_iret dX5_copy_116 (by simp only [qCopy, c1, c2, eja, ejc, hok, Bool.and_self, Bool.and_true, Bool.true_and, Bool.and_false, Bool.false_and, if_true, if_false, Bool.false_eq_true, ↓reduceIte] <;> simp [mFind, fnd0, fnd2, fnd5, c3, Ne.symm c3, c4, Ne.symm c4, c5, c6, Int32.not_lt.mp c6, c7, Int32.not_lt.mp c7, c8, Int32.not_le.mpr c8, eja, ejc, hok]) (by simp only [qCopy, c1, c2, eja, ejc, hok, Bool.and_self, Bool.and_true, Bool.true_and, Bool.and_false, Bool.false_and, if_true, if_false, Bool.false_eq_true, ↓reduceIte] <;> simp [mFind, fnd0, fnd2, fnd5, c3, Ne.symm c3, c4, Ne.symm c4, c5, c6, Int32.not_lt.mp c6, c7, Int32.not_lt.mp c7, c8, Int32.not_le.mpr c8, eja, ejc, hok])
                · skip
                  obtain ⟨jb, h31jb, rfl⟩ : ∃ j : Nat, j < 2 ^ 31 ∧ b = nI j := nI_of (by assumption)
                  have ejb : (nI jb).toNatClampNeg = jb := nI_clamp h31jb
                  obtain ⟨jd, h31jd, rfl⟩ : ∃ j : Nat, j < 2 ^ 31 ∧ d = nI j := nI_of (by assumption)
                  have ejd : (nI jd).toNatClampNeg = jd := nI_clamp h31jd
                  obtain ⟨je, h31je, rfl⟩ : ∃ j : Nat, j < 2 ^ 31 ∧ e = nI j := nI_of (by assumption)
                  have eje : (nI je).toNatClampNeg = je := nI_clamp h31je
                  refine v_iload dX5_copy_83 5 rfl 85 rfl ?_
                  refine v_aload_n dX5_copy_85 0 rfl 86 rfl ?_
                  refine v_get (i := 13) (ci := 5) (T := TX5) (C := RX5) (N := 16) (v := .ref (ga G (101))) dX5_copy_86 inB5 rfl qw_699 rfl (by decide) (by decide) (cel_mod G _) rfl 89 rfl ?_
                  refine v_iload_n dX5_copy_89 1 rfl 90 rfl ?_
                  refine v_iald (a := mz) dX5_copy_90 (by decide) (cel_mz G _) ja rfl (by omega) (by decide) 91 rfl ?_
                  refine v_topi (nI (zf ja)) hzja.1 ?_
                  refine v_iload_n dX5_copy_91 2 rfl 92 rfl ?_
                  refine v_isub dX5_copy_92 93 rfl ?_
                  refine v_icmp_gt dX5_copy_93 110 (by decide) 96 rfl (fun c9 => ?_) (fun c9 => ?_)
                  · skip
                    have hok : cpOk zf (nI ja) (nI jb) (nI jc) (nI jd) (nI je) = false := by first | exact cp_b (by assumption) | exact cp_d (by assumption) | exact cp_e (by assumption) | exact cp_1 (by omega) hzja.2 (by assumption) (by assumption) (by assumption) | exact cp_2 (by omega) hzjc.2 (by assumption) (by assumption) (by assumption)
                    refine v_aload_n dX5_copy_110 0 rfl 111 rfl ?_
                    refine v_ldc dX5_copy_111 (-1000000001) qw_755 113 rfl ?_
                    refine v_callV (c_X5_finds l (k := 0) (by decide) (-1000000001) (by decide)) kal_X5_finds rfl dX5_copy_113 qw_756 qw_758 qw_15 rfl (by decide) (cel_mod G _) (by decide) [] (Nat.le_of_ble_eq_true rfl) rfl rfl 116 rfl ?_
                    exact v_iret dX5_copy_116 (by simp only [qCopy, c1, c2, eja, ejc, ejb, ejd, eje, hok, Bool.and_self, Bool.and_true, Bool.true_and, Bool.and_false, Bool.false_and, if_true, if_false, Bool.false_eq_true, ↓reduceIte] <;> simp [mFind, fnd0, fnd2, fnd5, c3, Ne.symm c3, c4, Ne.symm c4, c5, c6, Int32.not_lt.mp c6, c7, Int32.not_lt.mp c7, c8, Int32.not_lt.mp c8, c9, Int32.not_le.mpr c9, eja, ejc, ejb, ejd, eje, hok]) (by simp only [qCopy, c1, c2, eja, ejc, ejb, ejd, eje, hok, Bool.and_self, Bool.and_true, Bool.true_and, Bool.and_false, Bool.false_and, if_true, if_false, Bool.false_eq_true, ↓reduceIte] <;> simp [mFind, fnd0, fnd2, fnd5, c3, Ne.symm c3, c4, Ne.symm c4, c5, c6, Int32.not_lt.mp c6, c7, Int32.not_lt.mp c7, c8, Int32.not_lt.mp c8, c9, Int32.not_le.mpr c9, eja, ejc, ejb, ejd, eje, hok])
                  · skip
                    refine v_iload dX5_copy_96 5 rfl 98 rfl ?_
                    refine v_aload_n dX5_copy_98 0 rfl 99 rfl ?_
                    refine v_get (i := 13) (ci := 5) (T := TX5) (C := RX5) (N := 16) (v := .ref (ga G (101))) dX5_copy_99 inB5 rfl qw_699 rfl (by decide) (by decide) (cel_mod G _) rfl 102 rfl ?_
                    refine v_iload_n dX5_copy_102 3 rfl 103 rfl ?_
                    refine v_iald (a := mz) dX5_copy_103 (by decide) (cel_mz G _) jc rfl (by omega) (by decide) 104 rfl ?_
                    refine v_topi (nI (zf jc)) hzjc.1 ?_
                    refine v_iload dX5_copy_104 4 rfl 106 rfl ?_
                    refine v_isub dX5_copy_106 107 rfl ?_
                    refine v_icmp_le dX5_copy_107 117 (by decide) 110 rfl (fun c10 => ?_) (fun c10 => ?_)
                    · skip
                      have hq1 : jb + je ≤ zf ja := cp_l1 hzja.2 (by assumption) (by assumption) (by assumption)
                      have hq2 : jd + je ≤ zf jc := cp_l2 hzjc.2 (by assumption) (by assumption) (by assumption)
                      have hok := cp_t (zf := zf) (show ja < 4 by omega) (show jc < 4 by omega) hzja.2 hzjc.2 hq1 hq2
                      refine v_iconst dX5_copy_117 0 rfl 118 rfl ?_
                      refine v_istore dX5_copy_118 (by decide) [(6, .int 0), (0, .ref (ga G (93))), (1, .int (nI ja)), (2, .int (nI jb)), (3, .int (nI jc)), (4, .int (nI jd)), (5, .int (nI je))] rfl 120 rfl ?_
                      refine lp_mcopy1 l (ja := ja) (jb := jb) (jc := jc) (jd := jd) (je := je) (by omega) (by omega) (by omega) (by omega) je 0 (by omega) ?_
                      refine v_iconst dX5_copy_154 0 rfl 155 rfl ?_
                      refine v_istore dX5_copy_155 (by decide) [(6, .int 0), (0, .ref (ga G (93))), (1, .int (nI ja)), (2, .int (nI jb)), (3, .int (nI jc)), (4, .int (nI jd)), (5, .int (nI je))] rfl 157 rfl ?_
                      refine lp_mcopy2 l (ja := ja) (jb := jb) (jc := jc) (jd := jd) (je := je) (mv := (lCp mv nu 0 (40 * ja + jb) je)) (by omega) (by omega) (by omega) (by omega) je 0 (by omega) ?_
                      refine v_iload dX5_copy_192 6 rfl 194 rfl ?_
                      exact v_iret dX5_copy_194 (by simp only [qCopy, c1, c2, eja, ejc, ejb, ejd, eje, hok, Bool.and_self, Bool.and_true, Bool.true_and, Bool.and_false, Bool.false_and, if_true, if_false, Bool.false_eq_true, ↓reduceIte] <;> simp [mFind, fnd0, fnd2, fnd5, c3, Ne.symm c3, c4, Ne.symm c4, c5, c6, Int32.not_lt.mp c6, c7, Int32.not_lt.mp c7, c8, Int32.not_lt.mp c8, c9, Int32.not_lt.mp c9, c10, Int32.not_lt.mpr c10, eja, ejc, ejb, ejd, eje, hok]) (by simp only [qCopy, c1, c2, eja, ejc, ejb, ejd, eje, hok, Bool.and_self, Bool.and_true, Bool.true_and, Bool.and_false, Bool.false_and, if_true, if_false, Bool.false_eq_true, ↓reduceIte] <;> simp [mFind, fnd0, fnd2, fnd5, c3, Ne.symm c3, c4, Ne.symm c4, c5, c6, Int32.not_lt.mp c6, c7, Int32.not_lt.mp c7, c8, Int32.not_lt.mp c8, c9, Int32.not_lt.mp c9, c10, Int32.not_lt.mpr c10, eja, ejc, ejb, ejd, eje, hok])
                    · skip
                      have hok : cpOk zf (nI ja) (nI jb) (nI jc) (nI jd) (nI je) = false := by first | exact cp_b (by assumption) | exact cp_d (by assumption) | exact cp_e (by assumption) | exact cp_1 (by omega) hzja.2 (by assumption) (by assumption) (by assumption) | exact cp_2 (by omega) hzjc.2 (by assumption) (by assumption) (by assumption)
                      refine v_aload_n dX5_copy_110 0 rfl 111 rfl ?_
                      refine v_ldc dX5_copy_111 (-1000000001) qw_755 113 rfl ?_
                      refine v_callV (c_X5_finds l (k := 0) (by decide) (-1000000001) (by decide)) kal_X5_finds rfl dX5_copy_113 qw_756 qw_758 qw_15 rfl (by decide) (cel_mod G _) (by decide) [] (Nat.le_of_ble_eq_true rfl) rfl rfl 116 rfl ?_
                      exact v_iret dX5_copy_116 (by simp only [qCopy, c1, c2, eja, ejc, ejb, ejd, eje, hok, Bool.and_self, Bool.and_true, Bool.true_and, Bool.and_false, Bool.false_and, if_true, if_false, Bool.false_eq_true, ↓reduceIte] <;> simp [mFind, fnd0, fnd2, fnd5, c3, Ne.symm c3, c4, Ne.symm c4, c5, c6, Int32.not_lt.mp c6, c7, Int32.not_lt.mp c7, c8, Int32.not_lt.mp c8, c9, Int32.not_lt.mp c9, c10, Int32.not_le.mp c10, eja, ejc, ejb, ejd, eje, hok]) (by simp only [qCopy, c1, c2, eja, ejc, ejb, ejd, eje, hok, Bool.and_self, Bool.and_true, Bool.true_and, Bool.and_false, Bool.false_and, if_true, if_false, Bool.false_eq_true, ↓reduceIte] <;> simp [mFind, fnd0, fnd2, fnd5, c3, Ne.symm c3, c4, Ne.symm c4, c5, c6, Int32.not_lt.mp c6, c7, Int32.not_lt.mp c7, c8, Int32.not_lt.mp c8, c9, Int32.not_lt.mp c9, c10, Int32.not_le.mp c10, eja, ejc, ejb, ejd, eje, hok])
          · skip
            refine v_aload_n dX5_copy_62 0 rfl 63 rfl ?_
            refine v_ldc dX5_copy_63 (-1000000003) qw_854 65 rfl ?_
            refine v_callV (c_X5_finds l (k := 2) (by decide) (-1000000003) (by decide)) kal_X5_finds rfl dX5_copy_65 qw_756 qw_758 qw_15 rfl (by decide) (cel_mod G _) (by decide) [] (Nat.le_of_ble_eq_true rfl) rfl rfl 68 rfl ?_
            exact v_iret dX5_copy_68 (by simp only [qCopy, c1, c2, eja, ejc, Bool.and_self, Bool.and_true, Bool.true_and, Bool.and_false, Bool.false_and, if_true, if_false, Bool.false_eq_true, ↓reduceIte] <;> simp [mFind, fnd0, fnd2, fnd5, c3, Ne.symm c3, c4, Ne.symm c4, c5, Ne.symm c5, eja, ejc]) (by simp only [qCopy, c1, c2, eja, ejc, Bool.and_self, Bool.and_true, Bool.true_and, Bool.and_false, Bool.false_and, if_true, if_false, Bool.false_eq_true, ↓reduceIte] <;> simp [mFind, fnd0, fnd2, fnd5, c3, Ne.symm c3, c4, Ne.symm c4, c5, Ne.symm c5, eja, ejc])
        · skip
          refine v_aload_n dX5_copy_39 0 rfl 40 rfl ?_
          refine v_ldcw dX5_copy_40 (-1000000006) qw_1086 43 rfl ?_
          refine v_callV (c_X5_finds l (k := 5) (by decide) (-1000000006) (by decide)) kal_X5_finds rfl dX5_copy_43 qw_756 qw_758 qw_15 rfl (by decide) (cel_mod G _) (by decide) [] (Nat.le_of_ble_eq_true rfl) rfl rfl 46 rfl ?_
          exact v_iret dX5_copy_46 (by simp only [qCopy, c1, c2, eja, ejc, Bool.and_self, Bool.and_true, Bool.true_and, Bool.and_false, Bool.false_and, if_true, if_false, Bool.false_eq_true, ↓reduceIte] <;> simp [mFind, fnd0, fnd2, fnd5, c3, Ne.symm c3, c4, eja, ejc]) (by simp only [qCopy, c1, c2, eja, ejc, Bool.and_self, Bool.and_true, Bool.true_and, Bool.and_false, Bool.false_and, if_true, if_false, Bool.false_eq_true, ↓reduceIte] <;> simp [mFind, fnd0, fnd2, fnd5, c3, Ne.symm c3, c4, eja, ejc])
    · skip
      refine v_aload_n dX5_copy_14 0 rfl 15 rfl ?_
      refine v_ldc dX5_copy_15 (-1000000001) qw_755 17 rfl ?_
      refine v_callV (c_X5_finds l (k := 0) (by decide) (-1000000001) (by decide)) kal_X5_finds rfl dX5_copy_17 qw_756 qw_758 qw_15 rfl (by decide) (cel_mod G _) (by decide) [] (Nat.le_of_ble_eq_true rfl) rfl rfl 20 rfl ?_
      exact v_iret dX5_copy_20 (by simp only [qCopy, c1, c2, eja, Bool.and_self, Bool.and_true, Bool.true_and, Bool.and_false, Bool.false_and, if_true, if_false, Bool.false_eq_true, ↓reduceIte] <;> simp [mFind, fnd0, fnd2, fnd5, eja]) (by simp only [qCopy, c1, c2, eja, Bool.and_self, Bool.and_true, Bool.true_and, Bool.and_false, Bool.false_and, if_true, if_false, Bool.false_eq_true, ↓reduceIte] <;> simp [mFind, fnd0, fnd2, fnd5, eja])
