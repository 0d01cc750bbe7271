theorem GX_pl {mt : Rw} {td : Nat} (htd : td ≤ 120) : ∀ (n i : Nat) (r : Tx × Rw), GX td r.1 r.1 → GX td r.1 (plX mt td n i r).2.1 := by
  intro n
  induction n with
  | zero => exact fun _ _ h => h
  | succ n ih =>
    intro i r h
    have h1 : GX td r.1 (itX mt td (ix (r.2 1)) (musX mt td true r.1) r.2).1 := GX_it htd (GX_mus htd h)
    have h2 := h1.trans (ih (i + 1) _ h1.self)
    rw [plX_s]
    generalize itX mt td (ix (r.2 1)) (musX mt td true r.1) r.2 = z at h1 h2 ⊢
    generalize plX mt td n (i + 1) z = y at h2 ⊢
    by_cases c1 : r.1.2.2.2 = 0
    · rw [if_pos c1]
      by_cases c2 : bA mt td r.1.1 = 59
      · rw [if_pos c2]
        exact h2
      · rw [if_neg c2]
        exact h
    · rw [if_neg c1]
      exact h
def qPr (M : MS) : Nat × Tx × Rw := plX M.2.2.2.2.2.2.1 M.2.2.2.2.2.2.2.1 121 1 (itX M.2.2.2.2.2.2.1 M.2.2.2.2.2.2.2.1 (ix (M.1 1)) (tokX M.2.2.2.2.2.2.1 M.2.2.2.2.2.2.2.1 (M.2.2.2.2.2.2.2.2.1, 0, M.2.2.2.2.2.2.2.2.2.2.1, 0)) M.1)
def qBad (M : MS) : Int32 × MS := (-1 - nI (qPr M).2.1.1, (M.1, M.2.1, M.1, M.2.2.2.1, M.2.2.2.2.1, M.2.2.2.2.2.1, M.2.2.2.2.2.2.1, 0, (qPr M).2.1.1, (qPr M).2.1.2.1, (qPr M).2.1.2.2.1, 1, M.2.2.2.2.2.2.2.2.2.2.2.2.1, M.2.2.2.2.2.2.2.2.2.2.2.2.2.1, M.2.2.2.2.2.2.2.2.2.2.2.2.2.2.1, M.2.2.2.2.2.2.2.2.2.2.2.2.2.2.2))
def qParish (M : MS) : Int32 × MS := if (qPr M).2.1.2.2.2 = 0 then (if M.2.2.2.2.2.2.2.1 ≤ (qPr M).2.1.1 then (nI (qPr M).1, ((qPr M).2.2, M.2.1, M.1, M.2.2.2.1, M.2.2.2.2.1, M.2.2.2.2.2.1, M.2.2.2.2.2.2.1, 0, (qPr M).2.1.1, (qPr M).2.1.2.1, (qPr M).2.1.2.2.1, 0, M.2.2.2.2.2.2.2.2.2.2.2.2.1, M.2.2.2.2.2.2.2.2.2.2.2.2.2.1, M.2.2.2.2.2.2.2.2.2.2.2.2.2.2.1, M.2.2.2.2.2.2.2.2.2.2.2.2.2.2.2)) else qBad M) else qBad M
set_option maxHeartbeats 1000000 in
set_option maxRecDepth 4000 in
theorem c_X5_parish (l : Launch) {G : Gl} {K : CS} {M : MS} (htd : M.2.2.2.2.2.2.2.1 ≤ 120) (hS : SZ M.1) : Ct l G yX5_parish cX5_parish 2 (some .int) 7 159 [.ref (ga G (93))] (K, M) (some (.int (qParish M).1)) (K, (qParish M).2) := by
  obtain ⟨ms, mk, mo, ma, mf, ik, mt, td, fr, tt, vl, wr, mb, mz, nu, mv⟩ := M
  dsimp only at htd hS
  have hx0 : XI (tokX mt td (fr, 0, vl, 0)) := XI_tok htd (Nat.zero_le _)
  have hg0 : GX td (tokX mt td (fr, 0, vl, 0)) (tokX mt td (fr, 0, vl, 0)) := ⟨⟨hx0, (GX_tok (mt := mt) (x := (fr, 0, vl, 0)) htd (Nat.zero_le _)).2.1, (GX_tok (mt := mt) (x := (fr, 0, vl, 0)) htd (Nat.zero_le _)).2.2.1⟩, Nat.le_refl _⟩
  refine Ct.of (own := RX5) (by decide) rfl (Nat.le_of_ble_eq_true rfl) rfl (fun X => ?_)
  refine v_aload_n dX5_parish_0 0 rfl 1 rfl ?_
  refine v_callV (c_X5_saves l ) kal_X5_saves rfl dX5_parish_1 qw_995 qw_997 qw_39 rfl (by decide) (cel_mod G _) (by decide) [] (Nat.le_of_ble_eq_true rfl) rfl rfl 4 rfl ?_
  refine v_aload_n dX5_parish_4 0 rfl 5 rfl ?_
  refine v_iconst dX5_parish_5 0 rfl 6 rfl ?_
  refine v_put (i := 11) (ci := 5) (T := TX5) (C := RX5) (N := 16) (ty := .boolean) (w2 := (K, (ms, mk, ms, ma, mf, ik, mt, td, fr, tt, vl, 0, mb, mz, nu, mv))) dX5_parish_6 inB5 tyX5 tyX5_ok nmX5 rfl qw_697 rfl rfl rfl rfl rfl (by decide) (by decide) (cel_mod G _) (Nat.le_of_ble_eq_true rfl) u_m 9 rfl ?_
  refine v_aload_n dX5_parish_9 0 rfl 10 rfl ?_
  refine v_iconst dX5_parish_10 0 rfl 11 rfl ?_
  refine v_put (i := 9) (ci := 5) (T := TX5) (C := RX5) (N := 16) (ty := .int) (w2 := (K, (ms, mk, ms, ma, mf, ik, mt, td, fr, 0, vl, 0, mb, mz, nu, mv))) dX5_parish_11 inB5 tyX5 tyX5_ok nmX5 rfl qw_695 rfl rfl rfl rfl rfl (by decide) (by decide) (cel_mod G _) (Nat.le_of_ble_eq_true rfl) u_m 14 rfl ?_
  refine v_aload_n dX5_parish_14 0 rfl 15 rfl ?_
  refine v_callV (c_X5_token l htd (by omega)) kal_X5_token rfl dX5_parish_15 qw_999 qw_1001 qw_40 rfl (by decide) (cel_mod G _) (by decide) [] (Nat.le_of_ble_eq_true rfl) rfl rfl 18 rfl ?_
  refine v_iconst dX5_parish_18 1 rfl 19 rfl ?_
  refine v_istore_n dX5_parish_19 1 rfl (by decide) [(1, .int 1), (0, .ref (ga G (93)))] rfl 20 rfl ?_
  refine v_aload_n dX5_parish_20 1 rfl 21 rfl ?_
  refine v_callV (c_X5_item l htd hx0.1 hx0.2 (nE := ix (ms 1)) hS.1 hS.2) kal_X5_item rfl dX5_parish_21 qw_1017 qw_1019 qw_42 rfl (by decide) (cel_mod G _) (by decide) [] (Nat.le_of_ble_eq_true rfl) rfl rfl 24 rfl ?_
  have hG0 : GX td (itX mt td (ix (ms 1)) (tokX mt td (fr, 0, vl, 0)) ms).1 (itX mt td (ix (ms 1)) (tokX mt td (fr, 0, vl, 0)) ms).1 := (GX_it (s := ms) (n := ix (ms 1)) htd hg0).self
  have hS0 : SZ (itX mt td (ix (ms 1)) (tokX mt td (fr, 0, vl, 0)) ms).2 := SZ_it hS
  generalize hr0 : itX mt td (ix (ms 1)) ((tokX mt td (fr, 0, vl, 0)).1, (tokX mt td (fr, 0, vl, 0)).2.1, vl, 0) ms = r0
  have gr0 : itX mt td (ix (ms 1)) (tokX mt td (fr, 0, vl, 0)) ms = r0 := hr0
  rw [gr0] at hG0 hS0
  obtain ⟨N9, hN9⟩ : ∃ y : Nat, y = 121 := ⟨_, rfl⟩
  refine lp_mparish l (fr := fr) (tt := tt) (vl := vl) (wr := wr) (ms := ms) htd N9 1 r0 (by omega) hG0 hS0 ?_
  have hfp := (GX_pl (mt := mt) htd N9 1 r0 hG0).1.1.1
  generalize hp : plX mt td N9 1 r0 = p at hfp ⊢
  have hq : qPr (ms, mk, mo, ma, mf, ik, mt, td, fr, tt, vl, wr, mb, mz, nu, mv) = p := by unfold qPr; dsimp only; rw [gr0, ← hN9]; exact hp
  refine v_aload_n dX5_parish_59 1 rfl 60 rfl ?_
  refine v_aload_n dX5_parish_60 1 rfl 61 rfl ?_
  refine v_get (i := 11) (ci := 5) (T := TX5) (C := RX5) (N := 16) (v := .int p.2.1.2.2.2) dX5_parish_61 inB5 rfl qw_697 rfl (by decide) (by decide) (cel_mod G _) rfl 64 rfl ?_
  refine v_if_ne dX5_parish_64 78 (by decide) 67 rfl (fun c1 => ?_) (fun c1 => ?_)
  · skip
    refine v_iconst dX5_parish_78 1 rfl 79 rfl ?_
    refine v_goto dX5_parish_79 83 (by decide) ?_
    refine v_put (i := 11) (ci := 5) (T := TX5) (C := RX5) (N := 16) (ty := .boolean) (w2 := (K, (p.2.2, mk, ms, ma, mf, ik, mt, td, p.2.1.1, p.2.1.2.1, p.2.1.2.2.1, 1, mb, mz, nu, mv))) dX5_parish_83 inB5 tyX5 tyX5_ok nmX5 rfl qw_697 rfl rfl rfl rfl rfl (by decide) (by decide) (cel_mod G _) (Nat.le_of_ble_eq_true rfl) u_m 86 rfl ?_
    refine v_aload_n dX5_parish_86 1 rfl 87 rfl ?_
    refine v_get (i := 11) (ci := 5) (T := TX5) (C := RX5) (N := 16) (v := .int 1) dX5_parish_87 inB5 rfl qw_697 rfl (by decide) (by decide) (cel_mod G _) rfl 90 rfl ?_
    refine v_if_eq dX5_parish_90 97 (by decide) 93 rfl (fun c2 => absurd c2 (by decide)) (fun c2 => ?_)
    refine v_aload_n dX5_parish_93 1 rfl 94 rfl ?_
    refine v_callV (c_X5_putsBack l ) kal_X5_putsBack rfl dX5_parish_94 qw_1066 qw_1068 qw_51 rfl (by decide) (cel_mod G _) (by decide) [] (Nat.le_of_ble_eq_true rfl) rfl rfl 97 rfl ?_
    refine v_aload_n dX5_parish_97 1 rfl 98 rfl ?_
    refine v_iconst dX5_parish_98 0 rfl 99 rfl ?_
    refine v_put (i := 7) (ci := 5) (T := TX5) (C := RX5) (N := 16) (ty := .int) (w2 := (K, (ms, mk, ms, ma, mf, ik, mt, 0, p.2.1.1, p.2.1.2.1, p.2.1.2.2.1, 1, mb, mz, nu, mv))) dX5_parish_99 inB5 tyX5 tyX5_ok nmX5 rfl qw_693 rfl rfl rfl rfl rfl (by decide) (by decide) (cel_mod G _) (Nat.le_of_ble_eq_true rfl) u_m 102 rfl ?_
    refine v_aload_n dX5_parish_102 1 rfl 103 rfl ?_
    refine v_get (i := 11) (ci := 5) (T := TX5) (C := RX5) (N := 16) (v := .int 1) dX5_parish_103 inB5 rfl qw_697 rfl (by decide) (by decide) (cel_mod G _) rfl 106 rfl ?_
    refine v_if_eq dX5_parish_106 118 (by decide) 109 rfl (fun c3 => absurd c3 (by decide)) (fun c3 => ?_)
    refine v_iconst dX5_parish_109 (-1) rfl 110 rfl ?_
    refine v_aload_n dX5_parish_110 1 rfl 111 rfl ?_
    refine v_get (i := 8) (ci := 5) (T := TX5) (C := RX5) (N := 16) (v := .int (nI p.2.1.1)) dX5_parish_111 inB5 rfl qw_694 rfl (by decide) (by decide) (cel_mod G _) rfl 114 rfl ?_
    refine v_isub dX5_parish_114 115 rfl ?_
    refine v_goto dX5_parish_115 119 (by decide) ?_
    exact v_iret dX5_parish_119 (by simp only [qParish, qBad, c1, Ne.symm c1, hq, if_true, if_false, ↓reduceIte] <;> with_reducible rfl) (by simp only [qParish, qBad, c1, Ne.symm c1, hq, if_true, if_false, ↓reduceIte] <;> with_reducible rfl)
  · skip
    refine v_aload_n dX5_parish_67 1 rfl 68 rfl ?_
    refine v_get (i := 8) (ci := 5) (T := TX5) (C := RX5) (N := 16) (v := .int (nI p.2.1.1)) dX5_parish_68 inB5 rfl qw_694 rfl (by decide) (by decide) (cel_mod G _) rfl 71 rfl ?_
    refine v_aload_n dX5_parish_71 1 rfl 72 rfl ?_
    refine v_get (i := 7) (ci := 5) (T := TX5) (C := RX5) (N := 16) (v := .int (nI td)) dX5_parish_72 inB5 rfl qw_693 rfl (by decide) (by decide) (cel_mod G _) rfl 75 rfl ?_
    refine n_icmp_ge dX5_parish_75 p.2.1.1 td rfl rfl (by omega) (by omega) 82 (by decide) 78 rfl (fun c4 => ?_) (fun c4 => ?_)
    · skip
      refine v_iconst dX5_parish_82 0 rfl 83 rfl ?_
      refine v_put (i := 11) (ci := 5) (T := TX5) (C := RX5) (N := 16) (ty := .boolean) (w2 := (K, (p.2.2, mk, ms, ma, mf, ik, mt, td, p.2.1.1, p.2.1.2.1, p.2.1.2.2.1, 0, mb, mz, nu, mv))) dX5_parish_83 inB5 tyX5 tyX5_ok nmX5 rfl qw_697 rfl rfl rfl rfl rfl (by decide) (by decide) (cel_mod G _) (Nat.le_of_ble_eq_true rfl) u_m 86 rfl ?_
      refine v_aload_n dX5_parish_86 1 rfl 87 rfl ?_
      refine v_get (i := 11) (ci := 5) (T := TX5) (C := RX5) (N := 16) (v := .int 0) dX5_parish_87 inB5 rfl qw_697 rfl (by decide) (by decide) (cel_mod G _) rfl 90 rfl ?_
      refine v_if_eq dX5_parish_90 97 (by decide) 93 rfl (fun c5 => ?_) (fun c5 => absurd c5 (by decide))
      refine v_aload_n dX5_parish_97 1 rfl 98 rfl ?_
      refine v_iconst dX5_parish_98 0 rfl 99 rfl ?_
      refine v_put (i := 7) (ci := 5) (T := TX5) (C := RX5) (N := 16) (ty := .int) (w2 := (K, (p.2.2, mk, ms, ma, mf, ik, mt, 0, p.2.1.1, p.2.1.2.1, p.2.1.2.2.1, 0, mb, mz, nu, mv))) dX5_parish_99 inB5 tyX5 tyX5_ok nmX5 rfl qw_693 rfl rfl rfl rfl rfl (by decide) (by decide) (cel_mod G _) (Nat.le_of_ble_eq_true rfl) u_m 102 rfl ?_
      refine v_aload_n dX5_parish_102 1 rfl 103 rfl ?_
      refine v_get (i := 11) (ci := 5) (T := TX5) (C := RX5) (N := 16) (v := .int 0) dX5_parish_103 inB5 rfl qw_697 rfl (by decide) (by decide) (cel_mod G _) rfl 106 rfl ?_
      refine v_if_eq dX5_parish_106 118 (by decide) 109 rfl (fun c6 => ?_) (fun c6 => absurd c6 (by decide))
      refine v_iload_n dX5_parish_118 0 rfl 119 rfl ?_
      exact v_iret dX5_parish_119 (by simp only [qParish, qBad, c1, c4, Nat.not_lt.mpr c4, hq, if_true, if_false, ↓reduceIte] <;> with_reducible rfl) (by simp only [qParish, qBad, c1, c4, Nat.not_lt.mpr c4, hq, if_true, if_false, ↓reduceIte] <;> with_reducible rfl)
    · skip
      refine v_iconst dX5_parish_78 1 rfl 79 rfl ?_
      refine v_goto dX5_parish_79 83 (by decide) ?_
      refine v_put (i := 11) (ci := 5) (T := TX5) (C := RX5) (N := 16) (ty := .boolean) (w2 := (K, (p.2.2, mk, ms, ma, mf, ik, mt, td, p.2.1.1, p.2.1.2.1, p.2.1.2.2.1, 1, mb, mz, nu, mv))) dX5_parish_83 inB5 tyX5 tyX5_ok nmX5 rfl qw_697 rfl rfl rfl rfl rfl (by decide) (by decide) (cel_mod G _) (Nat.le_of_ble_eq_true rfl) u_m 86 rfl ?_
      refine v_aload_n dX5_parish_86 1 rfl 87 rfl ?_
      refine v_get (i := 11) (ci := 5) (T := TX5) (C := RX5) (N := 16) (v := .int 1) dX5_parish_87 inB5 rfl qw_697 rfl (by decide) (by decide) (cel_mod G _) rfl 90 rfl ?_
      refine v_if_eq dX5_parish_90 97 (by decide) 93 rfl (fun c7 => absurd c7 (by decide)) (fun c7 => ?_)
      refine v_aload_n dX5_parish_93 1 rfl 94 rfl ?_
      refine v_callV (c_X5_putsBack l ) kal_X5_putsBack rfl dX5_parish_94 qw_1066 qw_1068 qw_51 rfl (by decide) (cel_mod G _) (by decide) [] (Nat.le_of_ble_eq_true rfl) rfl rfl 97 rfl ?_
      refine v_aload_n dX5_parish_97 1 rfl 98 rfl ?_
      refine v_iconst dX5_parish_98 0 rfl 99 rfl ?_
      refine v_put (i := 7) (ci := 5) (T := TX5) (C := RX5) (N := 16) (ty := .int) (w2 := (K, (ms, mk, ms, ma, mf, ik, mt, 0, p.2.1.1, p.2.1.2.1, p.2.1.2.2.1, 1, mb, mz, nu, mv))) dX5_parish_99 inB5 tyX5 tyX5_ok nmX5 rfl qw_693 rfl rfl rfl rfl rfl (by decide) (by decide) (cel_mod G _) (Nat.le_of_ble_eq_true rfl) u_m 102 rfl ?_
      refine v_aload_n dX5_parish_102 1 rfl 103 rfl ?_
      refine v_get (i := 11) (ci := 5) (T := TX5) (C := RX5) (N := 16) (v := .int 1) dX5_parish_103 inB5 rfl qw_697 rfl (by decide) (by decide) (cel_mod G _) rfl 106 rfl ?_
      refine v_if_eq dX5_parish_106 118 (by decide) 109 rfl (fun c8 => absurd c8 (by decide)) (fun c8 => ?_)
      refine v_iconst dX5_parish_109 (-1) rfl 110 rfl ?_
      refine v_aload_n dX5_parish_110 1 rfl 111 rfl ?_
      refine v_get (i := 8) (ci := 5) (T := TX5) (C := RX5) (N := 16) (v := .int (nI p.2.1.1)) dX5_parish_111 inB5 rfl qw_694 rfl (by decide) (by decide) (cel_mod G _) rfl 114 rfl ?_
      refine v_isub dX5_parish_114 115 rfl ?_
      refine v_goto dX5_parish_115 119 (by decide) ?_
      exact v_iret dX5_parish_119 (by simp only [qParish, qBad, c1, c4, Nat.not_le.mpr c4, hq, if_true, if_false, ↓reduceIte] <;> with_reducible rfl) (by simp only [qParish, qBad, c1, c4, Nat.not_le.mpr c4, hq, if_true, if_false, ↓reduceIte] <;> with_reducible rfl)
