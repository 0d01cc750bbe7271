theorem plX_s (mt : Rw) (td n i : Nat) (r : Tx × Rw) : plX mt td (n + 1) i r = if r.1.2.2.2 = 0 then (if bA mt td r.1.1 = 59 then plX mt td n (i + 1) (itX mt td (ix (r.2 1)) (musX mt td true r.1) r.2) else (i, r)) else (i, r) := rfl
theorem SZ_eq {s t : Rw} (h : t 1 = s 1) (hs : SZ s) : SZ t := by
  unfold SZ at hs ⊢
  rw [h]
  exact hs
theorem mAdd0_1 (s : Rw) (n : Nat) : ∀ k, mAdd0 s n k 1 = s 1 + 1
  | 0 => by simp [mAdd0, upd]
  | k + 1 => (upd_ne (by omega)).trans (mAdd0_1 s n k)
theorem SZ_add {s : Rw} {k : Int32} (hs : SZ s) (h8 : ix (s 1) < 8) : SZ (mAdd s (ix (s 1)) k) := by
  have e : mAdd s (ix (s 1)) k 1 = nI (ix (s 1) + 1) := by
    have e1 : mAdd s (ix (s 1)) k 1 = s 1 + 1 := (upd_ne (by omega)).trans (mAdd0_1 s _ 14)
    rw [e1, ← nI_add, ← hs.1]
    rfl
  unfold SZ
  rw [e, show ix (nI (ix (s 1) + 1)) = ix (s 1) + 1 from nI_clamp (by omega)]
  exact ⟨rfl, h8⟩
theorem SZ_it {mt : Rw} {td : Nat} {x : Tx} {s : Rw} (hs : SZ s) : SZ (itX mt td (ix (s 1)) x s).2 := by
  have hw : ∀ g, SZ (wiX mt td g x s).2 := by
    intro g
    unfold wiX
    dsimp only
    split
    · exact SZ_eq (upd_ne (by omega)) hs
    · exact hs
  unfold itX
  split
  · split
    · exact hw _
    · split
      · exact hw _
      · split
        · unfold ciX
          split
          · dsimp only
            split
            · exact SZ_eq ((upd_ne (by omega)).trans (upd_ne (by omega))) hs
            · exact hs
          · exact hs
        · split
          · unfold siX
            dsimp only
            split
            · exact SZ_eq (upd_ne (by omega)) hs
            · exact hs
          · exact hs
  · unfold eiX
    split
    · rename_i h1
      have h8 := of_decide_eq_true (mus_ok h1).2.1
      split
      · exact SZ_eq (upd_ne (by omega)) (SZ_add hs h8)
      · exact SZ_add hs h8
    · exact hs
theorem GX_adv {mt : Rw} {td : Nat} {x : Tx} (htd : td ≤ 120) (h : XI x) (h0 : x.2.2.2 = 0) : x.2.1 ≤ (musX mt td true x).1 := by
  unfold musX
  rw [if_pos h0, if_pos rfl]
  exact (GX_tok (mt := mt) (x := (x.1, x.2.1, x.2.2.1, 0)) htd h.2).2.2.2
set_option maxHeartbeats 1000000 in
set_option maxRecDepth 4000 in
theorem lp_mparish (l : Launch) {G : Gl} {X : VX} {ov : Option Value} {wF : WS} {K : CS} {ms : Nat → Int32} {mk : Nat → Int32} {mo : Nat → Int32} {ma : Nat → Int32} {mf : Nat → Int32} {ik : Int32} {mt : Nat → Int32} {td : Nat} {fr : Nat} {tt : Nat} {vl : Int32} {wr : Int32} {mb : Nat → Int32} {mz : Nat → Int32} {nu : Nat → Int64} {mv : Nat → Int64} (htd : td ≤ 120) : ∀ (n i : Nat) (r : Tx × Rw), 121 - r.1.1 ≤ n → GX td r.1 r.1 → SZ r.2 → V l X 7 159 cX5_parish 2 RX5 (some .int) G ov wF (K, ((plX mt td n i r).2.2, mk, mo, ma, mf, ik, mt, td, (plX mt td n i r).2.1.1, (plX mt td n i r).2.1.2.1, (plX mt td n i r).2.1.2.2.1, (plX mt td n i r).2.1.2.2.2, mb, mz, nu, mv)) 59 [(1, .int (nI (plX mt td n i r).1)), (0, .ref (ga G (93)))] [] → V l X 7 159 cX5_parish 2 RX5 (some .int) G ov wF (K, (r.2, mk, mo, ma, mf, ik, mt, td, r.1.1, r.1.2.1, r.1.2.2.1, r.1.2.2.2, mb, mz, nu, mv)) 24 [(1, .int (nI i)), (0, .ref (ga G (93)))] [] := by
  intro n
  induction n with
  | zero =>
    intro i r hn hG hS hk
    have hf0 := hG.1.1.1
    exact absurd hn (by omega)
  | succ n ih =>
    intro i r hn hG hS hk
    have hf0 := hG.1.1.1
    refine v_aload_n dX5_parish_24 1 rfl 25 rfl ?_
    refine v_get (i := 11) (ci := 5) (T := TX5) (C := RX5) (N := 16) (v := .int r.1.2.2.2) dX5_parish_25 inB5 rfl qw_697 rfl (by decide) (by decide) (cel_mod G _) rfl 28 rfl ?_
    refine v_if_ne dX5_parish_28 59 (by decide) 31 rfl (fun c1 => ?_) (fun c1 => ?_)
    · skip
      have e9 : plX mt td (n + 1) i r = (i, r) := by rw [plX_s, if_neg c1]
      rw [e9] at hk
      exact hk
    · skip
      refine v_aload_n dX5_parish_31 1 rfl 32 rfl ?_
      refine v_aload_n dX5_parish_32 1 rfl 33 rfl ?_
      refine v_get (i := 8) (ci := 5) (T := TX5) (C := RX5) (N := 16) (v := .int (nI r.1.1)) dX5_parish_33 inB5 rfl qw_694 rfl (by decide) (by decide) (cel_mod G _) rfl 36 rfl ?_
      refine v_callV (c_X5_byteAt l (i := r.1.1) (by omega) (by omega)) kal_X5_byteAt rfl dX5_parish_36 qw_1003 qw_1005 qw_41 rfl (by decide) (cel_mod G _) (by decide) [] (Nat.le_of_ble_eq_true rfl) rfl rfl 39 rfl ?_
      refine v_bipush dX5_parish_39 59 rfl 41 rfl ?_
      refine v_icmp_ne dX5_parish_41 59 (by decide) 44 rfl (fun c2 => ?_) (fun c2 => ?_)
      · skip
        have e9 : plX mt td (n + 1) i r = (i, r) := by rw [plX_s, if_pos c1, if_neg c2]
        rw [e9] at hk
        exact hk
      · skip
        refine v_aload_n dX5_parish_44 1 rfl 45 rfl ?_
        refine v_iconst dX5_parish_45 1 rfl 46 rfl ?_
        refine v_callV (c_X5_must l htd hG.1.1.1 hG.1.1.2 true) kal_X5_must rfl dX5_parish_46 qw_1041 qw_1043 qw_46 rfl (by decide) (cel_mod G _) (by decide) [] (Nat.le_of_ble_eq_true rfl) rfl rfl 49 rfl ?_
        have hadv := GX_adv (mt := mt) htd hG.1.1 c1
        have hG1 : GX td r.1 (musX mt td true r.1) := GX_mus htd hG
        generalize hx1 : musX mt td true (r.1.1, r.1.2.1, r.1.2.2.1, r.1.2.2.2) = x1
        have gx1 : musX mt td true r.1 = x1 := hx1
        rw [gx1] at hadv hG1
        refine v_aload_n dX5_parish_49 1 rfl 50 rfl ?_
        refine v_callV (c_X5_item l htd hG1.1.1.1 hG1.1.1.2 (nE := ix (r.2 1)) hS.1 hS.2) kal_X5_item rfl dX5_parish_50 qw_1017 qw_1019 qw_42 rfl (by decide) (cel_mod G _) (by decide) [] (Nat.le_of_ble_eq_true rfl) rfl rfl 53 rfl ?_
        have hG2 : GX td x1 (itX mt td (ix (r.2 1)) x1 r.2).1 := GX_it htd hG1.self
        have hS2 : SZ (itX mt td (ix (r.2 1)) x1 r.2).2 := SZ_it hS
        generalize hr2 : itX mt td (ix (r.2 1)) (x1.1, x1.2.1, x1.2.2.1, x1.2.2.2) r.2 = r2
        have gr2 : itX mt td (ix (r.2 1)) x1 r.2 = r2 := hr2
        rw [gr2] at hG2 hS2
        refine v_iinc dX5_parish_53 0 rfl (nI (i + 1)) (nI_1 _) (by decide) [(1, .int (nI (i + 1))), (0, .ref (ga G (93)))] rfl 56 rfl ?_
        refine v_goto dX5_parish_56 24 (by decide) ?_
        have hlt : r.1.1 < td := Nat.lt_of_not_le (fun q => by have h9 := c2; rw [bA_o q] at h9; exact absurd h9 (by decide))
        have hlt2 := hG.1.2.2 hlt
        have hlt3 := hG2.2
        have e9 : plX mt td (n + 1) i r = plX mt td n (i + 1) r2 := by rw [plX_s, if_pos c1, if_pos c2, gx1, gr2]
        rw [e9] at hk
        exact ih (i + 1) r2 (by omega) hG2.self hS2 hk
