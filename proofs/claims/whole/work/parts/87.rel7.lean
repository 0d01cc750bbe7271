def wn (w : Int32) (n : Nat) : Nat := if w < 0 then 2 * n else if 10 < w then n / 2 else n
theorem wOf_n (w : Int32) {n : Nat} (hn : n < 2 ^ 20) : wOf w (nI n) = nI (wn w n) := by
  unfold wOf wn
  by_cases c : w < 0
  · rw [if_pos c, if_pos c, show (2 : Int32) = nI 2 from rfl, pk_mul]
  · rw [if_neg c, if_neg c]
    by_cases c2 : 10 < w
    · rw [if_pos c2, if_pos c2, show (2 : Int32) = nI 2 from rfl, pk_div (by omega) (by omega) (by omega)]
    · rw [if_neg c2, if_neg c2]
theorem wn_le (w : Int32) (n : Nat) : wn w n ≤ 2 * n := by
  unfold wn
  split
  · omega
  · split <;> omega
theorem wn_mono (w : Int32) {n k : Nat} (h : n ≤ k) : wn w n ≤ wn w k := by
  unfold wn
  split
  · omega
  · split <;> omega
/-- the best by its gain is the best by the whole -/
theorem amc_eq {q p : Nat → Bool} {v u : Nat → Int32} {T : Nat} (g : Nat → Nat) (hT : T < 2 ^ 20) : ∀ n, (∀ k, k < n → q k = p k ∧ (p k = true → v k = nI (T + g k) ∧ u k = nI (g k) ∧ g k < 2 ^ 20)) → (amc q v n = (-1, -1) ∧ amc p u n = (-1, -1)) ∨ ∃ i : Nat, i < n ∧ amc q v n = (nI i, nI (T + g i)) ∧ amc p u n = (nI i, nI (g i)) ∧ g i < 2 ^ 20
  | 0, _ => Or.inl ⟨rfl, rfl⟩
  | n + 1, h => by
    have ih := amc_eq g hT n (fun k hk => h k (by omega))
    obtain ⟨h1, h2⟩ := h n (by omega)
    have eq1 : amc q v (n + 1) = if p n then (if (amc q v n).2 < v n then (nI n, v n) else amc q v n) else amc q v n := by
      show (if q n then _ else _) = _
      rw [h1]
    have eq2 : amc p u (n + 1) = if p n then (if (amc p u n).2 < u n then (nI n, u n) else amc p u n) else amc p u n := rfl
    rw [eq1, eq2]
    by_cases c : p n = true
    · rw [if_pos c, if_pos c]
      obtain ⟨e1, e2, e3⟩ := h2 c
      rw [e1, e2]
      rcases ih with ⟨i1, i2⟩ | ⟨i, hi, i1, i2, i3⟩
      · rw [i1, i2, if_pos (by rw [fa_lt, nI_toInt (by omega)]; show (-1 : Int) < _; omega), if_pos (by rw [fa_lt, nI_toInt (by omega)]; show (-1 : Int) < _; omega)]
        exact Or.inr ⟨n, by omega, rfl, rfl, e3⟩
      · rw [i1, i2]
        dsimp only
        by_cases c2 : g i < g n
        · rw [if_pos (nI_lt (by omega) (by omega)), if_pos (nI_lt c2 (by omega))]
          exact Or.inr ⟨n, by omega, rfl, rfl, e3⟩
        · rw [if_neg (nI_nlt (by omega) (by omega)), if_neg (nI_nlt (by omega) (by omega))]
          exact Or.inr ⟨i, by omega, rfl, rfl, i3⟩
    · rw [if_neg c, if_neg c]
      rcases ih with ⟨i1, i2⟩ | ⟨i, hi, i1, i2, i3⟩
      · exact Or.inl ⟨i1, i2⟩
      · exact Or.inr ⟨i, by omega, i1, i2, i3⟩
theorem sm_one {f g : Rw} {m : Nat} {d : Int32} : ∀ n, m < n → (∀ k, k < n → k ≠ m → g k = f k) → g m = f m + d → sm g n = sm f n + d
  | 0, h, _, _ => absurd h (Nat.not_lt_zero _)
  | n + 1, h, h1, h2 => by
    show sm g n + g n = sm f n + f n + d
    by_cases c : m = n
    · subst c
      rw [sm_eq (g := f) m (fun k hk => h1 k (by omega) (by omega)), h2, Int32.add_assoc]
    · rw [sm_one n (by omega) (fun k hk => h1 k (by omega)) h2, h1 n (by omega) (Ne.symm c)]
      exact i_swap _ _ _
theorem i_sub_add (x y : Int32) : x = y + (x - y) := by rw [Int32.add_comm, Int32.sub_add_cancel]
theorem mwarm_le {K : CS} {M : MS} (h : Rel K M) {c : Nat} (hc : c < 4) : ∃ j : Nat, j ≤ 12 * 1998 ∧ mWarm M.1 c = nI j := by
  refine sm_le 12 (fun m hm => ?_)
  obtain ⟨y1, j, hj, y2⟩ := h.1.1.2.2.2.2.2.1 c hc m hm
  refine ⟨wn (M.1 (2 + m)) j, ?_, ?_⟩
  · have := wn_le (M.1 (2 + m)) j
    omega
  · show wOf (M.1 (2 + m)) (M.1 (150 + 12 * c + m)) = _
    rw [y1, y2]
    exact wOf_n _ (by omega)
theorem r_best {K : CS} {M : MS} (h : Rel K M) (a b : Int32) : Ag (cBest K a b) (qBest M a b) := by
  unfold cBest qBest
  by_cases c : (inb 0 3 a && inb 1 999 b) = true
  · rw [if_pos c, if_pos c]
    obtain ⟨c1, c3⟩ := Bool.and_eq_true_iff.mp c
    obtain ⟨e1, e2, e3⟩ := ixb1 (l := 1) (n := 999) (by decide) c3
    have hc := ix3 c1
    generalize ix a = cc at hc ⊢
    generalize ix b = n at e1 e2 e3
    subst e3
    obtain ⟨T, hT, eT⟩ := mwarm_le h hc
    have key := amc_eq (q := qB1 M.1 cc (nI n)) (p := qB2 (K.1 0) cc (nI n)) (v := vB1 M.1 cc (nI n)) (u := vB2 (K.1 0) cc (nI n)) (T := T) (fun m => wn ((K.1 0).2.2.1 m) (ix ((K.1 0).2.2.2.2.2.1 cc m) + n) - wn ((K.1 0).2.2.1 m) (ix ((K.1 0).2.2.2.2.2.1 cc m))) (by omega) 12 (fun m hm => by
      obtain ⟨x1, i, hi, x2⟩ := h.1.1.2.2.2.1 m hm
      obtain ⟨y1, j, hj, y2⟩ := h.1.1.2.2.2.2.2.1 cc hc m hm
      have ej : ix (nI j) = j := nI_clamp (by omega)
      refine ⟨?_, fun _ => ?_⟩
      · unfold qB1 qB2
        rw [x1, y1, x2, y2, nI_add, show (999 : Int32) = nI 999 from rfl, pk_sub hj]
        congr 1
        apply dec_cg
        rw [nI_leI (by omega) (by omega), nI_leI (by omega) (by omega)]
        omega
      · have m1 := wn_mono ((K.1 0).2.2.1 m) (show j ≤ j + n by omega)
        have m2 := wn_le ((K.1 0).2.2.1 m) (j + n)
        rw [y2, ej]
        have eu : vB2 (K.1 0) cc (nI n) m = nI (wn ((K.1 0).2.2.1 m) (j + n) - wn ((K.1 0).2.2.1 m) j) := by
          unfold vB2
          skip
          rw [y2, nI_add, wOf_n _ (by omega), wOf_n _ (by omega), pk_sub m1]
        refine ⟨?_, eu, by omega⟩
        rw [← nI_add, ← eT, ← eu]
        unfold vB1 mWarm
        refine sm_one 12 hm (fun k hk12 hk => ?_) ?_
        · skip
          rw [upd_ne (by omega), upd_ne (by omega)]
        · skip
          rw [upd_ne (by omega), pk_us, h.w hm, y1]
          unfold vB2
          skip
          exact i_sub_add _ _)
    rcases key with ⟨k1, k2⟩ | ⟨i, hi, k1, k2, -⟩
    · rw [k1, k2]
      rw [if_pos (show ((-1 : Int32), (-1 : Int32)).1 < 0 by decide), if_pos (show ((-1 : Int32), (-1 : Int32)).1 < 0 by decide)]
      exact h.find (by decide)
    · rw [k1, k2]
      dsimp only
      rw [if_neg (nI_pos (by omega)), if_neg (nI_pos (by omega))]
      exact ⟨rfl, h⟩
  · rw [if_neg c, if_neg c]
    exact h.find (by decide)
theorem amx_w {s : Rw} {v : Nat → Int32} : ∀ n, n < 4 → (∀ k, k ≤ n → v k = mWarm s k ∧ ¬ v k < 0) → amx v 0 (-1) (n + 1) = (nI (wB s n), v (wB s n))
  | 0, _, h => by
    show (if (-1 : Int32) < v 0 then (nI 0, v 0) else (0, -1)) = _
    rw [if_pos (by
      have := (h 0 (Nat.le_refl _)).2
      rw [fa_lt] at this ⊢
      have e : (0 : Int32).toInt = 0 := rfl
      have e2 : (-1 : Int32).toInt = -1 := rfl
      omega)]
    rfl
  | n + 1, hn, h => by
    have ih := amx_w n (by omega) (fun k hk => h k (by omega))
    have hl := wB_le s n
    show (if (amx v 0 (-1) (n + 1)).2 < v (n + 1) then (nI (n + 1), v (n + 1)) else amx v 0 (-1) (n + 1)) = _
    rw [ih]
    dsimp only
    have e : wB s (n + 1) = if mWarm s (wB s n) < mWarm s (n + 1) then n + 1 else wB s n := rfl
    rw [e, ← (h (n + 1) (Nat.le_refl _)).1, ← (h (wB s n) (by omega)).1]
    by_cases c : v (wB s n) < v (n + 1)
    · rw [if_pos c, if_pos c]
    · rw [if_neg c, if_neg c]
theorem r_warmest {K : CS} {M : MS} (h : Rel K M) : Ag (cWarmest K) (qWarmest M) := by
  unfold cWarmest qWarmest
  refine ⟨?_, h⟩
  dsimp only
  rw [amx_w (s := M.1) (v := vW2 (K.1 0)) 3 (by decide) (fun k hk => ?_)]
  have e : vW2 (K.1 0) k = mWarm M.1 k := sm_eq 12 (fun m hm => by rw [h.w hm, h.c (by omega) hm])
  refine ⟨e, ?_⟩
  obtain ⟨j, hj, ej⟩ := mwarm_le h (c := k) (by omega)
  rw [e, ej]
  exact nI_pos (by omega)
theorem r_image {K : CS} {M : MS} (h : Rel K M) : Ag (cImage K) (qImage M) :=
  ⟨rfl, h.1, ⟨rfl, h.n8, fun _ => ⟨copy_eq h.1.1, h.1.2⟩⟩, h.2.2.1, h.2.2.2.1, h.2.2.2.2⟩
theorem r_undo {K : CS} {M : MS} (h : Rel K M) : Ag (cUndo K) (qUndo M) := by
  unfold cUndo qUndo
  obtain ⟨e1, e2, e3⟩ := h.2.1
  rw [e1]
  by_cases c : K.2.2.2.2 = 0
  · rw [if_pos c, if_pos c]
    exact h.find (by decide)
  · rw [if_neg c, if_neg c]
    obtain ⟨f1, f2⟩ := e3 c
    exact ⟨f1.2.1.1.symm, ⟨copy_eq f1, f2⟩, ⟨rfl, e2, e3⟩, h.2.2.1, h.2.2.2.1, h.2.2.2.2⟩
theorem r_tear {K : CS} {M : MS} (h : Rel K M) : Ag (cTear K) (qTear M) := by
  obtain ⟨e1, e2, e3⟩ := h.2.1
  unfold cTear qTear
  rw [e1]
  exact ⟨rfl, h.1, ⟨rfl, e2, fun q => absurd rfl q⟩, h.2.2.1, h.2.2.2.1, h.2.2.2.2⟩
theorem cwl_eq {s : Rw} {C : Nat → Rw} : ∀ n, (∀ c, c < n → ∀ m, m < 12 → s (150 + 12 * c + m) = C c m) → mCoats s n = cwl C n
  | 0, _ => rfl
  | n + 1, h => by
    show mCoats s n + (if mMsk s n 12 = 0 then 0 else 1) = if msk (C n) 12 = 0 then cwl C n else cwl C n + 1
    rw [cwl_eq n (fun c hc => h c (by omega)), msk_eq s n (C n) 12 (h n (by omega))]
    by_cases c : msk (C n) 12 = 0
    · rw [if_pos c, if_pos c]
      exact Int32.add_zero _
    · rw [if_neg c, if_neg c]
theorem r_count {K : CS} {M : MS} (h : Rel K M) (a : Int32) : Ag (cCount K a) (qCount M (K.1 0).2.1 a) := by
  unfold cCount qCount
  by_cases c0 : a = 0
  · rw [if_pos c0, if_pos c0]
    exact ⟨h.1.1.2.1.1.symm, h⟩
  rw [if_neg c0, if_neg c0]
  by_cases c1 : a = 1
  · rw [if_pos c1, if_pos c1]
    exact ⟨congrArg nI h.2.2.1.1, h⟩
  rw [if_neg c1, if_neg c1]
  by_cases c2 : a = 2
  · rw [if_pos c2, if_pos c2]
    exact ⟨(cwl_eq 4 (fun c hc m hm => h.c hc hm)).symm, h⟩
  rw [if_neg c2, if_neg c2]
  by_cases c3 : a = 3
  · rw [if_pos c3, if_pos c3]
    exact ⟨sm_eq _ (fun e he => (h.e he).2.2.2.1.symm), h⟩
  rw [if_neg c3, if_neg c3]
  exact h.find (by decide)
theorem sm_sing {f : Rw} {j : Nat} : ∀ n, n < 2 ^ 31 → j < 2 ^ 31 → sm (fun k => if nI j < 0 ∨ nI k = nI j then f k else 0) n = if j < n then f j else 0
  | 0, _, _ => rfl
  | n + 1, hn, hj => by
    show sm _ n + (if nI j < 0 ∨ nI n = nI j then f n else 0) = _
    rw [sm_sing n (by omega) hj]
    have hp : ¬ nI j < 0 := nI_pos hj
    by_cases c : j = n
    · subst c
      rw [if_neg (Nat.lt_irrefl j), if_pos (Or.inr rfl), if_pos (by omega)]
      exact Int32.zero_add _
    · rw [if_neg (show ¬ (nI j < 0 ∨ nI n = nI j) from fun q => q.elim hp (fun q => c ((nI_eq (by omega) hj).mp q).symm))]
      by_cases c2 : j < n
      · rw [if_pos c2, if_pos (by omega)]
        exact Int32.add_zero _
      · rw [if_neg c2, if_neg (by omega)]
        rfl
theorem r_status {K : CS} {M : MS} (h : Rel K M) (a : Int32) : Ag (cStatus K a) (qStatus M a) := by
  unfold cStatus qStatus
  by_cases c : a = -1
  · subst c
    rw [if_pos rfl, if_pos (by decide)]
    exact ⟨sm_eq 7 (fun k hk => ((if_pos (Or.inl (by decide))).trans (h.2.2.2.2 k hk)).symm), h⟩
  · rw [if_neg c]
    by_cases c2 : inb 0 6 a = true
    · rw [if_pos c2]
      have c3 : inb (-1) 6 a = true := by
        rw [inb_t] at c2 ⊢
        omega
      rw [if_pos c3]
      obtain ⟨e1, e2⟩ := ixb (n := 6) (by decide) c2
      refine ⟨?_, h⟩
      dsimp only
      generalize ix a = j at e1 e2 ⊢
      subst e2
      rw [sm_sing 7 (by omega) (by omega), if_pos (by omega)]
      exact (h.2.2.2.2 j (by omega)).symm
    · rw [if_neg c2, if_neg (fun q => c2 (by
        rw [inb_t] at q ⊢
        have : a.toInt ≠ -1 := fun e => c ((fa_eq _ _).mpr e)
        omega))]
      exact h.find (by decide)
theorem r_wipe {K : CS} {M : MS} (h : Rel K M) : Ag (cWipe K) (qWipe M) :=
  ⟨congrArg nI h.2.2.1.1, h.1, h.2.1, ⟨rfl, Nat.zero_le _, fun j hj => absurd hj (Nat.not_lt_zero j)⟩, h.2.2.2.1, h.2.2.2.2⟩
theorem neg_b : ∀ j : Nat, j < 256 → 128 ≤ j → (nI j).toInt8.toInt32.toInt < 0 := by decide +kernel
theorem TB_of (z : Int32) : TB (vp_nar .byte z.toInt8.toInt32) (z &&& 255) := by
  obtain ⟨j, hj, e⟩ := pk_andE z (m := 255) 8 (by decide)
  have hn : vp_nar .byte z.toInt8.toInt32 = (nI j).toInt8.toInt32 := by
    rw [← e, fa_byte_low]
    exact fb_byte_twice z
  rw [hn, e]
  by_cases c : j < 128
  · exact Or.inl (fa_byte_small c)
  · exact Or.inr ⟨neg_b j hj (by omega), by rw [nI_toInt (by omega)]; omega⟩
theorem fd_eq (x : Int32) : ∀ (n : Nat) {T : Tp} {f : Rw} {z : Nat}, T.2.1 = z → (∀ j, j < z → TB (T.1 j) (f j)) → (fdR x n T).2.1 = (mfR x n (f, z)).2 ∧ (fdR x n T).2.1 = z + n ∧ ∀ j, j < z + n → TB ((fdR x n T).1 j) ((mfR x n (f, z)).1 j)
  | 0, T, f, z, h1, h2 => ⟨h1, h1, h2⟩
  | n + 1, T, f, z, h1, h2 => by
    have := fd_eq x n (T := tAdd T (x >>> (nI (8 * n) &&& 31)).toInt8.toInt32) (f := upd f z ((x >>> (nI (8 * n) &&& 31)) &&& 255)) (z := z + 1) (by show T.2.1 + 1 = _; rw [h1]) (fun j hj => by
      show TB (upd T.1 T.2.1 _ j) _
      rw [h1]
      by_cases c : j = z
      · rw [c, pk_us, pk_us]
        exact TB_of _
      · rw [upd_ne c, upd_ne c]
        exact h2 j (by omega))
    rw [show z + (n + 1) = z + 1 + n by omega]
    exact this
theorem r_feed {K : CS} {M : MS} (h : Rel K M) (a b : Int32) : Ag (cFeed K a b) (qFeed M a b) := by
  unfold cFeed qFeed
  obtain ⟨t1, t2, t3⟩ := h.2.2.1
  by_cases c : inb 1 4 b = true
  · rw [if_pos c, if_pos c, t1]
    by_cases c2 : M.2.2.2.2.2.2.2.1 + ix b ≤ 120
    · rw [if_pos c2, if_pos c2]
      obtain ⟨f1, f2, f3⟩ := fd_eq a (ix b) t1 t3
      exact ⟨congrArg nI f1, h.1, h.2.1, ⟨f1, by rw [← f1, f2]; exact c2, fun j hj => f3 j (by rw [← f2, f1]; exact hj)⟩, h.2.2.2.1, h.2.2.2.2⟩
    · rw [if_neg c2, if_neg c2]
      exact h.find (by decide)
  · rw [if_neg c, if_neg c]
    exact h.find (by decide)
