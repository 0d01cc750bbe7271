theorem ff_cg {p q : Nat → Bool} {n : Nat} (h : ∀ k, k < n → p k = q k) : fa_first p n = fa_first q n := by
  have hl := fa_first_le q n
  refine fa_first_eq hl (fun j hj => ?_) (fun hi => ?_)
  · rw [h j (by omega)]
    exact fa_first_no q n j hj
  · rw [h _ hi]
    exact fa_first_yes q n hi
theorem dec_cg {p q : Prop} [Decidable p] [Decidable q] (h : p ↔ q) : decide p = decide q := decide_eq_decide.mpr h
theorem amx_cg {v u : Nat → Int32} (b m : Int32) : ∀ n, (∀ k, k < n → v k = u k) → amx v b m n = amx u b m n
  | 0, _ => rfl
  | n + 1, h => by
    unfold amx
    rw [amx_cg b m n (fun k hk => h k (by omega)), h n (by omega)]
theorem r_on {K : CS} {M : MS} (h : Rel K M) (a b x : Int32) : Ag (cOn K a b x) (qOn M (K.1 0).2.1 (K.1 0).1 a b x) := by
  unfold cOn qOn
  have h8 := h.n8
  by_cases c : (inE (K.1 0).2.1 a && (inb 0 120 b && inb 0 1 x)) = true
  · rw [if_pos c, if_pos c]
    obtain ⟨c1, -⟩ := Bool.and_eq_true_iff.mp c
    obtain ⟨he, -⟩ := ixE (by omega) c1
    have hl := lone_eq h.1.1 he (A := cLone K (ix a)) (bec_eq (h.e he)) (ix b)
    refine ⟨?_, h⟩
    dsimp only
    by_cases c2 : x = 0
    · rw [if_pos c2, if_pos c2]
      exact (wool_eq hl).symm
    · rw [if_neg c2, if_neg c2]
      exact hl.2.2.2.1.symm
  · rw [if_neg c, if_neg c]
    exact h.find (by decide)
theorem r_then {K : CS} {M : MS} (h : Rel K M) (a b x : Int32) : Ag (cThen K a b x) (qThen M (K.1 0).2.1 (K.1 0).1 a b x) := by
  unfold cThen qThen
  by_cases c : (inb 0 11 a && (inb 0 120 b && inb 0 1 x)) = true
  · rw [if_pos c, if_pos c]
    obtain ⟨c1, -⟩ := Bool.and_eq_true_iff.mp c
    have hg : RP (pPass (pCopy (K.1 2) (K.1 0)) (ix b)) (mGo M.1 (K.1 0).2.1 (K.1 0).1 (ix b)) := go_eq (copy_eq (P := K.1 2) h.1.1) (ix b)
    refine ⟨?_, h⟩
    dsimp only
    by_cases c2 : x = 0
    · rw [if_pos c2, if_pos c2]
      exact (hg.2.2.2.1 _ (ix11 c1)).1.symm
    · rw [if_neg c2, if_neg c2]
      exact (hg.2.2.2.2.1 _ (ix11 c1)).1.symm
  · rw [if_neg c, if_neg c]
    exact h.find (by decide)
theorem r_enough {K : CS} {M : MS} (h : Rel K M) (a b : Int32) : Ag (cEnough K a b) (qEnough M (K.1 0).2.1 (K.1 0).1 a b) := by
  unfold cEnough qEnough
  by_cases c : (inb 0 11 a && inb 0 9999 b) = true
  · rw [if_pos c, if_pos c]
    obtain ⟨c1, -⟩ := Bool.and_eq_true_iff.mp c
    have hg : ∀ i, RP (pPass (cQ K) i) (mGo M.1 (K.1 0).2.1 (K.1 0).1 i) := go_eq (copy_eq (P := K.1 2) h.1.1)
    have e : mFirst M.1 (K.1 0).2.1 (K.1 0).1 (14 + ix a) 1 b = fa_first (cEn K (ix a) b) 121 := by
      unfold mFirst
      refine ff_cg (fun i _ => ?_)
      show decide (b ≤ 1 * mGo M.1 (K.1 0).2.1 (K.1 0).1 i (14 + ix a)) = decide (b ≤ (pPass (cQ K) i).2.2.2.1 (ix a))
      rw [((hg i).2.2.2.1 _ (ix11 c1)).1, Int32.one_mul]
    unfold qFirst
    rw [e]
    by_cases c2 : fa_first (cEn K (ix a) b) 121 < 121
    · rw [if_pos c2, if_neg (by omega)]
      exact ⟨rfl, h⟩
    · rw [if_neg c2, if_pos (by omega)]
      have h2 : Rel (kP K 2 (pPass (cQ K) 121)) (xa M M.1) := h
      exact h2.find (by decide)
  · rw [if_neg c, if_neg c]
    exact h.find (by decide)
theorem ago_k (A : Ew) (W : Rw) (t : Nat) : ∀ i, (aGo A W t i).1 = A.1
  | 0 => rfl
  | i + 1 => by
    show (aOne (aGo A W t i) W (t + i)).1 = A.1
    have := ago_k A W t i
    unfold aOne
    split
    · exact this
    · exact this
theorem ago_f {A : Ew} {W : Rw} {t k f : Nat} (hk : k < 6) (hf : f < 100) (e1 : A.1 = nI k) (e2 : A.2.1 = nI f) : ∀ i, (aGo A W t i).2.1 = nI (f - i * ix (kCalms (nI k)))
  | 0 => by rw [Nat.zero_mul, Nat.sub_zero]; exact e2
  | i + 1 => by
    have ih := ago_f (W := W) (t := t) hk hf e1 e2 i
    have ek := (ago_k A W t i).trans e1
    have e : (aGo A W t (i + 1)).2.1 = mx 0 ((aGo A W t i).2.1 - kCalms (aGo A W t i).1) := by
      show (aOne (aGo A W t i) W (t + i)).2.1 = _
      unfold aOne
      split
      · rfl
      · rfl
    rw [e, ih, ek, (cal_eq k hk _ (by omega)).1]
    rw [Nat.succ_mul, Nat.sub_sub]
theorem kcl : ∀ k : Nat, k < 6 → kCalms (nI k) = nI (ix (kCalms (nI k))) ∧ 5 ≤ ix (kCalms (nI k)) ∧ ix (kCalms (nI k)) ≤ 20 := by decide
theorem clm_eq {f d : Nat} (hf : f < 100) (hd : d ≤ 20) : ∀ i, i ≤ 121 → (clm (nI f) (nI d) i).toInt = (f : Int) - (i * d : Nat)
  | 0, _ => by
    rw [Nat.zero_mul]
    show (nI f).toInt = _
    rw [nI_toInt (by omega)]
    omega
  | i + 1, hi => by
    have ih := clm_eq hf hd i (by omega)
    have b : i * d ≤ 121 * 20 := Nat.mul_le_mul (by omega) hd
    show (clm (nI f) (nI d) i - nI d).toInt = _
    have e : (nI d).toInt = (d : Int) := nI_toInt (by omega)
    rw [fb_subI (by rw [ih, e]; omega) (by rw [ih, e]; omega), ih, e, Nat.succ_mul]
    omega
theorem r_calm {K : CS} {M : MS} (h : Rel K M) (a : Int32) : Ag (cCalm K a) (qCalm M (K.1 0).2.1 (K.1 0).1 a) := by
  unfold cCalm qCalm
  have h8 := h.n8
  by_cases c : inE (K.1 0).2.1 a = true
  · rw [if_pos c, if_pos c]
    obtain ⟨he, -⟩ := ixE (by omega) c
    have hE := h.e he
    obtain ⟨⟨kk, hk, q1⟩, ⟨ff, hf, q2⟩, -⟩ := hE
    obtain ⟨k1, k2, k3⟩ := kcl kk hk
    have e : mFirst M.1 (K.1 0).2.1 (K.1 0).1 (38 + 14 * ix a + 1) (-1) 0 = fa_first (clP ((K.1 0).2.2.2.2.2.2 (ix a)).2.1 (kCalms ((K.1 0).2.2.2.2.2.2 (ix a)).1)) 121 := by
      unfold mFirst
      refine ff_cg (fun i hi => ?_)
      have hl := lone_eq h.1.1 he (h.e he) i
      show decide (0 ≤ -1 * mGo M.1 (K.1 0).2.1 (K.1 0).1 i (38 + 14 * ix a + 1)) = decide (clm _ _ i ≤ 0)
      rw [hl.2.2.2.1, ago_f hk hf q1 q2, q1, q2, k1]
      have z1 := clm_eq hf k3 i (by omega)
      rw [← k1]
      generalize ix (kCalms (nI kk)) = d at k1 k2 k3 z1 ⊢
      rw [k1]
      apply dec_cg
      have b : i * d ≤ 121 * 20 := Nat.mul_le_mul (by omega) k3
      generalize i * d = p at z1 b ⊢
      rw [fa_le, fa_le, z1]
      have e2 : (-1 * nI (ff - p)).toInt = -((ff - p : Nat) : Int) := by
        rw [fb_mulI (by rw [nI_toInt (by omega)]; show _ ≤ (-1) * _; omega) (by rw [nI_toInt (by omega)]; show (-1) * _ < _; omega), nI_toInt (by omega)]
        show (-1) * _ = _
        omega
      rw [e2]
      show (0 : Int) ≤ _ ↔ _ ≤ (0 : Int)
      omega
    unfold qFirst
    rw [e]
    generalize fa_first (clP ((K.1 0).2.2.2.2.2.2 (ix a)).2.1 (kCalms ((K.1 0).2.2.2.2.2.2 (ix a)).1)) 121 = z
    by_cases c2 : z < 121
    · rw [if_pos c2, if_neg (by omega)]
      exact ⟨rfl, h⟩
    · rw [if_neg c2, if_pos (by omega)]
      have h2 : Rel K (xa M M.1) := h
      exact h2.find (by decide)
  · rw [if_neg c, if_neg c]
    exact h.find (by decide)
theorem r_kind {K : CS} {M : MS} (h : Rel K M) (a b : Int32) : Ag (cKind K a b) (qKind M (K.1 0).2.1 (K.1 0).1 a b) := by
  unfold cKind qKind
  have h8 := h.n8
  by_cases c : (inE (K.1 0).2.1 a && inb 1 60 b) = true
  · rw [if_pos c, if_pos c]
    obtain ⟨c1, -⟩ := Bool.and_eq_true_iff.mp c
    obtain ⟨he, -⟩ := ixE (by omega) c1
    refine ⟨congrArg Prod.fst (amx_cg 0 (-1) 6 (fun i hi => ?_)), h⟩
    have hg : RP (tK (K.1 2) (K.1 0) (ix a) (ix b) (i + 1)) (mGo (upd M.1 (38 + 14 * ix a + 0) (nI i)) (K.1 0).2.1 (K.1 0).1 (ix b)) := go_eq (set_kd (copy_eq (P := tK (K.1 2) (K.1 0) (ix a) (ix b) i) h.1.1) he hi) (ix b)
    exact sm_eq 12 (fun m hm => (hg.2.2.2.1 m hm).1.symm)
  · rw [if_neg c, if_neg c]
    exact h.find (by decide)
theorem wdn : ∀ i : Nat, i < 41 → -20 ≤ (20 - nI i).toInt ∧ (20 - nI i).toInt ≤ 20 := by decide
theorem r_cold {K : CS} {M : MS} (h : Rel K M) (a b x : Int32) : Ag (cCold K a b x) (qCold M (K.1 0).2.1 (K.1 0).1 a b x) := by
  unfold cCold qCold
  by_cases c : (inb 0 11 a && (inb 1 60 b && inb 0 9999 x)) = true
  · rw [if_pos c, if_pos c]
    obtain ⟨c1, -⟩ := Bool.and_eq_true_iff.mp c
    have e : fa_first (pCold M.1 (K.1 0).2.1 (K.1 0).1 (ix a) (ix b) x) 41 = fa_first (pC (K.1 2) (K.1 0) (ix a) (ix b) x) 41 := by
      refine ff_cg (fun i hi => ?_)
      have hcp := copy_eq (P := tC (K.1 2) (K.1 0) (ix a) (ix b) i) h.1.1
      have hg : RP (tC (K.1 2) (K.1 0) (ix a) (ix b) (i + 1)) (mGo (upd M.1 (2 + ix a) (20 - nI i)) (K.1 0).2.1 (K.1 0).1 (ix b)) := go_eq (set_W hcp (ix11 c1) (wdn i hi).1 (wdn i hi).2) (ix b)
      show decide (x ≤ mGo (upd M.1 (2 + ix a) (20 - nI i)) (K.1 0).2.1 (K.1 0).1 (ix b) (14 + ix a)) = decide (x ≤ (tC (K.1 2) (K.1 0) (ix a) (ix b) (i + 1)).2.2.2.1 (ix a))
      rw [(hg.2.2.2.1 _ (ix11 c1)).1]
    rw [e]
    generalize fa_first (pC (K.1 2) (K.1 0) (ix a) (ix b) x) 41 = z
    by_cases c2 : z < 41
    · rw [if_pos c2, if_pos c2]
      exact ⟨rfl, h⟩
    · rw [if_neg c2, if_neg c2]
      have h2 : Rel (kP K 2 (tC (K.1 2) (K.1 0) (ix a) (ix b) 41)) (xa M (upd M.1 (2 + ix a) (20 - nI 40))) := h
      exact h2.find (by decide)
  · rw [if_neg c, if_neg c]
    exact h.find (by decide)
theorem fdn : ∀ i : Nat, i < 100 → 99 - nI i = nI (99 - i) := by decide
theorem lone_in {K : CS} {M : MS} (h : Rel K M) {e : Nat} (he : e < (K.1 0).2.1) {s : Rw} {A : Ew} (hA : RE A s e) (hf : ∀ j, (j < 38 + 14 * e ∨ 52 + 14 * e ≤ j) → s j = M.1 j) (i : Nat) : RE (aGo A (K.1 0).2.2.1 (K.1 0).1 i) (mGo s (K.1 0).2.1 (K.1 0).1 i) e :=
  lone_eq (P := sE (K.1 0) e A) (set_ewe h.1.1 hA hf he) he hA i
theorem r_bears {K : CS} {M : MS} (h : Rel K M) (a b x : Int32) : Ag (cBears K a b x) (qBears M (K.1 0).2.1 (K.1 0).1 a b x) := by
  unfold cBears qBears
  have h8 := h.n8
  by_cases c : (inE (K.1 0).2.1 a && (inb 0 60 b && inb 0 1188 x)) = true
  · rw [if_pos c, if_pos c]
    obtain ⟨c1, -⟩ := Bool.and_eq_true_iff.mp c
    obtain ⟨he, -⟩ := ixE (by omega) c1
    have e : fa_first (pBears M.1 (K.1 0).2.1 (K.1 0).1 (ix a) (ix b) x) 100 = fa_first (cPB K (ix a) (ix b) x) 100 := by
      refine ff_cg (fun i hi => ?_)
      have hA := fr_RE (bec_eq (A := cTB K (ix a) (ix b) i) (h.e he)) (f := 99 - i) (by omega)
      rw [← fdn i hi] at hA
      have hl := lone_in h he hA (fun j hj => upd_ne (by omega)) (ix b)
      show decide (x ≤ mWool (mGo (upd M.1 (38 + 14 * ix a + 1) (99 - nI i)) (K.1 0).2.1 (K.1 0).1 (ix b)) (ix a)) = decide (x ≤ (cTB K (ix a) (ix b) (i + 1)).2.2.1)
      rw [wool_eq hl]
      rfl
    rw [e]
    generalize fa_first (cPB K (ix a) (ix b) x) 100 = z
    by_cases c2 : z < 100
    · rw [if_pos c2, if_pos c2]
      exact ⟨rfl, h⟩
    · rw [if_neg c2, if_neg c2]
      have h2 : Rel (kL K (cTB K (ix a) (ix b) 100)) (xa M (upd M.1 (38 + 14 * ix a + 1) (99 - nI 99))) := h
      exact h2.find (by decide)
  · rw [if_neg c, if_neg c]
    exact h.find (by decide)
theorem sm_le {f : Rw} {B : Nat} : ∀ n, (∀ m, m < n → ∃ j : Nat, j ≤ B ∧ f m = nI j) → ∃ j : Nat, j ≤ n * B ∧ sm f n = nI j
  | 0, _ => ⟨0, by omega, rfl⟩
  | n + 1, h => by
    obtain ⟨j, hj, e⟩ := sm_le n (fun m hm => h m (by omega))
    obtain ⟨i, hi, e2⟩ := h n (by omega)
    refine ⟨j + i, by rw [Nat.succ_mul]; omega, ?_⟩
    show sm f n + f n = _
    rw [e, e2, nI_add]
theorem amd_eq {v u : Nat → Int32} (h0 : v 0 < 999999) : ∀ n, (∀ k, k < n + 1 → v k = u k) → n + 1 < 2 ^ 31 → amd v (n + 1) = amn u 0 999999 (n + 1)
  | 0, h, _ => by
    show (if nI 0 = 0 ∨ v 0 < 0 then (nI 0, v 0) else (0, 0)) = if u 0 < 999999 then (nI 0, u 0) else (0, 999999)
    rw [if_pos (show nI 0 = 0 ∨ v 0 < 0 from Or.inl rfl), ← h 0 (by omega), if_pos h0]
  | n + 1, h, hb => by
    have ih := amd_eq h0 n (fun k hk => h k (by omega)) (by omega)
    show (if nI (n + 1) = 0 ∨ v (n + 1) < (amd v (n + 1)).2 then (nI (n + 1), v (n + 1)) else amd v (n + 1)) = if u (n + 1) < (amn u 0 999999 (n + 1)).2 then (nI (n + 1), u (n + 1)) else amn u 0 999999 (n + 1)
    rw [ih, h (n + 1) (by omega)]
    have hz : ¬ nI (n + 1) = 0 := nI_ne0 (by omega) (by omega)
    by_cases c : u (n + 1) < (amn u 0 999999 (n + 1)).2
    · rw [if_pos c, if_pos (Or.inr c)]
    · rw [if_neg c, if_neg (fun q => q.elim hz c)]
theorem amd_N {v u : Nat → Int32} {N : Nat} (h0 : v 0 < 999999) (hN : 0 < N) (h : ∀ k, k < N → v k = u k) (hb : N < 2 ^ 31) : (amd v N).1 = (amn u 0 999999 N).1 := by
  obtain ⟨n, rfl⟩ : ∃ n, N = n + 1 := ⟨N - 1, by omega⟩
  rw [amd_eq h0 n h hb]
theorem mil_r : ∀ w : Nat, w < 41 → mn 20 (nI w - 20 + 5) = mn (nI w - 20 + 5) 20 ∧ -20 ≤ (mn (nI w - 20 + 5) 20).toInt ∧ (mn (nI w - 20 + 5) 20).toInt ≤ 20 := by decide
theorem r_milder {K : CS} {M : MS} (h : Rel K M) (a : Int32) : Ag (cMilder K a) (qMilder M (K.1 0).2.1 (K.1 0).1 a) := by
  unfold cMilder qMilder
  by_cases c : inb 1 60 a = true
  · rw [if_pos c, if_pos c]
    have hg : ∀ i, i < 12 → RP (tM (K.1 2) (K.1 0) (ix a) (i + 1)) (mGo (upd M.1 (2 + i) (mn (M.1 (2 + i) + 5) 20)) (K.1 0).2.1 (K.1 0).1 (ix a)) := fun i hi => by
      have hcp := copy_eq (P := tM (K.1 2) (K.1 0) (ix a) i) h.1.1
      obtain ⟨d1, d2, d3⟩ := hcp.2.2.1 i hi
      obtain ⟨w, hw, ex⟩ := wx d2 d3
      obtain ⟨z1, z2, z3⟩ := mil_r w hw
      rw [← ex] at z1 z2 z3
      have := go_eq (set_W hcp hi z2 z3) (ix a)
      rw [← z1] at this
      rw [d1]
      rw [← z1]
      exact this
    refine ⟨?_, h⟩
    dsimp only
    refine amd_N (v := vM (K.1 2) (K.1 0) (ix a)) (u := vMild M.1 (K.1 0).2.1 (K.1 0).1 (ix a)) (N := 12) ?_ (by decide) (fun i hi => ?_) (by decide)
    · obtain ⟨j, hj, e⟩ := sm_le (f := (tM (K.1 2) (K.1 0) (ix a) (0 + 1)).2.2.2.2.1) (B := 9999) 12 (fun m hm => ((hg 0 (by omega)).2.2.2.2.1 m hm).2)
      show sm (tM (K.1 2) (K.1 0) (ix a) (0 + 1)).2.2.2.2.1 12 < 999999
      rw [e, show (999999 : Int32) = nI 999999 from rfl]
      exact nI_lt (by omega) (by omega)
    · exact sm_eq 12 (fun m hm => ((hg i hi).2.2.2.2.1 m hm).1.symm)
  · rw [if_neg c, if_neg c]
    exact h.find (by decide)
