/-! the text: tokens -/
theorem TB_eq {a b : Int32} (h : TB a b) {v : Int32} (h1 : 0 ≤ v.toInt) (h2 : v.toInt ≤ 127) : a = v ↔ b = v := by
  rcases h with rfl | ⟨h3, h4⟩
  · exact Iff.rfl
  · rw [fa_eq, fa_eq]
    omega
theorem TB_in {a b : Int32} (h : TB a b) {lo hi9 : Int} (h1 : 0 ≤ lo) (h2 : hi9 ≤ 127) : inb lo hi9 a = inb lo hi9 b := by
  rcases h with rfl | ⟨h3, h4⟩
  · rfl
  · rw [inb_f.mpr (by omega), inb_f.mpr (by omega)]
theorem TB_same {a b : Int32} (h : TB a b) {lo hi9 : Int} (h1 : 0 ≤ lo) (h2 : hi9 ≤ 127) (h3 : inb lo hi9 a = true) : a = b := by
  rcases h with rfl | ⟨h4, h5⟩
  · rfl
  · have := inb_t.mp h3
    omega
theorem bA_i {mt : Rw} {td i : Nat} (h : i < td) : bA mt td i = mt i := if_pos h
theorem skW_cg {p q : Nat → Bool} : ∀ n i, (∀ j, i ≤ j → j < i + n → p j = q j) → skW p n i = skW q n i
  | 0, _, _ => rfl
  | n + 1, i, h => by
    unfold skW
    rw [h i (Nat.le_refl _) (by omega), skW_cg n (i + 1) (fun j h1 h2 => h j (by omega) (by omega))]
theorem skW_in {p : Nat → Bool} : ∀ n i j, i ≤ j → j < skW p n i → p j = true
  | 0, i, j, h1, h2 => absurd h2 (by unfold skW; omega)
  | n + 1, i, j, h1, h2 => by
    cases c : p i
    · rw [skW_f c] at h2
      omega
    · rw [skW_t c] at h2
      by_cases e : j = i
      · rw [e]
        exact c
      · exact skW_in n (i + 1) j (by omega) h2
theorem skW_end {p : Nat → Bool} : ∀ n i, skW p n i < i + n → p (skW p n i) = false
  | 0, i, h => absurd h (by unfold skW; omega)
  | n + 1, i, h => by
    cases c : p i
    · rw [skW_f c]
      exact c
    · rw [skW_t c] at h ⊢
      exact skW_end n (i + 1) (by omega)
theorem skW_no {p : Nat → Bool} {n i : Nat} (h : p i = false) : skW p n i = i := by
  cases n with
  | zero => rfl
  | succ n => exact skW_f h
theorem stE_1 (T : Tp) (a : Nat) : (stE T a).1 = T.1 ∧ (stE T a).2.1 = T.2.1 ∧ (stE T a).2.2.2.1 = a := by
  unfold stE
  split
  · split
    · exact ⟨rfl, rfl, rfl⟩
    · split
      · exact ⟨rfl, rfl, rfl⟩
      · exact ⟨rfl, rfl, rfl⟩
  · exact ⟨rfl, rfl, rfl⟩
theorem stE_id (T : Tp) (a : Nat) : stE (stE T a) a = stE T a := by
  by_cases c1 : a < T.2.1
  · by_cases c2 : inb 97 122 (T.1 a) = true
    · have e : stE T a = (T.1, T.2.1, 1, a, skW (pLe T.1) (T.2.1 - a) a, T.2.2.2.2.2) := by
        unfold stE
        rw [if_pos c1, if_pos c2]
      rw [e]
      unfold stE
      dsimp only
      rw [if_pos c1, if_pos c2]
    · by_cases c3 : inb 48 57 (T.1 a) = true
      · have e : stE T a = (T.1, T.2.1, 2, a, skW (pDi T.1) (T.2.1 - a) a, dgV T.1 (T.2.1 - a) a 0) := by
          unfold stE
          rw [if_pos c1, if_neg c2, if_pos c3]
        rw [e]
        unfold stE
        dsimp only
        rw [if_pos c1, if_neg c2, if_pos c3]
      · have e : stE T a = (T.1, T.2.1, (if T.1 a = 59 then 3 else 4), a, a + 1, T.2.2.2.2.2) := by
          unfold stE
          rw [if_pos c1, if_neg c2, if_neg c3]
        rw [e]
        unfold stE
        dsimp only
        rw [if_pos c1, if_neg c2, if_neg c3]
  · have e : stE T a = (T.1, T.2.1, 0, a, a, T.2.2.2.2.2) := by
      unfold stE
      rw [if_neg c1]
    rw [e]
    unfold stE
    dsimp only
    rw [if_neg c1]
theorem stE_end {T : Tp} {mt : Rw} {td : Nat} (h : R3 T mt td) (a : Nat) : (stE T a).2.2.2.2.1 = tkC mt td a := by
  obtain ⟨h1, h2, h3⟩ := h
  unfold stE tkC
  rw [h1]
  by_cases c1 : a < td
  · have eB : tkB td a = a + 1 := if_pos c1
    have hb := h3 a c1
    rw [if_pos c1, eB, bA_i c1, ← TB_in hb (by decide) (by decide), ← TB_in hb (by decide) (by decide)]
    by_cases c2 : inb 97 122 (T.1 a) = true
    · have c3 : inb 48 57 (T.1 a) = false := inb_f.mpr (by have := inb_t.mp c2; omega)
      rw [if_pos c2, c2, c3]
      show skW (pLe T.1) (td - a) a = _
      rw [show td - a = td - (a + 1) + 1 by omega, skW_t (show pLe T.1 a = true from c2)]
      refine skW_cg _ _ (fun j q1 q2 => ?_)
      show inb 97 122 (T.1 j) = ((true && inb 97 122 (bA mt td j)) || (false && inb 48 57 (bA mt td j)))
      rw [bA_i (by omega), TB_in (h3 j (by omega)) (by decide) (by decide), Bool.true_and, Bool.false_and, Bool.or_false]
    · rw [if_neg c2]
      have c2' : inb 97 122 (T.1 a) = false := Bool.eq_false_iff.mpr c2
      by_cases c3 : inb 48 57 (T.1 a) = true
      · rw [if_pos c3, c3, c2']
        show skW (pDi T.1) (td - a) a = _
        rw [show td - a = td - (a + 1) + 1 by omega, skW_t (show pDi T.1 a = true from c3)]
        refine skW_cg _ _ (fun j q1 q2 => ?_)
        show inb 48 57 (T.1 j) = ((false && inb 97 122 (bA mt td j)) || (true && inb 48 57 (bA mt td j)))
        rw [bA_i (by omega), TB_in (h3 j (by omega)) (by decide) (by decide), Bool.true_and, Bool.false_and, Bool.false_or]
      · have c3' : inb 48 57 (T.1 a) = false := Bool.eq_false_iff.mpr c3
        rw [if_neg c3, c3', c2']
        refine (skW_no ?_).symm
        show ((false && _) || (false && _)) = false
        rw [Bool.false_and, Bool.false_and]
        rfl
  · have eB : tkB td a = a := if_neg c1
    rw [if_neg c1, eB, show td - a = 0 by omega]
    rfl
theorem stA_eq {T : Tp} {mt : Rw} {td : Nat} (h : R3 T mt td) : stA T = tkA mt td T.2.2.2.2.1 := by
  obtain ⟨h1, h2, h3⟩ := h
  unfold stA tkA
  rw [h1]
  refine skW_cg _ _ (fun j q1 q2 => ?_)
  show decide (T.1 j = 32) = decide (bA mt td j = 32)
  rw [bA_i (by omega)]
  exact dec_cg (TB_eq (h3 j (by omega)) (by decide) (by decide))
/-- both stand on the same token -/
def SR (mt : Rw) (td : Nat) (T : Tp) (x : Tx) : Prop := R3 T mt td ∧ T.2.2.2.1 = x.1 ∧ T.2.2.2.2.1 = x.2.1 ∧ stE T T.2.2.2.1 = T ∧ x.2.2.2 = 0 ∧ GX td x x
theorem SR_tok {mt : Rw} {td : Nat} {T : Tp} {a b : Nat} {v : Int32} (h : R3 T mt td) (h2 : T.2.2.2.2.1 = b) (hb : b ≤ 120) : SR mt td (stepT T) (tokX mt td (a, b, v, 0)) := by
  have e1 := stA_eq h
  rw [h2] at e1
  have e2 := stE_end h (stA T)
  obtain ⟨f1, f2, f3⟩ := stE_1 T (stA T)
  have hg := GX_tok (mt := mt) (x := (a, b, v, 0)) h.2.1 hb
  refine ⟨⟨f2.trans h.1, h.2.1, fun j hj => ?_⟩, f3.trans e1, e2.trans (by rw [e1]; rfl), ?_, rfl, ⟨⟨hg.1, hg.2.1, hg.2.2.1⟩, Nat.le_refl _⟩⟩
  · show TB ((stE T (stA T)).1 j) (mt j)
    rw [f1]
    exact h.2.2 j hj
  · show stE (stE T (stA T)) (stE T (stA T)).2.2.2.1 = stE T (stA T)
    rw [f3]
    exact stE_id T (stA T)
theorem SR.step {mt : Rw} {td : Nat} {T : Tp} {x : Tx} (h : SR mt td T x) : SR mt td (stepT T) (musX mt td true x) := by
  obtain ⟨h1, h2, h3, h4, h5, h6⟩ := h
  have e : musX mt td true x = tokX mt td (x.1, x.2.1, x.2.2.1, 0) := by
    unfold musX
    rw [if_pos h5, if_pos rfl]
  rw [e]
  exact SR_tok h1 h3 h6.1.1.2
theorem SR.kind {mt : Rw} {td : Nat} {T : Tp} {x : Tx} (h : SR mt td T x) : (td ≤ x.1 ∧ T.2.2.1 = 0 ∧ bA mt td x.1 = -1) ∨ (x.1 < td ∧ bA mt td x.1 = mt x.1 ∧ ((inb 97 122 (mt x.1) = true ∧ T.2.2.1 = 1 ∧ x.2.1 = skW (pLe T.1) (td - x.1) x.1) ∨ (inb 97 122 (mt x.1) = false ∧ inb 48 57 (mt x.1) = true ∧ T.2.2.1 = 2 ∧ x.2.1 = skW (pDi T.1) (td - x.1) x.1 ∧ T.2.2.2.2.2 = dgV T.1 (td - x.1) x.1 0) ∨ (inb 97 122 (mt x.1) = false ∧ inb 48 57 (mt x.1) = false ∧ T.2.2.1 = if mt x.1 = 59 then 3 else 4))) := by
  obtain ⟨⟨h0, hb, h1⟩, h2, h3, h4, h5, h6⟩ := h
  rw [h2] at h4
  have e3 : (stE T x.1).2.2.2.2.1 = x.2.1 := by rw [h4]; exact h3
  by_cases c1 : x.1 < td
  · right
    refine ⟨c1, bA_i c1, ?_⟩
    have hT := h1 x.1 c1
    have i1 := TB_in hT (lo := 97) (hi9 := 122) (by decide) (by decide)
    have i2 := TB_in hT (lo := 48) (hi9 := 57) (by decide) (by decide)
    rw [← i1, ← i2]
    by_cases c2 : inb 97 122 (T.1 x.1) = true
    · left
      have e : stE T x.1 = (T.1, T.2.1, 1, x.1, skW (pLe T.1) (T.2.1 - x.1) x.1, T.2.2.2.2.2) := by
        unfold stE
        rw [if_pos (by rw [h0]; exact c1), if_pos c2]
      rw [h4] at e
      refine ⟨c2, congrArg (fun z => z.2.2.1) e, ?_⟩
      rw [← h3, ← h0]
      exact congrArg (fun z => z.2.2.2.2.1) e
    · right
      have c2' : inb 97 122 (T.1 x.1) = false := Bool.eq_false_iff.mpr c2
      by_cases c3 : inb 48 57 (T.1 x.1) = true
      · left
        have e : stE T x.1 = (T.1, T.2.1, 2, x.1, skW (pDi T.1) (T.2.1 - x.1) x.1, dgV T.1 (T.2.1 - x.1) x.1 0) := by
          unfold stE
          rw [if_pos (by rw [h0]; exact c1), if_neg c2, if_pos c3]
        rw [h4] at e
        refine ⟨c2', c3, congrArg (fun z => z.2.2.1) e, ?_, ?_⟩
        · rw [← h3, ← h0]
          exact congrArg (fun z => z.2.2.2.2.1) e
        · rw [← h0]
          exact congrArg (fun z => z.2.2.2.2.2) e
      · right
        have c3' : inb 48 57 (T.1 x.1) = false := Bool.eq_false_iff.mpr c3
        have e : stE T x.1 = (T.1, T.2.1, (if T.1 x.1 = 59 then 3 else 4), x.1, x.1 + 1, T.2.2.2.2.2) := by
          unfold stE
          rw [if_pos (by rw [h0]; exact c1), if_neg c2, if_neg c3]
        rw [h4] at e
        refine ⟨c2', c3', ?_⟩
        have e5 : T.2.2.1 = if T.1 x.1 = 59 then 3 else 4 := congrArg (fun z => z.2.2.1) e
        rw [e5]
        have q := TB_eq hT (v := 59) (by decide) (by decide)
        by_cases c4 : T.1 x.1 = 59
        · rw [if_pos c4, if_pos (q.mp c4)]
        · rw [if_neg c4, if_neg (fun z => c4 (q.mpr z))]
  · left
    have e : stE T x.1 = (T.1, T.2.1, 0, x.1, x.1, T.2.2.2.2.2) := by
      unfold stE
      rw [if_neg (by rw [h0]; exact c1)]
    rw [h4] at e
    exact ⟨by omega, congrArg (fun z => z.2.2.1) e, bA_o (by omega)⟩
/-- a word's number -/
def hN (d : Nat → Nat) : Nat → Nat
  | 0 => 0
  | k + 1 => if hN d k ≤ 36028797018963967 then 32 * hN d k + d k else hN d k
theorem hN_lt (d : Nat → Nat) : ∀ n, (∀ j, j < n → d j < 32) → hN d n < 2 ^ 61
  | 0, _ => by unfold hN; omega
  | n + 1, h => by
    have ih := hN_lt d n (fun j hj => h j (by omega))
    have := h n (by omega)
    unfold hN
    split <;> omega
theorem hN_sm (d : Nat → Nat) : ∀ n, n ≤ 6 → (∀ j, j < n → d j < 32) → hN d n < 32 ^ n
  | 0, _, _ => by unfold hN; omega
  | n + 1, hn, h => by
    have ih := hN_sm d n (by omega) (fun j hj => h j (by omega))
    have := h n (by omega)
    have hp : 32 ^ n ≤ 32 ^ 6 := Nat.pow_le_pow_right (by decide) (by omega)
    have e : 32 ^ (n + 1) = 32 ^ n * 32 := Nat.pow_succ ..
    unfold hN
    rw [e]
    split <;> omega
theorem hN_cg {d e : Nat → Nat} : ∀ n, (∀ j, j < n → d j = e j) → hN d n = hN e n
  | 0, _ => rfl
  | n + 1, h => by
    unfold hN
    rw [hN_cg n (fun j hj => h j (by omega)), h n (by omega)]
theorem hN_inj {d e : Nat → Nat} : ∀ L n, L ≤ 6 → (∀ j, j < L → 0 < e j ∧ e j < 32) → (∀ j, j < n → 0 < d j ∧ d j < 32) → hN d n = hN e L → n = L ∧ ∀ j, j < L → d j = e j
  | 0, 0, _, _, _, _ => ⟨rfl, fun j hj => absurd hj (Nat.not_lt_zero j)⟩
  | 0, n + 1, _, _, hd, h => by
    exfalso
    have := hd n (by omega)
    have e0 : hN e 0 = 0 := rfl
    rw [e0] at h
    unfold hN at h
    split at h <;> omega
  | L + 1, 0, hL, he, _, h => by
    exfalso
    have := he L (by omega)
    have e0 : hN d 0 = 0 := rfl
    rw [e0] at h
    unfold hN at h
    split at h <;> omega
  | L + 1, n + 1, hL, he, hd, h => by
    have b1 := hN_sm e L (by omega) (fun j hj => (he j (by omega)).2)
    have b2 := hN_sm e (L + 1) hL (fun j hj => (he j (by omega)).2)
    have hp : 32 ^ L ≤ 32 ^ 6 := Nat.pow_le_pow_right (by decide) (by omega)
    have hp2 : 32 ^ (L + 1) ≤ 32 ^ 6 := Nat.pow_le_pow_right (by decide) (by omega)
    have d1 := hd n (by omega)
    have d2 := he L (by omega)
    have e1 : hN e (L + 1) = 32 * hN e L + e L := if_pos (by omega)
    by_cases c : hN d n ≤ 36028797018963967
    · have e2 : hN d (n + 1) = 32 * hN d n + d n := if_pos c
      rw [e1, e2] at h
      obtain ⟨i1, i2⟩ := hN_inj L n (by omega) (fun j hj => he j (by omega)) (fun j hj => hd j (by omega)) (by omega)
      subst i1
      refine ⟨rfl, fun j hj => ?_⟩
      by_cases q : j = n
      · rw [q]
        omega
      · exact i2 j (by omega)
    · have e2 : hN d (n + 1) = hN d n := if_neg c
      rw [e2] at h
      omega
theorem hsh_eq {mt : Rw} {fr : Nat} : ∀ n, (∀ j, j < n → ∃ c : Nat, 97 ≤ c ∧ c ≤ 122 ∧ mt (fr + j) = nI c) → hsh mt fr n = lN (hN (fun j => ix (mt (fr + j)) - 96) n)
  | 0, _ => rfl
  | n + 1, h => by
    have ih := hsh_eq n (fun j hj => h j (by omega))
    have hb : hN (fun j => ix (mt (fr + j)) - 96) n < 2 ^ 61 := hN_lt _ n (fun j hj => by
      obtain ⟨c, c1, c2, c3⟩ := h j (by omega)
      have ec : ix (nI c) = c := nI_clamp (by omega)
      show ix (mt (fr + j)) - 96 < 32
      rw [c3, ec]
      omega)
    obtain ⟨c, c1, c2, c3⟩ := h n (by omega)
    have ec : ix (nI c) = c := nI_clamp (by omega)
    show (if lg_cmp (hsh mt fr n) 36028797018963967 ≤ 0 then 32 * hsh mt fr n + (mt (fr + n) - 96).toInt64 else hsh mt fr n) = lN (if hN (fun j => ix (mt (fr + j)) - 96) n ≤ 36028797018963967 then 32 * hN (fun j => ix (mt (fr + j)) - 96) n + (ix (mt (fr + n)) - 96) else hN (fun j => ix (mt (fr + j)) - 96) n)
    rw [ih, c3, ec]
    generalize hN (fun j => ix (mt (fr + j)) - 96) n = v at hb ⊢
    have q : lg_cmp (lN v) 36028797018963967 ≤ 0 ↔ v ≤ 36028797018963967 := by
      rw [lg_cmp_le, fa_le64, pk_lT (by omega), show (36028797018963967 : Int64).toInt = 36028797018963967 from rfl]
      omega
    by_cases g : v ≤ 36028797018963967
    · rw [if_pos (q.mpr g), if_pos g, show (96 : Int32) = nI 96 from rfl, pk_sub (by omega), nI_l (by omega), show (32 : Int64) = lN 32 from rfl, lN_mul, lN_add]
    · rw [if_neg (fun z => g (q.mp z)), if_neg g]
def hk9 (k : Nat) : Nat := [5861, 18477, 394658, 777658546, 2491499, 16564, 114052, 435588, 3764, 20594245, 220503316].getD k 0
theorem hk_eq : ∀ k, k < 11 → hN (fun j => ix (sB k j) - 96) (sL k) = hk9 k ∧ 0 < hk9 k ∧ hk9 k < 2 ^ 31 := by decide +kernel
theorem sB_let : ∀ k, k < 11 → ∀ j, j < sL k → sB k j = nI (ix (sB k j)) ∧ 97 ≤ ix (sB k j) ∧ ix (sB k j) ≤ 122 := by decide +kernel
theorem ff_all {p : Nat → Bool} {n : Nat} : fa_first p n = n ↔ ∀ j, j < n → p j = false := by
  constructor
  · intro h j hj
    exact fa_first_no p n j (by omega)
  · intro h
    exact fa_first_eq (Nat.le_refl _) h (fun q => absurd q (Nat.lt_irrefl _))
theorem SR.word {mt : Rw} {td : Nat} {T : Tp} {x : Tx} (h : SR mt td T x) {k : Nat} (hk : k < 11) : isWT T k = decide (wrdX mt td x = lN (hk9 k)) := by
  have hk2 := h.kind
  obtain ⟨⟨h0, hb, h1⟩, h2, h3, h4, h5, h6⟩ := h
  obtain ⟨g1, g2, g3⟩ := hk_eq k hk
  have hne : (0 : Int64) ≠ lN (hk9 k) := fun e => by
    have := (lN_eq (a := 0) (by omega) g3).mp e
    omega
  have hno : ∀ {w : Int32}, T.2.2.1 = w → w ≠ 1 → wrdX mt td x = 0 → isWT T k = decide (wrdX mt td x = lN (hk9 k)) := fun e1 e2 e3 => by
    unfold isWT isW
    rw [e1, decide_eq_false e2, Bool.false_and, e3, decide_eq_false hne]
  have hw : ∀ b, inb 97 122 (bA mt td x.1) = b → wrdX mt td x = if b then hsh mt x.1 (x.2.1 - x.1) else 0 := fun b e => by
    unfold wrdX
    rw [if_pos h5, e]
  rcases hk2 with ⟨e1, e2, e3⟩ | ⟨e1, e2, ⟨f1, f2, f3⟩ | ⟨f0, f1, f2, f3, f4⟩ | ⟨f0, f1, f2⟩⟩
  · exact hno e2 (by decide) (hw false (by rw [e3]; decide))
  · have hle := skW_le (pLe T.1) (td - x.1) x.1
    have hlet : ∀ j, j < x.2.1 - x.1 → T.1 (x.1 + j) = mt (x.1 + j) ∧ ∃ c : Nat, 97 ≤ c ∧ c ≤ 122 ∧ mt (x.1 + j) = nI c := fun j hj => by
      have q : inb 97 122 (T.1 (x.1 + j)) = true := skW_in (p := pLe T.1) (td - x.1) x.1 (x.1 + j) (by omega) (by omega)
      have e := TB_same (h1 (x.1 + j) (by omega)) (lo := 97) (hi9 := 122) (by decide) (by decide) q
      rw [e] at q
      obtain ⟨c, c1, c2, c3⟩ := inb_ix (lo := 97) (hi := 122) q
      exact ⟨e, c, c1, c2, c3⟩
    rw [hw true (by rw [e2]; exact f1), if_pos rfl, hsh_eq _ (fun j hj => (hlet j hj).2), ← g1]
    unfold isWT isW
    rw [f2, h2, h3, decide_eq_true (show (1 : Int32) = 1 from rfl), Bool.true_and, ← Bool.decide_and]
    apply dec_cg
    have hd : ∀ j, j < x.2.1 - x.1 → 0 < ix (mt (x.1 + j)) - 96 ∧ ix (mt (x.1 + j)) - 96 < 32 := fun j hj => by
      obtain ⟨-, c, c1, c2, c3⟩ := hlet j hj
      have ec : ix (nI c) = c := nI_clamp (by omega)
      rw [c3, ec]
      omega
    have he : ∀ j, j < sL k → 0 < ix (sB k j) - 96 ∧ ix (sB k j) - 96 < 32 := fun j hj => by
      have := (sB_let k hk j hj).2
      omega
    have hl6 := sL_le k hk
    rw [fb_lN_inj (Nat.lt_of_lt_of_le (hN_lt _ _ (fun j hj => (hd j hj).2)) (by decide)) (Nat.lt_of_lt_of_le (hN_lt _ _ (fun j hj => (he j hj).2)) (by decide)), ff_all]
    constructor
    · rintro ⟨q1, q2⟩
      rw [q1]
      refine hN_cg _ (fun j hj => ?_)
      have q3 : (!decide (T.1 (x.1 + j) = sB k j)) = false := q2 j hj
      have q4 : T.1 (x.1 + j) = sB k j := Decidable.byContradiction (fun z => by
        rw [decide_eq_false z] at q3
        exact Bool.noConfusion q3)
      rw [← (hlet j (by omega)).1, q4]
    · intro q
      obtain ⟨q1, q2⟩ := hN_inj (sL k) _ hl6 he hd q
      refine ⟨q1, fun j hj => ?_⟩
      obtain ⟨l1, c, c1, c2, c3⟩ := hlet j (by omega)
      obtain ⟨s1, s2, s3⟩ := sB_let k hk j hj
      have q3 := q2 j hj
      have ec : ix (nI c) = c := nI_clamp (by omega)
      rw [c3, ec] at q3
      show (!decide (T.1 (x.1 + j) = sB k j)) = false
      rw [l1, c3, s1, show c = ix (sB k j) by omega, decide_eq_true rfl]
      rfl
  · exact hno f2 (by decide) (hw false (by rw [e2]; exact f0))
  · refine hno f2 ?_ (hw false (by rw [e2]; exact f0))
    split <;> decide
