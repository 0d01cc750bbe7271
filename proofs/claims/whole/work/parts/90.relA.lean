/-! the text: numbers, items, the whole of it -/
def mN (d : Nat → Nat) : Nat → Nat
  | 0 => 0
  | k + 1 => if mN d k ≤ 9999 then 10 * mN d k + d k else mN d k
theorem one_ne : (1 : Int32) ≠ 0 := by decide
theorem mN_lt (d : Nat → Nat) : ∀ n, (∀ j, j < n → d j ≤ 9) → mN d n < 100000
  | 0, _ => by unfold mN; omega
  | n + 1, h => by
    have ih := mN_lt d n (fun j hj => h j (by omega))
    have := h n (by omega)
    unfold mN
    split <;> omega
theorem nV_eq {mt : Rw} {fr : Nat} : ∀ n, (∀ j, j < n → ∃ c : Nat, 48 ≤ c ∧ c ≤ 57 ∧ mt (fr + j) = nI c) → nV mt fr n = nI (mN (fun j => ix (mt (fr + j)) - 48) n) ∧ mN (fun j => ix (mt (fr + j)) - 48) n < 100000
  | 0, _ => ⟨rfl, by unfold mN; omega⟩
  | n + 1, h => by
    obtain ⟨ih, hb⟩ := nV_eq n (fun j hj => h j (by omega))
    obtain ⟨c, c1, c2, c3⟩ := h n (by omega)
    have ec : ix (nI c) = c := nI_clamp (by omega)
    have e1 : nV mt fr (n + 1) = if nV mt fr n ≤ 9999 then 10 * nV mt fr n + mt (fr + n) - 48 else nV mt fr n := rfl
    have e2 : mN (fun j => ix (mt (fr + j)) - 48) (n + 1) = if mN (fun j => ix (mt (fr + j)) - 48) n ≤ 9999 then 10 * mN (fun j => ix (mt (fr + j)) - 48) n + (ix (mt (fr + n)) - 48) else mN (fun j => ix (mt (fr + j)) - 48) n := rfl
    rw [e1, e2, ih, c3, ec]
    generalize mN (fun j => ix (mt (fr + j)) - 48) n = v at hb ⊢
    by_cases g : v ≤ 9999
    · rw [if_pos (show nI v ≤ 9999 from nI_le (b := 9999) g (by omega)), if_pos g, show (10 : Int32) = nI 10 from rfl, show (48 : Int32) = nI 48 from rfl, pk_mul, nI_add, pk_sub (by omega), show 10 * v + c - 48 = 10 * v + (c - 48) by omega]
      exact ⟨rfl, by omega⟩
    · rw [if_neg (show ¬ nI v ≤ 9999 from nI_ge (a := 9999) (by omega) (by omega)), if_neg g]
      exact ⟨rfl, hb⟩
theorem dgV_run {tb mt : Rw} {fr N : Nat} : ∀ k, k ≤ N → (∀ j, j < k → pDi tb (fr + j) = true ∧ ∃ c : Nat, 48 ≤ c ∧ c ≤ 57 ∧ tb (fr + j) = nI c ∧ mt (fr + j) = nI c) → dgV tb N fr 0 = dgV tb (N - k) (fr + k) (nI (min 10000 (mN (fun j => ix (mt (fr + j)) - 48) k)))
  | 0, _, _ => rfl
  | k + 1, hk, h => by
    have ih := dgV_run (tb := tb) (mt := mt) (fr := fr) (N := N) k (by omega) (fun j hj => h j (by omega))
    obtain ⟨p1, c, c1, c2, c3, c4⟩ := h k (by omega)
    have ec : ix (nI c) = c := nI_clamp (by omega)
    have hb : mN (fun j => ix (mt (fr + j)) - 48) k < 100000 := mN_lt _ k (fun j hj => by
      obtain ⟨-, c, c1, c2, -, c4⟩ := h j (by omega)
      have ec : ix (nI c) = c := nI_clamp (by omega)
      show ix (mt (fr + j)) - 48 ≤ 9
      rw [c4, ec]
      omega)
    have e2 : mN (fun j => ix (mt (fr + j)) - 48) (k + 1) = if mN (fun j => ix (mt (fr + j)) - 48) k ≤ 9999 then 10 * mN (fun j => ix (mt (fr + j)) - 48) k + (ix (mt (fr + k)) - 48) else mN (fun j => ix (mt (fr + j)) - 48) k := rfl
    rw [ih, show N - k = N - (k + 1) + 1 by omega, dgV_t p1, e2, c3, c4, ec]
    generalize mN (fun j => ix (mt (fr + j)) - 48) k = v at hb ⊢
    rw [show (10 : Int32) = nI 10 from rfl, show (48 : Int32) = nI 48 from rfl, show (10000 : Int32) = nI 10000 from rfl, pk_mul, nI_add, pk_sub (by omega), mn_nn (by omega) (by omega)]
    have e3 : min 10000 (10 * min 10000 v + c - 48) = min 10000 (if v ≤ 9999 then 10 * v + (c - 48) else v) := by
      split <;> omega
    rw [e3]
    rfl
theorem SR.num {mt : Rw} {td : Nat} {T : Tp} {x : Tx} (h : SR mt td T x) {m : Nat} (hm : m ≤ 9999) : (∃ j : Nat, j ≤ m ∧ (tkN T (nI m)).1 = nI j ∧ (numX mt td (nI m) x).2.2.1 = nI j ∧ SR mt td (tkN T (nI m)).2 (numX mt td (nI m) x)) ∨ (tkN T (nI m) = (-1, T) ∧ (numX mt td (nI m) x).2.2.2 ≠ 0 ∧ (numX mt td (nI m) x).1 = x.1) := by
  have hk2 := h.kind
  obtain ⟨⟨h0, hb, h1⟩, h2, h3, h4, h5, h6⟩ := h
  have en : numX mt td (nI m) x = musX mt td (inb 48 57 (bA mt td x.1) && inb 0 (nI m).toInt (nvX mt td x)) (x.1, x.2.1, nvX mt td x, x.2.2.2) := if_pos h5
  have em : (nI m).toInt = (m : Int) := nI_toInt (by omega)
  have hno : T.2.2.1 ≠ 2 → inb 48 57 (bA mt td x.1) = false → (tkN T (nI m) = (-1, T) ∧ (numX mt td (nI m) x).2.2.2 ≠ 0 ∧ (numX mt td (nI m) x).1 = x.1) := fun e1 e2 => by
    refine ⟨if_neg e1, ?_⟩
    rw [en, e2, Bool.false_and]
    unfold musX
    rw [if_pos h5]
    exact ⟨one_ne, rfl⟩
  rcases hk2 with ⟨e1, e2, e3⟩ | ⟨e1, e2, ⟨f1, f2, f3⟩ | ⟨f0, f1, f2, f3, f4⟩ | ⟨f0, f1, f2⟩⟩
  · exact Or.inr (hno (by rw [e2]; decide) (by rw [e3]; decide))
  · exact Or.inr (hno (by rw [f2]; decide) (by rw [e2]; exact inb_f.mpr (by have := inb_t.mp f1; omega)))
  · have hle := skW_le (pDi T.1) (td - x.1) x.1
    have hge := skW_ge (pDi T.1) (td - x.1) x.1
    have hdig : ∀ j, j < x.2.1 - x.1 → pDi T.1 (x.1 + j) = true ∧ ∃ c : Nat, 48 ≤ c ∧ c ≤ 57 ∧ T.1 (x.1 + j) = nI c ∧ mt (x.1 + j) = nI c := fun j hj => by
      have q : inb 48 57 (T.1 (x.1 + j)) = true := skW_in (p := pDi T.1) (td - x.1) x.1 (x.1 + j) (by omega) (by omega)
      have e := TB_same (h1 (x.1 + j) (by omega)) (lo := 48) (hi9 := 57) (by decide) (by decide) q
      obtain ⟨c, c1, c2, c3⟩ := inb_ix (lo := 48) (hi := 57) q
      exact ⟨q, c, c1, c2, c3, e.symm.trans c3⟩
    obtain ⟨v1, v2⟩ := nV_eq (mt := mt) (fr := x.1) (x.2.1 - x.1) (fun j hj => by
      obtain ⟨-, c, c1, c2, -, c4⟩ := hdig j hj
      exact ⟨c, c1, c2, c4⟩)
    have v3 := dgV_run (tb := T.1) (mt := mt) (fr := x.1) (N := td - x.1) (x.2.1 - x.1) (by omega) hdig
    have ed : inb 48 57 (bA mt td x.1) = true := by rw [e2]; exact f1
    have ev : nvX mt td x = nV mt x.1 (x.2.1 - x.1) := if_pos ed
    rw [ed, Bool.true_and, ev, v1] at en
    generalize mN (fun j => ix (mt (x.1 + j)) - 48) (x.2.1 - x.1) = v at v1 v2 v3 en
    have v4 : T.2.2.2.2.2 = nI (min 10000 v) := by
      rw [f4, v3]
      by_cases c : x.2.1 < td
      · have q : pDi T.1 x.2.1 = false := by
          rw [f3]
          exact skW_end (td - x.1) x.1 (by omega)
        rw [show td - x.1 - (x.2.1 - x.1) = td - x.2.1 - 1 + 1 by omega, show x.1 + (x.2.1 - x.1) = x.2.1 by omega, dgV_f q]
      · rw [show td - x.1 - (x.2.1 - x.1) = 0 by omega]
        rfl
    have ec : tkN T (nI m) = if T.2.2.2.2.2 ≤ nI m then (T.2.2.2.2.2, stepT T) else (-1, T) := if_pos f2
    rw [v4] at ec
    by_cases g : v ≤ m
    · left
      have i1 : inb 0 (nI m).toInt (nI v) = true := inb_t.mpr (by rw [em, nI_toInt (by omega)]; omega)
      rw [i1] at en
      have en2 : numX mt td (nI m) x = tokX mt td (x.1, x.2.1, nI v, 0) := by
        rw [en]
        unfold musX
        rw [if_pos h5, if_pos rfl]
      rw [show min 10000 v = v by omega, if_pos (nI_le g (by omega))] at ec
      rw [ec, en2]
      exact ⟨v, g, rfl, rfl, SR_tok ⟨h0, hb, h1⟩ h3 h6.1.1.2⟩
    · right
      have i1 : inb 0 (nI m).toInt (nI v) = false := inb_f.mpr (by rw [em, nI_toInt (by omega)]; omega)
      rw [i1] at en
      rw [if_neg (nI_ge (by omega) (by omega))] at ec
      refine ⟨ec, ?_⟩
      rw [en]
      unfold musX
      rw [if_pos h5]
      exact ⟨one_ne, rfl⟩
  · refine Or.inr (hno ?_ (by rw [e2]; exact f1))
    rw [f2]
    split <;> decide
theorem num_bad {mt : Rw} {td : Nat} {h9 : Int32} {x : Tx} (h : x.2.2.2 ≠ 0) : numX mt td h9 x = x := if_neg h
/-- an item's end, on both sides -/
def IO2 (mt : Rw) (td : Nat) (c : Bool × Tp × Pa) (r : Tx × Rw) : Prop := (c.1 = true ∧ SR mt td c.2.1 r.1 ∧ RP c.2.2 r.2) ∨ (c.1 = false ∧ r.1.2.2.2 ≠ 0 ∧ c.2.1.2.2.2.1 = r.1.1)
theorem sg_r : ∀ j : Nat, j < 21 → (-20 ≤ (-1 * nI j).toInt ∧ (-1 * nI j).toInt ≤ 20) ∧ (-20 ≤ (1 * nI j).toInt ∧ (1 * nI j).toInt ≤ 20) := by decide
theorem ixn {n : Nat} (h : n < 2 ^ 31) : ix (nI n) = n := nI_clamp h
theorem neg1 : (-1 : Int32) < 0 := by decide
theorem it_we {mt : Rw} {td : Nat} {T : Tp} {x : Tx} {P : Pa} {s : Rw} (h : SR mt td T x) (hp : RP P s) {g : Int32} (hg : g = -1 ∨ g = 1) : IO2 mt td (tkWe T P g) (wiX mt td g x s) := by
  have h1 := h.step
  have hA := h1.num (m := 11) (by omega)
  have eA : tkN (stepT T) (nI 11) = wA T := rfl
  have e2 : numX mt td (nI 11) (musX mt td true x) = x2X mt td 11 x := rfl
  rw [eA, e2] at hA
  unfold tkWe wiX
  rcases hA with ⟨j, hj, a1, a2, a3⟩ | ⟨a1, a2, a3⟩
  · rw [if_neg (by rw [a1]; exact nI_pos (by omega))]
    have hB := a3.num (m := 20) (by omega)
    have eB : tkN (wA T).2 (nI 20) = wB1 T := rfl
    have e3 : numX mt td (nI 20) (x2X mt td 11 x) = x3X mt td 11 20 x := rfl
    rw [eB, e3] at hB
    rcases hB with ⟨i, hi, b1, b2, b3⟩ | ⟨b1, b2, b3⟩
    · rw [if_neg (by rw [b1]; exact nI_pos (by omega)), if_pos b3.2.2.2.2.1, a1, a2, b1, b2, ixn (by omega)]
      refine Or.inl ⟨rfl, b3, ?_⟩
      have hr := sg_r i (by omega)
      rcases hg with rfl | rfl
      · exact set_W hp (by omega) hr.1.1 hr.1.2
      · exact set_W hp (by omega) hr.2.1 hr.2.2
    · rw [b1, if_pos neg1]
      refine Or.inr ⟨rfl, b2, ?_⟩
      rw [b3]
      exact a3.2.1
  · rw [a1, if_pos neg1]
    have e3 : x3X mt td 11 20 x = x2X mt td 11 x := num_bad a2
    rw [e3]
    refine Or.inr ⟨rfl, a2, ?_⟩
    show (stepT T).2.2.2.1 = (x2X mt td 11 x).1
    rw [a3]
    exact h1.2.1
theorem it_st {mt : Rw} {td : Nat} {T : Tp} {x : Tx} {P : Pa} {s : Rw} (h : SR mt td T x) (hp : RP P s) : IO2 mt td (tkSt T P) (siX mt td x s) := by
  have h1 := h.step
  have hA := h1.num (m := 11) (by omega)
  have eA : tkN (stepT T) (nI 11) = sA1 T := rfl
  have e2 : numX mt td (nI 11) (musX mt td true x) = x2X mt td 11 x := rfl
  rw [eA, e2] at hA
  unfold tkSt siX
  rcases hA with ⟨j, hj, a1, a2, a3⟩ | ⟨a1, a2, a3⟩
  · rw [if_neg (by rw [a1]; exact nI_pos (by omega))]
    have hB := a3.num (m := 9999) (by omega)
    have eB : tkN (sA1 T).2 (nI 9999) = sN1 T := rfl
    have e3 : numX mt td (nI 9999) (x2X mt td 11 x) = x3X mt td 11 9999 x := rfl
    rw [eB, e3] at hB
    rcases hB with ⟨i, hi, b1, b2, b3⟩ | ⟨b1, b2, b3⟩
    · rw [if_neg (by rw [b1]; exact nI_pos (by omega)), if_pos b3.2.2.2.2.1, a1, a2, b1, b2, ixn (by omega)]
      exact Or.inl ⟨rfl, b3, set_S hp (by omega) (by omega)⟩
    · rw [b1, if_pos neg1]
      refine Or.inr ⟨rfl, b2, ?_⟩
      rw [b3]
      exact a3.2.1
  · rw [a1, if_pos neg1]
    have e3 : x3X mt td 11 9999 x = x2X mt td 11 x := num_bad a2
    rw [e3]
    refine Or.inr ⟨rfl, a2, ?_⟩
    show (stepT T).2.2.2.1 = (x2X mt td 11 x).1
    rw [a3]
    exact h1.2.1
theorem it_cu {mt : Rw} {td : Nat} {T : Tp} {x : Tx} {P : Pa} {s : Rw} (h : SR mt td T x) (hp : RP P s) : IO2 mt td (tkCu T P) (ciX mt td x s) := by
  have h1 := h.step
  have hA := h1.num (m := 3) (by omega)
  have eA : tkN (stepT T) (nI 3) = cA T := rfl
  have e2 : numX mt td (nI 3) (musX mt td true x) = x2X mt td 3 x := rfl
  rw [eA, e2] at hA
  unfold tkCu ciX
  rcases hA with ⟨c, hc, a1, a2, a3⟩ | ⟨a1, a2, a3⟩
  · rw [if_neg (by rw [a1]; exact nI_pos (by omega))]
    have hB := a3.num (m := 11) (by omega)
    have eB : tkN (cA T).2 (nI 11) = cB1 T := rfl
    have e3 : numX mt td (nI 11) (x2X mt td 3 x) = x3X mt td 3 11 x := rfl
    rw [eB, e3] at hB
    rcases hB with ⟨m, hm, b1, b2, b3⟩ | ⟨b1, b2, b3⟩
    · rw [if_neg (by rw [b1]; exact nI_pos (by omega)), if_pos b3.2.2.2.2.1]
      obtain ⟨x1, i, hi, x2⟩ := hp.2.2.2.1 m (by omega)
      obtain ⟨y1, j, hj, y2⟩ := hp.2.2.2.2.2.1 c (by omega) m (by omega)
      have eM : cM1 T P = nI (min i (999 - j)) := by
        unfold cM1
        rw [a1, b1, ixn (by omega), ixn (by omega), x2, y2, show (999 : Int32) = nI 999 from rfl, pk_sub hj, mn_nn (by omega) (by omega)]
      have eM2 : ciM mt td x s = nI (min i (999 - j)) := by
        unfold ciM
        rw [a2, b2, ixn (by omega), ixn (by omega), x1, y1, x2, y2, show (999 : Int32) = nI 999 from rfl, pk_sub hj, mn_nn (by omega) (by omega)]
      have hD := b3.num (m := min i (999 - j)) (by omega)
      rw [← eM2] at hD
      have eD : tkN (cB1 T).2 (ciM mt td x s) = cD1 T P := by
        rw [eM2, ← eM]
        rfl
      rw [eD] at hD
      rcases hD with ⟨n, hn, d1, d2, d3⟩ | ⟨d1, d2, d3⟩
      · rw [if_neg (by rw [d1]; exact nI_pos (by omega)), if_pos d3.2.2.2.2.1, a1, a2, b1, b2, d1, d2, ixn (by omega), ixn (by omega)]
        exact Or.inl ⟨rfl, d3, (cut_eq hp (by omega) (by omega) x2 y2 (by omega) hi (by omega)).1⟩
      · rw [d1, if_pos neg1]
        refine Or.inr ⟨rfl, d2, ?_⟩
        rw [d3]
        exact b3.2.1
    · rw [b1, if_pos neg1, if_neg b2]
      refine Or.inr ⟨rfl, b2, ?_⟩
      rw [b3]
      exact a3.2.1
  · rw [a1, if_pos neg1]
    have e3 : x3X mt td 3 11 x = x2X mt td 3 x := num_bad a2
    rw [e3, if_neg a2]
    refine Or.inr ⟨rfl, a2, ?_⟩
    show (stepT T).2.2.2.1 = (x2X mt td 3 x).1
    rw [a3]
    exact h1.2.1
theorem it_ew {mt : Rw} {td : Nat} {T : Tp} {x : Tx} {P : Pa} {s : Rw} (h : SR mt td T x) (hp : RP P s) {k : Nat} (hk : k < 6) : IO2 mt td (tkEw T P (nI k)) (eiX mt td P.2.1 (nI k) x s) := by
  have h8 := hp.2.1.2
  unfold tkEw eiX
  by_cases c : P.2.1 < 8
  · have e1 : e1X mt td P.2.1 x = musX mt td true x := by
      unfold e1X
      rw [decide_eq_true c]
    have h1 := h.step
    rw [if_neg (by omega), e1, if_pos h1.2.2.2.2.1, h1.word (k := 10) (by decide)]
    have e3 : e3X mt td P.2.1 x = numX mt td (nI 99) (musX mt td true (musX mt td true x)) := by
      unfold e3X
      rw [e1]
      rfl
    by_cases c2 : wrdX mt td (musX mt td true x) = lN (hk9 10)
    · rw [if_pos (decide_eq_true c2), if_pos (show lg_cmp (wrdX mt td (musX mt td true x)) 220503316 = 0 from (lg_cmp_eq _ _).mpr c2), e3]
      have hN9 := h1.step.num (m := 99) (by omega)
      have eN9 : tkN (stepT (stepT T)) (nI 99) = eN T := rfl
      rw [eN9] at hN9
      rcases hN9 with ⟨f, hf, a1, a2, a3⟩ | ⟨a1, a2, a3⟩
      · rw [if_neg (by rw [a1]; exact nI_pos (by omega)), a1, a2]
        exact Or.inl ⟨rfl, a3, add_eq hp c hk (by omega) rfl⟩
      · rw [a1, if_pos neg1]
        refine Or.inr ⟨rfl, a2, ?_⟩
        show (stepT (stepT T)).2.2.2.1 = (numX mt td (nI 99) (musX mt td true (musX mt td true x))).1
        rw [a3]
        exact h1.step.2.1
    · rw [if_neg (fun q => c2 (of_decide_eq_true q)), if_neg (show ¬ lg_cmp (wrdX mt td (musX mt td true x)) 220503316 = 0 from fun q => c2 ((lg_cmp_eq _ _).mp q))]
      exact Or.inl ⟨rfl, h1, add_eq hp c hk (f := 0) (by omega) (mAdd_0 _ _ _).symm⟩
  · have e1 : e1X mt td P.2.1 x = (x.1, x.2.1, x.2.2.1, 1) := by
      unfold e1X musX
      rw [decide_eq_false c, if_pos h.2.2.2.2.1]
      rfl
    rw [if_pos (by omega), e1, if_neg (show ¬ (1 : Int32) = 0 by decide)]
    exact Or.inr ⟨rfl, one_ne, h.2.1⟩
theorem kd_eq {mt : Rw} {td : Nat} {T : Tp} {x : Tx} (h : SR mt td T x) : kdN T = kdX (wrdX mt td x) ∧ (kdN T < 0 ∨ ∃ k : Nat, k < 6 ∧ kdN T = nI k) := by
  have hw : ∀ k, k < 6 → isW T.1 T.2.2.1 T.2.2.2.1 T.2.2.2.2.1 k = decide (lg_cmp (wrdX mt td x) (lN (hk9 k)) = 0) := fun k hk => by
    have : isWT T k = _ := h.word (k := k) (by omega)
    rw [show isW T.1 T.2.2.1 T.2.2.2.1 T.2.2.2.2.1 k = isWT T k from rfl, this]
    exact dec_cg (lg_cmp_eq _ _).symm
  unfold kdN kdX
  rw [ff_cg hw]
  generalize wrdX mt td x = w
  have key : ∀ i : Nat, i ≤ 6 → (∀ j, j < i → ¬ lg_cmp w (lN (hk9 j)) = 0) → (i < 6 → lg_cmp w (lN (hk9 i)) = 0) → fa_first (fun k => decide (lg_cmp w (lN (hk9 k)) = 0)) 6 = i := fun i hi h1 h2 => fa_first_eq hi (fun j hj => decide_eq_false (h1 j hj)) (fun q => decide_eq_true (h2 q))
  by_cases c0 : lg_cmp w 5861 = 0
  · rw [key 0 (by decide) (fun j hj => absurd hj (Nat.not_lt_zero j)) (fun _ => c0), if_pos (by decide), if_pos c0]
    exact ⟨rfl, Or.inr ⟨0, by decide, rfl⟩⟩
  rw [if_neg c0]
  by_cases c1 : lg_cmp w 18477 = 0
  · rw [key 1 (by decide) (fun j hj => by rw [show j = 0 by omega]; exact c0) (fun _ => c1), if_pos (by decide), if_pos c1]
    exact ⟨rfl, Or.inr ⟨1, by decide, rfl⟩⟩
  rw [if_neg c1]
  by_cases c2 : lg_cmp w 394658 = 0
  · rw [key 2 (by decide) (fun j hj => by rcases (show j = 0 ∨ j = 1 by omega) with rfl | rfl; exact c0; exact c1) (fun _ => c2), if_pos (by decide), if_pos c2]
    exact ⟨rfl, Or.inr ⟨2, by decide, rfl⟩⟩
  rw [if_neg c2]
  by_cases c3 : lg_cmp w 777658546 = 0
  · rw [key 3 (by decide) (fun j hj => by rcases (show j = 0 ∨ j = 1 ∨ j = 2 by omega) with rfl | rfl | rfl; exact c0; exact c1; exact c2) (fun _ => c3), if_pos (by decide), if_pos c3]
    exact ⟨rfl, Or.inr ⟨3, by decide, rfl⟩⟩
  rw [if_neg c3]
  by_cases c4 : lg_cmp w 2491499 = 0
  · rw [key 4 (by decide) (fun j hj => by rcases (show j = 0 ∨ j = 1 ∨ j = 2 ∨ j = 3 by omega) with rfl | rfl | rfl | rfl; exact c0; exact c1; exact c2; exact c3) (fun _ => c4), if_pos (by decide), if_pos c4]
    exact ⟨rfl, Or.inr ⟨4, by decide, rfl⟩⟩
  rw [if_neg c4]
  by_cases c5 : lg_cmp w 16564 = 0
  · rw [key 5 (by decide) (fun j hj => by rcases (show j = 0 ∨ j = 1 ∨ j = 2 ∨ j = 3 ∨ j = 4 by omega) with rfl | rfl | rfl | rfl | rfl; exact c0; exact c1; exact c2; exact c3; exact c4) (fun _ => c5), if_pos (by decide), if_pos c5]
    exact ⟨rfl, Or.inr ⟨5, by decide, rfl⟩⟩
  rw [if_neg c5, key 6 (by decide) (fun j hj => by rcases (show j = 0 ∨ j = 1 ∨ j = 2 ∨ j = 3 ∨ j = 4 ∨ j = 5 by omega) with rfl | rfl | rfl | rfl | rfl | rfl; exact c0; exact c1; exact c2; exact c3; exact c4; exact c5) (fun q => absurd q (by decide)), if_neg (by decide)]
  exact ⟨rfl, Or.inl neg1⟩
theorem it_eq {mt : Rw} {td : Nat} {T : Tp} {x : Tx} {P : Pa} {s : Rw} (h : SR mt td T x) (hp : RP P s) : IO2 mt td (tkIt T P) (itX mt td (ix (s 1)) x s) := by
  have e1 : ix (s 1) = P.2.1 := by
    have h8 := hp.2.1.2
    rw [hp.2.1.1]
    exact ixn (by omega)
  rw [e1]
  obtain ⟨k1, k2⟩ := kd_eq h
  have hw : ∀ k, k < 11 → isWT T k = decide (lg_cmp (wrdX mt td x) (lN (hk9 k)) = 0) := fun k hk => (h.word hk).trans (dec_cg (lg_cmp_eq _ _).symm)
  unfold tkIt itX
  rw [← k1]
  by_cases c : kdN T < 0
  · rw [if_pos c, if_pos c]
    by_cases c6 : lg_cmp (wrdX mt td x) 114052 = 0
    · rw [if_pos c6, if_pos (show isWT T 6 = true by rw [hw 6 (by decide)]; exact decide_eq_true c6)]
      exact it_we h hp (Or.inl rfl)
    rw [if_neg c6, if_neg (show ¬ isWT T 6 = true by rw [hw 6 (by decide)]; exact fun q => c6 (of_decide_eq_true q))]
    by_cases c7 : lg_cmp (wrdX mt td x) 435588 = 0
    · rw [if_pos c7, if_pos (show isWT T 7 = true by rw [hw 7 (by decide)]; exact decide_eq_true c7)]
      exact it_we h hp (Or.inr rfl)
    rw [if_neg c7, if_neg (show ¬ isWT T 7 = true by rw [hw 7 (by decide)]; exact fun q => c7 (of_decide_eq_true q))]
    by_cases c8 : lg_cmp (wrdX mt td x) 3764 = 0
    · rw [if_pos c8, if_pos (show isWT T 8 = true by rw [hw 8 (by decide)]; exact decide_eq_true c8)]
      exact it_cu h hp
    rw [if_neg c8, if_neg (show ¬ isWT T 8 = true by rw [hw 8 (by decide)]; exact fun q => c8 (of_decide_eq_true q))]
    by_cases c9 : lg_cmp (wrdX mt td x) 20594245 = 0
    · rw [if_pos c9, if_pos (show isWT T 9 = true by rw [hw 9 (by decide)]; exact decide_eq_true c9)]
      exact it_st h hp
    rw [if_neg c9, if_neg (show ¬ isWT T 9 = true by rw [hw 9 (by decide)]; exact fun q => c9 (of_decide_eq_true q))]
    refine Or.inr ⟨rfl, ?_⟩
    unfold musX
    rw [if_pos h.2.2.2.2.1]
    exact ⟨one_ne, h.2.1⟩
  · rw [if_neg c, if_neg c]
    rcases k2 with k2 | ⟨k, hk, k2⟩
    · exact absurd k2 c
    · rw [k2]
      exact it_ew h hp hk
theorem mo_it {T : Tp} {P : Pa} : (tkIt T P).2.2.1 = P.1 := by
  have hw : ∀ g, (tkWe T P g).2.2.1 = P.1 := by
    intro g
    unfold tkWe
    split
    · rfl
    · split
      · rfl
      · rfl
  unfold tkIt
  split
  · split
    · exact hw _
    · split
      · exact hw _
      · split
        · unfold tkCu
          split
          · rfl
          · split
            · rfl
            · split
              · rfl
              · rfl
        · split
          · unfold tkSt
            split
            · rfl
            · split
              · rfl
              · rfl
          · rfl
  · unfold tkEw
    split
    · rfl
    · split
      · split
        · rfl
        · rfl
      · rfl
/-- the end of a text, on both sides -/
def TO (mt : Rw) (td N mo : Nat) (c : Int32 × Tp × Pa) (r : Nat × Tx × Rw) : Prop := r.2.1.1 ≤ 120 ∧ ((r.2.1.2.2.2 = 0 ∧ td ≤ r.2.1.1 ∧ r.1 ≤ N ∧ c.1 = nI r.1 ∧ RP c.2.2 r.2.2 ∧ c.2.2.1 = mo) ∨ (c.1 = -1 - nI r.2.1.1 ∧ (r.2.1.2.2.2 ≠ 0 ∨ r.2.1.1 < td)))
theorem pl_bad {mt : Rw} {td : Nat} {r : Tx × Rw} (h : r.1.2.2.2 ≠ 0 ∨ ¬ bA mt td r.1.1 = 59) : ∀ n i, plX mt td n i r = (i, r)
  | 0, _ => rfl
  | n + 1, i => by
    rw [plX_s]
    rcases h with h | h
    · rw [if_neg h]
    · by_cases c : r.1.2.2.2 = 0
      · rw [if_pos c, if_neg h]
      · rw [if_neg c]
theorem ap_eq {mt : Rw} {td : Nat} (htd : td ≤ 120) : ∀ (n m i : Nat) (T : Tp) (x : Tx) (P : Pa) (s : Rw), SR mt td T x → RP P s → td ≤ x.1 + n → td ≤ x.1 + m → TO mt td (i + n) P.1 (apR n i T P) (plX mt td m i (itX mt td (ix (s 1)) x s)) := by
  intro n
  induction n with
  | zero =>
    intro m i T x P s h hp hn hm
    have hi := it_eq h hp
    have hg : GX td x (itX mt td (ix (s 1)) x s).1 := GX_it htd h.2.2.2.2.2
    have hx : td ≤ x.1 := by omega
    rcases h.kind with ⟨e1, e2, e3⟩ | ⟨e1, -⟩
    · have hno : (tkIt T P) = (false, T, P) := by
        have hw : ∀ k, isWT T k = false := fun k => by
          unfold isWT isW
          rw [e2, decide_eq_false (by decide), Bool.false_and]
        have hk : kdN T = -1 := by
          unfold kdN
          rw [show fa_first (isW T.1 T.2.2.1 T.2.2.2.1 T.2.2.2.2.1) 6 = 6 from ff_all.mpr (fun j _ => hw j), if_neg (by decide)]
        unfold tkIt
        rw [hk, if_pos neg1, hw, hw, hw, hw]
        rfl
      rw [hno] at hi
      rcases hi with ⟨q, -⟩ | ⟨-, q1, q2⟩
      · exact Bool.noConfusion q
      · rw [pl_bad (Or.inl q1)]
        refine ⟨hg.1.1.1, Or.inr ⟨?_, Or.inl q1⟩⟩
        show -1 - nI T.2.2.2.1 = _
        rw [← q2]
    · omega
  | succ n ih =>
    intro m i T x P s h hp hn hm
    have hi := it_eq h hp
    have hg : GX td x (itX mt td (ix (s 1)) x s).1 := GX_it htd h.2.2.2.2.2
    have hmo := mo_it (T := T) (P := P)
    have eA : apR (n + 1) i T P = if (tkIt T P).1 then (if (tkIt T P).2.1.2.2.1 = 0 then (nI i, (tkIt T P).2) else if (tkIt T P).2.1.2.2.1 = 3 then apR n (i + 1) (stepT (tkIt T P).2.1) (tkIt T P).2.2 else (-1 - nI (tkIt T P).2.1.2.2.2.1, (tkIt T P).2)) else (-1 - nI (tkIt T P).2.1.2.2.2.1, (tkIt T P).2) := rfl
    rw [eA]
    generalize tkIt T P = c at hi hmo ⊢
    generalize itX mt td (ix (s 1)) x s = r at hi hg ⊢
    rcases hi with ⟨q, q1, q2⟩ | ⟨q, q1, q2⟩
    · rw [if_pos q]
      rcases q1.kind with ⟨e1, e2, e3⟩ | ⟨e1, e2, e5⟩
      · rw [if_pos e2, pl_bad (Or.inr (by rw [e3]; decide))]
        exact ⟨hg.1.1.1, Or.inl ⟨q1.2.2.2.2.1, e1, by show i ≤ _; omega, rfl, q2, hmo⟩⟩
      · by_cases c59 : mt r.1.1 = 59
        · have e6 : c.2.1.2.2.1 = 3 := by
            rcases e5 with ⟨f1, -⟩ | ⟨-, f1, -⟩ | ⟨-, -, f2⟩
            · rw [c59] at f1
              exact absurd f1 (by decide)
            · rw [c59] at f1
              exact absurd f1 (by decide)
            · rw [f2, if_pos c59]
          have hst := q1.step
          have hadv := GX_adv (mt := mt) (x := r.1) htd q1.2.2.2.2.2.1.1 q1.2.2.2.2.1
          have hlt := q1.2.2.2.2.2.1.2.2 e1
          have hge := hg.2
          rw [if_neg (by rw [e6]; decide), if_pos e6]
          obtain ⟨m2, rfl⟩ : ∃ m2, m = m2 + 1 := ⟨m - 1, by omega⟩
          rw [plX_s, if_pos q1.2.2.2.2.1, if_pos (by rw [e2]; exact c59)]
          have := ih m2 (i + 1) _ _ _ _ hst q2 (by omega) (by omega)
          rw [hmo, show i + 1 + n = i + (n + 1) by omega] at this
          exact this
        · have e6 : c.2.1.2.2.1 ≠ 0 ∧ c.2.1.2.2.1 ≠ 3 := by
            rcases e5 with ⟨-, f2, -⟩ | ⟨-, -, f2, -⟩ | ⟨-, -, f2⟩
            · rw [f2]
              decide
            · rw [f2]
              decide
            · rw [f2, if_neg c59]
              decide
          rw [if_neg e6.1, if_neg e6.2, pl_bad (Or.inr (by rw [e2]; exact c59))]
          refine ⟨hg.1.1.1, Or.inr ⟨?_, Or.inr e1⟩⟩
          show -1 - nI c.2.1.2.2.2.1 = _
          rw [q1.2.1]
    · rw [if_neg (by rw [q]; decide), pl_bad (Or.inl q1)]
      refine ⟨hg.1.1.1, Or.inr ⟨?_, Or.inl q1⟩⟩
      show -1 - nI c.2.1.2.2.2.1 = _
      rw [q2]
theorem bad_n : ∀ j : Nat, j ≤ 120 → -1 - nI j < 0 := by decide
theorem r_parish {K : CS} {M : MS} (h : Rel K M) : Ag (cParish K) (qParish M) := by
  obtain ⟨t1, t2, t3⟩ := h.2.2.1
  have hc := copy_eq (P := K.1 2) h.1.1
  have h0 : SR M.2.2.2.2.2.2.1 M.2.2.2.2.2.2.2.1 (stepT (tE0 K.2.1)) (tokX M.2.2.2.2.2.2.1 M.2.2.2.2.2.2.2.1 (M.2.2.2.2.2.2.2.2.1, 0, M.2.2.2.2.2.2.2.2.2.2.1, 0)) := SR_tok (T := tE0 K.2.1) ⟨t1, t2, t3⟩ rfl (Nat.zero_le _)
  have hk := ap_eq t2 120 121 1 _ _ _ _ h0 hc (by omega) (by omega)
  have e1 : apR 120 1 (stepT (tE0 K.2.1)) (pCopy (K.1 2) (K.1 0)) = cPr K := rfl
  have e2 : plX M.2.2.2.2.2.2.1 M.2.2.2.2.2.2.2.1 121 1 (itX M.2.2.2.2.2.2.1 M.2.2.2.2.2.2.2.1 (ix (M.1 1)) (tokX M.2.2.2.2.2.2.1 M.2.2.2.2.2.2.2.1 (M.2.2.2.2.2.2.2.2.1, 0, M.2.2.2.2.2.2.2.2.2.2.1, 0)) M.1) = qPr M := rfl
  rw [e1, e2] at hk
  unfold cParish qParish qBad
  generalize cPr K = c at hk ⊢
  generalize qPr M = r at hk ⊢
  have hz : R3 (tZ0 c.2.1) M.2.2.2.2.2.2.1 0 := ⟨rfl, Nat.zero_le _, fun j hj => absurd hj (Nat.not_lt_zero j)⟩
  obtain ⟨k0, k1⟩ := hk
  rcases k1 with ⟨k1, k2, k3, k4, k5, k6⟩ | ⟨k1, k2⟩
  · rw [if_neg (by rw [k4]; exact nI_pos (by omega)), if_pos k1, if_pos k2]
    refine ⟨k4, ⟨copy_eq k5, ?_⟩, h.2.1, hz, h.2.2.2.1, h.2.2.2.2⟩
    show c.2.2.1 ≤ 9999
    rw [k6]
    exact h.1.2
  · rw [if_pos (by rw [k1]; exact bad_n _ k0)]
    have hb : Ag (c.1, (va_up K.1 2 c.2.2, tZ0 c.2.1, K.2.2)) (-1 - nI r.2.1.1, (M.1, M.2.1, M.1, M.2.2.2.1, M.2.2.2.2.1, M.2.2.2.2.2.1, M.2.2.2.2.2.2.1, 0, r.2.1.1, r.2.1.2.1, r.2.1.2.2.1, 1, M.2.2.2.2.2.2.2.2.2.2.2.2.1, M.2.2.2.2.2.2.2.2.2.2.2.2.2.1, M.2.2.2.2.2.2.2.2.2.2.2.2.2.2.1, M.2.2.2.2.2.2.2.2.2.2.2.2.2.2.2)) := ⟨k1, h.1, h.2.1, hz, h.2.2.2.1, h.2.2.2.2⟩
    by_cases c1 : r.2.1.2.2.2 = 0
    · rw [if_pos c1, if_neg (by rcases k2 with k2 | k2; exact absurd c1 k2; omega)]
      exact hb
    · rw [if_neg c1]
      exact hb
