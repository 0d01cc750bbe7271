def AgL (x : Int64 × CS) (y : Int64 × MS) : Prop := x.1 = y.1 ∧ Rel x.2 y.2
theorem lus {f : Rl} {k : Nat} {x : Int64} : vp_updL f k x k = x := if_pos rfl
theorem lne {f : Rl} {k j : Nat} {x : Int64} (h : j ≠ k) : vp_updL f k x j = f j := if_neg h
theorem lNz_eq (f : Rl) (a : Nat) : ∀ k j, lNz f a k j = if 40 * a ≤ j ∧ j < 40 * a + k then 0 else f j
  | 0, j => (if_neg (by omega)).symm
  | k + 1, j => by
    show vp_updL (lNz f a k) (40 * a + k) 0 j = _
    by_cases c : j = 40 * a + k
    · rw [c, lus, if_pos (by omega)]
    · rw [lne c, lNz_eq f a k j]
      by_cases c2 : 40 * a ≤ j ∧ j < 40 * a + k
      · rw [if_pos c2, if_pos (by omega)]
      · rw [if_neg c2, if_neg (by omega)]
theorem lCp_eq (f g : Rl) (p q : Nat) : ∀ k j, lCp f g p q k j = if p ≤ j ∧ j < p + k then g (q + (j - p)) else f j
  | 0, j => (if_neg (by omega)).symm
  | k + 1, j => by
    show vp_updL (lCp f g p q k) (p + k) (g (q + k)) j = _
    by_cases c : j = p + k
    · rw [c, lus, if_pos (by omega), show p + k - p = k by omega]
    · rw [lne c, lCp_eq f g p q k j]
      by_cases c2 : p ≤ j ∧ j < p + k
      · rw [if_pos c2, if_pos (by omega)]
      · rw [if_neg c2, if_neg (by omega)]
theorem R4_set {S : Nat → Sh} {b z : Rw} {f f2 : Rl} (h : R4 S b z f) {a n : Nat} {B : Int32} {g : Rl} (hn : n ≤ 40) (hf : ∀ i, i < 40 → f2 (40 * a + i) = g i) (ho : ∀ s, s < 4 → s ≠ a → ∀ i, i < 40 → f2 (40 * s + i) = f (40 * s + i)) : R4 (va_up S a (g, n, B)) (upd b a B) (upd z a (nI n)) f2 := fun s hs => by
  by_cases c : s = a
  · subst c
    rw [va_us, pk_us, pk_us]
    exact ⟨rfl, rfl, hn, hf⟩
  · rw [va_up_n c, upd_ne c, upd_ne c]
    obtain ⟨h1, h2, h3, h4⟩ := h s hs
    exact ⟨h1, h2, h3, fun i hi => (ho s hs c i hi).trans (h4 i hi)⟩
theorem R4_num {S : Nat → Sh} {b z : Rw} {f f2 : Rl} (h : R4 S b z f) {a : Nat} {g : Rl} (hf : ∀ i, i < 40 → f2 (40 * a + i) = g i) (ho : ∀ s, s < 4 → s ≠ a → ∀ i, i < 40 → f2 (40 * s + i) = f (40 * s + i)) : R4 (va_up S a (g, (S a).2)) b z f2 := fun s hs => by
  obtain ⟨h1, h2, h3, h4⟩ := h s hs
  by_cases c : s = a
  · subst c
    rw [va_us]
    exact ⟨h1, h2, h3, hf⟩
  · rw [va_up_n c]
    exact ⟨h1, h2, h3, fun i hi => (ho s hs c i hi).trans (h4 i hi)⟩
theorem r_sheet {K : CS} {M : MS} (h : Rel K M) (a b x : Int32) : Ag (cSheet K a b x) (qSheet M a b x) := by
  unfold cSheet qSheet
  by_cases c : (inb 0 3 a && okb b) = true
  · rw [if_pos c, if_pos c]
    obtain ⟨c1, c2⟩ := Bool.and_eq_true_iff.mp c
    by_cases d1 : x < 0
    · rw [if_pos d1, if_pos d1]
      exact h.find (by decide)
    · rw [if_neg d1, if_neg d1]
      by_cases d2 : 40 < x
      · rw [if_pos d2, if_pos d2]
        exact h.find (by decide)
      · rw [if_neg d2, if_neg d2]
        obtain ⟨j, hj, e⟩ := nI_of2 (n := 40) (show (40 : Int32).toInt = (40 : Nat) from rfl) d1 (Int32.not_lt.mp d2)
        have ej : ix x = j := by rw [e]; exact nI_clamp (by omega)
        have e0 : (if b = 0 then 0 else x) = nI (if b = 0 then 0 else ix x) := by
          rw [ej, e]
          by_cases c3 : b = 0
          · rw [if_pos c3, if_pos c3]
            rfl
          · rw [if_neg c3, if_neg c3]
        have en : (if b = 0 then 0 else ix x) ≤ 40 := by
          rw [ej]
          split <;> omega
        refine ⟨rfl, h.1, h.2.1, h.2.2.1, ?_, h.2.2.2.2⟩
        dsimp only [kSh]
        rw [e0]
        refine R4_set h.2.2.2.1 en (fun i hi => ?_) (fun s hs hsa i hi => ?_)
        · rw [lNz_eq, if_pos (by omega)]
          exact (if_pos hi).symm
        · rw [lNz_eq, if_neg (by omega)]
  · rw [if_neg c, if_neg c]
    exact h.find (by decide)
theorem Rel.lf {K : CS} {M : MS} (h : Rel K M) {k : Nat} (hk : k < 7) : AgL (lF K k) (lfind M k) := ⟨rfl, (h.find hk).2⟩
theorem r_write {K : CS} {M : MS} (h : Rel K M) (a b : Int32) (v : Int64) : AgL (cWrite K a b v) (qWrite M (fun s => (K.2.2.1 s).2.1) a b v) := by
  unfold cWrite qWrite
  by_cases c : inb 0 3 a = true
  · rw [if_pos c, if_pos c]
    obtain ⟨h1, h2, h3, h4⟩ := h.2.2.2.1 _ (ix3 c)
    rw [h1]
    by_cases d1 : (K.2.2.1 (ix a)).2.2 = 0
    · rw [if_pos d1, if_pos d1]
      exact h.lf (by decide)
    · rw [if_neg d1, if_neg d1]
      dsimp only
      by_cases d2 : inE (K.2.2.1 (ix a)).2.1 b = true
      · rw [if_pos d2, if_pos d2]
        obtain ⟨e1, -⟩ := ixE (by omega) d2
        refine ⟨(h4 _ (by omega)).symm, h.1, h.2.1, h.2.2.1, ?_, h.2.2.2.2⟩
        refine R4_num h.2.2.2.1 (fun i hi => ?_) (fun s hs hsa i hi => lne (by omega))
        dsimp only
        by_cases q : i = ix b
        · rw [q, lus, lus]
        · rw [lne (by omega), lne q]
          exact h4 i hi
      · rw [if_neg d2, if_neg d2]
        exact h.lf (by decide)
  · rw [if_neg c, if_neg c]
    exact h.lf (by decide)
theorem hasS_eq {z : Nat} (hz : z ≤ 40) (f n : Int32) : hasS z f n = decide (0 ≤ f.toInt ∧ 0 ≤ n.toInt ∧ n.toInt ≤ (z : Int) - f.toInt) := by
  unfold hasS
  have ez : (nI z).toInt = (z : Int) := nI_toInt (by omega)
  have e0 : (0 : Int32).toInt = 0 := rfl
  by_cases c1 : f < 0
  · rw [if_pos c1]
    rw [fa_lt, e0] at c1
    exact (decide_eq_false (by omega)).symm
  · rw [if_neg c1]
    rw [fa_lt, e0] at c1
    by_cases c2 : n < 0
    · rw [if_pos c2]
      rw [fa_lt, e0] at c2
      exact (decide_eq_false (by omega)).symm
    · rw [if_neg c2]
      rw [fa_lt, e0] at c2
      by_cases c3 : nI z < f
      · rw [if_pos c3]
        rw [fa_lt, ez] at c3
        exact (decide_eq_false (by omega)).symm
      · rw [if_neg c3]
        rw [fa_lt, ez] at c3
        have es : (nI z - f).toInt = (z : Int) - f.toInt := by rw [fb_subI (by rw [ez]; omega) (by rw [ez]; omega), ez]
        by_cases c4 : nI z - f < n
        · rw [if_pos c4]
          rw [fa_lt, es] at c4
          exact (decide_eq_false (by omega)).symm
        · rw [if_neg c4]
          rw [fa_lt, es] at c4
          exact (decide_eq_true (by omega)).symm
theorem r_copy {K : CS} {M : MS} (h : Rel K M) (a b c d e : Int32) : Ag (cCopy K a b c d e) (qCopy M (fun s => (K.2.2.1 s).2.1) a b c d e) := by
  unfold cCopy qCopy
  by_cases g : (inb 0 3 a && inb 0 3 c) = true
  · rw [if_pos g, if_pos g]
    obtain ⟨g1, g2⟩ := Bool.and_eq_true_iff.mp g
    obtain ⟨h1, h2, h3, h4⟩ := h.2.2.2.1 _ (ix3 g1)
    obtain ⟨k1, k2, k3, k4⟩ := h.2.2.2.1 _ (ix3 g2)
    rw [h1, k1]
    by_cases d1 : (K.2.2.1 (ix a)).2.2 = 0 ∨ (K.2.2.1 (ix c)).2.2 = 0
    · rw [if_pos d1, if_pos d1]
      exact h.find (by decide)
    · rw [if_neg d1, if_neg d1]
      by_cases d2 : (K.2.2.1 (ix a)).2.2 = (K.2.2.1 (ix c)).2.2
      · rw [if_pos d2, if_pos d2, hasS_eq h3, hasS_eq k3]
        unfold cpOk
        dsimp only
        by_cases d3 : 0 ≤ b.toInt ∧ 0 ≤ d.toInt ∧ 0 ≤ e.toInt ∧ e.toInt ≤ ((K.2.2.1 (ix a)).2.1 : Int) - b.toInt ∧ e.toInt ≤ ((K.2.2.1 (ix c)).2.1 : Int) - d.toInt
        · rw [if_pos (by rw [Bool.and_eq_true_iff, decide_eq_true_iff, decide_eq_true_iff]; omega), if_pos (decide_eq_true d3)]
          obtain ⟨q1, q2, q3, q4, q5⟩ := d3
          have i1 : ∀ x : Int32, 0 ≤ x.toInt → (ix x : Int) = x.toInt := fun x hx => by
            have e0 : (0 : Int32).toInt = 0 := rfl
            obtain ⟨j, hj, rfl⟩ := nI_of (x := x) (by rw [fa_lt, e0]; omega)
            rw [show ix (nI j) = j from nI_clamp hj, nI_toInt hj]
          have w1 := i1 b q1
          have w2 := i1 d q2
          have w3 := i1 e q3
          refine ⟨rfl, h.1, h.2.1, h.2.2.1, ?_, h.2.2.2.2⟩
          have hc4 := ix3 g2
          have ha4 := ix3 g1
          refine R4_num h.2.2.2.1 (fun i hi => ?_) (fun s hs hsa i hi => ?_)
          · dsimp only
            rw [lCp_eq]
            unfold va_cpy
            by_cases q : ix d ≤ i ∧ i < ix d + ix e
            · rw [if_pos (by omega), if_pos q, lCp_eq, if_pos (by omega)]
              rw [← h4 (ix b + (i - ix d)) (by omega)]
              refine congrArg M.2.2.2.2.2.2.2.2.2.2.2.2.2.2.1 ?_
              omega
            · rw [if_neg (by omega), if_neg q]
              exact k4 i hi
          · dsimp only
            rw [lCp_eq, if_neg (by omega)]
        · rw [if_neg (by rw [Bool.and_eq_true_iff, decide_eq_true_iff, decide_eq_true_iff]; omega), if_neg (fun q => d3 (of_decide_eq_true q))]
          exact h.find (by decide)
      · rw [if_neg d2, if_neg d2]
        exact h.find (by decide)
  · rw [if_neg g, if_neg g]
    exact h.find (by decide)
theorem ly_one {x : Int64} : (lg_cmp x (-20) < 0 ∨ 0 < lg_cmp x 20) ↔ inz (-20) 20 x.toInt = false := by
  unfold inz
  rw [lg_cmp_lt, lg_cmp_gt, fa_lt64, fa_lt64, decide_eq_false_iff_not, show (-20 : Int64).toInt = -20 from rfl, show (20 : Int64).toInt = 20 from rfl]
  omega
theorem cy_eq {f g : Rl} {a : Nat} : ∀ n, (∀ i, i < n → g (40 * a + i) = f i) → cyN f n = lyN g a n
  | 0, _ => rfl
  | n + 1, h => by
    show (if lg_cmp (f n) (-20) < 0 then cyN f n else if 0 < lg_cmp (f n) 20 then cyN f n else cyN f n + 1) = if inz (-20) 20 (g (40 * a + n)).toInt then lyN g a n + 1 else lyN g a n
    rw [cy_eq n (fun i hi => h i (by omega)), h n (by omega)]
    have q := ly_one (x := f n)
    cases c : inz (-20) 20 (f n).toInt
    · rw [c] at q
      rcases q.mpr rfl with q1 | q1
      · rw [if_pos q1]
        rfl
      · rw [if_pos q1]
        split <;> rfl
    · rw [c] at q
      rw [if_neg (fun z => Bool.noConfusion (q.mp (Or.inl z))), if_neg (fun z => Bool.noConfusion (q.mp (Or.inr z)))]
      rfl
theorem l2i_in {x : Int64} (h : inz (-20) 20 x.toInt = true) : -20 ≤ x.toInt32.toInt ∧ x.toInt32.toInt ≤ 20 := by
  have h2 := of_decide_eq_true h
  rw [Int64.toInt_toInt32, fb_bmod (by omega) (by omega)]
  exact h2
theorem ly_eq {P : Pa} {s : Rw} (hp : RP P s) {f g : Rl} {a : Nat} : ∀ n, n ≤ 12 → (∀ i, i < n → g (40 * a + i) = f i) → RP (sW P (lyW P.2.2.1 f n)) (lyS s g a n)
  | 0, _, _ => hp
  | n + 1, hn, h => by
    have ih := ly_eq hp n (by omega) (fun i hi => h i (by omega))
    have e1 : lyW P.2.2.1 f (n + 1) = if lg_cmp (f n) (-20) < 0 then lyW P.2.2.1 f n else if 0 < lg_cmp (f n) 20 then lyW P.2.2.1 f n else upd (lyW P.2.2.1 f n) n (f n).toInt32 := rfl
    have e2 : lyS s g a (n + 1) = if inz (-20) 20 (g (40 * a + n)).toInt then upd (lyS s g a n) (2 + n) (g (40 * a + n)).toInt32 else lyS s g a n := rfl
    rw [e1, e2, h n (by omega)]
    have q := ly_one (x := f n)
    cases c : inz (-20) 20 (f n).toInt
    · rw [c] at q
      rcases q.mpr rfl with q1 | q1
      · rw [if_pos q1]
        exact ih
      · rw [if_pos q1]
        split
        · exact ih
        · exact ih
    · rw [c] at q
      rw [if_neg (fun z => Bool.noConfusion (q.mp (Or.inl z))), if_neg (fun z => Bool.noConfusion (q.mp (Or.inr z)))]
      exact set_W ih (by omega) (l2i_in c).1 (l2i_in c).2
theorem r_lays {K : CS} {M : MS} (h : Rel K M) (a : Int32) : Ag (cLays K a) (qLays M (fun s => (K.2.2.1 s).2.1) a) := by
  unfold cLays qLays
  by_cases c : inb 0 3 a = true
  · rw [if_pos c, if_pos c]
    obtain ⟨h1, h2, h3, h4⟩ := h.2.2.2.1 _ (ix3 c)
    rw [h1]
    by_cases d1 : (K.2.2.1 (ix a)).2.2 = 0
    · rw [if_pos d1, if_pos d1]
      exact h.find (by decide)
    · rw [if_neg d1, if_neg d1]
      dsimp only
      exact ⟨cy_eq _ (fun i hi => h4 i (by omega)), h.put (ly_eq h.1.1 _ (by omega) (fun i hi => h4 i (by omega))) h.1.2⟩
  · rw [if_neg c, if_neg c]
    exact h.find (by decide)
theorem bkN_eq {s : Rw} {f g : Rl} {b : Int32} {n t a e : Nat} {A : Ew} {W : Rw} (hg : ∀ i, i < 40 → f (40 * a + i) = g i) (hw : ∀ k, mWool (mGo s n t k) e = (aGo A W t k).2.2.1) : ∀ k, k ≤ 40 → (∀ i, i < 40 → bkN s f b n t a e k (40 * a + i) = bkC g b A W t k i) ∧ ∀ j, (j < 40 * a ∨ 40 * a + 40 ≤ j) → bkN s f b n t a e k j = f j
  | 0, _ => ⟨hg, fun _ _ => rfl⟩
  | k + 1, hk => by
    obtain ⟨i1, i2⟩ := bkN_eq hg hw k (by omega)
    refine ⟨fun i hi => ?_, fun j hj => (lne (by omega)).trans (i2 j hj)⟩
    show vp_updL (bkN s f b n t a e k) (40 * a + k) (nrw b (mWool (mGo s n t k) e).toInt64) (40 * a + i) = vp_updL (bkC g b A W t k) k (nrw b (aGo A W t k).2.2.1.toInt64) i
    by_cases c : i = k
    · rw [c, lus, lus, hw]
    · rw [lne (by omega), lne c, i1 i hi]
theorem r_book {K : CS} {M : MS} (h : Rel K M) (a b : Int32) : Ag (cBook K a b) (qBook M (fun s => (K.2.2.1 s).2.1) (K.1 0).2.1 (K.1 0).1 a b) := by
  unfold cBook qBook
  have h8 := h.n8
  by_cases c : inb 0 3 a = true
  · rw [if_pos c, if_pos c]
    obtain ⟨h1, h2, h3, h4⟩ := h.2.2.2.1 _ (ix3 c)
    rw [h1]
    by_cases d1 : (K.2.2.1 (ix a)).2.2 = 0
    · rw [if_pos d1, if_pos d1]
      exact h.find (by decide)
    · rw [if_neg d1, if_neg d1]
      by_cases d2 : inE (K.1 0).2.1 b = true
      · rw [if_pos d2, if_pos d2]
        obtain ⟨he, -⟩ := ixE (by omega) d2
        have hl := fun k => wool_eq (lone_eq h.1.1 he (A := cLone K (ix b)) (bec_eq (h.e he)) k)
        obtain ⟨i1, i2⟩ := bkN_eq (s := M.1) (n := (K.1 0).2.1) (t := (K.1 0).1) (b := (K.2.2.1 (ix a)).2.2) h4 hl (K.2.2.1 (ix a)).2.1 h3
        refine ⟨rfl, h.1, h.2.1, h.2.2.1, ?_, h.2.2.2.2⟩
        exact R4_num h.2.2.2.1 i1 (fun s hs hsa i hi => i2 _ (by omega))
      · rw [if_neg d2, if_neg d2]
        exact h.find (by decide)
  · rw [if_neg c, if_neg c]
    exact h.find (by decide)
theorem bk_one {K : CS} {M : MS} (h : Rel K M) {e a : Nat} (ha : a < 4) (he : e < (K.1 0).2.1) {k f : Nat} (hk : k < 6) (hf : f < 100) (A : Ew) : isBk (rdS M.1 e (100 * k + f)) M.2.2.2.2.2.2.2.2.2.2.2.2.2.2.1 (K.1 0).2.1 (K.1 0).1 a e (K.2.2.1 a).2.1 = gTold (K.2.2.1 a).1 (rdA A ((K.1 0).2.2.2.2.2.2 e) k f) (K.1 0).2.2.1 (K.1 0).1 (K.2.2.1 a).2.1 := by
  obtain ⟨h1, h2, h3, h4⟩ := h.2.2.2.1 a ha
  have es : rdS M.1 e (100 * k + f) = upd (upd M.1 (38 + 14 * e + 0) (nI k)) (38 + 14 * e + 1) (nI f) := by
    unfold rdS
    rw [show (100 * k + f) / 100 = k by omega, show (100 * k + f) % 100 = f by omega]
  have hA : RE (rdA A ((K.1 0).2.2.2.2.2.2 e) k f) (rdS M.1 e (100 * k + f)) e := by
    rw [es]
    exact fr_RE (kd_RE (bec_eq (A := A) (h.e he)) hk) hf
  have hl := fun i => wool_eq (lone_in h he hA (fun j hj => by rw [es, upd_ne (by omega), upd_ne (by omega)]) i)
  unfold isBk gTold
  rw [ff_cg (q := gP1 (K.2.2.1 a).1 (rdA A ((K.1 0).2.2.2.2.2.2 e) k f) (K.1 0).2.2.1 (K.1 0).1) (fun i hi => ?_)]
  show (!decide (_ = _)) = (!decide (_ = _))
  rw [h4 i (by omega), hl i]
theorem rdI_eq {K : CS} {M : MS} (h : Rel K M) {e a : Nat} (ha : a < 4) (he : e < (K.1 0).2.1) {k : Nat} (hk : k < 6) {s : Ew × Int32} (hs : s.2 = rdN M.1 M.2.2.2.2.2.2.2.2.2.2.2.2.2.2.1 (K.1 0).2.1 (K.1 0).1 a e (K.2.2.1 a).2.1 (100 * k)) : ∀ f, f ≤ 100 → (rdI (K.2.2.1 a).1 (K.2.2.1 a).2.1 ((K.1 0).2.2.2.2.2.2 e) (K.1 0).2.2.1 (K.1 0).1 k s f).2 = rdN M.1 M.2.2.2.2.2.2.2.2.2.2.2.2.2.2.1 (K.1 0).2.1 (K.1 0).1 a e (K.2.2.1 a).2.1 (100 * k + f)
  | 0, _ => hs
  | f + 1, hf => by
    have ih := rdI_eq h ha he hk hs f (by omega)
    have e1 := bk_one h ha he hk (show f < 100 by omega) (rdI (K.2.2.1 a).1 (K.2.2.1 a).2.1 ((K.1 0).2.2.2.2.2.2 e) (K.1 0).2.2.1 (K.1 0).1 k s f).1
    show (if gTold _ (rdA _ _ k f) _ _ _ then _ + 1 else _) = (if isBk (rdS M.1 e (100 * k + f)) _ _ _ a e _ then _ + 1 else _)
    rw [e1, ih]
    rfl
theorem rdO_eq {K : CS} {M : MS} (h : Rel K M) {e a : Nat} (ha : a < 4) (he : e < (K.1 0).2.1) : ∀ k, k ≤ 6 → (cRd K a e k).2 = rdN M.1 M.2.2.2.2.2.2.2.2.2.2.2.2.2.2.1 (K.1 0).2.1 (K.1 0).1 a e (K.2.2.1 a).2.1 (100 * k)
  | 0, _ => rfl
  | k + 1, hk => by
    have ih := rdO_eq h ha he k (by omega)
    have := rdI_eq h ha he (show k < 6 by omega) ih 100 (Nat.le_refl _)
    rw [show 100 * (k + 1) = 100 * k + 100 by omega]
    exact this
theorem r_read {K : CS} {M : MS} (h : Rel K M) (a b : Int32) : Ag (cRead K a b) (qRead M (fun s => (K.2.2.1 s).2.1) (K.1 0).2.1 (K.1 0).1 a b) := by
  unfold cRead qRead
  have h8 := h.n8
  by_cases c : inb 0 3 a = true
  · rw [if_pos c, if_pos c]
    obtain ⟨h1, h2, h3, h4⟩ := h.2.2.2.1 _ (ix3 c)
    rw [h1]
    by_cases d1 : (K.2.2.1 (ix a)).2.2 = 0
    · rw [if_pos d1, if_pos d1]
      exact h.find (by decide)
    · rw [if_neg d1, if_neg d1]
      by_cases d2 : inE (K.1 0).2.1 b = true
      · rw [if_pos d2, if_pos d2]
        obtain ⟨he, -⟩ := ixE (by omega) d2
        refine ⟨?_, h⟩
        dsimp only
        exact rdO_eq h (ix3 c) he 6 (Nat.le_refl _)
      · rw [if_neg d2, if_neg d2]
        exact h.find (by decide)
  · rw [if_neg c, if_neg c]
    exact h.find (by decide)
