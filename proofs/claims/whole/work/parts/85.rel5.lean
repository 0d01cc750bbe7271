/-! class and model: one relation -/
def TB (a b : Int32) : Prop := a = b ∨ (a.toInt < 0 ∧ 127 < b.toInt)
def R2 (P : Pa) (x : Int32) (s : Rw) (y : Int32) : Prop := y = x ∧ P.2.1 ≤ 8 ∧ (x ≠ 0 → RP P s ∧ P.1 ≤ 9999)
def R3 (T : Tp) (f : Rw) (n : Nat) : Prop := T.2.1 = n ∧ n ≤ 120 ∧ ∀ j, j < n → TB (T.1 j) (f j)
def R4 (S : Nat → Sh) (b z : Rw) (f : Rl) : Prop := ∀ s, s < 4 → b s = (S s).2.2 ∧ z s = nI (S s).2.1 ∧ (S s).2.1 ≤ 40 ∧ ∀ i, i < 40 → f (40 * s + i) = (S s).1 i
def R5 (t f : Rw) : Prop := ∀ k, k < 7 → f k = t k
def Rel (K : CS) (M : MS) : Prop := (RP (K.1 0) M.1 ∧ (K.1 0).1 ≤ 9999) ∧ R2 (K.1 1) K.2.2.2.2 M.2.1 M.2.2.2.2.2.1 ∧ R3 K.2.1 M.2.2.2.2.2.2.1 M.2.2.2.2.2.2.2.1 ∧ R4 K.2.2.1 M.2.2.2.2.2.2.2.2.2.2.2.2.1 M.2.2.2.2.2.2.2.2.2.2.2.2.2.1 M.2.2.2.2.2.2.2.2.2.2.2.2.2.2.1 ∧ R5 K.2.2.2.1 M.2.2.2.2.1
/-- they answer alike, and stay so -/
def Ag (x : Int32 × CS) (y : Int32 × MS) : Prop := x.1 = y.1 ∧ Rel x.2 y.2
theorem R5_up {t f : Rw} (h : R5 t f) {k : Nat} (hk : k < 7) : R5 (upd t k (t k + 1)) (upd f k (f k + 1)) := fun j hj => by
  by_cases c : j = k
  · rw [c, pk_us, pk_us, h k hk]
  · rw [upd_ne c, upd_ne c, h j hj]
theorem Rel.find {K : CS} {M : MS} (h : Rel K M) {k : Nat} (hk : k < 7) : Ag (cFind K k) (mFind M k) := ⟨rfl, h.1, h.2.1, h.2.2.1, h.2.2.2.1, R5_up h.2.2.2.2 hk⟩
theorem Rel.put {K : CS} {M : MS} (h : Rel K M) {P : Pa} {s : Rw} (hp : RP P s) (hm : P.1 ≤ 9999) : Rel (kP K 0 P) (xs M s) := ⟨⟨hp, hm⟩, h.2.1, h.2.2.1, h.2.2.2.1, h.2.2.2.2⟩
theorem Rel.w {K : CS} {M : MS} (h : Rel K M) {m : Nat} (hm : m < 12) : M.1 (2 + m) = (K.1 0).2.2.1 m := (h.1.1.2.2.1 m hm).1
theorem Rel.s {K : CS} {M : MS} (h : Rel K M) {m : Nat} (hm : m < 12) : M.1 (14 + m) = (K.1 0).2.2.2.1 m := (h.1.1.2.2.2.1 m hm).1
theorem Rel.r {K : CS} {M : MS} (h : Rel K M) {m : Nat} (hm : m < 12) : M.1 (26 + m) = (K.1 0).2.2.2.2.1 m := (h.1.1.2.2.2.2.1 m hm).1
theorem Rel.c {K : CS} {M : MS} (h : Rel K M) {c m : Nat} (hc : c < 4) (hm : m < 12) : M.1 (150 + 12 * c + m) = (K.1 0).2.2.2.2.2.1 c m := (h.1.1.2.2.2.2.2.1 c hc m hm).1
theorem Rel.e {K : CS} {M : MS} (h : Rel K M) {e : Nat} (he : e < (K.1 0).2.1) : RE ((K.1 0).2.2.2.2.2.2 e) M.1 e := h.1.1.2.2.2.2.2.2 e he
theorem Rel.n8 {K : CS} {M : MS} (h : Rel K M) : (K.1 0).2.1 ≤ 8 := h.1.1.2.1.2
theorem ixb {n : Nat} {x : Int32} (hn : n < 2 ^ 31) (h : inb 0 (n : Int) x = true) : ix x ≤ n ∧ x = nI (ix x) := by
  obtain ⟨j, -, h2, rfl⟩ := inb_ix (lo := 0) h
  have e : ix (nI j) = j := nI_clamp (by omega)
  rw [e]
  exact ⟨h2, rfl⟩
theorem ixb1 {l n : Nat} {x : Int32} (hn : n < 2 ^ 31) (h : inb (l : Int) (n : Int) x = true) : l ≤ ix x ∧ ix x ≤ n ∧ x = nI (ix x) := by
  obtain ⟨j, h1, h2, rfl⟩ := inb_ix h
  have e : ix (nI j) = j := nI_clamp (by omega)
  rw [e]
  exact ⟨h1, h2, rfl⟩
theorem ixE {n : Nat} {x : Int32} (hn : n ≤ 1000) (h : inE n x = true) : ix x < n ∧ x = nI (ix x) := by
  obtain ⟨j, h2, rfl⟩ := inE_ix h
  have e : ix (nI j) = j := nI_clamp (by omega)
  rw [e]
  exact ⟨h2, rfl⟩
theorem ix11 {x : Int32} (h : inb 0 11 x = true) : ix x < 12 := Nat.lt_succ_of_le (ixb (n := 11) (by decide) h).1
theorem ix3 {x : Int32} (h : inb 0 3 x = true) : ix x < 4 := Nat.lt_succ_of_le (ixb (n := 3) (by decide) h).1
theorem inb_2 {b : Int32} (h : inb 0 2 b = true) : b = 0 ∨ b = 1 ∨ b = 2 := by
  obtain ⟨h1, h2⟩ := ixb (n := 2) (by decide) h
  rw [h2]
  rcases (show ix b = 0 ∨ ix b = 1 ∨ ix b = 2 by omega) with e | e | e <;> rw [e]
  · exact Or.inl rfl
  · exact Or.inr (Or.inl rfl)
  · exact Or.inr (Or.inr rfl)
theorem inb_3 {b : Int32} (h : inb 0 3 b = true) : b = 0 ∨ b = 1 ∨ b = 2 ∨ b = 3 := by
  obtain ⟨h1, h2⟩ := ixb (n := 3) (by decide) h
  rw [h2]
  rcases (show ix b = 0 ∨ ix b = 1 ∨ ix b = 2 ∨ ix b = 3 by omega) with e | e | e | e <;> rw [e]
  · exact Or.inl rfl
  · exact Or.inr (Or.inl rfl)
  · exact Or.inr (Or.inr (Or.inl rfl))
  · exact Or.inr (Or.inr (Or.inr rfl))
theorem r_weather {K : CS} {M : MS} (h : Rel K M) (a b : Int32) : Ag (cWeather K a b) (qWeather M a b) := by
  unfold cWeather qWeather
  by_cases c : (inb 0 11 a && inb (-20) 20 b) = true
  · rw [if_pos c, if_pos c]
    obtain ⟨c1, c2⟩ := Bool.and_eq_true_iff.mp c
    exact ⟨(h.w (ix11 c1)).symm, h.put (set_W h.1.1 (ix11 c1) (inb_t.mp c2).1 (inb_t.mp c2).2) h.1.2⟩
  · rw [if_neg c, if_neg c]
    exact h.find (by decide)
theorem r_monthOf {K : CS} {M : MS} (h : Rel K M) (a b : Int32) : Ag (cMonthOf K a b) (qMonthOf M a b) := by
  unfold cMonthOf qMonthOf
  by_cases c : inb 0 11 a = true
  · rw [if_pos c, c, Bool.true_and]
    by_cases c0 : b = 0
    · subst c0
      rw [if_pos rfl, if_pos (show inb 0 2 0 = true by decide), if_pos rfl]
      exact ⟨congrArg (100 + ·) (h.w (ix11 c)).symm, h⟩
    · by_cases c1 : b = 1
      · subst c1
        rw [if_neg c0, if_pos rfl, if_pos (show inb 0 2 1 = true by decide), if_neg c0, if_pos rfl]
        exact ⟨(h.s (ix11 c)).symm, h⟩
      · by_cases c2 : b = 2
        · subst c2
          rw [if_neg c0, if_neg c1, if_pos rfl, if_pos (show inb 0 2 2 = true by decide), if_neg c0, if_neg c1]
          exact ⟨(h.r (ix11 c)).symm, h⟩
        · rw [if_neg c0, if_neg c1, if_neg c2, if_neg (fun q => by exact (inb_2 q).elim c0 (fun q => q.elim c1 c2))]
          exact h.find (by decide)
  · rw [if_neg c, if_neg (by simp [c])]
    exact h.find (by decide)
theorem r_now {K : CS} {M : MS} (h : Rel K M) (a : Int32) : Ag (cNow K a) (qNow M (K.1 0).2.1 (K.1 0).1 a) := by
  unfold cNow qNow
  by_cases c0 : a = 0
  · rw [if_pos c0, if_pos c0]
    exact ⟨rfl, h⟩
  rw [if_neg c0, if_neg c0]
  by_cases c1 : a = 1
  · rw [if_pos c1, if_pos c1]
    exact ⟨rfl, h⟩
  rw [if_neg c1, if_neg c1]
  by_cases c2 : a = 2
  · rw [if_pos c2, if_pos c2]
    exact ⟨congrArg (100 + ·) (h.w (Nat.mod_lt _ (by decide))).symm, h⟩
  rw [if_neg c2, if_neg c2]
  by_cases c3 : a = 3
  · rw [if_pos c3, if_pos c3]
    exact ⟨sm_eq 12 (fun m hm => (h.s hm).symm), h⟩
  rw [if_neg c3, if_neg c3]
  by_cases c4 : a = 4
  · rw [if_pos c4, if_pos c4]
    exact ⟨sm_eq 12 (fun m hm => (h.r hm).symm), h⟩
  rw [if_neg c4, if_neg c4]
  by_cases c5 : a = 5
  · rw [if_pos c5, if_pos c5]
    exact ⟨sm_eq _ (fun e he => (wool_eq (h.e he)).symm), h⟩
  rw [if_neg c5, if_neg c5]
  exact h.find (by decide)
theorem r_ewe {K : CS} {M : MS} (h : Rel K M) (a : Int32) : Ag (cEwe K a) (qEwe M (K.1 0).2.1 a) := by
  unfold cEwe qEwe
  by_cases c : inb 0 5 a = true
  · rw [if_pos c, if_pos c]
    have h8 := h.n8
    by_cases c1 : (K.1 0).2.1 = 8
    · rw [if_pos (by omega), if_pos c1]
      exact h.find (by decide)
    · rw [if_neg (by omega), if_neg c1]
      obtain ⟨e1, e2⟩ := ixb (n := 5) (by decide) c
      refine ⟨rfl, h.put ?_ h.1.2⟩
      rw [e2]
      exact add_eq h.1.1 (by omega) (k := ix a) (f := 0) (by omega) (by omega) (mAdd_0 _ _ _).symm
  · rw [if_neg c, if_neg c]
    exact h.find (by decide)
theorem r_of {K : CS} {M : MS} (h : Rel K M) (a b : Int32) : Ag (cOf K a b) (qOf M (K.1 0).2.1 a b) := by
  unfold cOf qOf
  have h8 := h.n8
  by_cases c : inE (K.1 0).2.1 a = true
  · rw [if_pos c, c, Bool.true_and]
    obtain ⟨he, -⟩ := ixE (by omega) c
    have hE := h.e he
    by_cases c0 : b = 0
    · subst c0
      rw [if_pos rfl, if_pos (show inb 0 3 0 = true by decide), if_pos (show ix 0 ≤ 1 by decide)]
      exact ⟨hE.2.2.1.symm, h⟩
    · by_cases c1 : b = 1
      · subst c1
        rw [if_neg c0, if_pos rfl, if_pos (show inb 0 3 1 = true by decide), if_pos (show ix 1 ≤ 1 by decide)]
        exact ⟨hE.2.2.2.1.symm, h⟩
      · by_cases c2 : b = 2
        · subst c2
          rw [if_neg c0, if_neg c1, if_pos rfl, if_pos (show inb 0 3 2 = true by decide), if_neg (show ¬ ix 2 ≤ 1 by decide), if_pos (show ix 2 = 2 by decide)]
          exact ⟨(wool_eq hE).symm, h⟩
        · by_cases c3 : b = 3
          · subst c3
            rw [if_neg c0, if_neg c1, if_neg c2, if_pos rfl, if_pos (show inb 0 3 3 = true by decide), if_neg (show ¬ ix 3 ≤ 1 by decide), if_neg (show ¬ ix 3 = 2 by decide)]
            exact ⟨congrArg kCalms hE.2.2.1.symm, h⟩
          · rw [if_neg c0, if_neg c1, if_neg c2, if_neg c3, if_neg (fun q => by exact (inb_3 q).elim c0 (fun q => q.elim c1 (fun q => q.elim c2 c3)))]
            exact h.find (by decide)
  · rw [if_neg c, if_neg (by simp [c])]
    exact h.find (by decide)
theorem r_fleece {K : CS} {M : MS} (h : Rel K M) (a b : Int32) : Ag (cFleece K a b) (qFleece M (K.1 0).2.1 a b) := by
  unfold cFleece qFleece
  have h8 := h.n8
  by_cases c : (inE (K.1 0).2.1 a && inb 0 11 b) = true
  · rw [if_pos c, if_pos c]
    obtain ⟨c1, c2⟩ := Bool.and_eq_true_iff.mp c
    exact ⟨((h.e (ixE (by omega) c1).1).2.2.2.2.1 _ (ix11 c2)).symm, h⟩
  · rw [if_neg c, if_neg c]
    exact h.find (by decide)
theorem r_can {K : CS} {M : MS} (h : Rel K M) (a b x : Int32) : Ag (cCan K a b x) (qCan M (K.1 0).2.1 a b x) := by
  unfold cCan qCan
  have h8 := h.n8
  by_cases c : (inE (K.1 0).2.1 a && inb (-20) 20 x) = true
  · rw [if_pos c]
    obtain ⟨c1, c2⟩ := Bool.and_eq_true_iff.mp c
    rw [c1, c2, Bool.true_and, Bool.and_true]
    have hE := h.e (ixE (by omega) c1).1
    obtain ⟨⟨kk, hk, q1⟩, ⟨ff, hf, q2⟩, q3, q4, -⟩ := hE
    by_cases c0 : b = 0
    · subst c0
      rw [if_pos rfl, if_pos (show inb 0 2 0 = true by decide), if_pos rfl]
      exact ⟨congrArg (fun z => kGrows z x) q3.symm, h⟩
    · by_cases c1 : b = 1
      · subst c1
        rw [if_neg c0, if_pos rfl, if_pos (show inb 0 2 1 = true by decide), if_neg c0, if_pos rfl]
        refine ⟨?_, h⟩
        show kLoses _ _ = mLoses _ _
        rw [q3, q4, q1, q2]
        exact (los_eq ff hf kk hk).symm
      · by_cases c2 : b = 2
        · subst c2
          rw [if_neg c0, if_neg c1, if_pos rfl, if_pos (show inb 0 2 2 = true by decide), if_neg c0, if_neg c1]
          exact ⟨congrArg (fun z => kBurrs z x) q3.symm, h⟩
        · rw [if_neg c0, if_neg c1, if_neg c2, if_neg (fun q => by exact (inb_2 q).elim c0 (fun q => q.elim c1 c2))]
          exact h.find (by decide)
  · rw [if_neg c, if_neg (fun q => c (by
      obtain ⟨q1, q2⟩ := Bool.and_eq_true_iff.mp q
      rw [q1, (Bool.and_eq_true_iff.mp q2).2]
      rfl))]
    exact h.find (by decide)
theorem r_scare {K : CS} {M : MS} (h : Rel K M) (a b : Int32) : Ag (cScare K a b) (qScare M (K.1 0).2.1 a b) := by
  unfold cScare qScare
  have h8 := h.n8
  by_cases c : (inE (K.1 0).2.1 a && inb 0 99 b) = true
  · rw [if_pos c, if_pos c]
    obtain ⟨c1, c2⟩ := Bool.and_eq_true_iff.mp c
    obtain ⟨he, -⟩ := ixE (by omega) c1
    obtain ⟨e1, e2⟩ := ixb (n := 99) (by decide) c2
    refine ⟨(h.e he).2.2.2.1.symm, h.put ?_ h.1.2⟩
    rw [e2]
    exact set_fr h.1.1 he (f := ix b) (by omega)
  · rw [if_neg c, if_neg c]
    exact h.find (by decide)
theorem r_turn {K : CS} {M : MS} (h : Rel K M) (a b : Int32) : Ag (cTurn K a b) (qTurn M (K.1 0).2.1 a b) := by
  unfold cTurn qTurn
  have h8 := h.n8
  by_cases c : (inE (K.1 0).2.1 a && inb 0 5 b) = true
  · rw [if_pos c, if_pos c]
    obtain ⟨c1, c2⟩ := Bool.and_eq_true_iff.mp c
    obtain ⟨he, -⟩ := ixE (by omega) c1
    obtain ⟨e1, e2⟩ := ixb (n := 5) (by decide) c2
    refine ⟨(h.e he).2.2.1.symm, h.put ?_ h.1.2⟩
    rw [e2]
    exact set_kd h.1.1 he (k := ix b) (by omega)
  · rw [if_neg c, if_neg c]
    exact h.find (by decide)
theorem r_as {K : CS} {M : MS} (h : Rel K M) (a b : Int32) : Ag (cAs K a b) (qAs M (K.1 0).2.1 a b) := by
  unfold cAs qAs
  have h8 := h.n8
  by_cases c : (inE (K.1 0).2.1 a && inb 0 5 b) = true
  · rw [if_pos c, if_pos c]
    obtain ⟨c1, c2⟩ := Bool.and_eq_true_iff.mp c
    obtain ⟨he, -⟩ := ixE (by omega) c1
    obtain ⟨e1, e2⟩ := ixb (n := 5) (by decide) c2
    obtain ⟨⟨kk, hk, q1⟩, -, q3, q4, -⟩ := h.e he
    have eq : ofK 6 ((K.1 0).2.2.2.2.2.2 (ix a)).1 b = mUnder (M.1 (38 + 14 * ix a + 0)) b := by
      rw [q3, q1, e2]
      exact und_eq kk hk _ (by omega)
    rw [eq]
    by_cases c3 : mUnder (M.1 (38 + 14 * ix a + 0)) b = true
    · rw [if_pos c3, if_pos c3]
      exact ⟨q4.symm, h⟩
    · rw [if_neg c3, if_neg c3]
      exact h.find (by decide)
  · rw [if_neg c, if_neg c]
    exact h.find (by decide)
theorem r_cut {K : CS} {M : MS} (h : Rel K M) (a b x : Int32) : Ag (cCut K a b x) (qCut M a b x) := by
  unfold cCut qCut
  by_cases c : (inb 0 3 a && (inb 0 11 b && inb 1 999 x)) = true
  · rw [if_pos c, if_pos c]
    obtain ⟨c1, c'⟩ := Bool.and_eq_true_iff.mp c
    obtain ⟨c2, c3⟩ := Bool.and_eq_true_iff.mp c'
    obtain ⟨e1, e2, e3⟩ := ixb1 (l := 1) (n := 999) (by decide) c3
    obtain ⟨x1, i, hi, x2⟩ := h.1.1.2.2.2.1 _ (ix11 c2)
    obtain ⟨y1, j, hj, y2⟩ := h.1.1.2.2.2.2.2.1 _ (ix3 c1) _ (ix11 c2)
    generalize ix x = n at e1 e2 e3
    subst e3
    rw [x1, y1, x2, y2]
    by_cases g1 : n ≤ i
    · rw [if_pos (nI_le g1 (by omega)), if_neg (nI_nlt g1 (by omega)), show (999 : Int32) = nI 999 from rfl, pk_sub hj, nI_add]
      by_cases g2 : j + n ≤ 999
      · rw [if_pos (nI_le (by omega) (by omega)), if_neg (nI_nlt g2 (by omega))]
        obtain ⟨z1, z2, z3⟩ := cut_eq h.1.1 (ix3 c1) (ix11 c2) x2 y2 g1 hi g2
        exact ⟨z3.trans z2.symm, h.put z1 h.1.2⟩
      · rw [if_neg (nI_ge (by omega) (by omega)), if_pos (nI_lt (by omega) (by omega))]
        exact h.find (by decide)
    · rw [if_neg (nI_ge (by omega) (by omega)), if_pos (nI_lt (by omega) (by omega))]
      exact h.find (by decide)
  · rw [if_neg c, if_neg c]
    exact h.find (by decide)
theorem r_coatOf {K : CS} {M : MS} (h : Rel K M) (a b : Int32) : Ag (cCoatOf K a b) (qCoatOf M a b) := by
  unfold cCoatOf qCoatOf
  by_cases c : inb 0 3 a = true
  · rw [if_pos c, c, Bool.true_and]
    have ha := ix3 c
    by_cases c0 : b = 0
    · subst c0
      rw [if_pos rfl, if_pos (show inb 0 3 0 = true by decide), if_pos rfl]
      refine ⟨sm_eq 12 (fun m hm => ?_), h⟩
      rw [h.w hm, h.c ha hm]
    · by_cases c1 : b = 1
      · subst c1
        rw [if_neg c0, if_pos rfl, if_pos (show inb 0 3 1 = true by decide), if_neg c0, if_pos rfl]
        refine ⟨sm_eq 12 (fun m hm => ?_), h⟩
        rw [h.r hm, h.c ha hm]
      · by_cases c2 : b = 2
        · subst c2
          rw [if_neg c0, if_neg c1, if_pos rfl, if_pos (show inb 0 3 2 = true by decide), if_neg c0, if_neg c1, if_pos rfl]
          refine ⟨sm_eq 12 (fun m hm => ?_), h⟩
          exact (h.c ha hm).symm
        · by_cases c3 : b = 3
          · subst c3
            rw [if_neg c0, if_neg c1, if_neg c2, if_pos rfl, if_pos (show inb 0 3 3 = true by decide), if_neg c0, if_neg c1, if_neg c2]
            exact ⟨(msk_eq _ _ _ 12 (fun m hm => h.c ha hm)).symm, h⟩
          · rw [if_neg c0, if_neg c1, if_neg c2, if_neg c3, if_neg (fun q => by exact (inb_3 q).elim c0 (fun q => q.elim c1 (fun q => q.elim c2 c3)))]
            exact h.find (by decide)
  · rw [if_neg c, if_neg (by simp [c])]
    exact h.find (by decide)
theorem r_unpick {K : CS} {M : MS} (h : Rel K M) (a : Int32) : Ag (cUnpick K a) (qUnpick M a) := by
  unfold cUnpick qUnpick
  by_cases c : inb 0 3 a = true
  · rw [if_pos c, if_pos c]
    exact ⟨sm_eq 12 (fun m hm => (h.c (ix3 c) hm).symm), h.put (unp_eq h.1.1 (ix3 c)) h.1.2⟩
  · rw [if_neg c, if_neg c]
    exact h.find (by decide)
theorem r_months {K : CS} {M : MS} (h : Rel K M) (a : Int32) : Ag (cMonths K a) (qMonths M (K.1 0).2.1 (K.1 0).1 a) := by
  unfold cMonths qMonths
  by_cases c : inb 1 60 a = true
  · rw [if_pos c, if_pos c]
    by_cases c1 : (K.1 0).1 + ix a ≤ 9999
    · rw [if_pos c1, if_neg (by omega)]
      have hg := go_eq h.1.1 (ix a)
      exact ⟨sm_eq 12 (fun m hm => (hg.2.2.2.1 m hm).1.symm), h.put hg (by rw [pPass_mo]; exact c1)⟩
    · rw [if_neg c1, if_pos (by omega)]
      exact h.find (by decide)
  · rw [if_neg c, if_neg c]
    exact h.find (by decide)
