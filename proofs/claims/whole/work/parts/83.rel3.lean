theorem va_us {α : Type} {f : Nat → α} {k : Nat} {v : α} : va_up f k v k = v := if_pos rfl
theorem mn_nn {a b : Nat} (ha : a < 2 ^ 31) (hb : b < 2 ^ 31) : mn (nI a) (nI b) = nI (min a b) := by
  unfold mn
  by_cases h : b < a
  · rw [if_pos (nI_lt h ha), Nat.min_eq_right (by omega)]
  · rw [if_neg (nI_nlt (by omega) hb), Nat.min_eq_left (by omega)]
theorem cal_eq : ∀ k : Nat, k < 6 → ∀ j : Nat, j < 100 → mx 0 (nI j - kCalms (nI k)) = nI (j - ix (kCalms (nI k))) ∧ nI j - mn (kCalms (nI k)) (nI j) = nI (j - ix (kCalms (nI k))) := by decide
theorem los_le : ∀ k : Nat, k < 6 → ∀ j : Nat, j < 100 → ∃ i : Nat, i < 100 ∧ kLoses (nI k) (nI j) = nI i := by
  have h : ∀ k : Nat, k < 6 → ∀ j : Nat, j < 100 → nI (ix (kLoses (nI k) (nI j))) = kLoses (nI k) (nI j) ∧ ix (kLoses (nI k) (nI j)) < 100 := by decide
  intro k hk j hj
  exact ⟨_, (h k hk j hj).2, (h k hk j hj).1.symm⟩
theorem bur_le : ∀ k : Nat, k < 6 → ∀ w : Nat, w < 41 → ∃ i : Nat, i < 5 ∧ kBurrs (nI k) (nI w - 20) = nI i := by
  have h : ∀ k : Nat, k < 6 → ∀ w : Nat, w < 41 → nI (ix (kBurrs (nI k) (nI w - 20))) = kBurrs (nI k) (nI w - 20) ∧ ix (kBurrs (nI k) (nI w - 20)) < 5 := by decide
  intro k hk w hw
  exact ⟨_, (h k hk w hw).2, (h k hk w hw).1.symm⟩
theorem i_swap (a b c : Int32) : a + b + c = a + c + b := by rw [Int32.add_assoc, Int32.add_comm b c, ← Int32.add_assoc]
theorem i_mid (a f v : Int32) : a + v = a + f + (v - f) := by
  rw [Int32.add_assoc, show f + (v - f) = v from by rw [Int32.add_comm, Int32.sub_add_cancel]]
theorem sm_upd (f : Rw) (m : Nat) (v : Int32) : ∀ n, m < n → sm (upd f m v) n = sm f n + (v - f m)
  | 0, h => absurd h (Nat.not_lt_zero _)
  | n + 1, h => by
    show sm (upd f m v) n + upd f m v n = sm f n + f n + (v - f m)
    by_cases e : m = n
    · subst e
      rw [pk_us, sm_eq (g := f) m (fun k hk => upd_ne (by omega))]
      exact i_mid _ _ _
    · rw [sm_upd f m v n (by omega), upd_ne (Ne.symm e)]
      exact i_swap _ _ _
theorem sm_zero {f : Rw} : ∀ n, (∀ m, m < n → f m = 0) → sm f n = 0
  | 0, _ => rfl
  | n + 1, h => by
    show sm f n + f n = 0
    rw [sm_zero n (fun m hm => h m (by omega)), h n (by omega)]
    rfl
theorem RE_fr {A : Ew} {s t : Rw} {e : Nat} (h : RE A s e) (hf : ∀ j, 38 + 14 * e ≤ j → j < 52 + 14 * e → t j = s j) : RE A t e := by
  obtain ⟨h1, h2, h3, h4, h5, h6, h7⟩ := h
  exact ⟨h1, h2, (hf _ (by omega) (by omega)).trans h3, (hf _ (by omega) (by omega)).trans h4, fun m hm => (hf _ (by omega) (by omega)).trans (h5 m hm), h6, h7⟩
theorem RE_cg {A B : Ew} {s : Rw} {e : Nat} (h : RE A s e) (e1 : B.1 = A.1) (e2 : B.2.1 = A.2.1) (e3 : B.2.2.1 = A.2.2.1) (e4 : ∀ m, m < 12 → B.2.2.2 m = A.2.2.2 m) : RE B s e := by
  obtain ⟨h1, h2, h3, h4, h5, h6, h7⟩ := h
  refine ⟨e1 ▸ h1, e2 ▸ h2, h3.trans e1.symm, h4.trans e2.symm, fun m hm => (h5 m hm).trans (e4 m hm).symm, ?_, fun m hm => ?_⟩
  · rw [e3, h6]
    exact (sm_eq 12 e4).symm
  · rw [e4 m hm]
    exact h7 m hm
theorem mEwe_eq (s : Rw) (m e : Nat) : mEwe s m e = upd (upd s (38 + 14 * e + (2 + m)) (kGrows (s (38 + 14 * e + 0)) (s (2 + m)) - mn (mLoses (s (38 + 14 * e + 0)) (s (38 + 14 * e + 1))) (kGrows (s (38 + 14 * e + 0)) (s (2 + m))))) (38 + 14 * e + 1) (s (38 + 14 * e + 1) - mn (kCalms (s (38 + 14 * e + 0))) (s (38 + 14 * e + 1))) := by
  unfold mEwe
  rw [upd_ne (show 38 + 14 * e + 1 ≠ 38 + 14 * e + (2 + m) by omega), upd_ne (show 38 + 14 * e + 0 ≠ 38 + 14 * e + (2 + m) by omega)]
theorem mEwe_ne {s : Rw} {m e j : Nat} (h1 : j ≠ 38 + 14 * e + (2 + m)) (h2 : j ≠ 38 + 14 * e + 1) : mEwe s m e j = s j := by
  rw [mEwe_eq, upd_ne h2, upd_ne h1]
theorem grow_eq {A : Ew} {s : Rw} {e m : Nat} (hm : m < 12) (h : RE A s e) {x : Int32} (b1 : -20 ≤ x.toInt) (b2 : x.toInt ≤ 20) (hx : s (2 + m) = x) : RE (eGrow A m x) (mEwe s m e) e := by
  obtain ⟨k, f, w, fl⟩ := A
  obtain ⟨⟨kk, hk, h1⟩, ⟨ff, hf, h2⟩, h3, h4, h5, h6, h7⟩ := h
  dsimp only at h1 h2 h3 h4 h5 h6 h7
  subst h1
  subst h2
  obtain ⟨ww, hw, ex⟩ := wx b1 b2
  obtain ⟨g, hg, eg⟩ := gro_le kk hk ww hw
  obtain ⟨i, hi, ei⟩ := los_le kk hk ff hf
  obtain ⟨c1, c2⟩ := cal_eq kk hk ff hf
  rw [← ex] at eg
  have ev : kGrows (nI kk) x - mn (kGrows (nI kk) x) (kLoses (nI kk) (nI ff)) = nI (g - min g i) := by
    rw [eg, ei, mn_nn (by omega) (by omega), pk_sub (by omega)]
  have el : kGrows (nI kk) x - mn (mLoses (nI kk) (nI ff)) (kGrows (nI kk) x) = nI (g - min g i) := by
    rw [mn_comm, los_eq ff hf kk hk]
    exact ev
  have em : mEwe s m e = upd (upd s (38 + 14 * e + (2 + m)) (nI (g - min g i))) (38 + 14 * e + 1) (nI (ff - ix (kCalms (nI kk)))) := by
    rw [mEwe_eq, h3, h4, hx, el, c2]
  refine ⟨⟨kk, hk, rfl⟩, ⟨ff - ix (kCalms (nI kk)), by omega, c1⟩, ?_, ?_, fun m2 hm2 => ?_, ?_, fun m2 hm2 => ?_⟩
  · rw [em, upd_ne (by omega), upd_ne (by omega), h3]
    rfl
  · rw [em, pk_us]
    exact c1.symm
  · rw [em, upd_ne (by omega)]
    show _ = upd fl m _ m2
    rw [ev]
    by_cases e2 : m2 = m
    · rw [e2, pk_us, pk_us]
    · rw [upd_ne (by omega), upd_ne e2, h5 m2 hm2]
  · show w + (_ - fl m) = sm (upd fl m _) 12
    rw [sm_upd fl m _ 12 hm, h6]
  · show ∃ j : Nat, j < 100 ∧ upd fl m _ m2 = nI j
    rw [ev]
    by_cases e2 : m2 = m
    · rw [e2, pk_us]
      exact ⟨_, by omega, rfl⟩
    · rw [upd_ne e2]
      exact h7 m2 hm2
theorem mGr_out (s : Rw) {m : Nat} (hm : m < 12) : ∀ n j, (j < 38 ∨ 38 + 14 * n ≤ j) → mGr s m n j = s j
  | 0, _, _ => rfl
  | n + 1, j, h => (mEwe_ne (by omega) (by omega)).trans (mGr_out s hm n j (by omega))
theorem mGr_eq {E : Nat → Ew} {s : Rw} {m : Nat} (hm : m < 12) {x : Int32} (b1 : -20 ≤ x.toInt) (b2 : x.toInt ≤ 20) (hx : s (2 + m) = x) : ∀ n, (∀ e, e < n → RE (E e) s e) → ∀ e, e < n → RE (eGrow (E e) m x) (mGr s m n) e
  | 0, _, e, he => absurd he (Nat.not_lt_zero _)
  | n + 1, h, e, he => by
    show RE _ (mEwe (mGr s m n) m n) e
    by_cases c : e = n
    · subst c
      refine grow_eq hm (RE_fr (h e he) (fun j h1 _ => mGr_out s hm e j (by omega))) b1 b2 ?_
      rw [mGr_out s hm e _ (by omega), hx]
    · have ih := mGr_eq hm b1 b2 hx n (fun d hd => h d (by omega)) e (by omega)
      exact RE_fr ih (fun j h1 h2 => mEwe_ne (by omega) (by omega))
/-- one ewe is shorn -/
theorem mShE_all (s : Rw) (e : Nat) : ∀ m, m ≤ 12 → (∀ k, k < 12 → mShE s e m (14 + k) = if k < m then mn (s (14 + k) + s (38 + 14 * e + (2 + k))) 9999 else s (14 + k)) ∧ (∀ k, k < 12 → mShE s e m (26 + k) = if k < m then mn (s (26 + k) + (if 0 < s (38 + 14 * e + (2 + k)) then kBurrs (s (38 + 14 * e + 0)) (s (2 + k)) else 0)) 9999 else s (26 + k)) ∧ (∀ k, k < 12 → mShE s e m (38 + 14 * e + (2 + k)) = if k < m then 0 else s (38 + 14 * e + (2 + k))) ∧ ∀ j, (j < 14 ∨ 38 ≤ j ∧ (j < 38 + 14 * e + 2 ∨ 38 + 14 * e + 14 ≤ j)) → mShE s e m j = s j
  | 0, _ => ⟨fun k _ => (if_neg (Nat.not_lt_zero k)).symm, fun k _ => (if_neg (Nat.not_lt_zero k)).symm, fun k _ => (if_neg (Nat.not_lt_zero k)).symm, fun _ _ => rfl⟩
  | m + 1, hm => by
    obtain ⟨a1, a2, a3, a4⟩ := mShE_all s e m (by omega)
    have b1 := a1 m (by omega)
    have b2 := a2 m (by omega)
    have b3 := a3 m (by omega)
    have b4 := a4 (38 + 14 * e + 0) (by omega)
    have b5 := a4 (2 + m) (by omega)
    rw [if_neg (Nat.lt_irrefl m)] at b1 b2 b3
    have es : mShE s e (m + 1) = mSh1 (mShE s e m) e m := rfl
    rw [es]
    generalize mShE s e m = t at a1 a2 a3 a4 b1 b2 b3 b4 b5 ⊢
    unfold mSh1
    rw [upd_ne (show 26 + m ≠ 14 + m by omega), b1, b2, b3, b4, b5]
    refine ⟨fun k hk => ?_, fun k hk => ?_, fun k hk => ?_, fun j hj => ?_⟩
    · rw [upd_ne (by omega), upd_ne (by omega)]
      by_cases c : k = m
      · rw [c, pk_us, if_pos (by omega)]
      · rw [upd_ne (by omega), a1 k hk]
        by_cases c2 : k < m
        · rw [if_pos c2, if_pos (by omega)]
        · rw [if_neg c2, if_neg (by omega)]
    · rw [upd_ne (by omega)]
      by_cases c : k = m
      · rw [c, pk_us, if_pos (show m < m + 1 by omega)]
      · rw [upd_ne (by omega), upd_ne (by omega), a2 k hk]
        by_cases c2 : k < m
        · rw [if_pos c2, if_pos (show k < m + 1 by omega)]
        · rw [if_neg c2, if_neg (show ¬ k < m + 1 by omega)]
    · by_cases c : k = m
      · rw [c, pk_us, if_pos (by omega)]
      · rw [upd_ne (by omega), upd_ne (by omega), upd_ne (by omega), a3 k hk]
        by_cases c2 : k < m
        · rw [if_pos c2, if_pos (by omega)]
        · rw [if_neg c2, if_neg (by omega)]
    · rw [upd_ne (by omega), upd_ne (by omega), upd_ne (by omega), a4 j hj]
theorem shE_ewe {A : Ew} {s : Rw} {e : Nat} (h : RE A s e) : RE (eBare A) (mShE s e 12) e := by
  obtain ⟨h1, h2, h3, h4, h5, h6, h7⟩ := h
  obtain ⟨-, -, a3, a4⟩ := mShE_all s e 12 (Nat.le_refl _)
  have z : ∀ m, m < 12 → (eBare A).2.2.2 m = 0 := fun m hm => if_pos hm
  refine ⟨h1, h2, ?_, ?_, fun m hm => ?_, ?_, fun m hm => ⟨0, by omega, (z m hm).trans rfl⟩⟩
  · rw [a4 _ (by omega), h3]
    rfl
  · rw [a4 _ (by omega), h4]
    rfl
  · rw [a3 m hm, if_pos hm, z m hm]
  · exact (sm_zero 12 z).symm
theorem shE_oth {A : Ew} {s : Rw} {e d : Nat} (h : RE A s d) (hd : d ≠ e) : RE A (mShE s e 12) d :=
  RE_fr h (fun j h1 h2 => (mShE_all s e 12 (Nat.le_refl _)).2.2.2 j (by omega))
theorem shA_ewe {E : Nat → Ew} {s : Rw} (N : Nat) (h : ∀ e, e < N → RE (E e) s e) : ∀ n, n ≤ N → ∀ e, e < N → RE (if e < n then eBare (E e) else E e) (mShA s n) e
  | 0, _, e, he => by
    rw [if_neg (Nat.not_lt_zero e)]
    exact h e he
  | n + 1, hn, e, he => by
    show RE _ (mShE (mShA s n) n 12) e
    have ih := shA_ewe N h n (by omega) e he
    by_cases c : e = n
    · subst c
      rw [if_neg (Nat.lt_irrefl e)] at ih
      rw [if_pos (by omega)]
      exact shE_ewe ih
    · by_cases c2 : e < n
      · rw [if_pos c2] at ih
        rw [if_pos (by omega)]
        exact shE_oth ih c
      · rw [if_neg c2] at ih
        rw [if_neg (by omega)]
        exact shE_oth ih c
theorem shA_out (s : Rw) : ∀ n j, (j < 14 ∨ 38 + 14 * n ≤ j) → mShA s n j = s j
  | 0, _, _ => rfl
  | n + 1, j, h => ((mShE_all (mShA s n) n 12 (Nat.le_refl _)).2.2.2 j (by omega)).trans (shA_out s n j (by omega))
theorem shT_e (W S R : Rw) (E : Nat → Ew) (e : Nat) : ∀ n, (shT W S R E n).2.2 e = if e < n then eBare (E e) else E e
  | 0 => (if_neg (Nat.not_lt_zero e)).symm
  | n + 1 => by
    show va_up (shT W S R E n).2.2 n (eBare ((shT W S R E n).2.2 n)) e = _
    have h1 := shT_e W S R E e n
    have h2 := shT_e W S R E n n
    rw [if_neg (Nat.lt_irrefl n)] at h2
    rw [h2]
    by_cases c : e = n
    · rw [c, va_us, if_pos (by omega)]
    · rw [va_up_n c, h1]
      by_cases c2 : e < n
      · rw [if_pos c2, if_pos (by omega)]
      · rw [if_neg c2, if_neg (by omega)]
/-- the store and the roughness, when all are shorn -/
theorem shT_eq {W S R : Rw} {E : Nat → Ew} {s : Rw} (N : Nat) (hE : ∀ e, e < N → RE (E e) s e) (hW : ∀ m, m < 12 → s (2 + m) = W m ∧ -20 ≤ (W m).toInt ∧ (W m).toInt ≤ 20) (hS : ∀ m, m < 12 → s (14 + m) = S m ∧ ∃ j : Nat, j ≤ 9999 ∧ S m = nI j) (hR : ∀ m, m < 12 → s (26 + m) = R m ∧ ∃ j : Nat, j ≤ 9999 ∧ R m = nI j) : ∀ n, n ≤ N → (∀ m, m < 12 → mShA s n (14 + m) = (shT W S R E n).1 m ∧ ∃ j : Nat, j ≤ 9999 ∧ (shT W S R E n).1 m = nI j) ∧ (∀ m, m < 12 → mShA s n (26 + m) = (shT W S R E n).2.1 m ∧ ∃ j : Nat, j ≤ 9999 ∧ (shT W S R E n).2.1 m = nI j)
  | 0, _ => ⟨hS, hR⟩
  | n + 1, hn => by
    obtain ⟨a1, a2⟩ := shT_eq N hE hW hS hR n (by omega)
    have aE := shA_ewe N hE n (by omega) n (by omega)
    have e2 := shT_e W S R E n n
    rw [← e2] at aE
    obtain ⟨⟨kk, hk, h1⟩, -, h3, -, h5, -, h7⟩ := aE
    obtain ⟨b1, b2, -, -⟩ := mShE_all (mShA s n) n 12 (Nat.le_refl _)
    have eM : mShA s (n + 1) = mShE (mShA s n) n 12 := rfl
    have eS : (shT W S R E (n + 1)).1 = fa_fill (gS1 (shT W S R E n).1 ((shT W S R E n).2.2 n).2.2.2) (shT W S R E n).1 12 := rfl
    have eR : (shT W S R E (n + 1)).2.1 = fa_fill (gR1 (shT W S R E n).2.1 W ((shT W S R E n).2.2 n).2.2.2 ((shT W S R E n).2.2 n).1) (shT W S R E n).2.1 12 := rfl
    rw [eM, eS, eR]
    refine ⟨fun m hm => ?_, fun m hm => ?_⟩
    · obtain ⟨c1, j, hj, c2⟩ := a1 m hm
      obtain ⟨i, hi, c3⟩ := h7 m hm
      rw [b1 m hm, if_pos hm, fa_fill_in hm, c1, h5 m hm]
      unfold gS1
      rw [c3, c2, nI_add, show (9999 : Int32) = nI 9999 from rfl, mn_nn (by omega) (by omega), mn_nn (by omega) (by omega)]
      by_cases c : 0 < i
      · rw [if_pos (show (0 : Int32) < nI i from nI_lt c (by omega))]
        exact ⟨by rw [Nat.min_comm], _, Nat.min_le_left _ _, rfl⟩
      · rw [if_neg (show ¬ (0 : Int32) < nI i from nI_nlt (a := 0) (by omega) (by omega)), show min (j + i) 9999 = j by omega]
        exact ⟨rfl, j, hj, rfl⟩
    · obtain ⟨c1, j, hj, c2⟩ := a2 m hm
      obtain ⟨i, hi, c3⟩ := h7 m hm
      obtain ⟨d1, d2, d3⟩ := hW m hm
      obtain ⟨ww, hw, ex⟩ := wx d2 d3
      obtain ⟨r, hr, er⟩ := bur_le kk hk ww hw
      rw [← ex] at er
      have e4 : mShA s n (2 + m) = W m := by rw [shA_out s n _ (by omega), d1]
      rw [b2 m hm, if_pos hm, fa_fill_in hm, c1, h5 m hm, h3, e4, h1, er]
      unfold gR1
      rw [c3, c2, er, nI_add, show (9999 : Int32) = nI 9999 from rfl, mn_nn (a := 9999) (by omega) (by omega)]
      by_cases c : 0 < i
      · rw [if_pos (show (0 : Int32) < nI i from nI_lt c (by omega)), if_pos (show (0 : Int32) < nI i from nI_lt c (by omega)), nI_add, mn_nn (by omega) (by omega)]
        exact ⟨by rw [Nat.min_comm], _, Nat.min_le_left _ _, rfl⟩
      · rw [if_neg (show ¬ (0 : Int32) < nI i from nI_nlt (a := 0) (by omega) (by omega)), if_neg (show ¬ (0 : Int32) < nI i from nI_nlt (a := 0) (by omega) (by omega)), show (0 : Int32) = nI 0 from rfl, nI_add, mn_nn (by omega) (by omega), show min (j + 0) 9999 = j by omega]
        exact ⟨rfl, j, hj, rfl⟩
