theorem ew_all {P : Pa} {s : Rw} (h : RP P s) : ∀ e, e < P.2.1 → RE (P.2.2.2.2.2.2 e) s e := h.2.2.2.2.2.2
/-- one month of all -/
theorem mOne_ne {s : Rw} {n m j : Nat} (h : j ≠ 0) : mOne s n m j = mOne0 s n m j := upd_ne h
theorem one_E {E : Nat → Ew} {s : Rw} {m n : Nat} (hm : m < 12) {x : Int32} (b1 : -20 ≤ x.toInt) (b2 : x.toInt ≤ 20) (hx : s (2 + m) = x) (h : ∀ e, e < n → RE (E e) s e) : ∀ e, e < n → RE (if m = 5 then eBare (eGrow (E e) m x) else eGrow (E e) m x) (mOne s n m) e := by
  intro e he
  have hg := mGr_eq (E := E) hm b1 b2 hx n h
  refine RE_fr (s := mOne0 s n m) ?_ (fun j h1 _ => mOne_ne (by omega))
  unfold mOne0
  by_cases c : m = 5
  · rw [if_pos c, if_pos c]
    have := shA_ewe (E := fun e => eGrow (E e) m x) n hg n (Nat.le_refl _) e he
    rw [if_pos he] at this
    exact this
  · rw [if_neg c, if_neg c]
    exact hg e he
theorem one_eq {P : Pa} {s : Rw} (h : RP P s) : RP (pOne P) (mOne s P.2.1 (P.1 % 12)) := by
  obtain ⟨mo, sz, W, S, R, C, E⟩ := P
  obtain ⟨h0, ⟨h1, h8⟩, hW, hS, hR, hC, hE⟩ := h
  dsimp only at h0 h1 h8 hW hS hR hC hE ⊢
  have hm : mo % 12 < 12 := Nat.mod_lt _ (by omega)
  obtain ⟨d1, d2, d3⟩ := hW _ hm
  have hg := mGr_eq (E := E) hm d2 d3 d1 sz hE
  have hone := one_E (E := E) hm d2 d3 d1 hE
  have lo : ∀ j, j < 38 → mGr s (mo % 12) sz j = s j := fun j hj => mGr_out s hm sz j (by omega)
  have hgW : ∀ m, m < 12 → mGr s (mo % 12) sz (2 + m) = W m ∧ -20 ≤ (W m).toInt ∧ (W m).toInt ≤ 20 := fun m hm2 => ⟨(lo _ (by omega)).trans (hW m hm2).1, (hW m hm2).2⟩
  have hgS : ∀ m, m < 12 → mGr s (mo % 12) sz (14 + m) = S m ∧ ∃ j : Nat, j ≤ 9999 ∧ S m = nI j := fun m hm2 => ⟨(lo _ (by omega)).trans (hS m hm2).1, (hS m hm2).2⟩
  have hgR : ∀ m, m < 12 → mGr s (mo % 12) sz (26 + m) = R m ∧ ∃ j : Nat, j ≤ 9999 ∧ R m = nI j := fun m hm2 => ⟨(lo _ (by omega)).trans (hR m hm2).1, (hR m hm2).2⟩
  have hpg : ∀ e, e < sz → RE (pGr (mo, sz, W, S, R, C, E) e) (mGr s (mo % 12) sz) e := fun e he => by
    unfold pGr
    rw [fa_fill_in he]
    exact hg e he
  have hsh := shT_eq (E := pGr (mo, sz, W, S, R, C, E)) sz hpg hgW hgS hgR sz (Nat.le_refl _)
  have q1 : ∀ j, 150 ≤ j → mOne s sz (mo % 12) j = s j := fun j hj => by
    rw [mOne_ne (by omega)]
    unfold mOne0
    split
    · rw [shA_out _ _ _ (by omega), mGr_out s hm sz j (by omega)]
    · rw [mGr_out s hm sz j (by omega)]
  have eS : (∀ m, m < 12 → mOne s sz (mo % 12) (14 + m) = (pSh (mo, sz, W, S, R, C, E)).1 m ∧ ∃ j : Nat, j ≤ 9999 ∧ (pSh (mo, sz, W, S, R, C, E)).1 m = nI j) ∧ (∀ m, m < 12 → mOne s sz (mo % 12) (26 + m) = (pSh (mo, sz, W, S, R, C, E)).2.1 m ∧ ∃ j : Nat, j ≤ 9999 ∧ (pSh (mo, sz, W, S, R, C, E)).2.1 m = nI j) := by
    have r1 : ∀ m, mOne s sz (mo % 12) (14 + m) = mOne0 s sz (mo % 12) (14 + m) := fun m => mOne_ne (by omega)
    have r2 : ∀ m, mOne s sz (mo % 12) (26 + m) = mOne0 s sz (mo % 12) (26 + m) := fun m => mOne_ne (by omega)
    unfold pSh
    dsimp only
    by_cases c : mo % 12 = 5
    · rw [if_pos c]
      have e0 : mOne0 s sz (mo % 12) = mShA (mGr s (mo % 12) sz) sz := if_pos c
      exact ⟨fun m hm2 => by rw [r1, e0]; exact hsh.1 m hm2, fun m hm2 => by rw [r2, e0]; exact hsh.2 m hm2⟩
    · rw [if_neg c]
      have e0 : mOne0 s sz (mo % 12) = mGr s (mo % 12) sz := if_neg c
      exact ⟨fun m hm2 => by rw [r1, e0]; exact hgS m hm2, fun m hm2 => by rw [r2, e0]; exact hgR m hm2⟩
  refine ⟨?_, ⟨?_, h8⟩, fun m hm2 => ⟨?_, (hW m hm2).2⟩, eS.1, eS.2, fun c hc m hm2 => ⟨?_, (hC c hc m hm2).2⟩, fun e he => ?_⟩
  · show mOne s sz (mo % 12) 0 = nI (mo + 1)
    unfold mOne
    rw [pk_us, mOne0_lo _ _ _ 0 (by omega), h0, nI_1]
  · rw [mOne_lo s sz _ 1 (by omega) (by omega), h1]
    rfl
  · rw [mOne_lo s sz _ _ (by omega) (by omega), (hW m hm2).1]
    rfl
  · rw [q1 _ (by omega), (hC c hc m hm2).1]
    rfl
  · have he : e < sz := he
    have := hone e he
    have eE : (pOne (mo, sz, W, S, R, C, E)).2.2.2.2.2.2 e = if mo % 12 = 5 then eBare (eGrow (E e) (mo % 12) (W (mo % 12))) else eGrow (E e) (mo % 12) (W (mo % 12)) := by
      show (pSh (mo, sz, W, S, R, C, E)).2.2 e = _
      have eg : pGr (mo, sz, W, S, R, C, E) e = eGrow (E e) (mo % 12) (W (mo % 12)) := by
        unfold pGr
        exact fa_fill_in he
      unfold pSh
      dsimp only
      by_cases c : mo % 12 = 5
      · rw [if_pos c, if_pos c, shT_e, if_pos he, eg]
      · rw [if_neg c, if_neg c]
        exact eg
    rw [eE]
    exact this
theorem go_eq {P : Pa} {s : Rw} (h : RP P s) : ∀ n, RP (pPass P n) (mGo s P.2.1 P.1 n)
  | 0 => h
  | n + 1 => by
    have := one_eq (go_eq h n)
    rw [pPass_sz, pPass_mo] at this
    exact this
/-- one ewe alone -/
theorem lone_eq {P : Pa} {s : Rw} (h : RP P s) {e : Nat} (he : e < P.2.1) {A : Ew} (hA : RE A s e) : ∀ i, RE (aGo A P.2.2.1 P.1 i) (mGo s P.2.1 P.1 i) e
  | 0 => hA
  | i + 1 => by
    have ih := lone_eq h he hA i
    have hg := go_eq h i
    have hE := ew_all hg
    rw [pPass_sz] at hE
    have hm : (P.1 + i) % 12 < 12 := Nat.mod_lt _ (by omega)
    have hW := h.2.2.1 _ hm
    have hx : mGo s P.2.1 P.1 i (2 + (P.1 + i) % 12) = P.2.2.1 ((P.1 + i) % 12) := by rw [mGo_lo _ _ _ _ (by omega) (by omega), hW.1]
    have := one_E (E := va_up (pPass P i).2.2.2.2.2.2 e (aGo A P.2.2.1 P.1 i)) (n := P.2.1) hm hW.2.1 hW.2.2 hx (fun d hd => by
      by_cases c : d = e
      · rw [c, va_us]
        exact ih
      · rw [va_up_n c]
        exact hE d hd) e he
    rw [va_us] at this
    exact this
theorem cpy_in {α : Type} {f g : Nat → α} {m : Nat} (h : m < 12) : va_cpy f g 0 0 12 m = f m := by
  unfold va_cpy
  rw [if_pos ⟨Nat.zero_le _, by omega⟩, Nat.zero_add, Nat.sub_zero]
theorem bec_eq {A B : Ew} {s : Rw} {e : Nat} (h : RE B s e) : RE (eBecome A B) s e := RE_cg h rfl rfl rfl (fun _ hm => cpy_in hm)
theorem copy_eq {P Q : Pa} {s : Rw} (h : RP Q s) : RP (pCopy P Q) s := by
  obtain ⟨h0, h1, hW, hS, hR, hC, hE⟩ := h
  refine ⟨h0, h1, fun m hm => ?_, fun m hm => ?_, fun m hm => ?_, fun c hc m hm => ?_, fun e he => ?_⟩
  · rw [show (pCopy P Q).2.2.1 m = Q.2.2.1 m from cpy_in hm]
    exact hW m hm
  · rw [show (pCopy P Q).2.2.2.1 m = Q.2.2.2.1 m from cpy_in hm]
    exact hS m hm
  · rw [show (pCopy P Q).2.2.2.2.1 m = Q.2.2.2.2.1 m from cpy_in hm]
    exact hR m hm
  · have q : (pCopy P Q).2.2.2.2.2.1 c m = Q.2.2.2.2.2.1 c m := by
      show fa_fill (fun c => va_cpy (Q.2.2.2.2.2.1 c) (P.2.2.2.2.2.1 c) 0 0 12) P.2.2.2.2.2.1 4 c m = _
      rw [fa_fill_in hc]
      exact cpy_in hm
    rw [q]
    exact hC c hc m hm
  · have he : e < Q.2.1 := he
    have q : (pCopy P Q).2.2.2.2.2.2 e = eBecome (P.2.2.2.2.2.2 e) (Q.2.2.2.2.2.2 e) := by
      show fa_fill (fun e => eBecome (P.2.2.2.2.2.2 e) (Q.2.2.2.2.2.2 e)) P.2.2.2.2.2.2 Q.2.1 e = _
      rw [fa_fill_in he]
    rw [q]
    exact bec_eq (hE e he)
/-- what is set, on both sides -/
theorem set_ewe {P : Pa} {s t : Rw} (h : RP P s) {e : Nat} {A : Ew} (hA : RE A t e) (hf : ∀ j, (j < 38 + 14 * e ∨ 52 + 14 * e ≤ j) → t j = s j) (he : e < P.2.1) : RP (sE P e A) t := by
  obtain ⟨h0, ⟨h1, h8⟩, hW, hS, hR, hC, hE⟩ := h
  refine ⟨(hf _ (by omega)).trans h0, ⟨(hf _ (by omega)).trans h1, h8⟩, fun m hm => ⟨(hf _ (by omega)).trans (hW m hm).1, (hW m hm).2⟩, fun m hm => ⟨(hf _ (by omega)).trans (hS m hm).1, (hS m hm).2⟩, fun m hm => ⟨(hf _ (by omega)).trans (hR m hm).1, (hR m hm).2⟩, fun c hc m hm => ⟨(hf _ (by omega)).trans (hC c hc m hm).1, (hC c hc m hm).2⟩, fun d hd => ?_⟩
  show RE (va_up P.2.2.2.2.2.2 e A d) t d
  by_cases c : d = e
  · rw [c, va_us]
    exact hA
  · rw [va_up_n c]
    exact RE_fr (hE d hd) (fun j h1 h2 => hf j (by omega))
theorem fr_RE {A : Ew} {s : Rw} {e f : Nat} (h : RE A s e) (hf : f < 100) : RE (A.1, nI f, A.2.2) (upd s (38 + 14 * e + 1) (nI f)) e := by
  obtain ⟨h1, h2, h3, h4, h5, h6, h7⟩ := h
  exact ⟨h1, ⟨f, hf, rfl⟩, (upd_ne (by omega)).trans h3, pk_us, fun m hm => (upd_ne (by omega)).trans (h5 m hm), h6, h7⟩
theorem kd_RE {A : Ew} {s : Rw} {e k : Nat} (h : RE A s e) (hk : k < 6) : RE (nI k, A.2) (upd s (38 + 14 * e + 0) (nI k)) e := by
  obtain ⟨h1, h2, h3, h4, h5, h6, h7⟩ := h
  exact ⟨⟨k, hk, rfl⟩, h2, pk_us, (upd_ne (by omega)).trans h4, fun m hm => (upd_ne (by omega)).trans (h5 m hm), h6, h7⟩
theorem set_fr {P : Pa} {s : Rw} (h : RP P s) {e f : Nat} (he : e < P.2.1) (hf : f < 100) : RP (sE P e ((P.2.2.2.2.2.2 e).1, nI f, (P.2.2.2.2.2.2 e).2.2)) (upd s (38 + 14 * e + 1) (nI f)) :=
  set_ewe h (fr_RE (ew_all h e he) hf) (fun j hj => upd_ne (by omega)) he
theorem set_kd {P : Pa} {s : Rw} (h : RP P s) {e k : Nat} (he : e < P.2.1) (hk : k < 6) : RP (sE P e (nI k, (P.2.2.2.2.2.2 e).2)) (upd s (38 + 14 * e + 0) (nI k)) :=
  set_ewe h (kd_RE (ew_all h e he) hk) (fun j hj => upd_ne (by omega)) he
theorem set_W {P : Pa} {s : Rw} (h : RP P s) {m : Nat} (hm : m < 12) {x : Int32} (b1 : -20 ≤ x.toInt) (b2 : x.toInt ≤ 20) : RP (sW P (upd P.2.2.1 m x)) (upd s (2 + m) x) := by
  obtain ⟨h0, ⟨h1, h8⟩, hW, hS, hR, hC, hE⟩ := h
  refine ⟨(upd_ne (by omega)).trans h0, ⟨(upd_ne (by omega)).trans h1, h8⟩, fun k hk => ?_, fun k hk => ⟨(upd_ne (by omega)).trans (hS k hk).1, (hS k hk).2⟩, fun k hk => ⟨(upd_ne (by omega)).trans (hR k hk).1, (hR k hk).2⟩, fun c hc k hk => ⟨(upd_ne (by omega)).trans (hC c hc k hk).1, (hC c hc k hk).2⟩, fun d hd => RE_fr (hE d hd) (fun j h1 h2 => upd_ne (by omega))⟩
  show upd s (2 + m) x (2 + k) = upd P.2.2.1 m x k ∧ -20 ≤ (upd P.2.2.1 m x k).toInt ∧ (upd P.2.2.1 m x k).toInt ≤ 20
  by_cases c : k = m
  · rw [c, pk_us, pk_us]
    exact ⟨rfl, b1, b2⟩
  · rw [upd_ne (by omega), upd_ne c]
    exact hW k hk
theorem set_S {P : Pa} {s : Rw} (h : RP P s) {m j : Nat} (hm : m < 12) (hj : j ≤ 9999) : RP (sSt P (upd P.2.2.2.1 m (nI j))) (upd s (14 + m) (nI j)) := by
  obtain ⟨h0, ⟨h1, h8⟩, hW, hS, hR, hC, hE⟩ := h
  refine ⟨(upd_ne (by omega)).trans h0, ⟨(upd_ne (by omega)).trans h1, h8⟩, fun k hk => ⟨(upd_ne (by omega)).trans (hW k hk).1, (hW k hk).2⟩, fun k hk => ?_, fun k hk => ⟨(upd_ne (by omega)).trans (hR k hk).1, (hR k hk).2⟩, fun c hc k hk => ⟨(upd_ne (by omega)).trans (hC c hc k hk).1, (hC c hc k hk).2⟩, fun d hd => RE_fr (hE d hd) (fun j h1 h2 => upd_ne (by omega))⟩
  show upd s (14 + m) (nI j) (14 + k) = upd P.2.2.2.1 m (nI j) k ∧ ∃ i : Nat, i ≤ 9999 ∧ upd P.2.2.2.1 m (nI j) k = nI i
  by_cases c : k = m
  · rw [c, pk_us, pk_us]
    exact ⟨rfl, j, hj, rfl⟩
  · rw [upd_ne (by omega), upd_ne c]
    exact hS k hk
/-- a cut -/
theorem cut_eq {P : Pa} {s : Rw} (h : RP P s) {c m n a b : Nat} (hc : c < 4) (hm : m < 12) (ea : P.2.2.2.1 m = nI a) (eb : P.2.2.2.2.2.1 c m = nI b) (h1 : n ≤ a) (h2 : a ≤ 9999) (h3 : b + n ≤ 999) : RP (pCut P c m (nI n)) (mCuts s c m (nI n)) ∧ mCuts s c m (nI n) (150 + 12 * c + m) = nI (b + n) ∧ (pCut P c m (nI n)).2.2.2.2.2.1 c m = nI (b + n) := by
  obtain ⟨h0, ⟨h1', h8⟩, hW, hS, hR, hC, hE⟩ := h
  have e1 : mCuts s c m (nI n) = upd (upd s (14 + m) (nI (a - n))) (150 + 12 * c + m) (nI (b + n)) := by
    unfold mCuts
    rw [upd_ne (show 150 + 12 * c + m ≠ 14 + m by omega), (hS m hm).1, (hC c hc m hm).1, ea, eb, pk_sub h1, nI_add]
  have e2 : pCut P c m (nI n) = (P.1, P.2.1, P.2.2.1, upd P.2.2.2.1 m (nI (a - n)), P.2.2.2.2.1, va_up P.2.2.2.2.2.1 c (upd (P.2.2.2.2.2.1 c) m (nI (b + n))), P.2.2.2.2.2.2) := by
    unfold pCut
    rw [ea, eb, pk_sub h1, nI_add]
  have lo : ∀ j, j ≠ 14 + m → j ≠ 150 + 12 * c + m → mCuts s c m (nI n) j = s j := fun j q1 q2 => by rw [e1, upd_ne q2, upd_ne q1]
  refine ⟨?_, by rw [e1, pk_us], by rw [e2]; show va_up P.2.2.2.2.2.1 c (upd (P.2.2.2.2.2.1 c) m (nI (b + n))) c m = _; rw [va_us, pk_us]⟩
  rw [e2]
  refine ⟨(lo _ (by omega) (by omega)).trans h0, ⟨(lo _ (by omega) (by omega)).trans h1', h8⟩, fun k hk => ⟨(lo _ (by omega) (by omega)).trans (hW k hk).1, (hW k hk).2⟩, fun k hk => ?_, fun k hk => ⟨(lo _ (by omega) (by omega)).trans (hR k hk).1, (hR k hk).2⟩, fun d hd k hk => ?_, fun d hd => RE_fr (hE d hd) (fun j q1 q2 => lo j (by omega) (by dsimp only at hd; omega))⟩
  · show mCuts s c m (nI n) (14 + k) = upd P.2.2.2.1 m (nI (a - n)) k ∧ ∃ i : Nat, i ≤ 9999 ∧ upd P.2.2.2.1 m (nI (a - n)) k = nI i
    by_cases q : k = m
    · rw [q, e1, upd_ne (by omega), pk_us, pk_us]
      exact ⟨rfl, a - n, by omega, rfl⟩
    · rw [lo _ (by omega) (by omega), upd_ne q]
      exact hS k hk
  · show mCuts s c m (nI n) (150 + 12 * d + k) = va_up P.2.2.2.2.2.1 c (upd (P.2.2.2.2.2.1 c) m (nI (b + n))) d k ∧ ∃ i : Nat, i ≤ 999 ∧ va_up P.2.2.2.2.2.1 c (upd (P.2.2.2.2.2.1 c) m (nI (b + n))) d k = nI i
    by_cases q : d = c
    · subst q
      rw [va_us]
      by_cases q2 : k = m
      · rw [q2, e1, pk_us, pk_us]
        exact ⟨rfl, b + n, h3, rfl⟩
      · rw [lo _ (by omega) (by omega), upd_ne q2]
        exact hC d hd k hk
    · rw [va_up_n q, lo _ (by omega) (by omega)]
      exact hC d hd k hk
/-- a coat is unpicked -/
theorem mUnp_all (s : Rw) (c : Nat) : ∀ m, m ≤ 12 → (∀ k, k < 12 → mUnp s c m (14 + k) = if k < m then mn (s (14 + k) + s (150 + 12 * c + k)) 9999 else s (14 + k)) ∧ (∀ k, k < 12 → mUnp s c m (150 + 12 * c + k) = if k < m then 0 else s (150 + 12 * c + k)) ∧ ∀ j, (j < 14 ∨ 26 ≤ j ∧ (j < 150 + 12 * c ∨ 162 + 12 * c ≤ j)) → mUnp s c m j = s j
  | 0, _ => ⟨fun k _ => (if_neg (Nat.not_lt_zero k)).symm, fun k _ => (if_neg (Nat.not_lt_zero k)).symm, fun _ _ => rfl⟩
  | m + 1, hm => by
    obtain ⟨a1, a2, a3⟩ := mUnp_all s c m (by omega)
    have b1 := a1 m (by omega)
    have b2 := a2 m (by omega)
    rw [if_neg (Nat.lt_irrefl m)] at b1 b2
    have es : mUnp s c (m + 1) = upd (upd (mUnp s c m) (14 + m) (mn (mUnp s c m (14 + m) + mUnp s c m (150 + 12 * c + m)) 9999)) (150 + 12 * c + m) 0 := rfl
    rw [es, b1, b2]
    generalize mUnp s c m = t at a1 a2 a3 b1 b2 ⊢
    refine ⟨fun k hk => ?_, fun k hk => ?_, fun j hj => ?_⟩
    · rw [upd_ne (by omega)]
      by_cases q : k = m
      · rw [q, pk_us, if_pos (by omega)]
      · rw [upd_ne (by omega), a1 k hk]
        by_cases q2 : k < m
        · rw [if_pos q2, if_pos (by omega)]
        · rw [if_neg q2, if_neg (by omega)]
    · by_cases q : k = m
      · rw [q, pk_us, if_pos (by omega)]
      · rw [upd_ne (by omega), upd_ne (by omega), a2 k hk]
        by_cases q2 : k < m
        · rw [if_pos q2, if_pos (by omega)]
        · rw [if_neg q2, if_neg (by omega)]
    · rw [upd_ne (by omega), upd_ne (by omega), a3 j hj]
theorem unp_eq {P : Pa} {s : Rw} (h : RP P s) {c : Nat} (hc : c < 4) : RP (pUndo P c) (mUnp s c 12) := by
  obtain ⟨h0, ⟨h1, h8⟩, hW, hS, hR, hC, hE⟩ := h
  obtain ⟨a1, a2, a3⟩ := mUnp_all s c 12 (Nat.le_refl _)
  refine ⟨(a3 _ (by omega)).trans h0, ⟨(a3 _ (by omega)).trans h1, h8⟩, fun k hk => ⟨(a3 _ (by omega)).trans (hW k hk).1, (hW k hk).2⟩, fun k hk => ?_, fun k hk => ⟨(a3 _ (by omega)).trans (hR k hk).1, (hR k hk).2⟩, fun d hd k hk => ?_, fun d hd => RE_fr (hE d hd) (fun j q1 q2 => a3 j (by have h9 : d < P.2.1 := hd; omega))⟩
  · obtain ⟨x1, i, hi, x2⟩ := hS k hk
    obtain ⟨y1, j, hj, y2⟩ := hC c hc k hk
    have e : (pUndo P c).2.2.2.1 k = mn 9999 (P.2.2.2.1 k + P.2.2.2.2.2.1 c k) := fa_fill_in hk
    rw [e, a1 k hk, if_pos hk, x1, y1, x2, y2, nI_add, show (9999 : Int32) = nI 9999 from rfl, mn_nn (by omega) (by omega), mn_nn (by omega) (by omega), Nat.min_comm]
    exact ⟨rfl, _, Nat.min_le_left _ _, rfl⟩
  · show mUnp s c 12 (150 + 12 * d + k) = va_up P.2.2.2.2.2.1 c (fa_fill (fun _ => 0) (P.2.2.2.2.2.1 c) 12) d k ∧ ∃ i : Nat, i ≤ 999 ∧ va_up P.2.2.2.2.2.1 c (fa_fill (fun _ => 0) (P.2.2.2.2.2.1 c) 12) d k = nI i
    by_cases q : d = c
    · subst q
      rw [va_us, fa_fill_in hk, a2 k hk, if_pos hk]
      exact ⟨rfl, 0, by omega, rfl⟩
    · rw [va_up_n q, a3 _ (by omega)]
      exact hC d hd k hk
/-- an ewe comes -/
theorem mAdd0_all (s : Rw) (n : Nat) : ∀ k, k ≤ 14 → (∀ i, i < k → mAdd0 s n k (38 + 14 * n + i) = 0) ∧ mAdd0 s n k 1 = s 1 + 1 ∧ ∀ j, j ≠ 1 → (j < 38 + 14 * n ∨ 52 + 14 * n ≤ j) → mAdd0 s n k j = s j
  | 0, _ => ⟨fun i hi => absurd hi (Nat.not_lt_zero i), pk_us, fun j hj _ => upd_ne hj⟩
  | k + 1, hk => by
    obtain ⟨a1, a2, a3⟩ := mAdd0_all s n k (by omega)
    refine ⟨fun i hi => ?_, (upd_ne (by omega)).trans a2, fun j h1 h2 => (upd_ne (by omega)).trans (a3 j h1 h2)⟩
    show upd (mAdd0 s n k) (38 + 14 * n + k) 0 (38 + 14 * n + i) = 0
    by_cases q : i = k
    · rw [q, pk_us]
    · rw [upd_ne (by omega), a1 i (by omega)]
theorem add_eq {P : Pa} {s : Rw} (h : RP P s) (h7 : P.2.1 < 8) {k f : Nat} (hk : k < 6) (hf : f < 100) {t : Rw} (ht : t = upd (mAdd s P.2.1 (nI k)) (38 + 14 * P.2.1 + 1) (nI f)) : RP (pAdd P (nI k) (nI f)) t := by
  obtain ⟨h0, ⟨h1, h8⟩, hW, hS, hR, hC, hE⟩ := h
  obtain ⟨a1, a2, a3⟩ := mAdd0_all s P.2.1 14 (Nat.le_refl _)
  have et : t = upd (upd (mAdd0 s P.2.1 14) (38 + 14 * P.2.1 + 0) (nI k)) (38 + 14 * P.2.1 + 1) (nI f) := ht
  have lo : ∀ j, j ≠ 1 → (j < 38 + 14 * P.2.1 ∨ 52 + 14 * P.2.1 ≤ j) → t j = s j := fun j q1 q2 => by rw [et, upd_ne (by omega), upd_ne (by omega), a3 j q1 q2]
  refine ⟨(lo _ (by omega) (by omega)).trans h0, ⟨?_, h7⟩, fun m hm => ⟨(lo _ (by omega) (by omega)).trans (hW m hm).1, (hW m hm).2⟩, fun m hm => ⟨(lo _ (by omega) (by omega)).trans (hS m hm).1, (hS m hm).2⟩, fun m hm => ⟨(lo _ (by omega) (by omega)).trans (hR m hm).1, (hR m hm).2⟩, fun c hc m hm => ⟨(lo _ (by omega) (by omega)).trans (hC c hc m hm).1, (hC c hc m hm).2⟩, fun d hd => ?_⟩
  · rw [et, upd_ne (by omega), upd_ne (by omega), a2, h1, nI_1]
    rfl
  · have hd : d < P.2.1 + 1 := hd
    show RE (va_up P.2.2.2.2.2.2 P.2.1 (nI k, nI f, 0, z12 (P.2.2.2.2.2.2 P.2.1).2.2.2 12) d) t d
    by_cases q : d = P.2.1
    · rw [q, va_us]
      have z : ∀ m, m < 12 → z12 (P.2.2.2.2.2.2 P.2.1).2.2.2 12 m = 0 := fun m hm => if_pos hm
      refine ⟨⟨k, hk, rfl⟩, ⟨f, hf, rfl⟩, ?_, ?_, fun m hm => ?_, ?_, fun m hm => ⟨0, by omega, z m hm⟩⟩
      · rw [et, upd_ne (by omega), pk_us]
      · rw [et, pk_us]
      · rw [et, upd_ne (by omega), upd_ne (by omega), a1 _ (by omega)]
        exact (z m hm).symm
      · exact (sm_zero 12 z).symm
    · rw [va_up_n q]
      exact RE_fr (hE d (by omega)) (fun j q1 q2 => lo j (by omega) (by omega))
theorem mAdd_0 (s : Rw) (n : Nat) (k : Int32) : upd (mAdd s n k) (38 + 14 * n + 1) (nI 0) = mAdd s n k := by
  refine fa_upd_same ?_
  show upd (mAdd0 s n 14) (38 + 14 * n + 0) k (38 + 14 * n + 1) = nI 0
  rw [upd_ne (by omega), (mAdd0_all s n 14 (Nat.le_refl _)).1 1 (by omega)]
  rfl
