abbrev TI (T : Tp) : Prop := T.2.1 ≤ 120 ∧ T.2.2.2.1 ≤ T.2.2.2.2.1 ∧ T.2.2.2.2.1 ≤ 120
theorem TI_st {T : Tp} (h1 : T.2.1 ≤ 120) (h2 : T.2.2.2.2.1 ≤ 120) : TI (stepT T) := by
  have a1 := skW_le (pSp T.1) (T.2.1 - T.2.2.2.2.1) T.2.2.2.2.1
  unfold stepT stA
  generalize skW (pSp T.1) (T.2.1 - T.2.2.2.2.1) T.2.2.2.2.1 = a at a1 ⊢
  have b1 := skW_le (pLe T.1) (T.2.1 - a) a
  have b2 := skW_ge (pLe T.1) (T.2.1 - a) a
  have b3 := skW_le (pDi T.1) (T.2.1 - a) a
  have b4 := skW_ge (pDi T.1) (T.2.1 - a) a
  unfold stE
  split
  · split
    · exact ⟨h1, b2, by dsimp only; omega⟩
    · split
      · exact ⟨h1, b4, by dsimp only; omega⟩
      · exact ⟨h1, by dsimp only; omega, by dsimp only; omega⟩
  · exact ⟨h1, Nat.le_refl _, by dsimp only; omega⟩
theorem TI_step {T : Tp} (h : TI T) : TI (stepT T) := TI_st h.1 h.2.2
def tkN (T : Tp) (m : Int32) : Int32 × Tp := if T.2.2.1 = 2 then (if T.2.2.2.2.2 ≤ m then (T.2.2.2.2.2, stepT T) else (-1, T)) else (-1, T)
theorem TI_tk {T : Tp} {m : Int32} (h : TI T) : TI (tkN T m).2 := by
  unfold tkN
  split
  · split
    · exact TI_step h
    · exact h
  · exact h
theorem tkN_ix {T : Tp} {k : Nat} (hk : k < 2 ^ 31) (h : ¬ (tkN T (nI k)).1 < 0) : ∃ j : Nat, j ≤ k ∧ (tkN T (nI k)).1 = nI j := by
  unfold tkN at h ⊢
  split at h
  · rename_i h1
    split at h
    · rename_i h2
      rw [if_pos h1, if_pos h2]
      obtain ⟨j, hj, e⟩ := nI_of h
      refine ⟨j, ?_, e⟩
      have h3 := Int32.le_iff_toInt_le.mp h2
      dsimp only at e
      rw [e, nI_toInt hj, nI_toInt hk] at h3
      omega
    · exact absurd (by decide : (-1 : Int32) < 0) h
  · exact absurd (by decide : (-1 : Int32) < 0) h
def wA (T : Tp) : Int32 × Tp := tkN (stepT T) 11
def wB1 (T : Tp) : Int32 × Tp := tkN (wA T).2 20
def tkWe (T : Tp) (P : Pa) (sg : Int32) : Bool × Tp × Pa := if (wA T).1 < 0 then (false, (wA T).2, P) else if (wB1 T).1 < 0 then (false, (wB1 T).2, P) else (true, (wB1 T).2, sW P (upd P.2.2.1 (ix (wA T).1) (sg * (wB1 T).1)))
def eN (T : Tp) : Int32 × Tp := tkN (stepT (stepT T)) 99
def tkEw (T : Tp) (P : Pa) (k : Int32) : Bool × Tp × Pa := if 8 ≤ P.2.1 then (false, T, P) else if isWT (stepT T) 10 then (if (eN T).1 < 0 then (false, (eN T).2, P) else (true, (eN T).2, pAdd P k (eN T).1)) else (true, stepT T, pAdd P k 0)
def cA (T : Tp) : Int32 × Tp := tkN (stepT T) 3
def cB1 (T : Tp) : Int32 × Tp := tkN (cA T).2 11
def cM1 (T : Tp) (P : Pa) : Int32 := mn (P.2.2.2.1 (ix (cB1 T).1)) (999 - P.2.2.2.2.2.1 (ix (cA T).1) (ix (cB1 T).1))
def cD1 (T : Tp) (P : Pa) : Int32 × Tp := tkN (cB1 T).2 (cM1 T P)
def tkCu (T : Tp) (P : Pa) : Bool × Tp × Pa := if (cA T).1 < 0 then (false, (cA T).2, P) else if (cB1 T).1 < 0 then (false, (cB1 T).2, P) else if (cD1 T P).1 < 0 then (false, (cD1 T P).2, P) else (true, (cD1 T P).2, pCut P (ix (cA T).1) (ix (cB1 T).1) (cD1 T P).1)
def sA1 (T : Tp) : Int32 × Tp := tkN (stepT T) 11
def sN1 (T : Tp) : Int32 × Tp := tkN (sA1 T).2 9999
def sSt (P : Pa) (f : Rw) : Pa := (P.1, P.2.1, P.2.2.1, f, P.2.2.2.2)
def tkSt (T : Tp) (P : Pa) : Bool × Tp × Pa := if (sA1 T).1 < 0 then (false, (sA1 T).2, P) else if (sN1 T).1 < 0 then (false, (sN1 T).2, P) else (true, (sN1 T).2, sSt P (upd P.2.2.2.1 (ix (sA1 T).1) (sN1 T).1))
def tkIt (T : Tp) (P : Pa) : Bool × Tp × Pa := if kdN T < 0 then (if isWT T 6 then tkWe T P (-1) else if isWT T 7 then tkWe T P 1 else if isWT T 8 then tkCu T P else if isWT T 9 then tkSt T P else (false, T, P)) else tkEw T P (kdN T)
def apR : Nat → Nat → Tp → Pa → Int32 × Tp × Pa
  | 0, _, T, P => (-1 - nI T.2.2.2.1, T, P)
  | n + 1, i, T, P => if (tkIt T P).1 then (if (tkIt T P).2.1.2.2.1 = 0 then (nI i, (tkIt T P).2) else if (tkIt T P).2.1.2.2.1 = 3 then apR n (i + 1) (stepT (tkIt T P).2.1) (tkIt T P).2.2 else (-1 - nI (tkIt T P).2.1.2.2.2.1, (tkIt T P).2)) else (-1 - nI (tkIt T P).2.1.2.2.2.1, (tkIt T P).2)
def tE0 (T : Tp) : Tp := (T.1, T.2.1, T.2.2.1, T.2.2.2.1, 0, T.2.2.2.2.2)
def apT (T : Tp) (P : Pa) : Int32 × Tp × Pa := apR 120 1 (stepT (tE0 T)) P
def tZ0 (T : Tp) : Tp := (T.1, 0, T.2.2)
def cPr (K : CS) : Int32 × Tp × Pa := apT K.2.1 (pCopy (K.1 2) (K.1 0))
def cParish (K : CS) : Int32 × CS := if (cPr K).1 < 0 then ((cPr K).1, (va_up K.1 2 (cPr K).2.2, tZ0 (cPr K).2.1, K.2.2)) else ((cPr K).1, (va_up (va_up K.1 2 (cPr K).2.2) 0 (pCopy (K.1 0) (cPr K).2.2), tZ0 (cPr K).2.1, K.2.2))
theorem TI_we {T : Tp} {P : Pa} {g : Int32} (h : TI T) : TI (tkWe T P g).2.1 := by
  have h1 : TI (wA T).2 := TI_tk (TI_step h)
  have h2 : TI (wB1 T).2 := TI_tk h1
  unfold tkWe
  split
  · exact h1
  · split
    · exact h2
    · exact h2
theorem TI_ew {T : Tp} {P : Pa} {k : Int32} (h : TI T) : TI (tkEw T P k).2.1 := by
  have h1 : TI (eN T).2 := TI_tk (TI_step (TI_step h))
  unfold tkEw
  split
  · exact h
  · split
    · split
      · exact h1
      · exact h1
    · exact TI_step h
theorem TI_cu {T : Tp} {P : Pa} (h : TI T) : TI (tkCu T P).2.1 := by
  have h1 : TI (cA T).2 := TI_tk (TI_step h)
  have h2 : TI (cB1 T).2 := TI_tk h1
  have h3 : TI (cD1 T P).2 := TI_tk h2
  unfold tkCu
  split
  · exact h1
  · split
    · exact h2
    · split
      · exact h3
      · exact h3
theorem TI_so {T : Tp} {P : Pa} (h : TI T) : TI (tkSt T P).2.1 := by
  have h1 : TI (sA1 T).2 := TI_tk (TI_step h)
  have h2 : TI (sN1 T).2 := TI_tk h1
  unfold tkSt
  split
  · exact h1
  · split
    · exact h2
    · exact h2
theorem TI_it {T : Tp} {P : Pa} (h : TI T) : TI (tkIt T P).2.1 := by
  unfold tkIt
  split
  · split
    · exact TI_we h
    · split
      · exact TI_we h
      · split
        · exact TI_cu h
        · split
          · exact TI_so h
          · exact h
  · exact TI_ew h
theorem sz_it {T : Tp} {P : Pa} (h : P.2.1 ≤ 8) : (tkIt T P).2.2.2.1 ≤ 8 := by
  have hw : ∀ g, (tkWe T P g).2.2.2.1 ≤ 8 := by
    intro g
    unfold tkWe
    split
    · exact h
    · split
      · exact h
      · exact h
  unfold tkIt
  split
  · split
    · exact hw _
    · split
      · exact hw _
      · split
        · unfold tkCu
          split
          · exact h
          · split
            · exact h
            · split
              · exact h
              · exact h
        · split
          · unfold tkSt
            split
            · exact h
            · split
              · exact h
              · exact h
          · exact h
  · unfold tkEw
    split
    · exact h
    · have h9 : P.2.1 + 1 ≤ 8 := by omega
      split
      · split
        · exact h
        · exact h9
      · exact h9
