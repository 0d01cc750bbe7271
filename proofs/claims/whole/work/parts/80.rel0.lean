/-! class and model side by side -/
theorem los_eq : ∀ j : Nat, j < 100 → ∀ k : Nat, k < 6 → mLoses (nI k) (nI j) = kLoses (nI k) (nI j) := by decide
theorem und_eq : ∀ k : Nat, k < 6 → ∀ a : Nat, a < 6 → ofK 6 (nI k) (nI a) = mUnder (nI k) (nI a) := by decide
theorem mn_comm (x y : Int32) : mn x y = mn y x := by
  unfold mn
  by_cases h1 : y < x
  · have h2 : ¬ x < y := fun q => by
      have a1 := Int32.lt_iff_toInt_lt.mp h1
      have a2 := Int32.lt_iff_toInt_lt.mp q
      omega
    rw [if_pos h1, if_neg h2]
  · rw [if_neg h1]
    by_cases h2 : x < y
    · rw [if_pos h2]
    · rw [if_neg h2]
      exact Int32.toInt_inj.mp (by
        have a1 := Int32.le_iff_toInt_le.mp (Int32.not_lt.mp h1)
        have a2 := Int32.le_iff_toInt_le.mp (Int32.not_lt.mp h2)
        omega)
theorem msk_eq (s : Rw) (c : Nat) (f : Rw) : ∀ n, (∀ m, m < n → s (150 + 12 * c + m) = f m) → mMsk s c n = msk f n
  | 0, _ => rfl
  | n + 1, h => by
    have h1 := msk_eq s c f n (fun m hm => h m (by omega))
    show mMsk s c n ||| (if 0 < s (150 + 12 * c + n) then 1 <<< (nI n &&& 31) else 0) = if 0 < f n then msk f n ||| (1 <<< (nI n &&& 31)) else msk f n
    rw [h1, h n (by omega)]
    by_cases h2 : 0 < f n
    · rw [if_pos h2, if_pos h2]
    · rw [if_neg h2, if_neg h2]
      exact Int32.or_zero
