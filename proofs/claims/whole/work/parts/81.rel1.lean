theorem sm_eq {f g : Nat → Int32} : ∀ n, (∀ m, m < n → f m = g m) → sm f n = sm g n
  | 0, _ => rfl
  | n + 1, h => by
    show sm f n + f n = sm g n + g n
    rw [sm_eq n (fun m hm => h m (by omega)), h n (by omega)]
/-- one ewe of the class, one of the model -/
def RE (A : Ew) (s : Rw) (e : Nat) : Prop := (∃ k : Nat, k < 6 ∧ A.1 = nI k) ∧ (∃ f : Nat, f < 100 ∧ A.2.1 = nI f) ∧ s (38 + 14 * e + 0) = A.1 ∧ s (38 + 14 * e + 1) = A.2.1 ∧ (∀ m, m < 12 → s (38 + 14 * e + (2 + m)) = A.2.2.2 m) ∧ A.2.2.1 = sm A.2.2.2 12 ∧ ∀ m, m < 12 → ∃ j : Nat, j < 100 ∧ A.2.2.2 m = nI j
/-- one parish of the class, one of the model -/
def RP (P : Pa) (s : Rw) : Prop := s 0 = nI P.1 ∧ (s 1 = nI P.2.1 ∧ P.2.1 ≤ 8) ∧ (∀ m, m < 12 → s (2 + m) = P.2.2.1 m ∧ -20 ≤ (P.2.2.1 m).toInt ∧ (P.2.2.1 m).toInt ≤ 20) ∧ (∀ m, m < 12 → s (14 + m) = P.2.2.2.1 m ∧ ∃ j : Nat, j ≤ 9999 ∧ P.2.2.2.1 m = nI j) ∧ (∀ m, m < 12 → s (26 + m) = P.2.2.2.2.1 m ∧ ∃ j : Nat, j ≤ 9999 ∧ P.2.2.2.2.1 m = nI j) ∧ (∀ c, c < 4 → ∀ m, m < 12 → s (150 + 12 * c + m) = P.2.2.2.2.2.1 c m ∧ ∃ j : Nat, j ≤ 999 ∧ P.2.2.2.2.2.1 c m = nI j) ∧ ∀ e, e < P.2.1 → RE (P.2.2.2.2.2.2 e) s e
theorem wool_eq {A : Ew} {s : Rw} {e : Nat} (h : RE A s e) : mWool s e = A.2.2.1 := by
  rw [h.2.2.2.2.2.1]
  exact sm_eq 12 (fun m hm => (congrArg s (by omega)).trans (h.2.2.2.2.1 m hm))
