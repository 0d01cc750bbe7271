/-- what grows in a month, and what is lost -/
theorem gro_le : ∀ k : Nat, k < 6 → ∀ w : Nat, w < 41 → ∃ j : Nat, j < 50 ∧ kGrows (nI k) (nI w - 20) = nI j := by
  have h : ∀ k : Nat, k < 6 → ∀ w : Nat, w < 41 → nI (ix (kGrows (nI k) (nI w - 20))) = kGrows (nI k) (nI w - 20) ∧ ix (kGrows (nI k) (nI w - 20)) < 50 := by decide
  intro k hk w hw
  exact ⟨_, (h k hk w hw).2, (h k hk w hw).1.symm⟩
theorem wx {x : Int32} (h1 : -20 ≤ x.toInt) (h2 : x.toInt ≤ 20) : ∃ w : Nat, w < 41 ∧ x = nI w - 20 := by
  refine ⟨(x.toInt + 20).toNat, by omega, ?_⟩
  apply Int32.toInt_inj.mp
  have e : (nI (x.toInt + 20).toNat - nI 20).toInt = (((x.toInt + 20).toNat : Nat) : Int) - ((20 : Nat) : Int) := pk_sub_toInt (by omega) (by omega)
  rw [show (20 : Int32) = nI 20 from rfl, e]
  omega
