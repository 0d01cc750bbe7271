theorem mus_ok {mt : Rw} {td : Nat} {ok : Bool} {x : Tx} (h : (musX mt td ok x).2.2.2 = 0) : x.2.2.2 = 0 ∧ ok = true ∧ (musX mt td ok x).2.2.1 = x.2.2.1 := by
  by_cases h1 : x.2.2.2 = 0
  · by_cases h2 : ok = true
    · refine ⟨h1, h2, ?_⟩
      unfold musX
      rw [if_pos h1, if_pos h2]
      rfl
    · unfold musX at h
      rw [if_pos h1, if_neg h2] at h
      exact absurd h (by show ¬ (1 : Int32) = 0; decide)
  · unfold musX at h
    rw [if_neg h1] at h
    exact absurd h (by show ¬ (1 : Int32) = 0; decide)
theorem num_ok {mt : Rw} {td : Nat} {h9 : Int32} {x : Tx} (h : (numX mt td h9 x).2.2.2 = 0) : x.2.2.2 = 0 ∧ inb 0 h9.toInt (numX mt td h9 x).2.2.1 = true := by
  by_cases h1 : x.2.2.2 = 0
  · have e : numX mt td h9 x = musX mt td (inb 48 57 (bA mt td x.1) && inb 0 h9.toInt (nvX mt td x)) (x.1, x.2.1, nvX mt td x, x.2.2.2) := if_pos h1
    rw [e] at h ⊢
    obtain ⟨-, h3, h4⟩ := mus_ok h
    rw [h4]
    exact ⟨h1, (Bool.and_eq_true_iff.mp h3).2⟩
  · have e : numX mt td h9 x = x := if_neg h1
    rw [e] at h
    exact absurd h h1
def x1X (mt : Rw) (td : Nat) (x : Tx) : Tx := musX mt td true x
def x2X (mt : Rw) (td : Nat) (a : Int32) (x : Tx) : Tx := numX mt td a (x1X mt td x)
def x3X (mt : Rw) (td : Nat) (a b : Int32) (x : Tx) : Tx := numX mt td b (x2X mt td a x)
def wiX (mt : Rw) (td : Nat) (sg : Int32) (x : Tx) (s : Rw) : Tx × Rw := (x3X mt td 11 20 x, if (x3X mt td 11 20 x).2.2.2 = 0 then upd s (2 + ix (x2X mt td 11 x).2.2.1) (sg * (x3X mt td 11 20 x).2.2.1) else s)
def siX (mt : Rw) (td : Nat) (x : Tx) (s : Rw) : Tx × Rw := (x3X mt td 11 9999 x, if (x3X mt td 11 9999 x).2.2.2 = 0 then upd s (14 + ix (x2X mt td 11 x).2.2.1) (x3X mt td 11 9999 x).2.2.1 else s)
