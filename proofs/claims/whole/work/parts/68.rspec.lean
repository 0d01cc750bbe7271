/-- reading goes on, and never back -/
def GX (td : Nat) (x y : Tx) : Prop := (XI y ∧ y.1 ≤ y.2.1 ∧ (y.1 < td → y.1 < y.2.1)) ∧ x.1 ≤ y.1
theorem GX.trans {td : Nat} {x y z : Tx} (h1 : GX td x y) (h2 : GX td y z) : GX td x z := ⟨h2.1, Nat.le_trans h1.2 h2.2⟩
theorem GX.self {td : Nat} {x y : Tx} (h : GX td x y) : GX td y y := ⟨h.1, Nat.le_refl _⟩
theorem GX_tok {mt : Rw} {td : Nat} {x : Tx} (htd : td ≤ 120) (h : x.2.1 ≤ 120) : XI (tokX mt td x) ∧ (tokX mt td x).1 ≤ (tokX mt td x).2.1 ∧ ((tokX mt td x).1 < td → (tokX mt td x).1 < (tokX mt td x).2.1) ∧ x.2.1 ≤ (tokX mt td x).1 := by
  refine ⟨XI_tok htd h, ?_⟩
  have h0 : x.2.1 ≤ tkA mt td x.2.1 := skW_ge _ _ _
  show tkA mt td x.2.1 ≤ tkC mt td (tkA mt td x.2.1) ∧ (tkA mt td x.2.1 < td → tkA mt td x.2.1 < tkC mt td (tkA mt td x.2.1)) ∧ x.2.1 ≤ tkA mt td x.2.1
  generalize tkA mt td x.2.1 = a at h0 ⊢
  have h2 : tkB td a ≤ tkC mt td a := skW_ge _ _ _
  have h3 : a ≤ tkB td a ∧ (a < td → a < tkB td a) := by
    unfold tkB
    split <;> omega
  omega
theorem GX_mus {mt : Rw} {td : Nat} {ok : Bool} {x y : Tx} (htd : td ≤ 120) (h : GX td x y) : GX td x (musX mt td ok y) := by
  obtain ⟨⟨h1, h2, h3⟩, h4⟩ := h
  unfold musX
  split
  · split
    · obtain ⟨a1, a2, a3, a4⟩ := GX_tok (mt := mt) (x := (y.1, y.2.1, y.2.2.1, 0)) htd h1.2
      exact ⟨⟨a1, a2, a3⟩, Nat.le_trans h4 (Nat.le_trans h2 a4)⟩
    · exact ⟨⟨h1, h2, h3⟩, h4⟩
  · exact ⟨⟨h1, h2, h3⟩, h4⟩
theorem GX_num {mt : Rw} {td : Nat} {h9 : Int32} {x y : Tx} (htd : td ≤ 120) (h : GX td x y) : GX td x (numX mt td h9 y) := by
  unfold numX
  split
  · exact GX_mus htd ⟨h.1, h.2⟩
  · exact h
theorem GX_x3 {mt : Rw} {td : Nat} {a b : Int32} {x y : Tx} (htd : td ≤ 120) (h : GX td x y) : GX td x (x3X mt td a b y) := GX_num htd (GX_num htd (GX_mus htd h))
theorem GX_it {mt : Rw} {td n : Nat} {x y : Tx} {s : Rw} (htd : td ≤ 120) (h : GX td x y) : GX td x (itX mt td n y s).1 := by
  have he : GX td x (e1X mt td n y) := GX_mus htd h
  unfold itX
  split
  · split
    · exact GX_x3 htd h
    · split
      · exact GX_x3 htd h
      · split
        · unfold ciX
          split
          · exact GX_num htd (GX_x3 htd h)
          · exact GX_x3 htd h
        · split
          · exact GX_x3 htd h
          · exact GX_mus htd h
  · unfold eiX
    split
    · split
      · exact GX_num htd (GX_mus htd he)
      · exact he
    · exact he
def plX (mt : Rw) (td : Nat) : Nat → Nat → Tx × Rw → Nat × Tx × Rw
  | 0, i, r => (i, r)
  | n + 1, i, r => if r.1.2.2.2 = 0 then (if bA mt td r.1.1 = 59 then plX mt td n (i + 1) (itX mt td (ix (r.2 1)) (musX mt td true r.1) r.2) else (i, r)) else (i, r)
def SZ (s : Rw) : Prop := s 1 = nI (ix (s 1)) ∧ ix (s 1) ≤ 8
