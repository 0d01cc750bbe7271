/-- where the text is read: from, to, value, wrong -/
abbrev Tx : Type := Nat × Nat × Int32 × Int32
def tokX (mt : Rw) (td : Nat) (x : Tx) : Tx := (tkA mt td x.2.1, tkC mt td (tkA mt td x.2.1), x.2.2)
def musX (mt : Rw) (td : Nat) (ok : Bool) (x : Tx) : Tx := if x.2.2.2 = 0 then (if ok then tokX mt td (x.1, x.2.1, x.2.2.1, 0) else (x.1, x.2.1, x.2.2.1, 1)) else (x.1, x.2.1, x.2.2.1, 1)
abbrev XI (x : Tx) : Prop := x.1 ≤ 120 ∧ x.2.1 ≤ 120
theorem XI_tok {mt : Rw} {td : Nat} {x : Tx} (htd : td ≤ 120) (h : x.2.1 ≤ 120) : XI (tokX mt td x) := by
  have h1 : tkA mt td x.2.1 ≤ 120 := by
    have := skW_le (mSp mt td) (td - x.2.1) x.2.1
    unfold tkA
    omega
  refine ⟨h1, ?_⟩
  show tkC mt td (tkA mt td x.2.1) ≤ 120
  generalize tkA mt td x.2.1 = a at h1 ⊢
  have h2 : tkB td a ≤ 120 := by
    unfold tkB
    split <;> omega
  have := skW_le (mTo mt td (inb 97 122 (bA mt td a)) (inb 48 57 (bA mt td a))) (td - tkB td a) (tkB td a)
  unfold tkC
  omega
theorem XI_mus {mt : Rw} {td : Nat} {ok : Bool} {x : Tx} (htd : td ≤ 120) (h : XI x) : XI (musX mt td ok x) := by
  unfold musX
  split
  · split
    · exact XI_tok htd h.2
    · exact h
  · exact h
def hsh (mt : Rw) (fr : Nat) : Nat → Int64
  | 0 => 0
  | k + 1 => if lg_cmp (hsh mt fr k) 36028797018963967 ≤ 0 then 32 * hsh mt fr k + (mt (fr + k) - 96).toInt64 else hsh mt fr k
def wrdX (mt : Rw) (td : Nat) (x : Tx) : Int64 := if x.2.2.2 = 0 then (if inb 97 122 (bA mt td x.1) then hsh mt x.1 (x.2.1 - x.1) else 0) else 0
def nV (mt : Rw) (fr : Nat) : Nat → Int32
  | 0 => 0
  | k + 1 => if nV mt fr k ≤ 9999 then 10 * nV mt fr k + mt (fr + k) - 48 else nV mt fr k
def nvX (mt : Rw) (td : Nat) (x : Tx) : Int32 := if inb 48 57 (bA mt td x.1) then nV mt x.1 (x.2.1 - x.1) else 0
def numX (mt : Rw) (td : Nat) (h : Int32) (x : Tx) : Tx := if x.2.2.2 = 0 then musX mt td (inb 48 57 (bA mt td x.1) && inb 0 h.toInt (nvX mt td x)) (x.1, x.2.1, nvX mt td x, x.2.2.2) else x
theorem XI_num {mt : Rw} {td : Nat} {h9 : Int32} {x : Tx} (htd : td ≤ 120) (h : XI x) : XI (numX mt td h9 x) := by
  unfold numX
  split
  · exact XI_mus htd h
  · exact h
