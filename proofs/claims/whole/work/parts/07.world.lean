/-! the world: the class's state and the model's, as tuples -/
abbrev Ew : Type := Int32 × Int32 × Int32 × (Nat → Int32)
abbrev Pa : Type := Nat × Nat × (Nat → Int32) × (Nat → Int32) × (Nat → Int32) × (Nat → Nat → Int32) × (Nat → Ew)
abbrev Tp : Type := (Nat → Int32) × Nat × Int32 × Nat × Nat × Int32
abbrev Sh : Type := (Nat → Int64) × Nat × Int32
abbrev CS : Type := (Nat → Pa) × Tp × (Nat → Sh) × (Nat → Int32) × Int32
abbrev MS : Type := (Nat → Int32) × (Nat → Int32) × (Nat → Int32) × (Nat → Int32) × (Nat → Int32) × Int32 × (Nat → Int32) × Nat × Nat × Nat × Int32 × Int32 × (Nat → Int32) × (Nat → Int32) × (Nat → Int64) × (Nat → Int64)
abbrev WS : Type := CS × MS
abbrev gP (w : WS) (p : Nat) : Pa := w.1.1 p
abbrev gT (w : WS) : Tp := w.1.2.1
abbrev gS (w : WS) (s : Nat) : Sh := w.1.2.2.1 s
abbrev gF (w : WS) : Nat → Int32 := w.1.2.2.2.1
abbrev gH (w : WS) : Int32 := w.1.2.2.2.2
def sP (w : WS) (p : Nat) (P : Pa) : WS := ((va_up w.1.1 p P, w.1.2), w.2)
def sT (w : WS) (T : Tp) : WS := ((w.1.1, T, w.1.2.2), w.2)
def sS (w : WS) (s : Nat) (S : Sh) : WS := ((w.1.1, w.1.2.1, va_up w.1.2.2.1 s S, w.1.2.2.2), w.2)
def sF (w : WS) (f : Nat → Int32) : WS := ((w.1.1, w.1.2.1, w.1.2.2.1, f, w.1.2.2.2.2), w.2)
def sH (w : WS) (x : Int32) : WS := ((w.1.1, w.1.2.1, w.1.2.2.1, w.1.2.2.2.1, x), w.2)
def sM (w : WS) (M : MS) : WS := (w.1, M)
/-- the globals: classes, addresses, array classes, the first new address, the texts' addresses -/
abbrev Gl : Type := va_G × (Nat → Nat) × (ClassId × ClassId × ClassId × ClassId × ClassId × ClassId) × Nat × (Nat → Nat) × (Nat → Nat)
abbrev gD (G : Gl) : va_G := G.1
def ga (G : Gl) : Nat → Nat := G.2.1
abbrev gcI (G : Gl) : ClassId := G.2.2.1.1
abbrev gcB (G : Gl) : ClassId := G.2.2.1.2.1
abbrev gcJ (G : Gl) : ClassId := G.2.2.1.2.2.1
abbrev gcE (G : Gl) : ClassId := G.2.2.1.2.2.2.1
abbrev gcS (G : Gl) : ClassId := G.2.2.1.2.2.2.2.1
abbrev gcG (G : Gl) : ClassId := G.2.2.1.2.2.2.2.2
abbrev gLo (G : Gl) : Nat := G.2.2.2.1
abbrev gK (G : Gl) : Nat → Nat := G.2.2.2.2.1
abbrev gV (G : Gl) : Nat → Nat := G.2.2.2.2.2
def gA (G : Gl) : Nat → Prop := fun q => gLo G ≤ q
def gTy (G : Gl) : List (ClassId × FieldType) := [(gcI G, .int), (gcB G, .byte), (gcJ G, .long), (gcE G, .object "ShornYear$Ewe"), (gcS G, .object "ShornYear$Sheet"), (gcG G, .array .int)]
def ai (c : ClassId) (n : Nat) (f : Nat → Int32) : va_E := .inl (c, n, .inl f)
def aj (c : ClassId) (n : Nat) (f : Nat → Int64) : va_E := .inl (c, n, .inr (.inl f))
def aq (c : ClassId) (n : Nat) (f : Nat → Option Nat) : va_E := .inl (c, n, .inr (.inr (.inr (.inr f))))
def ob (k : Nat) (fs : List Value) : va_E := .inr (k, fs)
/-- the cells by their places -/
def cel (G : Gl) (w : WS) (k : Nat) : va_E :=
  if k = 0 then ob 4 [.ref (ga G 1), .ref (ga G 2), .ref (ga G 3), .ref (ga G 55), .ref (ga G 81), .ref (ga G 83), .ref (ga G 92), .int (gH w)] else
  if k < 4 then ob 1 [.int (nI (gP w (k - 1)).1), .int (nI (gP w (k - 1)).2.1), .ref (ga G (k + 3)), .ref (ga G (k + 6)), .ref (ga G (k + 9)), .ref (ga G (k + 12)), .ref (ga G (k + 15))] else
  if k < 7 then ai (gcI G) 12 (gP w (k - 4)).2.2.1 else
  if k < 10 then ai (gcI G) 12 (gP w (k - 7)).2.2.2.1 else
  if k < 13 then ai (gcI G) 12 (gP w (k - 10)).2.2.2.2.1 else
  if k < 16 then aq (gcE G) 8 (fun e => some (ga G (31 + (8 * (k - 13) + e)))) else
  if k < 19 then aq (gcG G) 4 (fun c => some (ga G (19 + (4 * (k - 16) + c)))) else
  if k < 31 then ai (gcI G) 12 ((gP w ((k - 19) / 4)).2.2.2.2.2.1 ((k - 19) % 4)) else
  if k < 56 then ob 0 [.int ((gP w ((k - 31) / 8)).2.2.2.2.2.2 ((k - 31) % 8)).1, .int ((gP w ((k - 31) / 8)).2.2.2.2.2.2 ((k - 31) % 8)).2.1, .int ((gP w ((k - 31) / 8)).2.2.2.2.2.2 ((k - 31) % 8)).2.2.1, .ref (ga G (k + 25))] else
  if k < 81 then ai (gcI G) 12 ((gP w ((k - 56) / 8)).2.2.2.2.2.2 ((k - 56) % 8)).2.2.2 else
  if k = 81 then ob 3 [.ref (ga G 82), .int (nI (gT w).2.1), .int (gT w).2.2.1, .int (nI (gT w).2.2.2.1), .int (nI (gT w).2.2.2.2.1), .int (gT w).2.2.2.2.2] else
  if k = 82 then ai (gcB G) 120 (gT w).1 else
  if k = 83 then aq (gcS G) 4 (fun s => some (ga G (84 + s))) else
  if k < 88 then ob 2 [.ref (ga G (k + 4)), .int (nI (gS w (k - 84)).2.1), .int (gS w (k - 84)).2.2] else
  if k < 92 then aj (gcJ G) 40 (gS w (k - 88)).1 else
  if k = 92 then ai (gcI G) 7 (gF w) else
  if k = 93 then ob 5 [.ref (ga G 94), .ref (ga G 95), .ref (ga G 96), .ref (ga G 97), .ref (ga G 98), .int w.2.2.2.2.2.2.1, .ref (ga G 99), .int (nI w.2.2.2.2.2.2.2.2.1), .int (nI w.2.2.2.2.2.2.2.2.2.1), .int (nI w.2.2.2.2.2.2.2.2.2.2.1), .int w.2.2.2.2.2.2.2.2.2.2.2.1, .int w.2.2.2.2.2.2.2.2.2.2.2.2.1, .ref (ga G 100), .ref (ga G 101), .ref (ga G 102), .ref (ga G 103)] else
  if k = 94 then ai (gcI G) 198 w.2.1 else
  if k = 95 then ai (gcI G) 198 w.2.2.1 else
  if k = 96 then ai (gcI G) 198 w.2.2.2.1 else
  if k = 97 then ai (gcI G) 198 w.2.2.2.2.1 else
  if k = 98 then ai (gcI G) 7 w.2.2.2.2.2.1 else
  if k = 99 then ai (gcI G) 120 w.2.2.2.2.2.2.2.1 else
  if k = 100 then ai (gcI G) 4 w.2.2.2.2.2.2.2.2.2.2.2.2.2.1 else
  if k = 101 then ai (gcI G) 4 w.2.2.2.2.2.2.2.2.2.2.2.2.2.2.1 else
  if k = 102 then aj (gcJ G) 160 w.2.2.2.2.2.2.2.2.2.2.2.2.2.2.2.1 else
  if k = 103 then aj (gcJ G) 40 w.2.2.2.2.2.2.2.2.2.2.2.2.2.2.2.2 else
  aq (gcE G) 0 (fun _ => none)
theorem cel_obj (G : Gl) (w : WS) : cel G w 0 = ob 4 [.ref (ga G 1), .ref (ga G 2), .ref (ga G 3), .ref (ga G 55), .ref (ga G 81), .ref (ga G 83), .ref (ga G 92), .int (gH w)] := rfl
theorem cel_par (G : Gl) (w : WS) {p : Nat} (hp : p < 3) : cel G w (1 + p) = ob 1 [.int (nI (gP w p).1), .int (nI (gP w p).2.1), .ref (ga G (4 + p)), .ref (ga G (7 + p)), .ref (ga G (10 + p)), .ref (ga G (13 + p)), .ref (ga G (16 + p))] := by
  unfold cel
  rw [if_neg (by omega), if_pos (by omega)]
  rw [show 1 + p - 1 = p by omega, show 1 + p + 3 = 4 + p by omega, show 1 + p + 6 = 7 + p by omega, show 1 + p + 9 = 10 + p by omega, show 1 + p + 12 = 13 + p by omega, show 1 + p + 15 = 16 + p by omega]
theorem cel_wea (G : Gl) (w : WS) {p : Nat} (hp : p < 3) : cel G w (4 + p) = ai (gcI G) 12 (gP w p).2.2.1 := by
  unfold cel
  rw [if_neg (by omega), if_neg (by omega), if_pos (by omega)]
  rw [show 4 + p - 4 = p by omega]
theorem cel_sto (G : Gl) (w : WS) {p : Nat} (hp : p < 3) : cel G w (7 + p) = ai (gcI G) 12 (gP w p).2.2.2.1 := by
  unfold cel
  rw [if_neg (by omega), if_neg (by omega), if_neg (by omega), if_pos (by omega)]
  rw [show 7 + p - 7 = p by omega]
theorem cel_rou (G : Gl) (w : WS) {p : Nat} (hp : p < 3) : cel G w (10 + p) = ai (gcI G) 12 (gP w p).2.2.2.2.1 := by
  unfold cel
  rw [if_neg (by omega), if_neg (by omega), if_neg (by omega), if_neg (by omega), if_pos (by omega)]
  rw [show 10 + p - 10 = p by omega]
theorem cel_ews (G : Gl) (w : WS) {p : Nat} (hp : p < 3) : cel G w (13 + p) = aq (gcE G) 8 (fun e => some (ga G (31 + (8 * p + e)))) := by
  unfold cel
  rw [if_neg (by omega), if_neg (by omega), if_neg (by omega), if_neg (by omega), if_neg (by omega), if_pos (by omega)]
  rw [show 13 + p - 13 = p by omega]
theorem cel_cos (G : Gl) (w : WS) {p : Nat} (hp : p < 3) : cel G w (16 + p) = aq (gcG G) 4 (fun c => some (ga G (19 + (4 * p + c)))) := by
  unfold cel
  rw [if_neg (by omega), if_neg (by omega), if_neg (by omega), if_neg (by omega), if_neg (by omega), if_neg (by omega), if_pos (by omega)]
  rw [show 16 + p - 16 = p by omega]
theorem cel_coa (G : Gl) (w : WS) {p c : Nat} (hp : p < 3) (hc : c < 4) : cel G w (19 + (4 * p + c)) = ai (gcI G) 12 ((gP w p).2.2.2.2.2.1 c) := by
  unfold cel
  rw [if_neg (by omega), if_neg (by omega), if_neg (by omega), if_neg (by omega), if_neg (by omega), if_neg (by omega), if_neg (by omega), if_pos (by omega)]
  rw [show (19 + (4 * p + c) - 19) / 4 = p by omega, show (19 + (4 * p + c) - 19) % 4 = c by omega]
theorem cel_ewe (G : Gl) (w : WS) {p e : Nat} (hp : 8 * p + e < 25) (he : e < 8) : cel G w (31 + (8 * p + e)) = ob 0 [.int ((gP w p).2.2.2.2.2.2 e).1, .int ((gP w p).2.2.2.2.2.2 e).2.1, .int ((gP w p).2.2.2.2.2.2 e).2.2.1, .ref (ga G (56 + (8 * p + e)))] := by
  unfold cel
  rw [if_neg (by omega), if_neg (by omega), if_neg (by omega), if_neg (by omega), if_neg (by omega), if_neg (by omega), if_neg (by omega), if_neg (by omega), if_pos (by omega)]
  rw [show (31 + (8 * p + e) - 31) / 8 = p by omega, show (31 + (8 * p + e) - 31) % 8 = e by omega, show 31 + (8 * p + e) + 25 = 56 + (8 * p + e) by omega]
theorem cel_fle (G : Gl) (w : WS) {p e : Nat} (hp : 8 * p + e < 25) (he : e < 8) : cel G w (56 + (8 * p + e)) = ai (gcI G) 12 ((gP w p).2.2.2.2.2.2 e).2.2.2 := by
  unfold cel
  rw [if_neg (by omega), if_neg (by omega), if_neg (by omega), if_neg (by omega), if_neg (by omega), if_neg (by omega), if_neg (by omega), if_neg (by omega), if_neg (by omega), if_pos (by omega)]
  rw [show (56 + (8 * p + e) - 56) / 8 = p by omega, show (56 + (8 * p + e) - 56) % 8 = e by omega]
theorem cel_tap (G : Gl) (w : WS) : cel G w 81 = ob 3 [.ref (ga G 82), .int (nI (gT w).2.1), .int (gT w).2.2.1, .int (nI (gT w).2.2.2.1), .int (nI (gT w).2.2.2.2.1), .int (gT w).2.2.2.2.2] := rfl
theorem cel_byt (G : Gl) (w : WS) : cel G w 82 = ai (gcB G) 120 (gT w).1 := rfl
theorem cel_shs (G : Gl) (w : WS) : cel G w 83 = aq (gcS G) 4 (fun s => some (ga G (84 + s))) := rfl
theorem cel_she (G : Gl) (w : WS) {s : Nat} (hs : s < 4) : cel G w (84 + s) = ob 2 [.ref (ga G (88 + s)), .int (nI (gS w s).2.1), .int (gS w s).2.2] := by
  unfold cel
  rw [if_neg (by omega), if_neg (by omega), if_neg (by omega), if_neg (by omega), if_neg (by omega), if_neg (by omega), if_neg (by omega), if_neg (by omega), if_neg (by omega), if_neg (by omega), if_neg (by omega), if_neg (by omega), if_neg (by omega), if_pos (by omega)]
  rw [show 84 + s - 84 = s by omega, show 84 + s + 4 = 88 + s by omega]
theorem cel_num (G : Gl) (w : WS) {s : Nat} (hs : s < 4) : cel G w (88 + s) = aj (gcJ G) 40 (gS w s).1 := by
  unfold cel
  rw [if_neg (by omega), if_neg (by omega), if_neg (by omega), if_neg (by omega), if_neg (by omega), if_neg (by omega), if_neg (by omega), if_neg (by omega), if_neg (by omega), if_neg (by omega), if_neg (by omega), if_neg (by omega), if_neg (by omega), if_neg (by omega), if_pos (by omega)]
  rw [show 88 + s - 88 = s by omega]
theorem cel_tol (G : Gl) (w : WS) : cel G w 92 = ai (gcI G) 7 (gF w) := rfl
theorem cel_mod (G : Gl) (w : WS) : cel G w 93 = ob 5 [.ref (ga G 94), .ref (ga G 95), .ref (ga G 96), .ref (ga G 97), .ref (ga G 98), .int w.2.2.2.2.2.2.1, .ref (ga G 99), .int (nI w.2.2.2.2.2.2.2.2.1), .int (nI w.2.2.2.2.2.2.2.2.2.1), .int (nI w.2.2.2.2.2.2.2.2.2.2.1), .int w.2.2.2.2.2.2.2.2.2.2.2.1, .int w.2.2.2.2.2.2.2.2.2.2.2.2.1, .ref (ga G 100), .ref (ga G 101), .ref (ga G 102), .ref (ga G 103)] := rfl
theorem cel_ms (G : Gl) (w : WS) : cel G w 94 = ai (gcI G) 198 w.2.1 := rfl
theorem cel_mk (G : Gl) (w : WS) : cel G w 95 = ai (gcI G) 198 w.2.2.1 := rfl
theorem cel_mo (G : Gl) (w : WS) : cel G w 96 = ai (gcI G) 198 w.2.2.2.1 := rfl
theorem cel_ma (G : Gl) (w : WS) : cel G w 97 = ai (gcI G) 198 w.2.2.2.2.1 := rfl
theorem cel_mf (G : Gl) (w : WS) : cel G w 98 = ai (gcI G) 7 w.2.2.2.2.2.1 := rfl
theorem cel_mt (G : Gl) (w : WS) : cel G w 99 = ai (gcI G) 120 w.2.2.2.2.2.2.2.1 := rfl
theorem cel_mb (G : Gl) (w : WS) : cel G w 100 = ai (gcI G) 4 w.2.2.2.2.2.2.2.2.2.2.2.2.2.1 := rfl
theorem cel_mz (G : Gl) (w : WS) : cel G w 101 = ai (gcI G) 4 w.2.2.2.2.2.2.2.2.2.2.2.2.2.2.1 := rfl
theorem cel_nu (G : Gl) (w : WS) : cel G w 102 = aj (gcJ G) 160 w.2.2.2.2.2.2.2.2.2.2.2.2.2.2.2.1 := rfl
theorem cel_mv (G : Gl) (w : WS) : cel G w 103 = aj (gcJ G) 40 w.2.2.2.2.2.2.2.2.2.2.2.2.2.2.2.2 := rfl
/-- the world's list -/
def wl (G : Gl) (w : WS) : va_W := (List.range 104).map (fun k => (ga G k, cel G w k))
theorem wl_at {G : Gl} {w : WS} {k : Nat} {x : va_E} (hk : k < 104) (h : cel G w k = x) : (wl G w)[k]? = some (ga G k, x) := by
  unfold wl
  rw [List.getElem?_map, List.getElem?_range hk, ← h]
  rfl
theorem wl_len (G : Gl) (w : WS) : (wl G w).length = 104 := by simp [wl]
theorem wl_inv {G : Gl} {w : WS} {k : Nat} {q : Nat × va_E} (h : (wl G w)[k]? = some q) : k < 104 ∧ q = (ga G k, cel G w k) := by
  have hk : k < 104 := by
    have := (List.getElem?_eq_some_iff.mp h).1
    rw [wl_len] at this
    exact this
  refine ⟨hk, ?_⟩
  rw [wl_at hk rfl] at h
  exact (Option.some.inj h).symm
theorem wl_set {G : Gl} {w w' : WS} {k : Nat} {x : va_E} (hk : k < 104) (h : ∀ j, j < 104 → cel G w' j = if j = k then x else cel G w j) : (wl G w).set k (ga G k, x) = wl G w' := by
  apply List.ext_getElem?
  intro j
  by_cases hj : j < 104
  · have e1 : (wl G w')[j]? = some (ga G j, cel G w' j) := wl_at hj rfl
    by_cases hjk : j = k
    · subst hjk
      rw [List.getElem?_set_self (by rw [wl_len]; exact hk), e1, h j hj, if_pos rfl]
    · rw [List.getElem?_set_ne (fun e => hjk e.symm), wl_at hj rfl, e1, h j hj, if_neg hjk]
  · rw [List.getElem?_eq_none (by rw [List.length_set, wl_len]; omega), List.getElem?_eq_none (by rw [wl_len]; omega)]
def Wd (G : Gl) (w : WS) (H : Heap) : Prop := va_P (gD G) vwCl (wl G w) H
def GI (G : Gl) : Prop := (∀ i j, i < 104 → j < 104 → ga G i = ga G j → i = j) ∧ ∀ k, k < 104 → gLo G ≤ ga G k
theorem GI.D {G : Gl} (h : GI G) (w : WS) : va_D (gA G) (wl G w) := by
  refine ⟨fun i j p q hi hj e => ?_, fun k q hk => ?_⟩
  · obtain ⟨h1, rfl⟩ := wl_inv hi
    obtain ⟨h2, rfl⟩ := wl_inv hj
    exact h.1 i j h1 h2 e
  · obtain ⟨h1, rfl⟩ := wl_inv hk
    exact h.2 k h1
def Nst (U : State) : Prop := va_Nw (.methodLinkNest RX0 31 yX4_grows RX4) U ∧ va_Nw (.methodLinkNest RX0 35 yX4_loses RX4) U ∧ va_Nw (.methodLinkNest RX0 43 yX4_calms RX4) U ∧ va_Nw (.methodLinkNest RX1 86 yX4_burrs RX4) U
/-- the texts: ewe ram lamb wether black pet cold mild cut store fright -/
def sLen : List Nat := [3, 3, 4, 6, 5, 3, 4, 4, 3, 5, 6]
def sByt : List (List Int32) := [[101, 119, 101], [114, 97, 109], [108, 97, 109, 98], [119, 101, 116, 104, 101, 114], [98, 108, 97, 99, 107], [112, 101, 116], [99, 111, 108, 100], [109, 105, 108, 100], [99, 117, 116], [115, 116, 111, 114, 101], [102, 114, 105, 103, 104, 116]]
def sIx : List Nat := [79, 69, 71, 73, 75, 77, 88, 93, 95, 100, 111]
def sTx : List String := ["ewe", "ram", "lamb", "wether", "black", "pet", "cold", "mild", "cut", "store", "fright"]
def Sx (G : Gl) (U : State) : Prop := vk_S 11 sLen sByt (gK G) (gV G) (gA G) U U.heap ∧ (∀ i, i < 11 → vk_R RX3 (sIx.getD i 0) (sTx.getD i "") (gK G i) U) ∧ va_Z "java/lang/String" "COMPACT_STRINGS" "Z" (.int 1) (gA G) U U.heap ∧ va_Zq "jdk/internal/util/Preconditions" "SIOOBE_FORMATTER" "Ljava/util/function/BiFunction;" (gA G) U U.heap
def Kd (G : Gl) (U : State) : Prop := va_K (gD G) vwCl (gTy G) U ∧ Nst U ∧ GI G ∧ Sx G U
theorem Kd.next {G : Gl} {s U : State} {locs : List Loc} (h : Kd G s) (hW : s.WarmedH U.vm) (hS : va_S (gA G) s.heap U.heap locs) : Kd G U := by
  obtain ⟨h1, ⟨n1, n2, n3, n4⟩, h3, s1, s2, s3, s4⟩ := h
  exact ⟨va_K.moved hW.alike h1, ⟨n1.warmM hW, n2.warmM hW, n3.warmM hW, n4.warmM hW⟩, h3, (s1.moved hW.alike).kept hS.2.1, fun i hi => (s2 i hi).warm hW, (s3.moved hW.alike).kept hS.2.1, (s4.moved hW.alike).kept hS.2.1⟩
theorem Kd.call {G : Gl} {U : State} (h : Kd G U) (g : JFrame) (mk : MethodId) (a : Array Value) : Kd G (U.calling g mk a) := by
  obtain ⟨h1, ⟨n1, n2, n3, n4⟩, h3, s1, s2, s3, s4⟩ := h
  have hA : U.vm.Alike (U.calling g mk a).vm := Vm.Alike.refl U.vm
  exact ⟨va_K.moved hA h1, ⟨va_Nw.same rfl rfl n1, va_Nw.same rfl rfl n2, va_Nw.same rfl rfl n3, va_Nw.same rfl rfl n4⟩, h3, s1.moved hA, fun i hi => (s2 i hi).same rfl, s3.moved hA, s4.moved hA⟩
/-- what a method does, as a function: it answers ov, the world becomes wF -/
def Qo (G : Gl) (ov : Option Value) (wF : WS) : Array Value → State → Outcome → State → Prop := fun _ st oc t => (oc = .returned ov ∧ Wd G wF t.heap) ∧ va_F (gA G) st t
def Ct (l : Launch) (G : Gl) (y : MethodName) (cc : ByteArray) (nL : Nat) (ret : Option FieldType) (f n : Nat) (avs : List Value) (w : WS) (ov : Option Value) (wF : WS) : Prop :=
  Met l y (.code y cc nL ret :: BIG) (k2_rm f n) (va_Pc avs (fun U => Wd G w U.heap ∧ Kd G U)) (Qo G ov wF) 0 0 (gA G)
abbrev VX : Type := Program × Env × State × MethodId × Array Value × List Frame × Method × Code
def OKX (X : VX) (cc : ByteArray) (nL : Nat) (own : String) (ret : Option FieldType) (G : Gl) : Prop := match X with
  | (p, e, s, m, args, below, meth, c) => p.tables.exec = Jvm.exec ∧ c.code = cc ∧ c.maxLocals = nL ∧ s.vm.findClass own = some m.cls ∧ (∀ w ∈ BIG, w.before args s = true) ∧ Kd G s ∧ meth.locks = false ∧ meth.sig.returnType = ret
/-- the machine at pc, with these locals and this stack, in this world, comes to the end that the contract names -/
def V (l : Launch) (X : VX) (f n : Nat) (cc : ByteArray) (nL : Nat) (own : String) (ret : Option FieldType) (G : Gl) (ov : Option Value) (wF : WS) (w : WS) (pc : Nat) (ls : List (Nat × Value)) (st : List Value) : Prop := match X with
  | (p, e, s, m, args, below, meth, c) => OKX (p, e, s, m, args, below, meth, c) cc nL own ret G → ∀ (H : Heap) (locs : List Loc) (la : Array Slot), Wd G w H → va_S (gA G) s.heap H locs → lv_has la nL ls → W p l e (k2_rm f n) s m args below meth c H locs 0 0 (MQ below (Qo G ov wF) args s 0 0 (gA G)) (F0 m pc la st)
theorem Ct.of {l : Launch} {G : Gl} {y : MethodName} {cc : ByteArray} {nL : Nat} {ret : Option FieldType} {f n : Nat} {avs : List Value} {w : WS} {ov : Option Value} {wF : WS} {own : String} (hy : plainName y.cls = true) (ho : y.cls = own) (hlen : (lg_sl avs).length ≤ nL) {ls : List (Nat × Value)} (hls : lv_args 0 avs = ls) (h : ∀ X : VX, V l X f n cc nL own ret G ov wF w 0 ls []) : Ct l G y cc nL ret f n avs w ov wF := by
  refine Met.ofW (cc := cc) (maxL := nL) (ret := ret) hy rfl ?_
  intro p e s m args below meth c s₁ B hml hv
  obtain ⟨rfl, hw, hK⟩ := hv
  have hts := atoms_spec (ws := .code y cc nL ret :: BIG) B.pre
  have hown : s.vm.findClass y.cls = some m.cls := findClass_of_methodNamed B.named
  rw [ho] at hown
  rw [lg_entry_eq]
  have hl := lv_entry avs (n := nL) hlen
  rw [hls] at hl
  exact h (p, e, s, m, avs.toArray, below, meth, c) ⟨B.exec, B.bytes, hml, hown, fun w hw => hts w (List.mem_cons_of_mem _ hw), hK, B.notSynchronized, B.returns⟩ s.heap [] _ hw va_S.rf hl
