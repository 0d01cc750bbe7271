section VROWS3
variable {l : Launch} {X : VX} {f n : Nat} {cc : ByteArray} {nL : Nat} {own : String} {ret : Option FieldType} {G : Gl} {ov : Option Value} {wF w : WS} {pc : Nat} {ls ls2 : List (Nat × Value)} {st : List Value}
theorem v_callVs {y : MethodName} {cc2 : ByteArray} {nL2 f2 n2 index : Nat} {ret2 : Option FieldType} {ov2 : Option Value} {w1 w2 : WS} {As : List Value} {kn i9 : Nat} (hM : Ct l G y cc2 nL2 ret2 f2 n2 (.ref (gK G i9) :: As) w1 ov2 w2) (hkal : Kal y cc2 nL2 ret2 kn) (hn : As.length = kn) (hd : decode cc pc = .ok (.invokevirtual index, 3)) (hlink : Cond.methodLink own index y ∈ BIG) (hins : Cond.instanceMethod y ∈ BIG) (hsel : Cond.selects y.cls y y ∈ BIG) (hcl : y.cls = "java/lang/String") (h11 : i9 < 11) (hR : f2 + 1 ≤ f ∧ 8 + (nL2 + 11) + n2 ≤ n) (rest : List Value) (hr : (rest.map fun v => v.category).sum ≤ 8) (hs : st = As.reverse ++ .ref (gK G i9) :: rest) (ew : w = w1) (q : Nat) (hq : pc + 3 = q) (hkk : V l X f n cc nL own ret G ov wF w2 q ls (ov2.toList ++ rest)) : V l X f n cc nL own ret G ov wF w pc ls (st) := by
  obtain ⟨p, e, s, m, args, below, meth, c⟩ := X
  intro hX H locs la hw hS hl
  subst hq
  subst ew
  exact ct_go (va_runV ⟨hX.1, hX.2.1, hX.2.2.1, hX.2.2.2.1, hX.2.2.2.2.1⟩ hM ⟨⟨rfl, rfl, hR.1, hR.2, pay_in hX.2.2.2.2.1 (big_in hkal.1), List.mem_cons_self, hX.2.2.2.2.1 _ hkal.1, hX.2.2.2.2.1 _ hkal.2.1, hkal.2.2.1, hkal.arity, hX.2.2.2.2.1 _ hlink⟩, hX.2.2.2.2.1 _ hins, hX.2.2.2.2.1 _ hsel⟩ ⟨(ct_pre hX.2.2.2.2.2.1 hw hS).1, (by rw [hcl]; exact vk_recv hX.2.2.2.2.2.1.2.2.2.1 h11 hS), (ct_pre hX.2.2.2.2.2.1 hw hS).2⟩ rfl hn hl.1 hs (lv_room hr) hd ⟨Nat.le_refl _, Nat.le_refl _⟩) hS (fun H1 locs1 hw1 hS1 => hkk hX H1 locs1 la hw1 hS1 hl)
theorem v_ldcs {index : Nat} (hd : decode cc pc = .ok (.ldc index, 2)) (i : Nat) (h11 : i < 11) (hx : sIx.getD i 0 = index) (q : Nat) (hq : pc + 2 = q) (hkk : V l X f n cc nL RX3 ret G ov wF w q ls (.ref (gK G i) :: st)) : V l X f n cc nL RX3 ret G ov wF w pc ls (st) := by
  obtain ⟨p, e, s, m, args, below, meth, c⟩ := X
  intro hX H locs la hw hS hl
  subst hq
  subst hx
  exact va_ldcS hX.1 hX.2.1 hX.2.2.2.1 (hX.2.2.2.2.2.1.2.2.2.2.1 i h11) hd (hkk hX H locs la hw hS hl)
theorem v_sval {index i : Nat} (hd : decode cc pc = .ok (.getfield index, 3)) (hlink : Cond.fieldLink own index "java/lang/String" "value" "[B" ∈ BIG) (h11 : i < 11) (q : Nat) (hq : pc + 3 = q) (hkk : V l X f n cc nL own ret G ov wF w q ls (.ref (gV G i) :: st)) : V l X f n cc nL own ret G ov wF w pc ls (.ref (gK G i) :: st) := by
  obtain ⟨p, e, s, m, args, below, meth, c⟩ := X
  intro hX H locs la hw hS hl
  subst hq
  exact vk_getf hX.1 hX.2.1 (hX.2.2.2.2.2.1.2.2.2.1.1 i h11).2.2.1 hS hX.2.2.2.1 (hX.2.2.2.2.1 _ hlink) (fun _ h => h) hd (hkk hX H locs la hw hS hl)
theorem v_scod {index i : Nat} (hd : decode cc pc = .ok (.getfield index, 3)) (hlink : Cond.fieldLink own index "java/lang/String" "coder" "B" ∈ BIG) (h11 : i < 11) (q : Nat) (hq : pc + 3 = q) (hkk : V l X f n cc nL own ret G ov wF w q ls (.int 0 :: st)) : V l X f n cc nL own ret G ov wF w pc ls (.ref (gK G i) :: st) := by
  obtain ⟨p, e, s, m, args, below, meth, c⟩ := X
  intro hX H locs la hw hS hl
  subst hq
  exact vk_getf hX.1 hX.2.1 (hX.2.2.2.2.2.1.2.2.2.1.1 i h11).2.1 hS hX.2.2.2.1 (hX.2.2.2.2.1 _ hlink) (fun _ h => h) hd (hkk hX H locs la hw hS hl)
theorem v_gets1 {index : Nat} (hd : decode cc pc = .ok (.getstatic index, 3)) (hlink : Cond.fieldLink own index "java/lang/String" "COMPACT_STRINGS" "Z" ∈ BIG) (q : Nat) (hq : pc + 3 = q) (hkk : V l X f n cc nL own ret G ov wF w q ls (.int 1 :: st)) : V l X f n cc nL own ret G ov wF w pc ls (st) := by
  obtain ⟨p, e, s, m, args, below, meth, c⟩ := X
  intro hX H locs la hw hS hl
  subst hq
  exact va_gets hX.1 hX.2.1 hX.2.2.2.2.2.1.2.2.2.2.2.1 hS hX.2.2.2.1 (hX.2.2.2.2.1 _ hlink) (fun _ h => h) hd (hkk hX H locs la hw hS hl)
theorem v_getsq {index : Nat} (hd : decode cc pc = .ok (.getstatic index, 3)) (hlink : Cond.fieldLink own index "jdk/internal/util/Preconditions" "SIOOBE_FORMATTER" "Ljava/util/function/BiFunction;" ∈ BIG) (q : Nat) (hq : pc + 3 = q) (hkn : V l X f n cc nL own ret G ov wF w q ls (.null :: st)) (hkr : ∀ t : Nat, V l X f n cc nL own ret G ov wF w q ls (.ref t :: st)) : V l X f n cc nL own ret G ov wF w pc ls (st) := by
  obtain ⟨p, e, s, m, args, below, meth, c⟩ := X
  intro hX H locs la hw hS hl
  subst hq
  rcases hX.2.2.2.2.2.1.2.2.2.2.2.2 with h | ⟨t, h⟩
  · exact va_gets hX.1 hX.2.1 h hS hX.2.2.2.1 (hX.2.2.2.2.1 _ hlink) (fun _ h => h) hd (hkn hX H locs la hw hS hl)
  · exact va_gets hX.1 hX.2.1 h hS hX.2.2.2.1 (hX.2.2.2.2.1 _ hlink) (fun _ h => h) hd (hkr t hX H locs la hw hS hl)
def sB (k j : Nat) : Int32 := (sByt.getD k []).getD j 0
def sL (k : Nat) : Nat := sLen.getD k 0
theorem sL_le : ∀ k, k < 11 → sL k ≤ 6 := by decide
theorem sB_c : ∀ k, k < 11 → ∀ j, j < sL k → ((sB k j &&& 255 : Int32).toUInt32 % 65536).toInt32 = sB k j := by decide
theorem sB_n : ∀ k, k < 11 → ∀ j, j < sL k → 0 ≤ (sB k j).toInt ∧ (sB k j).toInt ≤ 255 := by decide
theorem sB_c2 : ∀ k, k < 11 → ∀ j, j < sL k → (sB k j).toUInt32.toUInt16.toUInt32.toInt32 = sB k j := by decide
theorem sL_sh : ∀ k, k < 11 → nI (sL k) >>> ((0 : Int32) &&& 31) = nI (sL k) := by decide
theorem v_slen {i : Nat} (hd : decode cc pc = .ok (.arraylength, 1)) (h11 : i < 11) (q : Nat) (hq : pc + 1 = q) (hkk : V l X f n cc nL own ret G ov wF w q ls (.int (nI (sL i)) :: st)) : V l X f n cc nL own ret G ov wF w pc ls (.ref (gV G i) :: st) := by
  obtain ⟨p, e, s, m, args, below, meth, c⟩ := X
  intro hX H locs la hw hS hl
  subst hq
  exact va_tlen hX.1 hX.2.1 (hX.2.2.2.2.2.1.2.2.2.1.1 i h11).2.2.2 hS rfl hd (hkk hX H locs la hw hS hl)
theorem v_sbald {i : Nat} (hd : decode cc pc = .ok (.baload, 1)) (h11 : i < 11) {x : Int32} (j : Nat) (hx : x = nI j) (hj : j < sL i) (q : Nat) (hq : pc + 1 = q) (hkk : V l X f n cc nL own ret G ov wF w q ls (.int (sB i j) :: st)) : V l X f n cc nL own ret G ov wF w pc ls (.int x :: .ref (gV G i) :: st) := by
  obtain ⟨p, e, s, m, args, below, meth, c⟩ := X
  intro hX H locs la hw hS hl
  subst hq
  subst hx
  have h6 := sL_le i h11
  exact va_tb hX.1 hX.2.1 (hX.2.2.2.2.2.1.2.2.2.1.1 i h11).2.2.2 hS (vp_in_nI hj (show sL i < 2 ^ 31 by omega)) (by show Value.int ((sByt.getD i []).getD (nI j).toNatClampNeg 0) = _; rw [nI_clamp (by omega)]; rfl) hd (hkk hX H locs la hw hS hl)
end VROWS3
