def R_law : String := "ShornYearLaw"
def lw_P (b : Addr) (xs : List Int32) (args : Array Value) (s : State) : Prop := args = #[.ref b] ∧ s.IntsAt b xs ∧ xs.length ≤ 3072 ∧ (Jvm.Cond.and given_1 narrow_1).before args s = true
def lw_Q (_ : Array Value) (s : State) (o : Outcome) (t : State) : Prop := o = .returned (some (.int 1)) ∧ Framed s o t [] 600000 7302250
def lw_Z (below : List Frame) (a : Array Value) (s : State) : State → Prop := fun t => ∃ o, t.status = .running ∧ Ended t below o ∧ lw_Q a s o t
/-- the law's own end, with 1 on the stack, nothing written that was there before, its room as the claim has it -/
theorem lw_ret {p : Program} {l : Launch} {e : Env} {s : State} {m : MethodId} {below : List Frame} {meth : Method} {c : Code} {b : Nat} (hx : p.tables.exec = Jvm.exec) (hb : c.code = code) (hr : meth.sig.returnType = ret) (hlocks : meth.locks = false) {pc : Nat} {H : Heap} {ls : Array Slot} (hdg : decode code pc = .ok (.ireturn, 1)) : W p l e room_1 s m #[Value.ref b] below meth c H [] 600000 7302250 (lw_Z below #[Value.ref b] s) (F0 m pc ls [.int 1]) := by
  intro T hT X
  obtain ⟨fs, hret, hrun, hended, hW, hframe⟩ := X.leave (v := some (.int 1)) (hlocks := hlocks) (fun h => by rw [hr] at h; cases h)
  have hmeth' : T.vm.method? m = some meth := X.method'
  refine ⟨T.setFrames fs, ?_, .returned (some (.int 1)), hrun, hended, rfl, ⟨_, rfl⟩, hW, hframe⟩
  jvm_step X.here [X.here.top, hx, hb, hdg, hmeth', hr, ret, narrow_b1]
  (try refine ⟨rfl, ?_⟩); (try refine ⟨rfl, ?_⟩)
  first | (intro acts; rw [hret _ acts rfl rfl rfl]) | rw [hret _ _ rfl rfl rfl]
  exact Steps.refl _
/-- what holds at the law's entry: the machine, the code, the tables' words (any of lw_tbl by 'hts w (by decide +kernel)'), the script of L ints xs at the cell b, what the Statement gives of the start (any of its parts by flat_of_before) -/
def lw_At (p : Program) (s : State) (m : MethodId) (meth : Method) (c : Code) (b L : Nat) (xs : Nat → Int32) : Prop :=
  p.tables.exec = Jvm.exec ∧ c.code = code ∧ meth.sig.returnType = ret ∧ c.maxLocals = 4 ∧ s.vm.findClass R_law = some m.cls ∧ (∀ w ∈ lw_tbl, w.before #[Value.ref b] s = true) ∧ va_X b L xs s s.heap ∧ b < s.heap.size ∧ meth.locks = false ∧ (Jvm.Cond.and given_1 narrow_1).before #[Value.ref b] s = true
/-! the law's own walk -/
abbrev LZ : Type := Program × Env × State × MethodId × List Frame × Method × Code
def OKL (Z : LZ) (b L : Nat) (xs : Nat → Int32) (G : Gl) : Prop := match Z with
  | (p, e, s, m, below, meth, c) => p.tables.exec = Jvm.exec ∧ c.code = cL_law ∧ c.maxLocals = 4 ∧ s.vm.findClass RL = some m.cls ∧ (∀ w ∈ BIG, w.before #[Value.ref b] s = true) ∧ Kd G s ∧ meth.locks = false ∧ meth.sig.returnType = ret ∧ va_X b L xs s s.heap ∧ b < s.heap.size ∧ gLo G = s.heap.size
def Lw (l : Launch) (Z : LZ) (b L : Nat) (xs : Nat → Int32) (G : Gl) (w : WS) (pc : Nat) (ls : List (Nat × Value)) (st : List Value) : Prop := match Z with
  | (p, e, s, m, below, meth, c) => OKL (p, e, s, m, below, meth, c) b L xs G → ∀ (H : Heap) (locs : List Loc) (la : Array Slot), Wd G w H → va_S (gA G) s.heap H locs → lv_has la 4 ls → W p l e room_1 s m #[Value.ref b] below meth c H locs 104 2169 (lw_Z below #[Value.ref b] s) (F0 m pc la st)
theorem gA_b {G : Gl} {s : State} {b : Nat} (h : gLo G = s.heap.size) (hb : b < s.heap.size) : ¬ gA G b := by
  show ¬ gLo G ≤ b
  rw [h]
  exact Nat.not_le.mpr hb
theorem lt_go {l : Launch} {G : Gl} {ov2 : Option Value} {w2 : WS} {p : Program} {e : Env} {R : Room} {s : State} {m : MethodId} {args a : Array Value} {below : List Frame} {meth : Method} {c : Code} {H : Heap} {locs : List Loc} {Q : State → Prop} {pc kc ks : Nat} {la : Array Slot} {st0 rest : List Value} (hr : va_Run p l e R s m args below meth c H locs kc ks 0 0 (F0 m pc la st0) rest (Qo G ov2 w2 a) (gA G)) (hS : va_S (gA G) s.heap H locs)
    (kk : ∀ (H1 : Heap) (locs1 : List Loc), Wd G w2 H1 → va_S (gA G) s.heap H1 locs1 → W p l e R s m args below meth c H1 locs1 kc ks Q (F0 m (pc + 3) la (ov2.toList ++ rest))) : W p l e R s m args below meth c H locs kc ks Q (F0 m pc la st0) := by
  intro T hT X
  obtain ⟨v, st₀, t, T', L, h0, X', hL, e1, e2, ⟨⟨hv, hw⟩, hz, hk⟩, st⟩ := hr T hT X
  cases hv
  rw [h0] at hz hk
  obtain ⟨t2, a1, b1⟩ := kk T'.heap (locs ++ L) (by rw [e1]; exact hw)
    ⟨Nat.le_trans hS.1 (by rw [e1]; exact hz), fun q h1 h2 => by rw [e1, hk q (Nat.lt_of_lt_of_le h1 hS.1) h2]; exact hS.2.1 q h1 h2, fun q hq => by
      rcases List.mem_append.mp hq with h | h
      · exact hS.2.2 q h
      · exact hL q h⟩ T' rfl X'
  exact ⟨t2, st t2 a1, b1⟩
section LROWS
variable {l : Launch} {Z : LZ} {b L : Nat} {xs : Nat → Int32} {G : Gl} {w : WS} {pc : Nat} {ls : List (Nat × Value)} {st : List Value}
theorem la_isub {x y : Int32} (hd : decode cL_law pc = .ok (.isub, 1)) (q : Nat) (hq : pc + 1 = q) (hk : Lw l Z b L xs G w q ls (.int (x - y) :: st)) : Lw l Z b L xs G w pc ls (.int y :: .int x :: st) := by
  obtain ⟨p, e, s, m, below, meth, c⟩ := Z
  intro hX H locs la hw hS hl
  subst hq
  exact lv_isub hX.1 hX.2.1 hd  (hk hX H locs la hw hS hl)
theorem la_iand {x y : Int32} (hd : decode cL_law pc = .ok (.iand, 1)) (q : Nat) (hq : pc + 1 = q) (hk : Lw l Z b L xs G w q ls (.int (x &&& y) :: st)) : Lw l Z b L xs G w pc ls (.int y :: .int x :: st) := by
  obtain ⟨p, e, s, m, below, meth, c⟩ := Z
  intro hX H locs la hw hS hl
  subst hq
  exact lv_iand hX.1 hX.2.1 hd  (hk hX H locs la hw hS hl)
theorem la_land {x y : Int64} (hd : decode cL_law pc = .ok (.land, 1)) (q : Nat) (hq : pc + 1 = q) (hk : Lw l Z b L xs G w q ls (.long (x &&& y) :: st)) : Lw l Z b L xs G w pc ls (.long y :: .long x :: st) := by
  obtain ⟨p, e, s, m, below, meth, c⟩ := Z
  intro hX H locs la hw hS hl
  subst hq
  exact lv_land hX.1 hX.2.1 hd  (hk hX H locs la hw hS hl)
theorem la_lor {x y : Int64} (hd : decode cL_law pc = .ok (.lor, 1)) (q : Nat) (hq : pc + 1 = q) (hk : Lw l Z b L xs G w q ls (.long (x ||| y) :: st)) : Lw l Z b L xs G w pc ls (.long y :: .long x :: st) := by
  obtain ⟨p, e, s, m, below, meth, c⟩ := Z
  intro hX H locs la hw hS hl
  subst hq
  exact lv_lor hX.1 hX.2.1 hd  (hk hX H locs la hw hS hl)
theorem la_lcmp {x y : Int64} (hd : decode cL_law pc = .ok (.lcmp, 1)) (q : Nat) (hq : pc + 1 = q) (hk : Lw l Z b L xs G w q ls (.int (lg_cmp x y) :: st)) : Lw l Z b L xs G w pc ls (.long y :: .long x :: st) := by
  obtain ⟨p, e, s, m, below, meth, c⟩ := Z
  intro hX H locs la hw hS hl
  subst hq
  exact W.lcmp hX.1 hX.2.1 hd  (hk hX H locs la hw hS hl)
theorem la_i2l {x : Int32} (hd : decode cL_law pc = .ok (.i2l, 1)) (q : Nat) (hq : pc + 1 = q) (hk : Lw l Z b L xs G w q ls (.long x.toInt64 :: st)) : Lw l Z b L xs G w pc ls (.int x :: st) := by
  obtain ⟨p, e, s, m, below, meth, c⟩ := Z
  intro hX H locs la hw hS hl
  subst hq
  exact lv_i2l hX.1 hX.2.1 hd rfl (hk hX H locs la hw hS hl)
theorem la_lshl {x : Int64} {y : Int32} (hd : decode cL_law pc = .ok (.lshl, 1)) (q : Nat) (hq : pc + 1 = q) (hk : Lw l Z b L xs G w q ls (.long (x <<< (y.toInt64 &&& 63)) :: st)) : Lw l Z b L xs G w pc ls (.int y :: .long x :: st) := by
  obtain ⟨p, e, s, m, below, meth, c⟩ := Z
  intro hX H locs la hw hS hl
  subst hq
  exact lv_lshl hX.1 hX.2.1 hd rfl (hk hX H locs la hw hS hl)
theorem la_iconst {k : Int} (hd : decode cL_law pc = .ok (.iconst k, 1)) (v : Int32) (hv : Int32.ofInt k = v) (q : Nat) (hq : pc + 1 = q) (hk : Lw l Z b L xs G w q ls (.int v :: st)) : Lw l Z b L xs G w pc ls (st) := by
  obtain ⟨p, e, s, m, below, meth, c⟩ := Z
  intro hX H locs la hw hS hl
  subst hq
  exact lv_iconst hX.1 hX.2.1 hd hv (hk hX H locs la hw hS hl)
theorem la_bipush {k : Int} (hd : decode cL_law pc = .ok (.bipush k, 2)) (v : Int32) (hv : (Int8.ofInt k).toInt32 = v) (q : Nat) (hq : pc + 2 = q) (hk : Lw l Z b L xs G w q ls (.int v :: st)) : Lw l Z b L xs G w pc ls (st) := by
  obtain ⟨p, e, s, m, below, meth, c⟩ := Z
  intro hX H locs la hw hS hl
  subst hq
  exact lv_bipush hX.1 hX.2.1 hd hv (hk hX H locs la hw hS hl)
theorem la_iload_n {k : Fin 4} {x : Int32} (hd : decode cL_law pc = .ok (.iload_n k, 1)) (i : Nat) (hi : ls[i]? = some (k.val, .int x)) (q : Nat) (hq : pc + 1 = q) (hk : Lw l Z b L xs G w q ls (.int x :: st)) : Lw l Z b L xs G w pc ls (st) := by
  obtain ⟨p, e, s, m, below, meth, c⟩ := Z
  intro hX H locs la hw hS hl
  subst hq
  exact lv_iload_n hX.1 hX.2.1 hd rfl (lv_at hl i hi) (hk hX H locs la hw hS hl)
theorem la_aload_n {k : Fin 4} {x : Nat} (hd : decode cL_law pc = .ok (.aload_n k, 1)) (i : Nat) (hi : ls[i]? = some (k.val, .ref x)) (q : Nat) (hq : pc + 1 = q) (hk : Lw l Z b L xs G w q ls (.ref x :: st)) : Lw l Z b L xs G w pc ls (st) := by
  obtain ⟨p, e, s, m, below, meth, c⟩ := Z
  intro hX H locs la hw hS hl
  subst hq
  exact lv_aload_n hX.1 hX.2.1 hd rfl (lv_at hl i hi) (hk hX H locs la hw hS hl)
theorem la_iaddN {a j : Nat} (hd : decode cL_law pc = .ok (.iadd, 1)) (q : Nat) (hq : pc + 1 = q) (hk : Lw l Z b L xs G w q ls (.int (nI (a + j)) :: st)) : Lw l Z b L xs G w pc ls (.int (nI j) :: .int (nI a) :: st) := by
  obtain ⟨p, e, s, m, below, meth, c⟩ := Z
  intro hX H locs la hw hS hl
  subst hq
  refine lv_iadd hX.1 hX.2.1 hd ?_
  rw [nI_add]
  exact hk hX H locs la hw hS hl
theorem la_ldc2 {k : Nat} (hd : decode cL_law pc = .ok (.ldc2_w k, 3)) (v : Int64) (hc : Cond.constantLong RL k v ∈ BIG) (q : Nat) (hq : pc + 3 = q) (hk : Lw l Z b L xs G w q ls (.long v :: st)) : Lw l Z b L xs G w pc ls st := by
  obtain ⟨p, e, s, m, below, meth, c⟩ := Z
  intro hX H locs la hw hS hl
  subst hq
  exact lv_ldc2 hX.1 hX.2.1 hX.2.2.2.1 (hX.2.2.2.2.1 _ hc) hd (hk hX H locs la hw hS hl)
theorem la_sld {j : Nat} (hj : j < L) (hL : L < 2 ^ 31) (hd : decode cL_law pc = .ok (.iaload, 1)) (q : Nat) (hq : pc + 1 = q) (hk : Lw l Z b L xs G w q ls (.int (xs j) :: st)) : Lw l Z b L xs G w pc ls (.int (nI j) :: .ref b :: st) := by
  obtain ⟨p, e, s, m, below, meth, c⟩ := Z
  intro hX H locs la hw hS hl
  subst hq
  refine va_sld hX.1 hX.2.1 hX.2.2.2.2.2.2.2.2.1 hX.2.2.2.2.2.2.2.2.2.1 (gA_b hX.2.2.2.2.2.2.2.2.2.2 hX.2.2.2.2.2.2.2.2.2.1) hS (vp_in_nI hj hL) hd ?_
  rw [nI_clamp (Nat.lt_trans hj hL)]
  exact hk hX H locs la hw hS hl
theorem la_slen (hd : decode cL_law pc = .ok (.arraylength, 1)) (q : Nat) (hq : pc + 1 = q) (hk : Lw l Z b L xs G w q ls (.int (nI L) :: st)) : Lw l Z b L xs G w pc ls (.ref b :: st) := by
  obtain ⟨p, e, s, m, below, meth, c⟩ := Z
  intro hX H locs la hw hS hl
  subst hq
  exact va_slen hX.1 hX.2.1 hX.2.2.2.2.2.2.2.2.1 hX.2.2.2.2.2.2.2.2.2.1 (gA_b hX.2.2.2.2.2.2.2.2.2.2 hX.2.2.2.2.2.2.2.2.2.1) hS hd (hk hX H locs la hw hS hl)
theorem la_iinc {i : Nat} {k : Int} {x : Int32} (hd : decode cL_law pc = .ok (.iinc i k, 3)) (j : Nat) (hj : ls[j]? = some (i, .int x)) (v : Int32) (hv : x + Int32.ofInt k = v) (hn : i < 4) (ls2 : List (Nat × Value)) (h2 : (i, Value.int v) :: ls.filter (fun z => !(z.1 == i) && !(z.1 + 1 == i && z.2.category == 2)) = ls2) (q : Nat) (hq : pc + 3 = q) (hk : Lw l Z b L xs G w q ls2 (st)) : Lw l Z b L xs G w pc ls (st) := by
  obtain ⟨p, e, s, m, below, meth, c⟩ := Z
  intro hX H locs la hw hS hl
  subst hq
  exact lv_iinc hX.1 hX.2.1 hd hl hj hv hn h2 (fun la2 hl2 => hk hX H locs la2 hw hS hl2)
theorem la_goto {off : Int} (hd : decode cL_law pc = .ok (.goto off, 3)) (t : Nat) (ht : (pc : Int) + off = (t : Int)) (hk : Lw l Z b L xs G w t ls (st)) : Lw l Z b L xs G w pc ls (st) := by
  obtain ⟨p, e, s, m, below, meth, c⟩ := Z
  intro hX H locs la hw hS hl
  exact lv_goto hX.1 hX.2.1 hd ht (hk hX H locs la hw hS hl)
theorem la_icmp_gt {x y : Int32} {off : Int} (hd : decode cL_law pc = .ok (.if_icmp .gt off, 3)) (t : Nat) (ht : (pc : Int) + off = (t : Int)) (q : Nat) (hq : pc + 3 = q) (kt : y < x → Lw l Z b L xs G w t ls (st)) (kf : ¬ y < x → Lw l Z b L xs G w q ls (st)) : Lw l Z b L xs G w pc ls (.int y :: .int x :: st) := by
  obtain ⟨p, e, s, m, below, meth, c⟩ := Z
  intro hX H locs la hw hS hl
  subst hq
  exact lv_icmp_gt hX.1 hX.2.1 hd ht (fun h => kt h hX H locs la hw hS hl) (fun h => kf h hX H locs la hw hS hl)
theorem la_eq {x y : Int32} {off : Int} (hxy : x = y) (hd : decode cL_law pc = .ok (.if_icmp .eq off, 3)) (t : Nat) (ht : (pc : Int) + off = (t : Int)) (kt : Lw l Z b L xs G w t ls (st)) : Lw l Z b L xs G w pc ls (.int y :: .int x :: st) := by
  obtain ⟨p, e, s, m, below, meth, c⟩ := Z
  intro hX H locs la hw hS hl
  exact lv_icmp_eq hX.1 hX.2.1 hd ht (fun _ => kt hX H locs la hw hS hl) (fun h => absurd hxy h)
theorem la_if_eq {x : Int32} {off : Int} (hx : x = 0) (hd : decode cL_law pc = .ok (.ifCond .eq off, 3)) (t : Nat) (ht : (pc : Int) + off = (t : Int)) (kt : Lw l Z b L xs G w t ls (st)) : Lw l Z b L xs G w pc ls (.int x :: st) := by
  obtain ⟨p, e, s, m, below, meth, c⟩ := Z
  intro hX H locs la hw hS hl
  exact lv_if_eq hX.1 hX.2.1 hd ht (fun _ => kt hX H locs la hw hS hl) (fun h => absurd hx h)
theorem la_tabIn {dflt lo hi9 : Int} {offs : Array Int} {len : Nat} {x : Int32} {off : Int} (hd : decode cL_law pc = .ok (.tableswitch dflt lo hi9 offs, len)) (h1 : ¬ x.toInt < lo) (h2 : ¬ hi9 < x.toInt) (ho : offs[(x.toInt - lo).toNat]? = some off) (t : Nat) (ht : (pc : Int) + off = (t : Int)) (hk : Lw l Z b L xs G w t ls (st)) : Lw l Z b L xs G w pc ls (.int x :: st) := by
  obtain ⟨p, e, s, m, below, meth, c⟩ := Z
  intro hX H locs la hw hS hl
  exact lv_tableIn hX.1 hX.2.1 hd h1 h2 ho ht (hk hX H locs la hw hS hl)
theorem la_tabOut {dflt lo hi9 : Int} {offs : Array Int} {len : Nat} {x : Int32} (hd : decode cL_law pc = .ok (.tableswitch dflt lo hi9 offs, len)) (h : x.toInt < lo ∨ hi9 < x.toInt) (t : Nat) (ht : (pc : Int) + dflt = (t : Int)) (hk : Lw l Z b L xs G w t ls (st)) : Lw l Z b L xs G w pc ls (.int x :: st) := by
  obtain ⟨p, e, s, m, below, meth, c⟩ := Z
  intro hX H locs la hw hS hl
  exact lv_tableOut hX.1 hX.2.1 hd h ht (hk hX H locs la hw hS hl)
theorem la_end (hd : decode cL_law pc = .ok (.ireturn, 1)) : Lw l Z b L xs G w pc ls [.int 1] := by
  obtain ⟨p, e, s, m, below, meth, c⟩ := Z
  intro hX H locs la hw hS hl
  refine va_forget (fun q hq => ?_) ?_
  · have h1 : gLo G ≤ q.base := hS.2.2 q hq
    rw [hX.2.2.2.2.2.2.2.2.2.2] at h1
    exact h1
  · refine W.widen (k := 600000) (n := 7302250) (Nat.le_of_ble_eq_true rfl) (Nat.le_of_ble_eq_true rfl) ?_
    exact lw_ret hX.1 hX.2.1 hX.2.2.2.2.2.2.2.1 hX.2.2.2.2.2.2.1 hd
theorem la_call {y : MethodName} {cc2 : ByteArray} {nL2 f2 n2 index : Nat} {ret2 : Option FieldType} {ov2 : Option Value} {w1 w2 : WS} {As : List Value} {kn k ci : Nat} {fs : List Value} {T : u_T} {N : Nat} (hM : Ct l G y cc2 nL2 ret2 f2 n2 (.ref (ga G k) :: As) w1 ov2 w2) (hkal : Kal y cc2 nL2 ret2 kn) (hn : As.length = kn) (hd : decode cL_law pc = .ok (.invokevirtual index, 3)) (hlink : Cond.methodLink RL index y ∈ BIG) (hins : Cond.instanceMethod y ∈ BIG) (hsel : Cond.selects y.cls y y ∈ BIG) (hcl : vwCl[ci]? = some (y.cls, T, N)) (hk : k < 104) (hc : cel G w1 k = ob ci fs) (hR : f2 + 1 ≤ 12 ∧ 8 + (nL2 + 11) + n2 ≤ 438) (rest : List Value) (hr : (rest.map fun v => v.category).sum ≤ 8) (hs : st = As.reverse ++ .ref (ga G k) :: rest) (ew : w = w1) (q : Nat) (hq : pc + 3 = q) (hkk : Lw l Z b L xs G w2 q ls (ov2.toList ++ rest)) : Lw l Z b L xs G w pc ls (st) := by
  obtain ⟨p, e, s, m, below, meth, c⟩ := Z
  intro hX H locs la hw hS hl
  subst hq
  subst ew
  exact lt_go (va_runV ⟨hX.1, hX.2.1, hX.2.2.1, hX.2.2.2.1, hX.2.2.2.2.1⟩ hM ⟨⟨rfl, rfl, hR.1, hR.2, pay_in hX.2.2.2.2.1 (big_in hkal.1), List.mem_cons_self, hX.2.2.2.2.1 _ hkal.1, hX.2.2.2.2.1 _ hkal.2.1, hkal.2.2.1, hkal.arity, hX.2.2.2.2.1 _ hlink⟩, hX.2.2.2.2.1 _ hins, hX.2.2.2.2.1 _ hsel⟩ ⟨(ct_pre hX.2.2.2.2.2.1 hw hS).1, va_recv hX.2.2.2.2.2.1.1 hw hcl (wl_at hk hc), (ct_pre hX.2.2.2.2.2.1 hw hS).2⟩ rfl hn hl.1 hs (lv_room hr) hd ⟨Nat.le_of_ble_eq_true rfl, Nat.le_of_ble_eq_true rfl⟩) hS (fun H1 locs1 hw1 hS1 => hkk hX H1 locs1 la hw1 hS1 hl)
end LROWS
theorem Rel.mo {K : CS} {M : MS} (h : Rel K M) : (K.1 0).1 < 2 ^ 20 := Nat.lt_of_le_of_lt h.1.2 (by decide)
theorem Rel.tz {K : CS} {M : MS} (h : Rel K M) : K.2.1.2.1 ≤ 120 := by
  rw [h.2.2.1.1]
  exact h.2.2.1.2.1
theorem Rel.z1 {K : CS} {M : MS} (h : Rel K M) : ∀ s, s < 4 → (K.2.2.1 s).2.1 ≤ 40 := fun s hs => (h.2.2.2.1 s hs).2.2.1
theorem Rel.z2 {K : CS} {M : MS} (h : Rel K M) : ∀ s, s < 4 → M.2.2.2.2.2.2.2.2.2.2.2.2.2.1 s = nI ((fun s => (K.2.2.1 s).2.1) s) ∧ (fun s => (K.2.2.1 s).2.1) s ≤ 40 := fun s hs => ⟨(h.2.2.2.1 s hs).2.1, (h.2.2.2.1 s hs).2.2.1⟩
theorem Rel.sz {K : CS} {M : MS} (h : Rel K M) : SZ M.1 := by
  have h8 := h.n8
  have e : ix (M.1 1) = (K.1 0).2.1 := by
    rw [h.1.1.2.1.1]
    exact nI_clamp (by omega)
  unfold SZ
  rw [e]
  exact h.1.1.2.1
def lsL (G : Gl) (b : Nat) (i : Nat) : List (Nat × Value) := [(3, .int (nI i)), (2, .ref (ga G 93)), (1, .ref (ga G 0)), (0, .ref b)]
