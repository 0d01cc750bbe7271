theorem arr_of {s : State} {args : Array Value} {ty : FieldType} (hno : ∀ C, ty ≠ .object C) (h : (Cond.arrayClass ty).before args s = true) : ∃ cA : ClassId, ArrOfT s cA ty ∧ va_RA s cA ty := by
  obtain ⟨cA, kA, comp, h1, h2, h3⟩ := Cond.arrayClass_spec h
  refine ⟨cA, fun n z => ⟨fun k h => (by cases h), kA, h2, comp, h3⟩, ?_⟩
  cases ty with
  | object C => exact absurd rfl (hno C)
  | _ => exact h1
theorem arr_ob {s : State} {args : Array Value} {C : String} (h : (Cond.arrayOver (.object C)).before args s = true) : ∃ cA : ClassId, ArrOfT s cA (.object C) ∧ va_RA s cA (.object C) := by
  obtain ⟨comp, cA, kA, h1, -, h3, h4, h5⟩ := Cond.arrayOver_spec h
  exact ⟨cA, fun n z => ⟨fun k h => (by cases h), kA, h3, comp, h4⟩, kA, comp, h3, h4, h1, h5⟩
theorem arr_ar {s : State} {args : Array Value} {t : FieldType} (h : (Cond.arrayOver (.array t)).before args s = true) : ∃ cA : ClassId, ArrOfT s cA (.array t) ∧ va_RA s cA (.array t) := by
  obtain ⟨comp, cA, kA, -, -, h3, h4, h5⟩ := Jvm.Stand.arrayOver_specB h
  exact ⟨cA, fun n z => ⟨fun k h => (by cases h), kA, h3, comp, h4⟩, h5⟩
set_option maxHeartbeats 4000000 in
set_option maxRecDepth 100000 in
/-- THE LAW, from its entry -/
theorem whole_start {p : Program} {e : Env} {s : State} {m : MethodId} {below : List Frame} {meth : Method} {c : Code} (l : Launch) (hflags : l.flags = flags0) {b L : Nat} {xs : Nat → Int32} (hL : L ≤ 3072) (C0 : lw_At p s m meth c b L xs) : W p l e room_1 s m #[Value.ref b] below meth c s.heap [] 0 0 (lw_Z below #[Value.ref b] s) (entryFrame m ([Value.ref b] : List Value).toArray 4) := by
  obtain ⟨hx, hb, hr, hml, hown, hts, hX, hbl, hlocks, hgv⟩ := id C0
  have hfl := flat_of_before _ hgv
  have htB : ∀ w ∈ BIG, w.before #[Value.ref b] s = true := fun w hw => hts w (big_tbl hw)
  obtain ⟨c0, iS0, hKn0⟩ := u_known (C := RX0) (T := TX0) (N := 4) (n := 4) htB inB0 (htB _ qw_88)
  obtain ⟨c1, iS1, hKn1⟩ := u_known (C := RX1) (T := TX1) (N := 7) (n := 7) htB inB1 (htB _ qw_79)
  obtain ⟨c2, iS2, hKn2⟩ := u_known (C := RX2) (T := TX2) (N := 3) (n := 3) htB inB2 (htB _ qw_177)
  obtain ⟨c3, iS3, hKn3⟩ := u_known (C := RX3) (T := TX3) (N := 6) (n := 6) htB inB3 (htB _ qw_149)
  obtain ⟨c4, iS4, hKn4⟩ := u_known (C := RX4) (T := TX4) (N := 8) (n := 8) htB inB4 (htB _ qw_71)
  obtain ⟨c5, iS5, hKn5⟩ := u_known (C := RX5) (T := TX5) (N := 16) (n := 16) htB inB5 (htB _ qw_681)
  obtain ⟨D, hKc⟩ : ∃ D : va_G, ∀ (k : Nat) (q : vw_C), vwCl[k]? = some q → u_Kn s q.1 q.2.1 q.2.2 (D.1 k) (D.2 k) := by
    refine ⟨(fun k => if k = 0 then c0 else if k = 1 then c1 else if k = 2 then c2 else if k = 3 then c3 else if k = 4 then c4 else c5, fun k => if k = 0 then iS0 else if k = 1 then iS1 else if k = 2 then iS2 else if k = 3 then iS3 else if k = 4 then iS4 else iS5), ?_⟩
    intro k q hq
    match k, hq with
    | 0, hq => cases hq; exact hKn0
    | 1, hq => cases hq; exact hKn1
    | 2, hq => cases hq; exact hKn2
    | 3, hq => cases hq; exact hKn3
    | 4, hq => cases hq; exact hKn4
    | 5, hq => cases hq; exact hKn5
    | k + 6, hq => simp [vwCl] at hq
  obtain ⟨aI, hI⟩ := arr_of (ty := .int) (fun C q => by cases q) (htB _ qo_114)
  obtain ⟨aB, hB⟩ := arr_of (ty := .byte) (fun C q => by cases q) (htB _ qo_174)
  obtain ⟨aJ, hJ⟩ := arr_of (ty := .long) (fun C q => by cases q) (htB _ qo_195)
  obtain ⟨aE, hE⟩ := arr_ob (hts _ to_E)
  obtain ⟨aS, hSh⟩ := arr_ob (hts _ to_S)
  obtain ⟨aG, hG⟩ := arr_ar (hts _ to_G)
  have hA0 : ∀ a : Nat, a < s.heap.size → ¬ (fun q : Nat => s.heap.size ≤ q) a := fun a ha => Nat.not_le.mpr ha
  obtain ⟨gk, gv, hvs, hev⟩ := vk_Sof (args := #[Value.ref b]) (s := s) (N := 11) (tm := tmS) (len := sLen) (byt := sByt) (A := fun q : Nat => s.heap.size ≤ q) (by decide) (fun i hi => hfl _ (fs_ex i hi)) (fun i hi => hfl _ (fs_co i hi)) (fun i hi => hfl _ (fs_ar i hi)) (fun i hi => hfl _ (fs_le i hi)) (fun i hi j hj => hfl _ (fs_el i hi j hj)) (fun i j hi hj hij => (fs_ne i hi j hj hij).elim (fun q => Or.inl (hfl _ q)) (fun q => Or.inr (hfl _ q))) hA0
  obtain ⟨G0, eG⟩ : ∃ G0 : Gl, G0 = (D, fun _ => 0, (aI, aB, aJ, aE, aS, aG), s.heap.size, gk, gv) := ⟨_, rfl⟩
  have hlo : gLo G0 = s.heap.size := by rw [eG]
  have hKt : va_K (gD G0) vwCl (gTy G0) s := by
    rw [eG]
    refine ⟨hKc, fun k q hk => ?_⟩
    match k, hk with
    | 0, hk => cases hk; exact hI
    | 1, hk => cases hk; exact hB
    | 2, hk => cases hk; exact hJ
    | 3, hk => cases hk; exact hE
    | 4, hk => cases hk; exact hSh
    | 5, hk => cases hk; exact hG
    | k + 6, hk => simp [gTy] at hk
  have hK : Kc G0 s := ⟨hKt, ⟨va_Nw.of rfl (hts _ tn_0), va_Nw.of rfl (hts _ tn_1), va_Nw.of rfl (hts _ tn_2), va_Nw.of rfl (hts _ tn_3)⟩, ⟨va_AO.of (hts _ to_E), va_AO.of (hts _ to_S), va_AOA.of (hts _ to_G)⟩, by rw [hlo]; exact Nat.le_refl _⟩
  have hA : ∀ q, s.heap.size ≤ q → gA G0 q := hK.A
  have hS : va_S (gA G0) s.heap s.heap [] := va_S.rf
  have hP : va_P (gD G0) vwCl [] s.heap := fun k q h => by simp at h
  have hD : va_D (gA G0) [] := ⟨fun i j p q h => by simp at h, fun k q h => by simp at h⟩
  have hl := lv_entry ([.ref b]) (n := 4) (Nat.le_of_ble_eq_true rfl)
  rw [lg_entry_eq]
  generalize (lg_sl ([.ref b]) ++ List.replicate (4 - (lg_sl ([.ref b])).length) Slot.unset).toArray = ls at hl ⊢
  have hl : lv_has ls 4 [(0, .ref b)] := hl
  refine va_new (D := gD G0) (ci := 4) (fs := [.null, .null, .null, .null, .null, .null, .null, .int 0]) (C := RX4) (T := TX4) (N := 8) hx hb htB inB4 tyX4 tyX4_ok hown (htB _ qw_70) (htB _ qw_71) (htB _ qw_57) hKt hP hD hS hA rfl fs_X4 (Nat.le_of_ble_eq_true rfl) (Nat.le_of_ble_eq_true rfl) dL_law_0 (fun h H hP hD hS => ?_)
  refine lv_dup hx hb dL_law_3 rfl ?_
  refine va_callv (va_runI (As := []) (rest := [.ref h]) ⟨hx, hb, hml, hown, htB⟩ (mk_X4 l G0 [] h) ⟨⟨rfl, rfl, Nat.le_of_ble_eq_true rfl, Nat.le_of_ble_eq_true rfl, pay_in htB (big_in kal_X4_init.1), List.mem_cons_self, htB _ kal_X4_init.1, htB _ kal_X4_init.2.1, kal_X4_init.2.2.1, kal_X4_init.arity, htB _ qw_72⟩, rfl, htB _ qw_73⟩ (mk_pre hK ⟨hP, hD⟩ hS) rfl rfl hl.1 rfl (lv_room (Nat.le_of_ble_eq_true rfl)) dL_law_4 ⟨Nat.le_of_ble_eq_true rfl, Nat.le_of_ble_eq_true rfl⟩) hS (fun _ _ h => h) (fun _ h => h) (fun u t H locs ht _ _ hB1 _ _ hS => ?_)
  rw [ht] at hB1
  have hP : va_P (gD G0) vwCl (shoL G0 h u) H := hB1.1
  have hD : va_D (gA G0) (shoL G0 h u) := hB1.2
  refine lv_astore_n (lv' := [(1, .ref h), (0, .ref b)]) hx hb dL_law_7 rfl hl (by decide) rfl (fun ls hl => ?_)
  refine va_new (D := gD G0) (ci := 5) (fs := [.null, .null, .null, .null, .null, .int 0, .null, .int 0, .int 0, .int 0, .int 0, .int 0, .null, .null, .null, .null]) (C := RX5) (T := TX5) (N := 16) hx hb htB inB5 tyX5 tyX5_ok hown (htB _ qw_680) (htB _ qw_681) (htB _ qw_62) hKt hP hD hS hA rfl fs_X5 (Nat.le_of_ble_eq_true rfl) (Nat.le_of_ble_eq_true rfl) dL_law_8 (fun hm H hP hD hS => ?_)
  refine lv_dup hx hb dL_law_11 rfl ?_
  refine va_callv (va_runI (As := []) (rest := [.ref hm]) ⟨hx, hb, hml, hown, htB⟩ (mk_X5 l G0 (shoL G0 h u) hm) ⟨⟨rfl, rfl, Nat.le_of_ble_eq_true rfl, Nat.le_of_ble_eq_true rfl, pay_in htB (big_in kal_X5_init.1), List.mem_cons_self, htB _ kal_X5_init.1, htB _ kal_X5_init.2.1, kal_X5_init.2.2.1, kal_X5_init.arity, htB _ qw_682⟩, rfl, htB _ qw_683⟩ (mk_pre hK ⟨hP, hD⟩ hS) rfl rfl hl.1 rfl (lv_room (Nat.le_of_ble_eq_true rfl)) dL_law_12 ⟨Nat.le_of_ble_eq_true rfl, Nat.le_of_ble_eq_true rfl⟩) hS (fun _ _ h => h) (fun _ h => h) (fun v t H locs ht _ _ hB2 _ _ hS => ?_)
  rw [ht] at hB2
  refine lv_astore_n (lv' := [(2, .ref hm), (1, .ref h), (0, .ref b)]) hx hb dL_law_15 rfl hl (by decide) rfl (fun ls hl => ?_)
  refine lv_iconst (v := 0) hx hb dL_law_16 (by decide) ?_
  refine lv_istore_n (lv' := [(3, .int 0), (2, .ref hm), (1, .ref h), (0, .ref b)]) hx hb dL_law_17 rfl hl (by decide) rfl (fun ls hl => ?_)
  refine W.widen (k := 104) (n := 2169) (Nat.le_of_ble_eq_true rfl) (Nat.le_of_ble_eq_true rfl) ?_
  have hWd := Wd0 eG (H := H) (by rw [eG] at hB2 ⊢; exact hB2.1)
  have hGI := GI0 eG hB2.2
  obtain ⟨G, eG2⟩ : ∃ G : Gl, G = Gx D (aI, aB, aJ, aE, aS, aG) s.heap.size gk gv h u hm v := ⟨_, rfl⟩
  rw [← eG2] at hWd hGI
  have hKd : Kd G s := by
    refine ⟨?_, ⟨va_Nw.of rfl (hts _ tn_4), va_Nw.of rfl (hts _ tn_5), va_Nw.of rfl (hts _ tn_6), va_Nw.of rfl (hts _ tn_7)⟩, hGI, ?_⟩
    · rw [eG2]
      rw [eG] at hKt
      exact hKt
    · rw [eG2]
      exact ⟨hvs, fun i hi => vk_R.of (hts _ (ts_all i (Nat.zero_le _) hi)) (hev i hi), va_Zof (hts _ tz_0) (htB _ qw_66) (va_eqt (hfl _ fz_0)) hA0, va_Zqof (hts _ tz_1) (htB _ qw_68) (hfl _ fz_1) hA0⟩
  have hS2 : va_S (gA G) s.heap H locs := by
    rw [eG2]
    rw [eG] at hS
    exact hS
  have hl2 : lv_has ls 4 (lsL G b 0) := by
    rw [eG2]
    exact hl
  exact law_loop l (Z := (p, e, s, m, below, meth, c)) (xs := xs) hL (L + 1) 0 K0 M0 (by omega) (by omega) Rel0 ⟨hx, hb, hml, hown, htB, hKd, hlocks, hr, hX, hbl, by rw [eG2]; rfl⟩ H locs ls hWd hS2 hl2
