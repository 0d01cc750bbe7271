/-! the loop -/
theorem law_case (l : Launch) {Z : LZ} {b L i : Nat} {xs : Nat → Int32} {G : Gl} {K : CS} {M : MS} (h : Rel K M) (hi : i + 6 ≤ L) (hL : L ≤ 3072) (kk : ∀ (K : CS) (M : MS), Rel K M → Lw l Z b L xs G (K, M) 1385 (lsL G b i) []) : ∀ j, 0 ≤ j → j < 38 → Lw l Z b L xs G (K, M) 33 (lsL G b i) [.int (nI j)] := by
  refine nx (b := 37) ?_ (la_tabIn dL_law_33 (by decide) (by decide) rfl 1362 (by decide) (lc_37 l h hi hL kk))
  refine nx (b := 36) ?_ (la_tabIn dL_law_33 (by decide) (by decide) rfl 1339 (by decide) (lc_36 l h hi hL kk))
  refine nx (b := 35) ?_ (la_tabIn dL_law_33 (by decide) (by decide) rfl 1326 (by decide) (lc_35 l h hi hL kk))
  refine nx (b := 34) ?_ (la_tabIn dL_law_33 (by decide) (by decide) rfl 1313 (by decide) (lc_34 l h hi hL kk))
  refine nx (b := 33) ?_ (la_tabIn dL_law_33 (by decide) (by decide) rfl 1300 (by decide) (lc_33 l h hi hL kk))
  refine nx (b := 32) ?_ (la_tabIn dL_law_33 (by decide) (by decide) rfl 1267 (by decide) (lc_32 l h hi hL kk))
  refine nx (b := 31) ?_ (la_tabIn dL_law_33 (by decide) (by decide) rfl 1234 (by decide) (lc_31 l h hi hL kk))
  refine nx (b := 30) ?_ (la_tabIn dL_law_33 (by decide) (by decide) rfl 1211 (by decide) (lc_30 l h hi hL kk))
  refine nx (b := 29) ?_ (la_tabIn dL_law_33 (by decide) (by decide) rfl 1148 (by decide) (lc_29 l h hi hL kk))
  refine nx (b := 28) ?_ (la_tabIn dL_law_33 (by decide) (by decide) rfl 1074 (by decide) (lc_28 l h hi hL kk))
  refine nx (b := 27) ?_ (la_tabIn dL_law_33 (by decide) (by decide) rfl 1031 (by decide) (lc_27 l h hi hL kk))
  refine nx (b := 26) ?_ (la_tabIn dL_law_33 (by decide) (by decide) rfl 1018 (by decide) (lc_26 l h hi hL kk))
  refine nx (b := 25) ?_ (la_tabIn dL_law_33 (by decide) (by decide) rfl 1005 (by decide) (lc_25 l h hi hL kk))
  refine nx (b := 24) ?_ (la_tabIn dL_law_33 (by decide) (by decide) rfl 972 (by decide) (lc_24 l h hi hL kk))
  refine nx (b := 23) ?_ (la_tabIn dL_law_33 (by decide) (by decide) rfl 959 (by decide) (lc_23 l h hi hL kk))
  refine nx (b := 22) ?_ (la_tabIn dL_law_33 (by decide) (by decide) rfl 936 (by decide) (lc_22 l h hi hL kk))
  refine nx (b := 21) ?_ (la_tabIn dL_law_33 (by decide) (by decide) rfl 893 (by decide) (lc_21 l h hi hL kk))
  refine nx (b := 20) ?_ (la_tabIn dL_law_33 (by decide) (by decide) rfl 860 (by decide) (lc_20 l h hi hL kk))
  refine nx (b := 19) ?_ (la_tabIn dL_law_33 (by decide) (by decide) rfl 817 (by decide) (lc_19 l h hi hL kk))
  refine nx (b := 18) ?_ (la_tabIn dL_law_33 (by decide) (by decide) rfl 784 (by decide) (lc_18 l h hi hL kk))
  refine nx (b := 17) ?_ (la_tabIn dL_law_33 (by decide) (by decide) rfl 761 (by decide) (lc_17 l h hi hL kk))
  refine nx (b := 16) ?_ (la_tabIn dL_law_33 (by decide) (by decide) rfl 728 (by decide) (lc_16 l h hi hL kk))
  refine nx (b := 15) ?_ (la_tabIn dL_law_33 (by decide) (by decide) rfl 685 (by decide) (lc_15 l h hi hL kk))
  refine nx (b := 14) ?_ (la_tabIn dL_law_33 (by decide) (by decide) rfl 642 (by decide) (lc_14 l h hi hL kk))
  refine nx (b := 13) ?_ (la_tabIn dL_law_33 (by decide) (by decide) rfl 619 (by decide) (lc_13 l h hi hL kk))
  refine nx (b := 12) ?_ (la_tabIn dL_law_33 (by decide) (by decide) rfl 596 (by decide) (lc_12 l h hi hL kk))
  refine nx (b := 11) ?_ (la_tabIn dL_law_33 (by decide) (by decide) rfl 563 (by decide) (lc_11 l h hi hL kk))
  refine nx (b := 10) ?_ (la_tabIn dL_law_33 (by decide) (by decide) rfl 520 (by decide) (lc_10 l h hi hL kk))
  refine nx (b := 9) ?_ (la_tabIn dL_law_33 (by decide) (by decide) rfl 487 (by decide) (lc_9 l h hi hL kk))
  refine nx (b := 8) ?_ (la_tabIn dL_law_33 (by decide) (by decide) rfl 454 (by decide) (lc_8 l h hi hL kk))
  refine nx (b := 7) ?_ (la_tabIn dL_law_33 (by decide) (by decide) rfl 421 (by decide) (lc_7 l h hi hL kk))
  refine nx (b := 6) ?_ (la_tabIn dL_law_33 (by decide) (by decide) rfl 378 (by decide) (lc_6 l h hi hL kk))
  refine nx (b := 5) ?_ (la_tabIn dL_law_33 (by decide) (by decide) rfl 345 (by decide) (lc_5 l h hi hL kk))
  refine nx (b := 4) ?_ (la_tabIn dL_law_33 (by decide) (by decide) rfl 312 (by decide) (lc_4 l h hi hL kk))
  refine nx (b := 3) ?_ (la_tabIn dL_law_33 (by decide) (by decide) rfl 289 (by decide) (lc_3 l h hi hL kk))
  refine nx (b := 2) ?_ (la_tabIn dL_law_33 (by decide) (by decide) rfl 266 (by decide) (lc_2 l h hi hL kk))
  refine nx (b := 1) ?_ (la_tabIn dL_law_33 (by decide) (by decide) rfl 233 (by decide) (lc_1 l h hi hL kk))
  refine nx (b := 0) ?_ (la_tabIn dL_law_33 (by decide) (by decide) rfl 200 (by decide) (lc_0 l h hi hL kk))
  exact nx0
theorem law_loop (l : Launch) {Z : LZ} {b L : Nat} {xs : Nat → Int32} {G : Gl} (hL : L ≤ 3072) : ∀ (n i : Nat) (K : CS) (M : MS), i ≤ 4000 → L + 1 ≤ i + n → Rel K M → Lw l Z b L xs G (K, M) 18 (lsL G b i) [] := by
  intro n
  induction n with
  | zero =>
    intro i K M hi4 hin h
    refine la_iload_n dL_law_18 0 rfl 19 rfl ?_
    refine la_aload_n dL_law_19 3 rfl 20 rfl ?_
    refine la_slen dL_law_20 21 rfl ?_
    refine la_bipush dL_law_21 (nI 6) rfl 23 rfl ?_
    refine la_isub dL_law_23 24 rfl ?_
    refine la_icmp_gt dL_law_24 1391 (by decide) 27 rfl (fun _ => ?_) (fun c => absurd ?_ c)
    · refine la_iconst dL_law_1391 1 rfl 1392 rfl ?_
      exact la_end dL_law_1392
    · rw [fa_lt, pk_sub_toInt (by omega) (by omega), nI_toInt (by omega)]
      omega
  | succ n ih =>
    intro i K M hi4 hin h
    refine la_iload_n dL_law_18 0 rfl 19 rfl ?_
    refine la_aload_n dL_law_19 3 rfl 20 rfl ?_
    refine la_slen dL_law_20 21 rfl ?_
    refine la_bipush dL_law_21 (nI 6) rfl 23 rfl ?_
    refine la_isub dL_law_23 24 rfl ?_
    refine la_icmp_gt dL_law_24 1391 (by decide) 27 rfl (fun _ => ?_) (fun c => ?_)
    · refine la_iconst dL_law_1391 1 rfl 1392 rfl ?_
      exact la_end dL_law_1392
    · have hi6 : i + 6 ≤ L := by
        rw [fa_lt, pk_sub_toInt (by omega) (by omega), nI_toInt (by omega)] at c
        omega
      refine la_aload_n dL_law_27 3 rfl 28 rfl ?_
      refine la_iload_n dL_law_28 0 rfl 29 rfl ?_
      refine la_sld (by omega) (by omega) dL_law_29 30 rfl ?_
      refine la_bipush dL_law_30 63 rfl 32 rfl ?_
      refine la_iand dL_law_32 33 rfl ?_
      obtain ⟨j, hj, ej⟩ := pk_andE (xs i) (m := 63) 6 (by decide)
      rw [ej]
      have kk : ∀ (K : CS) (M : MS), Rel K M → Lw l Z b L xs G (K, M) 1385 (lsL G b i) [] := fun K M h => by
        refine la_iinc dL_law_1385 0 rfl (nI (i + 6)) (nI_add i 6) (by decide) (lsL G b (i + 6)) rfl 1388 rfl ?_
        refine la_goto dL_law_1388 18 (by decide) ?_
        exact ih (i + 6) K M (by omega) (by omega) h
      by_cases c38 : j < 38
      · exact law_case l h hi6 hL kk j (Nat.zero_le _) c38
      · refine la_tabOut dL_law_33 (Or.inr ?_) 1385 (by decide) (kk K M h)
        rw [nI_toInt (by omega)]
        omega
theorem to_E : Cond.arrayOver (.object "ShornYear$Ewe") ∈ lw_tbl := List.mem_of_getElem? (i := 85) (by decide +kernel)
theorem to_S : Cond.arrayOver (.object "ShornYear$Sheet") ∈ lw_tbl := List.mem_of_getElem? (i := 176) (by decide +kernel)
theorem to_G : Cond.arrayOver (.array .int) ∈ lw_tbl := List.mem_of_getElem? (i := 87) (by decide +kernel)
theorem tn_0 : Cond.methodLinkNest RX1 32 yX0_init RX4 ∈ lw_tbl := List.mem_of_getElem? (i := 89) (by decide +kernel)
theorem tn_1 : Cond.methodLinkNest RX4 24 yX0_init RX4 ∈ lw_tbl := List.mem_of_getElem? (i := 147) (by decide +kernel)
theorem tn_2 : Cond.methodLinkNest RX4 31 yX3_init RX4 ∈ lw_tbl := List.mem_of_getElem? (i := 150) (by decide +kernel)
theorem tn_3 : Cond.methodLinkNest RX4 46 yX2_init RX4 ∈ lw_tbl := List.mem_of_getElem? (i := 178) (by decide +kernel)
theorem tn_4 : Cond.methodLinkNest RX0 31 yX4_grows RX4 ∈ lw_tbl := List.mem_of_getElem? (i := 393) (by decide +kernel)
theorem tn_5 : Cond.methodLinkNest RX0 35 yX4_loses RX4 ∈ lw_tbl := List.mem_of_getElem? (i := 394) (by decide +kernel)
theorem tn_6 : Cond.methodLinkNest RX0 43 yX4_calms RX4 ∈ lw_tbl := List.mem_of_getElem? (i := 396) (by decide +kernel)
theorem tn_7 : Cond.methodLinkNest RX1 86 yX4_burrs RX4 ∈ lw_tbl := List.mem_of_getElem? (i := 402) (by decide +kernel)
theorem tz_0 : Cond.laysStatic "java/lang/String" "COMPACT_STRINGS" "Z" ∈ lw_tbl := List.mem_of_getElem? (i := 530) (by decide +kernel)
theorem tz_1 : Cond.laysStatic "jdk/internal/util/Preconditions" "SIOOBE_FORMATTER" "Ljava/util/function/BiFunction;" ∈ lw_tbl := List.mem_of_getElem? (i := 546) (by decide +kernel)
theorem ts_0 : Cond.stringRef RX3 79 "ewe" ∈ lw_tbl := List.mem_of_getElem? (i := 516) (by decide +kernel)
theorem ts_1 : Cond.stringRef RX3 69 "ram" ∈ lw_tbl := List.mem_of_getElem? (i := 511) (by decide +kernel)
theorem ts_2 : Cond.stringRef RX3 71 "lamb" ∈ lw_tbl := List.mem_of_getElem? (i := 512) (by decide +kernel)
theorem ts_3 : Cond.stringRef RX3 73 "wether" ∈ lw_tbl := List.mem_of_getElem? (i := 513) (by decide +kernel)
theorem ts_4 : Cond.stringRef RX3 75 "black" ∈ lw_tbl := List.mem_of_getElem? (i := 514) (by decide +kernel)
theorem ts_5 : Cond.stringRef RX3 77 "pet" ∈ lw_tbl := List.mem_of_getElem? (i := 515) (by decide +kernel)
theorem ts_6 : Cond.stringRef RX3 88 "cold" ∈ lw_tbl := List.mem_of_getElem? (i := 580) (by decide +kernel)
theorem ts_7 : Cond.stringRef RX3 93 "mild" ∈ lw_tbl := List.mem_of_getElem? (i := 585) (by decide +kernel)
theorem ts_8 : Cond.stringRef RX3 95 "cut" ∈ lw_tbl := List.mem_of_getElem? (i := 586) (by decide +kernel)
theorem ts_9 : Cond.stringRef RX3 100 "store" ∈ lw_tbl := List.mem_of_getElem? (i := 593) (by decide +kernel)
theorem ts_10 : Cond.stringRef RX3 111 "fright" ∈ lw_tbl := List.mem_of_getElem? (i := 574) (by decide +kernel)
theorem ts_all : ∀ i, 0 ≤ i → i < 11 → Cond.stringRef RX3 (sIx.getD i 0) (sTx.getD i "") ∈ lw_tbl := by
  refine nx (b := 10) ?_ ts_10
  refine nx (b := 9) ?_ ts_9
  refine nx (b := 8) ?_ ts_8
  refine nx (b := 7) ?_ ts_7
  refine nx (b := 6) ?_ ts_6
  refine nx (b := 5) ?_ ts_5
  refine nx (b := 4) ?_ ts_4
  refine nx (b := 3) ?_ ts_3
  refine nx (b := 2) ?_ ts_2
  refine nx (b := 1) ?_ ts_1
  refine nx (b := 0) ?_ ts_0
  exact nx0
def tmS (i : Nat) : Term := .string RX3 (sIx.getD i 0)
theorem fs_ex : ∀ i, i < 11 → Cond.exactly (tmS i) "java/lang/String" ∈ flatC (Jvm.Cond.and given_1 narrow_1) := by decide +kernel
theorem fs_co : ∀ i, i < 11 → Cond.eq (.field (tmS i) "java/lang/String" "coder" "B") (.int 0) ∈ flatC (Jvm.Cond.and given_1 narrow_1) := by decide +kernel
theorem fs_ar : ∀ i, i < 11 → Cond.arrayOf (.field (tmS i) "java/lang/String" "value" "[B") .byte ∈ flatC (Jvm.Cond.and given_1 narrow_1) := by decide +kernel
theorem fs_le : ∀ i, i < 11 → Cond.eq (.length (.field (tmS i) "java/lang/String" "value" "[B")) (.int (Int32.ofNat (sLen.getD i 0))) ∈ flatC (Jvm.Cond.and given_1 narrow_1) := by decide +kernel
theorem fs_el : ∀ i, i < 11 → ∀ j, j < sLen.getD i 0 → Cond.eq (.elem (.field (tmS i) "java/lang/String" "value" "[B") (.int (Int32.ofNat j))) (.int ((sByt.getD i []).getD j 0)) ∈ flatC (Jvm.Cond.and given_1 narrow_1) := by decide +kernel
theorem fs_ne : ∀ i, i < 11 → ∀ j, j < 11 → i ≠ j → Cond.not (Cond.eq (tmS i) (tmS j)) ∈ flatC (Jvm.Cond.and given_1 narrow_1) ∨ Cond.not (Cond.eq (tmS j) (tmS i)) ∈ flatC (Jvm.Cond.and given_1 narrow_1) := by decide +kernel
theorem fz_0 : Cond.eq (.static "java/lang/String" "COMPACT_STRINGS" "Z") (.int 1) ∈ flatC (Jvm.Cond.and given_1 narrow_1) := by decide +kernel
theorem fz_1 : Cond.isRef (.static "jdk/internal/util/Preconditions" "SIOOBE_FORMATTER" "Ljava/util/function/BiFunction;") ∈ flatC (Jvm.Cond.and given_1 narrow_1) := by decide +kernel
