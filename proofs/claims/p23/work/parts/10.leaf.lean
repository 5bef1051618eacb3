/-! where each nest word stands; small methods of the class that look at their arguments alone; the grammar -/
theorem nw_RX4_59 : (RX4, 59, "SentenceGym$Grammar", "words", "I", RX4) ∈ nwF := List.mem_of_getElem? (i := 0) rfl
theorem nw_RX2_37 : (RX2, 37, "SentenceGym$Grammar", "words", "I", RX4) ∈ nwF := List.mem_of_getElem? (i := 1) rfl
theorem nw_RX4_84 : (RX4, 84, "SentenceGym$Grammar", "wordCategory", "[I", RX4) ∈ nwF := List.mem_of_getElem? (i := 2) rfl
theorem nw_RX2_43 : (RX2, 43, "SentenceGym$Grammar", "wordCategory", "[I", RX4) ∈ nwF := List.mem_of_getElem? (i := 3) rfl
theorem nw_RX2_46 : (RX2, 46, "SentenceGym$Grammar", "wordPair", "[I", RX4) ∈ nwF := List.mem_of_getElem? (i := 4) rfl
theorem nw_RX4_93 : (RX4, 93, "SentenceGym$Grammar", "rules", "I", RX4) ∈ nwF := List.mem_of_getElem? (i := 5) rfl
theorem nw_RX2_62 : (RX2, 62, "SentenceGym$Grammar", "made", "[I", RX4) ∈ nwF := List.mem_of_getElem? (i := 6) rfl
theorem nw_RX2_53 : (RX2, 53, "SentenceGym$Grammar", "first", "[I", RX4) ∈ nwF := List.mem_of_getElem? (i := 7) rfl
theorem nw_RX2_56 : (RX2, 56, "SentenceGym$Grammar", "second", "[I", RX4) ∈ nwF := List.mem_of_getElem? (i := 8) rfl
theorem nm_RX4_11 : (RX4, 11, yX1_init, RX4) ∈ nwM := List.mem_of_getElem? (i := 0) rfl
theorem nm_RX4_29 : (RX4, 29, yX2_init, RX4) ∈ nwM := List.mem_of_getElem? (i := 1) rfl
theorem nm_RX4_36 : (RX4, 36, yX0_init, RX4) ∈ nwM := List.mem_of_getElem? (i := 2) rfl
theorem nm_RX4_43 : (RX4, 43, yX3_init, RX4) ∈ nwM := List.mem_of_getElem? (i := 3) rfl
theorem nm_RX4_167 : (RX4, 167, yX0_fill, RX4) ∈ nwM := List.mem_of_getElem? (i := 4) rfl
theorem nm_RX0_16 : (RX0, 16, yX4_spanOf, RX4) ∈ nwM := List.mem_of_getElem? (i := 5) rfl
theorem nm_RX0_34 : (RX0, 34, yX1_countWord, RX4) ∈ nwM := List.mem_of_getElem? (i := 6) rfl
theorem nm_RX0_40 : (RX0, 40, yX1_addJoined, RX4) ∈ nwM := List.mem_of_getElem? (i := 7) rfl
theorem nm_RX4_171 : (RX4, 171, yX0_countSpan, RX4) ∈ nwM := List.mem_of_getElem? (i := 8) rfl
theorem nm_RX0_20 : (RX0, 20, yX4_countOf, RX4) ∈ nwM := List.mem_of_getElem? (i := 9) rfl
theorem nm_RX4_114 : (RX4, 114, yX3_countRow, RX4) ∈ nwM := List.mem_of_getElem? (i := 10) rfl
theorem nm_RX3_30 : (RX3, 30, yX1_countWord, RX4) ∈ nwM := List.mem_of_getElem? (i := 11) rfl
theorem nm_RX3_36 : (RX3, 36, yX1_addJoined, RX4) ∈ nwM := List.mem_of_getElem? (i := 12) rfl
theorem nm_RX3_20 : (RX3, 20, yX4_countOf, RX4) ∈ nwM := List.mem_of_getElem? (i := 13) rfl
theorem nm_RX4_129 : (RX4, 129, yX2_parse, RX4) ∈ nwM := List.mem_of_getElem? (i := 14) rfl
theorem nm_RX2_15 : (RX2, 15, yX4_spanOf, RX4) ∈ nwM := List.mem_of_getElem? (i := 15) rfl
theorem nm_RX2_59 : (RX2, 59, yX1_pairsMade, RX4) ∈ nwM := List.mem_of_getElem? (i := 16) rfl
theorem nm_RX1_50 : (RX1, 50, yX4_hasPair, RX4) ∈ nwM := List.mem_of_getElem? (i := 17) rfl
theorem nm_RX4_139 : (RX4, 139, yX2_holdsSentence, RX4) ∈ nwM := List.mem_of_getElem? (i := 18) rfl
theorem nm_RX4_180 : (RX4, 180, yX2_putAnyWord, RX4) ∈ nwM := List.mem_of_getElem? (i := 19) rfl
theorem nm_RX4_184 : (RX4, 184, yX2_putWord, RX4) ∈ nwM := List.mem_of_getElem? (i := 20) rfl
theorem nm_RX4_188 : (RX4, 188, yX2_joinUpTo, RX4) ∈ nwM := List.mem_of_getElem? (i := 21) rfl
theorem nm_RX4_71 : (RX4, 71, yX1_defineWord, RX4) ∈ nwM := List.mem_of_getElem? (i := 22) rfl
theorem nm_RX4_98 : (RX4, 98, yX1_defineRule, RX4) ∈ nwM := List.mem_of_getElem? (i := 23) rfl
theorem nm_RX1_46 : (RX1, 46, yX4_pairOf, RX4) ∈ nwM := List.mem_of_getElem? (i := 24) rfl
theorem nm_RX4_133 : (RX4, 133, yX2_pairsOf, RX4) ∈ nwM := List.mem_of_getElem? (i := 25) rfl

set_option maxRecDepth 100000 in
set_option maxHeartbeats 4000000 in
theorem c_X4_isOutside (l : Launch) (γ : Gm) (I : IT) (L : LT) (P : PT) (x : Int32) (n : Nat) (hn : n < 2 ^ 31) : Ci l yX4_isOutside wsX4_isOutside 0 γ [.int x, .int (nI n)] I L P (fun r I' L' => r = bi (!inB x n) ∧ I' = I ∧ L' = L) := by
  refine Ci_of (own := RX4) (cc := cX4_isOutside) (maxL := 2) (by decide) rfl rfl (Nat.le_of_ble_eq_true rfl) ?_
  refine g_sub (lv' := [(0, .int x), (1, .int (nI n))]) [0, 1] rfl ?_
  refine g_il_n 0 dX4_isOutside_0 rfl ?_
  refine g_if_lt (tgt := 9) dX4_isOutside_1 (by decide) (fun h1 => ?_) (fun h1 => ?_)
  · skip
    refine g_ic (v := nI 1) dX4_isOutside_9 (by decide) ?_
    refine g_goto (tgt := 14) dX4_isOutside_10 (by decide) ?_
    refine g_top (v := bi (!inB x n)) (bi_1 (by rw [inB, pB_no (IN_neg hn h1)]; rfl)) ?_
    exact g_zret (bi_nar _) dX4_isOutside_14 (⟨rfl, rfl, rfl⟩)
  · skip
    refine g_il_n 0 dX4_isOutside_4 rfl ?_
    refine g_il_n 1 dX4_isOutside_5 rfl ?_
    refine g_ic_lt (tgt := 13) dX4_isOutside_6 (by decide) (fun h2 => ?_) (fun h2 => ?_)
    · skip
      refine g_ic (v := nI 0) dX4_isOutside_13 (by decide) ?_
      refine g_top (v := bi (!inB x n)) (bi_0 (by rw [inB, pB_of (IN_of hn h1 h2)]; rfl)) ?_
      exact g_zret (bi_nar _) dX4_isOutside_14 (⟨rfl, rfl, rfl⟩)
    · skip
      refine g_ic (v := nI 1) dX4_isOutside_9 (by decide) ?_
      refine g_goto (tgt := 14) dX4_isOutside_10 (by decide) ?_
      refine g_top (v := bi (!inB x n)) (bi_1 (by rw [inB, pB_no (IN_ge hn h2)]; rfl)) ?_
      exact g_zret (bi_nar _) dX4_isOutside_14 (⟨rfl, rfl, rfl⟩)

set_option maxRecDepth 100000 in
set_option maxHeartbeats 4000000 in
theorem c_X4_isNoKind (l : Launch) (γ : Gm) (I : IT) (L : LT) (P : PT) (x y z : Int32) : Ci l yX4_isNoKind wsX4_isNoKind 1 γ [.int x, .int y, .int z] I L P (fun r I' L' => r = bi (!(inB x 8 && inB y 4 && inB z 4)) ∧ I' = I ∧ L' = L) := by
  refine Ci_of (own := RX4) (cc := cX4_isNoKind) (maxL := 3) (by decide) rfl rfl (Nat.le_of_ble_eq_true rfl) ?_
  refine g_sub (lv' := [(0, .int x), (1, .int y), (2, .int z)]) [0, 1, 2] rfl ?_
  refine g_il_n 0 dX4_isNoKind_0 rfl ?_
  refine g_bi (v := nI 8) dX4_isNoKind_1 (by decide) ?_
  refine g_ci (r_S (st := []) (As := [.int x, .int (nI 8)]) (d := 0) (c_X4_isOutside l γ (I) L P x 8 (by decide)) gX4_isNoKind_X4_isOutside rfl ⟨by decide, by decide, rfl⟩ ⟨Nat.le_of_ble_eq_true rfl, Nat.le_of_ble_eq_true rfl⟩ rfl (Nat.le_of_ble_eq_true rfl) dX4_isNoKind_3 ⟨Nat.zero_le _, Nat.zero_le _⟩) ?_
  rintro rz1 Iz1 Lz1 ⟨ez1, eIz1, eLz1⟩
  rw [ez1, eIz1, eLz1]
  refine gb_ne (tgt := 25) dX4_isNoKind_6 (by decide) (fun h1 => ?_) (fun h1 => ?_)
  · skip
    refine g_ic (v := nI 1) dX4_isNoKind_25 (by decide) ?_
    refine g_goto (tgt := 30) dX4_isNoKind_26 (by decide) ?_
    refine g_top (v := bi (!(inB x 8 && inB y 4 && inB z 4))) (bi_1 (by revert h1; cases inB x 8 <;> cases inB y 4 <;> cases inB z 4 <;> decide)) ?_
    exact g_zret (bi_nar _) dX4_isNoKind_30 (⟨rfl, rfl, rfl⟩)
  · skip
    refine g_il_n 1 dX4_isNoKind_9 rfl ?_
    refine g_ic (v := nI 4) dX4_isNoKind_10 (by decide) ?_
    refine g_ci (r_S (st := []) (As := [.int y, .int (nI 4)]) (d := 0) (c_X4_isOutside l γ (I) L P y 4 (by decide)) gX4_isNoKind_X4_isOutside rfl ⟨by decide, by decide, rfl⟩ ⟨Nat.le_of_ble_eq_true rfl, Nat.le_of_ble_eq_true rfl⟩ rfl (Nat.le_of_ble_eq_true rfl) dX4_isNoKind_11 ⟨Nat.zero_le _, Nat.zero_le _⟩) ?_
    rintro rz2 Iz2 Lz2 ⟨ez2, eIz2, eLz2⟩
    rw [ez2, eIz2, eLz2]
    refine gb_ne (tgt := 25) dX4_isNoKind_14 (by decide) (fun h2 => ?_) (fun h2 => ?_)
    · skip
      refine g_ic (v := nI 1) dX4_isNoKind_25 (by decide) ?_
      refine g_goto (tgt := 30) dX4_isNoKind_26 (by decide) ?_
      refine g_top (v := bi (!(inB x 8 && inB y 4 && inB z 4))) (bi_1 (by revert h2; cases inB x 8 <;> cases inB y 4 <;> cases inB z 4 <;> decide)) ?_
      exact g_zret (bi_nar _) dX4_isNoKind_30 (⟨rfl, rfl, rfl⟩)
    · skip
      refine g_il_n 2 dX4_isNoKind_17 rfl ?_
      refine g_ic (v := nI 4) dX4_isNoKind_18 (by decide) ?_
      refine g_ci (r_S (st := []) (As := [.int z, .int (nI 4)]) (d := 0) (c_X4_isOutside l γ (I) L P z 4 (by decide)) gX4_isNoKind_X4_isOutside rfl ⟨by decide, by decide, rfl⟩ ⟨Nat.le_of_ble_eq_true rfl, Nat.le_of_ble_eq_true rfl⟩ rfl (Nat.le_of_ble_eq_true rfl) dX4_isNoKind_19 ⟨Nat.zero_le _, Nat.zero_le _⟩) ?_
      rintro rz3 Iz3 Lz3 ⟨ez3, eIz3, eLz3⟩
      rw [ez3, eIz3, eLz3]
      refine gb_eq (tgt := 29) dX4_isNoKind_22 (by decide) (fun h3 => ?_) (fun h3 => ?_)
      · skip
        refine g_ic (v := nI 0) dX4_isNoKind_29 (by decide) ?_
        refine g_top (v := bi (!(inB x 8 && inB y 4 && inB z 4))) (bi_0 (by revert h1 h2 h3; cases inB x 8 <;> cases inB y 4 <;> cases inB z 4 <;> decide)) ?_
        exact g_zret (bi_nar _) dX4_isNoKind_30 (⟨rfl, rfl, rfl⟩)
      · skip
        refine g_ic (v := nI 1) dX4_isNoKind_25 (by decide) ?_
        refine g_goto (tgt := 30) dX4_isNoKind_26 (by decide) ?_
        refine g_top (v := bi (!(inB x 8 && inB y 4 && inB z 4))) (bi_1 (by revert h3; cases inB x 8 <;> cases inB y 4 <;> cases inB z 4 <;> decide)) ?_
        exact g_zret (bi_nar _) dX4_isNoKind_30 (⟨rfl, rfl, rfl⟩)

set_option maxRecDepth 100000 in
set_option maxHeartbeats 4000000 in
theorem c_X4_isNoDigitPair (l : Launch) (γ : Gm) (I : IT) (L : LT) (P : PT) (x : Int32) : Ci l yX4_isNoDigitPair wsX4_isNoDigitPair 0 γ [.int x] I L P (fun r I' L' => r = bi (!pB (∃ m, DP x m)) ∧ I' = I ∧ L' = L) := by
  refine Ci_of (own := RX4) (cc := cX4_isNoDigitPair) (maxL := 1) (by decide) rfl rfl (Nat.le_of_ble_eq_true rfl) ?_
  refine g_sub (lv' := [(0, .int x)]) [0] rfl ?_
  refine g_il_n 0 dX4_isNoDigitPair_0 rfl ?_
  refine g_if_lt (tgt := 20) dX4_isNoDigitPair_1 (by decide) (fun h1 => ?_) (fun h1 => ?_)
  · skip
    refine g_ic (v := nI 1) dX4_isNoDigitPair_20 (by decide) ?_
    refine g_goto (tgt := 25) dX4_isNoDigitPair_21 (by decide) ?_
    refine g_top (v := bi (!pB (∃ m, DP x m))) (bi_1 (by rw [pB_no (DP_neg h1)]; rfl)) ?_
    exact g_zret (bi_nar _) dX4_isNoDigitPair_25 (⟨rfl, rfl, rfl⟩)
  · skip
    obtain ⟨m, hm, rfl⟩ := nI_of h1
    refine g_il_n 0 dX4_isNoDigitPair_4 rfl ?_
    refine g_bi (v := nI 10) dX4_isNoDigitPair_5 (by decide) ?_
    refine g_idiv (v := nI (m / 10)) dX4_isNoDigitPair_7 (by decide) (pk_div (by omega) (by omega) (by omega)) ?_
    refine g_ic (v := nI 4) dX4_isNoDigitPair_8 (by decide) ?_
    refine gn_ge (tgt := 20) dX4_isNoDigitPair_9 (by decide) (by omega) (by omega) (fun h2 => ?_) (fun h2 => ?_)
    · skip
      refine g_ic (v := nI 1) dX4_isNoDigitPair_20 (by decide) ?_
      refine g_goto (tgt := 25) dX4_isNoDigitPair_21 (by decide) ?_
      refine g_top (v := bi (!pB (∃ m', DP (nI m) m'))) (bi_1 (by rw [pB_no (fun q => by have := (DP_of hm).mp q; omega)]; rfl)) ?_
      exact g_zret (bi_nar _) dX4_isNoDigitPair_25 (⟨rfl, rfl, rfl⟩)
    · skip
      refine g_il_n 0 dX4_isNoDigitPair_12 rfl ?_
      refine g_bi (v := nI 10) dX4_isNoDigitPair_13 (by decide) ?_
      refine g_irem (v := nI (m % 10)) dX4_isNoDigitPair_15 (by decide) (pk_rem (by omega) (by omega) (by omega)) ?_
      refine g_ic (v := nI 4) dX4_isNoDigitPair_16 (by decide) ?_
      refine gn_lt (tgt := 24) dX4_isNoDigitPair_17 (by decide) (by omega) (by omega) (fun h3 => ?_) (fun h3 => ?_)
      · skip
        refine g_ic (v := nI 0) dX4_isNoDigitPair_24 (by decide) ?_
        refine g_top (v := bi (!pB (∃ m', DP (nI m) m'))) (bi_0 (by rw [pB_of ((DP_of hm).mpr ⟨by omega, by omega⟩)]; rfl)) ?_
        exact g_zret (bi_nar _) dX4_isNoDigitPair_25 (⟨rfl, rfl, rfl⟩)
      · skip
        refine g_ic (v := nI 1) dX4_isNoDigitPair_20 (by decide) ?_
        refine g_goto (tgt := 25) dX4_isNoDigitPair_21 (by decide) ?_
        refine g_top (v := bi (!pB (∃ m', DP (nI m) m'))) (bi_1 (by rw [pB_no (fun q => by have := (DP_of hm).mp q; omega)]; rfl)) ?_
        exact g_zret (bi_nar _) dX4_isNoDigitPair_25 (⟨rfl, rfl, rfl⟩)

set_option maxRecDepth 100000 in
set_option maxHeartbeats 4000000 in
theorem c_X4_isNoLength (l : Launch) (γ : Gm) (I : IT) (L : LT) (P : PT) (x : Int32) : Ci l yX4_isNoLength wsX4_isNoLength 0 γ [.int x] I L P (fun r I' L' => r = bi (!pB (∃ m, LEN x m)) ∧ I' = I ∧ L' = L) := by
  refine Ci_of (own := RX4) (cc := cX4_isNoLength) (maxL := 1) (by decide) rfl rfl (Nat.le_of_ble_eq_true rfl) ?_
  refine g_sub (lv' := [(0, .int x)]) [0] rfl ?_
  refine g_il_n 0 dX4_isNoLength_0 rfl ?_
  refine g_ic (v := nI 1) dX4_isNoLength_1 (by decide) ?_
  refine g_ic_lt (tgt := 10) dX4_isNoLength_2 (by decide) (fun h1 => ?_) (fun h1 => ?_)
  · skip
    refine g_ic (v := nI 1) dX4_isNoLength_10 (by decide) ?_
    refine g_goto (tgt := 15) dX4_isNoLength_11 (by decide) ?_
    refine g_top (v := bi (!pB (∃ m, LEN x m))) (bi_1 (by rw [pB_no (LEN_lt h1)]; rfl)) ?_
    exact g_zret (bi_nar _) dX4_isNoLength_15 (⟨rfl, rfl, rfl⟩)
  · skip
    refine g_il_n 0 dX4_isNoLength_5 rfl ?_
    refine g_ic (v := nI 4) dX4_isNoLength_6 (by decide) ?_
    refine g_ic_le (tgt := 14) dX4_isNoLength_7 (by decide) (fun h2 => ?_) (fun h2 => ?_)
    · skip
      refine g_ic (v := nI 0) dX4_isNoLength_14 (by decide) ?_
      refine g_top (v := bi (!pB (∃ m, LEN x m))) (bi_0 (by rw [pB_of (LEN_of h1 h2)]; rfl)) ?_
      exact g_zret (bi_nar _) dX4_isNoLength_15 (⟨rfl, rfl, rfl⟩)
    · skip
      refine g_ic (v := nI 1) dX4_isNoLength_10 (by decide) ?_
      refine g_goto (tgt := 15) dX4_isNoLength_11 (by decide) ?_
      refine g_top (v := bi (!pB (∃ m, LEN x m))) (bi_1 (by rw [pB_no (LEN_gt h2)]; rfl)) ?_
      exact g_zret (bi_nar _) dX4_isNoLength_15 (⟨rfl, rfl, rfl⟩)

theorem in_X4_isNoSpan_4 : ∀ w ∈ wsX40, w ∈ wsX4_isNoSpan := by decide +kernel
set_option maxRecDepth 100000 in
set_option maxHeartbeats 4000000 in
theorem c_X4_isNoSpan (l : Launch) (γ : Gm) (I : IT) (L : LT) (P : PT) (x y : Int32) (q : Nat) (hq : I 0 0 = nI q) (hq6 : q ≤ 6) : Ci l yX4_isNoSpan wsX4_isNoSpan 0 γ [.ref (γ.2.2 0), .int x, .int y] I L P (fun r I' L' => r = bi (!pB (∃ a b, SPN x y q a b)) ∧ I' = I ∧ L' = L) := by
  refine Ci_of (own := RX4) (cc := cX4_isNoSpan) (maxL := 3) (by decide) rfl rfl (Nat.le_of_ble_eq_true rfl) ?_
  refine g_sub (lv' := [(0, .ref (γ.2.2 0)), (1, .int x), (2, .int y)]) [0, 1, 2] rfl ?_
  refine g_il_n 1 dX4_isNoSpan_0 rfl ?_
  refine g_if_lt (tgt := 17) dX4_isNoSpan_1 (by decide) (fun h1 => ?_) (fun h1 => ?_)
  · skip
    refine g_ic (v := nI 1) dX4_isNoSpan_17 (by decide) ?_
    refine g_goto (tgt := 22) dX4_isNoSpan_18 (by decide) ?_
    refine g_top (v := bi (!pB (∃ a b, SPN x y q a b))) (bi_1 (by rw [pB_no (SPN_neg (by omega) h1)]; rfl)) ?_
    exact g_zret (bi_nar _) dX4_isNoSpan_22 (⟨rfl, rfl, rfl⟩)
  · skip
    refine g_il_n 2 dX4_isNoSpan_4 rfl ?_
    refine g_il_n 1 dX4_isNoSpan_5 rfl ?_
    refine g_ic_le (tgt := 17) dX4_isNoSpan_6 (by decide) (fun h2 => ?_) (fun h2 => ?_)
    · skip
      refine g_ic (v := nI 1) dX4_isNoSpan_17 (by decide) ?_
      refine g_goto (tgt := 22) dX4_isNoSpan_18 (by decide) ?_
      refine g_top (v := bi (!pB (∃ a b, SPN x y q a b))) (bi_1 (by rw [pB_no (SPN_le (by omega) h2)]; rfl)) ?_
      exact g_zret (bi_nar _) dX4_isNoSpan_22 (⟨rfl, rfl, rfl⟩)
    · skip
      refine g_il_n 2 dX4_isNoSpan_9 rfl ?_
      refine g_al_n 0 dX4_isNoSpan_10 rfl ?_
      refine g_get 0 2 (by decide) rfl in_X4_isNoSpan_4 rfl (by decide) (by decide +kernel) rfl rfl dX4_isNoSpan_11 ?_
      refine g_top (v := nI q) (hq) ?_
      refine g_ic_le (tgt := 21) dX4_isNoSpan_14 (by decide) (fun h3 => ?_) (fun h3 => ?_)
      · skip
        refine g_ic (v := nI 0) dX4_isNoSpan_21 (by decide) ?_
        refine g_top (v := bi (!pB (∃ a b, SPN x y q a b))) (bi_0 (by rw [pB_of (SPN_of (q := q) (by omega) h1 h2 (fun q9 => (Int32.not_le.mpr q9) h3))]; rfl)) ?_
        exact g_zret (bi_nar _) dX4_isNoSpan_22 (⟨rfl, rfl, rfl⟩)
      · skip
        refine g_ic (v := nI 1) dX4_isNoSpan_17 (by decide) ?_
        refine g_goto (tgt := 22) dX4_isNoSpan_18 (by decide) ?_
        refine g_top (v := bi (!pB (∃ a b, SPN x y q a b))) (bi_1 (by rw [pB_no (SPN_gt (by omega) (Int32.not_le.mp h3))]; rfl)) ?_
        exact g_zret (bi_nar _) dX4_isNoSpan_22 (⟨rfl, rfl, rfl⟩)

set_option maxRecDepth 100000 in
set_option maxHeartbeats 4000000 in
theorem c_X4_pairOf (l : Launch) (γ : Gm) (I : IT) (L : LT) (P : PT) (a b : Nat) : Ci l yX4_pairOf wsX4_pairOf 0 γ [.int (nI a), .int (nI b)] I L P (fun r I' L' => r = nI (a * 4 + b) ∧ I' = I ∧ L' = L) := by
  refine Ci_of (own := RX4) (cc := cX4_pairOf) (maxL := 2) (by decide) rfl rfl (Nat.le_of_ble_eq_true rfl) ?_
  refine g_sub (lv' := [(0, .int (nI a)), (1, .int (nI b))]) [0, 1] rfl ?_
  refine g_il_n 0 dX4_pairOf_0 rfl ?_
  refine g_ic (v := nI 4) dX4_pairOf_1 (by decide) ?_
  refine g_imul (v := nI (a * 4)) dX4_pairOf_2 (pk_mul _ _) ?_
  refine g_il_n 1 dX4_pairOf_3 rfl ?_
  refine g_iadd (v := nI (a * 4 + b)) dX4_pairOf_4 (nI_add _ _) ?_
  exact g_iret dX4_pairOf_5 (⟨rfl, rfl, rfl⟩)

set_option maxRecDepth 100000 in
set_option maxHeartbeats 4000000 in
theorem c_X4_hasPair (l : Launch) (γ : Gm) (I : IT) (L : LT) (P : PT) (m k : Nat) (hm : m < 2 ^ 31) (hk : k < 32) : Ci l yX4_hasPair wsX4_hasPair 0 γ [.int (nI m), .int (nI k)] I L P (fun r I' L' => r = bi (m.testBit k) ∧ I' = I ∧ L' = L) := by
  refine Ci_of (own := RX4) (cc := cX4_hasPair) (maxL := 2) (by decide) rfl rfl (Nat.le_of_ble_eq_true rfl) ?_
  refine g_sub (lv' := [(0, .int (nI m)), (1, .int (nI k))]) [0, 1] rfl ?_
  refine g_il_n 0 dX4_hasPair_0 rfl ?_
  refine g_il_n 1 dX4_hasPair_1 rfl ?_
  refine g_ishr (v := nI (m / 2 ^ k)) dX4_hasPair_2 (nI_shr hm hk) ?_
  refine g_ic (v := nI 1) dX4_hasPair_3 (by decide) ?_
  refine g_iand (v := nI (m / 2 ^ k % 2)) dX4_hasPair_4 (nI_and1 _) ?_
  refine gz_eq (tgt := 12) dX4_hasPair_5 (by decide) (mod2_lt _) (fun h1 => ?_) (fun h1 => ?_)
  · skip
    refine g_ic (v := nI 0) dX4_hasPair_12 (by decide) ?_
    refine g_top (v := bi (m.testBit k)) (bi_0 ((bit_div m k).mp h1)) ?_
    exact g_zret (bi_nar _) dX4_hasPair_13 (⟨rfl, rfl, rfl⟩)
  · skip
    refine g_ic (v := nI 1) dX4_hasPair_8 (by decide) ?_
    refine g_goto (tgt := 13) dX4_hasPair_9 (by decide) ?_
    refine g_top (v := bi (m.testBit k)) (bi_1 ((bit_div1 m k).mp (by omega))) ?_
    exact g_zret (bi_nar _) dX4_hasPair_13 (⟨rfl, rfl, rfl⟩)

set_option maxRecDepth 100000 in
set_option maxHeartbeats 4000000 in
theorem c_X4_spanOf (l : Launch) (γ : Gm) (I : IT) (L : LT) (P : PT) (a b : Nat) (ha : a < b) (hb : b ≤ 6) : Ci l yX4_spanOf wsX4_spanOf 0 γ [.int (nI a), .int (nI b)] I L P (fun r I' L' => r = nI (sp a b) ∧ I' = I ∧ L' = L) := by
  refine Ci_of (own := RX4) (cc := cX4_spanOf) (maxL := 2) (by decide) rfl rfl (Nat.le_of_ble_eq_true rfl) ?_
  refine g_sub (lv' := [(0, .int (nI a)), (1, .int (nI b))]) [0, 1] rfl ?_
  have h9 : b * (b - 1) ≤ 6 * 5 := Nat.mul_le_mul hb (by omega)
  refine g_il_n 1 dX4_spanOf_0 rfl ?_
  refine g_il_n 1 dX4_spanOf_1 rfl ?_
  refine g_ic (v := nI 1) dX4_spanOf_2 (by decide) ?_
  refine g_isub (v := nI (b - 1)) dX4_spanOf_3 (pk_sub (by omega)) ?_
  refine g_imul (v := nI (b * (b - 1))) dX4_spanOf_4 (pk_mul _ _) ?_
  refine g_ic (v := nI 2) dX4_spanOf_5 (by decide) ?_
  refine g_idiv (v := nI ((b * (b - 1)) / 2)) dX4_spanOf_6 (by decide) (pk_div (by omega) (by omega) (by omega)) ?_
  refine g_il_n 0 dX4_spanOf_7 rfl ?_
  refine g_iadd (v := nI ((b * (b - 1)) / 2 + a)) dX4_spanOf_8 (nI_add _ _) ?_
  exact g_iret dX4_spanOf_9 (⟨rfl, rfl, rfl⟩)

set_option maxRecDepth 100000 in
set_option maxHeartbeats 4000000 in
theorem c_X4_told (l : Launch) (γ : Gm) (I : IT) (L : LT) (P : PT) (m : Nat) (hm : m < 2 ^ 31) : Ci l yX4_told wsX4_told 0 γ [.int (nI m)] I L P (fun r I' L' => r = nI (if m ≤ 1000000 then m else 1000000) ∧ I' = I ∧ L' = L) := by
  refine Ci_of (own := RX4) (cc := cX4_told) (maxL := 1) (by decide) rfl rfl (Nat.le_of_ble_eq_true rfl) ?_
  refine g_sub (lv' := [(0, .int (nI m))]) [0] rfl ?_
  refine g_il_n 0 dX4_told_0 rfl ?_
  refine g_ldc (v := nI 1000000) (by decide +kernel) dX4_told_1 ?_
  refine gn_le (tgt := 11) dX4_told_3 (by decide) (by omega) (by omega) (fun h1 => ?_) (fun h1 => ?_)
  · skip
    refine g_il_n 0 dX4_told_11 rfl ?_
    refine g_top (v := nI (if m ≤ 1000000 then m else 1000000)) (by rw [if_pos h1]) ?_
    exact g_iret dX4_told_12 (⟨rfl, rfl, rfl⟩)
  · skip
    refine g_ldc (v := nI 1000000) (by decide +kernel) dX4_told_6 ?_
    refine g_goto (tgt := 12) dX4_told_8 (by decide) ?_
    refine g_top (v := nI (if m ≤ 1000000 then m else 1000000)) (by rw [if_neg (by omega)]) ?_
    exact g_iret dX4_told_12 (⟨rfl, rfl, rfl⟩)

set_option maxRecDepth 100000 in
set_option maxHeartbeats 4000000 in
theorem c_X4_countOf (l : Launch) (γ : Gm) (I : IT) (L : LT) (P : PT) (k c : Nat) (f : Nat → Nat) (hk : 37 ≤ k) (hk2 : k < 71) (hc : c < 8) (hf : ∀ v, v < 16 → I k (c * 16 + v) = nI (f v)) : Ci l yX4_countOf wsX4_countOf 0 γ [.ref (γ.2.2 k), .int (nI c)] I L P (fun r I' L' => r = nI (sm f 16) ∧ I' = I ∧ L' = L) := by
  refine Ci_of (own := RX4) (cc := cX4_countOf) (maxL := 4) (by decide) rfl rfl (Nat.le_of_ble_eq_true rfl) ?_
  refine g_sub (lv' := [(0, .ref (γ.2.2 k)), (1, .int (nI c))]) [0, 1] rfl ?_
  refine g_ic (v := nI 0) dX4_countOf_0 (by decide) ?_
  refine g_is_n (lv' := [(2, .int (nI 0)), (0, .ref (γ.2.2 k)), (1, .int (nI c))]) dX4_countOf_1 (by decide) rfl ?_
  refine g_ic (v := nI 0) dX4_countOf_2 (by decide) ?_
  refine g_is_n (lv' := [(3, .int (nI 0)), (2, .int (nI 0)), (0, .ref (γ.2.2 k)), (1, .int (nI c))]) dX4_countOf_3 (by decide) rfl ?_
  have lp : ∀ (n : Nat) (v : Nat) (hv : v + n = 16), G E0 l cX4_countOf 4 wsX4_countOf RX4 (some .int) (rmd 0) γ P (AE γ) (Qi γ P (fun r I' L' => r = nI (sm f 16) ∧ I' = I ∧ L' = L)) 0 0 4 [(0, .ref (γ.2.2 k)), (1, .int (nI c)), (2, .int (nI (sm f v))), (3, .int (nI v))] [] I L := by
    intro n
    induction n with
    | zero =>
      intro v hv
      simp only [Nat.add_zero] at hv
      refine g_il_n 3 dX4_countOf_4 rfl ?_
      refine g_bi (v := nI 16) dX4_countOf_5 (by decide) ?_
      refine gn_ge (tgt := 27) dX4_countOf_7 (by decide) (by omega) (by omega) (fun h1 => ?_) (fun h1 => ?_)
      · skip
        refine g_il_n 2 dX4_countOf_27 rfl ?_
        refine g_top (v := nI (sm f 16)) (by rw [hv]) ?_
        exact g_iret dX4_countOf_28 (⟨rfl, rfl, rfl⟩)
      · skip
        exfalso; omega
    | succ n ih =>
      intro v hv
      refine g_il_n 3 dX4_countOf_4 rfl ?_
      refine g_bi (v := nI 16) dX4_countOf_5 (by decide) ?_
      refine gn_ge (tgt := 27) dX4_countOf_7 (by decide) (by omega) (by omega) (fun h1 => ?_) (fun h1 => ?_)
      · skip
        exfalso; omega
      · skip
        refine g_il_n 2 dX4_countOf_10 rfl ?_
        refine g_al_n 0 dX4_countOf_11 rfl ?_
        refine g_il_n 1 dX4_countOf_12 rfl ?_
        refine g_bi (v := nI 16) dX4_countOf_13 (by decide) ?_
        refine g_imul (v := nI (c * 16)) dX4_countOf_15 (pk_mul _ _) ?_
        refine g_il_n 3 dX4_countOf_16 rfl ?_
        refine g_iadd (v := nI (c * 16 + v)) dX4_countOf_17 (nI_add _ _) ?_
        refine g_iald (v := nI (f v)) k (c * 16 + v) (by omega) (by omega) (by rw [ln_37 (by omega)]; omega) (hf v (by omega)) dX4_countOf_18 ?_
        refine g_iadd (v := nI (sm f v + (f v))) dX4_countOf_19 (nI_add _ _) ?_
        refine g_is_n (lv' := [(2, .int (nI (sm f v + (f v)))), (0, .ref (γ.2.2 k)), (1, .int (nI c)), (3, .int (nI v))]) dX4_countOf_20 (by decide) rfl ?_
        refine g_inc (v := nI (v + 1)) (lv' := [(3, .int (nI (v + 1))), (2, .int (nI (sm f v + (f v)))), (0, .ref (γ.2.2 k)), (1, .int (nI c))]) 3 dX4_countOf_21 rfl (inc_1 _) (by decide) rfl ?_
        refine g_goto (tgt := 4) dX4_countOf_24 (by decide) ?_
        refine g_sub [2, 3, 1, 0] rfl ?_
        exact ih (v + 1) (by omega)
  refine g_sub [2, 3, 1, 0] rfl ?_
  exact lp 16 0 rfl

set_option maxRecDepth 100000 in
set_option maxHeartbeats 4000000 in
theorem c_X1_joinedValue (l : Launch) (γ : Gm) (I : IT) (L : LT) (P : PT) (m a b : Nat) (hm : m ≤ 3) (ha : a < 4) (hb : b < 4) : Ci l yX1_joinedValue wsX1_joinedValue 0 γ [.int (nI m), .int (nI a), .int (nI b)] I L P (fun r I' L' => r = enc (jv m a b) ∧ I' = I ∧ L' = L) := by
  refine Ci_of (own := RX1) (cc := cX1_joinedValue) (maxL := 3) (by decide) rfl rfl (Nat.le_of_ble_eq_true rfl) ?_
  refine g_sub (lv' := [(0, .int (nI m)), (1, .int (nI a)), (2, .int (nI b))]) [0, 1, 2] rfl ?_
  rcases (show m = 0 ∨ m = 1 ∨ m = 2 ∨ m = 3 by omega) with rfl | rfl | rfl | rfl
  · skip
    refine g_il_n 0 dX1_joinedValue_0 rfl ?_
    refine g_tsIn (off := 27) (tgt := 28) dX1_joinedValue_1 (by decide) (by decide) (by decide) (by decide) ?_
    refine g_il_n 1 dX1_joinedValue_28 rfl ?_
    exact g_iret dX1_joinedValue_29 (⟨rfl, rfl, rfl⟩)
  · skip
    refine g_il_n 0 dX1_joinedValue_0 rfl ?_
    refine g_tsIn (off := 29) (tgt := 30) dX1_joinedValue_1 (by decide) (by decide) (by decide) (by decide) ?_
    refine g_il_n 2 dX1_joinedValue_30 rfl ?_
    exact g_iret dX1_joinedValue_31 (⟨rfl, rfl, rfl⟩)
  · skip
    refine g_il_n 0 dX1_joinedValue_0 rfl ?_
    refine g_tsIn (off := 31) (tgt := 32) dX1_joinedValue_1 (by decide) (by decide) (by decide) (by decide) ?_
    refine g_il_n 1 dX1_joinedValue_32 rfl ?_
    refine g_il_n 2 dX1_joinedValue_33 rfl ?_
    refine gn_eq (tgt := 41) dX1_joinedValue_34 (by decide) (by omega) (by omega) (fun h1 => ?_) (fun h1 => ?_)
    · skip
      refine g_il_n 1 dX1_joinedValue_41 rfl ?_
      exact g_iret dX1_joinedValue_42 (⟨by rw [show jv 2 a b = some a by simp [jv, h1]]; rfl, rfl, rfl⟩)
    · skip
      refine g_il_n 2 dX1_joinedValue_37 rfl ?_
      refine gz_ne (tgt := 43) dX1_joinedValue_38 (by decide) (by omega) (fun h2 => ?_) (fun h2 => ?_)
      · skip
        refine g_il_n 1 dX1_joinedValue_43 rfl ?_
        refine gz_ne (tgt := 51) dX1_joinedValue_44 (by decide) (by omega) (fun h3 => ?_) (fun h3 => ?_)
        · skip
          refine g_ic (v := (-1 : Int32)) dX1_joinedValue_51 (by decide) ?_
          exact g_iret dX1_joinedValue_52 (⟨by rw [show jv 2 a b = none by simp [jv, h1, h2, h3]]; rfl, rfl, rfl⟩)
        · skip
          refine g_il_n 2 dX1_joinedValue_47 rfl ?_
          refine g_goto (tgt := 52) dX1_joinedValue_48 (by decide) ?_
          exact g_iret dX1_joinedValue_52 (⟨by rw [show jv 2 a b = some b by simp [jv, h1, h2, h3]]; rfl, rfl, rfl⟩)
      · skip
        refine g_il_n 1 dX1_joinedValue_41 rfl ?_
        exact g_iret dX1_joinedValue_42 (⟨by rw [show jv 2 a b = some a by simp [jv, h2]]; rfl, rfl, rfl⟩)
  · skip
    refine g_il_n 0 dX1_joinedValue_0 rfl ?_
    refine g_tsOut (tgt := 53) dX1_joinedValue_1 (by decide) (by decide) ?_
    refine g_ic (v := nI 0) dX1_joinedValue_53 (by decide) ?_
    exact g_iret dX1_joinedValue_54 (⟨rfl, rfl, rfl⟩)

set_option maxRecDepth 100000 in
set_option maxHeartbeats 4000000 in
theorem c_X1_joinedPair (l : Launch) (γ : Gm) (I : IT) (L : LT) (P : PT) (m a b : Nat) (hm : m < 2 ^ 31) (h1 : m / 10 ≤ 3) (h2 : m % 10 ≤ 3) (ha : a < 16) (hb : b < 16) : Ci l yX1_joinedPair wsX1_joinedPair 1 γ [.int (nI m), .int (nI a), .int (nI b)] I L P (fun r I' L' => r = enc (jp m a b) ∧ I' = I ∧ L' = L) := by
  refine Ci_of (own := RX1) (cc := cX1_joinedPair) (maxL := 5) (by decide) rfl rfl (Nat.le_of_ble_eq_true rfl) ?_
  refine g_sub (lv' := [(0, .int (nI m)), (1, .int (nI a)), (2, .int (nI b))]) [0, 1, 2] rfl ?_
  refine g_il_n 0 dX1_joinedPair_0 rfl ?_
  refine g_bi (v := nI 10) dX1_joinedPair_1 (by decide) ?_
  refine g_idiv (v := nI (m / 10)) dX1_joinedPair_3 (by decide) (pk_div (by omega) (by omega) (by omega)) ?_
  refine g_il_n 1 dX1_joinedPair_4 rfl ?_
  refine g_ic (v := nI 4) dX1_joinedPair_5 (by decide) ?_
  refine g_idiv (v := nI (a / 4)) dX1_joinedPair_6 (by decide) (pk_div (by omega) (by omega) (by omega)) ?_
  refine g_il_n 2 dX1_joinedPair_7 rfl ?_
  refine g_ic (v := nI 4) dX1_joinedPair_8 (by decide) ?_
  refine g_idiv (v := nI (b / 4)) dX1_joinedPair_9 (by decide) (pk_div (by omega) (by omega) (by omega)) ?_
  refine g_ci (r_S (st := []) (As := [.int (nI (m / 10)), .int (nI (a / 4)), .int (nI (b / 4))]) (d := 0) (c_X1_joinedValue l γ I L P (m / 10) (a / 4) (b / 4) h1 (by omega) (by omega)) gX1_joinedPair_X1_joinedValue rfl ⟨by decide, by decide, rfl⟩ ⟨Nat.le_of_ble_eq_true rfl, Nat.le_of_ble_eq_true rfl⟩ rfl (Nat.le_of_ble_eq_true rfl) dX1_joinedPair_10 ⟨Nat.zero_le _, Nat.zero_le _⟩) ?_
  rintro rz1 Iz1 Lz1 ⟨ez1, eIz1, eLz1⟩
  rw [ez1, eIz1, eLz1]
  refine g_is_n (lv' := [(3, .int (enc (jv (m / 10) (a / 4) (b / 4)))), (0, .int (nI m)), (1, .int (nI a)), (2, .int (nI b))]) dX1_joinedPair_13 (by decide) rfl ?_
  refine g_il_n 1 dX1_joinedPair_14 rfl ?_
  refine g_bi (v := nI 10) dX1_joinedPair_15 (by decide) ?_
  refine g_irem (v := nI (m % 10)) dX1_joinedPair_17 (by decide) (pk_rem (by omega) (by omega) (by omega)) ?_
  refine g_il_n 2 dX1_joinedPair_18 rfl ?_
  refine g_ic (v := nI 4) dX1_joinedPair_19 (by decide) ?_
  refine g_irem (v := nI (a % 4)) dX1_joinedPair_20 (by decide) (pk_rem (by omega) (by omega) (by omega)) ?_
  refine g_il_n 3 dX1_joinedPair_21 rfl ?_
  refine g_ic (v := nI 4) dX1_joinedPair_22 (by decide) ?_
  refine g_irem (v := nI (b % 4)) dX1_joinedPair_23 (by decide) (pk_rem (by omega) (by omega) (by omega)) ?_
  refine g_ci (r_S (st := []) (As := [.int (nI (m % 10)), .int (nI (a % 4)), .int (nI (b % 4))]) (d := 0) (c_X1_joinedValue l γ I L P (m % 10) (a % 4) (b % 4) h2 (by omega) (by omega)) gX1_joinedPair_X1_joinedValue rfl ⟨by decide, by decide, rfl⟩ ⟨Nat.le_of_ble_eq_true rfl, Nat.le_of_ble_eq_true rfl⟩ rfl (Nat.le_of_ble_eq_true rfl) dX1_joinedPair_24 ⟨Nat.zero_le _, Nat.zero_le _⟩) ?_
  rintro rz2 Iz2 Lz2 ⟨ez2, eIz2, eLz2⟩
  rw [ez2, eIz2, eLz2]
  refine g_is (lv' := [(4, .int (enc (jv (m % 10) (a % 4) (b % 4)))), (3, .int (enc (jv (m / 10) (a / 4) (b / 4)))), (0, .int (nI m)), (1, .int (nI a)), (2, .int (nI b))]) dX1_joinedPair_27 (by decide) rfl ?_
  refine g_il_n 1 dX1_joinedPair_29 rfl ?_
  refine g_ic (v := (-1 : Int32)) dX1_joinedPair_30 (by decide) ?_
  refine g_ic_eq (tgt := 40) dX1_joinedPair_31 (by decide) (fun h3 => ?_) (fun h3 => ?_)
  · skip
    refine g_ic (v := (-1 : Int32)) dX1_joinedPair_40 (by decide) ?_
    refine g_goto (tgt := 50) dX1_joinedPair_41 (by decide) ?_
    exact g_iret dX1_joinedPair_50 (⟨by have e := enc_eq h3 (fun v hv => by have := jv_lt (by omega) (by omega) hv; omega); simp only [jp, e]; rfl, rfl, rfl⟩)
  · skip
    obtain ⟨u, hu⟩ := enc_ne h3
    refine g_il 0 dX1_joinedPair_34 rfl ?_
    refine g_ic (v := (-1 : Int32)) dX1_joinedPair_36 (by decide) ?_
    refine g_ic_ne (tgt := 44) dX1_joinedPair_37 (by decide) (fun h4 => ?_) (fun h4 => ?_)
    · skip
      obtain ⟨w, hw⟩ := enc_ne h4
      refine g_il_n 1 dX1_joinedPair_44 rfl ?_
      refine g_il 0 dX1_joinedPair_45 rfl ?_
      have hu4 := jv_lt (by omega) (by omega) hu
      have hw4 := jv_lt (by omega) (by omega) hw
      rw [show enc (jv (m / 10) (a / 4) (b / 4)) = nI u by rw [hu]; rfl, show enc (jv (m % 10) (a % 4) (b % 4)) = nI w by rw [hw]; rfl]
      refine g_ci (r_SN (st := []) (As := [.int (nI u), .int (nI w)]) (d := 0) (host := RX4) (c_X4_pairOf l γ I L P u w) gX1_joinedPair_X4_pairOf_n46 rfl nm_RX1_46 (by decide +kernel) (by decide +kernel) ⟨by decide, by decide, rfl⟩ ⟨Nat.le_of_ble_eq_true rfl, Nat.le_of_ble_eq_true rfl⟩ rfl (Nat.le_of_ble_eq_true rfl) dX1_joinedPair_47 ⟨Nat.zero_le _, Nat.zero_le _⟩) ?_
      rintro rz3 Iz3 Lz3 ⟨ez3, eIz3, eLz3⟩
      rw [ez3, eIz3, eLz3]
      exact g_iret dX1_joinedPair_50 (⟨by simp only [jp, hu, hw, enc]; congr 1; omega, rfl, rfl⟩)
    · skip
      refine g_ic (v := (-1 : Int32)) dX1_joinedPair_40 (by decide) ?_
      refine g_goto (tgt := 50) dX1_joinedPair_41 (by decide) ?_
      exact g_iret dX1_joinedPair_50 (⟨by have e := enc_eq h4 (fun v hv => by have := jv_lt (by omega) (by omega) hv; omega); simp only [jp, hu, e]; rfl, rfl, rfl⟩)

theorem in_X1_defineWord_1 : ∀ w ∈ wsX10, w ∈ wsX1_defineWord := by decide +kernel
set_option maxRecDepth 100000 in
set_option maxHeartbeats 4000000 in
theorem c_X1_defineWord (l : Launch) (γ : Gm) (I : IT) (L : LT) (P : PT) (w c v : Nat) (hw : w < 9) : Cv l yX1_defineWord wsX1_defineWord 0 γ [.ref (γ.2.2 1), .int (nI w), .int (nI c), .int (nI v)] I L P (fun I' L' => I' = va_up (va_up I 14 (upd (I 14) w (nI c))) 15 (upd (I 15) w (nI v)) ∧ L' = L) := by
  refine Cv_of (own := RX1) (cc := cX1_defineWord) (maxL := 4) (by decide) rfl rfl (Nat.le_of_ble_eq_true rfl) ?_
  refine g_sub (lv' := [(0, .ref (γ.2.2 1)), (1, .int (nI w)), (2, .int (nI c)), (3, .int (nI v))]) [0, 1, 2, 3] rfl ?_
  refine g_al_n 0 dX1_defineWord_0 rfl ?_
  refine g_get (v := .ref (γ.2.2 14)) 1 1 (by decide) rfl in_X1_defineWord_1 rfl (by decide) (by decide +kernel) rfl rfl dX1_defineWord_1 ?_
  refine g_il_n 1 dX1_defineWord_4 rfl ?_
  refine g_il_n 2 dX1_defineWord_5 rfl ?_
  refine g_iast 14 w (by decide) (by decide) (show _ < 9 by omega) dX1_defineWord_6 ?_
  refine g_al_n 0 dX1_defineWord_7 rfl ?_
  refine g_get (v := .ref (γ.2.2 15)) 1 2 (by decide) rfl in_X1_defineWord_1 rfl (by decide) (by decide +kernel) rfl rfl dX1_defineWord_8 ?_
  refine g_il_n 1 dX1_defineWord_11 rfl ?_
  refine g_il_n 3 dX1_defineWord_12 rfl ?_
  refine g_iast 15 w (by decide) (by decide) (show _ < 9 by omega) dX1_defineWord_13 ?_
  exact g_vret dX1_defineWord_14 (⟨rfl, rfl⟩)

theorem in_X1_defineRule_1 : ∀ w ∈ wsX10, w ∈ wsX1_defineRule := by decide +kernel
set_option maxRecDepth 100000 in
set_option maxHeartbeats 4000000 in
theorem c_X1_defineRule (l : Launch) (γ : Gm) (I : IT) (L : LT) (P : PT) (q c f t m : Nat) (hq : q < 8) (hm : m < 2 ^ 31) (h1 : m / 10 ≤ 3) (h2 : m % 10 ≤ 3) : Cv l yX1_defineRule wsX1_defineRule 2 γ [.ref (γ.2.2 1), .int (nI q), .int (nI c), .int (nI f), .int (nI t), .int (nI m)] I L P (fun I' L' => (∃ F : Nat → Int32, I' = va_up (va_up (va_up (va_up I 16 (upd (I 16) q (nI c))) 17 (upd (I 17) q (nI f))) 18 (upd (I 18) q (nI t))) (q + 29) F ∧ ∀ k, k < 256 → F k = enc (jp m (k / 16) (k % 16))) ∧ L' = L) := by
  refine Cv_of (own := RX1) (cc := cX1_defineRule) (maxL := 7) (by decide) rfl rfl (Nat.le_of_ble_eq_true rfl) ?_
  refine g_sub (lv' := [(0, .ref (γ.2.2 1)), (1, .int (nI q)), (2, .int (nI c)), (3, .int (nI f)), (4, .int (nI t)), (5, .int (nI m))]) [0, 1, 2, 3, 4, 5] rfl ?_
  refine g_al_n 0 dX1_defineRule_0 rfl ?_
  refine g_get (v := .ref (γ.2.2 16)) 1 4 (by decide) rfl in_X1_defineRule_1 rfl (by decide) (by decide +kernel) rfl rfl dX1_defineRule_1 ?_
  refine g_il_n 1 dX1_defineRule_4 rfl ?_
  refine g_il_n 2 dX1_defineRule_5 rfl ?_
  refine g_iast 16 q (by decide) (by decide) (show _ < 8 by omega) dX1_defineRule_6 ?_
  refine g_al_n 0 dX1_defineRule_7 rfl ?_
  refine g_get (v := .ref (γ.2.2 17)) 1 5 (by decide) rfl in_X1_defineRule_1 rfl (by decide) (by decide +kernel) rfl rfl dX1_defineRule_8 ?_
  refine g_il_n 1 dX1_defineRule_11 rfl ?_
  refine g_il_n 3 dX1_defineRule_12 rfl ?_
  refine g_iast 17 q (by decide) (by decide) (show _ < 8 by omega) dX1_defineRule_13 ?_
  refine g_al_n 0 dX1_defineRule_14 rfl ?_
  refine g_get (v := .ref (γ.2.2 18)) 1 6 (by decide) rfl in_X1_defineRule_1 rfl (by decide) (by decide +kernel) rfl rfl dX1_defineRule_15 ?_
  refine g_il_n 1 dX1_defineRule_18 rfl ?_
  refine g_il 4 dX1_defineRule_19 rfl ?_
  refine g_iast 18 q (by decide) (by decide) (show _ < 8 by omega) dX1_defineRule_21 ?_
  obtain ⟨J, hJ⟩ : ∃ J, J = va_up (va_up (va_up I 16 (upd (I 16) q (nI c))) 17 (upd (I 17) q (nI f))) 18 (upd (I 18) q (nI t)) := ⟨_, rfl⟩
  refine g_eq (I' := J) hJ.symm rfl ?_
  refine g_ic (v := nI 0) dX1_defineRule_22 (by decide) ?_
  refine g_is (lv' := [(6, .int (nI 0)), (0, .ref (γ.2.2 1)), (1, .int (nI q)), (2, .int (nI c)), (3, .int (nI f)), (4, .int (nI t)), (5, .int (nI m))]) dX1_defineRule_23 (by decide) rfl ?_
  have lp : ∀ (n : Nat) (k : Nat) (F : Nat → Int32) (hk : k + n = 256) (hF : ∀ j, j < k → F j = enc (jp m (j / 16) (j % 16))), G E0 l cX1_defineRule 7 wsX1_defineRule RX1 none (rmd 2) γ P (AE γ) (Qv γ P (fun I' L' => (∃ F : Nat → Int32, I' = va_up (va_up (va_up (va_up I 16 (upd (I 16) q (nI c))) 17 (upd (I 17) q (nI f))) 18 (upd (I 18) q (nI t))) (q + 29) F ∧ ∀ k, k < 256 → F k = enc (jp m (k / 16) (k % 16))) ∧ L' = L)) 0 0 25 [(0, .ref (γ.2.2 1)), (1, .int (nI q)), (5, .int (nI m)), (6, .int (nI k))] [] (va_up J (q + 29) F) L := by
    intro n
    induction n with
    | zero =>
      intro k F hk hF
      simp only [Nat.add_zero] at hk
      refine g_il 3 dX1_defineRule_25 rfl ?_
      refine g_si (v := nI 256) dX1_defineRule_27 (by decide) ?_
      refine gn_ge (tgt := 63) dX1_defineRule_30 (by decide) (by omega) (by omega) (fun h3 => ?_) (fun h3 => ?_)
      · skip
        exact g_vret dX1_defineRule_63 (⟨⟨F, by rw [← hJ], fun j hj => hF j (by omega)⟩, rfl⟩)
      · skip
        exfalso; omega
    | succ n ih =>
      intro k F hk hF
      refine g_il 3 dX1_defineRule_25 rfl ?_
      refine g_si (v := nI 256) dX1_defineRule_27 (by decide) ?_
      refine gn_ge (tgt := 63) dX1_defineRule_30 (by decide) (by omega) (by omega) (fun h3 => ?_) (fun h3 => ?_)
      · skip
        exfalso; omega
      · skip
        refine g_al_n 0 dX1_defineRule_33 rfl ?_
        refine g_get (v := .ref (γ.2.2 5)) 1 7 (by decide) rfl in_X1_defineRule_1 rfl (by decide) (by decide +kernel) rfl rfl dX1_defineRule_34 ?_
        refine g_il_n 1 dX1_defineRule_37 rfl ?_
        refine g_aald (q := γ.2.2 (q + 29)) 5 q (by decide) rfl (by decide) (show _ < 8 by omega) (if_pos (show _ < 8 by omega)) dX1_defineRule_38 ?_
        refine g_il 3 dX1_defineRule_39 rfl ?_
        refine g_il 2 dX1_defineRule_41 rfl ?_
        refine g_il 3 dX1_defineRule_43 rfl ?_
        refine g_bi (v := nI 16) dX1_defineRule_45 (by decide) ?_
        refine g_idiv (v := nI (k / 16)) dX1_defineRule_47 (by decide) (pk_div (by omega) (by omega) (by omega)) ?_
        refine g_il 3 dX1_defineRule_48 rfl ?_
        refine g_bi (v := nI 16) dX1_defineRule_50 (by decide) ?_
        refine g_irem (v := nI (k % 16)) dX1_defineRule_52 (by decide) (pk_rem (by omega) (by omega) (by omega)) ?_
        refine g_ci (r_S (st := [.int (nI k), .ref (γ.2.2 (q + 29))]) (As := [.int (nI m), .int (nI (k / 16)), .int (nI (k % 16))]) (d := 1) (c_X1_joinedPair l γ (va_up J (q + 29) F) L P m (k / 16) (k % 16) hm h1 h2 (by omega) (by omega)) gX1_defineRule_X1_joinedPair rfl ⟨by decide, by decide, rfl⟩ ⟨Nat.le_of_ble_eq_true rfl, Nat.le_of_ble_eq_true rfl⟩ rfl (Nat.le_of_ble_eq_true rfl) dX1_defineRule_53 ⟨Nat.zero_le _, Nat.zero_le _⟩) ?_
        rintro rz1 Iz1 Lz1 ⟨ez1, eIz1, eLz1⟩
        rw [ez1, eIz1, eLz1]
        refine g_iast (q + 29) k (by omega) (by omega) (by rw [ln_29 hq]; omega) dX1_defineRule_56 ?_
        refine g_eq (I' := va_up J (q + 29) (upd F k (enc (jp m (k / 16) (k % 16))))) (va_uw _ _ _ _ _) rfl ?_
        refine g_inc (v := nI (k + 1)) (lv' := [(6, .int (nI (k + 1))), (0, .ref (γ.2.2 1)), (1, .int (nI q)), (5, .int (nI m))]) 3 dX1_defineRule_57 rfl (inc_1 _) (by decide) rfl ?_
        refine g_goto (tgt := 25) dX1_defineRule_60 (by decide) ?_
        refine g_sub [1, 2, 3, 0] rfl ?_
        exact ih (k + 1) (upd F k (enc (jp m (k / 16) (k % 16)))) (by omega) (fun j hj => by
          by_cases e : j = k
          · subst e; exact upd_s _ _ _
          · rw [upd_n _ _ e]; exact hF j (by omega))
  refine g_sub [1, 2, 6, 0] rfl ?_
  refine g_eq (I' := va_up J (q + 29) (J (q + 29))) (va_id _ _).symm rfl ?_
  exact lp 256 0 _ rfl (fun j hj => by omega)
