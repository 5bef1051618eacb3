/-! the model: small methods -/
theorem in_X5_thrown_5 : ∀ w ∈ wsX50, w ∈ wsX5_thrown := by decide +kernel
set_option maxRecDepth 100000 in
set_option maxHeartbeats 4000000 in
theorem c_X5_thrown (l : Launch) (γ : Gm) (I : IT) (L : LT) (P : PT)  : Ci l yX5_thrown wsX5_thrown 0 γ [.ref (γ.2.2 8)] I L P (fun r I' L' => r = I 8 4 ∧ I' = I ∧ L' = L) := by
  refine Ci_of (own := RX5) (cc := cX5_thrown) (maxL := 1) (by decide) rfl rfl (Nat.le_of_ble_eq_true rfl) ?_
  refine g_sub (lv' := [(0, .ref (γ.2.2 8))]) [0] rfl ?_
  refine g_al_n 0 dX5_thrown_0 rfl ?_
  refine g_get (v := .int (I 8 4)) 8 14 (by decide) rfl in_X5_thrown_5 rfl (by decide) (by decide +kernel) rfl rfl dX5_thrown_1 ?_
  exact g_iret dX5_thrown_4 (⟨rfl, rfl, rfl⟩)

theorem in_X5_goes_5 : ∀ w ∈ wsX50, w ∈ wsX5_goes := by decide +kernel
set_option maxRecDepth 100000 in
set_option maxHeartbeats 4000000 in
theorem c_X5_goes (l : Launch) (γ : Gm) (I : IT) (L : LT) (P : PT) (a b : Bool) : Ci l yX5_goes wsX5_goes 0 γ [.ref (γ.2.2 8), .int (bi a), .int (bi b)] I L P (fun r I' L' => r = bi (a && b) ∧ I' 8 4 = nI (cd2 a b) ∧ (∀ j, j ≠ 4 → I' 8 j = I 8 j) ∧ (∀ k, k ≠ 8 → I' k = I k) ∧ L' = L) := by
  refine Ci_of (own := RX5) (cc := cX5_goes) (maxL := 3) (by decide) rfl rfl (Nat.le_of_ble_eq_true rfl) ?_
  refine g_sub (lv' := [(0, .ref (γ.2.2 8)), (1, .int (bi a)), (2, .int (bi b))]) [0, 1, 2] rfl ?_
  refine g_al_n 0 dX5_goes_0 rfl ?_
  refine g_il_n 1 dX5_goes_1 rfl ?_
  refine gb_ne (tgt := 9) dX5_goes_2 (by decide) (fun h1 => ?_) (fun h1 => ?_)
  · skip
    subst h1
    refine g_il_n 2 dX5_goes_9 rfl ?_
    refine gb_ne (tgt := 17) dX5_goes_10 (by decide) (fun h2 => ?_) (fun h2 => ?_)
    · skip
      subst h2
      refine g_ic (v := nI 0) dX5_goes_17 (by decide) ?_
      refine g_put tyX5 8 14 (upd (I 8) 4 (nI 0)) (by decide) rfl in_X5_goes_5 tyX5_ok nmX5 rfl (by decide) (by decide +kernel) rfl rfl rfl rfl rfl (Nat.le_of_ble_eq_true rfl) dX5_goes_18 rfl ?_
      refine g_al_n 0 dX5_goes_21 rfl ?_
      refine g_get 8 14 (by decide) rfl in_X5_goes_5 rfl (by decide) (by decide +kernel) rfl rfl dX5_goes_22 ?_
      refine g_top (v := nI 0) (by rw [va_us, upd_s]) ?_
      refine gz_ne (tgt := 32) dX5_goes_25 (by decide) (by omega) (fun h3 => ?_) (fun h3 => ?_)
      · skip
        exact absurd h3 (by decide)
      · skip
        refine g_ic (v := nI 1) dX5_goes_28 (by decide) ?_
        refine g_goto (tgt := 33) dX5_goes_29 (by decide) ?_
        refine g_top (v := bi (true && true)) (rfl) ?_
        exact g_zret (bi_nar _) dX5_goes_33 (⟨rfl, by rw [va_us, upd_s]; rfl, fun j hj => by rw [va_us, upd_n _ _ hj], fun k hk => va_up_ne _ _ hk, rfl⟩)
    · skip
      subst h2
      refine g_ic (v := nI 2) dX5_goes_13 (by decide) ?_
      refine g_goto (tgt := 18) dX5_goes_14 (by decide) ?_
      refine g_put tyX5 8 14 (upd (I 8) 4 (nI 2)) (by decide) rfl in_X5_goes_5 tyX5_ok nmX5 rfl (by decide) (by decide +kernel) rfl rfl rfl rfl rfl (Nat.le_of_ble_eq_true rfl) dX5_goes_18 rfl ?_
      refine g_al_n 0 dX5_goes_21 rfl ?_
      refine g_get 8 14 (by decide) rfl in_X5_goes_5 rfl (by decide) (by decide +kernel) rfl rfl dX5_goes_22 ?_
      refine g_top (v := nI 2) (by rw [va_us, upd_s]) ?_
      refine gz_ne (tgt := 32) dX5_goes_25 (by decide) (by omega) (fun h3 => ?_) (fun h3 => ?_)
      · skip
        refine g_ic (v := nI 0) dX5_goes_32 (by decide) ?_
        refine g_top (v := bi (true && false)) (rfl) ?_
        exact g_zret (bi_nar _) dX5_goes_33 (⟨rfl, by rw [va_us, upd_s]; rfl, fun j hj => by rw [va_us, upd_n _ _ hj], fun k hk => va_up_ne _ _ hk, rfl⟩)
      · skip
        exact absurd h3 (by decide)
  · skip
    subst h1
    refine g_ic (v := nI 1) dX5_goes_5 (by decide) ?_
    refine g_goto (tgt := 18) dX5_goes_6 (by decide) ?_
    refine g_put tyX5 8 14 (upd (I 8) 4 (nI 1)) (by decide) rfl in_X5_goes_5 tyX5_ok nmX5 rfl (by decide) (by decide +kernel) rfl rfl rfl rfl rfl (Nat.le_of_ble_eq_true rfl) dX5_goes_18 rfl ?_
    refine g_al_n 0 dX5_goes_21 rfl ?_
    refine g_get 8 14 (by decide) rfl in_X5_goes_5 rfl (by decide) (by decide +kernel) rfl rfl dX5_goes_22 ?_
    refine g_top (v := nI 1) (by rw [va_us, upd_s]) ?_
    refine gz_ne (tgt := 32) dX5_goes_25 (by decide) (by omega) (fun h3 => ?_) (fun h3 => ?_)
    · skip
      refine g_ic (v := nI 0) dX5_goes_32 (by decide) ?_
      refine g_top (v := bi (false && b)) (rfl) ?_
      exact g_zret (bi_nar _) dX5_goes_33 (⟨rfl, by rw [va_us, upd_s]; rfl, fun j hj => by rw [va_us, upd_n _ _ hj], fun k hk => va_up_ne _ _ hk, rfl⟩)
    · skip
      exact absurd h3 (by decide)

set_option maxRecDepth 100000 in
set_option maxHeartbeats 4000000 in
theorem c_X5_isWithin (l : Launch) (γ : Gm) (I : IT) (L : LT) (P : PT) (x : Int32) (h : Nat) (hh : h + 1 < 2 ^ 31) : Ci l yX5_isWithin wsX5_isWithin 0 γ [.int x, .int (nI 0), .int (nI h)] I L P (fun r I' L' => r = bi (inB x (h + 1)) ∧ I' = I ∧ L' = L) := by
  refine Ci_of (own := RX5) (cc := cX5_isWithin) (maxL := 3) (by decide) rfl rfl (Nat.le_of_ble_eq_true rfl) ?_
  refine g_sub (lv' := [(0, .int x), (1, .int (nI 0)), (2, .int (nI h))]) [0, 1, 2] rfl ?_
  refine g_il_n 0 dX5_isWithin_0 rfl ?_
  refine g_il_n 1 dX5_isWithin_1 rfl ?_
  refine g_ic_lt (tgt := 14) dX5_isWithin_2 (by decide) (fun h1 => ?_) (fun h1 => ?_)
  · skip
    refine g_ic (v := nI 0) dX5_isWithin_14 (by decide) ?_
    refine g_top (v := bi (inB x (h + 1))) (bi_0 (by rw [inB, pB_no (IN_neg hh (by rw [← nI_0]; exact h1))])) ?_
    exact g_zret (bi_nar _) dX5_isWithin_15 (⟨rfl, rfl, rfl⟩)
  · skip
    refine g_il_n 0 dX5_isWithin_5 rfl ?_
    refine g_il_n 2 dX5_isWithin_6 rfl ?_
    refine g_ic_gt (tgt := 14) dX5_isWithin_7 (by decide) (fun h2 => ?_) (fun h2 => ?_)
    · skip
      refine g_ic (v := nI 0) dX5_isWithin_14 (by decide) ?_
      refine g_top (v := bi (inB x (h + 1))) (bi_0 (by rw [inB, pB_no (fun q => by obtain ⟨j, hj, e⟩ := q; rw [e] at h2; exact absurd ((nI_ltI (by omega) (by omega)).mp h2) (by omega))])) ?_
      exact g_zret (bi_nar _) dX5_isWithin_15 (⟨rfl, rfl, rfl⟩)
    · skip
      refine g_ic (v := nI 1) dX5_isWithin_10 (by decide) ?_
      refine g_goto (tgt := 15) dX5_isWithin_11 (by decide) ?_
      refine g_top (v := bi (inB x (h + 1))) (bi_1 (by rw [inB, pB_of]; obtain ⟨j, hj, e⟩ := nI_of (show ¬ x < 0 by rw [← nI_0]; exact h1); exact ⟨j, by rw [e] at h2; have := Nat.not_lt.mp (fun q => h2 ((nI_ltI (by omega) hj).mpr q)); omega, e⟩)) ?_
      exact g_zret (bi_nar _) dX5_isWithin_15 (⟨rfl, rfl, rfl⟩)

theorem in_X5_isWord_5 : ∀ w ∈ wsX50, w ∈ wsX5_isWord := by decide +kernel
set_option maxRecDepth 100000 in
set_option maxHeartbeats 4000000 in
theorem c_X5_isWord (l : Launch) (γ : Gm) (I : IT) (L : LT) (P : PT) (x : Int32) (n : Nat) (hn : I 8 0 = nI n) (hn2 : n < 2 ^ 31) : Ci l yX5_isWord wsX5_isWord 0 γ [.ref (γ.2.2 8), .int x] I L P (fun r I' L' => r = bi (inB x n) ∧ I' = I ∧ L' = L) := by
  refine Ci_of (own := RX5) (cc := cX5_isWord) (maxL := 2) (by decide) rfl rfl (Nat.le_of_ble_eq_true rfl) ?_
  refine g_sub (lv' := [(0, .ref (γ.2.2 8)), (1, .int x)]) [0, 1] rfl ?_
  refine g_il_n 1 dX5_isWord_0 rfl ?_
  refine g_if_lt (tgt := 16) dX5_isWord_1 (by decide) (fun h1 => ?_) (fun h1 => ?_)
  · skip
    refine g_ic (v := nI 0) dX5_isWord_16 (by decide) ?_
    refine g_top (v := bi (inB x n)) (bi_0 (by rw [inB, pB_no (IN_neg hn2 h1)])) ?_
    exact g_zret (bi_nar _) dX5_isWord_17 (⟨rfl, rfl, rfl⟩)
  · skip
    refine g_il_n 1 dX5_isWord_4 rfl ?_
    refine g_al_n 0 dX5_isWord_5 rfl ?_
    refine g_get 8 2 (by decide) rfl in_X5_isWord_5 rfl (by decide) (by decide +kernel) rfl rfl dX5_isWord_6 ?_
    refine g_top (v := nI n) (hn) ?_
    refine g_ic_ge (tgt := 16) dX5_isWord_9 (by decide) (fun h2 => ?_) (fun h2 => ?_)
    · skip
      refine g_ic (v := nI 0) dX5_isWord_16 (by decide) ?_
      refine g_top (v := bi (inB x n)) (bi_0 (by rw [inB, pB_no (IN_ge hn2 (Int32.not_lt.mpr h2))])) ?_
      exact g_zret (bi_nar _) dX5_isWord_17 (⟨rfl, rfl, rfl⟩)
    · skip
      refine g_ic (v := nI 1) dX5_isWord_12 (by decide) ?_
      refine g_goto (tgt := 17) dX5_isWord_13 (by decide) ?_
      refine g_top (v := bi (inB x n)) (bi_1 (by rw [inB, pB_of (IN_of hn2 h1 (Int32.not_le.mp h2))])) ?_
      exact g_zret (bi_nar _) dX5_isWord_17 (⟨rfl, rfl, rfl⟩)

theorem in_X5_isPlace_5 : ∀ w ∈ wsX50, w ∈ wsX5_isPlace := by decide +kernel
set_option maxRecDepth 100000 in
set_option maxHeartbeats 4000000 in
theorem c_X5_isPlace (l : Launch) (γ : Gm) (I : IT) (L : LT) (P : PT) (x : Int32) (n : Nat) (hn : I 8 2 = nI n) (hn2 : n < 2 ^ 31) : Ci l yX5_isPlace wsX5_isPlace 0 γ [.ref (γ.2.2 8), .int x] I L P (fun r I' L' => r = bi (inB x n) ∧ I' = I ∧ L' = L) := by
  refine Ci_of (own := RX5) (cc := cX5_isPlace) (maxL := 2) (by decide) rfl rfl (Nat.le_of_ble_eq_true rfl) ?_
  refine g_sub (lv' := [(0, .ref (γ.2.2 8)), (1, .int x)]) [0, 1] rfl ?_
  refine g_il_n 1 dX5_isPlace_0 rfl ?_
  refine g_if_lt (tgt := 16) dX5_isPlace_1 (by decide) (fun h1 => ?_) (fun h1 => ?_)
  · skip
    refine g_ic (v := nI 0) dX5_isPlace_16 (by decide) ?_
    refine g_top (v := bi (inB x n)) (bi_0 (by rw [inB, pB_no (IN_neg hn2 h1)])) ?_
    exact g_zret (bi_nar _) dX5_isPlace_17 (⟨rfl, rfl, rfl⟩)
  · skip
    refine g_il_n 1 dX5_isPlace_4 rfl ?_
    refine g_al_n 0 dX5_isPlace_5 rfl ?_
    refine g_get 8 9 (by decide) rfl in_X5_isPlace_5 rfl (by decide) (by decide +kernel) rfl rfl dX5_isPlace_6 ?_
    refine g_top (v := nI n) (hn) ?_
    refine g_ic_ge (tgt := 16) dX5_isPlace_9 (by decide) (fun h2 => ?_) (fun h2 => ?_)
    · skip
      refine g_ic (v := nI 0) dX5_isPlace_16 (by decide) ?_
      refine g_top (v := bi (inB x n)) (bi_0 (by rw [inB, pB_no (IN_ge hn2 (Int32.not_lt.mpr h2))])) ?_
      exact g_zret (bi_nar _) dX5_isPlace_17 (⟨rfl, rfl, rfl⟩)
    · skip
      refine g_ic (v := nI 1) dX5_isPlace_12 (by decide) ?_
      refine g_goto (tgt := 17) dX5_isPlace_13 (by decide) ?_
      refine g_top (v := bi (inB x n)) (bi_1 (by rw [inB, pB_of (IN_of hn2 h1 (Int32.not_le.mp h2))])) ?_
      exact g_zret (bi_nar _) dX5_isPlace_17 (⟨rfl, rfl, rfl⟩)

set_option maxRecDepth 100000 in
set_option maxHeartbeats 4000000 in
theorem c_X5_isPair (l : Launch) (γ : Gm) (I : IT) (L : LT) (P : PT) (x : Int32) : Ci l yX5_isPair wsX5_isPair 0 γ [.int x] I L P (fun r I' L' => r = bi (pB (∃ m, DP x m)) ∧ I' = I ∧ L' = L) := by
  refine Ci_of (own := RX5) (cc := cX5_isPair) (maxL := 1) (by decide) rfl rfl (Nat.le_of_ble_eq_true rfl) ?_
  refine g_sub (lv' := [(0, .int x)]) [0] rfl ?_
  refine g_il_n 0 dX5_isPair_0 rfl ?_
  refine g_if_lt (tgt := 24) dX5_isPair_1 (by decide) (fun h1 => ?_) (fun h1 => ?_)
  · skip
    refine g_ic (v := nI 0) dX5_isPair_24 (by decide) ?_
    refine g_top (v := bi (pB (∃ m, DP x m))) (bi_0 (by rw [pB_no (DP_neg h1)])) ?_
    exact g_zret (bi_nar _) dX5_isPair_25 (⟨rfl, rfl, rfl⟩)
  · skip
    obtain ⟨m, hm, rfl⟩ := nI_of h1
    refine g_il_n 0 dX5_isPair_4 rfl ?_
    refine g_bi (v := nI 10) dX5_isPair_5 (by decide) ?_
    refine g_idiv (v := nI (m / 10)) dX5_isPair_7 (by decide) (pk_div (by omega) (by omega) (by omega)) ?_
    refine g_ic (v := nI 3) dX5_isPair_8 (by decide) ?_
    refine gn_gt (tgt := 24) dX5_isPair_9 (by decide) (by omega) (by omega) (fun h2 => ?_) (fun h2 => ?_)
    · skip
      refine g_ic (v := nI 0) dX5_isPair_24 (by decide) ?_
      refine g_top (v := bi (pB (∃ m', DP (nI m) m'))) (bi_0 (by rw [pB_no (fun q => by have := (DP_of hm).mp q; omega)])) ?_
      exact g_zret (bi_nar _) dX5_isPair_25 (⟨rfl, rfl, rfl⟩)
    · skip
      refine g_il_n 0 dX5_isPair_12 rfl ?_
      refine g_bi (v := nI 10) dX5_isPair_13 (by decide) ?_
      refine g_irem (v := nI (m % 10)) dX5_isPair_15 (by decide) (pk_rem (by omega) (by omega) (by omega)) ?_
      refine g_ic (v := nI 3) dX5_isPair_16 (by decide) ?_
      refine gn_gt (tgt := 24) dX5_isPair_17 (by decide) (by omega) (by omega) (fun h3 => ?_) (fun h3 => ?_)
      · skip
        refine g_ic (v := nI 0) dX5_isPair_24 (by decide) ?_
        refine g_top (v := bi (pB (∃ m', DP (nI m) m'))) (bi_0 (by rw [pB_no (fun q => by have := (DP_of hm).mp q; omega)])) ?_
        exact g_zret (bi_nar _) dX5_isPair_25 (⟨rfl, rfl, rfl⟩)
      · skip
        refine g_ic (v := nI 1) dX5_isPair_20 (by decide) ?_
        refine g_goto (tgt := 25) dX5_isPair_21 (by decide) ?_
        refine g_top (v := bi (pB (∃ m', DP (nI m) m'))) (bi_1 (by rw [pB_of ((DP_of hm).mpr ⟨by omega, by omega⟩)])) ?_
        exact g_zret (bi_nar _) dX5_isPair_25 (⟨rfl, rfl, rfl⟩)

set_option maxRecDepth 100000 in
set_option maxHeartbeats 4000000 in
theorem c_X5_areValues (l : Launch) (γ : Gm) (I : IT) (L : LT) (P : PT) (x y z : Int32) : Ci l yX5_areValues wsX5_areValues 1 γ [.int x, .int y, .int z] I L P (fun r I' L' => r = bi (inB x 8 && inB y 4 && inB z 4) ∧ I' = I ∧ L' = L) := by
  refine Ci_of (own := RX5) (cc := cX5_areValues) (maxL := 3) (by decide) rfl rfl (Nat.le_of_ble_eq_true rfl) ?_
  refine g_sub (lv' := [(0, .int x), (1, .int y), (2, .int z)]) [0, 1, 2] rfl ?_
  refine g_il_n 0 dX5_areValues_0 rfl ?_
  refine g_ic (v := nI 0) dX5_areValues_1 (by decide) ?_
  refine g_bi (v := nI 7) dX5_areValues_2 (by decide) ?_
  refine g_ci (r_S (st := []) (As := [.int x, .int (nI 0), .int (nI 7)]) (d := 0) (c_X5_isWithin l γ (I) L P x 7 (by decide)) gX5_areValues_X5_isWithin rfl ⟨by decide, by decide, rfl⟩ ⟨Nat.le_of_ble_eq_true rfl, Nat.le_of_ble_eq_true rfl⟩ rfl (Nat.le_of_ble_eq_true rfl) dX5_areValues_4 ⟨Nat.zero_le _, Nat.zero_le _⟩) ?_
  rintro rz1 Iz1 Lz1 ⟨ez1, eIz1, eLz1⟩
  rw [ez1, eIz1, eLz1]
  refine gb_eq (tgt := 32) dX5_areValues_7 (by decide) (fun h1 => ?_) (fun h1 => ?_)
  · skip
    refine g_ic (v := nI 0) dX5_areValues_32 (by decide) ?_
    refine g_top (v := bi (inB x 8 && inB y 4 && inB z 4)) (bi_0 (by revert h1; cases inB x 8 <;> cases inB y 4 <;> cases inB z 4 <;> decide)) ?_
    exact g_zret (bi_nar _) dX5_areValues_33 (⟨rfl, rfl, rfl⟩)
  · skip
    refine g_il_n 1 dX5_areValues_10 rfl ?_
    refine g_ic (v := nI 0) dX5_areValues_11 (by decide) ?_
    refine g_ic (v := nI 3) dX5_areValues_12 (by decide) ?_
    refine g_ci (r_S (st := []) (As := [.int y, .int (nI 0), .int (nI 3)]) (d := 0) (c_X5_isWithin l γ (I) L P y 3 (by decide)) gX5_areValues_X5_isWithin rfl ⟨by decide, by decide, rfl⟩ ⟨Nat.le_of_ble_eq_true rfl, Nat.le_of_ble_eq_true rfl⟩ rfl (Nat.le_of_ble_eq_true rfl) dX5_areValues_13 ⟨Nat.zero_le _, Nat.zero_le _⟩) ?_
    rintro rz2 Iz2 Lz2 ⟨ez2, eIz2, eLz2⟩
    rw [ez2, eIz2, eLz2]
    refine gb_eq (tgt := 32) dX5_areValues_16 (by decide) (fun h2 => ?_) (fun h2 => ?_)
    · skip
      refine g_ic (v := nI 0) dX5_areValues_32 (by decide) ?_
      refine g_top (v := bi (inB x 8 && inB y 4 && inB z 4)) (bi_0 (by revert h2; cases inB x 8 <;> cases inB y 4 <;> cases inB z 4 <;> decide)) ?_
      exact g_zret (bi_nar _) dX5_areValues_33 (⟨rfl, rfl, rfl⟩)
    · skip
      refine g_il_n 2 dX5_areValues_19 rfl ?_
      refine g_ic (v := nI 0) dX5_areValues_20 (by decide) ?_
      refine g_ic (v := nI 3) dX5_areValues_21 (by decide) ?_
      refine g_ci (r_S (st := []) (As := [.int z, .int (nI 0), .int (nI 3)]) (d := 0) (c_X5_isWithin l γ (I) L P z 3 (by decide)) gX5_areValues_X5_isWithin rfl ⟨by decide, by decide, rfl⟩ ⟨Nat.le_of_ble_eq_true rfl, Nat.le_of_ble_eq_true rfl⟩ rfl (Nat.le_of_ble_eq_true rfl) dX5_areValues_22 ⟨Nat.zero_le _, Nat.zero_le _⟩) ?_
      rintro rz3 Iz3 Lz3 ⟨ez3, eIz3, eLz3⟩
      rw [ez3, eIz3, eLz3]
      refine gb_eq (tgt := 32) dX5_areValues_25 (by decide) (fun h3 => ?_) (fun h3 => ?_)
      · skip
        refine g_ic (v := nI 0) dX5_areValues_32 (by decide) ?_
        refine g_top (v := bi (inB x 8 && inB y 4 && inB z 4)) (bi_0 (by revert h3; cases inB x 8 <;> cases inB y 4 <;> cases inB z 4 <;> decide)) ?_
        exact g_zret (bi_nar _) dX5_areValues_33 (⟨rfl, rfl, rfl⟩)
      · skip
        refine g_ic (v := nI 1) dX5_areValues_28 (by decide) ?_
        refine g_goto (tgt := 33) dX5_areValues_29 (by decide) ?_
        refine g_top (v := bi (inB x 8 && inB y 4 && inB z 4)) (bi_1 (by revert h1 h2 h3; cases inB x 8 <;> cases inB y 4 <;> cases inB z 4 <;> decide)) ?_
        exact g_zret (bi_nar _) dX5_areValues_33 (⟨rfl, rfl, rfl⟩)

set_option maxRecDepth 100000 in
set_option maxHeartbeats 4000000 in
theorem c_X5_makes (l : Launch) (γ : Gm) (I : IT) (L : LT) (P : PT) (m a b : Nat) (hm : m ≤ 3) (ha : a < 4) (hb : b < 4) : Ci l yX5_makes wsX5_makes 0 γ [.int (nI m), .int (nI a), .int (nI b)] I L P (fun r I' L' => r = enc (jv m a b) ∧ I' = I ∧ L' = L) := by
  refine Ci_of (own := RX5) (cc := cX5_makes) (maxL := 3) (by decide) rfl rfl (Nat.le_of_ble_eq_true rfl) ?_
  refine g_sub (lv' := [(0, .int (nI m)), (1, .int (nI a)), (2, .int (nI b))]) [0, 1, 2] rfl ?_
  refine g_il_n 0 dX5_makes_0 rfl ?_
  refine gz_ne (tgt := 6) dX5_makes_1 (by decide) (by omega) (fun h0 => ?_) (fun h0 => ?_)
  · skip
    refine g_il_n 0 dX5_makes_6 rfl ?_
    refine g_ic (v := nI 1) dX5_makes_7 (by decide) ?_
    refine gn_ne (tgt := 13) dX5_makes_8 (by decide) (by omega) (by omega) (fun h1 => ?_) (fun h1 => ?_)
    · skip
      refine g_il_n 0 dX5_makes_13 rfl ?_
      refine g_ic (v := nI 3) dX5_makes_14 (by decide) ?_
      refine gn_ne (tgt := 20) dX5_makes_15 (by decide) (by omega) (by omega) (fun h3 => ?_) (fun h3 => ?_)
      · skip
        refine g_il_n 1 dX5_makes_20 rfl ?_
        refine g_il_n 2 dX5_makes_21 rfl ?_
        refine gn_eq (tgt := 29) dX5_makes_22 (by decide) (by omega) (by omega) (fun h4 => ?_) (fun h4 => ?_)
        · skip
          refine g_il_n 1 dX5_makes_29 rfl ?_
          refine g_goto (tgt := 42) dX5_makes_30 (by decide) ?_
          exact g_iret dX5_makes_42 (⟨by rw [show jv m a b = some a by simp [jv, h0, h1, h3, h4]]; rfl, rfl, rfl⟩)
        · skip
          refine g_il_n 2 dX5_makes_25 rfl ?_
          refine gz_ne (tgt := 33) dX5_makes_26 (by decide) (by omega) (fun h5 => ?_) (fun h5 => ?_)
          · skip
            refine g_il_n 1 dX5_makes_33 rfl ?_
            refine gz_ne (tgt := 41) dX5_makes_34 (by decide) (by omega) (fun h6 => ?_) (fun h6 => ?_)
            · skip
              refine g_ic (v := (-1 : Int32)) dX5_makes_41 (by decide) ?_
              exact g_iret dX5_makes_42 (⟨by rw [show jv m a b = none by simp [jv, h0, h1, h3, h4, h5, h6]]; rfl, rfl, rfl⟩)
            · skip
              refine g_il_n 2 dX5_makes_37 rfl ?_
              refine g_goto (tgt := 42) dX5_makes_38 (by decide) ?_
              exact g_iret dX5_makes_42 (⟨by rw [show jv m a b = some b by simp [jv, h0, h1, h3, h4, h5, h6]]; rfl, rfl, rfl⟩)
          · skip
            refine g_il_n 1 dX5_makes_29 rfl ?_
            refine g_goto (tgt := 42) dX5_makes_30 (by decide) ?_
            exact g_iret dX5_makes_42 (⟨by rw [show jv m a b = some a by simp [jv, h0, h1, h3, h5]]; rfl, rfl, rfl⟩)
      · skip
        refine g_ic (v := nI 0) dX5_makes_18 (by decide) ?_
        exact g_iret dX5_makes_19 (⟨by rw [show jv m a b = some 0 by simp [jv, h3]]; rfl, rfl, rfl⟩)
    · skip
      refine g_il_n 2 dX5_makes_11 rfl ?_
      exact g_iret dX5_makes_12 (⟨by rw [show jv m a b = some b by simp [jv, h1]]; rfl, rfl, rfl⟩)
  · skip
    refine g_il_n 1 dX5_makes_4 rfl ?_
    exact g_iret dX5_makes_5 (⟨by rw [show jv m a b = some a by simp [jv, h0]]; rfl, rfl, rfl⟩)

theorem in_X5_makesBoth_5 : ∀ w ∈ wsX50, w ∈ wsX5_makesBoth := by decide +kernel
set_option maxRecDepth 100000 in
set_option maxHeartbeats 4000000 in
theorem c_X5_makesBoth (l : Launch) (γ : Gm) (I : IT) (L : LT) (P : PT) (g : GR) (n r q a b : Nat) (hM : MG I g n r) (hq : q < r) (ha : a < 16) (hb : b < 16) : Ci l yX5_makesBoth wsX5_makesBoth 1 γ [.ref (γ.2.2 8), .int (nI q), .int (nI a), .int (nI b)] I L P (fun r9 I' L' => r9 = enc (jp (g 5 q) a b) ∧ I' = I ∧ L' = L) := by
  refine Ci_of (own := RX5) (cc := cX5_makesBoth) (maxL := 6) (by decide) rfl rfl (Nat.le_of_ble_eq_true rfl) ?_
  refine g_sub (lv' := [(0, .ref (γ.2.2 8)), (1, .int (nI q)), (2, .int (nI a)), (3, .int (nI b))]) [0, 1, 2, 3] rfl ?_
  have hr8 := hM.r_le
  have m1 := hM.md_a hq
  have m2 := hM.md_b hq
  refine g_al_n 0 dX5_makesBoth_0 rfl ?_
  refine g_get (v := .ref (γ.2.2 25)) 8 6 (by decide) rfl in_X5_makesBoth_5 rfl (by decide) (by decide +kernel) rfl rfl dX5_makesBoth_1 ?_
  refine g_il_n 1 dX5_makesBoth_4 rfl ?_
  refine g_iald (v := nI (g 5 q)) 25 q (by decide) (by decide) (show _ < 8 by omega) (hM.md hq) dX5_makesBoth_5 ?_
  refine g_bi (v := nI 10) dX5_makesBoth_6 (by decide) ?_
  refine g_idiv (v := nI ((g 5 q) / 10)) dX5_makesBoth_8 (by decide) (pk_div (by omega) (by omega) (by omega)) ?_
  refine g_il_n 2 dX5_makesBoth_9 rfl ?_
  refine g_ic (v := nI 4) dX5_makesBoth_10 (by decide) ?_
  refine g_idiv (v := nI (a / 4)) dX5_makesBoth_11 (by decide) (pk_div (by omega) (by omega) (by omega)) ?_
  refine g_il_n 3 dX5_makesBoth_12 rfl ?_
  refine g_ic (v := nI 4) dX5_makesBoth_13 (by decide) ?_
  refine g_idiv (v := nI (b / 4)) dX5_makesBoth_14 (by decide) (pk_div (by omega) (by omega) (by omega)) ?_
  refine g_ci (r_S (st := []) (As := [.int (nI ((g 5 q) / 10)), .int (nI (a / 4)), .int (nI (b / 4))]) (d := 0) (c_X5_makes l γ I L P (g 5 q / 10) (a / 4) (b / 4) m1 (by omega) (by omega)) gX5_makesBoth_X5_makes rfl ⟨by decide, by decide, rfl⟩ ⟨Nat.le_of_ble_eq_true rfl, Nat.le_of_ble_eq_true rfl⟩ rfl (Nat.le_of_ble_eq_true rfl) dX5_makesBoth_15 ⟨Nat.zero_le _, Nat.zero_le _⟩) ?_
  rintro rz1 Iz1 Lz1 ⟨ez1, eIz1, eLz1⟩
  rw [ez1, eIz1, eLz1]
  refine g_is (lv' := [(4, .int (enc (jv (g 5 q / 10) (a / 4) (b / 4)))), (0, .ref (γ.2.2 8)), (1, .int (nI q)), (2, .int (nI a)), (3, .int (nI b))]) dX5_makesBoth_18 (by decide) rfl ?_
  refine g_al_n 1 dX5_makesBoth_20 rfl ?_
  refine g_get (v := .ref (γ.2.2 25)) 8 6 (by decide) rfl in_X5_makesBoth_5 rfl (by decide) (by decide +kernel) rfl rfl dX5_makesBoth_21 ?_
  refine g_il_n 2 dX5_makesBoth_24 rfl ?_
  refine g_iald (v := nI (g 5 q)) 25 q (by decide) (by decide) (show _ < 8 by omega) (hM.md hq) dX5_makesBoth_25 ?_
  refine g_bi (v := nI 10) dX5_makesBoth_26 (by decide) ?_
  refine g_irem (v := nI ((g 5 q) % 10)) dX5_makesBoth_28 (by decide) (pk_rem (by omega) (by omega) (by omega)) ?_
  refine g_il_n 3 dX5_makesBoth_29 rfl ?_
  refine g_ic (v := nI 4) dX5_makesBoth_30 (by decide) ?_
  refine g_irem (v := nI (a % 4)) dX5_makesBoth_31 (by decide) (pk_rem (by omega) (by omega) (by omega)) ?_
  refine g_il_n 4 dX5_makesBoth_32 rfl ?_
  refine g_ic (v := nI 4) dX5_makesBoth_33 (by decide) ?_
  refine g_irem (v := nI (b % 4)) dX5_makesBoth_34 (by decide) (pk_rem (by omega) (by omega) (by omega)) ?_
  refine g_ci (r_S (st := []) (As := [.int (nI ((g 5 q) % 10)), .int (nI (a % 4)), .int (nI (b % 4))]) (d := 0) (c_X5_makes l γ I L P (g 5 q % 10) (a % 4) (b % 4) m2 (by omega) (by omega)) gX5_makesBoth_X5_makes rfl ⟨by decide, by decide, rfl⟩ ⟨Nat.le_of_ble_eq_true rfl, Nat.le_of_ble_eq_true rfl⟩ rfl (Nat.le_of_ble_eq_true rfl) dX5_makesBoth_35 ⟨Nat.zero_le _, Nat.zero_le _⟩) ?_
  rintro rz2 Iz2 Lz2 ⟨ez2, eIz2, eLz2⟩
  rw [ez2, eIz2, eLz2]
  refine g_is (lv' := [(5, .int (enc (jv (g 5 q % 10) (a % 4) (b % 4)))), (4, .int (enc (jv (g 5 q / 10) (a / 4) (b / 4)))), (0, .ref (γ.2.2 8)), (1, .int (nI q)), (2, .int (nI a)), (3, .int (nI b))]) dX5_makesBoth_38 (by decide) rfl ?_
  refine g_il 1 dX5_makesBoth_40 rfl ?_
  refine g_if_lt (tgt := 50) dX5_makesBoth_42 (by decide) (fun h3 => ?_) (fun h3 => ?_)
  · skip
    refine g_ic (v := (-1 : Int32)) dX5_makesBoth_50 (by decide) ?_
    refine g_goto (tgt := 61) dX5_makesBoth_51 (by decide) ?_
    exact g_iret dX5_makesBoth_61 (⟨by have e := enc_lt h3 (fun v hv => by have := jv_lt (by omega) (by omega) hv; omega); simp only [jp, e]; rfl, rfl, rfl⟩)
  · skip
    obtain ⟨u, hu⟩ := enc_nlt h3
    refine g_il 0 dX5_makesBoth_45 rfl ?_
    refine g_if_ge (tgt := 54) dX5_makesBoth_47 (by decide) (fun h4 => ?_) (fun h4 => ?_)
    · skip
      obtain ⟨w, hw⟩ := enc_ge h4
      have hu4 := jv_lt (by omega) (by omega) hu
      have hw4 := jv_lt (by omega) (by omega) hw
      rw [show enc (jv (g 5 q / 10) (a / 4) (b / 4)) = nI u by rw [hu]; rfl, show enc (jv (g 5 q % 10) (a % 4) (b % 4)) = nI w by rw [hw]; rfl]
      refine g_ic (v := nI 4) dX5_makesBoth_54 (by decide) ?_
      refine g_il 1 dX5_makesBoth_55 rfl ?_
      refine g_imul (v := nI (4 * u)) dX5_makesBoth_57 (pk_mul _ _) ?_
      refine g_il 0 dX5_makesBoth_58 rfl ?_
      refine g_iadd (v := nI (4 * u + w)) dX5_makesBoth_60 (nI_add _ _) ?_
      exact g_iret dX5_makesBoth_61 (⟨by simp only [jp, hu, hw, enc], rfl, rfl⟩)
    · skip
      refine g_ic (v := (-1 : Int32)) dX5_makesBoth_50 (by decide) ?_
      refine g_goto (tgt := 61) dX5_makesBoth_51 (by decide) ?_
      exact g_iret dX5_makesBoth_61 (⟨by have e := enc_nge h4 (fun v hv => by have := jv_lt (by omega) (by omega) hv; omega); simp only [jp, hu, e]; rfl, rfl, rfl⟩)

set_option maxRecDepth 100000 in
set_option maxHeartbeats 4000000 in
theorem c_X5_span (l : Launch) (γ : Gm) (I : IT) (L : LT) (P : PT) (a b : Nat) : Ci l yX5_span wsX5_span 0 γ [.int (nI a), .int (nI b)] I L P (fun r I' L' => r = nI ((a * 7 + b) * 8) ∧ I' = I ∧ L' = L) := by
  refine Ci_of (own := RX5) (cc := cX5_span) (maxL := 2) (by decide) rfl rfl (Nat.le_of_ble_eq_true rfl) ?_
  refine g_sub (lv' := [(0, .int (nI a)), (1, .int (nI b))]) [0, 1] rfl ?_
  refine g_il_n 0 dX5_span_0 rfl ?_
  refine g_bi (v := nI 7) dX5_span_1 (by decide) ?_
  refine g_imul (v := nI (a * 7)) dX5_span_3 (pk_mul _ _) ?_
  refine g_il_n 1 dX5_span_4 rfl ?_
  refine g_iadd (v := nI (a * 7 + b)) dX5_span_5 (nI_add _ _) ?_
  refine g_bi (v := nI 8) dX5_span_6 (by decide) ?_
  refine g_imul (v := nI ((a * 7 + b) * 8)) dX5_span_8 (pk_mul _ _) ?_
  exact g_iret dX5_span_9 (⟨rfl, rfl, rfl⟩)

set_option maxRecDepth 100000 in
set_option maxHeartbeats 4000000 in
theorem c_X5_together (l : Launch) (γ : Gm) (I : IT) (L : LT) (P : PT) (g : GR) (n r q a b : Nat) (hM : MG I g n r) (hq : q < r) (hA : a < 2 ^ 16) (hB : b < 2 ^ 16) : Ci l yX5_together wsX5_together 2 γ [.ref (γ.2.2 8), .int (nI q), .int (nI a), .int (nI b)] I L P (fun r9 I' L' => r9 = nI (pmk (g 5 q) a b) ∧ I' = I ∧ L' = L) := by
  refine Ci_of (own := RX5) (cc := cX5_together) (maxL := 8) (by decide) rfl rfl (Nat.le_of_ble_eq_true rfl) ?_
  refine g_sub (lv' := [(0, .ref (γ.2.2 8)), (1, .int (nI q)), (2, .int (nI a)), (3, .int (nI b))]) [0, 1, 2, 3] rfl ?_
  refine g_ic (v := nI 0) dX5_together_0 (by decide) ?_
  refine g_is (lv' := [(4, .int (nI 0)), (0, .ref (γ.2.2 8)), (1, .int (nI q)), (2, .int (nI a)), (3, .int (nI b))]) dX5_together_1 (by decide) rfl ?_
  refine g_ic (v := nI 0) dX5_together_3 (by decide) ?_
  refine g_is (lv' := [(5, .int (nI 0)), (4, .int (nI 0)), (0, .ref (γ.2.2 8)), (1, .int (nI q)), (2, .int (nI a)), (3, .int (nI b))]) dX5_together_4 (by decide) rfl ?_
  have lp : ∀ (z : Nat) (o : Nat) (acc : Nat) (ho : o + z = 16) (ha : acc = orf (pmo (g 5 q) a b) o), G E0 l cX5_together 8 wsX5_together RX5 (some .int) (rmd 2) γ P (AE γ) (Qi γ P (fun r9 I' L' => r9 = nI (pmk (g 5 q) a b) ∧ I' = I ∧ L' = L)) 0 0 6 [(0, .ref (γ.2.2 8)), (1, .int (nI q)), (2, .int (nI a)), (3, .int (nI b)), (4, .int (nI acc)), (5, .int (nI o))] [] I L := by
    intro z
    induction z with
    | zero =>
      intro o acc ho ha
      simp only [Nat.add_zero] at ho
      refine g_il 5 dX5_together_6 rfl ?_
      refine g_bi (v := nI 16) dX5_together_8 (by decide) ?_
      refine gn_ge (tgt := 88) dX5_together_10 (by decide) (by omega) (by omega) (fun h1 => ?_) (fun h1 => ?_)
      · skip
        refine g_il 4 dX5_together_88 rfl ?_
        refine g_top (v := nI (pmk (g 5 q) a b)) (by rw [ha, ho]; rfl) ?_
        exact g_iret dX5_together_90 (⟨rfl, rfl, rfl⟩)
      · skip
        exfalso; omega
    | succ z ih =>
      intro o acc ho ha
      refine g_il 5 dX5_together_6 rfl ?_
      refine g_bi (v := nI 16) dX5_together_8 (by decide) ?_
      refine gn_ge (tgt := 88) dX5_together_10 (by decide) (by omega) (by omega) (fun h1 => ?_) (fun h1 => ?_)
      · skip
        exfalso; omega
      · skip
        refine g_ic (v := nI 0) dX5_together_13 (by decide) ?_
        refine g_is (lv' := [(6, .int (nI 0)), (0, .ref (γ.2.2 8)), (1, .int (nI q)), (2, .int (nI a)), (3, .int (nI b)), (4, .int (nI acc)), (5, .int (nI o))]) dX5_together_14 (by decide) rfl ?_
        by_cases hbo : a.testBit o = true
        · skip
          have lp2 : ∀ (z : Nat) (k : Nat) (acc2 : Nat) (hk : k + z = 16) (ha2 : acc2 = acc ||| orf (pin (g 5 q) o b) k), G E0 l cX5_together 8 wsX5_together RX5 (some .int) (rmd 2) γ P (AE γ) (Qi γ P (fun r9 I' L' => r9 = nI (pmk (g 5 q) a b) ∧ I' = I ∧ L' = L)) 0 0 16 [(0, .ref (γ.2.2 8)), (1, .int (nI q)), (2, .int (nI a)), (3, .int (nI b)), (4, .int (nI acc2)), (5, .int (nI o)), (6, .int (nI k))] [] I L := by
            intro z
            induction z with
            | zero =>
              intro k acc2 hk ha2
              simp only [Nat.add_zero] at hk
              refine g_il 6 dX5_together_16 rfl ?_
              refine g_bi (v := nI 16) dX5_together_18 (by decide) ?_
              refine gn_ge (tgt := 82) dX5_together_20 (by decide) (by omega) (by omega) (fun h2 => ?_) (fun h2 => ?_)
              · skip
                refine g_inc (v := nI (o + 1)) (lv' := [(5, .int (nI (o + 1))), (0, .ref (γ.2.2 8)), (1, .int (nI q)), (2, .int (nI a)), (3, .int (nI b)), (4, .int (nI acc2)), (6, .int (nI k))]) 5 dX5_together_82 rfl (inc_1 _) (by decide) rfl ?_
                refine g_goto (tgt := 6) dX5_together_85 (by decide) ?_
                refine g_sub [1, 2, 3, 4, 5, 0] rfl ?_
                exact ih (o + 1) acc2 (by omega) (by show _ = orf (pmo (g 5 q) a b) o ||| pmo (g 5 q) a b o; rw [ha2, hk, show pmo (g 5 q) a b o = orf (pin (g 5 q) o b) 16 from if_pos hbo, ha])
              · skip
                exfalso; omega
            | succ z ih2 =>
              intro k acc2 hk ha2
              refine g_il 6 dX5_together_16 rfl ?_
              refine g_bi (v := nI 16) dX5_together_18 (by decide) ?_
              refine gn_ge (tgt := 82) dX5_together_20 (by decide) (by omega) (by omega) (fun h2 => ?_) (fun h2 => ?_)
              · skip
                exfalso; omega
              · skip
                have hpn : ∀ u, pin (g 5 q) o b k = u → acc2 ||| u = acc ||| orf (pin (g 5 q) o b) (k + 1) := fun u hu => by rw [ha2, orf, hu, Nat.or_assoc]
                refine g_il_n 2 dX5_together_23 rfl ?_
                refine g_il 5 dX5_together_24 rfl ?_
                refine g_ishr (v := nI (a / 2 ^ o)) dX5_together_26 (nI_shr (by omega) (by omega)) ?_
                refine g_ic (v := nI 1) dX5_together_27 (by decide) ?_
                refine g_iand (v := nI (a / 2 ^ o % 2)) dX5_together_28 (nI_and1 _) ?_
                refine g_ic (v := nI 1) dX5_together_29 (by decide) ?_
                refine gn_ne (tgt := 82) dX5_together_30 (by decide) (by omega) (by omega) (fun h3 => ?_) (fun h3 => ?_)
                · skip
                  exact absurd ((bit_div1 a o).mpr hbo) h3
                · skip
                  refine g_il_n 3 dX5_together_33 rfl ?_
                  refine g_il 6 dX5_together_34 rfl ?_
                  refine g_ishr (v := nI (b / 2 ^ k)) dX5_together_36 (nI_shr (by omega) (by omega)) ?_
                  refine g_ic (v := nI 1) dX5_together_37 (by decide) ?_
                  refine g_iand (v := nI (b / 2 ^ k % 2)) dX5_together_38 (nI_and1 _) ?_
                  refine g_ic (v := nI 1) dX5_together_39 (by decide) ?_
                  refine gn_ne (tgt := 55) dX5_together_40 (by decide) (mod2_lt _) (by omega) (fun h5 => ?_) (fun h5 => ?_)
                  · skip
                    have hbk : b.testBit k = false := (bit_div b k).mp (by omega)
                    refine g_ic (v := (-1 : Int32)) dX5_together_55 (by decide) ?_
                    refine g_is (lv' := [(7, .int (-1 : Int32)), (0, .ref (γ.2.2 8)), (1, .int (nI q)), (2, .int (nI a)), (3, .int (nI b)), (4, .int (nI acc2)), (5, .int (nI o)), (6, .int (nI k))]) dX5_together_56 (by decide) rfl ?_
                    refine g_il 5 dX5_together_58 rfl ?_
                    refine g_il 0 dX5_together_60 rfl ?_
                    refine g_if_ge (tgt := 69) dX5_together_62 (by decide) (fun h6 => ?_) (fun h6 => ?_)
                    · skip
                      exact absurd h6 (by decide)
                    · skip
                      refine g_ic (v := nI 0) dX5_together_65 (by decide) ?_
                      refine g_goto (tgt := 73) dX5_together_66 (by decide) ?_
                      refine g_ior (v := nI (acc2 ||| 0)) dX5_together_73 (nI_or _ _) ?_
                      refine g_is (lv' := [(4, .int (nI (acc2 ||| 0))), (7, .int (-1 : Int32)), (0, .ref (γ.2.2 8)), (1, .int (nI q)), (2, .int (nI a)), (3, .int (nI b)), (5, .int (nI o)), (6, .int (nI k))]) dX5_together_74 (by decide) rfl ?_
                      refine g_inc (v := nI (k + 1)) (lv' := [(6, .int (nI (k + 1))), (4, .int (nI (acc2 ||| 0))), (7, .int (-1 : Int32)), (0, .ref (γ.2.2 8)), (1, .int (nI q)), (2, .int (nI a)), (3, .int (nI b)), (5, .int (nI o))]) 7 dX5_together_76 rfl (inc_1 _) (by decide) rfl ?_
                      refine g_goto (tgt := 16) dX5_together_79 (by decide) ?_
                      refine g_sub [3, 4, 5, 6, 1, 7, 0] rfl ?_
                      exact ih2 (k + 1) (acc2 ||| 0) (by omega) (hpn 0 (by simp [pin, obit, *]))
                  · skip
                    have hbk : b.testBit k = true := (bit_div1 b k).mp h5
                    refine g_al_n 0 dX5_together_43 rfl ?_
                    refine g_il_n 1 dX5_together_44 rfl ?_
                    refine g_il 5 dX5_together_45 rfl ?_
                    refine g_il 6 dX5_together_47 rfl ?_
                    refine g_ci (r_V (st := []) (As := [.int (nI q), .int (nI o), .int (nI k)]) (d := 1) 8 (by decide) rfl rfl (c_X5_makesBoth l γ I L P g n r q o k hM hq (by omega) (by omega)) gX5_together_X5_makesBoth rfl ⟨rfl, by decide, by decide, rfl⟩ ⟨Nat.le_of_ble_eq_true rfl, Nat.le_of_ble_eq_true rfl⟩ rfl (Nat.le_of_ble_eq_true rfl) dX5_together_49 ⟨Nat.zero_le _, Nat.zero_le _⟩) ?_
                    rintro rz101 Iz101 Lz101 ⟨ez101, eIz101, eLz101⟩
                    rw [ez101, eIz101, eLz101]
                    refine g_goto (tgt := 56) dX5_together_52 (by decide) ?_
                    refine g_is (lv' := [(7, .int (enc (jp (g 5 q) o k))), (0, .ref (γ.2.2 8)), (1, .int (nI q)), (2, .int (nI a)), (3, .int (nI b)), (4, .int (nI acc2)), (5, .int (nI o)), (6, .int (nI k))]) dX5_together_56 (by decide) rfl ?_
                    refine g_il 5 dX5_together_58 rfl ?_
                    refine g_il 0 dX5_together_60 rfl ?_
                    refine g_if_ge (tgt := 69) dX5_together_62 (by decide) (fun h6 => ?_) (fun h6 => ?_)
                    · skip
                      obtain ⟨v, hv⟩ := enc_ge h6
                      have hv16 := jp_lt (by omega) (by omega) hv
                      rw [show enc (jp (g 5 q) o k) = nI v by rw [hv]; rfl]
                      refine g_ic (v := nI 1) dX5_together_69 (by decide) ?_
                      refine g_il 0 dX5_together_70 rfl ?_
                      refine g_ishl (v := nI (2 ^ v)) dX5_together_72 (nI_shl (by omega)) ?_
                      refine g_ior (v := nI (acc2 ||| 2 ^ v)) dX5_together_73 (nI_or _ _) ?_
                      refine g_is (lv' := [(4, .int (nI (acc2 ||| 2 ^ v))), (7, .int (nI v)), (0, .ref (γ.2.2 8)), (1, .int (nI q)), (2, .int (nI a)), (3, .int (nI b)), (5, .int (nI o)), (6, .int (nI k))]) dX5_together_74 (by decide) rfl ?_
                      refine g_inc (v := nI (k + 1)) (lv' := [(6, .int (nI (k + 1))), (4, .int (nI (acc2 ||| 2 ^ v))), (7, .int (nI v)), (0, .ref (γ.2.2 8)), (1, .int (nI q)), (2, .int (nI a)), (3, .int (nI b)), (5, .int (nI o))]) 7 dX5_together_76 rfl (inc_1 _) (by decide) rfl ?_
                      refine g_goto (tgt := 16) dX5_together_79 (by decide) ?_
                      refine g_sub [3, 4, 5, 6, 1, 7, 0] rfl ?_
                      exact ih2 (k + 1) (acc2 ||| 2 ^ v) (by omega) (hpn _ (by simp [pin, obit, hbk, hv]))
                    · skip
                      have hjn := enc_nge h6 (fun v hv => by have := jp_lt (by omega) (by omega) hv; omega)
                      refine g_ic (v := nI 0) dX5_together_65 (by decide) ?_
                      refine g_goto (tgt := 73) dX5_together_66 (by decide) ?_
                      refine g_ior (v := nI (acc2 ||| 0)) dX5_together_73 (nI_or _ _) ?_
                      refine g_is (lv' := [(4, .int (nI (acc2 ||| 0))), (7, .int (enc (jp (g 5 q) o k))), (0, .ref (γ.2.2 8)), (1, .int (nI q)), (2, .int (nI a)), (3, .int (nI b)), (5, .int (nI o)), (6, .int (nI k))]) dX5_together_74 (by decide) rfl ?_
                      refine g_inc (v := nI (k + 1)) (lv' := [(6, .int (nI (k + 1))), (4, .int (nI (acc2 ||| 0))), (7, .int (enc (jp (g 5 q) o k))), (0, .ref (γ.2.2 8)), (1, .int (nI q)), (2, .int (nI a)), (3, .int (nI b)), (5, .int (nI o))]) 7 dX5_together_76 rfl (inc_1 _) (by decide) rfl ?_
                      refine g_goto (tgt := 16) dX5_together_79 (by decide) ?_
                      refine g_sub [3, 4, 5, 6, 1, 7, 0] rfl ?_
                      exact ih2 (k + 1) (acc2 ||| 0) (by omega) (hpn 0 (by simp [pin, obit, *]))
          refine g_sub [1, 2, 3, 4, 5, 6, 0] rfl ?_
          exact lp2 16 0 acc rfl (by rw [orf, Nat.or_zero])
        · skip
          refine g_il 0 dX5_together_16 rfl ?_
          refine g_bi (v := nI 16) dX5_together_18 (by decide) ?_
          refine gn_ge (tgt := 82) dX5_together_20 (by decide) (by omega) (by omega) (fun h2 => ?_) (fun h2 => ?_)
          · skip
            exfalso; omega
          · skip
            refine g_il_n 3 dX5_together_23 rfl ?_
            refine g_il 6 dX5_together_24 rfl ?_
            refine g_ishr (v := nI (a / 2 ^ o)) dX5_together_26 (nI_shr (by omega) (by omega)) ?_
            refine g_ic (v := nI 1) dX5_together_27 (by decide) ?_
            refine g_iand (v := nI (a / 2 ^ o % 2)) dX5_together_28 (nI_and1 _) ?_
            refine g_ic (v := nI 1) dX5_together_29 (by decide) ?_
            refine gn_ne (tgt := 82) dX5_together_30 (by decide) (by omega) (by omega) (fun h3 => ?_) (fun h3 => ?_)
            · skip
              refine g_inc (v := nI (o + 1)) (lv' := [(5, .int (nI (o + 1))), (6, .int (nI 0)), (0, .ref (γ.2.2 8)), (1, .int (nI q)), (2, .int (nI a)), (3, .int (nI b)), (4, .int (nI acc))]) 6 dX5_together_82 rfl (inc_1 _) (by decide) rfl ?_
              refine g_goto (tgt := 6) dX5_together_85 (by decide) ?_
              refine g_sub [2, 3, 4, 5, 6, 0] rfl ?_
              exact ih (o + 1) acc (by omega) (by rw [ha, orf, pmo, if_neg hbo, Nat.or_zero])
            · skip
              exact absurd ((bit_div1 a o).mp h3) hbo
  refine g_sub [2, 3, 4, 5, 1, 0] rfl ?_
  exact lp 16 0 0 rfl rfl
