/-! the model: calls that look -/
set_option maxRecDepth 100000 in
set_option maxHeartbeats 4000000 in
theorem c_X5_takes2 (l : Launch) (γ : Gm) (I : IT) (L : LT) (P : PT) (g : GR) (n r9 q : Nat) (u : Nat → Nat) (hM : MR I g n r9 q u) : Cv l yX5_takes wsX5_takes 0 γ [.ref (γ.2.2 8)] I L P (fun I' L' => I' 8 3 = nI q ∧ (∀ p, p < q → I' 27 p = nI (u p)) ∧ FQ I I' ∧ I' 8 4 = I 8 4 ∧ L' = L) := by
  refine Cv_of (own := RX5) (cc := cX5_takes) (maxL := 2) (by decide) rfl rfl (Nat.le_of_ble_eq_true rfl) ?_
  refine g_sub (lv' := [(0, .ref (γ.2.2 8))]) [0] rfl ?_
  have hq6 := hM.2.2.1
  refine g_al_n 0 dX5_takes_0 rfl ?_
  refine g_al_n 0 dX5_takes_1 rfl ?_
  refine g_get 8 9 (by decide) rfl in_X5_takes_5 rfl (by decide) (by decide +kernel) rfl rfl dX5_takes_2 ?_
  refine g_top (v := nI q) (hM.2.1) ?_
  refine g_put tyX5 8 11 (upd (I 8) 3 (nI q)) (by decide) rfl in_X5_takes_5 tyX5_ok nmX5 rfl (by decide) (by decide +kernel) rfl rfl rfl rfl rfl (Nat.le_of_ble_eq_true rfl) dX5_takes_5 rfl ?_
  obtain ⟨J, hJ⟩ : ∃ J, J = va_up I 8 (upd (I 8) 3 (nI q)) := ⟨_, rfl⟩
  have hJ2 : J 8 2 = nI q := by rw [hJ, va_us, upd_n _ _ (by decide)]; exact hM.2.1
  have hJ6 : ∀ p, p < q → J 26 p = nI (u p) := fun p hp => by rw [hJ]; exact (hM.2.2.2 p hp).1
  refine g_eq (I' := J) hJ.symm rfl ?_
  refine g_ic (v := nI 0) dX5_takes_8 (by decide) ?_
  refine g_is_n (lv' := [(1, .int (nI 0)), (0, .ref (γ.2.2 8))]) dX5_takes_9 (by decide) rfl ?_
  have lp : ∀ (z : Nat) (k : Nat) (F : Nat → Int32) (hk : k + z = q) (hF : ∀ p, p < k → F p = nI (u p)), G E0 l cX5_takes 2 wsX5_takes RX5 none (rmd 0) γ P (AE γ) (Qv γ P (fun I' L' => I' 8 3 = nI q ∧ (∀ p, p < q → I' 27 p = nI (u p)) ∧ FQ I I' ∧ I' 8 4 = I 8 4 ∧ L' = L)) 0 0 10 [(0, .ref (γ.2.2 8)), (1, .int (nI k))] [] (va_up J 27 F) L := by
    intro z
    induction z with
    | zero =>
      intro k F hk hF
      simp only [Nat.add_zero] at hk
      refine g_il_n 1 dX5_takes_10 rfl ?_
      refine g_al_n 0 dX5_takes_11 rfl ?_
      refine g_get 8 9 (by decide) rfl in_X5_takes_5 rfl (by decide) (by decide +kernel) rfl rfl dX5_takes_12 ?_
      refine g_top (v := nI q) (hJ2) ?_
      refine gn_ge (tgt := 36) dX5_takes_15 (by decide) (by omega) (by omega) (fun h1 => ?_) (fun h1 => ?_)
      · skip
        exact g_vret dX5_takes_36 (⟨by rw [va_up_ne _ _ (by decide), hJ, va_us, upd_s], fun p hp => by rw [va_us]; exact hF p (by omega), by rw [hJ]; exact (FQ.up8 I _ (by decide)).trans (FQ.up27 _ _), by rw [va_up_ne _ _ (by decide), hJ, va_us, upd_n _ _ (by decide)], rfl⟩)
      · skip
        exfalso; omega
    | succ z ih =>
      intro k F hk hF
      refine g_il_n 1 dX5_takes_10 rfl ?_
      refine g_al_n 0 dX5_takes_11 rfl ?_
      refine g_get 8 9 (by decide) rfl in_X5_takes_5 rfl (by decide) (by decide +kernel) rfl rfl dX5_takes_12 ?_
      refine g_top (v := nI q) (hJ2) ?_
      refine gn_ge (tgt := 36) dX5_takes_15 (by decide) (by omega) (by omega) (fun h1 => ?_) (fun h1 => ?_)
      · skip
        exfalso; omega
      · skip
        refine g_al_n 0 dX5_takes_18 rfl ?_
        refine g_get (v := .ref (γ.2.2 27)) 8 10 (by decide) rfl in_X5_takes_5 rfl (by decide) (by decide +kernel) rfl rfl dX5_takes_19 ?_
        refine g_il_n 1 dX5_takes_22 rfl ?_
        refine g_al_n 0 dX5_takes_23 rfl ?_
        refine g_get (v := .ref (γ.2.2 26)) 8 8 (by decide) rfl in_X5_takes_5 rfl (by decide) (by decide +kernel) rfl rfl dX5_takes_24 ?_
        refine g_il_n 1 dX5_takes_27 rfl ?_
        refine g_iald (v := nI (u k)) 26 k (by decide) (by decide) (show _ < 6 by omega) (hJ6 k (by omega)) dX5_takes_28 ?_
        refine g_iast 27 k (by decide) (by decide) (show _ < 6 by omega) dX5_takes_29 ?_
        refine g_eq (I' := va_up J 27 (upd F k (nI (u k)))) (va_uw _ _ _ _ _) rfl ?_
        refine g_inc (v := nI (k + 1)) (lv' := [(1, .int (nI (k + 1))), (0, .ref (γ.2.2 8))]) 1 dX5_takes_30 rfl (inc_1 _) (by decide) rfl ?_
        refine g_goto (tgt := 10) dX5_takes_33 (by decide) ?_
        refine g_sub [1, 0] rfl ?_
        exact ih (k + 1) (upd F k (nI (u k))) (by omega) (fun p hp => by
          by_cases e : p = k
          · subst e; exact upd_s _ _ _
          · rw [upd_n _ _ e]; exact hF p (by omega))
  refine g_sub [1, 0] rfl ?_
  refine g_eq (I' := va_up J 27 (J 27)) (va_id _ _).symm rfl ?_
  exact lp q 0 _ (Nat.zero_add _) (fun p hp => by omega)

set_option maxRecDepth 100000 in
set_option maxHeartbeats 4000000 in
theorem c_X5_isSentence2 (l : Launch) (γ : Gm) (I : IT) (L : LT) (P : PT) (g : GR) (n r9 t : Nat) (x : Nat → Nat) (hM : MG I g n r9) (ht : I 8 3 = nI t) (ht6 : t ≤ 6) (hx : ∀ p, p < t → I 27 p = nI (x p)) (hx2 : ∀ p, p < t → x p < n) : Ci l yX5_isSentence wsX5_isSentence 4 γ [.ref (γ.2.2 8)] I L P (fun r I' L' => r = bi (isS g r9 x t) ∧ (∀ k, k ≠ 28 → I' k = I k) ∧ L' = L) := by
  refine Ci_of (own := RX5) (cc := cX5_isSentence) (maxL := 1) (by decide) rfl rfl (Nat.le_of_ble_eq_true rfl) ?_
  refine g_sub (lv' := [(0, .ref (γ.2.2 8))]) [0] rfl ?_
  refine g_al_n 0 dX5_isSentence_0 rfl ?_
  refine g_al_n 0 dX5_isSentence_1 rfl ?_
  refine g_get 8 7 (by decide) rfl in_X5_isSentence_5 rfl (by decide) (by decide +kernel) rfl rfl dX5_isSentence_2 ?_
  refine g_top (v := nI r9) (hM.cr) ?_
  refine g_cv (r_V (st := []) (As := [.int (nI r9)]) (d := 3) 8 (by decide) rfl rfl (c_X5_parses l γ I L P g n r9 r9 t x hM (Nat.le_refl _) ht ht6 hx hx2) gX5_isSentence_X5_parses rfl ⟨rfl, by decide, by decide, rfl⟩ ⟨Nat.le_of_ble_eq_true rfl, Nat.le_of_ble_eq_true rfl⟩ rfl (Nat.le_of_ble_eq_true rfl) dX5_isSentence_5 ⟨Nat.zero_le _, Nat.zero_le _⟩) ?_
  rintro Iz1 Lz1 ⟨⟨F, eIz1, hF⟩, eLz1⟩
  rw [eIz1, eLz1]
  refine g_al_n 0 dX5_isSentence_8 rfl ?_
  refine g_get 8 11 (by decide) rfl in_X5_isSentence_5 rfl (by decide) (by decide +kernel) rfl rfl dX5_isSentence_9 ?_
  refine g_top (v := nI t) (ht) ?_
  refine gz_le (tgt := 35) dX5_isSentence_12 (by decide) (by omega) (fun h1 => ?_) (fun h1 => ?_)
  · skip
    refine g_ic (v := nI 0) dX5_isSentence_35 (by decide) ?_
    refine g_top (v := bi (isS g r9 x t)) (bi_0 (decide_eq_false (by omega))) ?_
    exact g_zret (bi_nar _) dX5_isSentence_36 (⟨rfl, fun k hk => va_up_ne _ _ hk, rfl⟩)
  · skip
    refine g_al_n 0 dX5_isSentence_15 rfl ?_
    refine g_get (v := .ref (γ.2.2 28)) 8 12 (by decide) rfl in_X5_isSentence_5 rfl (by decide) (by decide +kernel) rfl rfl dX5_isSentence_16 ?_
    refine g_ic (v := nI 0) dX5_isSentence_19 (by decide) ?_
    refine g_al_n 0 dX5_isSentence_20 rfl ?_
    refine g_get 8 11 (by decide) rfl in_X5_isSentence_5 rfl (by decide) (by decide +kernel) rfl rfl dX5_isSentence_21 ?_
    refine g_top (v := nI t) (ht) ?_
    refine g_ci (r_S (st := [.ref (γ.2.2 28)]) (As := [.int (nI 0), .int (nI t)]) (d := 0) (c_X5_span l γ (va_up I 28 F) L P 0 t) gX5_isSentence_X5_span rfl ⟨by decide, by decide, rfl⟩ ⟨Nat.le_of_ble_eq_true rfl, Nat.le_of_ble_eq_true rfl⟩ rfl (Nat.le_of_ble_eq_true rfl) dX5_isSentence_24 ⟨Nat.zero_le _, Nat.zero_le _⟩) ?_
    rintro rz2 Iz2 Lz2 ⟨ez2, eIz2, eLz2⟩
    rw [ez2, eIz2, eLz2]
    refine g_iald (v := nI (ch g r9 (lxw g x) 0 t 0)) 28 ((0 * 7 + t) * 8) (by decide) (by decide) (show _ < 336 by omega) (by rw [va_us]; exact hF 0 t (Nat.zero_le _) h1 (Nat.le_refl _) 0 (by decide)) dX5_isSentence_27 ?_
    refine gz_eq (tgt := 35) dX5_isSentence_28 (by decide) (Nat.lt_trans (ch_lt16 h1 (fun p _ hp c => wset_lt (hM.val_lt (hx2 p hp)))) (by decide)) (fun h2 => ?_) (fun h2 => ?_)
    · skip
      refine g_ic (v := nI 0) dX5_isSentence_35 (by decide) ?_
      refine g_top (v := bi (isS g r9 x t)) (bi_0 (decide_eq_false (by omega))) ?_
      exact g_zret (bi_nar _) dX5_isSentence_36 (⟨rfl, fun k hk => va_up_ne _ _ hk, rfl⟩)
    · skip
      refine g_ic (v := nI 1) dX5_isSentence_31 (by decide) ?_
      refine g_goto (tgt := 36) dX5_isSentence_32 (by decide) ?_
      refine g_top (v := bi (isS g r9 x t)) (bi_1 (decide_eq_true ⟨h1, h2⟩)) ?_
      exact g_zret (bi_nar _) dX5_isSentence_36 (⟨rfl, fun k hk => va_up_ne _ _ hk, rfl⟩)

theorem in_X5_countOf_5 : ∀ w ∈ wsX50, w ∈ wsX5_countOf := by decide +kernel
set_option maxRecDepth 100000 in
set_option maxHeartbeats 4000000 in
theorem c_X5_countOf (l : Launch) (γ : Gm) (I : IT) (L : LT) (P : PT) (g : GR) (n r9 q : Nat) (u : Nat → Nat) (hM : MR I g n r9 q u) (a b c : Nat) (hab : a < b) (hb : b ≤ q) (hc : c < 8) : Ci l yX5_countOf wsX5_countOf 4 γ [.ref (γ.2.2 8), .int (nI a), .int (nI b), .int (nI c)] I L P (fun r I' L' => r = nI (tld (sm (ct g r9 u a b c) 16)) ∧ FQ I I' ∧ I' 8 4 = I 8 4 ∧ FL L L') := by
  refine Ci_of (own := RX5) (cc := cX5_countOf) (maxL := 7) (by decide) rfl rfl (Nat.le_of_ble_eq_true rfl) ?_
  refine g_sub (lv' := [(0, .ref (γ.2.2 8)), (1, .int (nI a)), (2, .int (nI b)), (3, .int (nI c))]) [0, 1, 2, 3] rfl ?_
  have hq6 := hM.2.2.1
  have hbnd := ct_sum_le (hM.1.ctb (w := u) hab (by omega)) hc
  refine g_al_n 0 dX5_countOf_0 rfl ?_
  refine g_cv (r_V (st := []) (As := []) (d := 0) 8 (by decide) rfl rfl (c_X5_takes2 l γ I L P g n r9 q u hM) gX5_countOf_X5_takes rfl ⟨rfl, by decide, by decide, rfl⟩ ⟨Nat.le_of_ble_eq_true rfl, Nat.le_of_ble_eq_true rfl⟩ rfl (Nat.le_of_ble_eq_true rfl) dX5_countOf_1 ⟨Nat.zero_le _, Nat.zero_le _⟩) ?_
  rintro J Lz1 ⟨hJ3, hJx, hJQ, hJ4, eLz1⟩
  rw [eLz1]
  have hJM := hJQ.mr hM
  refine g_al_n 0 dX5_countOf_4 rfl ?_
  refine g_cv (r_V (st := []) (As := []) (d := 3) 8 (by decide) rfl rfl (c_X5_counts l γ J L P g n r9 q u hJM.1 hJ3 hq6 hJx (fun p hp => (hM.2.2.2 p hp).2)) gX5_countOf_X5_counts rfl ⟨rfl, by decide, by decide, rfl⟩ ⟨Nat.le_of_ble_eq_true rfl, Nat.le_of_ble_eq_true rfl⟩ rfl (Nat.le_of_ble_eq_true rfl) dX5_countOf_5 ⟨Nat.zero_le _, Nat.zero_le _⟩) ?_
  rintro Iz2 Lz2 ⟨eIz2, F, eLz2, hF⟩
  rw [eIz2, eLz2]
  refine g_lc (v := lN 0) dX5_countOf_8 rfl ?_
  refine g_ls (lv' := [(4, .long (lN 0)), (0, .ref (γ.2.2 8)), (1, .int (nI a)), (2, .int (nI b)), (3, .int (nI c))]) dX5_countOf_9 (by decide) rfl ?_
  refine g_ic (v := nI 0) dX5_countOf_11 (by decide) ?_
  refine g_is (lv' := [(6, .int (nI 0)), (4, .long (lN 0)), (0, .ref (γ.2.2 8)), (1, .int (nI a)), (2, .int (nI b)), (3, .int (nI c))]) dX5_countOf_12 (by decide) rfl ?_
  have lp : ∀ (z : Nat) (k : Nat) (hk : k + z = 16), G E0 l cX5_countOf 7 wsX5_countOf RX5 (some .int) (rmd 4) γ P (AE γ) (Qi γ P (fun r I' L' => r = nI (tld (sm (ct g r9 u a b c) 16)) ∧ FQ I I' ∧ I' 8 4 = I 8 4 ∧ FL L L')) 0 0 14 [(0, .ref (γ.2.2 8)), (1, .int (nI a)), (2, .int (nI b)), (3, .int (nI c)), (4, .long (lN (sm (ct g r9 u a b c) k))), (6, .int (nI k))] [] J (va_up L 9 F) := by
    intro z
    induction z with
    | zero =>
      intro k hk
      simp only [Nat.add_zero] at hk
      refine g_il 5 dX5_countOf_14 rfl ?_
      refine g_bi (v := nI 16) dX5_countOf_16 (by decide) ?_
      refine gn_ge (tgt := 50) dX5_countOf_18 (by decide) (by omega) (by omega) (fun h1 => ?_) (fun h1 => ?_)
      · skip
        rw [hk]
        refine g_ll 4 dX5_countOf_50 rfl ?_
        refine g_ldc2 (v := lN (1000000)) (by decide +kernel) dX5_countOf_52 ?_
        refine g_lcmp (v := lg_cmp (lN (sm (ct g r9 u a b c) 16)) (lN (1000000))) dX5_countOf_55 (rfl) ?_
        refine g_if_le (tgt := 64) dX5_countOf_56 (by decide) (fun h2 => ?_) (fun h2 => ?_)
        · skip
          refine g_ll 4 dX5_countOf_64 rfl ?_
          refine g_l2i (v := nI (sm (ct g r9 u a b c) 16)) dX5_countOf_66 (lN_i _) ?_
          refine g_top (v := nI (tld (sm (ct g r9 u a b c) 16))) (by rw [tld, if_pos ((lcmp_le (by omega) (by decide)).mp h2)]) ?_
          exact g_iret dX5_countOf_67 (⟨rfl, hJQ, hJ4, fun k hk => va_up_ne _ _ hk⟩)
        · skip
          refine g_ldc (v := nI 1000000) (by decide +kernel) dX5_countOf_59 ?_
          refine g_goto (tgt := 67) dX5_countOf_61 (by decide) ?_
          refine g_top (v := nI (tld (sm (ct g r9 u a b c) 16))) (by rw [tld, if_neg (fun q9 => h2 ((lcmp_le (by omega) (by decide)).mpr q9))]) ?_
          exact g_iret dX5_countOf_67 (⟨rfl, hJQ, hJ4, fun k hk => va_up_ne _ _ hk⟩)
      · skip
        exfalso; omega
    | succ z ih =>
      intro k hk
      refine g_il 5 dX5_countOf_14 rfl ?_
      refine g_bi (v := nI 16) dX5_countOf_16 (by decide) ?_
      refine gn_ge (tgt := 50) dX5_countOf_18 (by decide) (by omega) (by omega) (fun h1 => ?_) (fun h1 => ?_)
      · skip
        exfalso; omega
      · skip
        refine g_ll 4 dX5_countOf_21 rfl ?_
        refine g_al_n 0 dX5_countOf_23 rfl ?_
        refine g_get (v := .ref (γ.2.2 9)) 8 13 (by decide) rfl in_X5_countOf_5 rfl (by decide) (by decide +kernel) rfl rfl dX5_countOf_24 ?_
        refine g_bi (v := nI 16) dX5_countOf_27 (by decide) ?_
        refine g_il_n 1 dX5_countOf_29 rfl ?_
        refine g_il_n 2 dX5_countOf_30 rfl ?_
        refine g_ci (r_S (st := [.int (nI 16), .ref (γ.2.2 9), .long (lN (sm (ct g r9 u a b c) k))]) (As := [.int (nI a), .int (nI b)]) (d := 0) (c_X5_span l γ J (va_up L 9 F) P a b) gX5_countOf_X5_span rfl ⟨by decide, by decide, rfl⟩ ⟨Nat.le_of_ble_eq_true rfl, Nat.le_of_ble_eq_true rfl⟩ rfl (Nat.le_of_ble_eq_true rfl) dX5_countOf_31 ⟨Nat.zero_le _, Nat.zero_le _⟩) ?_
        rintro rz3 Iz3 Lz3 ⟨ez3, eIz3, eLz3⟩
        rw [ez3, eIz3, eLz3]
        refine g_il_n 3 dX5_countOf_34 rfl ?_
        refine g_iadd (v := nI ((a * 7 + b) * 8 + c)) dX5_countOf_35 (nI_add _ _) ?_
        refine g_imul (v := nI (16 * ((a * 7 + b) * 8 + c))) dX5_countOf_36 (pk_mul _ _) ?_
        refine g_il 5 dX5_countOf_37 rfl ?_
        refine g_iadd (v := nI (16 * ((a * 7 + b) * 8 + c) + k)) dX5_countOf_39 (nI_add _ _) ?_
        refine g_lald (v := lN (ct g r9 u a b c k)) 9 (16 * ((a * 7 + b) * 8 + c) + k) (by decide) rfl (by decide) (by omega) (by rw [va_us, show 16 * ((a * 7 + b) * 8 + c) + k = 16 * ((a * 7 + b) * 8) + 16 * c + k by omega]; exact hF a b (Nat.zero_le _) hab hb c hc k (by omega)) dX5_countOf_40 ?_
        refine g_ladd (v := lN (sm (ct g r9 u a b c) k + ct g r9 u a b c k)) dX5_countOf_41 (lN_add _ _) ?_
        refine g_ls (lv' := [(4, .long (lN (sm (ct g r9 u a b c) k + ct g r9 u a b c k))), (0, .ref (γ.2.2 8)), (1, .int (nI a)), (2, .int (nI b)), (3, .int (nI c)), (6, .int (nI k))]) dX5_countOf_42 (by decide) rfl ?_
        refine g_inc (v := nI (k + 1)) (lv' := [(6, .int (nI (k + 1))), (4, .long (lN (sm (ct g r9 u a b c) k + ct g r9 u a b c k))), (0, .ref (γ.2.2 8)), (1, .int (nI a)), (2, .int (nI b)), (3, .int (nI c))]) 5 dX5_countOf_44 rfl (inc_1 _) (by decide) rfl ?_
        refine g_goto (tgt := 14) dX5_countOf_47 (by decide) ?_
        refine g_sub [2, 3, 4, 5, 1, 0] rfl ?_
        exact ih (k + 1) (by omega)
  refine g_sub [2, 3, 4, 5, 1, 0] rfl ?_
  exact lp 16 0 rfl

theorem in_X5_readings_5 : ∀ w ∈ wsX50, w ∈ wsX5_readings := by decide +kernel
set_option maxRecDepth 100000 in
set_option maxHeartbeats 4000000 in
theorem c_X5_readings (l : Launch) (γ : Gm) (I : IT) (L : LT) (P : PT) (g : GR) (n r9 q : Nat) (u : Nat → Nat) (hM : MR I g n r9 q u) : Ci l yX5_readings wsX5_readings 5 γ [.ref (γ.2.2 8)] I L P (fun r I' L' => r = nI (rdg g r9 u q) ∧ I' 8 4 = nI 0 ∧ FQ I I' ∧ FL L L') := by
  refine Ci_of (own := RX5) (cc := cX5_readings) (maxL := 1) (by decide) rfl rfl (Nat.le_of_ble_eq_true rfl) ?_
  refine g_sub (lv' := [(0, .ref (γ.2.2 8))]) [0] rfl ?_
  have hq6 := hM.2.2.1
  refine g_al_n 0 dX5_readings_0 rfl ?_
  refine g_ic (v := nI 0) dX5_readings_1 (by decide) ?_
  refine g_put tyX5 8 14 (upd (I 8) 4 (nI 0)) (by decide) rfl in_X5_readings_5 tyX5_ok nmX5 rfl (by decide) (by decide +kernel) rfl rfl rfl rfl rfl (Nat.le_of_ble_eq_true rfl) dX5_readings_2 rfl ?_
  obtain ⟨J, hJ⟩ : ∃ J, J = va_up I 8 (upd (I 8) 4 (nI 0)) := ⟨_, rfl⟩
  have hJQ : FQ I J := by rw [hJ]; exact FQ.up8 I _ (by decide)
  have hJM := hJQ.mr hM
  have hJ4 : J 8 4 = nI 0 := by rw [hJ, va_us, upd_s]
  refine g_eq (I' := J) hJ.symm rfl ?_
  refine g_al_n 0 dX5_readings_5 rfl ?_
  refine g_get 8 9 (by decide) rfl in_X5_readings_5 rfl (by decide) (by decide +kernel) rfl rfl dX5_readings_6 ?_
  refine g_top (v := nI q) (hJM.2.1) ?_
  refine gz_ne (tgt := 16) dX5_readings_9 (by decide) (by omega) (fun h1 => ?_) (fun h1 => ?_)
  · skip
    refine g_al_n 0 dX5_readings_16 rfl ?_
    refine g_ic (v := nI 0) dX5_readings_17 (by decide) ?_
    refine g_al_n 0 dX5_readings_18 rfl ?_
    refine g_get 8 9 (by decide) rfl in_X5_readings_5 rfl (by decide) (by decide +kernel) rfl rfl dX5_readings_19 ?_
    refine g_top (v := nI q) (hJM.2.1) ?_
    refine g_ic (v := nI 0) dX5_readings_22 (by decide) ?_
    refine g_ci (r_V (st := []) (As := [.int (nI 0), .int (nI q), .int (nI 0)]) (d := 4) 8 (by decide) rfl rfl (c_X5_countOf l γ J L P g n r9 q u hJM 0 q 0 (by omega) (Nat.le_refl _) (by decide)) gX5_readings_X5_countOf rfl ⟨rfl, by decide, by decide, rfl⟩ ⟨Nat.le_of_ble_eq_true rfl, Nat.le_of_ble_eq_true rfl⟩ rfl (Nat.le_of_ble_eq_true rfl) dX5_readings_23 ⟨Nat.zero_le _, Nat.zero_le _⟩) ?_
    rintro rz1 K L2 ⟨ez1, hKQ, hK4, hKL⟩
    rw [ez1]
    refine g_top (v := nI (rdg g r9 u q)) (by rw [rdg, if_neg h1]) ?_
    exact g_iret dX5_readings_26 (⟨rfl, by rw [hK4, hJ4], hJQ.trans hKQ, hKL⟩)
  · skip
    refine g_ic (v := nI 0) dX5_readings_12 (by decide) ?_
    refine g_goto (tgt := 26) dX5_readings_13 (by decide) ?_
    refine g_top (v := nI (rdg g r9 u q)) (by rw [rdg, if_pos h1]) ?_
    exact g_iret dX5_readings_26 (⟨rfl, hJ4, hJQ, FL.refl _⟩)

set_option maxRecDepth 100000 in
set_option maxHeartbeats 4000000 in
theorem c_X5_readingsPlainly (l : Launch) (γ : Gm) (I : IT) (L : LT) (P : PT) (g : GR) (n r9 q : Nat) (u : Nat → Nat) (hM : MR I g n r9 q u) : Ci l yX5_readingsPlainly wsX5_readingsPlainly 6 γ [.ref (γ.2.2 8)] I L P (fun r I' L' => r = nI (rdg g r9 u q) ∧ I' 8 4 = nI 0 ∧ FQ I I' ∧ FL L L') := by
  refine Ci_of (own := RX5) (cc := cX5_readingsPlainly) (maxL := 1) (by decide) rfl rfl (Nat.le_of_ble_eq_true rfl) ?_
  refine g_sub (lv' := [(0, .ref (γ.2.2 8))]) [0] rfl ?_
  refine g_al_n 0 dX5_readingsPlainly_0 rfl ?_
  refine g_ci (r_V (st := []) (As := []) (d := 5) 8 (by decide) rfl rfl (c_X5_readings l γ I L P g n r9 q u hM) gX5_readingsPlainly_X5_readings rfl ⟨rfl, by decide, by decide, rfl⟩ ⟨Nat.le_of_ble_eq_true rfl, Nat.le_of_ble_eq_true rfl⟩ rfl (Nat.le_of_ble_eq_true rfl) dX5_readingsPlainly_1 ⟨Nat.zero_le _, Nat.zero_le _⟩) ?_
  rintro rz1 K L2 ⟨ez1, hK4, hKQ, hKL⟩
  rw [ez1]
  exact g_iret dX5_readingsPlainly_4 (⟨rfl, hK4, hKQ, hKL⟩)

theorem in_X5_isPart_5 : ∀ w ∈ wsX50, w ∈ wsX5_isPart := by decide +kernel
set_option maxRecDepth 100000 in
set_option maxHeartbeats 4000000 in
theorem c_X5_isPart (l : Launch) (γ : Gm) (I : IT) (L : LT) (P : PT) (x y z : Int32) (q : Nat) (hq : I 8 2 = nI q) (hq6 : q ≤ 6) : Ci l yX5_isPart wsX5_isPart 1 γ [.ref (γ.2.2 8), .int x, .int y, .int z] I L P (fun r I' L' => r = bi (pB (∃ a b, SPN x y q a b) && inB z 8) ∧ I' = I ∧ L' = L) := by
  refine Ci_of (own := RX5) (cc := cX5_isPart) (maxL := 4) (by decide) rfl rfl (Nat.le_of_ble_eq_true rfl) ?_
  refine g_sub (lv' := [(0, .ref (γ.2.2 8)), (1, .int x), (2, .int y), (3, .int z)]) [0, 1, 2, 3] rfl ?_
  refine g_il_n 1 dX5_isPart_0 rfl ?_
  refine g_if_lt (tgt := 31) dX5_isPart_1 (by decide) (fun h1 => ?_) (fun h1 => ?_)
  · skip
    refine g_ic (v := nI 0) dX5_isPart_31 (by decide) ?_
    refine g_top (v := bi (pB (∃ a b, SPN x y q a b) && inB z 8)) (bi_0 (by rw [pB_no (SPN_neg (by omega) h1)]; rfl)) ?_
    exact g_zret (bi_nar _) dX5_isPart_32 (⟨rfl, rfl, rfl⟩)
  · skip
    refine g_il_n 2 dX5_isPart_4 rfl ?_
    refine g_il_n 1 dX5_isPart_5 rfl ?_
    refine g_ic_le (tgt := 31) dX5_isPart_6 (by decide) (fun h2 => ?_) (fun h2 => ?_)
    · skip
      refine g_ic (v := nI 0) dX5_isPart_31 (by decide) ?_
      refine g_top (v := bi (pB (∃ a b, SPN x y q a b) && inB z 8)) (bi_0 (by rw [pB_no (SPN_le (by omega) h2)]; rfl)) ?_
      exact g_zret (bi_nar _) dX5_isPart_32 (⟨rfl, rfl, rfl⟩)
    · skip
      refine g_il_n 2 dX5_isPart_9 rfl ?_
      refine g_al_n 0 dX5_isPart_10 rfl ?_
      refine g_get 8 9 (by decide) rfl in_X5_isPart_5 rfl (by decide) (by decide +kernel) rfl rfl dX5_isPart_11 ?_
      refine g_top (v := nI q) (hq) ?_
      refine g_ic_gt (tgt := 31) dX5_isPart_14 (by decide) (fun h3 => ?_) (fun h3 => ?_)
      · skip
        refine g_ic (v := nI 0) dX5_isPart_31 (by decide) ?_
        refine g_top (v := bi (pB (∃ a b, SPN x y q a b) && inB z 8)) (bi_0 (by rw [pB_no (SPN_gt (by omega) h3)]; rfl)) ?_
        exact g_zret (bi_nar _) dX5_isPart_32 (⟨rfl, rfl, rfl⟩)
      · skip
        refine g_il_n 3 dX5_isPart_17 rfl ?_
        refine g_ic (v := nI 0) dX5_isPart_18 (by decide) ?_
        refine g_bi (v := nI 7) dX5_isPart_19 (by decide) ?_
        refine g_ci (r_S (st := []) (As := [.int z, .int (nI 0), .int (nI 7)]) (d := 0) (c_X5_isWithin l γ I L P z 7 (by decide)) gX5_isPart_X5_isWithin rfl ⟨by decide, by decide, rfl⟩ ⟨Nat.le_of_ble_eq_true rfl, Nat.le_of_ble_eq_true rfl⟩ rfl (Nat.le_of_ble_eq_true rfl) dX5_isPart_21 ⟨Nat.zero_le _, Nat.zero_le _⟩) ?_
        rintro rz1 Iz1 Lz1 ⟨ez1, eIz1, eLz1⟩
        rw [ez1, eIz1, eLz1]
        refine gb_eq (tgt := 31) dX5_isPart_24 (by decide) (fun h4 => ?_) (fun h4 => ?_)
        · skip
          refine g_ic (v := nI 0) dX5_isPart_31 (by decide) ?_
          refine g_top (v := bi (pB (∃ a b, SPN x y q a b) && inB z 8)) (bi_0 (by rw [show inB z 8 = false from h4, Bool.and_false])) ?_
          exact g_zret (bi_nar _) dX5_isPart_32 (⟨rfl, rfl, rfl⟩)
        · skip
          refine g_ic (v := nI 1) dX5_isPart_27 (by decide) ?_
          refine g_goto (tgt := 32) dX5_isPart_28 (by decide) ?_
          refine g_top (v := bi (pB (∃ a b, SPN x y q a b) && inB z 8)) (bi_1 (by rw [pB_of (SPN_of (q := q) (by omega) h1 h2 h3), show inB z 8 = true from h4]; rfl)) ?_
          exact g_zret (bi_nar _) dX5_isPart_32 (⟨rfl, rfl, rfl⟩)

set_option maxRecDepth 100000 in
set_option maxHeartbeats 4000000 in
theorem c_X5_isShort (l : Launch) (γ : Gm) (I : IT) (L : LT) (P : PT) (x : Int32) : Ci l yX5_isShort wsX5_isShort 0 γ [.int x] I L P (fun r I' L' => r = bi (pB (∃ m, LEN x m)) ∧ I' = I ∧ L' = L) := by
  refine Ci_of (own := RX5) (cc := cX5_isShort) (maxL := 1) (by decide) rfl rfl (Nat.le_of_ble_eq_true rfl) ?_
  refine g_sub (lv' := [(0, .int x)]) [0] rfl ?_
  refine g_il_n 0 dX5_isShort_0 rfl ?_
  refine g_ic (v := nI 1) dX5_isShort_1 (by decide) ?_
  refine g_ic_lt (tgt := 14) dX5_isShort_2 (by decide) (fun h1 => ?_) (fun h1 => ?_)
  · skip
    refine g_ic (v := nI 0) dX5_isShort_14 (by decide) ?_
    refine g_top (v := bi (pB (∃ m, LEN x m))) (bi_0 (by rw [pB_no (LEN_lt h1)])) ?_
    exact g_zret (bi_nar _) dX5_isShort_15 (⟨rfl, rfl, rfl⟩)
  · skip
    refine g_il_n 0 dX5_isShort_5 rfl ?_
    refine g_ic (v := nI 4) dX5_isShort_6 (by decide) ?_
    refine g_ic_gt (tgt := 14) dX5_isShort_7 (by decide) (fun h2 => ?_) (fun h2 => ?_)
    · skip
      refine g_ic (v := nI 0) dX5_isShort_14 (by decide) ?_
      refine g_top (v := bi (pB (∃ m, LEN x m))) (bi_0 (by rw [pB_no (LEN_gt (Int32.not_le.mpr h2))])) ?_
      exact g_zret (bi_nar _) dX5_isShort_15 (⟨rfl, rfl, rfl⟩)
    · skip
      refine g_ic (v := nI 1) dX5_isShort_10 (by decide) ?_
      refine g_goto (tgt := 15) dX5_isShort_11 (by decide) ?_
      refine g_top (v := bi (pB (∃ m, LEN x m))) (bi_1 (by rw [pB_of (LEN_of h1 (Int32.not_lt.mp h2))])) ?_
      exact g_zret (bi_nar _) dX5_isShort_15 (⟨rfl, rfl, rfl⟩)

set_option maxRecDepth 100000 in
set_option maxHeartbeats 4000000 in
theorem c_X5_readingsOf (l : Launch) (γ : Gm) (I : IT) (L : LT) (P : PT) (g : GR) (n r9 q : Nat) (u : Nat → Nat) (hM : MR I g n r9 q u) (x y z : Int32) : Ci l yX5_readingsOf wsX5_readingsOf 5 γ [.ref (γ.2.2 8), .int x, .int y, .int z] I L P (fun r I' L' => ((pB (∃ a b, SPN x y q a b) && inB z 8) = true → r = nI (tld (sm (ct g r9 u (tn x) (tn y) (tn z)) 16))) ∧ I' 8 4 = nI (cd2 (pB (∃ a b, SPN x y q a b) && inB z 8) true) ∧ FQ I I' ∧ FL L L') := by
  refine Ci_of (own := RX5) (cc := cX5_readingsOf) (maxL := 4) (by decide) rfl rfl (Nat.le_of_ble_eq_true rfl) ?_
  refine g_sub (lv' := [(0, .ref (γ.2.2 8)), (1, .int x), (2, .int y), (3, .int z)]) [0, 1, 2, 3] rfl ?_
  refine g_al_n 0 dX5_readingsOf_0 rfl ?_
  refine g_al_n 0 dX5_readingsOf_1 rfl ?_
  refine g_il_n 1 dX5_readingsOf_2 rfl ?_
  refine g_il_n 2 dX5_readingsOf_3 rfl ?_
  refine g_il_n 3 dX5_readingsOf_4 rfl ?_
  refine g_ci (r_V (st := [.ref (γ.2.2 8)]) (As := [.int x, .int y, .int z]) (d := 1) 8 (by decide) rfl rfl (c_X5_isPart l γ I L P x y z q hM.2.1 hM.2.2.1) gX5_readingsOf_X5_isPart rfl ⟨rfl, by decide, by decide, rfl⟩ ⟨Nat.le_of_ble_eq_true rfl, Nat.le_of_ble_eq_true rfl⟩ rfl (Nat.le_of_ble_eq_true rfl) dX5_readingsOf_5 ⟨Nat.zero_le _, Nat.zero_le _⟩) ?_
  rintro rz1 Iz1 Lz1 ⟨ez1, eIz1, eLz1⟩
  rw [ez1, eIz1, eLz1]
  refine g_ic (v := bi true) dX5_readingsOf_8 (by decide) ?_
  refine g_ci (r_V (st := []) (As := [.int (bi (pB (∃ a b, SPN x y q a b) && inB z 8)), .int (bi true)]) (d := 0) 8 (by decide) rfl rfl (c_X5_goes l γ I L P (pB (∃ a b, SPN x y q a b) && inB z 8) (true)) gX5_readingsOf_X5_goes rfl ⟨rfl, by decide, by decide, rfl⟩ ⟨Nat.le_of_ble_eq_true rfl, Nat.le_of_ble_eq_true rfl⟩ rfl (Nat.le_of_ble_eq_true rfl) dX5_readingsOf_9 ⟨Nat.zero_le _, Nat.zero_le _⟩) ?_
  rintro rz2 J Lz2 ⟨ez2, hJ4, hJ8, hJk, eLz2⟩
  rw [ez2, eLz2]
  have hJQ : FQ I J := ⟨fun k h _ _ => hJk k h, fun j hj => hJ8 j (by omega)⟩
  have hJM := hJQ.mr hM
  refine gb_eq (tgt := 25) dX5_readingsOf_12 (by decide) (fun h1 => ?_) (fun h1 => ?_)
  · skip
    refine g_ic (v := nI 0) dX5_readingsOf_25 (by decide) ?_
    exact g_iret dX5_readingsOf_26 (⟨fun q9 => by rw [q9] at h1; exact absurd h1 (by decide), hJ4, hJQ, FL.refl _⟩)
  · skip
    have hP : (pB (∃ a b, SPN x y q a b) && inB z 8) = true := by rw [← h1, Bool.and_true]
    have hP2 := (Bool.and_eq_true _ _).mp hP
    obtain ⟨ex, ey, hab, hb⟩ := SPN_tn (by have := hM.2.2.1; omega) (pB_t.mp hP2.1)
    obtain ⟨ez, hc⟩ := inB_tn (by decide) hP2.2
    refine g_lv (lv' := [(0, .ref (γ.2.2 8)), (1, .int (nI (tn x))), (2, .int (nI (tn y))), (3, .int (nI (tn z)))]) (by rw [← ex, ← ey, ← ez]) ?_
    refine g_al_n 0 dX5_readingsOf_15 rfl ?_
    refine g_il_n 1 dX5_readingsOf_16 rfl ?_
    refine g_il_n 2 dX5_readingsOf_17 rfl ?_
    refine g_il_n 3 dX5_readingsOf_18 rfl ?_
    refine g_ci (r_V (st := []) (As := [.int (nI (tn x)), .int (nI (tn y)), .int (nI (tn z))]) (d := 4) 8 (by decide) rfl rfl (c_X5_countOf l γ J L P g n r9 q u hJM (tn x) (tn y) (tn z) hab hb hc) gX5_readingsOf_X5_countOf rfl ⟨rfl, by decide, by decide, rfl⟩ ⟨Nat.le_of_ble_eq_true rfl, Nat.le_of_ble_eq_true rfl⟩ rfl (Nat.le_of_ble_eq_true rfl) dX5_readingsOf_19 ⟨Nat.zero_le _, Nat.zero_le _⟩) ?_
    rintro rz3 K L2 ⟨ez3, hKQ, hK4, hKL⟩
    rw [ez3]
    refine g_goto (tgt := 26) dX5_readingsOf_22 (by decide) ?_
    exact g_iret dX5_readingsOf_26 (⟨fun _ => rfl, by rw [hK4, hJ4], hJQ.trans hKQ, hKL⟩)

theorem in_X5_has_5 : ∀ w ∈ wsX50, w ∈ wsX5_has := by decide +kernel
set_option maxRecDepth 100000 in
set_option maxHeartbeats 4000000 in
theorem c_X5_has (l : Launch) (γ : Gm) (I : IT) (L : LT) (P : PT) (g : GR) (n r9 q : Nat) (u : Nat → Nat) (hM : MR I g n r9 q u) (x y z v : Int32) : Ci l yX5_has wsX5_has 5 γ [.ref (γ.2.2 8), .int x, .int y, .int z, .int v] I L P (fun r I' L' => (((pB (∃ a b, SPN x y q a b) && inB z 8) && pB (∃ m, DP v m)) = true → r = bi ((ch g r9 (lxw g u) (tn x) (tn y) (tn z)).testBit (4 * (tn v / 10) + tn v % 10))) ∧ I' 8 4 = nI (cd2 (pB (∃ a b, SPN x y q a b) && inB z 8) (pB (∃ m, DP v m))) ∧ FQ I I' ∧ L' = L) := by
  refine Ci_of (own := RX5) (cc := cX5_has) (maxL := 5) (by decide) rfl rfl (Nat.le_of_ble_eq_true rfl) ?_
  refine g_sub (lv' := [(0, .ref (γ.2.2 8)), (1, .int x), (2, .int y), (3, .int z), (4, .int v)]) [0, 1, 2, 3, 4] rfl ?_
  refine g_al_n 0 dX5_has_0 rfl ?_
  refine g_al_n 0 dX5_has_1 rfl ?_
  refine g_il_n 1 dX5_has_2 rfl ?_
  refine g_il_n 2 dX5_has_3 rfl ?_
  refine g_il_n 3 dX5_has_4 rfl ?_
  refine g_ci (r_V (st := [.ref (γ.2.2 8)]) (As := [.int x, .int y, .int z]) (d := 1) 8 (by decide) rfl rfl (c_X5_isPart l γ I L P x y z q hM.2.1 hM.2.2.1) gX5_has_X5_isPart rfl ⟨rfl, by decide, by decide, rfl⟩ ⟨Nat.le_of_ble_eq_true rfl, Nat.le_of_ble_eq_true rfl⟩ rfl (Nat.le_of_ble_eq_true rfl) dX5_has_5 ⟨Nat.zero_le _, Nat.zero_le _⟩) ?_
  rintro rz1 Iz1 Lz1 ⟨ez1, eIz1, eLz1⟩
  rw [ez1, eIz1, eLz1]
  refine g_il 4 dX5_has_8 rfl ?_
  refine g_ci (r_S (st := [.int (bi (pB (∃ a b, SPN x y q a b) && inB z 8)), .ref (γ.2.2 8)]) (As := [.int v]) (d := 0) (c_X5_isPair l γ I L P v) gX5_has_X5_isPair rfl ⟨by decide, by decide, rfl⟩ ⟨Nat.le_of_ble_eq_true rfl, Nat.le_of_ble_eq_true rfl⟩ rfl (Nat.le_of_ble_eq_true rfl) dX5_has_10 ⟨Nat.zero_le _, Nat.zero_le _⟩) ?_
  rintro rz2 Iz2 Lz2 ⟨ez2, eIz2, eLz2⟩
  rw [ez2, eIz2, eLz2]
  refine g_ci (r_V (st := []) (As := [.int (bi (pB (∃ a b, SPN x y q a b) && inB z 8)), .int (bi (pB (∃ m, DP v m)))]) (d := 0) 8 (by decide) rfl rfl (c_X5_goes l γ I L P (pB (∃ a b, SPN x y q a b) && inB z 8) (pB (∃ m, DP v m))) gX5_has_X5_goes rfl ⟨rfl, by decide, by decide, rfl⟩ ⟨Nat.le_of_ble_eq_true rfl, Nat.le_of_ble_eq_true rfl⟩ rfl (Nat.le_of_ble_eq_true rfl) dX5_has_13 ⟨Nat.zero_le _, Nat.zero_le _⟩) ?_
  rintro rz3 J Lz3 ⟨ez3, hJ4, hJ8, hJk, eLz3⟩
  rw [ez3, eLz3]
  have hJQ : FQ I J := ⟨fun k h _ _ => hJk k h, fun j hj => hJ8 j (by omega)⟩
  have hJM := hJQ.mr hM
  refine gb_ne (tgt := 21) dX5_has_16 (by decide) (fun h1 => ?_) (fun h1 => ?_)
  · skip
    have hP3 := (Bool.and_eq_true _ _).mp h1
    have hP2 := (Bool.and_eq_true _ _).mp hP3.1
    obtain ⟨ex, ey, hab, hb⟩ := SPN_tn (by have := hM.2.2.1; omega) (pB_t.mp hP2.1)
    obtain ⟨ez, hc⟩ := inB_tn (by decide) hP2.2
    obtain ⟨ev, hv1, hv2⟩ := DP_tn (pB_t.mp hP3.2)
    have hq6 := hM.2.2.1
    refine g_lv (lv' := [(0, .ref (γ.2.2 8)), (1, .int (nI (tn x))), (2, .int (nI (tn y))), (3, .int (nI (tn z))), (4, .int (nI (tn v)))]) (by rw [← ex, ← ey, ← ez, ← ev]) ?_
    refine g_al_n 0 dX5_has_21 rfl ?_
    refine g_cv (r_V (st := []) (As := []) (d := 0) 8 (by decide) rfl rfl (c_X5_takes2 l γ J L P g n r9 q u hJM) gX5_has_X5_takes rfl ⟨rfl, by decide, by decide, rfl⟩ ⟨Nat.le_of_ble_eq_true rfl, Nat.le_of_ble_eq_true rfl⟩ rfl (Nat.le_of_ble_eq_true rfl) dX5_has_22 ⟨Nat.zero_le _, Nat.zero_le _⟩) ?_
    rintro K Lz4 ⟨hK3, hKx, hKQ, hK4, eLz4⟩
    rw [eLz4]
    have hKM := hKQ.mr hJM
    refine g_al_n 0 dX5_has_25 rfl ?_
    refine g_al_n 0 dX5_has_26 rfl ?_
    refine g_get 8 7 (by decide) rfl in_X5_has_5 rfl (by decide) (by decide +kernel) rfl rfl dX5_has_27 ?_
    refine g_top (v := nI r9) (hKM.1.cr) ?_
    refine g_cv (r_V (st := []) (As := [.int (nI r9)]) (d := 3) 8 (by decide) rfl rfl (c_X5_parses l γ K L P g n r9 r9 q u hKM.1 (Nat.le_refl _) hK3 hq6 hKx (fun p hp => (hM.2.2.2 p hp).2)) gX5_has_X5_parses rfl ⟨rfl, by decide, by decide, rfl⟩ ⟨Nat.le_of_ble_eq_true rfl, Nat.le_of_ble_eq_true rfl⟩ rfl (Nat.le_of_ble_eq_true rfl) dX5_has_30 ⟨Nat.zero_le _, Nat.zero_le _⟩) ?_
    rintro Iz5 Lz5 ⟨⟨F, eIz5, hF⟩, eLz5⟩
    rw [eIz5, eLz5]
    refine g_al_n 0 dX5_has_33 rfl ?_
    refine g_get (v := .ref (γ.2.2 28)) 8 12 (by decide) rfl in_X5_has_5 rfl (by decide) (by decide +kernel) rfl rfl dX5_has_34 ?_
    refine g_il_n 1 dX5_has_37 rfl ?_
    refine g_il_n 2 dX5_has_38 rfl ?_
    refine g_ci (r_S (st := [.ref (γ.2.2 28)]) (As := [.int (nI (tn x)), .int (nI (tn y))]) (d := 0) (c_X5_span l γ (va_up K 28 F) L P (tn x) (tn y)) gX5_has_X5_span rfl ⟨by decide, by decide, rfl⟩ ⟨Nat.le_of_ble_eq_true rfl, Nat.le_of_ble_eq_true rfl⟩ rfl (Nat.le_of_ble_eq_true rfl) dX5_has_39 ⟨Nat.zero_le _, Nat.zero_le _⟩) ?_
    rintro rz6 Iz6 Lz6 ⟨ez6, eIz6, eLz6⟩
    rw [ez6, eIz6, eLz6]
    refine g_il_n 3 dX5_has_42 rfl ?_
    refine g_iadd (v := nI ((tn x * 7 + tn y) * 8 + (tn z))) dX5_has_43 (nI_add _ _) ?_
    refine g_iald (v := nI (ch g r9 (lxw g u) (tn x) (tn y) (tn z))) 28 ((tn x * 7 + tn y) * 8 + (tn z)) (by decide) (by decide) (show _ < 336 by omega) (by rw [va_us]; exact hF (tn x) (tn y) (Nat.zero_le _) hab hb (tn z) hc) dX5_has_44 ?_
    refine g_ic (v := nI 4) dX5_has_45 (by decide) ?_
    refine g_il 4 dX5_has_46 rfl ?_
    refine g_bi (v := nI 10) dX5_has_48 (by decide) ?_
    refine g_idiv (v := nI ((tn v) / 10)) dX5_has_50 (by decide) (pk_div (by omega) (by omega) (by omega)) ?_
    refine g_imul (v := nI (4 * ((tn v) / 10))) dX5_has_51 (pk_mul _ _) ?_
    refine g_il 4 dX5_has_52 rfl ?_
    refine g_bi (v := nI 10) dX5_has_54 (by decide) ?_
    refine g_irem (v := nI ((tn v) % 10)) dX5_has_56 (by decide) (pk_rem (by omega) (by omega) (by omega)) ?_
    refine g_iadd (v := nI (4 * ((tn v) / 10) + ((tn v) % 10))) dX5_has_57 (nI_add _ _) ?_
    have hch : ch g r9 (lxw g u) (tn x) (tn y) (tn z) < 2 ^ 16 := ch_lt16 hab (fun p _ hp c => wset_lt (hM.1.val_lt ((hM.2.2.2 p (by omega)).2)))
    refine g_ishr (v := nI (ch g r9 (lxw g u) (tn x) (tn y) (tn z) / 2 ^ (4 * (tn v / 10) + tn v % 10))) dX5_has_58 (nI_shr (by omega) (by omega)) ?_
    refine g_ic (v := nI 1) dX5_has_59 (by decide) ?_
    refine g_iand (v := nI (ch g r9 (lxw g u) (tn x) (tn y) (tn z) / 2 ^ (4 * (tn v / 10) + tn v % 10) % 2)) dX5_has_60 (nI_and1 _) ?_
    refine g_ic (v := nI 1) dX5_has_61 (by decide) ?_
    refine gn_ne (tgt := 69) dX5_has_62 (by decide) (mod2_lt _) (by omega) (fun h2 => ?_) (fun h2 => ?_)
    · skip
      refine g_ic (v := nI 0) dX5_has_69 (by decide) ?_
      refine g_top (v := bi ((ch g r9 (lxw g u) (tn x) (tn y) (tn z)).testBit (4 * (tn v / 10) + tn v % 10))) (bi_0 ((bit_div _ _).mp (by omega))) ?_
      exact g_zret (bi_nar _) dX5_has_70 (⟨fun _ => rfl, by rw [va_up_ne _ _ (by decide), hK4, hJ4], (hJQ.trans hKQ).trans (FQ.up28 _ _), rfl⟩)
    · skip
      refine g_ic (v := nI 1) dX5_has_65 (by decide) ?_
      refine g_goto (tgt := 70) dX5_has_66 (by decide) ?_
      refine g_top (v := bi ((ch g r9 (lxw g u) (tn x) (tn y) (tn z)).testBit (4 * (tn v / 10) + tn v % 10))) (bi_1 ((bit_div1 _ _).mp h2)) ?_
      exact g_zret (bi_nar _) dX5_has_70 (⟨fun _ => rfl, by rw [va_up_ne _ _ (by decide), hK4, hJ4], (hJQ.trans hKQ).trans (FQ.up28 _ _), rfl⟩)
  · skip
    refine g_ic (v := nI 0) dX5_has_19 (by decide) ?_
    exact g_zret (rfl) dX5_has_20 (⟨fun q9 => by rw [q9] at h1; exact absurd h1 (by decide), hJ4, hJQ, rfl⟩)
