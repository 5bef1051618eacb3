/-! the class: its private calls -/

theorem in_X4_countReadings_4 : ∀ w ∈ wsX40, w ∈ wsX4_countReadings := by decide +kernel
set_option maxRecDepth 100000 in
set_option maxHeartbeats 4000000 in
theorem c_X4_countReadings (l : Launch) (γ : Gm) (I : IT) (L : LT) (P : PT) (g : GR) (n r9 q : Nat) (u : Nat → Nat) (hG : GW I g n r9 q u) (a b c : Nat) (hab : a < b) (hb : b ≤ q) (hc : c < 8) : Ci l yX4_countReadings wsX4_countReadings 4 γ [.ref (γ.2.2 0), .int (nI a), .int (nI b), .int (nI c)] I L P (fun r I' L' => r = nI (tld (sm (ct g r9 u a b c) 16)) ∧ FC I I' ∧ L' = L) := by
  refine Ci_of (own := RX4) (cc := cX4_countReadings) (maxL := 4) (by decide) rfl rfl (Nat.le_of_ble_eq_true rfl) ?_
  refine g_sub (lv' := [(0, .ref (γ.2.2 0)), (1, .int (nI a)), (2, .int (nI b)), (3, .int (nI c))]) [0, 1, 2, 3] rfl ?_
  have hq6 := hG.2.2.1
  refine g_al_n 0 dX4_countReadings_0 rfl ?_
  refine g_get (v := .ref (γ.2.2 3)) 0 5 (by decide) rfl in_X4_countReadings_4 rfl (by decide) (by decide +kernel) rfl rfl dX4_countReadings_1 ?_
  refine g_al_n 0 dX4_countReadings_4 rfl ?_
  refine g_get (v := .ref (γ.2.2 1)) 0 0 (by decide) rfl in_X4_countReadings_4 rfl (by decide) (by decide +kernel) rfl rfl dX4_countReadings_5 ?_
  refine g_al_n 0 dX4_countReadings_8 rfl ?_
  refine g_get (v := .ref (γ.2.2 12)) 0 1 (by decide) rfl in_X4_countReadings_4 rfl (by decide) (by decide +kernel) rfl rfl dX4_countReadings_9 ?_
  refine g_al_n 0 dX4_countReadings_12 rfl ?_
  refine g_pc (pc' := 13) rfl ?_
  refine g_get 0 2 (by decide) rfl in_X4_countReadings_4 rfl (by decide) (by decide +kernel) rfl rfl dX4_countReadings_13 ?_
  refine g_top (v := nI q) (hG.2.1) ?_
  refine g_cv (r_VN (st := []) (As := [.ref (γ.2.2 1), .ref (γ.2.2 12), .int (nI q)]) (d := 3) (host := RX4) 3 (by decide) rfl rfl (c_X0_fill l γ I L P g n r9 q u hG.1 hq6 (fun p hp => (hG.2.2.2 p hp).1) (fun p hp => (hG.2.2.2 p hp).2)) gX4_countReadings_X0_fill_n167 rfl nm_RX4_167 (by decide +kernel) (by decide +kernel) (by decide +kernel) ⟨by decide, by decide, rfl⟩ ⟨Nat.le_of_ble_eq_true rfl, Nat.le_of_ble_eq_true rfl⟩ rfl (Nat.le_of_ble_eq_true rfl) dX4_countReadings_16 ⟨Nat.zero_le _, Nat.zero_le _⟩) ?_
  rintro J Lz1 ⟨⟨hk, hT⟩, eLz1⟩
  rw [eLz1]
  have hJF : FC I J := fun k _ _ h9 => hk k (Or.inl h9)
  have hM := hT a b hab hb
  have hB := ct_sum_le (hG.1.ctb hab (by omega) (w := u)) hc
  refine g_al_n 0 dX4_countReadings_19 rfl ?_
  refine g_get (v := .ref (γ.2.2 3)) 0 5 (by decide) rfl in_X4_countReadings_4 rfl (by decide) (by decide +kernel) rfl rfl dX4_countReadings_20 ?_
  refine g_il_n 1 dX4_countReadings_23 rfl ?_
  refine g_il_n 2 dX4_countReadings_24 rfl ?_
  refine g_il_n 3 dX4_countReadings_25 rfl ?_
  refine g_ci0 (v := nI (sm (ct g r9 u a b c) 16)) (r_VN (st := []) (As := [.int (nI a), .int (nI b), .int (nI c)]) (d := 1) (host := RX4) 3 (by decide) rfl rfl (c_X0_countSpan l γ J L P a b c (ct g r9 u a b) hab (by omega) hc hM) gX4_countReadings_X0_countSpan_n171 rfl nm_RX4_171 (by decide +kernel) (by decide +kernel) (by decide +kernel) ⟨by decide, by decide, rfl⟩ ⟨Nat.le_of_ble_eq_true rfl, Nat.le_of_ble_eq_true rfl⟩ rfl (Nat.le_of_ble_eq_true rfl) dX4_countReadings_26 ⟨Nat.zero_le _, Nat.zero_le _⟩) ?_
  refine g_pc (pc' := 29) rfl ?_
  refine g_ci (r_S (st := []) (As := [.int (nI (sm (ct g r9 u a b c) 16))]) (d := 0) (c_X4_told l γ J L P (sm (ct g r9 u a b c) 16) (by omega)) gX4_countReadings_X4_told rfl ⟨by decide, by decide, rfl⟩ ⟨Nat.le_of_ble_eq_true rfl, Nat.le_of_ble_eq_true rfl⟩ rfl (Nat.le_of_ble_eq_true rfl) dX4_countReadings_29 ⟨Nat.zero_le _, Nat.zero_le _⟩) ?_
  rintro rz3 Iz3 Lz3 ⟨ez3, eIz3, eLz3⟩
  subst ez3
  rw [eIz3]
  rw [eLz3]
  exact g_iret dX4_countReadings_32 (⟨rfl, hJF, rfl⟩)

theorem in_X4_isSentenceWith_1 : ∀ w ∈ wsX10, w ∈ wsX4_isSentenceWith := by decide +kernel
theorem in_X4_isSentenceWith_4 : ∀ w ∈ wsX40, w ∈ wsX4_isSentenceWith := by decide +kernel
set_option maxRecDepth 100000 in
set_option maxHeartbeats 4000000 in
theorem c_X4_isSentenceWith (l : Launch) (γ : Gm) (I : IT) (L : LT) (P : PT) (g : GR) (n r9 q : Nat) (u : Nat → Nat) (hG : GW I g n r9 q u) (p w : Nat) (hp : p < q) (hw : w < n) : Ci l yX4_isSentenceWith wsX4_isSentenceWith 5 γ [.ref (γ.2.2 0), .int (nI p), .int (nI w)] I L P (fun r I' L' => r = bi (isS g r9 (ust u p w) q) ∧ FC I I' ∧ L' = L) := by
  refine Ci_of (own := RX4) (cc := cX4_isSentenceWith) (maxL := 3) (by decide) rfl rfl (Nat.le_of_ble_eq_true rfl) ?_
  refine g_sub (lv' := [(0, .ref (γ.2.2 0)), (1, .int (nI p)), (2, .int (nI w))]) [0, 1, 2] rfl ?_
  have hq6 := hG.2.2.1
  refine g_al_n 0 dX4_isSentenceWith_0 rfl ?_
  refine g_get (v := .ref (γ.2.2 12)) 0 1 (by decide) rfl in_X4_isSentenceWith_4 rfl (by decide) (by decide +kernel) rfl rfl dX4_isSentenceWith_1 ?_
  refine g_ic (v := nI 0) dX4_isSentenceWith_4 (by decide) ?_
  refine g_al_n 0 dX4_isSentenceWith_5 rfl ?_
  refine g_get (v := .ref (γ.2.2 13)) 0 3 (by decide) rfl in_X4_isSentenceWith_4 rfl (by decide) (by decide +kernel) rfl rfl dX4_isSentenceWith_6 ?_
  refine g_ic (v := nI 0) dX4_isSentenceWith_9 (by decide) ?_
  refine g_al_n 0 dX4_isSentenceWith_10 rfl ?_
  refine g_pc (pc' := 11) rfl ?_
  refine g_get 0 2 (by decide) rfl in_X4_isSentenceWith_4 rfl (by decide) (by decide +kernel) rfl rfl dX4_isSentenceWith_11 ?_
  refine g_top (v := nI q) (hG.2.1) ?_
  refine g_copy (q := q) 12 13 (by decide) (by decide) (by decide) (by decide) (by show q ≤ 6; exact hq6) (by show q ≤ 6; exact hq6) (by decide +kernel) (by decide +kernel) (by decide +kernel) (by decide +kernel) (Nat.le_of_ble_eq_true rfl) (by decide +kernel) dX4_isSentenceWith_14 ?_
  refine g_al_n 0 dX4_isSentenceWith_17 rfl ?_
  refine g_get (v := .ref (γ.2.2 13)) 0 3 (by decide) rfl in_X4_isSentenceWith_4 rfl (by decide) (by decide +kernel) rfl rfl dX4_isSentenceWith_18 ?_
  refine g_il_n 1 dX4_isSentenceWith_21 rfl ?_
  refine g_il_n 2 dX4_isSentenceWith_22 rfl ?_
  refine g_iast 13 p (by decide) (by decide) (show p < 6 by omega) dX4_isSentenceWith_23 ?_
  obtain ⟨F, eF⟩ : ∃ F, F = upd (va_up I 13 (va_cpy (I 12) (I 13) 0 0 q) 13) p (nI w) := ⟨_, rfl⟩
  have hF : ∀ j, j < q → F j = nI (ust u p w j) := fun j hj => by
    rw [eF, va_us]
    by_cases e : j = p
    · subst e; rw [upd_s, ust_s]
    · rw [upd_n _ _ e, ust_n _ _ e, va_cpy, if_pos ⟨Nat.zero_le _, by omega⟩, Nat.zero_add, Nat.sub_zero]; exact (hG.2.2.2 j hj).1
  refine g_eq (I' := va_up I 13 F) (by rw [eF, va_uu]) rfl ?_
  have hJF : FC I (va_up I 13 F) := FC.up13 I F
  have hJG := hJF.gw hG
  obtain ⟨J, eJ⟩ : ∃ J, J = va_up I 13 F := ⟨_, rfl⟩
  have hJT : ∀ j, j < q → J 13 j = nI (ust u p w j) := fun j hj => by rw [eJ, va_us]; exact hF j hj
  rw [← eJ] at hJF hJG
  refine g_eq (I' := J) eJ.symm rfl ?_
  refine g_al_n 0 dX4_isSentenceWith_24 rfl ?_
  refine g_pc (pc' := 25) rfl ?_
  refine g_get (v := .ref (γ.2.2 2)) 0 4 (by decide) rfl in_X4_isSentenceWith_4 rfl (by decide) (by decide +kernel) rfl rfl dX4_isSentenceWith_25 ?_
  refine g_al_n 0 dX4_isSentenceWith_28 rfl ?_
  refine g_get (v := .ref (γ.2.2 1)) 0 0 (by decide) rfl in_X4_isSentenceWith_4 rfl (by decide) (by decide +kernel) rfl rfl dX4_isSentenceWith_29 ?_
  refine g_al_n 0 dX4_isSentenceWith_32 rfl ?_
  refine g_get (v := .ref (γ.2.2 13)) 0 3 (by decide) rfl in_X4_isSentenceWith_4 rfl (by decide) (by decide +kernel) rfl rfl dX4_isSentenceWith_33 ?_
  refine g_al_n 0 dX4_isSentenceWith_36 rfl ?_
  refine g_get 0 2 (by decide) rfl in_X4_isSentenceWith_4 rfl (by decide) (by decide +kernel) rfl rfl dX4_isSentenceWith_37 ?_
  refine g_top (v := nI q) (hJG.2.1) ?_
  refine g_al_n 0 dX4_isSentenceWith_40 rfl ?_
  refine g_pc (pc' := 41) rfl ?_
  refine g_get (v := .ref (γ.2.2 1)) 0 0 (by decide) rfl in_X4_isSentenceWith_4 rfl (by decide) (by decide +kernel) rfl rfl dX4_isSentenceWith_41 ?_
  refine g_getN 1 3 (by decide) rfl in_X4_isSentenceWith_1 rfl (by decide) nw_RX4_93 rfl rfl dX4_isSentenceWith_44 ?_
  refine g_top (v := nI r9) (hJG.1.cr) ?_
  refine g_cv (r_VN (st := []) (As := [.ref (γ.2.2 1), .ref (γ.2.2 13), .int (nI q), .int (nI r9)]) (d := 4) (host := RX4) 2 (by decide) rfl rfl (c_X2_parse l γ J L P g n r9 r9 q 13 (ust u p w) hJG.1 (Nat.le_refl _) hq6 (Or.inr rfl) hJT (ust_lt (fun p hp => (hG.2.2.2 p hp).2) hw)) gX4_isSentenceWith_X2_parse_n129 rfl nm_RX4_129 (by decide +kernel) (by decide +kernel) (by decide +kernel) ⟨by decide, by decide, rfl⟩ ⟨Nat.le_of_ble_eq_true rfl, Nat.le_of_ble_eq_true rfl⟩ rfl (Nat.le_of_ble_eq_true rfl) dX4_isSentenceWith_47 ⟨Nat.zero_le _, Nat.zero_le _⟩) ?_
  rintro Iz1 Lz1 ⟨⟨F1, eIz1, hF1⟩, eLz1⟩
  rw [eIz1]
  rw [eLz1]
  refine g_al_n 0 dX4_isSentenceWith_50 rfl ?_
  refine g_get (v := .ref (γ.2.2 2)) 0 4 (by decide) rfl in_X4_isSentenceWith_4 rfl (by decide) (by decide +kernel) rfl rfl dX4_isSentenceWith_51 ?_
  refine g_al_n 0 dX4_isSentenceWith_54 rfl ?_
  refine g_get 0 2 (by decide) rfl in_X4_isSentenceWith_4 rfl (by decide) (by decide +kernel) rfl rfl dX4_isSentenceWith_55 ?_
  refine g_top (v := nI q) (by rw [va_up_ne _ _ (by decide)]; exact hJG.2.1) ?_
  refine g_ci0 (v := bi (isS g r9 (ust u p w) q)) (r_VN (st := []) (As := [.int (nI q)]) (d := 2) (host := RX4) 2 (by decide) rfl rfl (c_X2_holdsSentence l γ (va_up J 19 F1) L P q (ch g r9 (lxw g (ust u p w)) 0 q 0) hq6 (fun h0 => by rw [va_us]; exact hF1 0 q h0 (Nat.le_refl _) 0 (by decide)) (by
      by_cases h0 : 0 < q
      · exact Nat.lt_trans (ch_lt16 h0 (fun p9 _ h9 c => wset_lt (hG.1.val_lt (ust_lt (fun p hp => (hG.2.2.2 p hp).2) hw p9 h9)))) (by decide)
      · omega)) gX4_isSentenceWith_X2_holdsSentence_n139 rfl nm_RX4_139 (by decide +kernel) (by decide +kernel) (by decide +kernel) ⟨by decide, by decide, rfl⟩ ⟨Nat.le_of_ble_eq_true rfl, Nat.le_of_ble_eq_true rfl⟩ rfl (Nat.le_of_ble_eq_true rfl) dX4_isSentenceWith_58 ⟨Nat.zero_le _, Nat.zero_le _⟩) ?_
  refine g_pc (pc' := 61) rfl ?_
  exact g_zret (bi_nar _) dX4_isSentenceWith_61 (⟨rfl, hJF.trans (FC.up19 J F1), rfl⟩)

theorem in_X4_rowsOfLength_1 : ∀ w ∈ wsX10, w ∈ wsX4_rowsOfLength := by decide +kernel
theorem in_X4_rowsOfLength_4 : ∀ w ∈ wsX40, w ∈ wsX4_rowsOfLength := by decide +kernel
set_option maxRecDepth 100000 in
set_option maxHeartbeats 4000000 in
theorem c_X4_rowsOfLength (l : Launch) (γ : Gm) (I : IT) (L : LT) (P : PT) (n s : Nat) (hn : I 1 0 = nI n) (hs : s < 2 ^ 31) : Ci l yX4_rowsOfLength wsX4_rowsOfLength 0 γ [.ref (γ.2.2 0), .int (nI s)] I L P (fun r I' L' => r = nI (n ^ s) ∧ I' = I ∧ L' = L) := by
  refine Ci_of (own := RX4) (cc := cX4_rowsOfLength) (maxL := 4) (by decide) rfl rfl (Nat.le_of_ble_eq_true rfl) ?_
  refine g_sub (lv' := [(0, .ref (γ.2.2 0)), (1, .int (nI s))]) [0, 1] rfl ?_
  refine g_ic (v := nI 1) dX4_rowsOfLength_0 (by decide) ?_
  refine g_is_n (lv' := [(2, .int (nI 1)), (0, .ref (γ.2.2 0)), (1, .int (nI s))]) dX4_rowsOfLength_1 (by decide) rfl ?_
  refine g_ic (v := nI 0) dX4_rowsOfLength_2 (by decide) ?_
  refine g_is_n (lv' := [(3, .int (nI 0)), (2, .int (nI 1)), (0, .ref (γ.2.2 0)), (1, .int (nI s))]) dX4_rowsOfLength_3 (by decide) rfl ?_
  have lp : ∀ (z : Nat) (p : Nat) (hp : p + z = s), G E0 l cX4_rowsOfLength 4 wsX4_rowsOfLength RX4 (some .int) (rmd 0) γ P (AE γ) (Qi γ P (fun r I' L' => r = nI (n ^ s) ∧ I' = I ∧ L' = L)) 0 0 4 [(0, .ref (γ.2.2 0)), (1, .int (nI s)), (2, .int (nI (n ^ p))), (3, .int (nI p))] [] I L := by
    intro z
    induction z with
    | zero =>
      intro p hp
      simp only [Nat.add_zero] at hp
      refine g_il_n 3 dX4_rowsOfLength_4 rfl ?_
      refine g_il_n 1 dX4_rowsOfLength_5 rfl ?_
      refine gn_ge (tgt := 25) dX4_rowsOfLength_6 (by decide) (by omega) (by omega) (fun h1 => ?_) (fun h1 => ?_)
      · skip
        refine g_pc (pc' := 25) rfl ?_
        refine g_il_n 2 dX4_rowsOfLength_25 rfl ?_
        exact g_iret dX4_rowsOfLength_26 (⟨by rw [hp], rfl, rfl⟩)
      · skip
        exfalso; omega
    | succ z ih =>
      intro p hp
      refine g_il_n 3 dX4_rowsOfLength_4 rfl ?_
      refine g_il_n 1 dX4_rowsOfLength_5 rfl ?_
      refine gn_ge (tgt := 25) dX4_rowsOfLength_6 (by decide) (by omega) (by omega) (fun h1 => ?_) (fun h1 => ?_)
      · skip
        exfalso; omega
      · skip
        refine g_il_n 2 dX4_rowsOfLength_9 rfl ?_
        refine g_al_n 0 dX4_rowsOfLength_10 rfl ?_
        refine g_get (v := .ref (γ.2.2 1)) 0 0 (by decide) rfl in_X4_rowsOfLength_4 rfl (by decide) (by decide +kernel) rfl rfl dX4_rowsOfLength_11 ?_
        refine g_pc (pc' := 14) rfl ?_
        refine g_getN 1 0 (by decide) rfl in_X4_rowsOfLength_1 rfl (by decide) nw_RX4_59 rfl rfl dX4_rowsOfLength_14 ?_
        refine g_top (v := nI n) (hn) ?_
        refine g_imul (v := nI ((n ^ p) * n)) dX4_rowsOfLength_17 (pk_mul _ _) ?_
        refine g_is_n (lv' := [(2, .int (nI ((n ^ p) * n))), (0, .ref (γ.2.2 0)), (1, .int (nI s)), (3, .int (nI p))]) dX4_rowsOfLength_18 (by decide) rfl ?_
        refine g_inc (v := nI (p + 1)) (lv' := [(3, .int (nI (p + 1))), (2, .int (nI ((n ^ p) * n))), (0, .ref (γ.2.2 0)), (1, .int (nI s))]) 3 dX4_rowsOfLength_19 rfl (inc_1 _) (by decide) rfl ?_
        refine g_goto (tgt := 4) dX4_rowsOfLength_22 (by decide) ?_
        refine g_sub [2, 3, 1, 0] rfl ?_
        refine g_lv (lv' := [(0, .ref (γ.2.2 0)), (1, .int (nI s)), (2, .int (nI (n ^ (p + 1)))), (3, .int (nI (p + 1)))]) (by rw [Nat.pow_succ]; rfl) ?_
        exact ih (p + 1) (by omega)
  refine g_sub [2, 3, 1, 0] rfl ?_
  exact lp s 0 (Nat.zero_add _)

theorem in_X4_clearTrial_4 : ∀ w ∈ wsX40, w ∈ wsX4_clearTrial := by decide +kernel
set_option maxRecDepth 100000 in
set_option maxHeartbeats 4000000 in
theorem c_X4_clearTrial (l : Launch) (γ : Gm) (I : IT) (L : LT) (P : PT)  : Cv l yX4_clearTrial wsX4_clearTrial 0 γ [.ref (γ.2.2 0)] I L P (fun I' L' => (∃ F : Nat → Int32, I' = va_up I 13 F ∧ ∀ p, p < 6 → F p = nI 0) ∧ L' = L) := by
  refine Cv_of (own := RX4) (cc := cX4_clearTrial) (maxL := 2) (by decide) rfl rfl (Nat.le_of_ble_eq_true rfl) ?_
  refine g_sub (lv' := [(0, .ref (γ.2.2 0))]) [0] rfl ?_
  refine g_ic (v := nI 0) dX4_clearTrial_0 (by decide) ?_
  refine g_is_n (lv' := [(1, .int (nI 0)), (0, .ref (γ.2.2 0))]) dX4_clearTrial_1 (by decide) rfl ?_
  have lp : ∀ (z : Nat) (p : Nat) (F : Nat → Int32) (hp : p + z = 6) (hF : ∀ j, j < p → F j = nI 0), G E0 l cX4_clearTrial 2 wsX4_clearTrial RX4 none (rmd 0) γ P (AE γ) (Qv γ P (fun I' L' => (∃ F : Nat → Int32, I' = va_up I 13 F ∧ ∀ p, p < 6 → F p = nI 0) ∧ L' = L)) 0 0 2 [(0, .ref (γ.2.2 0)), (1, .int (nI p))] [] (va_up I 13 F) L := by
    intro z
    induction z with
    | zero =>
      intro p F hp hF
      simp only [Nat.add_zero] at hp
      refine g_il_n 1 dX4_clearTrial_2 rfl ?_
      refine g_bi (v := nI 6) dX4_clearTrial_3 (by decide) ?_
      refine gn_ge (tgt := 21) dX4_clearTrial_5 (by decide) (by omega) (by omega) (fun h1 => ?_) (fun h1 => ?_)
      · skip
        exact g_vret dX4_clearTrial_21 (⟨⟨F, rfl, fun p9 h9 => hF p9 (by omega)⟩, rfl⟩)
      · skip
        exfalso; omega
    | succ z ih =>
      intro p F hp hF
      refine g_il_n 1 dX4_clearTrial_2 rfl ?_
      refine g_pc (pc' := 3) rfl ?_
      refine g_bi (v := nI 6) dX4_clearTrial_3 (by decide) ?_
      refine gn_ge (tgt := 21) dX4_clearTrial_5 (by decide) (by omega) (by omega) (fun h1 => ?_) (fun h1 => ?_)
      · skip
        exfalso; omega
      · skip
        refine g_al_n 0 dX4_clearTrial_8 rfl ?_
        refine g_get (v := .ref (γ.2.2 13)) 0 3 (by decide) rfl in_X4_clearTrial_4 rfl (by decide) (by decide +kernel) rfl rfl dX4_clearTrial_9 ?_
        refine g_il_n 1 dX4_clearTrial_12 rfl ?_
        refine g_ic (v := nI 0) dX4_clearTrial_13 (by decide) ?_
        refine g_iast 13 p (by decide) (by decide) (show p < 6 by omega) dX4_clearTrial_14 ?_
        refine g_eq (I' := va_up I 13 (upd F p (nI 0))) (va_uw _ _ _ _ _) rfl ?_
        refine g_inc (v := nI (p + 1)) (lv' := [(1, .int (nI (p + 1))), (0, .ref (γ.2.2 0))]) 1 dX4_clearTrial_15 rfl (inc_1 _) (by decide) rfl ?_
        refine g_pc (pc' := 18) rfl ?_
        refine g_goto (tgt := 2) dX4_clearTrial_18 (by decide) ?_
        refine g_sub [1, 0] rfl ?_
        exact ih (p + 1) (upd F p (nI 0)) (by omega) (fun j hj => by
          by_cases e : j = p
          · subst e; rw [upd_s]
          · rw [upd_n _ _ e]; exact hF j (by omega))
  refine g_sub [1, 0] rfl ?_
  refine g_eq (I' := va_up I 13 (I 13)) (va_id _ _).symm rfl ?_
  exact lp 6 0 _ rfl (fun j hj => by omega)

theorem in_X4_nextTrial_1 : ∀ w ∈ wsX10, w ∈ wsX4_nextTrial := by decide +kernel
theorem in_X4_nextTrial_4 : ∀ w ∈ wsX40, w ∈ wsX4_nextTrial := by decide +kernel
set_option maxRecDepth 100000 in
set_option maxHeartbeats 4000000 in
theorem c_X4_nextTrial (l : Launch) (γ : Gm) (I : IT) (L : LT) (P : PT) (n s k : Nat) (hn : I 1 0 = nI n) (hn9 : n ≤ 9) (hn0 : 0 < n) (hs : s ≤ 6) (hk : k < n ^ s) (hT : ∀ p, p < s → I 13 p = nI (dig n s k p)) : Ci l yX4_nextTrial wsX4_nextTrial 0 γ [.ref (γ.2.2 0), .int (nI s)] I L P (fun r I' L' => (∃ c, r = nI c ∧ c ≤ s ∧ (k + 1 < n ^ s → (∀ p, p < s → I' 13 p = nI (dig n s (k + 1) p)) ∧ ∀ p, p < c → dig n s (k + 1) p = dig n s k p)) ∧ (∀ j, j ≠ 13 → I' j = I j) ∧ L' = L) := by
  refine Ci_of (own := RX4) (cc := cX4_nextTrial) (maxL := 3) (by decide) rfl rfl (Nat.le_of_ble_eq_true rfl) ?_
  refine g_sub (lv' := [(0, .ref (γ.2.2 0)), (1, .int (nI s))]) [0, 1] rfl ?_
  refine g_il_n 1 dX4_nextTrial_0 rfl ?_
  refine g_ic (v := nI 1) dX4_nextTrial_1 (by decide) ?_
  refine g_isub (v := dn s) dX4_nextTrial_2 (dn_sub1 _) ?_
  refine g_is_n (lv' := [(2, .int (dn s)), (0, .ref (γ.2.2 0)), (1, .int (nI s))]) dX4_nextTrial_3 (by decide) rfl ?_
  have lp : ∀ (f : Nat) (F : Nat → Int32) (hf : f ≤ s) (hd : ∃ a, k + 1 = (a + 1) * n ^ (s - f)) (hlo : ∀ p, p < f → F p = nI (dig n s k p)) (hhi : ∀ p, f ≤ p → p < s → F p = nI 0), G E0 l cX4_nextTrial 3 wsX4_nextTrial RX4 (some .int) (rmd 0) γ P (AE γ) (Qi γ P (fun r I' L' => (∃ c, r = nI c ∧ c ≤ s ∧ (k + 1 < n ^ s → (∀ p, p < s → I' 13 p = nI (dig n s (k + 1) p)) ∧ ∀ p, p < c → dig n s (k + 1) p = dig n s k p)) ∧ (∀ j, j ≠ 13 → I' j = I j) ∧ L' = L)) 0 0 4 [(0, .ref (γ.2.2 0)), (1, .int (nI s)), (2, .int (dn f))] [] (va_up I 13 F) L := by
    intro f
    induction f with
    | zero =>
      intro F hf hd hlo hhi
      refine g_lv (lv' := [(0, .ref (γ.2.2 0)), (1, .int (nI s)), (2, .int (-1 : Int32))]) rfl ?_
      refine g_il_n 2 dX4_nextTrial_4 rfl ?_
      refine g_if_lt (tgt := 49) dX4_nextTrial_5 (by decide) (fun h1 => ?_) (fun h1 => ?_)
      · skip
        refine g_ic (v := nI 0) dX4_nextTrial_49 (by decide) ?_
        refine g_pc (pc' := 50) rfl ?_
        exact g_iret dX4_nextTrial_50 (⟨⟨0, rfl, Nat.zero_le _, fun q9 => by
            obtain ⟨a, ha⟩ := hd
            rw [Nat.sub_zero, Nat.succ_mul] at ha
            omega⟩, fun j hj => va_up_ne _ _ hj, rfl⟩)
      · skip
        exact absurd (by decide) h1
    | succ f ih =>
      intro F hf hd hlo hhi
      refine g_lv (lv' := [(0, .ref (γ.2.2 0)), (1, .int (nI s)), (2, .int (nI f))]) rfl ?_
      obtain ⟨a, ha⟩ := hd
      obtain ⟨d1, d2⟩ := dg_old hn0 hf ha (Nat.lt_succ_self f)
      rw [show f + 1 - 1 - f = 0 by omega, Nat.pow_zero, Nat.div_one] at d1 d2
      refine g_il_n 2 dX4_nextTrial_4 rfl ?_
      refine gz_lt (tgt := 49) dX4_nextTrial_5 (by decide) (by omega) (fun h1 => ?_) (fun h1 => ?_)
      · skip
        exfalso; omega
      · skip
        refine g_al_n 0 dX4_nextTrial_8 rfl ?_
        refine g_get (v := .ref (γ.2.2 13)) 0 3 (by decide) rfl in_X4_nextTrial_4 rfl (by decide) (by decide +kernel) rfl rfl dX4_nextTrial_9 ?_
        refine g_il_n 2 dX4_nextTrial_12 rfl ?_
        refine g_dup2 dX4_nextTrial_13 rfl rfl ?_
        refine g_iald (v := nI (dig n s k f)) 13 f (by decide) (by decide) (show f < 6 by omega) (by rw [va_us]; exact hlo f (by omega)) dX4_nextTrial_14 ?_
        refine g_pc (pc' := 15) rfl ?_
        refine g_ic (v := nI 1) dX4_nextTrial_15 (by decide) ?_
        refine g_iadd (v := nI (dig n s k f + 1)) dX4_nextTrial_16 (nI_add _ _) ?_
        refine g_iast 13 f (by decide) (by decide) (show f < 6 by omega) dX4_nextTrial_17 ?_
        refine g_eq (I' := va_up I 13 (upd F f (nI (dig n s k f + 1)))) (va_uw _ _ _ _ _) rfl ?_
        refine g_al_n 0 dX4_nextTrial_18 rfl ?_
        refine g_get (v := .ref (γ.2.2 13)) 0 3 (by decide) rfl in_X4_nextTrial_4 rfl (by decide) (by decide +kernel) rfl rfl dX4_nextTrial_19 ?_
        refine g_il_n 2 dX4_nextTrial_22 rfl ?_
        refine g_iald (v := nI (dig n s k f + 1)) 13 f (by decide) (by decide) (show f < 6 by omega) (by rw [va_us, upd_s]) dX4_nextTrial_23 ?_
        refine g_al_n 0 dX4_nextTrial_24 rfl ?_
        refine g_pc (pc' := 25) rfl ?_
        refine g_get (v := .ref (γ.2.2 1)) 0 0 (by decide) rfl in_X4_nextTrial_4 rfl (by decide) (by decide +kernel) rfl rfl dX4_nextTrial_25 ?_
        refine g_getN 1 0 (by decide) rfl in_X4_nextTrial_1 rfl (by decide) nw_RX4_59 rfl rfl dX4_nextTrial_28 ?_
        refine g_top (v := nI n) (by rw [va_up_ne _ _ (by decide)]; exact hn) ?_
        have hdl : dig n s k f < n := dig_lt hn0
        refine gn_ge (tgt := 36) dX4_nextTrial_31 (by decide) (by omega) (by omega) (fun h2 => ?_) (fun h2 => ?_)
        · skip
          refine g_al_n 0 dX4_nextTrial_36 rfl ?_
          refine g_get (v := .ref (γ.2.2 13)) 0 3 (by decide) rfl in_X4_nextTrial_4 rfl (by decide) (by decide +kernel) rfl rfl dX4_nextTrial_37 ?_
          refine g_il_n 2 dX4_nextTrial_40 rfl ?_
          refine g_ic (v := nI 0) dX4_nextTrial_41 (by decide) ?_
          refine g_iast 13 f (by decide) (by decide) (show f < 6 by omega) dX4_nextTrial_42 ?_
          refine g_eq (I' := va_up I 13 (upd (upd F f (nI (dig n s k f + 1))) f (nI 0))) (va_uw _ _ _ _ _) rfl ?_
          refine g_pc (pc' := 43) rfl ?_
          refine g_inc (v := dn f) (lv' := [(2, .int (dn f)), (0, .ref (γ.2.2 0)), (1, .int (nI s))]) 2 dX4_nextTrial_43 rfl (dec_1 _) (by decide) rfl ?_
          refine g_goto (tgt := 4) dX4_nextTrial_46 (by decide) ?_
          refine g_sub [1, 2, 0] rfl ?_
          exact ih (upd (upd F f (nI (dig n s k f + 1))) f (nI 0)) (by omega) (dg_up hf ha (by rw [← d1]; omega) hn0) (fun p h5 => by rw [upd_n _ _ (by omega), upd_n _ _ (by omega)]; exact hlo p (by omega)) (fun p h5 h6 => by
            by_cases e : p = f
            · subst e; rw [upd_s]
            · rw [upd_n _ _ e, upd_n _ _ e]; exact hhi p (by omega) h6)
        · skip
          refine g_il_n 2 dX4_nextTrial_34 rfl ?_
          exact g_iret dX4_nextTrial_35 (⟨⟨f, rfl, by omega, fun q9 => ⟨fun p h9 => by
                rw [va_us]
                by_cases e : p = f
                · subst e; rw [upd_s, d2, (dg_in (by rw [← d1]; omega)).2, ← d1]
                · rw [upd_n _ _ e]
                  by_cases e2 : p < f
                  · rw [hlo p (by omega), (dg_old hn0 hf ha (show p < f + 1 by omega)).1, (dg_old hn0 hf ha (show p < f + 1 by omega)).2, show f + 1 - 1 - p = (f - 1 - p) + 1 by omega, dg_same (by rw [← d1]; omega)]
                  · rw [hhi p (by omega) h9, dg_zero hn0 ha (by omega) h9], fun p h9 => by rw [(dg_old hn0 hf ha (show p < f + 1 by omega)).1, (dg_old hn0 hf ha (show p < f + 1 by omega)).2, show f + 1 - 1 - p = (f - 1 - p) + 1 by omega, dg_same (by rw [← d1]; omega)]⟩⟩, fun j hj => va_up_ne _ _ hj, rfl⟩)
  refine g_sub [1, 2, 0] rfl ?_
  refine g_eq (I' := va_up I 13 (I 13)) (va_id _ _).symm rfl ?_
  exact lp s _ (Nat.le_refl _) ⟨k, by rw [Nat.sub_self, Nat.pow_zero, Nat.mul_one]⟩ hT (fun p h1 h2 => by omega)

theorem in_X4_trialAsDigits_4 : ∀ w ∈ wsX40, w ∈ wsX4_trialAsDigits := by decide +kernel
set_option maxRecDepth 100000 in
set_option maxHeartbeats 4000000 in
theorem c_X4_trialAsDigits (l : Launch) (γ : Gm) (I : IT) (L : LT) (P : PT) (s : Nat) (x : Nat → Nat) (hs : s ≤ 6) (hT : ∀ p, p < s → I 13 p = nI (x p)) : Ci l yX4_trialAsDigits wsX4_trialAsDigits 0 γ [.ref (γ.2.2 0), .int (nI s)] I L P (fun r I' L' => r = nI (tdig x s) ∧ I' = I ∧ L' = L) := by
  refine Ci_of (own := RX4) (cc := cX4_trialAsDigits) (maxL := 4) (by decide) rfl rfl (Nat.le_of_ble_eq_true rfl) ?_
  refine g_sub (lv' := [(0, .ref (γ.2.2 0)), (1, .int (nI s))]) [0, 1] rfl ?_
  refine g_bi (v := nI 9) dX4_trialAsDigits_0 (by decide) ?_
  refine g_is_n (lv' := [(2, .int (nI 9)), (0, .ref (γ.2.2 0)), (1, .int (nI s))]) dX4_trialAsDigits_2 (by decide) rfl ?_
  refine g_ic (v := nI 0) dX4_trialAsDigits_3 (by decide) ?_
  refine g_is_n (lv' := [(3, .int (nI 0)), (2, .int (nI 9)), (0, .ref (γ.2.2 0)), (1, .int (nI s))]) dX4_trialAsDigits_4 (by decide) rfl ?_
  have lp : ∀ (z : Nat) (p : Nat) (t : Nat) (hp : p + z = s) (ht : t = tdig x p), G E0 l cX4_trialAsDigits 4 wsX4_trialAsDigits RX4 (some .int) (rmd 0) γ P (AE γ) (Qi γ P (fun r I' L' => r = nI (tdig x s) ∧ I' = I ∧ L' = L)) 0 0 5 [(0, .ref (γ.2.2 0)), (1, .int (nI s)), (2, .int (nI t)), (3, .int (nI p))] [] I L := by
    intro z
    induction z with
    | zero =>
      intro p t hp ht
      simp only [Nat.add_zero] at hp
      refine g_il_n 3 dX4_trialAsDigits_5 rfl ?_
      refine g_il_n 1 dX4_trialAsDigits_6 rfl ?_
      refine gn_ge (tgt := 28) dX4_trialAsDigits_7 (by decide) (by omega) (by omega) (fun h1 => ?_) (fun h1 => ?_)
      · skip
        refine g_pc (pc' := 28) rfl ?_
        refine g_il_n 2 dX4_trialAsDigits_28 rfl ?_
        exact g_iret dX4_trialAsDigits_29 (⟨by rw [ht, hp], rfl, rfl⟩)
      · skip
        exfalso; omega
    | succ z ih =>
      intro p t hp ht
      refine g_il_n 3 dX4_trialAsDigits_5 rfl ?_
      refine g_il_n 1 dX4_trialAsDigits_6 rfl ?_
      refine gn_ge (tgt := 28) dX4_trialAsDigits_7 (by decide) (by omega) (by omega) (fun h1 => ?_) (fun h1 => ?_)
      · skip
        exfalso; omega
      · skip
        refine g_bi (v := nI 10) dX4_trialAsDigits_10 (by decide) ?_
        refine g_il_n 2 dX4_trialAsDigits_12 rfl ?_
        refine g_imul (v := nI (10 * t)) dX4_trialAsDigits_13 (pk_mul _ _) ?_
        refine g_pc (pc' := 14) rfl ?_
        refine g_al_n 0 dX4_trialAsDigits_14 rfl ?_
        refine g_get (v := .ref (γ.2.2 13)) 0 3 (by decide) rfl in_X4_trialAsDigits_4 rfl (by decide) (by decide +kernel) rfl rfl dX4_trialAsDigits_15 ?_
        refine g_il_n 3 dX4_trialAsDigits_18 rfl ?_
        refine g_iald (v := nI (x p)) 13 p (by decide) (by decide) (show p < 6 by omega) (hT p (by omega)) dX4_trialAsDigits_19 ?_
        refine g_iadd (v := nI (10 * t + (x p))) dX4_trialAsDigits_20 (nI_add _ _) ?_
        refine g_is_n (lv' := [(2, .int (nI (10 * t + (x p)))), (0, .ref (γ.2.2 0)), (1, .int (nI s)), (3, .int (nI p))]) dX4_trialAsDigits_21 (by decide) rfl ?_
        refine g_inc (v := nI (p + 1)) (lv' := [(3, .int (nI (p + 1))), (2, .int (nI (10 * t + (x p)))), (0, .ref (γ.2.2 0)), (1, .int (nI s))]) 3 dX4_trialAsDigits_22 rfl (inc_1 _) (by decide) rfl ?_
        refine g_goto (tgt := 5) dX4_trialAsDigits_25 (by decide) ?_
        refine g_sub [2, 3, 1, 0] rfl ?_
        exact ih (p + 1) (10 * t + x p) (by omega) (by rw [ht]; rfl)
  refine g_sub [2, 3, 1, 0] rfl ?_
  exact lp s 0 9 (Nat.zero_add _) rfl
