/-! the class: its calls that only look -/

theorem in_X4_said_4 : ∀ w ∈ wsX40, w ∈ wsX4_said := by decide +kernel
set_option maxRecDepth 100000 in
set_option maxHeartbeats 4000000 in
theorem c_X4_said (l : Launch) (γ : Gm) (I : IT) (L : LT) (P : PT) (g : GR) (n r9 q : Nat) (u : Nat → Nat) (hG : GW I g n r9 q u) : Ci l yX4_said wsX4_said 0 γ [.ref (γ.2.2 0)] I L P (fun r I' L' => r = nI q ∧ GW I' g n r9 q u ∧ FG I I' ∧ L' = L) := by
  refine Ci_of (own := RX4) (cc := cX4_said) (maxL := 1) (by decide) rfl rfl (Nat.le_of_ble_eq_true rfl) ?_
  refine g_sub (lv' := [(0, .ref (γ.2.2 0))]) [0] rfl ?_
  refine g_al_n 0 dX4_said_0 rfl ?_
  refine g_get 0 2 (by decide) rfl in_X4_said_4 rfl (by decide) (by decide +kernel) rfl rfl dX4_said_1 ?_
  refine g_top (v := nI q) (hG.2.1) ?_
  exact g_iret dX4_said_4 (⟨rfl, (FC.refl I).gw hG, (FC.refl I).fg, rfl⟩)

theorem in_X4_readings_4 : ∀ w ∈ wsX40, w ∈ wsX4_readings := by decide +kernel
set_option maxRecDepth 100000 in
set_option maxHeartbeats 4000000 in
theorem c_X4_readings (l : Launch) (γ : Gm) (I : IT) (L : LT) (P : PT) (g : GR) (n r9 q : Nat) (u : Nat → Nat) (hG : GW I g n r9 q u) : Ci l yX4_readings wsX4_readings 5 γ [.ref (γ.2.2 0)] I L P (fun r I' L' => r = nI (rdg g r9 u q) ∧ GW I' g n r9 q u ∧ FG I I' ∧ L' = L) := by
  refine Ci_of (own := RX4) (cc := cX4_readings) (maxL := 1) (by decide) rfl rfl (Nat.le_of_ble_eq_true rfl) ?_
  refine g_sub (lv' := [(0, .ref (γ.2.2 0))]) [0] rfl ?_
  have hq6 := hG.2.2.1
  refine g_al_n 0 dX4_readings_0 rfl ?_
  refine g_get 0 2 (by decide) rfl in_X4_readings_4 rfl (by decide) (by decide +kernel) rfl rfl dX4_readings_1 ?_
  refine g_top (v := nI q) (hG.2.1) ?_
  refine gz_ne (tgt := 11) dX4_readings_4 (by decide) (by omega) (fun h1 => ?_) (fun h1 => ?_)
  · skip
    refine g_al_n 0 dX4_readings_11 rfl ?_
    refine g_ic (v := nI 0) dX4_readings_12 (by decide) ?_
    refine g_al_n 0 dX4_readings_13 rfl ?_
    refine g_get 0 2 (by decide) rfl in_X4_readings_4 rfl (by decide) (by decide +kernel) rfl rfl dX4_readings_14 ?_
    refine g_top (v := nI q) (hG.2.1) ?_
    refine g_pc (pc' := 17) rfl ?_
    refine g_ic (v := nI 0) dX4_readings_17 (by decide) ?_
    refine g_ci (r_V (st := []) (As := [.int (nI 0), .int (nI q), .int (nI 0)]) (d := 4) 0 (by decide) rfl rfl (c_X4_countReadings l γ I L P g n r9 q u hG (0) (q) (0) (by omega) (Nat.le_refl _) (by decide)) gX4_readings_X4_countReadings rfl ⟨rfl, by decide, by decide, rfl⟩ ⟨Nat.le_of_ble_eq_true rfl, Nat.le_of_ble_eq_true rfl⟩ rfl (Nat.le_of_ble_eq_true rfl) dX4_readings_18 ⟨Nat.zero_le _, Nat.zero_le _⟩) ?_
    rintro rz1 J Lz1 ⟨ez1, hJF, eLz1⟩
    subst ez1
    rw [eLz1]
    exact g_iret dX4_readings_21 (⟨by rw [rdg, if_neg h1], (hJF).gw hG, (hJF).fg, rfl⟩)
  · skip
    refine g_ic (v := nI 0) dX4_readings_7 (by decide) ?_
    refine g_goto (tgt := 21) dX4_readings_8 (by decide) ?_
    exact g_iret dX4_readings_21 (⟨by rw [rdg, if_pos h1], (FC.refl I).gw hG, (FC.refl I).fg, rfl⟩)

theorem in_X4_readingsPlainly_4 : ∀ w ∈ wsX40, w ∈ wsX4_readingsPlainly := by decide +kernel
set_option maxRecDepth 100000 in
set_option maxHeartbeats 4000000 in
theorem c_X4_readingsPlainly (l : Launch) (γ : Gm) (I : IT) (L : LT) (P : PT) (g : GR) (n r9 q : Nat) (u : Nat → Nat) (hG : GW I g n r9 q u) : Ci l yX4_readingsPlainly wsX4_readingsPlainly 9 γ [.ref (γ.2.2 0)] I L P (fun r I' L' => r = nI (rdg g r9 u q) ∧ GW I' g n r9 q u ∧ FG I I' ∧ L' = L) := by
  refine Ci_of (own := RX4) (cc := cX4_readingsPlainly) (maxL := 1) (by decide) rfl rfl (Nat.le_of_ble_eq_true rfl) ?_
  refine g_sub (lv' := [(0, .ref (γ.2.2 0))]) [0] rfl ?_
  have hq6 := hG.2.2.1
  refine g_al_n 0 dX4_readingsPlainly_0 rfl ?_
  refine g_get 0 2 (by decide) rfl in_X4_readingsPlainly_4 rfl (by decide) (by decide +kernel) rfl rfl dX4_readingsPlainly_1 ?_
  refine g_top (v := nI q) (hG.2.1) ?_
  refine gz_ne (tgt := 11) dX4_readingsPlainly_4 (by decide) (by omega) (fun h1 => ?_) (fun h1 => ?_)
  · skip
    have hB := ct_sum_le (hG.1.ctb (by omega) (by omega) (w := u) (i := 0) (j := q)) (show 0 < 8 by decide)
    refine g_al_n 0 dX4_readingsPlainly_11 rfl ?_
    refine g_get (v := .ref (γ.2.2 4)) 0 6 (by decide) rfl in_X4_readingsPlainly_4 rfl (by decide) (by decide +kernel) rfl rfl dX4_readingsPlainly_12 ?_
    refine g_al_n 0 dX4_readingsPlainly_15 rfl ?_
    refine g_get (v := .ref (γ.2.2 1)) 0 0 (by decide) rfl in_X4_readingsPlainly_4 rfl (by decide) (by decide +kernel) rfl rfl dX4_readingsPlainly_16 ?_
    refine g_pc (pc' := 19) rfl ?_
    refine g_al_n 0 dX4_readingsPlainly_19 rfl ?_
    refine g_get (v := .ref (γ.2.2 12)) 0 1 (by decide) rfl in_X4_readingsPlainly_4 rfl (by decide) (by decide +kernel) rfl rfl dX4_readingsPlainly_20 ?_
    refine g_al_n 0 dX4_readingsPlainly_23 rfl ?_
    refine g_get 0 2 (by decide) rfl in_X4_readingsPlainly_4 rfl (by decide) (by decide +kernel) rfl rfl dX4_readingsPlainly_24 ?_
    refine g_top (v := nI q) (hG.2.1) ?_
    refine g_ic (v := nI 0) dX4_readingsPlainly_27 (by decide) ?_
    refine g_ci (r_VN (st := []) (As := [.ref (γ.2.2 1), .ref (γ.2.2 12), .int (nI q), .int (nI 0)]) (d := 8) (host := RX4) 4 (by decide) rfl rfl (c_X3_countRow l γ I L P g n r9 q 0 u hG.1 (by omega) hq6 (by decide) (fun p hp => (hG.2.2.2 p hp).1) (fun p hp => (hG.2.2.2 p hp).2)) gX4_readingsPlainly_X3_countRow_n114 rfl nm_RX4_114 (by decide +kernel) (by decide +kernel) (by decide +kernel) ⟨by decide, by decide, rfl⟩ ⟨Nat.le_of_ble_eq_true rfl, Nat.le_of_ble_eq_true rfl⟩ rfl (Nat.le_of_ble_eq_true rfl) dX4_readingsPlainly_28 ⟨Nat.zero_le _, Nat.zero_le _⟩) ?_
    rintro rz1 J Lz1 ⟨ez1, hk, eLz1⟩
    subst ez1
    rw [eLz1]
    have hJF : FC I J := fun k _ _ h9 => hk k (by omega)
    refine g_ci (r_S (st := []) (As := [.int (nI (sm (ct g r9 u 0 q 0) 16))]) (d := 0) (c_X4_told l γ J L P (sm (ct g r9 u 0 q 0) 16) (by omega)) gX4_readingsPlainly_X4_told rfl ⟨by decide, by decide, rfl⟩ ⟨Nat.le_of_ble_eq_true rfl, Nat.le_of_ble_eq_true rfl⟩ rfl (Nat.le_of_ble_eq_true rfl) dX4_readingsPlainly_31 ⟨Nat.zero_le _, Nat.zero_le _⟩) ?_
    rintro rz2 Iz2 Lz2 ⟨ez2, eIz2, eLz2⟩
    subst ez2
    rw [eIz2]
    rw [eLz2]
    exact g_iret dX4_readingsPlainly_34 (⟨by rw [rdg, if_neg h1]; rfl, (hJF).gw hG, (hJF).fg, rfl⟩)
  · skip
    refine g_pc (pc' := 7) rfl ?_
    refine g_ic (v := nI 0) dX4_readingsPlainly_7 (by decide) ?_
    refine g_goto (tgt := 34) dX4_readingsPlainly_8 (by decide) ?_
    exact g_iret dX4_readingsPlainly_34 (⟨by rw [rdg, if_pos h1], (FC.refl I).gw hG, (FC.refl I).fg, rfl⟩)

theorem in_X4_level_1 : ∀ w ∈ wsX10, w ∈ wsX4_level := by decide +kernel
theorem in_X4_level_4 : ∀ w ∈ wsX40, w ∈ wsX4_level := by decide +kernel
set_option maxRecDepth 100000 in
set_option maxHeartbeats 4000000 in
theorem c_X4_level (l : Launch) (γ : Gm) (I : IT) (L : LT) (P : PT) (g : GR) (n r9 q : Nat) (u : Nat → Nat) (hG : GW I g n r9 q u) : Ci l yX4_level wsX4_level 5 γ [.ref (γ.2.2 0)] I L P (fun r I' L' => r = fst1 (fun k => isS g k u q) (r9 + 1) 0 ∧ GW I' g n r9 q u ∧ FG I I' ∧ L' = L) := by
  refine Ci_of (own := RX4) (cc := cX4_level) (maxL := 2) (by decide) rfl rfl (Nat.le_of_ble_eq_true rfl) ?_
  refine g_sub (lv' := [(0, .ref (γ.2.2 0))]) [0] rfl ?_
  have hq6 := hG.2.2.1
  have hr8 := hG.1.r_le
  refine g_ic (v := nI 0) dX4_level_0 (by decide) ?_
  refine g_is_n (lv' := [(1, .int (nI 0)), (0, .ref (γ.2.2 0))]) dX4_level_1 (by decide) rfl ?_
  have lp : ∀ (z : Nat) (k : Nat) (F : Nat → Int32) (hk : k + z = r9 + 1) (hf : fst1 (fun k => isS g k u q) (r9 + 1) 0 = fst1 (fun k => isS g k u q) z k), G E0 l cX4_level 2 wsX4_level RX4 (some .int) (rmd 5) γ P (AE γ) (Qi γ P (fun r I' L' => r = fst1 (fun k => isS g k u q) (r9 + 1) 0 ∧ GW I' g n r9 q u ∧ FG I I' ∧ L' = L)) 0 0 2 [(0, .ref (γ.2.2 0)), (1, .int (nI k))] [] (va_up I 19 F) L := by
    intro z
    induction z with
    | zero =>
      intro k F hk hf
      simp only [Nat.add_zero] at hk
      refine g_il_n 1 dX4_level_2 rfl ?_
      refine g_al_n 0 dX4_level_3 rfl ?_
      refine g_get (v := .ref (γ.2.2 1)) 0 0 (by decide) rfl in_X4_level_4 rfl (by decide) (by decide +kernel) rfl rfl dX4_level_4 ?_
      refine g_getN 1 3 (by decide) rfl in_X4_level_1 rfl (by decide) nw_RX4_93 rfl rfl dX4_level_7 ?_
      refine g_top (v := nI r9) (((FC.up19 I F).gw hG).1.cr) ?_
      refine gn_gt (tgt := 55) dX4_level_10 (by decide) (by omega) (by omega) (fun h1 => ?_) (fun h1 => ?_)
      · skip
        refine g_pc (pc' := 55) rfl ?_
        refine g_ic (v := (-1 : Int32)) dX4_level_55 (by decide) ?_
        exact g_iret dX4_level_56 (⟨by rw [hf]; rfl, (FC.up19 I F).gw hG, (FC.up19 I F).fg, rfl⟩)
      · skip
        exfalso; omega
    | succ z ih =>
      intro k F hk hf
      have hkr : k ≤ r9 := by omega
      refine g_il_n 1 dX4_level_2 rfl ?_
      refine g_al_n 0 dX4_level_3 rfl ?_
      refine g_get (v := .ref (γ.2.2 1)) 0 0 (by decide) rfl in_X4_level_4 rfl (by decide) (by decide +kernel) rfl rfl dX4_level_4 ?_
      refine g_getN 1 3 (by decide) rfl in_X4_level_1 rfl (by decide) nw_RX4_93 rfl rfl dX4_level_7 ?_
      refine g_top (v := nI r9) (((FC.up19 I F).gw hG).1.cr) ?_
      refine gn_gt (tgt := 55) dX4_level_10 (by decide) (by omega) (by omega) (fun h1 => ?_) (fun h1 => ?_)
      · skip
        exfalso; omega
      · skip
        refine g_al_n 0 dX4_level_13 rfl ?_
        refine g_pc (pc' := 14) rfl ?_
        refine g_get (v := .ref (γ.2.2 2)) 0 4 (by decide) rfl in_X4_level_4 rfl (by decide) (by decide +kernel) rfl rfl dX4_level_14 ?_
        refine g_al_n 0 dX4_level_17 rfl ?_
        refine g_get (v := .ref (γ.2.2 1)) 0 0 (by decide) rfl in_X4_level_4 rfl (by decide) (by decide +kernel) rfl rfl dX4_level_18 ?_
        refine g_al_n 0 dX4_level_21 rfl ?_
        refine g_get (v := .ref (γ.2.2 12)) 0 1 (by decide) rfl in_X4_level_4 rfl (by decide) (by decide +kernel) rfl rfl dX4_level_22 ?_
        refine g_al_n 0 dX4_level_25 rfl ?_
        refine g_get 0 2 (by decide) rfl in_X4_level_4 rfl (by decide) (by decide +kernel) rfl rfl dX4_level_26 ?_
        refine g_top (v := nI q) (((FC.up19 I F).gw hG).2.1) ?_
        refine g_il_n 1 dX4_level_29 rfl ?_
        refine g_pc (pc' := 30) rfl ?_
        refine g_cv (r_VN (st := []) (As := [.ref (γ.2.2 1), .ref (γ.2.2 12), .int (nI q), .int (nI k)]) (d := 4) (host := RX4) 2 (by decide) rfl rfl (c_X2_parse l γ (va_up I 19 F) L P g n r9 k q 12 u ((FC.up19 I F).gw hG).1 hkr hq6 (Or.inl rfl) (fun p hp => (((FC.up19 I F).gw hG).2.2.2 p hp).1) (fun p hp => (hG.2.2.2 p hp).2)) gX4_level_X2_parse_n129 rfl nm_RX4_129 (by decide +kernel) (by decide +kernel) (by decide +kernel) ⟨by decide, by decide, rfl⟩ ⟨Nat.le_of_ble_eq_true rfl, Nat.le_of_ble_eq_true rfl⟩ rfl (Nat.le_of_ble_eq_true rfl) dX4_level_30 ⟨Nat.zero_le _, Nat.zero_le _⟩) ?_
        rintro Iz1 Lz1 ⟨⟨F1, eIz1, hF1⟩, eLz1⟩
        rw [eIz1]
        rw [eLz1]
        rw [va_uu]
        refine g_al_n 0 dX4_level_33 rfl ?_
        refine g_get (v := .ref (γ.2.2 2)) 0 4 (by decide) rfl in_X4_level_4 rfl (by decide) (by decide +kernel) rfl rfl dX4_level_34 ?_
        refine g_al_n 0 dX4_level_37 rfl ?_
        refine g_get 0 2 (by decide) rfl in_X4_level_4 rfl (by decide) (by decide +kernel) rfl rfl dX4_level_38 ?_
        refine g_top (v := nI q) (((FC.up19 I F1).gw hG).2.1) ?_
        refine g_ci0 (v := bi (isS g k u q)) (r_VN (st := []) (As := [.int (nI q)]) (d := 2) (host := RX4) 2 (by decide) rfl rfl (c_X2_holdsSentence l γ (va_up I 19 F1) L P q (ch g k (lxw g u) 0 q 0) hq6 (fun h0 => by rw [va_us]; exact hF1 0 q h0 (Nat.le_refl _) 0 (by decide)) (by
            by_cases h0 : 0 < q
            · exact Nat.lt_trans (ch_lt16 h0 (fun p9 _ h9 c => wset_lt (hG.1.val_lt (hG.2.2.2 p9 h9).2))) (by decide)
            · rw [show q = 0 by omega]; show 0 < 2 ^ 31; decide)) gX4_level_X2_holdsSentence_n139 rfl nm_RX4_139 (by decide +kernel) (by decide +kernel) (by decide +kernel) ⟨by decide, by decide, rfl⟩ ⟨Nat.le_of_ble_eq_true rfl, Nat.le_of_ble_eq_true rfl⟩ rfl (Nat.le_of_ble_eq_true rfl) dX4_level_41 ⟨Nat.zero_le _, Nat.zero_le _⟩) ?_
        refine gb_eq (tgt := 49) dX4_level_44 (by decide) (fun hb => ?_) (fun hb => ?_)
        · skip
          refine g_inc (v := nI (k + 1)) (lv' := [(1, .int (nI (k + 1))), (0, .ref (γ.2.2 0))]) 1 dX4_level_49 rfl (inc_1 _) (by decide) rfl ?_
          refine g_pc (pc' := 52) rfl ?_
          refine g_goto (tgt := 2) dX4_level_52 (by decide) ?_
          refine g_sub [1, 0] rfl ?_
          exact ih (k + 1) F1 (by omega) (by rw [hf, fst1_s, hb]; rfl)
        · skip
          refine g_il_n 1 dX4_level_47 rfl ?_
          exact g_iret dX4_level_48 (⟨by rw [hf, fst1_s, hb]; rfl, (FC.up19 I F1).gw hG, (FC.up19 I F1).fg, rfl⟩)
  refine g_sub [1, 0] rfl ?_
  refine g_eq (I' := va_up I 19 (I 19)) (va_id _ _).symm rfl ?_
  exact lp (r9 + 1) 0 _ (Nat.zero_add _) rfl

theorem in_X4_changes_4 : ∀ w ∈ wsX40, w ∈ wsX4_changes := by decide +kernel
set_option maxRecDepth 100000 in
set_option maxHeartbeats 4000000 in
theorem c_X4_changes (l : Launch) (γ : Gm) (I : IT) (L : LT) (P : PT) (g : GR) (n r9 q : Nat) (u : Nat → Nat) (hG : GW I g n r9 q u) : Ci l yX4_changes wsX4_changes 5 γ [.ref (γ.2.2 0)] I L P (fun r I' L' => r = chg g r9 u q n ∧ GW I' g n r9 q u ∧ FG I I' ∧ L' = L) := by
  refine Ci_of (own := RX4) (cc := cX4_changes) (maxL := 3) (by decide) rfl rfl (Nat.le_of_ble_eq_true rfl) ?_
  refine g_sub (lv' := [(0, .ref (γ.2.2 0))]) [0] rfl ?_
  have hq6 := hG.2.2.1
  refine g_al_n 0 dX4_changes_0 rfl ?_
  refine g_ic (v := (-1 : Int32)) dX4_changes_1 (by decide) ?_
  refine g_ic (v := (-1 : Int32)) dX4_changes_2 (by decide) ?_
  refine g_ci (r_V (st := []) (As := [.int (-1 : Int32), .int (-1 : Int32)]) (d := 4) 0 (by decide) rfl rfl (c_X4_isSentenceFreeAt l γ I L P g n r9 q u ((FC.refl I).gw hG) ((-1 : Int32)) ((-1 : Int32))) gX4_changes_X4_isSentenceFreeAt rfl ⟨rfl, by decide, by decide, rfl⟩ ⟨Nat.le_of_ble_eq_true rfl, Nat.le_of_ble_eq_true rfl⟩ rfl (Nat.le_of_ble_eq_true rfl) dX4_changes_3 ⟨Nat.zero_le _, Nat.zero_le _⟩) ?_
  rintro rz1 J Lz1 ⟨ez1, hJ, eLz1⟩
  subst ez1
  rw [eLz1]
  have hJF : FC I J := (FC.refl I).trans hJ
  refine gb_eq (tgt := 11) dX4_changes_6 (by decide) (fun hb => ?_) (fun hb => ?_)
  · skip
    have hS : isS g r9 u q = false := by rw [isF_no hq6] at hb; exact hb
    refine g_ic (v := nI 0) dX4_changes_11 (by decide) ?_
    refine g_is_n (lv' := [(1, .int (nI 0)), (0, .ref (γ.2.2 0))]) dX4_changes_12 (by decide) rfl ?_
    have lp : ∀ (z : Nat) (p : Nat) (T : IT) (hp : p + z = q) (hB : ∀ p9 w9, p9 < p → w9 < n → isS g r9 (ust u p9 w9) q = false) (hQ : FC I T), G E0 l cX4_changes 3 wsX4_changes RX4 (some .int) (rmd 5) γ P (AE γ) (Qi γ P (fun r I' L' => r = chg g r9 u q n ∧ GW I' g n r9 q u ∧ FG I I' ∧ L' = L)) 0 0 13 [(0, .ref (γ.2.2 0)), (1, .int (nI p))] [] T L := by
      intro z
      induction z with
      | zero =>
        intro p T hp hB hQ
        simp only [Nat.add_zero] at hp
        have hone : ¬ one_ok g r9 u q n := fun ⟨p9, w9, e1, e2, e3⟩ => by rw [hB p9 w9 (by omega) e2] at e3; exact absurd e3 (by simp)
        refine g_pc (pc' := 13) rfl ?_
        refine g_il_n 1 dX4_changes_13 rfl ?_
        refine g_al_n 0 dX4_changes_14 rfl ?_
        refine g_get 0 2 (by decide) rfl in_X4_changes_4 rfl (by decide) (by decide +kernel) rfl rfl dX4_changes_15 ?_
        refine g_top (v := nI q) ((hQ.gw hG).2.1) ?_
        refine gn_ge (tgt := 38) dX4_changes_18 (by decide) (by omega) (by omega) (fun h5 => ?_) (fun h5 => ?_)
        · skip
          refine g_ic (v := nI 0) dX4_changes_38 (by decide) ?_
          refine g_is_n (lv' := [(1, .int (nI 0)), (0, .ref (γ.2.2 0))]) dX4_changes_39 (by decide) rfl ?_
          have lp2 : ∀ (z2 : Nat) (p : Nat) (T : IT) (hp : p + z2 = q) (hN : ∀ p8 p9, p8 < p → p8 < p9 → p9 < q → ∀ w8 w9, w8 < n → w9 < n → isS g r9 (ust (ust u p8 w8) p9 w9) q = false) (hQ : FC I T), G E0 l cX4_changes 3 wsX4_changes RX4 (some .int) (rmd 5) γ P (AE γ) (Qi γ P (fun r I' L' => r = chg g r9 u q n ∧ GW I' g n r9 q u ∧ FG I I' ∧ L' = L)) 0 0 40 [(0, .ref (γ.2.2 0)), (1, .int (nI p))] [] T L := by
            intro z2
            induction z2 with
            | zero =>
              intro p T hp hN hQ
              simp only [Nat.add_zero] at hp
              have htwo : ¬ two_ok g r9 u q n := fun ⟨p8, p9, w9, w8, e1, e2, e3, e4, e5⟩ => by rw [hN p8 p9 (by omega) e1 e2 w9 w8 e3 e4] at e5; exact absurd e5 (by simp)
              refine g_il_n 1 dX4_changes_40 rfl ?_
              refine g_al_n 0 dX4_changes_41 rfl ?_
              refine g_pc (pc' := 42) rfl ?_
              refine g_get 0 2 (by decide) rfl in_X4_changes_4 rfl (by decide) (by decide +kernel) rfl rfl dX4_changes_42 ?_
              refine g_top (v := nI q) ((hQ.gw hG).2.1) ?_
              refine gn_ge (tgt := 83) dX4_changes_45 (by decide) (by omega) (by omega) (fun h6 => ?_) (fun h6 => ?_)
              · skip
                refine g_ic (v := (-1 : Int32)) dX4_changes_83 (by decide) ?_
                exact g_iret dX4_changes_84 (⟨by rw [chg, hS, pB_no hone, pB_no htwo]; rfl, (hQ).gw hG, (hQ).fg, rfl⟩)
              · skip
                exfalso; omega
            | succ z2 ih2 =>
              intro p T hp hN hQ
              have hpq : p < q := by omega
              refine g_il_n 1 dX4_changes_40 rfl ?_
              refine g_al_n 0 dX4_changes_41 rfl ?_
              refine g_get 0 2 (by decide) rfl in_X4_changes_4 rfl (by decide) (by decide +kernel) rfl rfl dX4_changes_42 ?_
              refine g_top (v := nI q) ((hQ.gw hG).2.1) ?_
              refine gn_ge (tgt := 83) dX4_changes_45 (by decide) (by omega) (by omega) (fun h6 => ?_) (fun h6 => ?_)
              · skip
                exfalso; omega
              · skip
                refine g_pc (pc' := 48) rfl ?_
                refine g_il_n 1 dX4_changes_48 rfl ?_
                refine g_ic (v := nI 1) dX4_changes_49 (by decide) ?_
                refine g_iadd (v := nI (p + 1)) dX4_changes_50 (nI_add _ _) ?_
                refine g_is_n (lv' := [(2, .int (nI (p + 1))), (0, .ref (γ.2.2 0)), (1, .int (nI p))]) dX4_changes_51 (by decide) rfl ?_
                have lp3 : ∀ (z3 : Nat) (p2 : Nat) (T : IT) (hp2 : p2 + z3 = q) (hpp : p < p2) (hN3 : ∀ p9, p < p9 → p9 < p2 → ∀ w8 w9, w8 < n → w9 < n → isS g r9 (ust (ust u p w8) p9 w9) q = false) (hQ : FC I T), G E0 l cX4_changes 3 wsX4_changes RX4 (some .int) (rmd 5) γ P (AE γ) (Qi γ P (fun r I' L' => r = chg g r9 u q n ∧ GW I' g n r9 q u ∧ FG I I' ∧ L' = L)) 0 0 52 [(0, .ref (γ.2.2 0)), (1, .int (nI p)), (2, .int (nI p2))] [] T L := by
                  intro z3
                  induction z3 with
                  | zero =>
                    intro p2 T hp2 hpp hN3 hQ
                    simp only [Nat.add_zero] at hp2
                    refine g_il_n 2 dX4_changes_52 rfl ?_
                    refine g_al_n 0 dX4_changes_53 rfl ?_
                    refine g_get 0 2 (by decide) rfl in_X4_changes_4 rfl (by decide) (by decide +kernel) rfl rfl dX4_changes_54 ?_
                    refine g_top (v := nI q) ((hQ.gw hG).2.1) ?_
                    refine gn_ge (tgt := 77) dX4_changes_57 (by decide) (by omega) (by omega) (fun h7 => ?_) (fun h7 => ?_)
                    · skip
                      refine g_pc (pc' := 77) rfl ?_
                      refine g_inc (v := nI (p + 1)) (lv' := [(1, .int (nI (p + 1))), (0, .ref (γ.2.2 0)), (2, .int (nI p2))]) 1 dX4_changes_77 rfl (inc_1 _) (by decide) rfl ?_
                      refine g_goto (tgt := 40) dX4_changes_80 (by decide) ?_
                      refine g_sub [1, 0] rfl ?_
                      exact ih2 (p + 1) T (by omega) (fun p8 p9 h9 h10 h12 w8 w9 h13 h14 => by
                        by_cases e : p8 = p
                        · subst e; exact hN3 p9 h10 (by omega) w8 w9 h13 h14
                        · exact hN p8 p9 (by omega) h10 h12 w8 w9 h13 h14) hQ
                    · skip
                      exfalso; omega
                  | succ z3 ih3 =>
                    intro p2 T hp2 hpp hN3 hQ
                    have hp2q : p2 < q := by omega
                    refine g_il_n 2 dX4_changes_52 rfl ?_
                    refine g_al_n 0 dX4_changes_53 rfl ?_
                    refine g_get 0 2 (by decide) rfl in_X4_changes_4 rfl (by decide) (by decide +kernel) rfl rfl dX4_changes_54 ?_
                    refine g_top (v := nI q) ((hQ.gw hG).2.1) ?_
                    refine gn_ge (tgt := 77) dX4_changes_57 (by decide) (by omega) (by omega) (fun h7 => ?_) (fun h7 => ?_)
                    · skip
                      exfalso; omega
                    · skip
                      refine g_al_n 0 dX4_changes_60 rfl ?_
                      refine g_il_n 1 dX4_changes_61 rfl ?_
                      refine g_pc (pc' := 62) rfl ?_
                      refine g_il_n 2 dX4_changes_62 rfl ?_
                      refine g_ci (r_V (st := []) (As := [.int (nI p), .int (nI p2)]) (d := 4) 0 (by decide) rfl rfl (c_X4_isSentenceFreeAt l γ T L P g n r9 q u (hQ.gw hG) (nI p) (nI p2)) gX4_changes_X4_isSentenceFreeAt rfl ⟨rfl, by decide, by decide, rfl⟩ ⟨Nat.le_of_ble_eq_true rfl, Nat.le_of_ble_eq_true rfl⟩ rfl (Nat.le_of_ble_eq_true rfl) dX4_changes_63 ⟨Nat.zero_le _, Nat.zero_le _⟩) ?_
                      rintro rz2 K Lz2 ⟨ez2, hK, eLz2⟩
                      subst ez2
                      rw [eLz2]
                      have hKF : FC I K := hQ.trans hK
                      refine gb_eq (tgt := 71) dX4_changes_66 (by decide) (fun hb2 => ?_) (fun hb2 => ?_)
                      · skip
                        refine g_inc (v := nI (p2 + 1)) (lv' := [(2, .int (nI (p2 + 1))), (0, .ref (γ.2.2 0)), (1, .int (nI p))]) 2 dX4_changes_71 rfl (inc_1 _) (by decide) rfl ?_
                        refine g_goto (tgt := 52) dX4_changes_74 (by decide) ?_
                        refine g_sub [1, 2, 0] rfl ?_
                        exact ih3 (p2 + 1) K (by omega) (by omega) (fun p9 h9 h10 w8 w9 h13 h14 => by
                          by_cases e : p9 = p2
                          · subst e
                            cases e9 : isS g r9 (ust (ust u p w8) p9 w9) q with
                            | false => rfl
                            | true => rw [(isF_two hq6 hpp hp2q).mpr ⟨w8, w9, h13, h14, e9⟩] at hb2; exact absurd hb2 (by simp)
                          · exact hN3 p9 h9 (by omega) w8 w9 h13 h14) hKF
                      · skip
                        refine g_ic (v := nI 2) dX4_changes_69 (by decide) ?_
                        exact g_iret dX4_changes_70 (⟨by
                              obtain ⟨w9, w8, h9, h8, e9⟩ := (isF_two hq6 hpp hp2q).mp hb2
                              have h2k : two_ok g r9 u q n := ⟨p, p2, w9, w8, hpp, hp2q, h9, h8, e9⟩
                              rw [chg, hS, pB_no hone, pB_of h2k]; rfl, (hKF).gw hG, (hKF).fg, rfl⟩)
                refine g_sub [1, 2, 0] rfl ?_
                exact lp3 (q - (p + 1)) (p + 1) T (by omega) (by omega) (fun p9 h9 h10 => by omega) hQ
          refine g_sub [1, 0] rfl ?_
          exact lp2 q 0 T (Nat.zero_add _) (fun p8 p9 h9 => by omega) hQ
        · skip
          exfalso; omega
      | succ z ih =>
        intro p T hp hB hQ
        have hpq : p < q := by omega
        refine g_il_n 1 dX4_changes_13 rfl ?_
        refine g_pc (pc' := 14) rfl ?_
        refine g_al_n 0 dX4_changes_14 rfl ?_
        refine g_get 0 2 (by decide) rfl in_X4_changes_4 rfl (by decide) (by decide +kernel) rfl rfl dX4_changes_15 ?_
        refine g_top (v := nI q) ((hQ.gw hG).2.1) ?_
        refine gn_ge (tgt := 38) dX4_changes_18 (by decide) (by omega) (by omega) (fun h5 => ?_) (fun h5 => ?_)
        · skip
          exfalso; omega
        · skip
          refine g_al_n 0 dX4_changes_21 rfl ?_
          refine g_il_n 1 dX4_changes_22 rfl ?_
          refine g_ic (v := (-1 : Int32)) dX4_changes_23 (by decide) ?_
          refine g_ci (r_V (st := []) (As := [.int (nI p), .int (-1 : Int32)]) (d := 4) 0 (by decide) rfl rfl (c_X4_isSentenceFreeAt l γ T L P g n r9 q u (hQ.gw hG) (nI p) ((-1 : Int32))) gX4_changes_X4_isSentenceFreeAt rfl ⟨rfl, by decide, by decide, rfl⟩ ⟨Nat.le_of_ble_eq_true rfl, Nat.le_of_ble_eq_true rfl⟩ rfl (Nat.le_of_ble_eq_true rfl) dX4_changes_24 ⟨Nat.zero_le _, Nat.zero_le _⟩) ?_
          rintro rz3 K Lz3 ⟨ez3, hK, eLz3⟩
          subst ez3
          rw [eLz3]
          have hKF : FC I K := hQ.trans hK
          refine gb_eq (tgt := 32) dX4_changes_27 (by decide) (fun hb1 => ?_) (fun hb1 => ?_)
          · skip
            refine g_pc (pc' := 32) rfl ?_
            refine g_inc (v := nI (p + 1)) (lv' := [(1, .int (nI (p + 1))), (0, .ref (γ.2.2 0))]) 1 dX4_changes_32 rfl (inc_1 _) (by decide) rfl ?_
            refine g_goto (tgt := 13) dX4_changes_35 (by decide) ?_
            refine g_sub [1, 0] rfl ?_
            exact ih (p + 1) K (by omega) (fun p9 w9 h9 h10 => by
              by_cases e : p9 = p
              · subst e
                cases e9 : isS g r9 (ust u p9 w9) q with
                | false => rfl
                | true => rw [(isF_one hq6 hpq).mpr ⟨w9, h10, e9⟩] at hb1; exact absurd hb1 (by simp)
              · exact hB p9 w9 (by omega) h10) hKF
          · skip
            refine g_ic (v := nI 1) dX4_changes_30 (by decide) ?_
            exact g_iret dX4_changes_31 (⟨by
                  obtain ⟨w9, h9, e9⟩ := (isF_one hq6 hpq).mp hb1
                  have h1k : one_ok g r9 u q n := ⟨p, w9, hpq, h9, e9⟩
                  rw [chg, hS, pB_of h1k]; rfl, (hKF).gw hG, (hKF).fg, rfl⟩)
    refine g_sub [1, 0] rfl ?_
    exact lp q 0 J (Nat.zero_add _) (fun p9 w9 h9 => by omega) hJF
  · skip
    refine g_ic (v := nI 0) dX4_changes_9 (by decide) ?_
    exact g_iret dX4_changes_10 (⟨by rw [isF_no hq6] at hb; rw [chg, hb]; rfl, (hJF).gw hG, (hJF).fg, rfl⟩)
