/-! the two countings of readings -/
theorem in_X0_fillSpan_0 : ∀ w ∈ wsX00, w ∈ wsX0_fillSpan := by decide +kernel
set_option maxRecDepth 100000 in
set_option maxHeartbeats 4000000 in
theorem c_X0_fillSpan (l : Launch) (γ : Gm) (I : IT) (L : LT) (P : PT) (g : GR) (n r a b : Nat) (w : Nat → Nat) (hG : GG I g n r) (hab : a < b) (hb : b ≤ 6) (hw : I 12 a = nI (w a)) (hw2 : w a < n) (hM : ∀ i j, a ≤ i → j ≤ b → i < j → ¬ (i = a ∧ j = b) → HM (I (sp i j + 37)) (ct g r w i j)) : Cv l yX0_fillSpan wsX0_fillSpan 2 γ [.ref (γ.2.2 3), .ref (γ.2.2 1), .ref (γ.2.2 12), .int (nI a), .int (nI b)] I L P (fun I' L' => (∃ F : Nat → Int32, I' = va_up I (sp a b + 37) F ∧ HM F (ct g r w a b)) ∧ L' = L) := by
  refine Cv_of (own := RX0) (cc := cX0_fillSpan) (maxL := 9) (by decide) rfl rfl (Nat.le_of_ble_eq_true rfl) ?_
  refine g_sub (lv' := [(0, .ref (γ.2.2 3)), (1, .ref (γ.2.2 1)), (2, .ref (γ.2.2 12)), (3, .int (nI a)), (4, .int (nI b))]) [0, 1, 2, 3, 4] rfl ?_
  have hs := sp_lt hab hb
  refine g_al_n 0 dX0_fillSpan_0 rfl ?_
  refine g_get (v := .ref (γ.2.2 6)) 3 0 (by decide) rfl in_X0_fillSpan_0 rfl (by decide) (by decide +kernel) rfl rfl dX0_fillSpan_1 ?_
  refine g_il_n 3 dX0_fillSpan_4 rfl ?_
  refine g_il 4 dX0_fillSpan_5 rfl ?_
  refine g_ci (r_SN (st := [.ref (γ.2.2 6)]) (As := [.int (nI a), .int (nI b)]) (d := 0) (host := RX4) (c_X4_spanOf l γ I L P a b hab hb) gX0_fillSpan_X4_spanOf_n16 rfl nm_RX0_16 (by decide +kernel) (by decide +kernel) ⟨by decide, by decide, rfl⟩ ⟨Nat.le_of_ble_eq_true rfl, Nat.le_of_ble_eq_true rfl⟩ rfl (Nat.le_of_ble_eq_true rfl) dX0_fillSpan_7 ⟨Nat.zero_le _, Nat.zero_le _⟩) ?_
  rintro rz1 Iz1 Lz1 ⟨ez1, eIz1, eLz1⟩
  rw [ez1, eIz1, eLz1]
  refine g_aald (q := γ.2.2 ((sp a b) + 37)) 6 (sp a b) (by decide) rfl (by decide) (show _ < 21 by exact hs) (if_pos (show _ < 21 by exact hs)) dX0_fillSpan_10 ?_
  refine g_as (lv' := [(5, .ref (γ.2.2 ((sp a b) + 37))), (0, .ref (γ.2.2 3)), (1, .ref (γ.2.2 1)), (2, .ref (γ.2.2 12)), (3, .int (nI a)), (4, .int (nI b))]) dX0_fillSpan_11 (by decide) rfl ?_
  refine g_al 0 dX0_fillSpan_13 rfl ?_
  refine g_ic (v := nI 0) dX0_fillSpan_15 (by decide) ?_
  refine g_cv (r_S (st := []) (As := [.ref (γ.2.2 ((sp a b) + 37)), .int (nI 0)]) (d := 0) (c_J7_fill_53178 l γ I L P (sp a b + 37) (by omega) (by omega)) gX0_fillSpan_J7_fill_53178 rfl ⟨by decide, by decide, rfl⟩ ⟨Nat.le_of_ble_eq_true rfl, Nat.le_of_ble_eq_true rfl⟩ rfl (Nat.le_of_ble_eq_true rfl) dX0_fillSpan_16 ⟨Nat.zero_le _, Nat.zero_le _⟩) ?_
  rintro Iz2 Lz2 ⟨⟨Fz, eIz2, hFz⟩, eLz2⟩
  rw [eIz2, eLz2]
  refine g_il 5 dX0_fillSpan_19 rfl ?_
  refine g_il_n 4 dX0_fillSpan_21 rfl ?_
  refine g_ic (v := nI 1) dX0_fillSpan_22 (by decide) ?_
  refine g_iadd (v := nI (a + 1)) dX0_fillSpan_23 (nI_add _ _) ?_
  refine gn_ne (tgt := 36) dX0_fillSpan_24 (by decide) (by omega) (by omega) (fun h1 => ?_) (fun h1 => ?_)
  · skip
    refine g_il_n 4 dX0_fillSpan_36 rfl ?_
    refine g_ic (v := nI 1) dX0_fillSpan_37 (by decide) ?_
    refine g_iadd (v := nI (a + 1)) dX0_fillSpan_38 (nI_add _ _) ?_
    refine g_is (lv' := [(6, .int (nI (a + 1))), (5, .ref (γ.2.2 ((sp a b) + 37))), (0, .ref (γ.2.2 3)), (1, .ref (γ.2.2 1)), (2, .ref (γ.2.2 12)), (3, .int (nI a)), (4, .int (nI b))]) dX0_fillSpan_39 (by decide) rfl ?_
    have lp : ∀ (k : Nat) (d : Nat) (F : Nat → Int32) (hk : d + k = b - (a + 1)) (hF : HM F (fun c v => (if b = a + 1 then wcnt g (w a) c v else 0) + sm (fun d => cst g r (ct g r w a (a + 1 + d)) (ct g r w (a + 1 + d) b) c v) d)), G E0 l cX0_fillSpan 9 wsX0_fillSpan RX0 none (rmd 2) γ P (AE γ) (Qv γ P (fun I' L' => (∃ F : Nat → Int32, I' = va_up I (sp a b + 37) F ∧ HM F (ct g r w a b)) ∧ L' = L)) 0 0 41 [(0, .ref (γ.2.2 3)), (1, .ref (γ.2.2 1)), (2, .ref (γ.2.2 12)), (3, .int (nI a)), (4, .int (nI b)), (5, .ref (γ.2.2 (sp a b + 37))), (6, .int (nI (a + 1 + d)))] [] (va_up I (sp a b + 37) F) L := by
      intro k
      induction k with
      | zero =>
        intro d F hk hF
        simp only [Nat.add_zero] at hk
        refine g_il 6 dX0_fillSpan_41 rfl ?_
        refine g_il 4 dX0_fillSpan_43 rfl ?_
        refine gn_ge (tgt := 91) dX0_fillSpan_45 (by decide) (by omega) (by omega) (fun h2 => ?_) (fun h2 => ?_)
        · skip
          exact g_vret dX0_fillSpan_91 (⟨⟨F, rfl, hF.cong (fun c hc v hv => by
                by_cases e : b = a + 1
                · subst e; rw [if_pos rfl, ct_one, hk, show a + 1 - (a + 1) = 0 by omega]; rfl
                · rw [if_neg e, ct_more g r w c v (by omega), hk, Nat.zero_add, show b - (a + 1) = b - a - 1 by omega])⟩, rfl⟩)
        · skip
          exfalso; omega
      | succ k ih =>
        intro d F hk hF
        have hd : a + 1 + d < b := by omega
        have s1 := sp_lt (show a < a + 1 + d by omega) (show a + 1 + d ≤ 6 by omega)
        have s2 := sp_lt hd hb
        have x1 : sp a (a + 1 + d) ≠ sp a b := fun q => by have := sp_inj (by omega) (by omega) hab hb q; omega
        have x2 : sp (a + 1 + d) b ≠ sp a b := fun q => by have := sp_inj hd hb hab hb q; omega
        refine g_il 6 dX0_fillSpan_41 rfl ?_
        refine g_il 4 dX0_fillSpan_43 rfl ?_
        refine gn_ge (tgt := 91) dX0_fillSpan_45 (by decide) (by omega) (by omega) (fun h2 => ?_) (fun h2 => ?_)
        · skip
          exfalso; omega
        · skip
          refine g_al_n 0 dX0_fillSpan_48 rfl ?_
          refine g_get (v := .ref (γ.2.2 6)) 3 0 (by decide) rfl in_X0_fillSpan_0 rfl (by decide) (by decide +kernel) rfl rfl dX0_fillSpan_49 ?_
          refine g_il_n 3 dX0_fillSpan_52 rfl ?_
          refine g_il 6 dX0_fillSpan_53 rfl ?_
          refine g_ci (r_SN (st := [.ref (γ.2.2 6)]) (As := [.int (nI a), .int (nI (a + 1 + d))]) (d := 0) (host := RX4) (c_X4_spanOf l γ (va_up I (sp a b + 37) F) L P a (a + 1 + d) (by omega) (by omega)) gX0_fillSpan_X4_spanOf_n16 rfl nm_RX0_16 (by decide +kernel) (by decide +kernel) ⟨by decide, by decide, rfl⟩ ⟨Nat.le_of_ble_eq_true rfl, Nat.le_of_ble_eq_true rfl⟩ rfl (Nat.le_of_ble_eq_true rfl) dX0_fillSpan_55 ⟨Nat.zero_le _, Nat.zero_le _⟩) ?_
          rintro rz3 Iz3 Lz3 ⟨ez3, eIz3, eLz3⟩
          rw [ez3, eIz3, eLz3]
          refine g_aald (q := γ.2.2 ((sp a (a + 1 + d)) + 37)) 6 (sp a (a + 1 + d)) (by decide) rfl (by decide) (show _ < 21 by exact s1) (if_pos (show _ < 21 by exact s1)) dX0_fillSpan_58 ?_
          refine g_as (lv' := [(7, .ref (γ.2.2 ((sp a (a + 1 + d)) + 37))), (0, .ref (γ.2.2 3)), (1, .ref (γ.2.2 1)), (2, .ref (γ.2.2 12)), (3, .int (nI a)), (4, .int (nI b)), (5, .ref (γ.2.2 (sp a b + 37))), (6, .int (nI (a + 1 + d)))]) dX0_fillSpan_59 (by decide) rfl ?_
          refine g_al_n 1 dX0_fillSpan_61 rfl ?_
          refine g_get (v := .ref (γ.2.2 6)) 3 0 (by decide) rfl in_X0_fillSpan_0 rfl (by decide) (by decide +kernel) rfl rfl dX0_fillSpan_62 ?_
          refine g_il 7 dX0_fillSpan_65 rfl ?_
          refine g_il 5 dX0_fillSpan_67 rfl ?_
          refine g_ci (r_SN (st := [.ref (γ.2.2 6)]) (As := [.int (nI (a + 1 + d)), .int (nI b)]) (d := 0) (host := RX4) (c_X4_spanOf l γ (va_up I (sp a b + 37) F) L P (a + 1 + d) b hd hb) gX0_fillSpan_X4_spanOf_n16 rfl nm_RX0_16 (by decide +kernel) (by decide +kernel) ⟨by decide, by decide, rfl⟩ ⟨Nat.le_of_ble_eq_true rfl, Nat.le_of_ble_eq_true rfl⟩ rfl (Nat.le_of_ble_eq_true rfl) dX0_fillSpan_69 ⟨Nat.zero_le _, Nat.zero_le _⟩) ?_
          rintro rz4 Iz4 Lz4 ⟨ez4, eIz4, eLz4⟩
          rw [ez4, eIz4, eLz4]
          refine g_aald (q := γ.2.2 ((sp (a + 1 + d) b) + 37)) 6 (sp (a + 1 + d) b) (by decide) rfl (by decide) (show _ < 21 by exact s2) (if_pos (show _ < 21 by exact s2)) dX0_fillSpan_72 ?_
          refine g_as (lv' := [(8, .ref (γ.2.2 ((sp (a + 1 + d) b) + 37))), (7, .ref (γ.2.2 ((sp a (a + 1 + d)) + 37))), (0, .ref (γ.2.2 3)), (1, .ref (γ.2.2 1)), (2, .ref (γ.2.2 12)), (3, .int (nI a)), (4, .int (nI b)), (5, .ref (γ.2.2 (sp a b + 37))), (6, .int (nI (a + 1 + d)))]) dX0_fillSpan_73 (by decide) rfl ?_
          refine g_al_n 3 dX0_fillSpan_75 rfl ?_
          refine g_al 1 dX0_fillSpan_76 rfl ?_
          refine g_al 0 dX0_fillSpan_78 rfl ?_
          refine g_al 7 dX0_fillSpan_80 rfl ?_
          refine g_cv (r_VN (st := []) (As := [.ref (γ.2.2 ((sp a (a + 1 + d)) + 37)), .ref (γ.2.2 ((sp (a + 1 + d) b) + 37)), .ref (γ.2.2 (sp a b + 37))]) (d := 1) (host := RX4) 1 (by decide) rfl rfl (c_X1_addJoined l γ (va_up I (sp a b + 37) F) L P g n r (sp a (a + 1 + d) + 37) (sp (a + 1 + d) b + 37) (sp a b + 37) (ct g r w a (a + 1 + d)) (ct g r w (a + 1 + d) b) (fun c v => (if b = a + 1 then wcnt g (w a) c v else 0) + sm (fun d => cst g r (ct g r w a (a + 1 + d)) (ct g r w (a + 1 + d) b) c v) d) (hG.up (by omega) F) (by omega) (by omega) (by omega) (by omega) (by omega) (by omega) (by omega) (by omega) (by rw [va_up_ne _ _ (by omega)]; exact hM a (a + 1 + d) (by omega) (by omega) (by omega) (by omega)) (fun c hc v hv => Nat.lt_of_le_of_lt (Nat.le_trans (tt_part2 hc hv) (hG.ctb (by omega) (by omega))) (by decide)) (by rw [va_up_ne _ _ (by omega)]; exact hM (a + 1 + d) b (by omega) (by omega) hd (by omega)) (by rw [va_us]; exact hF)) gX0_fillSpan_X1_addJoined_n40 rfl nm_RX0_40 (by decide +kernel) (by decide +kernel) (by decide +kernel) ⟨by decide, by decide, rfl⟩ ⟨Nat.le_of_ble_eq_true rfl, Nat.le_of_ble_eq_true rfl⟩ rfl (Nat.le_of_ble_eq_true rfl) dX0_fillSpan_82 ⟨Nat.zero_le _, Nat.zero_le _⟩) ?_
          rintro Iz5 Lz5 ⟨⟨F1, eIz5, hF1⟩, eLz5⟩
          rw [eIz5, eLz5, va_uu]
          refine g_inc (v := nI (a + 1 + d + 1)) (lv' := [(6, .int (nI (a + 1 + d + 1))), (8, .ref (γ.2.2 ((sp (a + 1 + d) b) + 37))), (7, .ref (γ.2.2 ((sp a (a + 1 + d)) + 37))), (0, .ref (γ.2.2 3)), (1, .ref (γ.2.2 1)), (2, .ref (γ.2.2 12)), (3, .int (nI a)), (4, .int (nI b)), (5, .ref (γ.2.2 (sp a b + 37)))]) 8 dX0_fillSpan_85 rfl (inc_1 _) (by decide) rfl ?_
          refine g_goto (tgt := 41) dX0_fillSpan_88 (by decide) ?_
          refine g_sub [3, 4, 5, 6, 7, 8, 0] rfl ?_
          exact ih (d + 1) F1 (by omega) (hF1.cong (fun c _ v _ => by simp only [sm]; omega))
    refine g_sub [2, 3, 4, 5, 6, 1, 0] rfl ?_
    exact lp (b - (a + 1)) 0 Fz (Nat.zero_add _) (hFz.cong (fun c _ v _ => by rw [if_neg h1]; rfl))
  · skip
    refine g_al_n 2 dX0_fillSpan_27 rfl ?_
    refine g_al_n 3 dX0_fillSpan_28 rfl ?_
    refine g_il_n 4 dX0_fillSpan_29 rfl ?_
    refine g_iald (v := nI (w a)) 12 a (by decide) (by decide) (show _ < 6 by omega) (by rw [va_up_ne _ _ (by omega)]; exact hw) dX0_fillSpan_30 ?_
    refine g_al 0 dX0_fillSpan_31 rfl ?_
    refine g_cv (r_VN (st := []) (As := [.int (nI (w a)), .ref (γ.2.2 ((sp a b) + 37))]) (d := 0) (host := RX4) 1 (by decide) rfl rfl (c_X1_countWord l γ (va_up I (sp a b + 37) Fz) L P g n r (w a) (sp a b + 37) (hG.up (by omega) Fz) hw2 (by omega) (by omega) (by rw [va_us]; exact hFz)) gX0_fillSpan_X1_countWord_n34 rfl nm_RX0_34 (by decide +kernel) (by decide +kernel) (by decide +kernel) ⟨by decide, by decide, rfl⟩ ⟨Nat.le_of_ble_eq_true rfl, Nat.le_of_ble_eq_true rfl⟩ rfl (Nat.le_of_ble_eq_true rfl) dX0_fillSpan_33 ⟨Nat.zero_le _, Nat.zero_le _⟩) ?_
    rintro Iz6 Lz6 ⟨⟨Fw, eIz6, hFw⟩, eLz6⟩
    rw [eIz6, eLz6, va_uu]
    refine g_il_n 4 dX0_fillSpan_36 rfl ?_
    refine g_ic (v := nI 1) dX0_fillSpan_37 (by decide) ?_
    refine g_iadd (v := nI (a + 1)) dX0_fillSpan_38 (nI_add _ _) ?_
    refine g_is (lv' := [(6, .int (nI (a + 1))), (5, .ref (γ.2.2 ((sp a b) + 37))), (0, .ref (γ.2.2 3)), (1, .ref (γ.2.2 1)), (2, .ref (γ.2.2 12)), (3, .int (nI a)), (4, .int (nI b))]) dX0_fillSpan_39 (by decide) rfl ?_
    have lp : ∀ (k : Nat) (d : Nat) (F : Nat → Int32) (hk : d + k = b - (a + 1)) (hF : HM F (fun c v => (if b = a + 1 then wcnt g (w a) c v else 0) + sm (fun d => cst g r (ct g r w a (a + 1 + d)) (ct g r w (a + 1 + d) b) c v) d)), G E0 l cX0_fillSpan 9 wsX0_fillSpan RX0 none (rmd 2) γ P (AE γ) (Qv γ P (fun I' L' => (∃ F : Nat → Int32, I' = va_up I (sp a b + 37) F ∧ HM F (ct g r w a b)) ∧ L' = L)) 0 0 41 [(0, .ref (γ.2.2 3)), (1, .ref (γ.2.2 1)), (2, .ref (γ.2.2 12)), (3, .int (nI a)), (4, .int (nI b)), (5, .ref (γ.2.2 (sp a b + 37))), (6, .int (nI (a + 1 + d)))] [] (va_up I (sp a b + 37) F) L := by
      intro k
      induction k with
      | zero =>
        intro d F hk hF
        simp only [Nat.add_zero] at hk
        refine g_il 6 dX0_fillSpan_41 rfl ?_
        refine g_il 4 dX0_fillSpan_43 rfl ?_
        refine gn_ge (tgt := 91) dX0_fillSpan_45 (by decide) (by omega) (by omega) (fun h2 => ?_) (fun h2 => ?_)
        · skip
          exact g_vret dX0_fillSpan_91 (⟨⟨F, rfl, hF.cong (fun c hc v hv => by
                by_cases e : b = a + 1
                · subst e; rw [if_pos rfl, ct_one, hk, show a + 1 - (a + 1) = 0 by omega]; rfl
                · rw [if_neg e, ct_more g r w c v (by omega), hk, Nat.zero_add, show b - (a + 1) = b - a - 1 by omega])⟩, rfl⟩)
        · skip
          exfalso; omega
      | succ k ih =>
        intro d F hk hF
        have hd : a + 1 + d < b := by omega
        have s1 := sp_lt (show a < a + 1 + d by omega) (show a + 1 + d ≤ 6 by omega)
        have s2 := sp_lt hd hb
        have x1 : sp a (a + 1 + d) ≠ sp a b := fun q => by have := sp_inj (by omega) (by omega) hab hb q; omega
        have x2 : sp (a + 1 + d) b ≠ sp a b := fun q => by have := sp_inj hd hb hab hb q; omega
        refine g_il 6 dX0_fillSpan_41 rfl ?_
        refine g_il 4 dX0_fillSpan_43 rfl ?_
        refine gn_ge (tgt := 91) dX0_fillSpan_45 (by decide) (by omega) (by omega) (fun h2 => ?_) (fun h2 => ?_)
        · skip
          exfalso; omega
        · skip
          refine g_al_n 0 dX0_fillSpan_48 rfl ?_
          refine g_get (v := .ref (γ.2.2 6)) 3 0 (by decide) rfl in_X0_fillSpan_0 rfl (by decide) (by decide +kernel) rfl rfl dX0_fillSpan_49 ?_
          refine g_il_n 3 dX0_fillSpan_52 rfl ?_
          refine g_il 6 dX0_fillSpan_53 rfl ?_
          refine g_ci (r_SN (st := [.ref (γ.2.2 6)]) (As := [.int (nI a), .int (nI (a + 1 + d))]) (d := 0) (host := RX4) (c_X4_spanOf l γ (va_up I (sp a b + 37) F) L P a (a + 1 + d) (by omega) (by omega)) gX0_fillSpan_X4_spanOf_n16 rfl nm_RX0_16 (by decide +kernel) (by decide +kernel) ⟨by decide, by decide, rfl⟩ ⟨Nat.le_of_ble_eq_true rfl, Nat.le_of_ble_eq_true rfl⟩ rfl (Nat.le_of_ble_eq_true rfl) dX0_fillSpan_55 ⟨Nat.zero_le _, Nat.zero_le _⟩) ?_
          rintro rz7 Iz7 Lz7 ⟨ez7, eIz7, eLz7⟩
          rw [ez7, eIz7, eLz7]
          refine g_aald (q := γ.2.2 ((sp a (a + 1 + d)) + 37)) 6 (sp a (a + 1 + d)) (by decide) rfl (by decide) (show _ < 21 by exact s1) (if_pos (show _ < 21 by exact s1)) dX0_fillSpan_58 ?_
          refine g_as (lv' := [(7, .ref (γ.2.2 ((sp a (a + 1 + d)) + 37))), (0, .ref (γ.2.2 3)), (1, .ref (γ.2.2 1)), (2, .ref (γ.2.2 12)), (3, .int (nI a)), (4, .int (nI b)), (5, .ref (γ.2.2 (sp a b + 37))), (6, .int (nI (a + 1 + d)))]) dX0_fillSpan_59 (by decide) rfl ?_
          refine g_al_n 1 dX0_fillSpan_61 rfl ?_
          refine g_get (v := .ref (γ.2.2 6)) 3 0 (by decide) rfl in_X0_fillSpan_0 rfl (by decide) (by decide +kernel) rfl rfl dX0_fillSpan_62 ?_
          refine g_il 7 dX0_fillSpan_65 rfl ?_
          refine g_il 5 dX0_fillSpan_67 rfl ?_
          refine g_ci (r_SN (st := [.ref (γ.2.2 6)]) (As := [.int (nI (a + 1 + d)), .int (nI b)]) (d := 0) (host := RX4) (c_X4_spanOf l γ (va_up I (sp a b + 37) F) L P (a + 1 + d) b hd hb) gX0_fillSpan_X4_spanOf_n16 rfl nm_RX0_16 (by decide +kernel) (by decide +kernel) ⟨by decide, by decide, rfl⟩ ⟨Nat.le_of_ble_eq_true rfl, Nat.le_of_ble_eq_true rfl⟩ rfl (Nat.le_of_ble_eq_true rfl) dX0_fillSpan_69 ⟨Nat.zero_le _, Nat.zero_le _⟩) ?_
          rintro rz8 Iz8 Lz8 ⟨ez8, eIz8, eLz8⟩
          rw [ez8, eIz8, eLz8]
          refine g_aald (q := γ.2.2 ((sp (a + 1 + d) b) + 37)) 6 (sp (a + 1 + d) b) (by decide) rfl (by decide) (show _ < 21 by exact s2) (if_pos (show _ < 21 by exact s2)) dX0_fillSpan_72 ?_
          refine g_as (lv' := [(8, .ref (γ.2.2 ((sp (a + 1 + d) b) + 37))), (7, .ref (γ.2.2 ((sp a (a + 1 + d)) + 37))), (0, .ref (γ.2.2 3)), (1, .ref (γ.2.2 1)), (2, .ref (γ.2.2 12)), (3, .int (nI a)), (4, .int (nI b)), (5, .ref (γ.2.2 (sp a b + 37))), (6, .int (nI (a + 1 + d)))]) dX0_fillSpan_73 (by decide) rfl ?_
          refine g_al_n 3 dX0_fillSpan_75 rfl ?_
          refine g_al 1 dX0_fillSpan_76 rfl ?_
          refine g_al 0 dX0_fillSpan_78 rfl ?_
          refine g_al 7 dX0_fillSpan_80 rfl ?_
          refine g_cv (r_VN (st := []) (As := [.ref (γ.2.2 ((sp a (a + 1 + d)) + 37)), .ref (γ.2.2 ((sp (a + 1 + d) b) + 37)), .ref (γ.2.2 (sp a b + 37))]) (d := 1) (host := RX4) 1 (by decide) rfl rfl (c_X1_addJoined l γ (va_up I (sp a b + 37) F) L P g n r (sp a (a + 1 + d) + 37) (sp (a + 1 + d) b + 37) (sp a b + 37) (ct g r w a (a + 1 + d)) (ct g r w (a + 1 + d) b) (fun c v => (if b = a + 1 then wcnt g (w a) c v else 0) + sm (fun d => cst g r (ct g r w a (a + 1 + d)) (ct g r w (a + 1 + d) b) c v) d) (hG.up (by omega) F) (by omega) (by omega) (by omega) (by omega) (by omega) (by omega) (by omega) (by omega) (by rw [va_up_ne _ _ (by omega)]; exact hM a (a + 1 + d) (by omega) (by omega) (by omega) (by omega)) (fun c hc v hv => Nat.lt_of_le_of_lt (Nat.le_trans (tt_part2 hc hv) (hG.ctb (by omega) (by omega))) (by decide)) (by rw [va_up_ne _ _ (by omega)]; exact hM (a + 1 + d) b (by omega) (by omega) hd (by omega)) (by rw [va_us]; exact hF)) gX0_fillSpan_X1_addJoined_n40 rfl nm_RX0_40 (by decide +kernel) (by decide +kernel) (by decide +kernel) ⟨by decide, by decide, rfl⟩ ⟨Nat.le_of_ble_eq_true rfl, Nat.le_of_ble_eq_true rfl⟩ rfl (Nat.le_of_ble_eq_true rfl) dX0_fillSpan_82 ⟨Nat.zero_le _, Nat.zero_le _⟩) ?_
          rintro Iz9 Lz9 ⟨⟨F1, eIz9, hF1⟩, eLz9⟩
          rw [eIz9, eLz9, va_uu]
          refine g_inc (v := nI (a + 1 + d + 1)) (lv' := [(6, .int (nI (a + 1 + d + 1))), (8, .ref (γ.2.2 ((sp (a + 1 + d) b) + 37))), (7, .ref (γ.2.2 ((sp a (a + 1 + d)) + 37))), (0, .ref (γ.2.2 3)), (1, .ref (γ.2.2 1)), (2, .ref (γ.2.2 12)), (3, .int (nI a)), (4, .int (nI b)), (5, .ref (γ.2.2 (sp a b + 37)))]) 8 dX0_fillSpan_85 rfl (inc_1 _) (by decide) rfl ?_
          refine g_goto (tgt := 41) dX0_fillSpan_88 (by decide) ?_
          refine g_sub [3, 4, 5, 6, 7, 8, 0] rfl ?_
          exact ih (d + 1) F1 (by omega) (hF1.cong (fun c _ v _ => by simp only [sm]; omega))
    refine g_sub [2, 3, 4, 5, 6, 1, 0] rfl ?_
    exact lp (b - (a + 1)) 0 Fw (Nat.zero_add _) (hFw.cong (fun c _ v _ => by rw [if_pos h1]; rfl))

set_option maxRecDepth 100000 in
set_option maxHeartbeats 4000000 in
theorem c_X0_fill (l : Launch) (γ : Gm) (I : IT) (L : LT) (P : PT) (g : GR) (n r t : Nat) (w : Nat → Nat) (hG : GG I g n r) (ht6 : t ≤ 6) (hw : ∀ p, p < t → I 12 p = nI (w p)) (hw2 : ∀ p, p < t → w p < n) : Cv l yX0_fill wsX0_fill 3 γ [.ref (γ.2.2 3), .ref (γ.2.2 1), .ref (γ.2.2 12), .int (nI t)] I L P (fun I' L' => ((∀ k, (k < 37 ∨ 58 ≤ k) → I' k = I k) ∧ ∀ i j, i < j → j ≤ t → HM (I' (sp i j + 37)) (ct g r w i j)) ∧ L' = L) := by
  refine Cv_of (own := RX0) (cc := cX0_fill) (maxL := 6) (by decide) rfl rfl (Nat.le_of_ble_eq_true rfl) ?_
  refine g_sub (lv' := [(0, .ref (γ.2.2 3)), (1, .ref (γ.2.2 1)), (2, .ref (γ.2.2 12)), (3, .int (nI t))]) [0, 1, 2, 3] rfl ?_
  refine g_ic (v := nI 1) dX0_fill_0 (by decide) ?_
  refine g_is (lv' := [(4, .int (nI 1)), (0, .ref (γ.2.2 3)), (1, .ref (γ.2.2 1)), (2, .ref (γ.2.2 12)), (3, .int (nI t))]) dX0_fill_1 (by decide) rfl ?_
  have lp : ∀ (m : Nat) (u : Nat) (J : IT) (hu : u + m = t) (hJ : ∀ k, (k < 37 ∨ 58 ≤ k) → J k = I k) (hV : ∀ i j, i < j → j < u + 1 → HM (J (sp i j + 37)) (ct g r w i j)), G E0 l cX0_fill 6 wsX0_fill RX0 none (rmd 3) γ P (AE γ) (Qv γ P (fun I' L' => ((∀ k, (k < 37 ∨ 58 ≤ k) → I' k = I k) ∧ ∀ i j, i < j → j ≤ t → HM (I' (sp i j + 37)) (ct g r w i j)) ∧ L' = L)) 0 0 3 [(0, .ref (γ.2.2 3)), (1, .ref (γ.2.2 1)), (2, .ref (γ.2.2 12)), (3, .int (nI t)), (4, .int (nI (u + 1)))] [] J L := by
    intro m
    induction m with
    | zero =>
      intro u J hu hJ hV
      simp only [Nat.add_zero] at hu
      refine g_il 4 dX0_fill_3 rfl ?_
      refine g_il_n 3 dX0_fill_5 rfl ?_
      refine gn_gt (tgt := 42) dX0_fill_6 (by decide) (by omega) (by omega) (fun h1 => ?_) (fun h1 => ?_)
      · skip
        exact g_vret dX0_fill_42 (⟨⟨hJ, fun i j h3 h4 => hV i j h3 (by omega)⟩, rfl⟩)
      · skip
        exfalso; omega
    | succ m ih =>
      intro u J hu hJ hV
      refine g_il 4 dX0_fill_3 rfl ?_
      refine g_il_n 3 dX0_fill_5 rfl ?_
      refine gn_gt (tgt := 42) dX0_fill_6 (by decide) (by omega) (by omega) (fun h1 => ?_) (fun h1 => ?_)
      · skip
        exfalso; omega
      · skip
        refine g_il 4 dX0_fill_9 rfl ?_
        refine g_ic (v := nI 1) dX0_fill_11 (by decide) ?_
        refine g_isub (v := dn (u + 1)) dX0_fill_12 (dn_sub1 (u + 1)) ?_
        refine g_is (lv' := [(5, .int (dn (u + 1))), (0, .ref (γ.2.2 3)), (1, .ref (γ.2.2 1)), (2, .ref (γ.2.2 12)), (3, .int (nI t)), (4, .int (nI (u + 1)))]) dX0_fill_13 (by decide) rfl ?_
        have lp2 : ∀ (f : Nat) (J : IT) (hf : f ≤ u + 1) (hJ : ∀ k, (k < 37 ∨ 58 ≤ k) → J k = I k) (hV : ∀ i j, i < j → j < u + 1 → HM (J (sp i j + 37)) (ct g r w i j)) (hS : ∀ i, f ≤ i → i < u + 1 → HM (J (sp i (u + 1) + 37)) (ct g r w i (u + 1))), G E0 l cX0_fill 6 wsX0_fill RX0 none (rmd 3) γ P (AE γ) (Qv γ P (fun I' L' => ((∀ k, (k < 37 ∨ 58 ≤ k) → I' k = I k) ∧ ∀ i j, i < j → j ≤ t → HM (I' (sp i j + 37)) (ct g r w i j)) ∧ L' = L)) 0 0 15 [(0, .ref (γ.2.2 3)), (1, .ref (γ.2.2 1)), (2, .ref (γ.2.2 12)), (3, .int (nI t)), (4, .int (nI (u + 1))), (5, .int (dn f))] [] J L := by
          intro f
          induction f with
          | zero =>
            intro J hf hJ hV hS
            refine g_lv (lv' := [(0, .ref (γ.2.2 3)), (1, .ref (γ.2.2 1)), (2, .ref (γ.2.2 12)), (3, .int (nI t)), (4, .int (nI (u + 1))), (5, .int (-1 : Int32))]) rfl ?_
            refine g_il 5 dX0_fill_15 rfl ?_
            refine g_if_lt (tgt := 36) dX0_fill_17 (by decide) (fun h2 => ?_) (fun h2 => ?_)
            · skip
              refine g_inc (v := nI (u + 1 + 1)) (lv' := [(4, .int (nI (u + 1 + 1))), (0, .ref (γ.2.2 3)), (1, .ref (γ.2.2 1)), (2, .ref (γ.2.2 12)), (3, .int (nI t)), (5, .int (-1 : Int32))]) 4 dX0_fill_36 rfl (inc_1 _) (by decide) rfl ?_
              refine g_goto (tgt := 3) dX0_fill_39 (by decide) ?_
              refine g_sub [1, 2, 3, 4, 0] rfl ?_
              exact ih (u + 1) J (by omega) hJ (fun i j h3 h4 => by
                by_cases e : j = u + 1
                · subst e; exact hS i (Nat.zero_le _) h3
                · exact hV i j h3 (by omega))
            · skip
              exact absurd (by decide) h2
          | succ f ih2 =>
            intro J hf hJ hV hS
            refine g_lv (lv' := [(0, .ref (γ.2.2 3)), (1, .ref (γ.2.2 1)), (2, .ref (γ.2.2 12)), (3, .int (nI t)), (4, .int (nI (u + 1))), (5, .int (nI f))]) rfl ?_
            have hG2 : GG J g n r := hG.cong (fun k hk => hJ k (by omega))
            have hs := sp_lt (show f < u + 1 by omega) (show u + 1 ≤ 6 by omega)
            refine g_il 5 dX0_fill_15 rfl ?_
            refine gz_lt (tgt := 36) dX0_fill_17 (by decide) (by omega) (fun h2 => ?_) (fun h2 => ?_)
            · skip
              exfalso; omega
            · skip
              refine g_al_n 0 dX0_fill_20 rfl ?_
              refine g_al_n 1 dX0_fill_21 rfl ?_
              refine g_al_n 2 dX0_fill_22 rfl ?_
              refine g_il 5 dX0_fill_23 rfl ?_
              refine g_il 4 dX0_fill_25 rfl ?_
              refine g_cv (r_V (st := []) (As := [.ref (γ.2.2 1), .ref (γ.2.2 12), .int (nI f), .int (nI (u + 1))]) (d := 2) 3 (by decide) rfl rfl (c_X0_fillSpan l γ J L P g n r f (u + 1) w hG2 (by omega) (by omega) (by rw [hJ 12 (by omega)]; exact hw f (by omega)) (hw2 f (by omega)) (fun i j h3 h4 h5 h6 => by
                  by_cases e : j = u + 1
                  · subst e; exact hS i (by omega) h5
                  · exact hV i j h5 (by omega))) gX0_fill_X0_fillSpan rfl ⟨rfl, by decide, by decide, rfl⟩ ⟨Nat.le_of_ble_eq_true rfl, Nat.le_of_ble_eq_true rfl⟩ rfl (Nat.le_of_ble_eq_true rfl) dX0_fill_27 ⟨Nat.zero_le _, Nat.zero_le _⟩) ?_
              rintro Iz1 Lz1 ⟨⟨F, eIz1, hF⟩, eLz1⟩
              rw [eIz1, eLz1]
              refine g_inc (v := dn f) (lv' := [(5, .int (dn f)), (0, .ref (γ.2.2 3)), (1, .ref (γ.2.2 1)), (2, .ref (γ.2.2 12)), (3, .int (nI t)), (4, .int (nI (u + 1)))]) 5 dX0_fill_30 rfl (dec_1 _) (by decide) rfl ?_
              refine g_goto (tgt := 15) dX0_fill_33 (by decide) ?_
              refine g_sub [1, 2, 3, 4, 5, 0] rfl ?_
              exact ih2 (va_up J (sp f (u + 1) + 37) F) (by omega) (fun k hk => by rw [va_up_ne _ _ (by omega)]; exact hJ k hk) (fun i j hij hj => by
                have q : sp i j ≠ sp f (u + 1) := fun q => by have := sp_inj hij (by omega) (show f < u + 1 by omega) (by omega) q; omega
                rw [va_up_ne _ _ (by omega)]; exact hV i j hij hj) (fun i h1 h2 => by
                by_cases e : i = f
                · subst e; rw [va_us]; exact hF
                · have q : sp i (u + 1) ≠ sp f (u + 1) := fun q => by have := sp_inj h2 (by omega) (show f < u + 1 by omega) (by omega) q; omega
                  rw [va_up_ne _ _ (by omega)]; exact hS i (by omega) h2)
        refine g_sub [1, 2, 3, 4, 5, 0] rfl ?_
        exact lp2 (u + 1) J (Nat.le_refl _) hJ hV (fun i h1 h2 => by omega)
  refine g_sub [1, 2, 3, 4, 0] rfl ?_
  exact lp t 0 I (Nat.zero_add _) (fun _ _ => rfl) (fun i j h1 h2 => by omega)

theorem in_X0_countSpan_0 : ∀ w ∈ wsX00, w ∈ wsX0_countSpan := by decide +kernel
set_option maxRecDepth 100000 in
set_option maxHeartbeats 4000000 in
theorem c_X0_countSpan (l : Launch) (γ : Gm) (I : IT) (L : LT) (P : PT) (a b c : Nat) (M : Nat → Nat → Nat) (hab : a < b) (hb : b ≤ 6) (hc : c < 8) (hM : HM (I (sp a b + 37)) M) : Ci l yX0_countSpan wsX0_countSpan 1 γ [.ref (γ.2.2 3), .int (nI a), .int (nI b), .int (nI c)] I L P (fun r I' L' => r = nI (sm (M c) 16) ∧ I' = I ∧ L' = L) := by
  refine Ci_of (own := RX0) (cc := cX0_countSpan) (maxL := 4) (by decide) rfl rfl (Nat.le_of_ble_eq_true rfl) ?_
  refine g_sub (lv' := [(0, .ref (γ.2.2 3)), (1, .int (nI a)), (2, .int (nI b)), (3, .int (nI c))]) [0, 1, 2, 3] rfl ?_
  have hs := sp_lt hab hb
  refine g_al_n 0 dX0_countSpan_0 rfl ?_
  refine g_get (v := .ref (γ.2.2 6)) 3 0 (by decide) rfl in_X0_countSpan_0 rfl (by decide) (by decide +kernel) rfl rfl dX0_countSpan_1 ?_
  refine g_il_n 1 dX0_countSpan_4 rfl ?_
  refine g_il_n 2 dX0_countSpan_5 rfl ?_
  refine g_ci (r_SN (st := [.ref (γ.2.2 6)]) (As := [.int (nI a), .int (nI b)]) (d := 0) (host := RX4) (c_X4_spanOf l γ I L P a b hab hb) gX0_countSpan_X4_spanOf_n16 rfl nm_RX0_16 (by decide +kernel) (by decide +kernel) ⟨by decide, by decide, rfl⟩ ⟨Nat.le_of_ble_eq_true rfl, Nat.le_of_ble_eq_true rfl⟩ rfl (Nat.le_of_ble_eq_true rfl) dX0_countSpan_6 ⟨Nat.zero_le _, Nat.zero_le _⟩) ?_
  rintro rz1 Iz1 Lz1 ⟨ez1, eIz1, eLz1⟩
  rw [ez1, eIz1, eLz1]
  refine g_aald (q := γ.2.2 ((sp a b) + 37)) 6 (sp a b) (by decide) rfl (by decide) (show _ < 21 by exact hs) (if_pos (show _ < 21 by exact hs)) dX0_countSpan_9 ?_
  refine g_il_n 3 dX0_countSpan_10 rfl ?_
  refine g_ci (r_SN (st := []) (As := [.ref (γ.2.2 ((sp a b) + 37)), .int (nI c)]) (d := 0) (host := RX4) (c_X4_countOf l γ I L P (sp a b + 37) c (M c) (by omega) (by omega) hc (fun v hv => hM c hc v hv)) gX0_countSpan_X4_countOf_n20 rfl nm_RX0_20 (by decide +kernel) (by decide +kernel) ⟨by decide, by decide, rfl⟩ ⟨Nat.le_of_ble_eq_true rfl, Nat.le_of_ble_eq_true rfl⟩ rfl (Nat.le_of_ble_eq_true rfl) dX0_countSpan_11 ⟨Nat.zero_le _, Nat.zero_le _⟩) ?_
  rintro rz2 Iz2 Lz2 ⟨ez2, eIz2, eLz2⟩
  rw [ez2, eIz2, eLz2]
  exact g_iret dX0_countSpan_14 (⟨rfl, rfl, rfl⟩)

theorem GG.ctb3 {I : IT} {g : GR} {n r : Nat} (h : GG I g n r) {w : Nat → Nat} {i j : Nat} (hij : i < j) (hj : j - i ≤ 6) : tt (ct g r w i j) ≤ 1376256 :=
  Nat.le_trans (ct_bound h.r_le (fun ρ hρ => h.fst_lt hρ) (fun ρ hρ => h.snd_lt hρ) (j - i) i j rfl hij hj) (TB_le _)
set_option maxRecDepth 100000 in
set_option maxHeartbeats 4000000 in
theorem c_X3_countN (l : Launch) (γ : Gm) (P : PT) : ∀ (N : Nat) (I : IT) (L : LT) (g : GR) (n r a b e o : Nat) (w : Nat → Nat) (hG : GG I g n r) (hab : a < b) (hN : b - a ≤ N) (he : e + (b - a) ≤ 6) (hb6 : b ≤ 6) (ho : o ≤ 2 * e) (hw : ∀ p, p < b → I 12 p = nI (w p)) (hw2 : ∀ p, p < b → w p < n), Cv l yX3_count wsX3_count (1 + (b - a)) γ [.ref (γ.2.2 1), .ref (γ.2.2 7), .ref (γ.2.2 12), .int (nI a), .int (nI b), .int (nI e), .int (nI o)] I L P (fun I' L' => ((∀ k, k ≠ o + 58 → k < 2 * e + 1 + 58 → I' k = I k) ∧ HM (I' (o + 58)) (ct g r w a b)) ∧ L' = L) := by
  intro N
  induction N with
  | zero => intro I L g n r a b e o w hG hab hN; omega
  | succ N IH =>
    intro I L g n r a b e o w hG hab hN he hb6 ho hw hw2
    refine Cv_of (own := RX3) (cc := cX3_count) (maxL := 10) (by decide) rfl rfl (Nat.le_of_ble_eq_true rfl) ?_
    refine g_sub (lv' := [(0, .ref (γ.2.2 1)), (1, .ref (γ.2.2 7)), (2, .ref (γ.2.2 12)), (3, .int (nI a)), (4, .int (nI b)), (5, .int (nI e)), (6, .int (nI o))]) [0, 1, 2, 3, 4, 5, 6] rfl ?_
    have hb : b ≤ a + 6 := by omega
    refine g_al_n 1 dX3_count_0 rfl ?_
    refine g_il 6 dX3_count_1 rfl ?_
    refine g_aald (q := γ.2.2 (o + 58)) 7 o (by decide) rfl (by decide) (show _ < 13 by omega) (if_pos (show _ < 13 by omega)) dX3_count_3 ?_
    refine g_ic (v := nI 0) dX3_count_4 (by decide) ?_
    refine g_cv (r_S (st := []) (As := [.ref (γ.2.2 (o + 58)), .int (nI 0)]) (d := 0) (c_J7_fill_53178 l γ I L P (o + 58) (by omega) (by omega)) gX3_count_J7_fill_53178 rfl ⟨by decide, by decide, rfl⟩ ⟨by show 0 + 1 ≤ 1 + (b - a); omega, by show 8 + (4 + 11) + 40 * 0 ≤ 40 * (1 + (b - a)); omega⟩ rfl (Nat.le_of_ble_eq_true rfl) dX3_count_5 ⟨Nat.zero_le _, Nat.zero_le _⟩) ?_
    rintro Iz1 Lz1 ⟨⟨Fz, eIz1, hFz⟩, eLz1⟩
    rw [eIz1, eLz1]
    refine g_il 5 dX3_count_8 rfl ?_
    refine g_bi (v := nI 6) dX3_count_10 (by decide) ?_
    refine gn_lt (tgt := 16) dX3_count_12 (by decide) (by omega) (by omega) (fun h1 => ?_) (fun h1 => ?_)
    · skip
      refine g_il 4 dX3_count_16 rfl ?_
      refine g_il_n 3 dX3_count_18 rfl ?_
      refine g_ic (v := nI 1) dX3_count_19 (by decide) ?_
      refine g_iadd (v := nI (a + 1)) dX3_count_20 (nI_add _ _) ?_
      refine gn_ne (tgt := 35) dX3_count_21 (by decide) (by omega) (by omega) (fun h2 => ?_) (fun h2 => ?_)
      · skip
        refine g_ic (v := nI 2) dX3_count_35 (by decide) ?_
        refine g_il 5 dX3_count_36 rfl ?_
        refine g_imul (v := nI (2 * e)) dX3_count_38 (pk_mul _ _) ?_
        refine g_ic (v := nI 1) dX3_count_39 (by decide) ?_
        refine g_iadd (v := nI (2 * e + 1)) dX3_count_40 (nI_add _ _) ?_
        refine g_is (lv' := [(7, .int (nI (2 * e + 1))), (0, .ref (γ.2.2 1)), (1, .ref (γ.2.2 7)), (2, .ref (γ.2.2 12)), (3, .int (nI a)), (4, .int (nI b)), (5, .int (nI e)), (6, .int (nI o))]) dX3_count_41 (by decide) rfl ?_
        refine g_il 0 dX3_count_43 rfl ?_
        refine g_ic (v := nI 1) dX3_count_45 (by decide) ?_
        refine g_iadd (v := nI (2 * e + 1 + 1)) dX3_count_46 (nI_add _ _) ?_
        refine g_is (lv' := [(8, .int (nI (2 * e + 1 + 1))), (7, .int (nI (2 * e + 1))), (0, .ref (γ.2.2 1)), (1, .ref (γ.2.2 7)), (2, .ref (γ.2.2 12)), (3, .int (nI a)), (4, .int (nI b)), (5, .int (nI e)), (6, .int (nI o))]) dX3_count_47 (by decide) rfl ?_
        refine g_il_n 5 dX3_count_49 rfl ?_
        refine g_ic (v := nI 1) dX3_count_50 (by decide) ?_
        refine g_iadd (v := nI (a + 1)) dX3_count_51 (nI_add _ _) ?_
        refine g_is (lv' := [(9, .int (nI (a + 1))), (8, .int (nI (2 * e + 1 + 1))), (7, .int (nI (2 * e + 1))), (0, .ref (γ.2.2 1)), (1, .ref (γ.2.2 7)), (2, .ref (γ.2.2 12)), (3, .int (nI a)), (4, .int (nI b)), (5, .int (nI e)), (6, .int (nI o))]) dX3_count_52 (by decide) rfl ?_
        have lp : ∀ (k : Nat) (d : Nat) (J : IT) (hk : d + k = b - (a + 1)) (hJ : ∀ k, k ≠ o + 58 → k < 2 * e + 1 + 58 → J k = I k) (hF : HM (J (o + 58)) (fun c v => (if b = a + 1 then wcnt g (w a) c v else 0) + sm (fun d => cst g r (ct g r w a (a + 1 + d)) (ct g r w (a + 1 + d) b) c v) d)), G E0 l cX3_count 10 wsX3_count RX3 none (rmd (1 + (b - a))) γ P (AE γ) (Qv γ P (fun I' L' => ((∀ k, k ≠ o + 58 → k < 2 * e + 1 + 58 → I' k = I k) ∧ HM (I' (o + 58)) (ct g r w a b)) ∧ L' = L)) 0 0 54 [(0, .ref (γ.2.2 1)), (1, .ref (γ.2.2 7)), (2, .ref (γ.2.2 12)), (3, .int (nI a)), (4, .int (nI b)), (5, .int (nI e)), (6, .int (nI o)), (7, .int (nI (2 * e + 1))), (8, .int (nI (2 * e + 1 + 1))), (9, .int (nI (a + 1 + d)))] [] J L := by
          intro k
          induction k with
          | zero =>
            intro d J hk hJ hF
            simp only [Nat.add_zero] at hk
            refine g_il 9 dX3_count_54 rfl ?_
            refine g_il 4 dX3_count_56 rfl ?_
            refine gn_ge (tgt := 114) dX3_count_58 (by decide) (by omega) (by omega) (fun h3 => ?_) (fun h3 => ?_)
            · skip
              exact g_vret dX3_count_114 (⟨⟨hJ, hF.cong (fun c hc v hv => by
                    by_cases q : b = a + 1
                    · subst q; rw [if_pos rfl, ct_one, hk, show a + 1 - (a + 1) = 0 by omega]; rfl
                    · rw [if_neg q, ct_more g r w c v (by omega), hk, Nat.zero_add, show b - (a + 1) = b - a - 1 by omega])⟩, rfl⟩)
            · skip
              exfalso; omega
          | succ k ih =>
            intro d J hk hJ hF
            have hd : a + 1 + d < b := by omega
            have hG2 : GG J g n r := hG.cong (fun k hk => hJ k (by omega) (by omega))
            refine g_il 9 dX3_count_54 rfl ?_
            refine g_il 4 dX3_count_56 rfl ?_
            refine gn_ge (tgt := 114) dX3_count_58 (by decide) (by omega) (by omega) (fun h3 => ?_) (fun h3 => ?_)
            · skip
              exfalso; omega
            · skip
              refine g_al_n 0 dX3_count_61 rfl ?_
              refine g_al_n 1 dX3_count_62 rfl ?_
              refine g_al_n 2 dX3_count_63 rfl ?_
              refine g_il_n 3 dX3_count_64 rfl ?_
              refine g_il 9 dX3_count_65 rfl ?_
              refine g_il 5 dX3_count_67 rfl ?_
              refine g_ic (v := nI 1) dX3_count_69 (by decide) ?_
              refine g_iadd (v := nI (e + 1)) dX3_count_70 (nI_add _ _) ?_
              refine g_il 7 dX3_count_71 rfl ?_
              refine g_cv (r_S (st := []) (As := [.ref (γ.2.2 1), .ref (γ.2.2 7), .ref (γ.2.2 12), .int (nI a), .int (nI (a + 1 + d)), .int (nI (e + 1)), .int (nI (2 * e + 1))]) (d := (1 + (a + 1 + d - a))) (IH J L g n r a (a + 1 + d) (e + 1) (2 * e + 1) w hG2 (by omega) (by omega) (by omega) (by omega) (by omega) (fun p hp => by rw [hJ 12 (by omega) (by omega)]; exact hw p (by omega)) (fun p hp => hw2 p (by omega))) gX3_count_X3_count rfl ⟨by decide, by decide, rfl⟩ ⟨by show 1 + _ + 1 ≤ 1 + (b - a); omega, by show 8 + (10 + 11) + 40 * (1 + _) ≤ 40 * (1 + (b - a)); omega⟩ rfl (Nat.le_of_ble_eq_true rfl) dX3_count_73 ⟨Nat.zero_le _, Nat.zero_le _⟩) ?_
              rintro Iz2 Lz2 ⟨⟨hJ1, hM1⟩, eLz2⟩
              rw [eLz2]
              have hG3 : GG Iz2 g n r := hG2.cong (fun k hk => hJ1 k (by omega) (by omega))
              obtain ⟨J1, eJ1⟩ : ∃ J1, J1 = Iz2 := ⟨_, rfl⟩
              rw [← eJ1] at hJ1 hM1 hG3 ⊢
              refine g_al_n 0 dX3_count_76 rfl ?_
              refine g_al_n 1 dX3_count_77 rfl ?_
              refine g_al_n 2 dX3_count_78 rfl ?_
              refine g_il 9 dX3_count_79 rfl ?_
              refine g_il 4 dX3_count_81 rfl ?_
              refine g_il 5 dX3_count_83 rfl ?_
              refine g_ic (v := nI 1) dX3_count_85 (by decide) ?_
              refine g_iadd (v := nI (e + 1)) dX3_count_86 (nI_add _ _) ?_
              refine g_il 8 dX3_count_87 rfl ?_
              refine g_cv (r_S (st := []) (As := [.ref (γ.2.2 1), .ref (γ.2.2 7), .ref (γ.2.2 12), .int (nI (a + 1 + d)), .int (nI b), .int (nI (e + 1)), .int (nI (2 * e + 1 + 1))]) (d := (1 + (b - (a + 1 + d)))) (IH J1 L g n r (a + 1 + d) b (e + 1) (2 * e + 1 + 1) w hG3 hd (by omega) (by omega) hb6 (by omega) (fun p hp => by rw [hJ1 12 (by omega) (by omega), hJ 12 (by omega) (by omega)]; exact hw p hp) hw2) gX3_count_X3_count rfl ⟨by decide, by decide, rfl⟩ ⟨by show 1 + _ + 1 ≤ 1 + (b - a); omega, by show 8 + (10 + 11) + 40 * (1 + _) ≤ 40 * (1 + (b - a)); omega⟩ rfl (Nat.le_of_ble_eq_true rfl) dX3_count_89 ⟨Nat.zero_le _, Nat.zero_le _⟩) ?_
              rintro Iz3 Lz3 ⟨⟨hJ2, hM2⟩, eLz3⟩
              rw [eLz3]
              have hG4 : GG Iz3 g n r := hG3.cong (fun k hk => hJ2 k (by omega) (by omega))
              obtain ⟨J2, eJ2⟩ : ∃ J2, J2 = Iz3 := ⟨_, rfl⟩
              rw [← eJ2] at hJ2 hM2 hG4 ⊢
              refine g_al_n 0 dX3_count_92 rfl ?_
              refine g_al_n 1 dX3_count_93 rfl ?_
              refine g_il 7 dX3_count_94 rfl ?_
              refine g_aald (q := γ.2.2 ((2 * e + 1) + 58)) 7 (2 * e + 1) (by decide) rfl (by decide) (show _ < 13 by omega) (if_pos (show _ < 13 by omega)) dX3_count_96 ?_
              refine g_al_n 1 dX3_count_97 rfl ?_
              refine g_il 8 dX3_count_98 rfl ?_
              refine g_aald (q := γ.2.2 ((2 * e + 1 + 1) + 58)) 7 (2 * e + 1 + 1) (by decide) rfl (by decide) (show _ < 13 by omega) (if_pos (show _ < 13 by omega)) dX3_count_100 ?_
              refine g_al_n 1 dX3_count_101 rfl ?_
              refine g_il 6 dX3_count_102 rfl ?_
              refine g_aald (q := γ.2.2 (o + 58)) 7 o (by decide) rfl (by decide) (show _ < 13 by omega) (if_pos (show _ < 13 by omega)) dX3_count_104 ?_
              refine g_cv (r_VN (st := []) (As := [.ref (γ.2.2 ((2 * e + 1) + 58)), .ref (γ.2.2 ((2 * e + 1 + 1) + 58)), .ref (γ.2.2 (o + 58))]) (d := 1) (host := RX4) 1 (by decide) rfl rfl (c_X1_addJoined l γ J2 L P g n r (2 * e + 1 + 58) (2 * e + 1 + 1 + 58) (o + 58) (ct g r w a (a + 1 + d)) (ct g r w (a + 1 + d) b) (fun c v => (if b = a + 1 then wcnt g (w a) c v else 0) + sm (fun d => cst g r (ct g r w a (a + 1 + d)) (ct g r w (a + 1 + d) b) c v) d) hG4 (by omega) (by omega) (by omega) (by omega) (by omega) (by omega) (by omega) (by omega) (by rw [hJ2 _ (by omega) (by omega)]; exact hM1) (fun c hc v hv => Nat.lt_of_le_of_lt (Nat.le_trans (tt_part2 hc hv) (hG.ctb3 (by omega) (by omega))) (by decide)) hM2 (by rw [hJ2 _ (by omega) (by omega), hJ1 _ (by omega) (by omega)]; exact hF)) gX3_count_X1_addJoined_n36 rfl nm_RX3_36 (by decide +kernel) (by decide +kernel) (by decide +kernel) ⟨by decide, by decide, rfl⟩ ⟨by show 1 + 1 ≤ 1 + (b - a); omega, by show 8 + (7 + 11) + 40 * 1 ≤ 40 * (1 + (b - a)); omega⟩ rfl (Nat.le_of_ble_eq_true rfl) dX3_count_105 ⟨Nat.zero_le _, Nat.zero_le _⟩) ?_
              rintro Iz4 Lz4 ⟨⟨F1, eIz4, hF1⟩, eLz4⟩
              rw [eIz4, eLz4]
              refine g_inc (v := nI (a + 1 + d + 1)) (lv' := [(9, .int (nI (a + 1 + d + 1))), (0, .ref (γ.2.2 1)), (1, .ref (γ.2.2 7)), (2, .ref (γ.2.2 12)), (3, .int (nI a)), (4, .int (nI b)), (5, .int (nI e)), (6, .int (nI o)), (7, .int (nI (2 * e + 1))), (8, .int (nI (2 * e + 1 + 1)))]) 9 dX3_count_108 rfl (inc_1 _) (by decide) rfl ?_
              refine g_goto (tgt := 54) dX3_count_111 (by decide) ?_
              refine g_sub [1, 2, 3, 4, 5, 6, 7, 8, 9, 0] rfl ?_
              exact ih (d + 1) (va_up J2 (o + 58) F1) (by omega) (fun k h4 h5 => by rw [va_up_ne _ _ h4, hJ2 k (by omega) (by omega), hJ1 k (by omega) (by omega)]; exact hJ k h4 h5) (by rw [va_us]; exact hF1.cong (fun c _ v _ => by simp only [sm]; omega))
        refine g_sub [3, 4, 5, 6, 7, 8, 9, 2, 1, 0] rfl ?_
        exact lp (b - (a + 1)) 0 (va_up I (o + 58) Fz) (Nat.zero_add _) (fun k h3 h4 => va_up_ne _ _ h3) (by rw [va_us]; exact hFz.cong (fun c _ v _ => by rw [if_neg h2]; rfl))
      · skip
        refine g_al_n 0 dX3_count_24 rfl ?_
        refine g_al_n 2 dX3_count_25 rfl ?_
        refine g_il_n 3 dX3_count_26 rfl ?_
        refine g_iald (v := nI (w a)) 12 a (by decide) (by decide) (show a < 6 by omega) (by rw [va_up_ne _ _ (by omega)]; exact hw a hab) dX3_count_27 ?_
        refine g_al_n 1 dX3_count_28 rfl ?_
        refine g_il 6 dX3_count_29 rfl ?_
        refine g_aald (q := γ.2.2 (o + 58)) 7 o (by decide) rfl (by decide) (show _ < 13 by omega) (if_pos (show _ < 13 by omega)) dX3_count_31 ?_
        refine g_cv (r_VN (st := []) (As := [.int (nI (w a)), .ref (γ.2.2 (o + 58))]) (d := 0) (host := RX4) 1 (by decide) rfl rfl (c_X1_countWord l γ (va_up I (o + 58) Fz) L P g n r (w a) (o + 58) (hG.up (by omega) Fz) (hw2 a hab) (by omega) (by omega) (by rw [va_us]; exact hFz)) gX3_count_X1_countWord_n30 rfl nm_RX3_30 (by decide +kernel) (by decide +kernel) (by decide +kernel) ⟨by decide, by decide, rfl⟩ ⟨by show 0 + 1 ≤ 1 + (b - a); omega, by show 8 + (3 + 11) + 40 * 0 ≤ 40 * (1 + (b - a)); omega⟩ rfl (Nat.le_of_ble_eq_true rfl) dX3_count_32 ⟨Nat.zero_le _, Nat.zero_le _⟩) ?_
        rintro Iz5 Lz5 ⟨⟨Fw, eIz5, hFw⟩, eLz5⟩
        rw [eIz5, eLz5, va_uu]
        refine g_ic (v := nI 2) dX3_count_35 (by decide) ?_
        refine g_il 5 dX3_count_36 rfl ?_
        refine g_imul (v := nI (2 * e)) dX3_count_38 (pk_mul _ _) ?_
        refine g_ic (v := nI 1) dX3_count_39 (by decide) ?_
        refine g_iadd (v := nI (2 * e + 1)) dX3_count_40 (nI_add _ _) ?_
        refine g_is (lv' := [(7, .int (nI (2 * e + 1))), (0, .ref (γ.2.2 1)), (1, .ref (γ.2.2 7)), (2, .ref (γ.2.2 12)), (3, .int (nI a)), (4, .int (nI b)), (5, .int (nI e)), (6, .int (nI o))]) dX3_count_41 (by decide) rfl ?_
        refine g_il 0 dX3_count_43 rfl ?_
        refine g_ic (v := nI 1) dX3_count_45 (by decide) ?_
        refine g_iadd (v := nI (2 * e + 1 + 1)) dX3_count_46 (nI_add _ _) ?_
        refine g_is (lv' := [(8, .int (nI (2 * e + 1 + 1))), (7, .int (nI (2 * e + 1))), (0, .ref (γ.2.2 1)), (1, .ref (γ.2.2 7)), (2, .ref (γ.2.2 12)), (3, .int (nI a)), (4, .int (nI b)), (5, .int (nI e)), (6, .int (nI o))]) dX3_count_47 (by decide) rfl ?_
        refine g_il_n 5 dX3_count_49 rfl ?_
        refine g_ic (v := nI 1) dX3_count_50 (by decide) ?_
        refine g_iadd (v := nI (a + 1)) dX3_count_51 (nI_add _ _) ?_
        refine g_is (lv' := [(9, .int (nI (a + 1))), (8, .int (nI (2 * e + 1 + 1))), (7, .int (nI (2 * e + 1))), (0, .ref (γ.2.2 1)), (1, .ref (γ.2.2 7)), (2, .ref (γ.2.2 12)), (3, .int (nI a)), (4, .int (nI b)), (5, .int (nI e)), (6, .int (nI o))]) dX3_count_52 (by decide) rfl ?_
        have lp : ∀ (k : Nat) (d : Nat) (J : IT) (hk : d + k = b - (a + 1)) (hJ : ∀ k, k ≠ o + 58 → k < 2 * e + 1 + 58 → J k = I k) (hF : HM (J (o + 58)) (fun c v => (if b = a + 1 then wcnt g (w a) c v else 0) + sm (fun d => cst g r (ct g r w a (a + 1 + d)) (ct g r w (a + 1 + d) b) c v) d)), G E0 l cX3_count 10 wsX3_count RX3 none (rmd (1 + (b - a))) γ P (AE γ) (Qv γ P (fun I' L' => ((∀ k, k ≠ o + 58 → k < 2 * e + 1 + 58 → I' k = I k) ∧ HM (I' (o + 58)) (ct g r w a b)) ∧ L' = L)) 0 0 54 [(0, .ref (γ.2.2 1)), (1, .ref (γ.2.2 7)), (2, .ref (γ.2.2 12)), (3, .int (nI a)), (4, .int (nI b)), (5, .int (nI e)), (6, .int (nI o)), (7, .int (nI (2 * e + 1))), (8, .int (nI (2 * e + 1 + 1))), (9, .int (nI (a + 1 + d)))] [] J L := by
          intro k
          induction k with
          | zero =>
            intro d J hk hJ hF
            simp only [Nat.add_zero] at hk
            refine g_il 9 dX3_count_54 rfl ?_
            refine g_il 4 dX3_count_56 rfl ?_
            refine gn_ge (tgt := 114) dX3_count_58 (by decide) (by omega) (by omega) (fun h3 => ?_) (fun h3 => ?_)
            · skip
              exact g_vret dX3_count_114 (⟨⟨hJ, hF.cong (fun c hc v hv => by
                    by_cases q : b = a + 1
                    · subst q; rw [if_pos rfl, ct_one, hk, show a + 1 - (a + 1) = 0 by omega]; rfl
                    · rw [if_neg q, ct_more g r w c v (by omega), hk, Nat.zero_add, show b - (a + 1) = b - a - 1 by omega])⟩, rfl⟩)
            · skip
              exfalso; omega
          | succ k ih =>
            intro d J hk hJ hF
            have hd : a + 1 + d < b := by omega
            have hG2 : GG J g n r := hG.cong (fun k hk => hJ k (by omega) (by omega))
            refine g_il 9 dX3_count_54 rfl ?_
            refine g_il 4 dX3_count_56 rfl ?_
            refine gn_ge (tgt := 114) dX3_count_58 (by decide) (by omega) (by omega) (fun h3 => ?_) (fun h3 => ?_)
            · skip
              exfalso; omega
            · skip
              refine g_al_n 0 dX3_count_61 rfl ?_
              refine g_al_n 1 dX3_count_62 rfl ?_
              refine g_al_n 2 dX3_count_63 rfl ?_
              refine g_il_n 3 dX3_count_64 rfl ?_
              refine g_il 9 dX3_count_65 rfl ?_
              refine g_il 5 dX3_count_67 rfl ?_
              refine g_ic (v := nI 1) dX3_count_69 (by decide) ?_
              refine g_iadd (v := nI (e + 1)) dX3_count_70 (nI_add _ _) ?_
              refine g_il 7 dX3_count_71 rfl ?_
              refine g_cv (r_S (st := []) (As := [.ref (γ.2.2 1), .ref (γ.2.2 7), .ref (γ.2.2 12), .int (nI a), .int (nI (a + 1 + d)), .int (nI (e + 1)), .int (nI (2 * e + 1))]) (d := (1 + (a + 1 + d - a))) (IH J L g n r a (a + 1 + d) (e + 1) (2 * e + 1) w hG2 (by omega) (by omega) (by omega) (by omega) (by omega) (fun p hp => by rw [hJ 12 (by omega) (by omega)]; exact hw p (by omega)) (fun p hp => hw2 p (by omega))) gX3_count_X3_count rfl ⟨by decide, by decide, rfl⟩ ⟨by show 1 + _ + 1 ≤ 1 + (b - a); omega, by show 8 + (10 + 11) + 40 * (1 + _) ≤ 40 * (1 + (b - a)); omega⟩ rfl (Nat.le_of_ble_eq_true rfl) dX3_count_73 ⟨Nat.zero_le _, Nat.zero_le _⟩) ?_
              rintro Iz6 Lz6 ⟨⟨hJ1, hM1⟩, eLz6⟩
              rw [eLz6]
              have hG3 : GG Iz6 g n r := hG2.cong (fun k hk => hJ1 k (by omega) (by omega))
              obtain ⟨J1, eJ1⟩ : ∃ J1, J1 = Iz6 := ⟨_, rfl⟩
              rw [← eJ1] at hJ1 hM1 hG3 ⊢
              refine g_al_n 0 dX3_count_76 rfl ?_
              refine g_al_n 1 dX3_count_77 rfl ?_
              refine g_al_n 2 dX3_count_78 rfl ?_
              refine g_il 9 dX3_count_79 rfl ?_
              refine g_il 4 dX3_count_81 rfl ?_
              refine g_il 5 dX3_count_83 rfl ?_
              refine g_ic (v := nI 1) dX3_count_85 (by decide) ?_
              refine g_iadd (v := nI (e + 1)) dX3_count_86 (nI_add _ _) ?_
              refine g_il 8 dX3_count_87 rfl ?_
              refine g_cv (r_S (st := []) (As := [.ref (γ.2.2 1), .ref (γ.2.2 7), .ref (γ.2.2 12), .int (nI (a + 1 + d)), .int (nI b), .int (nI (e + 1)), .int (nI (2 * e + 1 + 1))]) (d := (1 + (b - (a + 1 + d)))) (IH J1 L g n r (a + 1 + d) b (e + 1) (2 * e + 1 + 1) w hG3 hd (by omega) (by omega) hb6 (by omega) (fun p hp => by rw [hJ1 12 (by omega) (by omega), hJ 12 (by omega) (by omega)]; exact hw p hp) hw2) gX3_count_X3_count rfl ⟨by decide, by decide, rfl⟩ ⟨by show 1 + _ + 1 ≤ 1 + (b - a); omega, by show 8 + (10 + 11) + 40 * (1 + _) ≤ 40 * (1 + (b - a)); omega⟩ rfl (Nat.le_of_ble_eq_true rfl) dX3_count_89 ⟨Nat.zero_le _, Nat.zero_le _⟩) ?_
              rintro Iz7 Lz7 ⟨⟨hJ2, hM2⟩, eLz7⟩
              rw [eLz7]
              have hG4 : GG Iz7 g n r := hG3.cong (fun k hk => hJ2 k (by omega) (by omega))
              obtain ⟨J2, eJ2⟩ : ∃ J2, J2 = Iz7 := ⟨_, rfl⟩
              rw [← eJ2] at hJ2 hM2 hG4 ⊢
              refine g_al_n 0 dX3_count_92 rfl ?_
              refine g_al_n 1 dX3_count_93 rfl ?_
              refine g_il 7 dX3_count_94 rfl ?_
              refine g_aald (q := γ.2.2 ((2 * e + 1) + 58)) 7 (2 * e + 1) (by decide) rfl (by decide) (show _ < 13 by omega) (if_pos (show _ < 13 by omega)) dX3_count_96 ?_
              refine g_al_n 1 dX3_count_97 rfl ?_
              refine g_il 8 dX3_count_98 rfl ?_
              refine g_aald (q := γ.2.2 ((2 * e + 1 + 1) + 58)) 7 (2 * e + 1 + 1) (by decide) rfl (by decide) (show _ < 13 by omega) (if_pos (show _ < 13 by omega)) dX3_count_100 ?_
              refine g_al_n 1 dX3_count_101 rfl ?_
              refine g_il 6 dX3_count_102 rfl ?_
              refine g_aald (q := γ.2.2 (o + 58)) 7 o (by decide) rfl (by decide) (show _ < 13 by omega) (if_pos (show _ < 13 by omega)) dX3_count_104 ?_
              refine g_cv (r_VN (st := []) (As := [.ref (γ.2.2 ((2 * e + 1) + 58)), .ref (γ.2.2 ((2 * e + 1 + 1) + 58)), .ref (γ.2.2 (o + 58))]) (d := 1) (host := RX4) 1 (by decide) rfl rfl (c_X1_addJoined l γ J2 L P g n r (2 * e + 1 + 58) (2 * e + 1 + 1 + 58) (o + 58) (ct g r w a (a + 1 + d)) (ct g r w (a + 1 + d) b) (fun c v => (if b = a + 1 then wcnt g (w a) c v else 0) + sm (fun d => cst g r (ct g r w a (a + 1 + d)) (ct g r w (a + 1 + d) b) c v) d) hG4 (by omega) (by omega) (by omega) (by omega) (by omega) (by omega) (by omega) (by omega) (by rw [hJ2 _ (by omega) (by omega)]; exact hM1) (fun c hc v hv => Nat.lt_of_le_of_lt (Nat.le_trans (tt_part2 hc hv) (hG.ctb3 (by omega) (by omega))) (by decide)) hM2 (by rw [hJ2 _ (by omega) (by omega), hJ1 _ (by omega) (by omega)]; exact hF)) gX3_count_X1_addJoined_n36 rfl nm_RX3_36 (by decide +kernel) (by decide +kernel) (by decide +kernel) ⟨by decide, by decide, rfl⟩ ⟨by show 1 + 1 ≤ 1 + (b - a); omega, by show 8 + (7 + 11) + 40 * 1 ≤ 40 * (1 + (b - a)); omega⟩ rfl (Nat.le_of_ble_eq_true rfl) dX3_count_105 ⟨Nat.zero_le _, Nat.zero_le _⟩) ?_
              rintro Iz8 Lz8 ⟨⟨F1, eIz8, hF1⟩, eLz8⟩
              rw [eIz8, eLz8]
              refine g_inc (v := nI (a + 1 + d + 1)) (lv' := [(9, .int (nI (a + 1 + d + 1))), (0, .ref (γ.2.2 1)), (1, .ref (γ.2.2 7)), (2, .ref (γ.2.2 12)), (3, .int (nI a)), (4, .int (nI b)), (5, .int (nI e)), (6, .int (nI o)), (7, .int (nI (2 * e + 1))), (8, .int (nI (2 * e + 1 + 1)))]) 9 dX3_count_108 rfl (inc_1 _) (by decide) rfl ?_
              refine g_goto (tgt := 54) dX3_count_111 (by decide) ?_
              refine g_sub [1, 2, 3, 4, 5, 6, 7, 8, 9, 0] rfl ?_
              exact ih (d + 1) (va_up J2 (o + 58) F1) (by omega) (fun k h4 h5 => by rw [va_up_ne _ _ h4, hJ2 k (by omega) (by omega), hJ1 k (by omega) (by omega)]; exact hJ k h4 h5) (by rw [va_us]; exact hF1.cong (fun c _ v _ => by simp only [sm]; omega))
        refine g_sub [3, 4, 5, 6, 7, 8, 9, 2, 1, 0] rfl ?_
        exact lp (b - (a + 1)) 0 (va_up I (o + 58) Fw) (Nat.zero_add _) (fun k h3 h4 => va_up_ne _ _ h3) (by rw [va_us]; exact hFw.cong (fun c _ v _ => by rw [if_pos h2]; rfl))
    · skip
      exfalso; omega

theorem in_X3_countRow_3 : ∀ w ∈ wsX30, w ∈ wsX3_countRow := by decide +kernel
set_option maxRecDepth 100000 in
set_option maxHeartbeats 4000000 in
theorem c_X3_countRow (l : Launch) (γ : Gm) (I : IT) (L : LT) (P : PT) (g : GR) (n r0 t c : Nat) (w : Nat → Nat) (hG : GG I g n r0) (ht : 0 < t) (ht6 : t ≤ 6) (hc : c < 8) (hw : ∀ p, p < t → I 12 p = nI (w p)) (hw2 : ∀ p, p < t → w p < n) : Ci l yX3_countRow wsX3_countRow 8 γ [.ref (γ.2.2 4), .ref (γ.2.2 1), .ref (γ.2.2 12), .int (nI t), .int (nI c)] I L P (fun r I' L' => r = nI (sm (ct g r0 w 0 t c) 16) ∧ (∀ k, k < 58 → I' k = I k) ∧ L' = L) := by
  refine Ci_of (own := RX3) (cc := cX3_countRow) (maxL := 5) (by decide) rfl rfl (Nat.le_of_ble_eq_true rfl) ?_
  refine g_sub (lv' := [(0, .ref (γ.2.2 4)), (1, .ref (γ.2.2 1)), (2, .ref (γ.2.2 12)), (3, .int (nI t)), (4, .int (nI c))]) [0, 1, 2, 3, 4] rfl ?_
  refine g_al_n 1 dX3_countRow_0 rfl ?_
  refine g_al_n 0 dX3_countRow_1 rfl ?_
  refine g_get (v := .ref (γ.2.2 7)) 4 0 (by decide) rfl in_X3_countRow_3 rfl (by decide) (by decide +kernel) rfl rfl dX3_countRow_2 ?_
  refine g_al_n 2 dX3_countRow_5 rfl ?_
  refine g_ic (v := nI 0) dX3_countRow_6 (by decide) ?_
  refine g_il_n 3 dX3_countRow_7 rfl ?_
  refine g_ic (v := nI 0) dX3_countRow_8 (by decide) ?_
  refine g_ic (v := nI 0) dX3_countRow_9 (by decide) ?_
  refine g_cv (r_S (st := []) (As := [.ref (γ.2.2 1), .ref (γ.2.2 7), .ref (γ.2.2 12), .int (nI 0), .int (nI t), .int (nI 0), .int (nI 0)]) (d := (1 + (t - 0))) (c_X3_countN l γ P t I L g n r0 0 t 0 0 w hG ht (by omega) (by omega) ht6 (by omega) hw hw2) gX3_countRow_X3_count rfl ⟨by decide, by decide, rfl⟩ ⟨by show 1 + (t - 0) + 1 ≤ 8; omega, by show 8 + (10 + 11) + 40 * (1 + (t - 0)) ≤ 40 * 8; omega⟩ rfl (Nat.le_of_ble_eq_true rfl) dX3_countRow_10 ⟨Nat.zero_le _, Nat.zero_le _⟩) ?_
  rintro Iz1 Lz1 ⟨⟨hJ, hM⟩, eLz1⟩
  rw [eLz1]
  obtain ⟨J, eJ⟩ : ∃ J, J = Iz1 := ⟨_, rfl⟩
  rw [← eJ] at hJ hM ⊢
  refine g_al_n 0 dX3_countRow_13 rfl ?_
  refine g_get (v := .ref (γ.2.2 7)) 4 0 (by decide) rfl in_X3_countRow_3 rfl (by decide) (by decide +kernel) rfl rfl dX3_countRow_14 ?_
  refine g_ic (v := nI 0) dX3_countRow_17 (by decide) ?_
  refine g_aald (q := γ.2.2 (0 + 58)) 7 0 (by decide) rfl (by decide) (show _ < 13 by decide) (if_pos (show _ < 13 by decide)) dX3_countRow_18 ?_
  refine g_il 4 dX3_countRow_19 rfl ?_
  refine g_ci (r_SN (st := []) (As := [.ref (γ.2.2 (0 + 58)), .int (nI c)]) (d := 0) (host := RX4) (c_X4_countOf l γ J L P (0 + 58) c (ct g r0 w 0 t c) (by omega) (by omega) hc (fun v hv => hM c hc v hv)) gX3_countRow_X4_countOf_n20 rfl nm_RX3_20 (by decide +kernel) (by decide +kernel) ⟨by decide, by decide, rfl⟩ ⟨Nat.le_of_ble_eq_true rfl, Nat.le_of_ble_eq_true rfl⟩ rfl (Nat.le_of_ble_eq_true rfl) dX3_countRow_21 ⟨Nat.zero_le _, Nat.zero_le _⟩) ?_
  rintro rz2 Iz2 Lz2 ⟨ez2, eIz2, eLz2⟩
  rw [ez2, eIz2, eLz2]
  exact g_iret dX3_countRow_24 (⟨rfl, fun k hk => hJ k (by omega) (by omega), rfl⟩)
