/-! the class: rows with any words; making sentences -/
theorem lfr_lt {I : IT} {g : GR} {n r q : Nat} {u : Nat → Nat} {x y : Int32} (hG : GW I g n r q u) {p c : Nat} (hp : p < q) : lfr g n u x y p c < 2 ^ 16 := by
  unfold lfr
  split
  · exact orf_lt (fun w hw => wset_lt (hG.1.val_lt hw))
  · exact wset_lt (hG.1.val_lt (hG.2.2.2 p hp).2)
theorem lfr_in {g : GR} {n : Nat} {u : Nat → Nat} {x y : Int32} {p c : Nat} (h : nI p = x ∨ nI p = y) : lfr g n u x y p c = wany g n c := if_pos h
theorem lfr_ni {g : GR} {n : Nat} {u : Nat → Nat} {x y : Int32} {p c : Nat} (h : ¬ nI p = x) (h2 : ¬ nI p = y) : lfr g n u x y p c = wset g (u p) c := if_neg (fun e => e.elim h h2)

theorem in_X4_isSentenceFreeAt_1 : ∀ w ∈ wsX10, w ∈ wsX4_isSentenceFreeAt := by decide +kernel
theorem in_X4_isSentenceFreeAt_4 : ∀ w ∈ wsX40, w ∈ wsX4_isSentenceFreeAt := by decide +kernel
set_option maxRecDepth 100000 in
set_option maxHeartbeats 4000000 in
theorem c_X4_isSentenceFreeAt (l : Launch) (γ : Gm) (I : IT) (L : LT) (P : PT) (g : GR) (n r9 q : Nat) (u : Nat → Nat) (hG : GW I g n r9 q u) (x y : Int32) : Ci l yX4_isSentenceFreeAt wsX4_isSentenceFreeAt 4 γ [.ref (γ.2.2 0), .int x, .int y] I L P (fun r I' L' => r = bi (isF g r9 n u x y q) ∧ FC I I' ∧ L' = L) := by
  refine Ci_of (own := RX4) (cc := cX4_isSentenceFreeAt) (maxL := 4) (by decide) rfl rfl (Nat.le_of_ble_eq_true rfl) ?_
  refine g_sub (lv' := [(0, .ref (γ.2.2 0)), (1, .int x), (2, .int y)]) [0, 1, 2] rfl ?_
  have hq6 := hG.2.2.1
  have hGF : ∀ F, GW (va_up I 19 F) g n r9 q u := fun F => (FC.up19 I F).gw hG
  refine g_ic (v := nI 0) dX4_isSentenceFreeAt_0 (by decide) ?_
  refine g_is_n (lv' := [(3, .int (nI 0)), (0, .ref (γ.2.2 0)), (1, .int x), (2, .int y)]) dX4_isSentenceFreeAt_1 (by decide) rfl ?_
  have lp : ∀ (z : Nat) (p : Nat) (F : Nat → Int32) (hp : p + z = q) (hV : CV F g r9 (lfr g n u x y) p), G E0 l cX4_isSentenceFreeAt 4 wsX4_isSentenceFreeAt RX4 (some .boolean) (rmd 4) γ P (AE γ) (Qi γ P (fun r I' L' => r = bi (isF g r9 n u x y q) ∧ FC I I' ∧ L' = L)) 0 0 2 [(0, .ref (γ.2.2 0)), (1, .int x), (2, .int y), (3, .int (nI p))] [] (va_up I 19 F) L := by
    intro z
    induction z with
    | zero =>
      intro p F hp hV
      simp only [Nat.add_zero] at hp
      refine g_il_n 3 dX4_isSentenceFreeAt_2 rfl ?_
      refine g_al_n 0 dX4_isSentenceFreeAt_3 rfl ?_
      refine g_get 0 2 (by decide) rfl in_X4_isSentenceFreeAt_4 rfl (by decide) (by decide +kernel) rfl rfl dX4_isSentenceFreeAt_4 ?_
      refine g_top (v := nI q) ((hGF F).2.1) ?_
      refine gn_ge (tgt := 80) dX4_isSentenceFreeAt_7 (by decide) (by omega) (by omega) (fun h1 => ?_) (fun h1 => ?_)
      · skip
        refine g_al_n 0 dX4_isSentenceFreeAt_80 rfl ?_
        refine g_pc (pc' := 81) rfl ?_
        refine g_get (v := .ref (γ.2.2 2)) 0 4 (by decide) rfl in_X4_isSentenceFreeAt_4 rfl (by decide) (by decide +kernel) rfl rfl dX4_isSentenceFreeAt_81 ?_
        refine g_al_n 0 dX4_isSentenceFreeAt_84 rfl ?_
        refine g_get 0 2 (by decide) rfl in_X4_isSentenceFreeAt_4 rfl (by decide) (by decide +kernel) rfl rfl dX4_isSentenceFreeAt_85 ?_
        refine g_top (v := nI q) ((hGF F).2.1) ?_
        refine g_ci0 (v := bi (isF g r9 n u x y q)) (r_VN (st := []) (As := [.int (nI q)]) (d := 2) (host := RX4) 2 (by decide) rfl rfl (c_X2_holdsSentence l γ (va_up I 19 F) L P q (ch g r9 (lfr g n u x y) 0 q 0) hq6 (fun h0 => by rw [va_us]; exact hV 0 q h0 (by omega) 0 (by decide)) (by
            by_cases h0 : 0 < q
            · exact Nat.lt_trans (ch_lt16 h0 (fun p9 _ h9 c => lfr_lt hG h9)) (by decide)
            · rw [show q = 0 by omega]; show 0 < 2 ^ 31; decide)) gX4_isSentenceFreeAt_X2_holdsSentence_n139 rfl nm_RX4_139 (by decide +kernel) (by decide +kernel) (by decide +kernel) ⟨by decide, by decide, rfl⟩ ⟨Nat.le_of_ble_eq_true rfl, Nat.le_of_ble_eq_true rfl⟩ rfl (Nat.le_of_ble_eq_true rfl) dX4_isSentenceFreeAt_88 ⟨Nat.zero_le _, Nat.zero_le _⟩) ?_
        exact g_zret (bi_nar _) dX4_isSentenceFreeAt_91 (⟨rfl, FC.up19 I F, rfl⟩)
      · skip
        exfalso; omega
    | succ z ih =>
      intro p F hp hV
      have hpq : p < q := by omega
      have hup := (hG.2.2.2 p hpq).2
      refine g_il_n 3 dX4_isSentenceFreeAt_2 rfl ?_
      refine g_al_n 0 dX4_isSentenceFreeAt_3 rfl ?_
      refine g_get 0 2 (by decide) rfl in_X4_isSentenceFreeAt_4 rfl (by decide) (by decide +kernel) rfl rfl dX4_isSentenceFreeAt_4 ?_
      refine g_top (v := nI q) ((hGF F).2.1) ?_
      refine g_pc (pc' := 7) rfl ?_
      refine gn_ge (tgt := 80) dX4_isSentenceFreeAt_7 (by decide) (by omega) (by omega) (fun h1 => ?_) (fun h1 => ?_)
      · skip
        exfalso; omega
      · skip
        refine g_il_n 3 dX4_isSentenceFreeAt_10 rfl ?_
        refine g_il_n 1 dX4_isSentenceFreeAt_11 rfl ?_
        refine g_ic_eq (tgt := 20) dX4_isSentenceFreeAt_12 (by decide) (fun h2 => ?_) (fun h2 => ?_)
        · skip
          have hxy : nI p = x ∨ nI p = y := Or.inl h2
          refine g_al_n 0 dX4_isSentenceFreeAt_20 rfl ?_
          refine g_get (v := .ref (γ.2.2 2)) 0 4 (by decide) rfl in_X4_isSentenceFreeAt_4 rfl (by decide) (by decide +kernel) rfl rfl dX4_isSentenceFreeAt_21 ?_
          refine g_al_n 0 dX4_isSentenceFreeAt_24 rfl ?_
          refine g_get (v := .ref (γ.2.2 1)) 0 0 (by decide) rfl in_X4_isSentenceFreeAt_4 rfl (by decide) (by decide +kernel) rfl rfl dX4_isSentenceFreeAt_25 ?_
          refine g_pc (pc' := 28) rfl ?_
          refine g_il_n 3 dX4_isSentenceFreeAt_28 rfl ?_
          refine g_cv (r_VN (st := []) (As := [.ref (γ.2.2 1), .int (nI p)]) (d := 2) (host := RX4) 2 (by decide) rfl rfl (c_X2_putAnyWord l γ (va_up I 19 F) L P g n r9 p (hGF F).1 (by omega)) gX4_isSentenceFreeAt_X2_putAnyWord_n180 rfl nm_RX4_180 (by decide +kernel) (by decide +kernel) (by decide +kernel) ⟨by decide, by decide, rfl⟩ ⟨Nat.le_of_ble_eq_true rfl, Nat.le_of_ble_eq_true rfl⟩ rfl (Nat.le_of_ble_eq_true rfl) dX4_isSentenceFreeAt_29 ⟨Nat.zero_le _, Nat.zero_le _⟩) ?_
          rintro Iz2 Lz2 ⟨⟨F1, eIz2, hF1, hO1⟩, eLz2⟩
          rw [eIz2]
          rw [eLz2]
          rw [va_uu]
          simp only [va_us] at hO1
          have hF1 : ∀ c, c < 8 → F1 (sp p (p + 1) * 8 + c) = nI (lfr g n u x y p c) := fun c hc => by rw [lfr_in hxy]; exact hF1 c hc
          refine g_goto (tgt := 53) dX4_isSentenceFreeAt_32 (by decide) ?_
          refine g_al_n 0 dX4_isSentenceFreeAt_53 rfl ?_
          refine g_get (v := .ref (γ.2.2 2)) 0 4 (by decide) rfl in_X4_isSentenceFreeAt_4 rfl (by decide) (by decide +kernel) rfl rfl dX4_isSentenceFreeAt_54 ?_
          refine g_al_n 0 dX4_isSentenceFreeAt_57 rfl ?_
          refine g_get (v := .ref (γ.2.2 1)) 0 0 (by decide) rfl in_X4_isSentenceFreeAt_4 rfl (by decide) (by decide +kernel) rfl rfl dX4_isSentenceFreeAt_58 ?_
          refine g_il_n 3 dX4_isSentenceFreeAt_61 rfl ?_
          refine g_pc (pc' := 62) rfl ?_
          refine g_ic (v := nI 1) dX4_isSentenceFreeAt_62 (by decide) ?_
          refine g_iadd (v := nI (p + 1)) dX4_isSentenceFreeAt_63 (nI_add _ _) ?_
          refine g_al_n 0 dX4_isSentenceFreeAt_64 rfl ?_
          refine g_get (v := .ref (γ.2.2 1)) 0 0 (by decide) rfl in_X4_isSentenceFreeAt_4 rfl (by decide) (by decide +kernel) rfl rfl dX4_isSentenceFreeAt_65 ?_
          refine g_getN 1 3 (by decide) rfl in_X4_isSentenceFreeAt_1 rfl (by decide) nw_RX4_93 rfl rfl dX4_isSentenceFreeAt_68 ?_
          refine g_top (v := nI r9) ((hGF F1).1.cr) ?_
          refine g_cv (r_VN (st := []) (As := [.ref (γ.2.2 1), .int (nI (p + 1)), .int (nI r9)]) (d := 3) (host := RX4) 2 (by decide) rfl rfl (c_X2_joinUpTo l γ (va_up I 19 F1) L P g n r9 r9 (p + 1) (lfr g n u x y) (hGF F1).1 (Nat.le_refl _) (by omega) (by omega) (fun p9 h9 c => lfr_lt hG (by omega)) (fun i j hij hj c hc => by
              have q9 := sp_ap hij (show j ≤ 6 by omega) (show p < p + 1 by omega) (show p + 1 ≤ 6 by omega) (by omega)
              rw [va_us, hO1 _ (by omega)]; exact hV i j hij (by omega) c hc) (fun c hc => by rw [va_us]; exact hF1 c hc)) gX4_isSentenceFreeAt_X2_joinUpTo_n188 rfl nm_RX4_188 (by decide +kernel) (by decide +kernel) (by decide +kernel) ⟨by decide, by decide, rfl⟩ ⟨Nat.le_of_ble_eq_true rfl, Nat.le_of_ble_eq_true rfl⟩ rfl (Nat.le_of_ble_eq_true rfl) dX4_isSentenceFreeAt_71 ⟨Nat.zero_le _, Nat.zero_le _⟩) ?_
          rintro Iz3 Lz3 ⟨⟨F2, eIz3, hF2⟩, eLz3⟩
          rw [eIz3]
          rw [eLz3]
          rw [va_uu]
          refine g_inc (v := nI (p + 1)) (lv' := [(3, .int (nI (p + 1))), (0, .ref (γ.2.2 0)), (1, .int x), (2, .int y)]) 3 dX4_isSentenceFreeAt_74 rfl (inc_1 _) (by decide) rfl ?_
          refine g_goto (tgt := 2) dX4_isSentenceFreeAt_77 (by decide) ?_
          refine g_sub [1, 2, 3, 0] rfl ?_
          exact ih (p + 1) F2 (by omega) hF2
        · skip
          refine g_pc (pc' := 15) rfl ?_
          refine g_il_n 3 dX4_isSentenceFreeAt_15 rfl ?_
          refine g_il_n 2 dX4_isSentenceFreeAt_16 rfl ?_
          refine g_ic_ne (tgt := 35) dX4_isSentenceFreeAt_17 (by decide) (fun h3 => ?_) (fun h3 => ?_)
          · skip
            refine g_al_n 0 dX4_isSentenceFreeAt_35 rfl ?_
            refine g_get (v := .ref (γ.2.2 2)) 0 4 (by decide) rfl in_X4_isSentenceFreeAt_4 rfl (by decide) (by decide +kernel) rfl rfl dX4_isSentenceFreeAt_36 ?_
            refine g_al_n 0 dX4_isSentenceFreeAt_39 rfl ?_
            refine g_get (v := .ref (γ.2.2 1)) 0 0 (by decide) rfl in_X4_isSentenceFreeAt_4 rfl (by decide) (by decide +kernel) rfl rfl dX4_isSentenceFreeAt_40 ?_
            refine g_il_n 3 dX4_isSentenceFreeAt_43 rfl ?_
            refine g_pc (pc' := 44) rfl ?_
            refine g_al_n 0 dX4_isSentenceFreeAt_44 rfl ?_
            refine g_get (v := .ref (γ.2.2 12)) 0 1 (by decide) rfl in_X4_isSentenceFreeAt_4 rfl (by decide) (by decide +kernel) rfl rfl dX4_isSentenceFreeAt_45 ?_
            refine g_il_n 3 dX4_isSentenceFreeAt_48 rfl ?_
            refine g_iald (v := nI (u p)) 12 p (by decide) (by decide) (show p < 6 by omega) (((hGF F).2.2.2 p hpq).1) dX4_isSentenceFreeAt_49 ?_
            refine g_cv (r_VN (st := []) (As := [.ref (γ.2.2 1), .int (nI p), .int (nI (u p))]) (d := 2) (host := RX4) 2 (by decide) rfl rfl (c_X2_putWord l γ (va_up I 19 F) L P g n r9 p (u p) (hGF F).1 hup (by omega)) gX4_isSentenceFreeAt_X2_putWord_n184 rfl nm_RX4_184 (by decide +kernel) (by decide +kernel) (by decide +kernel) ⟨by decide, by decide, rfl⟩ ⟨Nat.le_of_ble_eq_true rfl, Nat.le_of_ble_eq_true rfl⟩ rfl (Nat.le_of_ble_eq_true rfl) dX4_isSentenceFreeAt_50 ⟨Nat.zero_le _, Nat.zero_le _⟩) ?_
            rintro Iz4 Lz4 ⟨⟨F1, eIz4, hF1, hO1⟩, eLz4⟩
            rw [eIz4]
            rw [eLz4]
            rw [va_uu]
            simp only [va_us] at hO1
            have hF1 : ∀ c, c < 8 → F1 (sp p (p + 1) * 8 + c) = nI (lfr g n u x y p c) := fun c hc => by rw [lfr_ni h2 h3]; exact hF1 c hc
            refine g_al_n 0 dX4_isSentenceFreeAt_53 rfl ?_
            refine g_get (v := .ref (γ.2.2 2)) 0 4 (by decide) rfl in_X4_isSentenceFreeAt_4 rfl (by decide) (by decide +kernel) rfl rfl dX4_isSentenceFreeAt_54 ?_
            refine g_al_n 0 dX4_isSentenceFreeAt_57 rfl ?_
            refine g_pc (pc' := 58) rfl ?_
            refine g_get (v := .ref (γ.2.2 1)) 0 0 (by decide) rfl in_X4_isSentenceFreeAt_4 rfl (by decide) (by decide +kernel) rfl rfl dX4_isSentenceFreeAt_58 ?_
            refine g_il_n 3 dX4_isSentenceFreeAt_61 rfl ?_
            refine g_ic (v := nI 1) dX4_isSentenceFreeAt_62 (by decide) ?_
            refine g_iadd (v := nI (p + 1)) dX4_isSentenceFreeAt_63 (nI_add _ _) ?_
            refine g_al_n 0 dX4_isSentenceFreeAt_64 rfl ?_
            refine g_get (v := .ref (γ.2.2 1)) 0 0 (by decide) rfl in_X4_isSentenceFreeAt_4 rfl (by decide) (by decide +kernel) rfl rfl dX4_isSentenceFreeAt_65 ?_
            refine g_getN 1 3 (by decide) rfl in_X4_isSentenceFreeAt_1 rfl (by decide) nw_RX4_93 rfl rfl dX4_isSentenceFreeAt_68 ?_
            refine g_top (v := nI r9) ((hGF F1).1.cr) ?_
            refine g_cv (r_VN (st := []) (As := [.ref (γ.2.2 1), .int (nI (p + 1)), .int (nI r9)]) (d := 3) (host := RX4) 2 (by decide) rfl rfl (c_X2_joinUpTo l γ (va_up I 19 F1) L P g n r9 r9 (p + 1) (lfr g n u x y) (hGF F1).1 (Nat.le_refl _) (by omega) (by omega) (fun p9 h9 c => lfr_lt hG (by omega)) (fun i j hij hj c hc => by
                have q9 := sp_ap hij (show j ≤ 6 by omega) (show p < p + 1 by omega) (show p + 1 ≤ 6 by omega) (by omega)
                rw [va_us, hO1 _ (by omega)]; exact hV i j hij (by omega) c hc) (fun c hc => by rw [va_us]; exact hF1 c hc)) gX4_isSentenceFreeAt_X2_joinUpTo_n188 rfl nm_RX4_188 (by decide +kernel) (by decide +kernel) (by decide +kernel) ⟨by decide, by decide, rfl⟩ ⟨Nat.le_of_ble_eq_true rfl, Nat.le_of_ble_eq_true rfl⟩ rfl (Nat.le_of_ble_eq_true rfl) dX4_isSentenceFreeAt_71 ⟨Nat.zero_le _, Nat.zero_le _⟩) ?_
            rintro Iz5 Lz5 ⟨⟨F2, eIz5, hF2⟩, eLz5⟩
            rw [eIz5]
            rw [eLz5]
            rw [va_uu]
            refine g_pc (pc' := 74) rfl ?_
            refine g_inc (v := nI (p + 1)) (lv' := [(3, .int (nI (p + 1))), (0, .ref (γ.2.2 0)), (1, .int x), (2, .int y)]) 3 dX4_isSentenceFreeAt_74 rfl (inc_1 _) (by decide) rfl ?_
            refine g_goto (tgt := 2) dX4_isSentenceFreeAt_77 (by decide) ?_
            refine g_sub [1, 2, 3, 0] rfl ?_
            exact ih (p + 1) F2 (by omega) hF2
          · skip
            have hxy : nI p = x ∨ nI p = y := Or.inr h3
            refine g_al_n 0 dX4_isSentenceFreeAt_20 rfl ?_
            refine g_get (v := .ref (γ.2.2 2)) 0 4 (by decide) rfl in_X4_isSentenceFreeAt_4 rfl (by decide) (by decide +kernel) rfl rfl dX4_isSentenceFreeAt_21 ?_
            refine g_al_n 0 dX4_isSentenceFreeAt_24 rfl ?_
            refine g_get (v := .ref (γ.2.2 1)) 0 0 (by decide) rfl in_X4_isSentenceFreeAt_4 rfl (by decide) (by decide +kernel) rfl rfl dX4_isSentenceFreeAt_25 ?_
            refine g_il_n 3 dX4_isSentenceFreeAt_28 rfl ?_
            refine g_cv (r_VN (st := []) (As := [.ref (γ.2.2 1), .int (nI p)]) (d := 2) (host := RX4) 2 (by decide) rfl rfl (c_X2_putAnyWord l γ (va_up I 19 F) L P g n r9 p (hGF F).1 (by omega)) gX4_isSentenceFreeAt_X2_putAnyWord_n180 rfl nm_RX4_180 (by decide +kernel) (by decide +kernel) (by decide +kernel) ⟨by decide, by decide, rfl⟩ ⟨Nat.le_of_ble_eq_true rfl, Nat.le_of_ble_eq_true rfl⟩ rfl (Nat.le_of_ble_eq_true rfl) dX4_isSentenceFreeAt_29 ⟨Nat.zero_le _, Nat.zero_le _⟩) ?_
            rintro Iz6 Lz6 ⟨⟨F1, eIz6, hF1, hO1⟩, eLz6⟩
            rw [eIz6]
            rw [eLz6]
            rw [va_uu]
            simp only [va_us] at hO1
            have hF1 : ∀ c, c < 8 → F1 (sp p (p + 1) * 8 + c) = nI (lfr g n u x y p c) := fun c hc => by rw [lfr_in hxy]; exact hF1 c hc
            refine g_pc (pc' := 32) rfl ?_
            refine g_goto (tgt := 53) dX4_isSentenceFreeAt_32 (by decide) ?_
            refine g_al_n 0 dX4_isSentenceFreeAt_53 rfl ?_
            refine g_get (v := .ref (γ.2.2 2)) 0 4 (by decide) rfl in_X4_isSentenceFreeAt_4 rfl (by decide) (by decide +kernel) rfl rfl dX4_isSentenceFreeAt_54 ?_
            refine g_al_n 0 dX4_isSentenceFreeAt_57 rfl ?_
            refine g_get (v := .ref (γ.2.2 1)) 0 0 (by decide) rfl in_X4_isSentenceFreeAt_4 rfl (by decide) (by decide +kernel) rfl rfl dX4_isSentenceFreeAt_58 ?_
            refine g_il_n 3 dX4_isSentenceFreeAt_61 rfl ?_
            refine g_ic (v := nI 1) dX4_isSentenceFreeAt_62 (by decide) ?_
            refine g_iadd (v := nI (p + 1)) dX4_isSentenceFreeAt_63 (nI_add _ _) ?_
            refine g_pc (pc' := 64) rfl ?_
            refine g_al_n 0 dX4_isSentenceFreeAt_64 rfl ?_
            refine g_get (v := .ref (γ.2.2 1)) 0 0 (by decide) rfl in_X4_isSentenceFreeAt_4 rfl (by decide) (by decide +kernel) rfl rfl dX4_isSentenceFreeAt_65 ?_
            refine g_getN 1 3 (by decide) rfl in_X4_isSentenceFreeAt_1 rfl (by decide) nw_RX4_93 rfl rfl dX4_isSentenceFreeAt_68 ?_
            refine g_top (v := nI r9) ((hGF F1).1.cr) ?_
            refine g_cv (r_VN (st := []) (As := [.ref (γ.2.2 1), .int (nI (p + 1)), .int (nI r9)]) (d := 3) (host := RX4) 2 (by decide) rfl rfl (c_X2_joinUpTo l γ (va_up I 19 F1) L P g n r9 r9 (p + 1) (lfr g n u x y) (hGF F1).1 (Nat.le_refl _) (by omega) (by omega) (fun p9 h9 c => lfr_lt hG (by omega)) (fun i j hij hj c hc => by
                have q9 := sp_ap hij (show j ≤ 6 by omega) (show p < p + 1 by omega) (show p + 1 ≤ 6 by omega) (by omega)
                rw [va_us, hO1 _ (by omega)]; exact hV i j hij (by omega) c hc) (fun c hc => by rw [va_us]; exact hF1 c hc)) gX4_isSentenceFreeAt_X2_joinUpTo_n188 rfl nm_RX4_188 (by decide +kernel) (by decide +kernel) (by decide +kernel) ⟨by decide, by decide, rfl⟩ ⟨Nat.le_of_ble_eq_true rfl, Nat.le_of_ble_eq_true rfl⟩ rfl (Nat.le_of_ble_eq_true rfl) dX4_isSentenceFreeAt_71 ⟨Nat.zero_le _, Nat.zero_le _⟩) ?_
            rintro Iz7 Lz7 ⟨⟨F2, eIz7, hF2⟩, eLz7⟩
            rw [eIz7]
            rw [eLz7]
            rw [va_uu]
            refine g_inc (v := nI (p + 1)) (lv' := [(3, .int (nI (p + 1))), (0, .ref (γ.2.2 0)), (1, .int x), (2, .int y)]) 3 dX4_isSentenceFreeAt_74 rfl (inc_1 _) (by decide) rfl ?_
            refine g_goto (tgt := 2) dX4_isSentenceFreeAt_77 (by decide) ?_
            refine g_sub [1, 2, 3, 0] rfl ?_
            exact ih (p + 1) F2 (by omega) hF2
  refine g_sub [1, 2, 3, 0] rfl ?_
  refine g_eq (I' := va_up I 19 (I 19)) (va_id _ _).symm rfl ?_
  exact lp q 0 _ (Nat.zero_add _) (fun i j h1 h2 => by omega)

theorem in_X4_makeSentences_1 : ∀ w ∈ wsX10, w ∈ wsX4_makeSentences := by decide +kernel
theorem in_X4_makeSentences_4 : ∀ w ∈ wsX40, w ∈ wsX4_makeSentences := by decide +kernel
set_option maxRecDepth 100000 in
set_option maxHeartbeats 4000000 in
theorem c_X4_makeSentences (l : Launch) (γ : Gm) (I : IT) (L : LT) (P : PT) (g : GR) (n r9 q : Nat) (u : Nat → Nat) (hG : GW I g n r9 q u) (s E : Nat) (hs1 : 1 ≤ s) (hs4 : s ≤ 4) (hE : E < 2 ^ 31) : Ci l yX4_makeSentences wsX4_makeSentences 5 γ [.ref (γ.2.2 0), .int (nI s), .int (nI E)] I L P (fun r I' L' => ((kfs (fun j => isS g r9 (dig n s j) s) (n ^ s) 0 E = none ∧ r = nI (bc (fun j => isS g r9 (dig n s j) s) (n ^ s)) ∧ bc (fun j => isS g r9 (dig n s j) s) (n ^ s) ≤ E) ∨ (∃ j, kfs (fun j => isS g r9 (dig n s j) s) (n ^ s) 0 E = some j ∧ r = nI (E + 1) ∧ E < n ^ s ∧ ∀ p, p < s → I' 13 p = nI (dig n s j p))) ∧ FC I I' ∧ L' = L) := by
  refine Ci_of (own := RX4) (cc := cX4_makeSentences) (maxL := 8) (by decide) rfl rfl (Nat.le_of_ble_eq_true rfl) ?_
  refine g_sub (lv' := [(0, .ref (γ.2.2 0)), (1, .int (nI s)), (2, .int (nI E))]) [0, 1, 2] rfl ?_
  have hn9 := hG.1.n_le
  have hpow := pow_le4 hn9 hs4
  refine g_ic (v := nI 0) dX4_makeSentences_0 (by decide) ?_
  refine g_is_n (lv' := [(3, .int (nI 0)), (0, .ref (γ.2.2 0)), (1, .int (nI s)), (2, .int (nI E))]) dX4_makeSentences_1 (by decide) rfl ?_
  refine g_al_n 1 dX4_makeSentences_2 rfl ?_
  refine g_il_n 2 dX4_makeSentences_3 rfl ?_
  refine g_ci0 (v := nI (n ^ s)) (r_V (st := []) (As := [.int (nI s)]) (d := 0) 0 (by decide) rfl rfl (c_X4_rowsOfLength l γ I L P n s hG.1.cn (by omega)) gX4_makeSentences_X4_rowsOfLength rfl ⟨rfl, by decide, by decide, rfl⟩ ⟨Nat.le_of_ble_eq_true rfl, Nat.le_of_ble_eq_true rfl⟩ rfl (Nat.le_of_ble_eq_true rfl) dX4_makeSentences_4 ⟨Nat.zero_le _, Nat.zero_le _⟩) ?_
  refine g_is (lv' := [(4, .int (nI (n ^ s))), (3, .int (nI 0)), (0, .ref (γ.2.2 0)), (1, .int (nI s)), (2, .int (nI E))]) dX4_makeSentences_7 (by decide) rfl ?_
  refine g_ic (v := nI 0) dX4_makeSentences_9 (by decide) ?_
  refine g_pc (pc' := 10) rfl ?_
  refine g_is (lv' := [(5, .int (nI 0)), (4, .int (nI (n ^ s))), (3, .int (nI 0)), (0, .ref (γ.2.2 0)), (1, .int (nI s)), (2, .int (nI E))]) dX4_makeSentences_10 (by decide) rfl ?_
  refine g_al_n 3 dX4_makeSentences_12 rfl ?_
  refine g_cv (r_V (st := []) (As := []) (d := 0) 0 (by decide) rfl rfl (c_X4_clearTrial l γ I L P) gX4_makeSentences_X4_clearTrial rfl ⟨rfl, by decide, by decide, rfl⟩ ⟨Nat.le_of_ble_eq_true rfl, Nat.le_of_ble_eq_true rfl⟩ rfl (Nat.le_of_ble_eq_true rfl) dX4_makeSentences_13 ⟨Nat.zero_le _, Nat.zero_le _⟩) ?_
  rintro Iz2 Lz2 ⟨⟨F0, eIz2, hF0⟩, eLz2⟩
  rw [eIz2]
  rw [eLz2]
  refine g_ic (v := nI 0) dX4_makeSentences_16 (by decide) ?_
  refine g_is (lv' := [(6, .int (nI 0)), (5, .int (nI 0)), (4, .int (nI (n ^ s))), (3, .int (nI 0)), (0, .ref (γ.2.2 0)), (1, .int (nI s)), (2, .int (nI E))]) dX4_makeSentences_17 (by decide) rfl ?_
  have lp : ∀ (z : Nat) (k : Nat) (c : Nat) (c9 : Nat) (T : IT) (hk : k + z = n ^ s) (hc : c = bc (fun j => isS g r9 (dig n s j) s) k) (hcE : c ≤ E) (hkf : kfs (fun j => isS g r9 (dig n s j) s) z k (E - c) = kfs (fun j => isS g r9 (dig n s j) s) (n ^ s) 0 E) (hQ : FC I T) (hcs : c9 ≤ s) (hTr : k < n ^ s → ∀ p, p < s → T 13 p = nI (dig n s k p)) (hCV : k < n ^ s → CV (T 19) g r9 (lxw g (dig n s k)) c9), G E0 l cX4_makeSentences 8 wsX4_makeSentences RX4 (some .int) (rmd 5) γ P (AE γ) (Qi γ P (fun r I' L' => ((kfs (fun j => isS g r9 (dig n s j) s) (n ^ s) 0 E = none ∧ r = nI (bc (fun j => isS g r9 (dig n s j) s) (n ^ s)) ∧ bc (fun j => isS g r9 (dig n s j) s) (n ^ s) ≤ E) ∨ (∃ j, kfs (fun j => isS g r9 (dig n s j) s) (n ^ s) 0 E = some j ∧ r = nI (E + 1) ∧ E < n ^ s ∧ ∀ p, p < s → I' 13 p = nI (dig n s j p))) ∧ FC I I' ∧ L' = L)) 0 0 19 [(0, .ref (γ.2.2 0)), (1, .int (nI s)), (2, .int (nI E)), (3, .int (nI c)), (4, .int (nI (n ^ s))), (5, .int (nI c9)), (6, .int (nI k))] [] T L := by
    intro z
    induction z with
    | zero =>
      intro k c c9 T hk hc hcE hkf hQ hcs hTr hCV
      simp only [Nat.add_zero] at hk
      have hcl := bc_le (fun j => isS g r9 (dig n s j) s) (n ^ s)
      refine g_il 6 dX4_makeSentences_19 rfl ?_
      refine g_il 4 dX4_makeSentences_21 rfl ?_
      refine gn_ge (tgt := 118) dX4_makeSentences_23 (by decide) (by omega) (by omega) (fun h1 => ?_) (fun h1 => ?_)
      · skip
        refine g_pc (pc' := 118) rfl ?_
        refine g_il_n 3 dX4_makeSentences_118 rfl ?_
        exact g_iret dX4_makeSentences_119 (⟨Or.inl ⟨by rw [← hkf]; rfl, by rw [hc, hk], by rw [← hk, ← hc]; exact hcE⟩, hQ, rfl⟩)
      · skip
        exfalso; omega
    | succ z ih =>
      intro k c c9 T hk hc hcE hkf hQ hcs hTr hCV
      have hkn : k < n ^ s := by omega
      have hn0 := pow_pos_of hkn hs1
      have hTG := hQ.gw hG
      have hTt := hTr hkn
      have hcl : c ≤ k := by rw [hc]; exact bc_le _ _
      refine g_il 6 dX4_makeSentences_19 rfl ?_
      refine g_il 4 dX4_makeSentences_21 rfl ?_
      refine gn_ge (tgt := 118) dX4_makeSentences_23 (by decide) (by omega) (by omega) (fun h1 => ?_) (fun h1 => ?_)
      · skip
        exfalso; omega
      · skip
        refine g_il 5 dX4_makeSentences_26 rfl ?_
        refine g_is (lv' := [(7, .int (nI c9)), (0, .ref (γ.2.2 0)), (1, .int (nI s)), (2, .int (nI E)), (3, .int (nI c)), (4, .int (nI (n ^ s))), (5, .int (nI c9)), (6, .int (nI k))]) dX4_makeSentences_28 (by decide) rfl ?_
        have lp2 : ∀ (z2 : Nat) (p : Nat) (F : Nat → Int32) (hp : p + z2 = s) (hV : CV F g r9 (lxw g (dig n s k)) p), G E0 l cX4_makeSentences 8 wsX4_makeSentences RX4 (some .int) (rmd 5) γ P (AE γ) (Qi γ P (fun r I' L' => ((kfs (fun j => isS g r9 (dig n s j) s) (n ^ s) 0 E = none ∧ r = nI (bc (fun j => isS g r9 (dig n s j) s) (n ^ s)) ∧ bc (fun j => isS g r9 (dig n s j) s) (n ^ s) ≤ E) ∨ (∃ j, kfs (fun j => isS g r9 (dig n s j) s) (n ^ s) 0 E = some j ∧ r = nI (E + 1) ∧ E < n ^ s ∧ ∀ p, p < s → I' 13 p = nI (dig n s j p))) ∧ FC I I' ∧ L' = L)) 0 0 30 [(0, .ref (γ.2.2 0)), (1, .int (nI s)), (2, .int (nI E)), (3, .int (nI c)), (4, .int (nI (n ^ s))), (6, .int (nI k)), (7, .int (nI p))] [] (va_up T 19 F) L := by
          intro z2
          induction z2 with
          | zero =>
            intro p F hp hV
            simp only [Nat.add_zero] at hp
            refine g_il 6 dX4_makeSentences_30 rfl ?_
            refine g_pc (pc' := 32) rfl ?_
            refine g_il_n 1 dX4_makeSentences_32 rfl ?_
            refine gn_ge (tgt := 84) dX4_makeSentences_33 (by decide) (by omega) (by omega) (fun h2 => ?_) (fun h2 => ?_)
            · skip
              refine g_al_n 0 dX4_makeSentences_84 rfl ?_
              refine g_get (v := .ref (γ.2.2 2)) 0 4 (by decide) rfl in_X4_makeSentences_4 rfl (by decide) (by decide +kernel) rfl rfl dX4_makeSentences_85 ?_
              refine g_il_n 1 dX4_makeSentences_88 rfl ?_
              refine g_ci0 (v := bi (isS g r9 (dig n s k) s)) (r_VN (st := []) (As := [.int (nI s)]) (d := 2) (host := RX4) 2 (by decide) rfl rfl (c_X2_holdsSentence l γ (va_up T 19 F) L P s (ch g r9 (lxw g (dig n s k)) 0 s 0) (by omega) (fun h0 => by rw [va_us]; exact hV 0 s h0 (by omega) 0 (by decide)) (Nat.lt_trans (ch_lt16 (by omega) (fun p9 _ h9 c => wset_lt (hG.1.val_lt (dig_lt hn0)))) (by decide))) gX4_makeSentences_X2_holdsSentence_n139 rfl nm_RX4_139 (by decide +kernel) (by decide +kernel) (by decide +kernel) ⟨by decide, by decide, rfl⟩ ⟨Nat.le_of_ble_eq_true rfl, Nat.le_of_ble_eq_true rfl⟩ rfl (Nat.le_of_ble_eq_true rfl) dX4_makeSentences_89 ⟨Nat.zero_le _, Nat.zero_le _⟩) ?_
              refine gb_eq (tgt := 105) dX4_makeSentences_92 (by decide) (fun hb => ?_) (fun hb => ?_)
              · skip
                refine g_al_n 0 dX4_makeSentences_105 rfl ?_
                refine g_pc (pc' := 106) rfl ?_
                refine g_il_n 1 dX4_makeSentences_106 rfl ?_
                refine g_ci (r_V (st := []) (As := [.int (nI s)]) (d := 0) 0 (by decide) rfl rfl (c_X4_nextTrial l γ (va_up T 19 F) L P n s k (by rw [va_up_ne _ _ (by decide)]; exact hTG.1.cn) hn9 hn0 (by omega) hkn (fun p hp => by rw [va_up_ne _ _ (by decide)]; exact hTt p hp)) gX4_makeSentences_X4_nextTrial rfl ⟨rfl, by decide, by decide, rfl⟩ ⟨Nat.le_of_ble_eq_true rfl, Nat.le_of_ble_eq_true rfl⟩ rfl (Nat.le_of_ble_eq_true rfl) dX4_makeSentences_107 ⟨Nat.zero_le _, Nat.zero_le _⟩) ?_
                rintro rz4 T3 Lz4 ⟨⟨d, ez4, hds, hdn⟩, hT3, eLz4⟩
                subst ez4
                rw [eLz4]
                have hQ3 : FC I T3 := (hQ.trans (FC.up19 T F)).trans (fun k h9 _ _ => hT3 k h9)
                have hTr3 : k + 1 < n ^ s → ∀ p, p < s → T3 13 p = nI (dig n s (k + 1) p) := fun h9 => (hdn h9).1
                have hCV3 : k + 1 < n ^ s → CV (T3 19) g r9 (lxw g (dig n s (k + 1))) d := fun h9 i j h10 h11 c hc => by
                  rw [hT3 19 (by decide), va_us, hV i j h10 (by omega) c hc, ch_cong (lx := lxw g (dig n s k)) (lx' := lxw g (dig n s (k + 1))) (j - i) i j (Nat.le_refl _) h10 (fun p h12 h13 c => by unfold lxw; rw [(hdn h9).2 p (by omega)]) c]
                refine g_is (lv' := [(5, .int (nI d)), (0, .ref (γ.2.2 0)), (1, .int (nI s)), (2, .int (nI E)), (3, .int (nI c)), (4, .int (nI (n ^ s))), (6, .int (nI k)), (7, .int (nI p))]) dX4_makeSentences_110 (by decide) rfl ?_
                refine g_inc (v := nI (k + 1)) (lv' := [(6, .int (nI (k + 1))), (5, .int (nI d)), (0, .ref (γ.2.2 0)), (1, .int (nI s)), (2, .int (nI E)), (3, .int (nI c)), (4, .int (nI (n ^ s))), (7, .int (nI p))]) 6 dX4_makeSentences_112 rfl (inc_1 _) (by decide) rfl ?_
                refine g_goto (tgt := 19) dX4_makeSentences_115 (by decide) ?_
                refine g_sub [2, 3, 4, 5, 6, 1, 0] rfl ?_
                exact ih (k + 1) (c + 0) d T3 (by omega) (by rw [hc]; show _ = bc (fun j => isS g r9 (dig n s j) s) k + (if isS g r9 (dig n s k) s then 1 else 0); rw [hb]; rfl) hcE (by rw [← hkf, kfs_s, hb]; rfl) hQ3 hds hTr3 hCV3
              · skip
                refine g_inc (v := nI (c + 1)) (lv' := [(3, .int (nI (c + 1))), (0, .ref (γ.2.2 0)), (1, .int (nI s)), (2, .int (nI E)), (4, .int (nI (n ^ s))), (6, .int (nI k)), (7, .int (nI p))]) 3 dX4_makeSentences_95 rfl (inc_1 _) (by decide) rfl ?_
                refine g_il_n 0 dX4_makeSentences_98 rfl ?_
                refine g_il_n 3 dX4_makeSentences_99 rfl ?_
                refine g_pc (pc' := 100) rfl ?_
                refine gn_le (tgt := 105) dX4_makeSentences_100 (by decide) (by omega) (by omega) (fun h5 => ?_) (fun h5 => ?_)
                · skip
                  refine g_al_n 1 dX4_makeSentences_105 rfl ?_
                  refine g_il_n 2 dX4_makeSentences_106 rfl ?_
                  refine g_ci (r_V (st := []) (As := [.int (nI s)]) (d := 0) 0 (by decide) rfl rfl (c_X4_nextTrial l γ (va_up T 19 F) L P n s k (by rw [va_up_ne _ _ (by decide)]; exact hTG.1.cn) hn9 hn0 (by omega) hkn (fun p hp => by rw [va_up_ne _ _ (by decide)]; exact hTt p hp)) gX4_makeSentences_X4_nextTrial rfl ⟨rfl, by decide, by decide, rfl⟩ ⟨Nat.le_of_ble_eq_true rfl, Nat.le_of_ble_eq_true rfl⟩ rfl (Nat.le_of_ble_eq_true rfl) dX4_makeSentences_107 ⟨Nat.zero_le _, Nat.zero_le _⟩) ?_
                  rintro rz5 T3 Lz5 ⟨⟨d, ez5, hds, hdn⟩, hT3, eLz5⟩
                  subst ez5
                  rw [eLz5]
                  have hQ3 : FC I T3 := (hQ.trans (FC.up19 T F)).trans (fun k h9 _ _ => hT3 k h9)
                  have hTr3 : k + 1 < n ^ s → ∀ p, p < s → T3 13 p = nI (dig n s (k + 1) p) := fun h9 => (hdn h9).1
                  have hCV3 : k + 1 < n ^ s → CV (T3 19) g r9 (lxw g (dig n s (k + 1))) d := fun h9 i j h10 h11 c hc => by
                    rw [hT3 19 (by decide), va_us, hV i j h10 (by omega) c hc, ch_cong (lx := lxw g (dig n s k)) (lx' := lxw g (dig n s (k + 1))) (j - i) i j (Nat.le_refl _) h10 (fun p h12 h13 c => by unfold lxw; rw [(hdn h9).2 p (by omega)]) c]
                  refine g_is (lv' := [(5, .int (nI d)), (3, .int (nI (c + 1))), (0, .ref (γ.2.2 0)), (1, .int (nI s)), (2, .int (nI E)), (4, .int (nI (n ^ s))), (6, .int (nI k)), (7, .int (nI p))]) dX4_makeSentences_110 (by decide) rfl ?_
                  refine g_inc (v := nI (k + 1)) (lv' := [(6, .int (nI (k + 1))), (5, .int (nI d)), (3, .int (nI (c + 1))), (0, .ref (γ.2.2 0)), (1, .int (nI s)), (2, .int (nI E)), (4, .int (nI (n ^ s))), (7, .int (nI p))]) 6 dX4_makeSentences_112 rfl (inc_1 _) (by decide) rfl ?_
                  refine g_goto (tgt := 19) dX4_makeSentences_115 (by decide) ?_
                  refine g_sub [3, 4, 5, 2, 6, 1, 0] rfl ?_
                  exact ih (k + 1) (c + 1) d T3 (by omega) (by rw [hc]; show _ = bc (fun j => isS g r9 (dig n s j) s) k + (if isS g r9 (dig n s k) s then 1 else 0); rw [hb]; rfl) (by omega) (by rw [← hkf, kfs_s, hb, if_pos rfl, if_neg (by omega)]; rfl) hQ3 hds hTr3 hCV3
                · skip
                  refine g_il_n 0 dX4_makeSentences_103 rfl ?_
                  refine g_pc (pc' := 104) rfl ?_
                  exact g_iret dX4_makeSentences_104 (⟨Or.inr ⟨k, by rw [← hkf, kfs_s, hb, if_pos rfl, if_pos (by omega)], by rw [show c + 1 = E + 1 by omega], by omega, fun p hp => by rw [va_up_ne _ _ (by decide)]; exact hTt p hp⟩, hQ.trans (FC.up19 T F), rfl⟩)
            · skip
              exfalso; omega
          | succ z2 ih2 =>
            intro p F hp hV
            have hps : p < s := by omega
            refine g_il 6 dX4_makeSentences_30 rfl ?_
            refine g_il_n 1 dX4_makeSentences_32 rfl ?_
            refine gn_ge (tgt := 84) dX4_makeSentences_33 (by decide) (by omega) (by omega) (fun h2 => ?_) (fun h2 => ?_)
            · skip
              exfalso; omega
            · skip
              refine g_al_n 0 dX4_makeSentences_36 rfl ?_
              refine g_get (v := .ref (γ.2.2 2)) 0 4 (by decide) rfl in_X4_makeSentences_4 rfl (by decide) (by decide +kernel) rfl rfl dX4_makeSentences_37 ?_
              refine g_al_n 0 dX4_makeSentences_40 rfl ?_
              refine g_get (v := .ref (γ.2.2 1)) 0 0 (by decide) rfl in_X4_makeSentences_4 rfl (by decide) (by decide +kernel) rfl rfl dX4_makeSentences_41 ?_
              refine g_pc (pc' := 44) rfl ?_
              refine g_il 6 dX4_makeSentences_44 rfl ?_
              refine g_al_n 0 dX4_makeSentences_46 rfl ?_
              refine g_get (v := .ref (γ.2.2 13)) 0 3 (by decide) rfl in_X4_makeSentences_4 rfl (by decide) (by decide +kernel) rfl rfl dX4_makeSentences_47 ?_
              refine g_il 6 dX4_makeSentences_50 rfl ?_
              refine g_iald (v := nI (dig n s k p)) 13 p (by decide) (by decide) (show p < 6 by omega) (by rw [va_up_ne _ _ (by decide)]; exact hTt p hps) dX4_makeSentences_52 ?_
              refine g_cv (r_VN (st := []) (As := [.ref (γ.2.2 1), .int (nI p), .int (nI (dig n s k p))]) (d := 2) (host := RX4) 2 (by decide) rfl rfl (c_X2_putWord l γ (va_up T 19 F) L P g n r9 p (dig n s k p) (hTG.1.up (by decide) F) (dig_lt hn0) (by omega)) gX4_makeSentences_X2_putWord_n184 rfl nm_RX4_184 (by decide +kernel) (by decide +kernel) (by decide +kernel) ⟨by decide, by decide, rfl⟩ ⟨Nat.le_of_ble_eq_true rfl, Nat.le_of_ble_eq_true rfl⟩ rfl (Nat.le_of_ble_eq_true rfl) dX4_makeSentences_53 ⟨Nat.zero_le _, Nat.zero_le _⟩) ?_
              rintro Iz6 Lz6 ⟨⟨F1, eIz6, hF1, hO1⟩, eLz6⟩
              rw [eIz6]
              rw [eLz6]
              rw [va_uu]
              simp only [va_us] at hO1
              refine g_al_n 0 dX4_makeSentences_56 rfl ?_
              refine g_get (v := .ref (γ.2.2 2)) 0 4 (by decide) rfl in_X4_makeSentences_4 rfl (by decide) (by decide +kernel) rfl rfl dX4_makeSentences_57 ?_
              refine g_pc (pc' := 60) rfl ?_
              refine g_al_n 0 dX4_makeSentences_60 rfl ?_
              refine g_get (v := .ref (γ.2.2 1)) 0 0 (by decide) rfl in_X4_makeSentences_4 rfl (by decide) (by decide +kernel) rfl rfl dX4_makeSentences_61 ?_
              refine g_il 6 dX4_makeSentences_64 rfl ?_
              refine g_ic (v := nI 1) dX4_makeSentences_66 (by decide) ?_
              refine g_iadd (v := nI (p + 1)) dX4_makeSentences_67 (nI_add _ _) ?_
              refine g_al_n 0 dX4_makeSentences_68 rfl ?_
              refine g_get (v := .ref (γ.2.2 1)) 0 0 (by decide) rfl in_X4_makeSentences_4 rfl (by decide) (by decide +kernel) rfl rfl dX4_makeSentences_69 ?_
              refine g_getN 1 3 (by decide) rfl in_X4_makeSentences_1 rfl (by decide) nw_RX4_93 rfl rfl dX4_makeSentences_72 ?_
              refine g_top (v := nI r9) ((hTG.1.up (by decide) F1).cr) ?_
              refine g_pc (pc' := 75) rfl ?_
              refine g_cv (r_VN (st := []) (As := [.ref (γ.2.2 1), .int (nI (p + 1)), .int (nI r9)]) (d := 3) (host := RX4) 2 (by decide) rfl rfl (c_X2_joinUpTo l γ (va_up T 19 F1) L P g n r9 r9 (p + 1) (lxw g (dig n s k)) (hTG.1.up (by decide) F1) (Nat.le_refl _) (by omega) (by omega) (fun p9 h9 c => wset_lt (hG.1.val_lt (dig_lt hn0))) (fun i j hij hj c hc => by
                  have q9 := sp_ap hij (show j ≤ 6 by omega) (show p < p + 1 by omega) (show p + 1 ≤ 6 by omega) (by omega)
                  rw [va_us, hO1 _ (by omega)]; exact hV i j hij (by omega) c hc) (fun c hc => by rw [va_us]; exact hF1 c hc)) gX4_makeSentences_X2_joinUpTo_n188 rfl nm_RX4_188 (by decide +kernel) (by decide +kernel) (by decide +kernel) ⟨by decide, by decide, rfl⟩ ⟨Nat.le_of_ble_eq_true rfl, Nat.le_of_ble_eq_true rfl⟩ rfl (Nat.le_of_ble_eq_true rfl) dX4_makeSentences_75 ⟨Nat.zero_le _, Nat.zero_le _⟩) ?_
              rintro Iz7 Lz7 ⟨⟨F2, eIz7, hF2⟩, eLz7⟩
              rw [eIz7]
              rw [eLz7]
              rw [va_uu]
              refine g_inc (v := nI (p + 1)) (lv' := [(7, .int (nI (p + 1))), (0, .ref (γ.2.2 0)), (1, .int (nI s)), (2, .int (nI E)), (3, .int (nI c)), (4, .int (nI (n ^ s))), (6, .int (nI k))]) 6 dX4_makeSentences_78 rfl (inc_1 _) (by decide) rfl ?_
              refine g_goto (tgt := 30) dX4_makeSentences_81 (by decide) ?_
              refine g_sub [1, 2, 3, 4, 5, 6, 0] rfl ?_
              exact ih2 (p + 1) F2 (by omega) hF2
        refine g_sub [1, 2, 3, 4, 5, 7, 0] rfl ?_
        refine g_eq (I' := va_up T 19 (T 19)) (va_id _ _).symm rfl ?_
        exact lp2 (s - c9) c9 _ (by omega) (hCV hkn)
  refine g_sub [4, 5, 6, 3, 2, 1, 0] rfl ?_
  exact lp (n ^ s) 0 0 0 (va_up I 13 F0) (Nat.zero_add _) rfl (Nat.zero_le _) rfl (FC.up13 I F0) (Nat.zero_le _) (fun _ p hp => by rw [va_us, dig_0]; exact hF0 p (by omega)) (fun _ i j h1 h2 => by omega)
