/-! the chart of sets, filled -/
theorem in_X2_join_1 : ∀ w ∈ wsX10, w ∈ wsX2_join := by decide +kernel
theorem in_X2_join_2 : ∀ w ∈ wsX20, w ∈ wsX2_join := by decide +kernel
set_option maxRecDepth 100000 in
set_option maxHeartbeats 4000000 in
theorem c_X2_join (l : Launch) (γ : Gm) (I : IT) (L : LT) (P : PT) (g : GR) (n r r1 o1 o2 o3 : Nat) (A B C : Nat → Nat) (hG : GG I g n r) (hr : r1 ≤ r) (h1 : o1 + 8 ≤ 168) (h2 : o2 + 8 ≤ 168) (h3 : o3 + 8 ≤ 168) (d1 : o1 + 8 ≤ o3 ∨ o3 + 8 ≤ o1) (d2 : o2 + 8 ≤ o3 ∨ o3 + 8 ≤ o2) (hA : ∀ c, c < 8 → I 19 (o1 + c) = nI (A c)) (hA2 : ∀ c, c < 8 → A c < 2 ^ 16) (hB : ∀ c, c < 8 → I 19 (o2 + c) = nI (B c)) (hB2 : ∀ c, c < 8 → B c < 2 ^ 16) (hC : ∀ c, c < 8 → I 19 (o3 + c) = nI (C c)) : Cv l yX2_join wsX2_join 2 γ [.ref (γ.2.2 2), .ref (γ.2.2 1), .int (nI r1), .int (nI o1), .int (nI o2), .int (nI o3)] I L P (fun I' L' => (∃ F : Nat → Int32, I' = va_up I 19 F ∧ (∀ c, c < 8 → F (o3 + c) = nI (C c ||| stp g r1 A B c)) ∧ ∀ j, (j < o3 ∨ o3 + 8 ≤ j) → F j = I 19 j) ∧ L' = L) := by
  refine Cv_of (own := RX2) (cc := cX2_join) (maxL := 10) (by decide) rfl rfl (Nat.le_of_ble_eq_true rfl) ?_
  refine g_sub (lv' := [(0, .ref (γ.2.2 2)), (1, .ref (γ.2.2 1)), (2, .int (nI r1)), (3, .int (nI o1)), (4, .int (nI o2)), (5, .int (nI o3))]) [0, 1, 2, 3, 4, 5] rfl ?_
  have hr8 := hG.r_le
  refine g_ic (v := nI 0) dX2_join_0 (by decide) ?_
  refine g_is (lv' := [(6, .int (nI 0)), (0, .ref (γ.2.2 2)), (1, .ref (γ.2.2 1)), (2, .int (nI r1)), (3, .int (nI o1)), (4, .int (nI o2)), (5, .int (nI o3))]) dX2_join_1 (by decide) rfl ?_
  have lp : ∀ (k : Nat) (q : Nat) (F : Nat → Int32) (hk : q + k = r1) (hF : ∀ c, c < 8 → F (o3 + c) = nI (C c ||| stp g q A B c)) (hO : ∀ j, (j < o3 ∨ o3 + 8 ≤ j) → F j = I 19 j), G E0 l cX2_join 10 wsX2_join RX2 none (rmd 2) γ P (AE γ) (Qv γ P (fun I' L' => (∃ F : Nat → Int32, I' = va_up I 19 F ∧ (∀ c, c < 8 → F (o3 + c) = nI (C c ||| stp g r1 A B c)) ∧ ∀ j, (j < o3 ∨ o3 + 8 ≤ j) → F j = I 19 j) ∧ L' = L)) 0 0 3 [(0, .ref (γ.2.2 2)), (1, .ref (γ.2.2 1)), (2, .int (nI r1)), (3, .int (nI o1)), (4, .int (nI o2)), (5, .int (nI o3)), (6, .int (nI q))] [] (va_up I 19 F) L := by
    intro k
    induction k with
    | zero =>
      intro q F hk hF hO
      simp only [Nat.add_zero] at hk
      refine g_il 6 dX2_join_3 rfl ?_
      refine g_il_n 2 dX2_join_5 rfl ?_
      refine gn_ge (tgt := 90) dX2_join_6 (by decide) (by omega) (by omega) (fun h4 => ?_) (fun h4 => ?_)
      · skip
        exact g_vret dX2_join_90 (⟨⟨F, rfl, fun c hc => by rw [hF c hc, hk], hO⟩, rfl⟩)
      · skip
        exfalso; omega
    | succ k ih =>
      intro q F hk hF hO
      have hq : q < r := by omega
      have hG2 := hG.up (show (19 : Nat) ≠ 1 ∧ (19 < 14 ∨ 19 ≤ 19) ∧ (19 < 29 ∨ 37 ≤ 19) by decide) F
      have f8 := hG.fst_lt hq
      have s8 := hG.snd_lt hq
      have m8 := hG.made_lt hq
      have a16 := hA2 _ f8
      have b16 := hB2 _ s8
      refine g_il 6 dX2_join_3 rfl ?_
      refine g_il_n 2 dX2_join_5 rfl ?_
      refine gn_ge (tgt := 90) dX2_join_6 (by decide) (by omega) (by omega) (fun h4 => ?_) (fun h4 => ?_)
      · skip
        exfalso; omega
      · skip
        refine g_al_n 0 dX2_join_9 rfl ?_
        refine g_get (v := .ref (γ.2.2 19)) 2 0 (by decide) rfl in_X2_join_2 rfl (by decide) (by decide +kernel) rfl rfl dX2_join_10 ?_
        refine g_il_n 3 dX2_join_13 rfl ?_
        refine g_al_n 1 dX2_join_14 rfl ?_
        refine g_getN (v := .ref (γ.2.2 17)) 1 5 (by decide) rfl in_X2_join_1 rfl (by decide) nw_RX2_53 rfl rfl dX2_join_15 ?_
        refine g_il 6 dX2_join_18 rfl ?_
        refine g_iald (v := nI (g 3 q)) 17 q (by decide) (by decide) (show _ < 8 by omega) (hG2.fst hq) dX2_join_20 ?_
        refine g_iadd (v := nI (o1 + (g 3 q))) dX2_join_21 (nI_add _ _) ?_
        refine g_iald (v := nI (A (g 3 q))) 19 (o1 + (g 3 q)) (by decide) (by decide) (show _ < 168 by omega) (by rw [va_us, hO _ (by omega)]; exact hA _ f8) dX2_join_22 ?_
        refine g_is (lv' := [(7, .int (nI (A (g 3 q)))), (0, .ref (γ.2.2 2)), (1, .ref (γ.2.2 1)), (2, .int (nI r1)), (3, .int (nI o1)), (4, .int (nI o2)), (5, .int (nI o3)), (6, .int (nI q))]) dX2_join_23 (by decide) rfl ?_
        refine g_al_n 1 dX2_join_25 rfl ?_
        refine g_get (v := .ref (γ.2.2 19)) 2 0 (by decide) rfl in_X2_join_2 rfl (by decide) (by decide +kernel) rfl rfl dX2_join_26 ?_
        refine g_il 5 dX2_join_29 rfl ?_
        refine g_al_n 2 dX2_join_31 rfl ?_
        refine g_getN (v := .ref (γ.2.2 18)) 1 6 (by decide) rfl in_X2_join_1 rfl (by decide) nw_RX2_56 rfl rfl dX2_join_32 ?_
        refine g_il 7 dX2_join_35 rfl ?_
        refine g_iald (v := nI (g 4 q)) 18 q (by decide) (by decide) (show _ < 8 by omega) (hG2.snd hq) dX2_join_37 ?_
        refine g_iadd (v := nI (o2 + (g 4 q))) dX2_join_38 (nI_add _ _) ?_
        refine g_iald (v := nI (B (g 4 q))) 19 (o2 + (g 4 q)) (by decide) (by decide) (show _ < 168 by omega) (by rw [va_us, hO _ (by omega)]; exact hB _ s8) dX2_join_39 ?_
        refine g_is (lv' := [(8, .int (nI (B (g 4 q)))), (7, .int (nI (A (g 3 q)))), (0, .ref (γ.2.2 2)), (1, .ref (γ.2.2 1)), (2, .int (nI r1)), (3, .int (nI o1)), (4, .int (nI o2)), (5, .int (nI o3)), (6, .int (nI q))]) dX2_join_40 (by decide) rfl ?_
        refine g_il 1 dX2_join_42 rfl ?_
        refine gz_eq (tgt := 84) dX2_join_44 (by decide) (by omega) (fun h5 => ?_) (fun h5 => ?_)
        · skip
          have hz : A (g 3 q) = 0 ∨ B (g 4 q) = 0 := Or.inl h5
          refine g_inc (v := nI (q + 1)) (lv' := [(6, .int (nI (q + 1))), (8, .int (nI (B (g 4 q)))), (7, .int (nI (A (g 3 q)))), (0, .ref (γ.2.2 2)), (1, .ref (γ.2.2 1)), (2, .int (nI r1)), (3, .int (nI o1)), (4, .int (nI o2)), (5, .int (nI o3))]) 8 dX2_join_84 rfl (inc_1 _) (by decide) rfl ?_
          refine g_goto (tgt := 3) dX2_join_87 (by decide) ?_
          refine g_sub [3, 4, 5, 6, 7, 8, 0] rfl ?_
          exact ih (q + 1) F (by omega) (fun c hc => by
            rw [hF c hc]
            show _ = nI (C c ||| (stp g q A B c ||| str g A B c q))
            rw [str_z hz, Nat.or_zero]) hO
        · skip
          refine g_il 0 dX2_join_47 rfl ?_
          refine gz_eq (tgt := 84) dX2_join_49 (by decide) (by omega) (fun h6 => ?_) (fun h6 => ?_)
          · skip
            have hz : A (g 3 q) = 0 ∨ B (g 4 q) = 0 := Or.inr h6
            refine g_inc (v := nI (q + 1)) (lv' := [(6, .int (nI (q + 1))), (8, .int (nI (B (g 4 q)))), (7, .int (nI (A (g 3 q)))), (0, .ref (γ.2.2 2)), (1, .ref (γ.2.2 1)), (2, .int (nI r1)), (3, .int (nI o1)), (4, .int (nI o2)), (5, .int (nI o3))]) 8 dX2_join_84 rfl (inc_1 _) (by decide) rfl ?_
            refine g_goto (tgt := 3) dX2_join_87 (by decide) ?_
            refine g_sub [3, 4, 5, 6, 7, 8, 0] rfl ?_
            exact ih (q + 1) F (by omega) (fun c hc => by
              rw [hF c hc]
              show _ = nI (C c ||| (stp g q A B c ||| str g A B c q))
              rw [str_z hz, Nat.or_zero]) hO
          · skip
            refine g_al_n 3 dX2_join_52 rfl ?_
            refine g_il 8 dX2_join_53 rfl ?_
            refine g_il 1 dX2_join_55 rfl ?_
            refine g_il 0 dX2_join_57 rfl ?_
            refine g_ci (r_VN (st := []) (As := [.int (nI q), .int (nI (A (g 3 q))), .int (nI (B (g 4 q)))]) (d := 1) (host := RX4) 1 (by decide) rfl rfl (c_X1_pairsMade l γ (va_up I 19 F) L P q (g 5 q) (A (g 3 q)) (B (g 4 q)) (by omega) (fun k hk => hG2.row hq hk) a16 b16) gX2_join_X1_pairsMade_n59 rfl nm_RX2_59 (by decide +kernel) (by decide +kernel) (by decide +kernel) ⟨by decide, by decide, rfl⟩ ⟨Nat.le_of_ble_eq_true rfl, Nat.le_of_ble_eq_true rfl⟩ rfl (Nat.le_of_ble_eq_true rfl) dX2_join_59 ⟨Nat.zero_le _, Nat.zero_le _⟩) ?_
            rintro rz1 Iz1 Lz1 ⟨ez1, eIz1, eLz1⟩
            rw [ez1, eIz1, eLz1]
            refine g_is (lv' := [(9, .int (nI (pmk (g 5 q) (A (g 3 q)) (B (g 4 q))))), (8, .int (nI (B (g 4 q)))), (7, .int (nI (A (g 3 q)))), (0, .ref (γ.2.2 2)), (1, .ref (γ.2.2 1)), (2, .int (nI r1)), (3, .int (nI o1)), (4, .int (nI o2)), (5, .int (nI o3)), (6, .int (nI q))]) dX2_join_62 (by decide) rfl ?_
            refine g_al_n 3 dX2_join_64 rfl ?_
            refine g_get (v := .ref (γ.2.2 19)) 2 0 (by decide) rfl in_X2_join_2 rfl (by decide) (by decide +kernel) rfl rfl dX2_join_65 ?_
            refine g_il 8 dX2_join_68 rfl ?_
            refine g_al_n 4 dX2_join_70 rfl ?_
            refine g_getN (v := .ref (γ.2.2 16)) 1 4 (by decide) rfl in_X2_join_1 rfl (by decide) nw_RX2_62 rfl rfl dX2_join_71 ?_
            refine g_il 9 dX2_join_74 rfl ?_
            refine g_iald (v := nI (g 2 q)) 16 q (by decide) (by decide) (show _ < 8 by omega) (hG2.made hq) dX2_join_76 ?_
            refine g_iadd (v := nI (o3 + (g 2 q))) dX2_join_77 (nI_add _ _) ?_
            refine g_dup2 dX2_join_78 rfl rfl ?_
            refine g_iald (v := nI (C (g 2 q) ||| stp g q A B (g 2 q))) 19 (o3 + (g 2 q)) (by decide) (by decide) (show _ < 168 by omega) (by rw [va_us]; exact hF _ m8) dX2_join_79 ?_
            refine g_il 0 dX2_join_80 rfl ?_
            refine g_ior (v := nI ((C (g 2 q) ||| stp g q A B (g 2 q)) ||| pmk (g 5 q) (A (g 3 q)) (B (g 4 q)))) dX2_join_82 (nI_or _ _) ?_
            refine g_iast 19 (o3 + (g 2 q)) (by decide) (by decide) (show _ < 168 by omega) dX2_join_83 ?_
            refine g_eq (I' := va_up I 19 (upd F (o3 + g 2 q) (nI ((C (g 2 q) ||| stp g q A B (g 2 q)) ||| pmk (g 5 q) (A (g 3 q)) (B (g 4 q)))))) (va_uw _ _ _ _ _) rfl ?_
            refine g_inc (v := nI (q + 1)) (lv' := [(6, .int (nI (q + 1))), (9, .int (nI (pmk (g 5 q) (A (g 3 q)) (B (g 4 q))))), (8, .int (nI (B (g 4 q)))), (7, .int (nI (A (g 3 q)))), (0, .ref (γ.2.2 2)), (1, .ref (γ.2.2 1)), (2, .int (nI r1)), (3, .int (nI o1)), (4, .int (nI o2)), (5, .int (nI o3))]) 9 dX2_join_84 rfl (inc_1 _) (by decide) rfl ?_
            refine g_goto (tgt := 3) dX2_join_87 (by decide) ?_
            refine g_sub [4, 5, 6, 7, 8, 9, 0] rfl ?_
            exact ih (q + 1) (upd F (o3 + g 2 q) (nI ((C (g 2 q) ||| stp g q A B (g 2 q)) ||| pmk (g 5 q) (A (g 3 q)) (B (g 4 q))))) (by omega) (fun c hc => by
              show _ = nI (C c ||| (stp g q A B c ||| str g A B c q))
              by_cases e : g 2 q = c
              · subst e; rw [upd_s, str_eq rfl, Nat.or_assoc]
              · rw [upd_n _ _ (by omega), hF c hc, str_ne e, Nat.or_zero]) (fun j hj => by rw [upd_n _ _ (by omega)]; exact hO j hj)
  refine g_sub [1, 2, 3, 4, 5, 6, 0] rfl ?_
  refine g_eq (I' := va_up I 19 (I 19)) (va_id _ _).symm rfl ?_
  exact lp r1 0 _ (Nat.zero_add _) (fun c hc => by rw [hC c hc]; simp [stp, orf]) (fun _ _ => rfl)

set_option maxRecDepth 100000 in
set_option maxHeartbeats 4000000 in
theorem c_X2_joinUpTo (l : Launch) (γ : Gm) (I : IT) (L : LT) (P : PT) (g : GR) (n r r1 t : Nat) (lx : Nat → Nat → Nat) (hG : GG I g n r) (hr : r1 ≤ r) (ht : 0 < t) (ht6 : t ≤ 6) (hl : ∀ p, p < t → ∀ c, lx p c < 2 ^ 16) (hV : CV (I 19) g r1 lx (t - 1)) (hS : ∀ c, c < 8 → I 19 (sp (t - 1) t * 8 + c) = nI (lx (t - 1) c)) : Cv l yX2_joinUpTo wsX2_joinUpTo 3 γ [.ref (γ.2.2 2), .ref (γ.2.2 1), .int (nI t), .int (nI r1)] I L P (fun I' L' => (∃ F : Nat → Int32, I' = va_up I 19 F ∧ CV F g r1 lx t) ∧ L' = L) := by
  refine Cv_of (own := RX2) (cc := cX2_joinUpTo) (maxL := 9) (by decide) rfl rfl (Nat.le_of_ble_eq_true rfl) ?_
  refine g_sub (lv' := [(0, .ref (γ.2.2 2)), (1, .ref (γ.2.2 1)), (2, .int (nI t)), (3, .int (nI r1))]) [0, 1, 2, 3] rfl ?_
  refine g_il_n 2 dX2_joinUpTo_0 rfl ?_
  refine g_ic (v := nI 2) dX2_joinUpTo_1 (by decide) ?_
  refine g_isub (v := dn (t - 1)) dX2_joinUpTo_2 (dn_sub2 ht) ?_
  refine g_is (lv' := [(4, .int (dn (t - 1))), (0, .ref (γ.2.2 2)), (1, .ref (γ.2.2 1)), (2, .int (nI t)), (3, .int (nI r1))]) dX2_joinUpTo_3 (by decide) rfl ?_
  have lp : ∀ (f : Nat) (F : Nat → Int32) (hf : f ≤ t - 1) (hV : CV F g r1 lx (t - 1)) (hS : ∀ i, f ≤ i → i < t → ∀ c, c < 8 → F (sp i t * 8 + c) = nI (ch g r1 lx i t c)), G E0 l cX2_joinUpTo 9 wsX2_joinUpTo RX2 none (rmd 3) γ P (AE γ) (Qv γ P (fun I' L' => (∃ F : Nat → Int32, I' = va_up I 19 F ∧ CV F g r1 lx t) ∧ L' = L)) 0 0 5 [(0, .ref (γ.2.2 2)), (1, .ref (γ.2.2 1)), (2, .int (nI t)), (3, .int (nI r1)), (4, .int (dn f))] [] (va_up I 19 F) L := by
    intro f
    induction f with
    | zero =>
      intro F hf hV hS
      refine g_lv (lv' := [(0, .ref (γ.2.2 2)), (1, .ref (γ.2.2 1)), (2, .int (nI t)), (3, .int (nI r1)), (4, .int (-1 : Int32))]) rfl ?_
      refine g_il 4 dX2_joinUpTo_5 rfl ?_
      refine g_if_lt (tgt := 87) dX2_joinUpTo_7 (by decide) (fun h1 => ?_) (fun h1 => ?_)
      · skip
        exact g_vret dX2_joinUpTo_87 (⟨⟨F, rfl, fun i j hij hj c hc => by
              by_cases e : j = t
              · subst e; exact hS i (Nat.zero_le _) hij c hc
              · exact hV i j hij (by omega) c hc⟩, rfl⟩)
      · skip
        exact absurd (by decide) h1
    | succ f ih =>
      intro F hf hV hS
      refine g_lv (lv' := [(0, .ref (γ.2.2 2)), (1, .ref (γ.2.2 1)), (2, .int (nI t)), (3, .int (nI r1)), (4, .int (nI f))]) rfl ?_
      have hft : f < t := by omega
      have e3 := sp_8 hft ht6
      refine g_il 4 dX2_joinUpTo_5 rfl ?_
      refine gz_lt (tgt := 87) dX2_joinUpTo_7 (by decide) (by omega) (fun h1 => ?_) (fun h1 => ?_)
      · skip
        exfalso; omega
      · skip
        refine g_al_n 0 dX2_joinUpTo_10 rfl ?_
        refine g_il 4 dX2_joinUpTo_11 rfl ?_
        refine g_il_n 2 dX2_joinUpTo_13 rfl ?_
        refine g_cv (r_V (st := []) (As := [.int (nI f), .int (nI t)]) (d := 1) 2 (by decide) rfl rfl (c_X2_clearSpan l γ (va_up I 19 F) L P f t hft ht6) gX2_joinUpTo_X2_clearSpan rfl ⟨rfl, by decide, by decide, rfl⟩ ⟨Nat.le_of_ble_eq_true rfl, Nat.le_of_ble_eq_true rfl⟩ rfl (Nat.le_of_ble_eq_true rfl) dX2_joinUpTo_14 ⟨Nat.zero_le _, Nat.zero_le _⟩) ?_
        rintro Iz1 Lz1 ⟨⟨F1, eIz1, hF1, hO1⟩, eLz1⟩
        rw [eIz1, eLz1, va_uu]
        simp only [va_us] at hO1
        refine g_il 4 dX2_joinUpTo_17 rfl ?_
        refine g_il_n 2 dX2_joinUpTo_19 rfl ?_
        refine g_ci (r_SN (st := []) (As := [.int (nI f), .int (nI t)]) (d := 0) (host := RX4) (c_X4_spanOf l γ (va_up I 19 F1) L P f t hft ht6) gX2_joinUpTo_X4_spanOf_n15 rfl nm_RX2_15 (by decide +kernel) (by decide +kernel) ⟨by decide, by decide, rfl⟩ ⟨Nat.le_of_ble_eq_true rfl, Nat.le_of_ble_eq_true rfl⟩ rfl (Nat.le_of_ble_eq_true rfl) dX2_joinUpTo_20 ⟨Nat.zero_le _, Nat.zero_le _⟩) ?_
        rintro rz2 Iz2 Lz2 ⟨ez2, eIz2, eLz2⟩
        rw [ez2, eIz2, eLz2]
        refine g_bi (v := nI 8) dX2_joinUpTo_23 (by decide) ?_
        refine g_imul (v := nI ((sp f t) * 8)) dX2_joinUpTo_25 (pk_mul _ _) ?_
        refine g_is (lv' := [(5, .int (nI ((sp f t) * 8))), (0, .ref (γ.2.2 2)), (1, .ref (γ.2.2 1)), (2, .int (nI t)), (3, .int (nI r1)), (4, .int (nI f))]) dX2_joinUpTo_26 (by decide) rfl ?_
        refine g_il 5 dX2_joinUpTo_28 rfl ?_
        refine g_ic (v := nI 1) dX2_joinUpTo_30 (by decide) ?_
        refine g_iadd (v := nI (f + 1)) dX2_joinUpTo_31 (nI_add _ _) ?_
        refine g_is (lv' := [(6, .int (nI (f + 1))), (5, .int (nI ((sp f t) * 8))), (0, .ref (γ.2.2 2)), (1, .ref (γ.2.2 1)), (2, .int (nI t)), (3, .int (nI r1)), (4, .int (nI f))]) dX2_joinUpTo_32 (by decide) rfl ?_
        have lp2 : ∀ (k : Nat) (d : Nat) (F2 : Nat → Int32) (hk2 : d + k = t - (f + 1)) (hF2 : ∀ c, c < 8 → F2 (sp f t * 8 + c) = nI (orf (fun d => stp g r1 (ch g r1 lx f (f + 1 + d)) (ch g r1 lx (f + 1 + d) t) c) d)) (hO2 : ∀ j, (j < sp f t * 8 ∨ sp f t * 8 + 8 ≤ j) → F2 j = F j), G E0 l cX2_joinUpTo 9 wsX2_joinUpTo RX2 none (rmd 3) γ P (AE γ) (Qv γ P (fun I' L' => (∃ F : Nat → Int32, I' = va_up I 19 F ∧ CV F g r1 lx t) ∧ L' = L)) 0 0 34 [(0, .ref (γ.2.2 2)), (1, .ref (γ.2.2 1)), (2, .int (nI t)), (3, .int (nI r1)), (4, .int (nI f)), (5, .int (nI (sp f t * 8))), (6, .int (nI (f + 1 + d)))] [] (va_up I 19 F2) L := by
          intro k
          induction k with
          | zero =>
            intro d F2 hk2 hF2 hO2
            simp only [Nat.add_zero] at hk2
            refine g_il 6 dX2_joinUpTo_34 rfl ?_
            refine g_il_n 2 dX2_joinUpTo_36 rfl ?_
            refine gn_ge (tgt := 81) dX2_joinUpTo_37 (by decide) (by omega) (by omega) (fun h2 => ?_) (fun h2 => ?_)
            · skip
              refine g_inc (v := dn f) (lv' := [(4, .int (dn f)), (0, .ref (γ.2.2 2)), (1, .ref (γ.2.2 1)), (2, .int (nI t)), (3, .int (nI r1)), (5, .int (nI (sp f t * 8))), (6, .int (nI (f + 1 + d)))]) 4 dX2_joinUpTo_81 rfl (dec_1 _) (by decide) rfl ?_
              refine g_goto (tgt := 5) dX2_joinUpTo_84 (by decide) ?_
              refine g_sub [1, 2, 3, 4, 0] rfl ?_
              exact ih F2 (by omega) (fun i j hij hj c hc => by
                have q := sp_ap hij (show j ≤ 6 by omega) hft ht6 (by omega)
                rw [hO2 _ (by omega)]; exact hV i j hij hj c hc) (fun i h1 h2 c hc => by
                by_cases e : i = f
                · subst e; rw [hF2 c hc, hk2, ch_more g r1 lx c (by omega)]; rfl
                · have q := sp_ap h2 ht6 hft ht6 (by omega)
                  rw [hO2 _ (by omega)]; exact hS i (by omega) h2 c hc)
            · skip
              exfalso; omega
          | succ k ih2 =>
            intro d F2 hk2 hF2 hO2
            have hd : f + 1 + d < t := by omega
            have e1 := sp_8 (show f < f + 1 + d by omega) (show f + 1 + d ≤ 6 by omega)
            have e2 := sp_8 hd ht6
            have d1 := sp_ap (show f < f + 1 + d by omega) (show f + 1 + d ≤ 6 by omega) hft ht6 (by omega)
            have d2 := sp_ap hd ht6 hft ht6 (by omega)
            refine g_il 6 dX2_joinUpTo_34 rfl ?_
            refine g_il_n 2 dX2_joinUpTo_36 rfl ?_
            refine gn_ge (tgt := 81) dX2_joinUpTo_37 (by decide) (by omega) (by omega) (fun h2 => ?_) (fun h2 => ?_)
            · skip
              exfalso; omega
            · skip
              refine g_il 4 dX2_joinUpTo_40 rfl ?_
              refine g_il 6 dX2_joinUpTo_42 rfl ?_
              refine g_ci (r_SN (st := []) (As := [.int (nI f), .int (nI (f + 1 + d))]) (d := 0) (host := RX4) (c_X4_spanOf l γ (va_up I 19 F2) L P f (f + 1 + d) (by omega) (by omega)) gX2_joinUpTo_X4_spanOf_n15 rfl nm_RX2_15 (by decide +kernel) (by decide +kernel) ⟨by decide, by decide, rfl⟩ ⟨Nat.le_of_ble_eq_true rfl, Nat.le_of_ble_eq_true rfl⟩ rfl (Nat.le_of_ble_eq_true rfl) dX2_joinUpTo_44 ⟨Nat.zero_le _, Nat.zero_le _⟩) ?_
              rintro rz3 Iz3 Lz3 ⟨ez3, eIz3, eLz3⟩
              rw [ez3, eIz3, eLz3]
              refine g_bi (v := nI 8) dX2_joinUpTo_47 (by decide) ?_
              refine g_imul (v := nI ((sp f (f + 1 + d)) * 8)) dX2_joinUpTo_49 (pk_mul _ _) ?_
              refine g_is (lv' := [(7, .int (nI ((sp f (f + 1 + d)) * 8))), (0, .ref (γ.2.2 2)), (1, .ref (γ.2.2 1)), (2, .int (nI t)), (3, .int (nI r1)), (4, .int (nI f)), (5, .int (nI (sp f t * 8))), (6, .int (nI (f + 1 + d)))]) dX2_joinUpTo_50 (by decide) rfl ?_
              refine g_il 7 dX2_joinUpTo_52 rfl ?_
              refine g_il_n 3 dX2_joinUpTo_54 rfl ?_
              refine g_ci (r_SN (st := []) (As := [.int (nI (f + 1 + d)), .int (nI t)]) (d := 0) (host := RX4) (c_X4_spanOf l γ (va_up I 19 F2) L P (f + 1 + d) t hd ht6) gX2_joinUpTo_X4_spanOf_n15 rfl nm_RX2_15 (by decide +kernel) (by decide +kernel) ⟨by decide, by decide, rfl⟩ ⟨Nat.le_of_ble_eq_true rfl, Nat.le_of_ble_eq_true rfl⟩ rfl (Nat.le_of_ble_eq_true rfl) dX2_joinUpTo_55 ⟨Nat.zero_le _, Nat.zero_le _⟩) ?_
              rintro rz4 Iz4 Lz4 ⟨ez4, eIz4, eLz4⟩
              rw [ez4, eIz4, eLz4]
              refine g_bi (v := nI 8) dX2_joinUpTo_58 (by decide) ?_
              refine g_imul (v := nI ((sp (f + 1 + d) t) * 8)) dX2_joinUpTo_60 (pk_mul _ _) ?_
              refine g_is (lv' := [(8, .int (nI ((sp (f + 1 + d) t) * 8))), (7, .int (nI ((sp f (f + 1 + d)) * 8))), (0, .ref (γ.2.2 2)), (1, .ref (γ.2.2 1)), (2, .int (nI t)), (3, .int (nI r1)), (4, .int (nI f)), (5, .int (nI (sp f t * 8))), (6, .int (nI (f + 1 + d)))]) dX2_joinUpTo_61 (by decide) rfl ?_
              refine g_al_n 2 dX2_joinUpTo_63 rfl ?_
              refine g_al_n 3 dX2_joinUpTo_64 rfl ?_
              refine g_il_n 5 dX2_joinUpTo_65 rfl ?_
              refine g_il 1 dX2_joinUpTo_66 rfl ?_
              refine g_il 0 dX2_joinUpTo_68 rfl ?_
              refine g_il 7 dX2_joinUpTo_70 rfl ?_
              refine g_cv (r_V (st := []) (As := [.ref (γ.2.2 1), .int (nI r1), .int (nI ((sp f (f + 1 + d)) * 8)), .int (nI ((sp (f + 1 + d) t) * 8)), .int (nI (sp f t * 8))]) (d := 2) 2 (by decide) rfl rfl (c_X2_join l γ (va_up I 19 F2) L P g n r r1 (sp f (f + 1 + d) * 8) (sp (f + 1 + d) t * 8) (sp f t * 8) (ch g r1 lx f (f + 1 + d)) (ch g r1 lx (f + 1 + d) t) (fun c => orf (fun d => stp g r1 (ch g r1 lx f (f + 1 + d)) (ch g r1 lx (f + 1 + d) t) c) d) (hG.up (by decide) F2) hr e1 e2 e3 d1 d2 (fun c hc => by rw [va_us, hO2 _ (by omega)]; exact hV f (f + 1 + d) (by omega) (by omega) c hc) (fun c hc => ch_lt16 (by omega) (fun p h1 h2 c => hl p (by omega) c)) (fun c hc => by rw [va_us, hO2 _ (by omega)]; exact hS (f + 1 + d) (by omega) hd c hc) (fun c hc => ch_lt16 hd (fun p h1 h2 c => hl p h2 c)) (fun c hc => by rw [va_us]; exact hF2 c hc)) gX2_joinUpTo_X2_join rfl ⟨rfl, by decide, by decide, rfl⟩ ⟨Nat.le_of_ble_eq_true rfl, Nat.le_of_ble_eq_true rfl⟩ rfl (Nat.le_of_ble_eq_true rfl) dX2_joinUpTo_72 ⟨Nat.zero_le _, Nat.zero_le _⟩) ?_
              rintro Iz5 Lz5 ⟨⟨F3, eIz5, hF3, hO3⟩, eLz5⟩
              rw [eIz5, eLz5, va_uu]
              simp only [va_us] at hO3
              refine g_inc (v := nI (f + 1 + d + 1)) (lv' := [(6, .int (nI (f + 1 + d + 1))), (8, .int (nI ((sp (f + 1 + d) t) * 8))), (7, .int (nI ((sp f (f + 1 + d)) * 8))), (0, .ref (γ.2.2 2)), (1, .ref (γ.2.2 1)), (2, .int (nI t)), (3, .int (nI r1)), (4, .int (nI f)), (5, .int (nI (sp f t * 8)))]) 8 dX2_joinUpTo_75 rfl (inc_1 _) (by decide) rfl ?_
              refine g_goto (tgt := 34) dX2_joinUpTo_78 (by decide) ?_
              refine g_sub [3, 4, 5, 6, 7, 8, 0] rfl ?_
              exact ih2 (d + 1) F3 (by omega) (fun c hc => by rw [hF3 c hc]; rfl) (fun j hj => by rw [hO3 j hj]; exact hO2 j hj)
        refine g_sub [2, 3, 4, 5, 6, 1, 0] rfl ?_
        exact lp2 (t - (f + 1)) 0 F1 (Nat.zero_add _) (fun c hc => by rw [hF1 c hc]; rfl) hO1
  refine g_sub [1, 2, 3, 4, 0] rfl ?_
  refine g_eq (I' := va_up I 19 (I 19)) (va_id _ _).symm rfl ?_
  exact lp (t - 1) (I 19) (Nat.le_refl _) hV (fun i h1 h2 c hc => by
    obtain rfl : i = t - 1 := by omega
    rw [hS c hc]
    congr 1
    have e := ch_one g r1 lx (t - 1) c
    rw [show t - 1 + 1 = t by omega] at e
    exact e.symm)

set_option maxRecDepth 100000 in
set_option maxHeartbeats 4000000 in
theorem c_X2_parse (l : Launch) (γ : Gm) (I : IT) (L : LT) (P : PT) (g : GR) (n r r1 t k : Nat) (w : Nat → Nat) (hG : GG I g n r) (hr : r1 ≤ r) (ht6 : t ≤ 6) (hk : k = 12 ∨ k = 13) (hw : ∀ p, p < t → I k p = nI (w p)) (hw2 : ∀ p, p < t → w p < n) : Cv l yX2_parse wsX2_parse 4 γ [.ref (γ.2.2 2), .ref (γ.2.2 1), .ref (γ.2.2 k), .int (nI t), .int (nI r1)] I L P (fun I' L' => (∃ F : Nat → Int32, I' = va_up I 19 F ∧ CV F g r1 (lxw g w) t) ∧ L' = L) := by
  refine Cv_of (own := RX2) (cc := cX2_parse) (maxL := 6) (by decide) rfl rfl (Nat.le_of_ble_eq_true rfl) ?_
  refine g_sub (lv' := [(0, .ref (γ.2.2 2)), (1, .ref (γ.2.2 1)), (2, .ref (γ.2.2 k)), (3, .int (nI t)), (4, .int (nI r1))]) [0, 1, 2, 3, 4] rfl ?_
  refine g_ic (v := nI 0) dX2_parse_0 (by decide) ?_
  refine g_is (lv' := [(5, .int (nI 0)), (0, .ref (γ.2.2 2)), (1, .ref (γ.2.2 1)), (2, .ref (γ.2.2 k)), (3, .int (nI t)), (4, .int (nI r1))]) dX2_parse_1 (by decide) rfl ?_
  have lp : ∀ (m : Nat) (p : Nat) (F : Nat → Int32) (hp : p + m = t) (hV : CV F g r1 (lxw g w) p), G E0 l cX2_parse 6 wsX2_parse RX2 none (rmd 4) γ P (AE γ) (Qv γ P (fun I' L' => (∃ F : Nat → Int32, I' = va_up I 19 F ∧ CV F g r1 (lxw g w) t) ∧ L' = L)) 0 0 3 [(0, .ref (γ.2.2 2)), (1, .ref (γ.2.2 1)), (2, .ref (γ.2.2 k)), (3, .int (nI t)), (4, .int (nI r1)), (5, .int (nI p))] [] (va_up I 19 F) L := by
    intro m
    induction m with
    | zero =>
      intro p F hp hV
      simp only [Nat.add_zero] at hp
      refine g_il 5 dX2_parse_3 rfl ?_
      refine g_il_n 3 dX2_parse_5 rfl ?_
      refine gn_ge (tgt := 37) dX2_parse_6 (by decide) (by omega) (by omega) (fun h1 => ?_) (fun h1 => ?_)
      · skip
        exact g_vret dX2_parse_37 (⟨⟨F, rfl, by rw [← hp]; exact hV⟩, rfl⟩)
      · skip
        exfalso; omega
    | succ m ih =>
      intro p F hp hV
      have hpt : p < t := by omega
      have hwn := hw2 p hpt
      refine g_il 5 dX2_parse_3 rfl ?_
      refine g_il_n 3 dX2_parse_5 rfl ?_
      refine gn_ge (tgt := 37) dX2_parse_6 (by decide) (by omega) (by omega) (fun h1 => ?_) (fun h1 => ?_)
      · skip
        exfalso; omega
      · skip
        refine g_al_n 0 dX2_parse_9 rfl ?_
        refine g_al_n 1 dX2_parse_10 rfl ?_
        refine g_il 5 dX2_parse_11 rfl ?_
        refine g_al_n 2 dX2_parse_13 rfl ?_
        refine g_il 5 dX2_parse_14 rfl ?_
        refine g_iald (v := nI (w p)) k p (by omega) (by omega) (by rcases hk with rfl | rfl <;> (show p < 6; omega)) (by rw [va_up_ne _ _ (by omega)]; exact hw p hpt) dX2_parse_16 ?_
        refine g_cv (r_V (st := []) (As := [.ref (γ.2.2 1), .int (nI p), .int (nI (w p))]) (d := 2) 2 (by decide) rfl rfl (c_X2_putWord l γ (va_up I 19 F) L P g n r p (w p) (hG.up (by decide) F) hwn (by omega)) gX2_parse_X2_putWord rfl ⟨rfl, by decide, by decide, rfl⟩ ⟨Nat.le_of_ble_eq_true rfl, Nat.le_of_ble_eq_true rfl⟩ rfl (Nat.le_of_ble_eq_true rfl) dX2_parse_17 ⟨Nat.zero_le _, Nat.zero_le _⟩) ?_
        rintro Iz1 Lz1 ⟨⟨F1, eIz1, hF1, hO1⟩, eLz1⟩
        rw [eIz1, eLz1, va_uu]
        simp only [va_us] at hO1
        refine g_al_n 0 dX2_parse_20 rfl ?_
        refine g_al_n 1 dX2_parse_21 rfl ?_
        refine g_il 5 dX2_parse_22 rfl ?_
        refine g_ic (v := nI 1) dX2_parse_24 (by decide) ?_
        refine g_iadd (v := nI (p + 1)) dX2_parse_25 (nI_add _ _) ?_
        refine g_il 4 dX2_parse_26 rfl ?_
        refine g_cv (r_V (st := []) (As := [.ref (γ.2.2 1), .int (nI (p + 1)), .int (nI r1)]) (d := 3) 2 (by decide) rfl rfl (c_X2_joinUpTo l γ (va_up I 19 F1) L P g n r r1 (p + 1) (lxw g w) (hG.up (by decide) F1) hr (by omega) (by omega) (fun p9 h9 c => wset_lt (hG.val_lt (hw2 p9 (by omega)))) (fun i j hij hj c hc => by
            have q := sp_ap hij (show j ≤ 6 by omega) (show p < p + 1 by omega) (show p + 1 ≤ 6 by omega) (by omega)
            rw [va_us, hO1 _ (by omega)]; exact hV i j hij (by omega) c hc) (fun c hc => by rw [va_us]; exact hF1 c hc)) gX2_parse_X2_joinUpTo rfl ⟨rfl, by decide, by decide, rfl⟩ ⟨Nat.le_of_ble_eq_true rfl, Nat.le_of_ble_eq_true rfl⟩ rfl (Nat.le_of_ble_eq_true rfl) dX2_parse_28 ⟨Nat.zero_le _, Nat.zero_le _⟩) ?_
        rintro Iz2 Lz2 ⟨⟨F2, eIz2, hF2⟩, eLz2⟩
        rw [eIz2, eLz2, va_uu]
        refine g_inc (v := nI (p + 1)) (lv' := [(5, .int (nI (p + 1))), (0, .ref (γ.2.2 2)), (1, .ref (γ.2.2 1)), (2, .ref (γ.2.2 k)), (3, .int (nI t)), (4, .int (nI r1))]) 5 dX2_parse_31 rfl (inc_1 _) (by decide) rfl ?_
        refine g_goto (tgt := 3) dX2_parse_34 (by decide) ?_
        refine g_sub [1, 2, 3, 4, 5, 0] rfl ?_
        exact ih (p + 1) F2 (by omega) hF2
  refine g_sub [1, 2, 3, 4, 5, 0] rfl ?_
  refine g_eq (I' := va_up I 19 (I 19)) (va_id _ _).symm rfl ?_
  exact lp t 0 _ (Nat.zero_add _) (fun i j h1 h2 => by omega)
