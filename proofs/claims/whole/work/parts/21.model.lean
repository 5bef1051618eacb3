/-! the model's sets -/
/-- what rule q makes as c of the two parts of f .. f+d at f+1+e; and what the rules before q made, all places -/
def mrow (g : GR) (r : Nat) (lx : Nat → Nat → Nat) (f d e c q : Nat) : Nat := str g (ch g r lx f (f + 1 + e)) (ch g r lx (f + 1 + e) (f + 1 + d)) c q
def mcur (g : GR) (r : Nat) (lx : Nat → Nat → Nat) (f d c q : Nat) : Nat := (if d = 0 then lx f c else 0) ||| orf (fun q => orf (fun e => mrow g r lx f d e c q) d) q
theorem mcur_all (g : GR) (r : Nat) (lx : Nat → Nat → Nat) (f d c : Nat) : mcur g r lx f d c r = ch g r lx f (f + 1 + d) c := by
  unfold mcur
  by_cases h : d = 0
  · subst h
    have e : orf (fun q => orf (fun e => mrow g r lx f 0 e c q) 0) r = 0 := orf_zero (fun _ _ => rfl)
    rw [if_pos rfl, e, Nat.or_zero]
    exact (ch_one g r lx f c).symm
  · rw [if_neg h, Nat.zero_or, ch_more g r lx c (show f + 1 < f + 1 + d by omega), show f + 1 + d - f - 1 = d by omega, orf_comm (fun q e => mrow g r lx f d e c q)]
    rfl
theorem mcur_0 (g : GR) (r : Nat) (lx : Nat → Nat → Nat) (f d c : Nat) : mcur g r lx f d c 0 = if d = 0 then lx f c else 0 := by
  unfold mcur
  exact Nat.or_zero _
theorem mcur_s (g : GR) (r : Nat) (lx : Nat → Nat → Nat) (f d c q : Nat) : mcur g r lx f d c q ||| orf (fun e => mrow g r lx f d e c q) d = mcur g r lx f d c (q + 1) := by
  unfold mcur
  rw [Nat.or_assoc]
  rfl
/-- the model's chart is right for all parts that begin at f or behind -/
def CM (F : Nat → Int32) (g : GR) (r : Nat) (lx : Nat → Nat → Nat) (f t : Nat) : Prop := ∀ i j, f ≤ i → i < j → j ≤ t → ∀ c, c < 8 → F ((i * 7 + j) * 8 + c) = nI (ch g r lx i j c)

theorem in_X5_takes_5 : ∀ w ∈ wsX50, w ∈ wsX5_takes := by decide +kernel
set_option maxRecDepth 100000 in
set_option maxHeartbeats 4000000 in
theorem c_X5_takes (l : Launch) (γ : Gm) (I : IT) (L : LT) (P : PT) (q : Nat) (u : Nat → Nat) (hq : I 8 2 = nI q) (hq6 : q ≤ 6) (hu : ∀ p, p < q → I 26 p = nI (u p)) : Cv l yX5_takes wsX5_takes 0 γ [.ref (γ.2.2 8)] I L P (fun I' L' => (∃ F : Nat → Int32, I' = va_up (va_up I 8 (upd (I 8) 3 (nI q))) 27 F ∧ ∀ p, p < q → F p = nI (u p)) ∧ L' = L) := by
  refine Cv_of (own := RX5) (cc := cX5_takes) (maxL := 2) (by decide) rfl rfl (Nat.le_of_ble_eq_true rfl) ?_
  refine g_sub (lv' := [(0, .ref (γ.2.2 8))]) [0] rfl ?_
  refine g_al_n 0 dX5_takes_0 rfl ?_
  refine g_al_n 0 dX5_takes_1 rfl ?_
  refine g_get 8 9 (by decide) rfl in_X5_takes_5 rfl (by decide) (by decide +kernel) rfl rfl dX5_takes_2 ?_
  refine g_top (v := nI q) (hq) ?_
  refine g_put tyX5 8 11 (upd (I 8) 3 (nI q)) (by decide) rfl in_X5_takes_5 tyX5_ok nmX5 rfl (by decide) (by decide +kernel) rfl rfl rfl rfl rfl (Nat.le_of_ble_eq_true rfl) dX5_takes_5 rfl ?_
  obtain ⟨J, hJ⟩ : ∃ J, J = va_up I 8 (upd (I 8) 3 (nI q)) := ⟨_, rfl⟩
  have hJ2 : J 8 2 = nI q := by rw [hJ, va_us, upd_n _ _ (by decide)]; exact hq
  have hJ6 : ∀ p, p < q → J 26 p = nI (u p) := fun p hp => by rw [hJ]; exact hu p hp
  refine g_eq (I' := J) hJ.symm rfl ?_
  refine g_ic (v := nI 0) dX5_takes_8 (by decide) ?_
  refine g_is_n (lv' := [(1, .int (nI 0)), (0, .ref (γ.2.2 8))]) dX5_takes_9 (by decide) rfl ?_
  have lp : ∀ (n : Nat) (k : Nat) (F : Nat → Int32) (hk : k + n = q) (hF : ∀ p, p < k → F p = nI (u p)), G E0 l cX5_takes 2 wsX5_takes RX5 none (rmd 0) γ P (AE γ) (Qv γ P (fun I' L' => (∃ F : Nat → Int32, I' = va_up (va_up I 8 (upd (I 8) 3 (nI q))) 27 F ∧ ∀ p, p < q → F p = nI (u p)) ∧ L' = L)) 0 0 10 [(0, .ref (γ.2.2 8)), (1, .int (nI k))] [] (va_up J 27 F) L := by
    intro n
    induction n with
    | zero =>
      intro k F hk hF
      simp only [Nat.add_zero] at hk
      refine g_il_n 1 dX5_takes_10 rfl ?_
      refine g_al_n 0 dX5_takes_11 rfl ?_
      refine g_get 8 9 (by decide) rfl in_X5_takes_5 rfl (by decide) (by decide +kernel) rfl rfl dX5_takes_12 ?_
      refine g_top (v := nI q) (hJ2) ?_
      refine gn_ge (tgt := 36) dX5_takes_15 (by decide) (by omega) (by omega) (fun h1 => ?_) (fun h1 => ?_)
      · skip
        exact g_vret dX5_takes_36 (⟨⟨F, by rw [hJ], fun p hp => hF p (by omega)⟩, rfl⟩)
      · skip
        exfalso; omega
    | succ n ih =>
      intro k F hk hF
      refine g_il_n 1 dX5_takes_10 rfl ?_
      refine g_al_n 0 dX5_takes_11 rfl ?_
      refine g_get 8 9 (by decide) rfl in_X5_takes_5 rfl (by decide) (by decide +kernel) rfl rfl dX5_takes_12 ?_
      refine g_top (v := nI q) (hJ2) ?_
      refine gn_ge (tgt := 36) dX5_takes_15 (by decide) (by omega) (by omega) (fun h1 => ?_) (fun h1 => ?_)
      · skip
        exfalso; omega
      · skip
        refine g_al_n 0 dX5_takes_18 rfl ?_
        refine g_get (v := .ref (γ.2.2 27)) 8 10 (by decide) rfl in_X5_takes_5 rfl (by decide) (by decide +kernel) rfl rfl dX5_takes_19 ?_
        refine g_il_n 1 dX5_takes_22 rfl ?_
        refine g_al_n 0 dX5_takes_23 rfl ?_
        refine g_get (v := .ref (γ.2.2 26)) 8 8 (by decide) rfl in_X5_takes_5 rfl (by decide) (by decide +kernel) rfl rfl dX5_takes_24 ?_
        refine g_il_n 1 dX5_takes_27 rfl ?_
        refine g_iald (v := nI (u k)) 26 k (by decide) (by decide) (show _ < 6 by omega) (hJ6 k (by omega)) dX5_takes_28 ?_
        refine g_iast 27 k (by decide) (by decide) (show _ < 6 by omega) dX5_takes_29 ?_
        refine g_eq (I' := va_up J 27 (upd F k (nI (u k)))) (va_uw _ _ _ _ _) rfl ?_
        refine g_inc (v := nI (k + 1)) (lv' := [(1, .int (nI (k + 1))), (0, .ref (γ.2.2 8))]) 1 dX5_takes_30 rfl (inc_1 _) (by decide) rfl ?_
        refine g_goto (tgt := 10) dX5_takes_33 (by decide) ?_
        refine g_sub [1, 0] rfl ?_
        exact ih (k + 1) (upd F k (nI (u k))) (by omega) (fun p hp => by
          by_cases e : p = k
          · subst e; exact upd_s _ _ _
          · rw [upd_n _ _ e]; exact hF p (by omega))
  refine g_sub [1, 0] rfl ?_
  refine g_eq (I' := va_up J 27 (J 27)) (va_id _ _).symm rfl ?_
  exact lp q 0 _ (Nat.zero_add _) (fun p hp => by omega)

theorem in_X5_parses_5 : ∀ w ∈ wsX50, w ∈ wsX5_parses := by decide +kernel
set_option maxRecDepth 100000 in
set_option maxHeartbeats 4000000 in
theorem c_X5_parses (l : Launch) (γ : Gm) (I : IT) (L : LT) (P : PT) (g : GR) (n r r1 t : Nat) (x : Nat → Nat) (hM : MG I g n r) (hr : r1 ≤ r) (ht : I 8 3 = nI t) (ht6 : t ≤ 6) (hx : ∀ p, p < t → I 27 p = nI (x p)) (hx2 : ∀ p, p < t → x p < n) : Cv l yX5_parses wsX5_parses 3 γ [.ref (γ.2.2 8), .int (nI r1)] I L P (fun I' L' => (∃ F : Nat → Int32, I' = va_up I 28 F ∧ CM F g r1 (lxw g x) 0 t) ∧ L' = L) := by
  refine Cv_of (own := RX5) (cc := cX5_parses) (maxL := 9) (by decide) rfl rfl (Nat.le_of_ble_eq_true rfl) ?_
  refine g_sub (lv' := [(0, .ref (γ.2.2 8)), (1, .int (nI r1))]) [0, 1] rfl ?_
  have hr8 := hM.r_le
  have hn9 := hM.n_le
  have hG2 : ∀ F, MG (va_up I 28 F) g n r := fun F => hM.up (by decide) F
  have hl : ∀ p, p < t → ∀ c, lxw g x p c < 2 ^ 16 := fun p hp c => wset_lt (hM.val_lt (hx2 p hp))
  refine g_al_n 0 dX5_parses_0 rfl ?_
  refine g_get 8 11 (by decide) rfl in_X5_parses_5 rfl (by decide) (by decide +kernel) rfl rfl dX5_parses_1 ?_
  refine g_top (v := nI t) (ht) ?_
  refine g_ic (v := nI 1) dX5_parses_4 (by decide) ?_
  refine g_isub (v := dn t) dX5_parses_5 (dn_sub1 t) ?_
  refine g_is_n (lv' := [(2, .int (dn t)), (0, .ref (γ.2.2 8)), (1, .int (nI r1))]) dX5_parses_6 (by decide) rfl ?_
  have lp : ∀ (f : Nat) (F : Nat → Int32) (hf : f ≤ t) (hV : CM F g r1 (lxw g x) f t), G E0 l cX5_parses 9 wsX5_parses RX5 none (rmd 3) γ P (AE γ) (Qv γ P (fun I' L' => (∃ F : Nat → Int32, I' = va_up I 28 F ∧ CM F g r1 (lxw g x) 0 t) ∧ L' = L)) 0 0 7 [(0, .ref (γ.2.2 8)), (1, .int (nI r1)), (2, .int (dn f))] [] (va_up I 28 F) L := by
    intro f
    induction f with
    | zero =>
      intro F hf hV
      refine g_lv (lv' := [(0, .ref (γ.2.2 8)), (1, .int (nI r1)), (2, .int (-1 : Int32))]) rfl ?_
      refine g_il_n 2 dX5_parses_7 rfl ?_
      refine g_if_lt (tgt := 224) dX5_parses_8 (by decide) (fun h1 => ?_) (fun h1 => ?_)
      · skip
        exact g_vret dX5_parses_224 (⟨⟨F, rfl, hV⟩, rfl⟩)
      · skip
        exact absurd (by decide) h1
    | succ f ih =>
      intro F hf hV
      refine g_lv (lv' := [(0, .ref (γ.2.2 8)), (1, .int (nI r1)), (2, .int (nI f))]) rfl ?_
      refine g_il_n 2 dX5_parses_7 rfl ?_
      refine gz_lt (tgt := 224) dX5_parses_8 (by decide) (by omega) (fun h1 => ?_) (fun h1 => ?_)
      · skip
        exfalso; omega
      · skip
        refine g_il_n 2 dX5_parses_11 rfl ?_
        refine g_ic (v := nI 1) dX5_parses_12 (by decide) ?_
        refine g_iadd (v := nI (f + 1)) dX5_parses_13 (nI_add _ _) ?_
        refine g_is_n (lv' := [(3, .int (nI (f + 1))), (0, .ref (γ.2.2 8)), (1, .int (nI r1)), (2, .int (nI f))]) dX5_parses_14 (by decide) rfl ?_
        have lp2 : ∀ (z2 : Nat) (d : Nat) (F : Nat → Int32) (hd : d + z2 = t - f) (hV : CM F g r1 (lxw g x) (f + 1) t) (hR : ∀ j, f < j → j < f + 1 + d → ∀ c, c < 8 → F ((f * 7 + j) * 8 + c) = nI (ch g r1 (lxw g x) f j c)), G E0 l cX5_parses 9 wsX5_parses RX5 none (rmd 3) γ P (AE γ) (Qv γ P (fun I' L' => (∃ F : Nat → Int32, I' = va_up I 28 F ∧ CM F g r1 (lxw g x) 0 t) ∧ L' = L)) 0 0 15 [(0, .ref (γ.2.2 8)), (1, .int (nI r1)), (2, .int (nI f)), (3, .int (nI (f + 1 + d)))] [] (va_up I 28 F) L := by
          intro z2
          induction z2 with
          | zero =>
            intro d F hd hV hR
            simp only [Nat.add_zero] at hd
            refine g_il_n 3 dX5_parses_15 rfl ?_
            refine g_al_n 0 dX5_parses_16 rfl ?_
            refine g_get 8 11 (by decide) rfl in_X5_parses_5 rfl (by decide) (by decide +kernel) rfl rfl dX5_parses_17 ?_
            refine g_top (v := nI t) (ht) ?_
            refine gn_gt (tgt := 218) dX5_parses_20 (by decide) (by omega) (by omega) (fun h2 => ?_) (fun h2 => ?_)
            · skip
              refine g_inc (v := dn f) (lv' := [(2, .int (dn f)), (0, .ref (γ.2.2 8)), (1, .int (nI r1)), (3, .int (nI (f + 1 + d)))]) 2 dX5_parses_218 rfl (dec_1 _) (by decide) rfl ?_
              refine g_goto (tgt := 7) dX5_parses_221 (by decide) ?_
              refine g_sub [1, 2, 0] rfl ?_
              exact ih F (by omega) (fun i j h7 h8 h9 c hc => by
                by_cases ei : i = f
                · subst ei; exact hR j h8 (by omega) c hc
                · exact hV i j (by omega) h8 h9 c hc)
            · skip
              exfalso; omega
          | succ z2 ih2 =>
            intro d F hd hV hR
            have hdt : f + 1 + d ≤ t := by omega
            refine g_il_n 3 dX5_parses_15 rfl ?_
            refine g_al_n 0 dX5_parses_16 rfl ?_
            refine g_get 8 11 (by decide) rfl in_X5_parses_5 rfl (by decide) (by decide +kernel) rfl rfl dX5_parses_17 ?_
            refine g_top (v := nI t) (ht) ?_
            refine gn_gt (tgt := 218) dX5_parses_20 (by decide) (by omega) (by omega) (fun h2 => ?_) (fun h2 => ?_)
            · skip
              exfalso; omega
            · skip
              refine g_il_n 2 dX5_parses_23 rfl ?_
              refine g_il_n 3 dX5_parses_24 rfl ?_
              refine g_ci (r_S (st := []) (As := [.int (nI f), .int (nI (f + 1 + d))]) (d := 0) (c_X5_span l γ (va_up I 28 F) L P f (f + 1 + d)) gX5_parses_X5_span rfl ⟨by decide, by decide, rfl⟩ ⟨Nat.le_of_ble_eq_true rfl, Nat.le_of_ble_eq_true rfl⟩ rfl (Nat.le_of_ble_eq_true rfl) dX5_parses_25 ⟨Nat.zero_le _, Nat.zero_le _⟩) ?_
              rintro rz1 Iz1 Lz1 ⟨ez1, eIz1, eLz1⟩
              rw [ez1, eIz1, eLz1]
              refine g_is (lv' := [(4, .int (nI ((f * 7 + (f + 1 + d)) * 8))), (0, .ref (γ.2.2 8)), (1, .int (nI r1)), (2, .int (nI f)), (3, .int (nI (f + 1 + d)))]) dX5_parses_28 (by decide) rfl ?_
              refine g_ic (v := nI 0) dX5_parses_30 (by decide) ?_
              refine g_is (lv' := [(5, .int (nI 0)), (4, .int (nI ((f * 7 + (f + 1 + d)) * 8))), (0, .ref (γ.2.2 8)), (1, .int (nI r1)), (2, .int (nI f)), (3, .int (nI (f + 1 + d)))]) dX5_parses_31 (by decide) rfl ?_
              have lp1 : ∀ (z1 : Nat) (k : Nat) (F1 : Nat → Int32) (hk : k + z1 = 8) (hF1 : ∀ c, c < k → F1 ((f * 7 + (f + 1 + d)) * 8 + c) = nI 0) (hO1 : ∀ j, (j < (f * 7 + (f + 1 + d)) * 8 ∨ (f * 7 + (f + 1 + d)) * 8 + 8 ≤ j) → F1 j = F j), G E0 l cX5_parses 9 wsX5_parses RX5 none (rmd 3) γ P (AE γ) (Qv γ P (fun I' L' => (∃ F : Nat → Int32, I' = va_up I 28 F ∧ CM F g r1 (lxw g x) 0 t) ∧ L' = L)) 0 0 33 [(0, .ref (γ.2.2 8)), (1, .int (nI r1)), (2, .int (nI f)), (3, .int (nI (f + 1 + d))), (4, .int (nI ((f * 7 + (f + 1 + d)) * 8))), (5, .int (nI k))] [] (va_up I 28 F1) L := by
                intro z1
                induction z1 with
                | zero =>
                  intro k F1 hk hF1 hO1
                  simp only [Nat.add_zero] at hk
                  refine g_il 5 dX5_parses_33 rfl ?_
                  refine g_bi (v := nI 8) dX5_parses_35 (by decide) ?_
                  refine gn_ge (tgt := 57) dX5_parses_37 (by decide) (by omega) (by omega) (fun h3 => ?_) (fun h3 => ?_)
                  · skip
                    refine g_il_n 3 dX5_parses_57 rfl ?_
                    refine g_il_n 2 dX5_parses_58 rfl ?_
                    refine g_ic (v := nI 1) dX5_parses_59 (by decide) ?_
                    refine g_iadd (v := nI (f + 1)) dX5_parses_60 (nI_add _ _) ?_
                    refine gn_ne (tgt := 96) dX5_parses_61 (by decide) (by omega) (by omega) (fun h4 => ?_) (fun h4 => ?_)
                    · skip
                      refine g_ic (v := nI 0) dX5_parses_96 (by decide) ?_
                      refine g_is (lv' := [(5, .int (nI 0)), (0, .ref (γ.2.2 8)), (1, .int (nI r1)), (2, .int (nI f)), (3, .int (nI (f + 1 + d))), (4, .int (nI ((f * 7 + (f + 1 + d)) * 8)))]) dX5_parses_97 (by decide) rfl ?_
                      have lp3 : ∀ (z3 : Nat) (q : Nat) (F3 : Nat → Int32) (hq : q + z3 = r1) (hF3 : ∀ c, c < 8 → F3 ((f * 7 + (f + 1 + d)) * 8 + c) = nI (mcur g r1 (lxw g x) f d c q)) (hO3 : ∀ j, (j < (f * 7 + (f + 1 + d)) * 8 ∨ (f * 7 + (f + 1 + d)) * 8 + 8 ≤ j) → F3 j = F j), G E0 l cX5_parses 9 wsX5_parses RX5 none (rmd 3) γ P (AE γ) (Qv γ P (fun I' L' => (∃ F : Nat → Int32, I' = va_up I 28 F ∧ CM F g r1 (lxw g x) 0 t) ∧ L' = L)) 0 0 99 [(0, .ref (γ.2.2 8)), (1, .int (nI r1)), (2, .int (nI f)), (3, .int (nI (f + 1 + d))), (4, .int (nI ((f * 7 + (f + 1 + d)) * 8))), (5, .int (nI q))] [] (va_up I 28 F3) L := by
                        intro z3
                        induction z3 with
                        | zero =>
                          intro q F3 hq hF3 hO3
                          simp only [Nat.add_zero] at hq
                          refine g_il 5 dX5_parses_99 rfl ?_
                          refine g_il_n 1 dX5_parses_101 rfl ?_
                          refine gn_ge (tgt := 212) dX5_parses_102 (by decide) (by omega) (by omega) (fun h5 => ?_) (fun h5 => ?_)
                          · skip
                            refine g_inc (v := nI (f + 1 + d + 1)) (lv' := [(3, .int (nI (f + 1 + d + 1))), (0, .ref (γ.2.2 8)), (1, .int (nI r1)), (2, .int (nI f)), (4, .int (nI ((f * 7 + (f + 1 + d)) * 8))), (5, .int (nI q))]) 3 dX5_parses_212 rfl (inc_1 _) (by decide) rfl ?_
                            refine g_goto (tgt := 15) dX5_parses_215 (by decide) ?_
                            refine g_sub [1, 2, 3, 0] rfl ?_
                            exact ih2 (d + 1) F3 (by omega) (fun i j h7 h8 h9 c hc => by rw [hO3 _ (by omega)]; exact hV i j h7 h8 h9 c hc) (fun j h7 h8 c hc => by
                              by_cases ej : j = f + 1 + d
                              · subst ej; rw [hF3 c hc, hq, mcur_all]
                              · rw [hO3 _ (by omega)]; exact hR j h7 (by omega) c hc)
                          · skip
                            exfalso; omega
                        | succ z3 ih3 =>
                          intro q F3 hq hF3 hO3
                          have hqr : q < r := by omega
                          have f8 := hM.fst_lt hqr
                          have s8 := hM.snd_lt hqr
                          have m8 := hM.made_lt hqr
                          refine g_il 5 dX5_parses_99 rfl ?_
                          refine g_il_n 1 dX5_parses_101 rfl ?_
                          refine gn_ge (tgt := 212) dX5_parses_102 (by decide) (by omega) (by omega) (fun h5 => ?_) (fun h5 => ?_)
                          · skip
                            exfalso; omega
                          · skip
                            refine g_il_n 2 dX5_parses_105 rfl ?_
                            refine g_ic (v := nI 1) dX5_parses_106 (by decide) ?_
                            refine g_iadd (v := nI (f + 1)) dX5_parses_107 (nI_add _ _) ?_
                            refine g_is (lv' := [(6, .int (nI (f + 1))), (0, .ref (γ.2.2 8)), (1, .int (nI r1)), (2, .int (nI f)), (3, .int (nI (f + 1 + d))), (4, .int (nI ((f * 7 + (f + 1 + d)) * 8))), (5, .int (nI q))]) dX5_parses_108 (by decide) rfl ?_
                            have lp4 : ∀ (z4 : Nat) (e : Nat) (F4 : Nat → Int32) (he : e + z4 = d) (hF4 : ∀ c, c < 8 → F4 ((f * 7 + (f + 1 + d)) * 8 + c) = nI (mcur g r1 (lxw g x) f d c q ||| orf (fun e => mrow g r1 (lxw g x) f d e c q) e)) (hO4 : ∀ j, (j < (f * 7 + (f + 1 + d)) * 8 ∨ (f * 7 + (f + 1 + d)) * 8 + 8 ≤ j) → F4 j = F j), G E0 l cX5_parses 9 wsX5_parses RX5 none (rmd 3) γ P (AE γ) (Qv γ P (fun I' L' => (∃ F : Nat → Int32, I' = va_up I 28 F ∧ CM F g r1 (lxw g x) 0 t) ∧ L' = L)) 0 0 110 [(0, .ref (γ.2.2 8)), (1, .int (nI r1)), (2, .int (nI f)), (3, .int (nI (f + 1 + d))), (4, .int (nI ((f * 7 + (f + 1 + d)) * 8))), (5, .int (nI q)), (6, .int (nI (f + 1 + e)))] [] (va_up I 28 F4) L := by
                              intro z4
                              induction z4 with
                              | zero =>
                                intro e F4 he hF4 hO4
                                simp only [Nat.add_zero] at he
                                refine g_il 6 dX5_parses_110 rfl ?_
                                refine g_il_n 3 dX5_parses_112 rfl ?_
                                refine gn_ge (tgt := 206) dX5_parses_113 (by decide) (by omega) (by omega) (fun h6 => ?_) (fun h6 => ?_)
                                · skip
                                  refine g_inc (v := nI (q + 1)) (lv' := [(5, .int (nI (q + 1))), (0, .ref (γ.2.2 8)), (1, .int (nI r1)), (2, .int (nI f)), (3, .int (nI (f + 1 + d))), (4, .int (nI ((f * 7 + (f + 1 + d)) * 8))), (6, .int (nI (f + 1 + e)))]) 5 dX5_parses_206 rfl (inc_1 _) (by decide) rfl ?_
                                  refine g_goto (tgt := 99) dX5_parses_209 (by decide) ?_
                                  refine g_sub [1, 2, 3, 4, 5, 0] rfl ?_
                                  exact ih3 (q + 1) F4 (by omega) (fun c hc => by rw [hF4 c hc, he, mcur_s]) hO4
                                · skip
                                  exfalso; omega
                              | succ z4 ih4 =>
                                intro e F4 he hF4 hO4
                                have hed : e < d := by omega
                                have hM4 := hG2 F4
                                have cl : ch g r1 (lxw g x) f (f + 1 + e) (g 3 q) < 2 ^ 16 := ch_lt16 (by omega) (fun p h1 h2 c => hl p (by omega) c)
                                have cr : ch g r1 (lxw g x) (f + 1 + e) (f + 1 + d) (g 4 q) < 2 ^ 16 := ch_lt16 (by omega) (fun p h1 h2 c => hl p (by omega) c)
                                refine g_il 6 dX5_parses_110 rfl ?_
                                refine g_il_n 3 dX5_parses_112 rfl ?_
                                refine gn_ge (tgt := 206) dX5_parses_113 (by decide) (by omega) (by omega) (fun h6 => ?_) (fun h6 => ?_)
                                · skip
                                  exfalso; omega
                                · skip
                                  refine g_al_n 0 dX5_parses_116 rfl ?_
                                  refine g_get (v := .ref (γ.2.2 28)) 8 12 (by decide) rfl in_X5_parses_5 rfl (by decide) (by decide +kernel) rfl rfl dX5_parses_117 ?_
                                  refine g_il_n 2 dX5_parses_120 rfl ?_
                                  refine g_il 6 dX5_parses_121 rfl ?_
                                  refine g_ci (r_S (st := [.ref (γ.2.2 28)]) (As := [.int (nI f), .int (nI (f + 1 + e))]) (d := 0) (c_X5_span l γ (va_up I 28 F4) L P f (f + 1 + e)) gX5_parses_X5_span rfl ⟨by decide, by decide, rfl⟩ ⟨Nat.le_of_ble_eq_true rfl, Nat.le_of_ble_eq_true rfl⟩ rfl (Nat.le_of_ble_eq_true rfl) dX5_parses_123 ⟨Nat.zero_le _, Nat.zero_le _⟩) ?_
                                  rintro rz2 Iz2 Lz2 ⟨ez2, eIz2, eLz2⟩
                                  rw [ez2, eIz2, eLz2]
                                  refine g_al_n 0 dX5_parses_126 rfl ?_
                                  refine g_get (v := .ref (γ.2.2 23)) 8 4 (by decide) rfl in_X5_parses_5 rfl (by decide) (by decide +kernel) rfl rfl dX5_parses_127 ?_
                                  refine g_il 5 dX5_parses_130 rfl ?_
                                  refine g_iald (v := nI (g 3 q)) 23 q (by decide) (by decide) (show _ < 8 by omega) (hM4.fst hqr) dX5_parses_132 ?_
                                  refine g_iadd (v := nI ((f * 7 + (f + 1 + e)) * 8 + (g 3 q))) dX5_parses_133 (nI_add _ _) ?_
                                  refine g_iald (v := nI (ch g r1 (lxw g x) f (f + 1 + e) (g 3 q))) 28 ((f * 7 + (f + 1 + e)) * 8 + (g 3 q)) (by decide) (by decide) (show _ < 336 by omega) (by rw [va_us, hO4 _ (by omega)]; exact hR (f + 1 + e) (by omega) (by omega) _ f8) dX5_parses_134 ?_
                                  refine g_is (lv' := [(7, .int (nI (ch g r1 (lxw g x) f (f + 1 + e) (g 3 q)))), (0, .ref (γ.2.2 8)), (1, .int (nI r1)), (2, .int (nI f)), (3, .int (nI (f + 1 + d))), (4, .int (nI ((f * 7 + (f + 1 + d)) * 8))), (5, .int (nI q)), (6, .int (nI (f + 1 + e)))]) dX5_parses_135 (by decide) rfl ?_
                                  refine g_al_n 1 dX5_parses_137 rfl ?_
                                  refine g_get (v := .ref (γ.2.2 28)) 8 12 (by decide) rfl in_X5_parses_5 rfl (by decide) (by decide +kernel) rfl rfl dX5_parses_138 ?_
                                  refine g_il 7 dX5_parses_141 rfl ?_
                                  refine g_il_n 4 dX5_parses_143 rfl ?_
                                  refine g_ci (r_S (st := [.ref (γ.2.2 28)]) (As := [.int (nI (f + 1 + e)), .int (nI (f + 1 + d))]) (d := 0) (c_X5_span l γ (va_up I 28 F4) L P (f + 1 + e) (f + 1 + d)) gX5_parses_X5_span rfl ⟨by decide, by decide, rfl⟩ ⟨Nat.le_of_ble_eq_true rfl, Nat.le_of_ble_eq_true rfl⟩ rfl (Nat.le_of_ble_eq_true rfl) dX5_parses_144 ⟨Nat.zero_le _, Nat.zero_le _⟩) ?_
                                  rintro rz3 Iz3 Lz3 ⟨ez3, eIz3, eLz3⟩
                                  rw [ez3, eIz3, eLz3]
                                  refine g_al_n 1 dX5_parses_147 rfl ?_
                                  refine g_get (v := .ref (γ.2.2 24)) 8 5 (by decide) rfl in_X5_parses_5 rfl (by decide) (by decide +kernel) rfl rfl dX5_parses_148 ?_
                                  refine g_il 6 dX5_parses_151 rfl ?_
                                  refine g_iald (v := nI (g 4 q)) 24 q (by decide) (by decide) (show _ < 8 by omega) (hM4.snd hqr) dX5_parses_153 ?_
                                  refine g_iadd (v := nI (((f + 1 + e) * 7 + (f + 1 + d)) * 8 + (g 4 q))) dX5_parses_154 (nI_add _ _) ?_
                                  refine g_iald (v := nI (ch g r1 (lxw g x) (f + 1 + e) (f + 1 + d) (g 4 q))) 28 (((f + 1 + e) * 7 + (f + 1 + d)) * 8 + (g 4 q)) (by decide) (by decide) (show _ < 336 by omega) (by rw [va_us, hO4 _ (by omega)]; exact hV (f + 1 + e) (f + 1 + d) (by omega) (by omega) (by omega) _ s8) dX5_parses_155 ?_
                                  refine g_is (lv' := [(8, .int (nI (ch g r1 (lxw g x) (f + 1 + e) (f + 1 + d) (g 4 q)))), (7, .int (nI (ch g r1 (lxw g x) f (f + 1 + e) (g 3 q)))), (0, .ref (γ.2.2 8)), (1, .int (nI r1)), (2, .int (nI f)), (3, .int (nI (f + 1 + d))), (4, .int (nI ((f * 7 + (f + 1 + d)) * 8))), (5, .int (nI q)), (6, .int (nI (f + 1 + e)))]) dX5_parses_156 (by decide) rfl ?_
                                  refine g_al_n 2 dX5_parses_158 rfl ?_
                                  refine g_get (v := .ref (γ.2.2 28)) 8 12 (by decide) rfl in_X5_parses_5 rfl (by decide) (by decide +kernel) rfl rfl dX5_parses_159 ?_
                                  refine g_il 6 dX5_parses_162 rfl ?_
                                  refine g_al_n 2 dX5_parses_164 rfl ?_
                                  refine g_get (v := .ref (γ.2.2 22)) 8 3 (by decide) rfl in_X5_parses_5 rfl (by decide) (by decide +kernel) rfl rfl dX5_parses_165 ?_
                                  refine g_il 7 dX5_parses_168 rfl ?_
                                  refine g_iald (v := nI (g 2 q)) 22 q (by decide) (by decide) (show _ < 8 by omega) (hM4.made hqr) dX5_parses_170 ?_
                                  refine g_iadd (v := nI ((f * 7 + (f + 1 + d)) * 8 + (g 2 q))) dX5_parses_171 (nI_add _ _) ?_
                                  refine g_dup2 dX5_parses_172 rfl rfl ?_
                                  refine g_iald (v := nI (mcur g r1 (lxw g x) f d (g 2 q) q ||| orf (fun e => mrow g r1 (lxw g x) f d e (g 2 q) q) e)) 28 ((f * 7 + (f + 1 + d)) * 8 + (g 2 q)) (by decide) (by decide) (show _ < 336 by omega) (by rw [va_us]; exact hF4 _ m8) dX5_parses_173 ?_
                                  refine g_il 1 dX5_parses_174 rfl ?_
                                  refine gz_eq (tgt := 184) dX5_parses_176 (by decide) (by omega) (fun h7 => ?_) (fun h7 => ?_)
                                  · skip
                                    have hz : ch g r1 (lxw g x) f (f + 1 + e) (g 3 q) = 0 ∨ ch g r1 (lxw g x) (f + 1 + e) (f + 1 + d) (g 4 q) = 0 := Or.inl h7
                                    refine g_ic (v := nI 0) dX5_parses_184 (by decide) ?_
                                    refine g_goto (tgt := 198) dX5_parses_185 (by decide) ?_
                                    refine g_ior (v := nI ((mcur g r1 (lxw g x) f d (g 2 q) q ||| orf (fun e => mrow g r1 (lxw g x) f d e (g 2 q) q) e) ||| 0)) dX5_parses_198 (nI_or _ _) ?_
                                    refine g_iast 28 ((f * 7 + (f + 1 + d)) * 8 + (g 2 q)) (by decide) (by decide) (show _ < 336 by omega) dX5_parses_199 ?_
                                    refine g_eq (I' := va_up I 28 (upd F4 ((f * 7 + (f + 1 + d)) * 8 + g 2 q) (nI ((mcur g r1 (lxw g x) f d (g 2 q) q ||| orf (fun e => mrow g r1 (lxw g x) f d e (g 2 q) q) e) ||| 0)))) (va_uw _ _ _ _ _) rfl ?_
                                    refine g_inc (v := nI (f + 1 + e + 1)) (lv' := [(6, .int (nI (f + 1 + e + 1))), (8, .int (nI (ch g r1 (lxw g x) (f + 1 + e) (f + 1 + d) (g 4 q)))), (7, .int (nI (ch g r1 (lxw g x) f (f + 1 + e) (g 3 q)))), (0, .ref (γ.2.2 8)), (1, .int (nI r1)), (2, .int (nI f)), (3, .int (nI (f + 1 + d))), (4, .int (nI ((f * 7 + (f + 1 + d)) * 8))), (5, .int (nI q))]) 8 dX5_parses_200 rfl (inc_1 _) (by decide) rfl ?_
                                    refine g_goto (tgt := 110) dX5_parses_203 (by decide) ?_
                                    refine g_sub [3, 4, 5, 6, 7, 8, 0] rfl ?_
                                    exact ih4 (e + 1) (upd F4 ((f * 7 + (f + 1 + d)) * 8 + g 2 q) (nI ((mcur g r1 (lxw g x) f d (g 2 q) q ||| orf (fun e => mrow g r1 (lxw g x) f d e (g 2 q) q) e) ||| 0))) (by omega) (fun c hc => by
                                      show _ = nI (mcur g r1 (lxw g x) f d c q ||| (orf (fun e => mrow g r1 (lxw g x) f d e c q) e ||| mrow g r1 (lxw g x) f d e c q))
                                      rw [show mrow g r1 (lxw g x) f d e c q = 0 from str_z hz c]
                                      by_cases ec : g 2 q = c
                                      · subst ec; rw [upd_s]; simp only [Nat.or_zero]
                                      · rw [upd_n _ _ (by omega)]; simp only [Nat.or_zero]; exact hF4 c hc) (fun j hj => by rw [upd_n _ _ (by omega)]; exact hO4 j hj)
                                  · skip
                                    refine g_il 0 dX5_parses_179 rfl ?_
                                    refine gz_ne (tgt := 188) dX5_parses_181 (by decide) (by omega) (fun h8 => ?_) (fun h8 => ?_)
                                    · skip
                                      refine g_al_n 2 dX5_parses_188 rfl ?_
                                      refine g_il 7 dX5_parses_189 rfl ?_
                                      refine g_il 1 dX5_parses_191 rfl ?_
                                      refine g_il 0 dX5_parses_193 rfl ?_
                                      refine g_ci (r_V (st := [.int (nI (mcur g r1 (lxw g x) f d (g 2 q) q ||| orf (fun e => mrow g r1 (lxw g x) f d e (g 2 q) q) e)), .int (nI ((f * 7 + (f + 1 + d)) * 8 + (g 2 q))), .ref (γ.2.2 28)]) (As := [.int (nI q), .int (nI (ch g r1 (lxw g x) f (f + 1 + e) (g 3 q))), .int (nI (ch g r1 (lxw g x) (f + 1 + e) (f + 1 + d) (g 4 q)))]) (d := 2) 8 (by decide) rfl rfl (c_X5_together l γ (va_up I 28 F4) L P g n r q (ch g r1 (lxw g x) f (f + 1 + e) (g 3 q)) (ch g r1 (lxw g x) (f + 1 + e) (f + 1 + d) (g 4 q)) hM4 hqr cl cr) gX5_parses_X5_together rfl ⟨rfl, by decide, by decide, rfl⟩ ⟨Nat.le_of_ble_eq_true rfl, Nat.le_of_ble_eq_true rfl⟩ rfl (Nat.le_of_ble_eq_true rfl) dX5_parses_195 ⟨Nat.zero_le _, Nat.zero_le _⟩) ?_
                                      rintro rz4 Iz4 Lz4 ⟨ez4, eIz4, eLz4⟩
                                      rw [ez4, eIz4, eLz4]
                                      refine g_ior (v := nI ((mcur g r1 (lxw g x) f d (g 2 q) q ||| orf (fun e => mrow g r1 (lxw g x) f d e (g 2 q) q) e) ||| pmk (g 5 q) (ch g r1 (lxw g x) f (f + 1 + e) (g 3 q)) (ch g r1 (lxw g x) (f + 1 + e) (f + 1 + d) (g 4 q)))) dX5_parses_198 (nI_or _ _) ?_
                                      refine g_iast 28 ((f * 7 + (f + 1 + d)) * 8 + (g 2 q)) (by decide) (by decide) (show _ < 336 by omega) dX5_parses_199 ?_
                                      refine g_eq (I' := va_up I 28 (upd F4 ((f * 7 + (f + 1 + d)) * 8 + g 2 q) (nI ((mcur g r1 (lxw g x) f d (g 2 q) q ||| orf (fun e => mrow g r1 (lxw g x) f d e (g 2 q) q) e) ||| pmk (g 5 q) (ch g r1 (lxw g x) f (f + 1 + e) (g 3 q)) (ch g r1 (lxw g x) (f + 1 + e) (f + 1 + d) (g 4 q)))))) (va_uw _ _ _ _ _) rfl ?_
                                      refine g_inc (v := nI (f + 1 + e + 1)) (lv' := [(6, .int (nI (f + 1 + e + 1))), (8, .int (nI (ch g r1 (lxw g x) (f + 1 + e) (f + 1 + d) (g 4 q)))), (7, .int (nI (ch g r1 (lxw g x) f (f + 1 + e) (g 3 q)))), (0, .ref (γ.2.2 8)), (1, .int (nI r1)), (2, .int (nI f)), (3, .int (nI (f + 1 + d))), (4, .int (nI ((f * 7 + (f + 1 + d)) * 8))), (5, .int (nI q))]) 8 dX5_parses_200 rfl (inc_1 _) (by decide) rfl ?_
                                      refine g_goto (tgt := 110) dX5_parses_203 (by decide) ?_
                                      refine g_sub [3, 4, 5, 6, 7, 8, 0] rfl ?_
                                      exact ih4 (e + 1) (upd F4 ((f * 7 + (f + 1 + d)) * 8 + g 2 q) (nI ((mcur g r1 (lxw g x) f d (g 2 q) q ||| orf (fun e => mrow g r1 (lxw g x) f d e (g 2 q) q) e) ||| pmk (g 5 q) (ch g r1 (lxw g x) f (f + 1 + e) (g 3 q)) (ch g r1 (lxw g x) (f + 1 + e) (f + 1 + d) (g 4 q))))) (by omega) (fun c hc => by
                                        show _ = nI (mcur g r1 (lxw g x) f d c q ||| (orf (fun e => mrow g r1 (lxw g x) f d e c q) e ||| mrow g r1 (lxw g x) f d e c q))
                                        by_cases ec : g 2 q = c
                                        · subst ec; rw [upd_s, show mrow g r1 (lxw g x) f d e (g 2 q) q = pmk (g 5 q) (ch g r1 (lxw g x) f (f + 1 + e) (g 3 q)) (ch g r1 (lxw g x) (f + 1 + e) (f + 1 + d) (g 4 q)) from str_eq rfl, Nat.or_assoc]
                                        · rw [upd_n _ _ (by omega), show mrow g r1 (lxw g x) f d e c q = 0 from str_ne ec]; simp only [Nat.or_zero]; exact hF4 c hc) (fun j hj => by rw [upd_n _ _ (by omega)]; exact hO4 j hj)
                                    · skip
                                      have hz : ch g r1 (lxw g x) f (f + 1 + e) (g 3 q) = 0 ∨ ch g r1 (lxw g x) (f + 1 + e) (f + 1 + d) (g 4 q) = 0 := Or.inr h8
                                      refine g_ic (v := nI 0) dX5_parses_184 (by decide) ?_
                                      refine g_goto (tgt := 198) dX5_parses_185 (by decide) ?_
                                      refine g_ior (v := nI ((mcur g r1 (lxw g x) f d (g 2 q) q ||| orf (fun e => mrow g r1 (lxw g x) f d e (g 2 q) q) e) ||| 0)) dX5_parses_198 (nI_or _ _) ?_
                                      refine g_iast 28 ((f * 7 + (f + 1 + d)) * 8 + (g 2 q)) (by decide) (by decide) (show _ < 336 by omega) dX5_parses_199 ?_
                                      refine g_eq (I' := va_up I 28 (upd F4 ((f * 7 + (f + 1 + d)) * 8 + g 2 q) (nI ((mcur g r1 (lxw g x) f d (g 2 q) q ||| orf (fun e => mrow g r1 (lxw g x) f d e (g 2 q) q) e) ||| 0)))) (va_uw _ _ _ _ _) rfl ?_
                                      refine g_inc (v := nI (f + 1 + e + 1)) (lv' := [(6, .int (nI (f + 1 + e + 1))), (8, .int (nI (ch g r1 (lxw g x) (f + 1 + e) (f + 1 + d) (g 4 q)))), (7, .int (nI (ch g r1 (lxw g x) f (f + 1 + e) (g 3 q)))), (0, .ref (γ.2.2 8)), (1, .int (nI r1)), (2, .int (nI f)), (3, .int (nI (f + 1 + d))), (4, .int (nI ((f * 7 + (f + 1 + d)) * 8))), (5, .int (nI q))]) 8 dX5_parses_200 rfl (inc_1 _) (by decide) rfl ?_
                                      refine g_goto (tgt := 110) dX5_parses_203 (by decide) ?_
                                      refine g_sub [3, 4, 5, 6, 7, 8, 0] rfl ?_
                                      exact ih4 (e + 1) (upd F4 ((f * 7 + (f + 1 + d)) * 8 + g 2 q) (nI ((mcur g r1 (lxw g x) f d (g 2 q) q ||| orf (fun e => mrow g r1 (lxw g x) f d e (g 2 q) q) e) ||| 0))) (by omega) (fun c hc => by
                                        show _ = nI (mcur g r1 (lxw g x) f d c q ||| (orf (fun e => mrow g r1 (lxw g x) f d e c q) e ||| mrow g r1 (lxw g x) f d e c q))
                                        rw [show mrow g r1 (lxw g x) f d e c q = 0 from str_z hz c]
                                        by_cases ec : g 2 q = c
                                        · subst ec; rw [upd_s]; simp only [Nat.or_zero]
                                        · rw [upd_n _ _ (by omega)]; simp only [Nat.or_zero]; exact hF4 c hc) (fun j hj => by rw [upd_n _ _ (by omega)]; exact hO4 j hj)
                            refine g_sub [1, 2, 3, 4, 5, 6, 0] rfl ?_
                            exact lp4 d 0 F3 (Nat.zero_add _) (fun c hc => by rw [hF3 c hc]; exact congrArg nI (Nat.or_zero _).symm) hO3
                      refine g_sub [1, 2, 3, 4, 5, 0] rfl ?_
                      exact lp3 r1 0 _ (Nat.zero_add _) (fun c hc => by
                        rw [mcur_0, if_neg (show d ≠ 0 by omega)]
                        exact hF1 c (by omega)) hO1
                    · skip
                      have hxn := hx2 f (by omega)
                      have c8 := hM.cat_lt hxn
                      have v16 := hM.val_lt hxn
                      refine g_al_n 0 dX5_parses_64 rfl ?_
                      refine g_get (v := .ref (γ.2.2 28)) 8 12 (by decide) rfl in_X5_parses_5 rfl (by decide) (by decide +kernel) rfl rfl dX5_parses_65 ?_
                      refine g_il 4 dX5_parses_68 rfl ?_
                      refine g_al_n 0 dX5_parses_70 rfl ?_
                      refine g_get (v := .ref (γ.2.2 20)) 8 0 (by decide) rfl in_X5_parses_5 rfl (by decide) (by decide +kernel) rfl rfl dX5_parses_71 ?_
                      refine g_al_n 0 dX5_parses_74 rfl ?_
                      refine g_get (v := .ref (γ.2.2 27)) 8 10 (by decide) rfl in_X5_parses_5 rfl (by decide) (by decide +kernel) rfl rfl dX5_parses_75 ?_
                      refine g_il_n 2 dX5_parses_78 rfl ?_
                      refine g_iald (v := nI (x f)) 27 f (by decide) (by decide) (show _ < 6 by omega) (hx f (by omega)) dX5_parses_79 ?_
                      refine g_iald (v := nI (g 0 (x f))) 20 (x f) (by decide) (by decide) (show _ < 9 by omega) (hM.cat hxn) dX5_parses_80 ?_
                      refine g_iadd (v := nI ((f * 7 + (f + 1 + d)) * 8 + (g 0 (x f)))) dX5_parses_81 (nI_add _ _) ?_
                      refine g_ic (v := nI 1) dX5_parses_82 (by decide) ?_
                      refine g_al_n 0 dX5_parses_83 rfl ?_
                      refine g_get (v := .ref (γ.2.2 21)) 8 1 (by decide) rfl in_X5_parses_5 rfl (by decide) (by decide +kernel) rfl rfl dX5_parses_84 ?_
                      refine g_al_n 0 dX5_parses_87 rfl ?_
                      refine g_get (v := .ref (γ.2.2 27)) 8 10 (by decide) rfl in_X5_parses_5 rfl (by decide) (by decide +kernel) rfl rfl dX5_parses_88 ?_
                      refine g_il_n 2 dX5_parses_91 rfl ?_
                      refine g_iald (v := nI (x f)) 27 f (by decide) (by decide) (show _ < 6 by omega) (hx f (by omega)) dX5_parses_92 ?_
                      refine g_iald (v := nI (g 1 (x f))) 21 (x f) (by decide) (by decide) (show _ < 9 by omega) (hM.val hxn) dX5_parses_93 ?_
                      refine g_ishl (v := nI (2 ^ g 1 (x f))) dX5_parses_94 (nI_shl (by omega)) ?_
                      refine g_iast 28 ((f * 7 + (f + 1 + d)) * 8 + (g 0 (x f))) (by decide) (by decide) (show _ < 336 by omega) dX5_parses_95 ?_
                      refine g_eq (I' := va_up I 28 (upd F1 ((f * 7 + (f + 1 + d)) * 8 + g 0 (x f)) (nI (2 ^ g 1 (x f))))) (va_uw _ _ _ _ _) rfl ?_
                      refine g_ic (v := nI 0) dX5_parses_96 (by decide) ?_
                      refine g_is (lv' := [(5, .int (nI 0)), (0, .ref (γ.2.2 8)), (1, .int (nI r1)), (2, .int (nI f)), (3, .int (nI (f + 1 + d))), (4, .int (nI ((f * 7 + (f + 1 + d)) * 8)))]) dX5_parses_97 (by decide) rfl ?_
                      have lp3 : ∀ (z3 : Nat) (q : Nat) (F3 : Nat → Int32) (hq : q + z3 = r1) (hF3 : ∀ c, c < 8 → F3 ((f * 7 + (f + 1 + d)) * 8 + c) = nI (mcur g r1 (lxw g x) f d c q)) (hO3 : ∀ j, (j < (f * 7 + (f + 1 + d)) * 8 ∨ (f * 7 + (f + 1 + d)) * 8 + 8 ≤ j) → F3 j = F j), G E0 l cX5_parses 9 wsX5_parses RX5 none (rmd 3) γ P (AE γ) (Qv γ P (fun I' L' => (∃ F : Nat → Int32, I' = va_up I 28 F ∧ CM F g r1 (lxw g x) 0 t) ∧ L' = L)) 0 0 99 [(0, .ref (γ.2.2 8)), (1, .int (nI r1)), (2, .int (nI f)), (3, .int (nI (f + 1 + d))), (4, .int (nI ((f * 7 + (f + 1 + d)) * 8))), (5, .int (nI q))] [] (va_up I 28 F3) L := by
                        intro z3
                        induction z3 with
                        | zero =>
                          intro q F3 hq hF3 hO3
                          simp only [Nat.add_zero] at hq
                          refine g_il 5 dX5_parses_99 rfl ?_
                          refine g_il_n 1 dX5_parses_101 rfl ?_
                          refine gn_ge (tgt := 212) dX5_parses_102 (by decide) (by omega) (by omega) (fun h5 => ?_) (fun h5 => ?_)
                          · skip
                            refine g_inc (v := nI (f + 1 + d + 1)) (lv' := [(3, .int (nI (f + 1 + d + 1))), (0, .ref (γ.2.2 8)), (1, .int (nI r1)), (2, .int (nI f)), (4, .int (nI ((f * 7 + (f + 1 + d)) * 8))), (5, .int (nI q))]) 3 dX5_parses_212 rfl (inc_1 _) (by decide) rfl ?_
                            refine g_goto (tgt := 15) dX5_parses_215 (by decide) ?_
                            refine g_sub [1, 2, 3, 0] rfl ?_
                            exact ih2 (d + 1) F3 (by omega) (fun i j h7 h8 h9 c hc => by rw [hO3 _ (by omega)]; exact hV i j h7 h8 h9 c hc) (fun j h7 h8 c hc => by
                              by_cases ej : j = f + 1 + d
                              · subst ej; rw [hF3 c hc, hq, mcur_all]
                              · rw [hO3 _ (by omega)]; exact hR j h7 (by omega) c hc)
                          · skip
                            exfalso; omega
                        | succ z3 ih3 =>
                          intro q F3 hq hF3 hO3
                          have hqr : q < r := by omega
                          have f8 := hM.fst_lt hqr
                          have s8 := hM.snd_lt hqr
                          have m8 := hM.made_lt hqr
                          refine g_il 5 dX5_parses_99 rfl ?_
                          refine g_il_n 1 dX5_parses_101 rfl ?_
                          refine gn_ge (tgt := 212) dX5_parses_102 (by decide) (by omega) (by omega) (fun h5 => ?_) (fun h5 => ?_)
                          · skip
                            exfalso; omega
                          · skip
                            refine g_il_n 2 dX5_parses_105 rfl ?_
                            refine g_ic (v := nI 1) dX5_parses_106 (by decide) ?_
                            refine g_iadd (v := nI (f + 1)) dX5_parses_107 (nI_add _ _) ?_
                            refine g_is (lv' := [(6, .int (nI (f + 1))), (0, .ref (γ.2.2 8)), (1, .int (nI r1)), (2, .int (nI f)), (3, .int (nI (f + 1 + d))), (4, .int (nI ((f * 7 + (f + 1 + d)) * 8))), (5, .int (nI q))]) dX5_parses_108 (by decide) rfl ?_
                            have lp4 : ∀ (z4 : Nat) (e : Nat) (F4 : Nat → Int32) (he : e + z4 = d) (hF4 : ∀ c, c < 8 → F4 ((f * 7 + (f + 1 + d)) * 8 + c) = nI (mcur g r1 (lxw g x) f d c q ||| orf (fun e => mrow g r1 (lxw g x) f d e c q) e)) (hO4 : ∀ j, (j < (f * 7 + (f + 1 + d)) * 8 ∨ (f * 7 + (f + 1 + d)) * 8 + 8 ≤ j) → F4 j = F j), G E0 l cX5_parses 9 wsX5_parses RX5 none (rmd 3) γ P (AE γ) (Qv γ P (fun I' L' => (∃ F : Nat → Int32, I' = va_up I 28 F ∧ CM F g r1 (lxw g x) 0 t) ∧ L' = L)) 0 0 110 [(0, .ref (γ.2.2 8)), (1, .int (nI r1)), (2, .int (nI f)), (3, .int (nI (f + 1 + d))), (4, .int (nI ((f * 7 + (f + 1 + d)) * 8))), (5, .int (nI q)), (6, .int (nI (f + 1 + e)))] [] (va_up I 28 F4) L := by
                              intro z4
                              induction z4 with
                              | zero =>
                                intro e F4 he hF4 hO4
                                simp only [Nat.add_zero] at he
                                refine g_il 6 dX5_parses_110 rfl ?_
                                refine g_il_n 3 dX5_parses_112 rfl ?_
                                refine gn_ge (tgt := 206) dX5_parses_113 (by decide) (by omega) (by omega) (fun h6 => ?_) (fun h6 => ?_)
                                · skip
                                  refine g_inc (v := nI (q + 1)) (lv' := [(5, .int (nI (q + 1))), (0, .ref (γ.2.2 8)), (1, .int (nI r1)), (2, .int (nI f)), (3, .int (nI (f + 1 + d))), (4, .int (nI ((f * 7 + (f + 1 + d)) * 8))), (6, .int (nI (f + 1 + e)))]) 5 dX5_parses_206 rfl (inc_1 _) (by decide) rfl ?_
                                  refine g_goto (tgt := 99) dX5_parses_209 (by decide) ?_
                                  refine g_sub [1, 2, 3, 4, 5, 0] rfl ?_
                                  exact ih3 (q + 1) F4 (by omega) (fun c hc => by rw [hF4 c hc, he, mcur_s]) hO4
                                · skip
                                  exfalso; omega
                              | succ z4 ih4 =>
                                intro e F4 he hF4 hO4
                                have hed : e < d := by omega
                                have hM4 := hG2 F4
                                have cl : ch g r1 (lxw g x) f (f + 1 + e) (g 3 q) < 2 ^ 16 := ch_lt16 (by omega) (fun p h1 h2 c => hl p (by omega) c)
                                have cr : ch g r1 (lxw g x) (f + 1 + e) (f + 1 + d) (g 4 q) < 2 ^ 16 := ch_lt16 (by omega) (fun p h1 h2 c => hl p (by omega) c)
                                refine g_il 6 dX5_parses_110 rfl ?_
                                refine g_il_n 3 dX5_parses_112 rfl ?_
                                refine gn_ge (tgt := 206) dX5_parses_113 (by decide) (by omega) (by omega) (fun h6 => ?_) (fun h6 => ?_)
                                · skip
                                  exfalso; omega
                                · skip
                                  refine g_al_n 0 dX5_parses_116 rfl ?_
                                  refine g_get (v := .ref (γ.2.2 28)) 8 12 (by decide) rfl in_X5_parses_5 rfl (by decide) (by decide +kernel) rfl rfl dX5_parses_117 ?_
                                  refine g_il_n 2 dX5_parses_120 rfl ?_
                                  refine g_il 6 dX5_parses_121 rfl ?_
                                  refine g_ci (r_S (st := [.ref (γ.2.2 28)]) (As := [.int (nI f), .int (nI (f + 1 + e))]) (d := 0) (c_X5_span l γ (va_up I 28 F4) L P f (f + 1 + e)) gX5_parses_X5_span rfl ⟨by decide, by decide, rfl⟩ ⟨Nat.le_of_ble_eq_true rfl, Nat.le_of_ble_eq_true rfl⟩ rfl (Nat.le_of_ble_eq_true rfl) dX5_parses_123 ⟨Nat.zero_le _, Nat.zero_le _⟩) ?_
                                  rintro rz5 Iz5 Lz5 ⟨ez5, eIz5, eLz5⟩
                                  rw [ez5, eIz5, eLz5]
                                  refine g_al_n 0 dX5_parses_126 rfl ?_
                                  refine g_get (v := .ref (γ.2.2 23)) 8 4 (by decide) rfl in_X5_parses_5 rfl (by decide) (by decide +kernel) rfl rfl dX5_parses_127 ?_
                                  refine g_il 5 dX5_parses_130 rfl ?_
                                  refine g_iald (v := nI (g 3 q)) 23 q (by decide) (by decide) (show _ < 8 by omega) (hM4.fst hqr) dX5_parses_132 ?_
                                  refine g_iadd (v := nI ((f * 7 + (f + 1 + e)) * 8 + (g 3 q))) dX5_parses_133 (nI_add _ _) ?_
                                  refine g_iald (v := nI (ch g r1 (lxw g x) f (f + 1 + e) (g 3 q))) 28 ((f * 7 + (f + 1 + e)) * 8 + (g 3 q)) (by decide) (by decide) (show _ < 336 by omega) (by rw [va_us, hO4 _ (by omega)]; exact hR (f + 1 + e) (by omega) (by omega) _ f8) dX5_parses_134 ?_
                                  refine g_is (lv' := [(7, .int (nI (ch g r1 (lxw g x) f (f + 1 + e) (g 3 q)))), (0, .ref (γ.2.2 8)), (1, .int (nI r1)), (2, .int (nI f)), (3, .int (nI (f + 1 + d))), (4, .int (nI ((f * 7 + (f + 1 + d)) * 8))), (5, .int (nI q)), (6, .int (nI (f + 1 + e)))]) dX5_parses_135 (by decide) rfl ?_
                                  refine g_al_n 1 dX5_parses_137 rfl ?_
                                  refine g_get (v := .ref (γ.2.2 28)) 8 12 (by decide) rfl in_X5_parses_5 rfl (by decide) (by decide +kernel) rfl rfl dX5_parses_138 ?_
                                  refine g_il 7 dX5_parses_141 rfl ?_
                                  refine g_il_n 4 dX5_parses_143 rfl ?_
                                  refine g_ci (r_S (st := [.ref (γ.2.2 28)]) (As := [.int (nI (f + 1 + e)), .int (nI (f + 1 + d))]) (d := 0) (c_X5_span l γ (va_up I 28 F4) L P (f + 1 + e) (f + 1 + d)) gX5_parses_X5_span rfl ⟨by decide, by decide, rfl⟩ ⟨Nat.le_of_ble_eq_true rfl, Nat.le_of_ble_eq_true rfl⟩ rfl (Nat.le_of_ble_eq_true rfl) dX5_parses_144 ⟨Nat.zero_le _, Nat.zero_le _⟩) ?_
                                  rintro rz6 Iz6 Lz6 ⟨ez6, eIz6, eLz6⟩
                                  rw [ez6, eIz6, eLz6]
                                  refine g_al_n 1 dX5_parses_147 rfl ?_
                                  refine g_get (v := .ref (γ.2.2 24)) 8 5 (by decide) rfl in_X5_parses_5 rfl (by decide) (by decide +kernel) rfl rfl dX5_parses_148 ?_
                                  refine g_il 6 dX5_parses_151 rfl ?_
                                  refine g_iald (v := nI (g 4 q)) 24 q (by decide) (by decide) (show _ < 8 by omega) (hM4.snd hqr) dX5_parses_153 ?_
                                  refine g_iadd (v := nI (((f + 1 + e) * 7 + (f + 1 + d)) * 8 + (g 4 q))) dX5_parses_154 (nI_add _ _) ?_
                                  refine g_iald (v := nI (ch g r1 (lxw g x) (f + 1 + e) (f + 1 + d) (g 4 q))) 28 (((f + 1 + e) * 7 + (f + 1 + d)) * 8 + (g 4 q)) (by decide) (by decide) (show _ < 336 by omega) (by rw [va_us, hO4 _ (by omega)]; exact hV (f + 1 + e) (f + 1 + d) (by omega) (by omega) (by omega) _ s8) dX5_parses_155 ?_
                                  refine g_is (lv' := [(8, .int (nI (ch g r1 (lxw g x) (f + 1 + e) (f + 1 + d) (g 4 q)))), (7, .int (nI (ch g r1 (lxw g x) f (f + 1 + e) (g 3 q)))), (0, .ref (γ.2.2 8)), (1, .int (nI r1)), (2, .int (nI f)), (3, .int (nI (f + 1 + d))), (4, .int (nI ((f * 7 + (f + 1 + d)) * 8))), (5, .int (nI q)), (6, .int (nI (f + 1 + e)))]) dX5_parses_156 (by decide) rfl ?_
                                  refine g_al_n 2 dX5_parses_158 rfl ?_
                                  refine g_get (v := .ref (γ.2.2 28)) 8 12 (by decide) rfl in_X5_parses_5 rfl (by decide) (by decide +kernel) rfl rfl dX5_parses_159 ?_
                                  refine g_il 6 dX5_parses_162 rfl ?_
                                  refine g_al_n 2 dX5_parses_164 rfl ?_
                                  refine g_get (v := .ref (γ.2.2 22)) 8 3 (by decide) rfl in_X5_parses_5 rfl (by decide) (by decide +kernel) rfl rfl dX5_parses_165 ?_
                                  refine g_il 7 dX5_parses_168 rfl ?_
                                  refine g_iald (v := nI (g 2 q)) 22 q (by decide) (by decide) (show _ < 8 by omega) (hM4.made hqr) dX5_parses_170 ?_
                                  refine g_iadd (v := nI ((f * 7 + (f + 1 + d)) * 8 + (g 2 q))) dX5_parses_171 (nI_add _ _) ?_
                                  refine g_dup2 dX5_parses_172 rfl rfl ?_
                                  refine g_iald (v := nI (mcur g r1 (lxw g x) f d (g 2 q) q ||| orf (fun e => mrow g r1 (lxw g x) f d e (g 2 q) q) e)) 28 ((f * 7 + (f + 1 + d)) * 8 + (g 2 q)) (by decide) (by decide) (show _ < 336 by omega) (by rw [va_us]; exact hF4 _ m8) dX5_parses_173 ?_
                                  refine g_il 1 dX5_parses_174 rfl ?_
                                  refine gz_eq (tgt := 184) dX5_parses_176 (by decide) (by omega) (fun h7 => ?_) (fun h7 => ?_)
                                  · skip
                                    have hz : ch g r1 (lxw g x) f (f + 1 + e) (g 3 q) = 0 ∨ ch g r1 (lxw g x) (f + 1 + e) (f + 1 + d) (g 4 q) = 0 := Or.inl h7
                                    refine g_ic (v := nI 0) dX5_parses_184 (by decide) ?_
                                    refine g_goto (tgt := 198) dX5_parses_185 (by decide) ?_
                                    refine g_ior (v := nI ((mcur g r1 (lxw g x) f d (g 2 q) q ||| orf (fun e => mrow g r1 (lxw g x) f d e (g 2 q) q) e) ||| 0)) dX5_parses_198 (nI_or _ _) ?_
                                    refine g_iast 28 ((f * 7 + (f + 1 + d)) * 8 + (g 2 q)) (by decide) (by decide) (show _ < 336 by omega) dX5_parses_199 ?_
                                    refine g_eq (I' := va_up I 28 (upd F4 ((f * 7 + (f + 1 + d)) * 8 + g 2 q) (nI ((mcur g r1 (lxw g x) f d (g 2 q) q ||| orf (fun e => mrow g r1 (lxw g x) f d e (g 2 q) q) e) ||| 0)))) (va_uw _ _ _ _ _) rfl ?_
                                    refine g_inc (v := nI (f + 1 + e + 1)) (lv' := [(6, .int (nI (f + 1 + e + 1))), (8, .int (nI (ch g r1 (lxw g x) (f + 1 + e) (f + 1 + d) (g 4 q)))), (7, .int (nI (ch g r1 (lxw g x) f (f + 1 + e) (g 3 q)))), (0, .ref (γ.2.2 8)), (1, .int (nI r1)), (2, .int (nI f)), (3, .int (nI (f + 1 + d))), (4, .int (nI ((f * 7 + (f + 1 + d)) * 8))), (5, .int (nI q))]) 8 dX5_parses_200 rfl (inc_1 _) (by decide) rfl ?_
                                    refine g_goto (tgt := 110) dX5_parses_203 (by decide) ?_
                                    refine g_sub [3, 4, 5, 6, 7, 8, 0] rfl ?_
                                    exact ih4 (e + 1) (upd F4 ((f * 7 + (f + 1 + d)) * 8 + g 2 q) (nI ((mcur g r1 (lxw g x) f d (g 2 q) q ||| orf (fun e => mrow g r1 (lxw g x) f d e (g 2 q) q) e) ||| 0))) (by omega) (fun c hc => by
                                      show _ = nI (mcur g r1 (lxw g x) f d c q ||| (orf (fun e => mrow g r1 (lxw g x) f d e c q) e ||| mrow g r1 (lxw g x) f d e c q))
                                      rw [show mrow g r1 (lxw g x) f d e c q = 0 from str_z hz c]
                                      by_cases ec : g 2 q = c
                                      · subst ec; rw [upd_s]; simp only [Nat.or_zero]
                                      · rw [upd_n _ _ (by omega)]; simp only [Nat.or_zero]; exact hF4 c hc) (fun j hj => by rw [upd_n _ _ (by omega)]; exact hO4 j hj)
                                  · skip
                                    refine g_il 0 dX5_parses_179 rfl ?_
                                    refine gz_ne (tgt := 188) dX5_parses_181 (by decide) (by omega) (fun h8 => ?_) (fun h8 => ?_)
                                    · skip
                                      refine g_al_n 2 dX5_parses_188 rfl ?_
                                      refine g_il 7 dX5_parses_189 rfl ?_
                                      refine g_il 1 dX5_parses_191 rfl ?_
                                      refine g_il 0 dX5_parses_193 rfl ?_
                                      refine g_ci (r_V (st := [.int (nI (mcur g r1 (lxw g x) f d (g 2 q) q ||| orf (fun e => mrow g r1 (lxw g x) f d e (g 2 q) q) e)), .int (nI ((f * 7 + (f + 1 + d)) * 8 + (g 2 q))), .ref (γ.2.2 28)]) (As := [.int (nI q), .int (nI (ch g r1 (lxw g x) f (f + 1 + e) (g 3 q))), .int (nI (ch g r1 (lxw g x) (f + 1 + e) (f + 1 + d) (g 4 q)))]) (d := 2) 8 (by decide) rfl rfl (c_X5_together l γ (va_up I 28 F4) L P g n r q (ch g r1 (lxw g x) f (f + 1 + e) (g 3 q)) (ch g r1 (lxw g x) (f + 1 + e) (f + 1 + d) (g 4 q)) hM4 hqr cl cr) gX5_parses_X5_together rfl ⟨rfl, by decide, by decide, rfl⟩ ⟨Nat.le_of_ble_eq_true rfl, Nat.le_of_ble_eq_true rfl⟩ rfl (Nat.le_of_ble_eq_true rfl) dX5_parses_195 ⟨Nat.zero_le _, Nat.zero_le _⟩) ?_
                                      rintro rz7 Iz7 Lz7 ⟨ez7, eIz7, eLz7⟩
                                      rw [ez7, eIz7, eLz7]
                                      refine g_ior (v := nI ((mcur g r1 (lxw g x) f d (g 2 q) q ||| orf (fun e => mrow g r1 (lxw g x) f d e (g 2 q) q) e) ||| pmk (g 5 q) (ch g r1 (lxw g x) f (f + 1 + e) (g 3 q)) (ch g r1 (lxw g x) (f + 1 + e) (f + 1 + d) (g 4 q)))) dX5_parses_198 (nI_or _ _) ?_
                                      refine g_iast 28 ((f * 7 + (f + 1 + d)) * 8 + (g 2 q)) (by decide) (by decide) (show _ < 336 by omega) dX5_parses_199 ?_
                                      refine g_eq (I' := va_up I 28 (upd F4 ((f * 7 + (f + 1 + d)) * 8 + g 2 q) (nI ((mcur g r1 (lxw g x) f d (g 2 q) q ||| orf (fun e => mrow g r1 (lxw g x) f d e (g 2 q) q) e) ||| pmk (g 5 q) (ch g r1 (lxw g x) f (f + 1 + e) (g 3 q)) (ch g r1 (lxw g x) (f + 1 + e) (f + 1 + d) (g 4 q)))))) (va_uw _ _ _ _ _) rfl ?_
                                      refine g_inc (v := nI (f + 1 + e + 1)) (lv' := [(6, .int (nI (f + 1 + e + 1))), (8, .int (nI (ch g r1 (lxw g x) (f + 1 + e) (f + 1 + d) (g 4 q)))), (7, .int (nI (ch g r1 (lxw g x) f (f + 1 + e) (g 3 q)))), (0, .ref (γ.2.2 8)), (1, .int (nI r1)), (2, .int (nI f)), (3, .int (nI (f + 1 + d))), (4, .int (nI ((f * 7 + (f + 1 + d)) * 8))), (5, .int (nI q))]) 8 dX5_parses_200 rfl (inc_1 _) (by decide) rfl ?_
                                      refine g_goto (tgt := 110) dX5_parses_203 (by decide) ?_
                                      refine g_sub [3, 4, 5, 6, 7, 8, 0] rfl ?_
                                      exact ih4 (e + 1) (upd F4 ((f * 7 + (f + 1 + d)) * 8 + g 2 q) (nI ((mcur g r1 (lxw g x) f d (g 2 q) q ||| orf (fun e => mrow g r1 (lxw g x) f d e (g 2 q) q) e) ||| pmk (g 5 q) (ch g r1 (lxw g x) f (f + 1 + e) (g 3 q)) (ch g r1 (lxw g x) (f + 1 + e) (f + 1 + d) (g 4 q))))) (by omega) (fun c hc => by
                                        show _ = nI (mcur g r1 (lxw g x) f d c q ||| (orf (fun e => mrow g r1 (lxw g x) f d e c q) e ||| mrow g r1 (lxw g x) f d e c q))
                                        by_cases ec : g 2 q = c
                                        · subst ec; rw [upd_s, show mrow g r1 (lxw g x) f d e (g 2 q) q = pmk (g 5 q) (ch g r1 (lxw g x) f (f + 1 + e) (g 3 q)) (ch g r1 (lxw g x) (f + 1 + e) (f + 1 + d) (g 4 q)) from str_eq rfl, Nat.or_assoc]
                                        · rw [upd_n _ _ (by omega), show mrow g r1 (lxw g x) f d e c q = 0 from str_ne ec]; simp only [Nat.or_zero]; exact hF4 c hc) (fun j hj => by rw [upd_n _ _ (by omega)]; exact hO4 j hj)
                                    · skip
                                      have hz : ch g r1 (lxw g x) f (f + 1 + e) (g 3 q) = 0 ∨ ch g r1 (lxw g x) (f + 1 + e) (f + 1 + d) (g 4 q) = 0 := Or.inr h8
                                      refine g_ic (v := nI 0) dX5_parses_184 (by decide) ?_
                                      refine g_goto (tgt := 198) dX5_parses_185 (by decide) ?_
                                      refine g_ior (v := nI ((mcur g r1 (lxw g x) f d (g 2 q) q ||| orf (fun e => mrow g r1 (lxw g x) f d e (g 2 q) q) e) ||| 0)) dX5_parses_198 (nI_or _ _) ?_
                                      refine g_iast 28 ((f * 7 + (f + 1 + d)) * 8 + (g 2 q)) (by decide) (by decide) (show _ < 336 by omega) dX5_parses_199 ?_
                                      refine g_eq (I' := va_up I 28 (upd F4 ((f * 7 + (f + 1 + d)) * 8 + g 2 q) (nI ((mcur g r1 (lxw g x) f d (g 2 q) q ||| orf (fun e => mrow g r1 (lxw g x) f d e (g 2 q) q) e) ||| 0)))) (va_uw _ _ _ _ _) rfl ?_
                                      refine g_inc (v := nI (f + 1 + e + 1)) (lv' := [(6, .int (nI (f + 1 + e + 1))), (8, .int (nI (ch g r1 (lxw g x) (f + 1 + e) (f + 1 + d) (g 4 q)))), (7, .int (nI (ch g r1 (lxw g x) f (f + 1 + e) (g 3 q)))), (0, .ref (γ.2.2 8)), (1, .int (nI r1)), (2, .int (nI f)), (3, .int (nI (f + 1 + d))), (4, .int (nI ((f * 7 + (f + 1 + d)) * 8))), (5, .int (nI q))]) 8 dX5_parses_200 rfl (inc_1 _) (by decide) rfl ?_
                                      refine g_goto (tgt := 110) dX5_parses_203 (by decide) ?_
                                      refine g_sub [3, 4, 5, 6, 7, 8, 0] rfl ?_
                                      exact ih4 (e + 1) (upd F4 ((f * 7 + (f + 1 + d)) * 8 + g 2 q) (nI ((mcur g r1 (lxw g x) f d (g 2 q) q ||| orf (fun e => mrow g r1 (lxw g x) f d e (g 2 q) q) e) ||| 0))) (by omega) (fun c hc => by
                                        show _ = nI (mcur g r1 (lxw g x) f d c q ||| (orf (fun e => mrow g r1 (lxw g x) f d e c q) e ||| mrow g r1 (lxw g x) f d e c q))
                                        rw [show mrow g r1 (lxw g x) f d e c q = 0 from str_z hz c]
                                        by_cases ec : g 2 q = c
                                        · subst ec; rw [upd_s]; simp only [Nat.or_zero]
                                        · rw [upd_n _ _ (by omega)]; simp only [Nat.or_zero]; exact hF4 c hc) (fun j hj => by rw [upd_n _ _ (by omega)]; exact hO4 j hj)
                            refine g_sub [1, 2, 3, 4, 5, 6, 0] rfl ?_
                            exact lp4 d 0 F3 (Nat.zero_add _) (fun c hc => by rw [hF3 c hc]; exact congrArg nI (Nat.or_zero _).symm) hO3
                      refine g_sub [1, 2, 3, 4, 5, 0] rfl ?_
                      exact lp3 r1 0 _ (Nat.zero_add _) (fun c hc => by
                        rw [mcur_0, if_pos (show d = 0 by omega)]
                        by_cases ec : c = g 0 (x f)
                        · subst ec; rw [upd_s]; simp [lxw, wset]
                        · rw [upd_n _ _ (by omega), hF1 c (by omega)]; simp [lxw, wset, Ne.symm ec]) (fun j hj => by rw [upd_n _ _ (by omega)]; exact hO1 j hj)
                  · skip
                    exfalso; omega
                | succ z1 ih1 =>
                  intro k F1 hk hF1 hO1
                  refine g_il 5 dX5_parses_33 rfl ?_
                  refine g_bi (v := nI 8) dX5_parses_35 (by decide) ?_
                  refine gn_ge (tgt := 57) dX5_parses_37 (by decide) (by omega) (by omega) (fun h3 => ?_) (fun h3 => ?_)
                  · skip
                    exfalso; omega
                  · skip
                    refine g_al_n 0 dX5_parses_40 rfl ?_
                    refine g_get (v := .ref (γ.2.2 28)) 8 12 (by decide) rfl in_X5_parses_5 rfl (by decide) (by decide +kernel) rfl rfl dX5_parses_41 ?_
                    refine g_il 4 dX5_parses_44 rfl ?_
                    refine g_il 5 dX5_parses_46 rfl ?_
                    refine g_iadd (v := nI ((f * 7 + (f + 1 + d)) * 8 + k)) dX5_parses_48 (nI_add _ _) ?_
                    refine g_ic (v := nI 0) dX5_parses_49 (by decide) ?_
                    refine g_iast 28 ((f * 7 + (f + 1 + d)) * 8 + k) (by decide) (by decide) (show _ < 336 by omega) dX5_parses_50 ?_
                    refine g_eq (I' := va_up I 28 (upd F1 ((f * 7 + (f + 1 + d)) * 8 + k) (nI 0))) (va_uw _ _ _ _ _) rfl ?_
                    refine g_inc (v := nI (k + 1)) (lv' := [(5, .int (nI (k + 1))), (0, .ref (γ.2.2 8)), (1, .int (nI r1)), (2, .int (nI f)), (3, .int (nI (f + 1 + d))), (4, .int (nI ((f * 7 + (f + 1 + d)) * 8)))]) 5 dX5_parses_51 rfl (inc_1 _) (by decide) rfl ?_
                    refine g_goto (tgt := 33) dX5_parses_54 (by decide) ?_
                    refine g_sub [1, 2, 3, 4, 5, 0] rfl ?_
                    exact ih1 (k + 1) (upd F1 ((f * 7 + (f + 1 + d)) * 8 + k) (nI 0)) (by omega) (fun c hc => by
                      by_cases ec : c = k
                      · subst ec; exact upd_s _ _ _
                      · rw [upd_n _ _ (by omega)]; exact hF1 c (by omega)) (fun j hj => by rw [upd_n _ _ (by omega)]; exact hO1 j hj)
              refine g_sub [2, 3, 4, 5, 1, 0] rfl ?_
              exact lp1 8 0 F rfl (fun c hc => by omega) (fun _ _ => rfl)
        refine g_sub [1, 2, 3, 0] rfl ?_
        exact lp2 (t - f) 0 F (Nat.zero_add _) hV (fun j h1 h2 => by omega)
  refine g_sub [1, 2, 0] rfl ?_
  refine g_eq (I' := va_up I 28 (I 28)) (va_id _ _).symm rfl ?_
  exact lp t (I 28) (Nat.le_refl _) (fun i j h7 h8 h9 => by omega)

theorem in_X5_isSentence_5 : ∀ w ∈ wsX50, w ∈ wsX5_isSentence := by decide +kernel
set_option maxRecDepth 100000 in
set_option maxHeartbeats 4000000 in
theorem c_X5_isSentence (l : Launch) (γ : Gm) (I : IT) (L : LT) (P : PT) (g : GR) (n r9 t : Nat) (x : Nat → Nat) (hM : MG I g n r9) (ht : I 8 3 = nI t) (ht6 : t ≤ 6) (hx : ∀ p, p < t → I 27 p = nI (x p)) (hx2 : ∀ p, p < t → x p < n) : Ci l yX5_isSentence wsX5_isSentence 4 γ [.ref (γ.2.2 8)] I L P (fun r I' L' => r = bi (decide (0 < t ∧ ch g r9 (lxw g x) 0 t 0 ≠ 0)) ∧ (∃ F : Nat → Int32, I' = va_up I 28 F) ∧ L' = L) := by
  refine Ci_of (own := RX5) (cc := cX5_isSentence) (maxL := 1) (by decide) rfl rfl (Nat.le_of_ble_eq_true rfl) ?_
  refine g_sub (lv' := [(0, .ref (γ.2.2 8))]) [0] rfl ?_
  refine g_al_n 0 dX5_isSentence_0 rfl ?_
  refine g_al_n 0 dX5_isSentence_1 rfl ?_
  refine g_get 8 7 (by decide) rfl in_X5_isSentence_5 rfl (by decide) (by decide +kernel) rfl rfl dX5_isSentence_2 ?_
  refine g_top (v := nI r9) (hM.cr) ?_
  refine g_cv (r_V (st := []) (As := [.int (nI r9)]) (d := 3) 8 (by decide) rfl rfl (c_X5_parses l γ I L P g n r9 r9 t x hM (Nat.le_refl _) ht ht6 hx hx2) gX5_isSentence_X5_parses rfl ⟨rfl, by decide, by decide, rfl⟩ ⟨Nat.le_of_ble_eq_true rfl, Nat.le_of_ble_eq_true rfl⟩ rfl (Nat.le_of_ble_eq_true rfl) dX5_isSentence_5 ⟨Nat.zero_le _, Nat.zero_le _⟩) ?_
  rintro Iz1 Lz1 ⟨⟨F, eIz1, hF⟩, eLz1⟩
  rw [eIz1, eLz1]
  refine g_al_n 0 dX5_isSentence_8 rfl ?_
  refine g_get 8 11 (by decide) rfl in_X5_isSentence_5 rfl (by decide) (by decide +kernel) rfl rfl dX5_isSentence_9 ?_
  refine g_top (v := nI t) (ht) ?_
  refine gz_le (tgt := 35) dX5_isSentence_12 (by decide) (by omega) (fun h1 => ?_) (fun h1 => ?_)
  · skip
    refine g_ic (v := nI 0) dX5_isSentence_35 (by decide) ?_
    refine g_top (v := bi (decide (0 < t ∧ ch g r9 (lxw g x) 0 t 0 ≠ 0))) (bi_0 (decide_eq_false (by omega))) ?_
    exact g_zret (bi_nar _) dX5_isSentence_36 (⟨rfl, ⟨F, rfl⟩, rfl⟩)
  · skip
    refine g_al_n 0 dX5_isSentence_15 rfl ?_
    refine g_get (v := .ref (γ.2.2 28)) 8 12 (by decide) rfl in_X5_isSentence_5 rfl (by decide) (by decide +kernel) rfl rfl dX5_isSentence_16 ?_
    refine g_ic (v := nI 0) dX5_isSentence_19 (by decide) ?_
    refine g_al_n 0 dX5_isSentence_20 rfl ?_
    refine g_get 8 11 (by decide) rfl in_X5_isSentence_5 rfl (by decide) (by decide +kernel) rfl rfl dX5_isSentence_21 ?_
    refine g_top (v := nI t) (ht) ?_
    refine g_ci (r_S (st := [.ref (γ.2.2 28)]) (As := [.int (nI 0), .int (nI t)]) (d := 0) (c_X5_span l γ (va_up I 28 F) L P 0 t) gX5_isSentence_X5_span rfl ⟨by decide, by decide, rfl⟩ ⟨Nat.le_of_ble_eq_true rfl, Nat.le_of_ble_eq_true rfl⟩ rfl (Nat.le_of_ble_eq_true rfl) dX5_isSentence_24 ⟨Nat.zero_le _, Nat.zero_le _⟩) ?_
    rintro rz2 Iz2 Lz2 ⟨ez2, eIz2, eLz2⟩
    rw [ez2, eIz2, eLz2]
    refine g_iald (v := nI (ch g r9 (lxw g x) 0 t 0)) 28 ((0 * 7 + t) * 8) (by decide) (by decide) (show _ < 336 by omega) (by rw [va_us]; exact hF 0 t (Nat.zero_le _) h1 (Nat.le_refl _) 0 (by decide)) dX5_isSentence_27 ?_
    refine gz_eq (tgt := 35) dX5_isSentence_28 (by decide) (Nat.lt_trans (ch_lt16 h1 (fun p _ hp c => wset_lt (hM.val_lt (hx2 p hp)))) (by decide)) (fun h2 => ?_) (fun h2 => ?_)
    · skip
      refine g_ic (v := nI 0) dX5_isSentence_35 (by decide) ?_
      refine g_top (v := bi (decide (0 < t ∧ ch g r9 (lxw g x) 0 t 0 ≠ 0))) (bi_0 (decide_eq_false (by omega))) ?_
      exact g_zret (bi_nar _) dX5_isSentence_36 (⟨rfl, ⟨F, rfl⟩, rfl⟩)
    · skip
      refine g_ic (v := nI 1) dX5_isSentence_31 (by decide) ?_
      refine g_goto (tgt := 36) dX5_isSentence_32 (by decide) ?_
      refine g_top (v := bi (decide (0 < t ∧ ch g r9 (lxw g x) 0 t 0 ≠ 0))) (bi_1 (decide_eq_true ⟨h1, h2⟩)) ?_
      exact g_zret (bi_nar _) dX5_isSentence_36 (⟨rfl, ⟨F, rfl⟩, rfl⟩)
