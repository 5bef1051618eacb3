/-! the model's numbers of readings -/
def nrow (g : GR) (r : Nat) (x : Nat → Nat) (f d e c v q : Nat) : Nat := ctr g (ct g r x f (f + 1 + e)) (ct g r x (f + 1 + e) (f + 1 + d)) c v q
def ncur (g : GR) (r : Nat) (x : Nat → Nat) (f d c v q : Nat) : Nat := (if d = 0 then wcnt g (x f) c v else 0) + sm (fun q => sm (fun e => nrow g r x f d e c v q) d) q
theorem ncur_all (g : GR) (r : Nat) (x : Nat → Nat) (f d c v : Nat) : ncur g r x f d c v r = ct g r x f (f + 1 + d) c v := by
  unfold ncur
  by_cases h : d = 0
  · subst h
    have e : sm (fun q => sm (fun e => nrow g r x f 0 e c v q) 0) r = 0 := sm_zero (fun _ _ => rfl)
    rw [if_pos rfl, e, Nat.add_zero]
    exact (ct_one g r x f c v).symm
  · rw [if_neg h, Nat.zero_add, ct_more g r x c v (show f + 1 < f + 1 + d by omega), show f + 1 + d - f - 1 = d by omega, sm_comm (fun q e => nrow g r x f d e c v q)]
    rfl
theorem ncur_0 (g : GR) (r : Nat) (x : Nat → Nat) (f d c v : Nat) : ncur g r x f d c v 0 = if d = 0 then wcnt g (x f) c v else 0 := Nat.add_zero _
theorem ncur_s (g : GR) (r : Nat) (x : Nat → Nat) (f d c v q : Nat) : ncur g r x f d c v q + sm (fun e => nrow g r x f d e c v q) d = ncur g r x f d c v (q + 1) := by
  unfold ncur
  rw [Nat.add_assoc]
  rfl
theorem nrow_eq {g : GR} {r : Nat} {x : Nat → Nat} {f d e c v q : Nat} (h : g 2 q = c) : nrow g r x f d e c v q = sm (cj2 (g 5 q) (ct g r x f (f + 1 + e) (g 3 q)) (ct g r x (f + 1 + e) (f + 1 + d) (g 4 q)) v) 16 := if_pos h
theorem nrow_ne {g : GR} {r : Nat} {x : Nat → Nat} {f d e c v q : Nat} (h : g 2 q ≠ c) : nrow g r x f d e c v q = 0 := if_neg h
def CN (F : Nat → Int64) (g : GR) (r : Nat) (x : Nat → Nat) (f t : Nat) : Prop := ∀ i j, f ≤ i → i < j → j ≤ t → ∀ c, c < 8 → ∀ v, v < 16 → F (16 * ((i * 7 + j) * 8) + 16 * c + v) = lN (ct g r x i j c v)

theorem in_X5_adds_5 : ∀ w ∈ wsX50, w ∈ wsX5_adds := by decide +kernel
set_option maxRecDepth 100000 in
set_option maxHeartbeats 4000000 in
theorem c_X5_adds (l : Launch) (γ : Gm) (I : IT) (L : LT) (P : PT) (g : GR) (n r q o1 o2 o3 : Nat) (A B C : Nat → Nat) (hM : MG I g n r) (hq : q < r) (h1 : o1 + 16 ≤ 5376) (h2 : o2 + 16 ≤ 5376) (h3 : o3 + 16 ≤ 5376) (d1 : o1 + 16 ≤ o3 ∨ o3 + 16 ≤ o1) (d2 : o2 + 16 ≤ o3 ∨ o3 + 16 ≤ o2) (hA : ∀ v, v < 16 → L 9 (o1 + v) = lN (A v) ∧ A v < 2 ^ 31) (hB : ∀ v, v < 16 → L 9 (o2 + v) = lN (B v) ∧ B v < 2 ^ 31) (hC : ∀ v, v < 16 → L 9 (o3 + v) = lN (C v)) : Cv l yX5_adds wsX5_adds 2 γ [.ref (γ.2.2 8), .int (nI q), .int (nI o3), .int (nI o1), .int (nI o2)] I L P (fun I' L' => I' = I ∧ ∃ F : Nat → Int64, L' = va_up L 9 F ∧ (∀ v, v < 16 → F (o3 + v) = lN (C v + sm (cj2 (g 5 q) A B v) 16)) ∧ ∀ j, (j < o3 ∨ o3 + 16 ≤ j) → F j = L 9 j) := by
  refine Cv_of (own := RX5) (cc := cX5_adds) (maxL := 8) (by decide) rfl rfl (Nat.le_of_ble_eq_true rfl) ?_
  refine g_sub (lv' := [(0, .ref (γ.2.2 8)), (1, .int (nI q)), (2, .int (nI o3)), (3, .int (nI o1)), (4, .int (nI o2))]) [0, 1, 2, 3, 4] rfl ?_
  refine g_ic (v := nI 0) dX5_adds_0 (by decide) ?_
  refine g_is (lv' := [(5, .int (nI 0)), (0, .ref (γ.2.2 8)), (1, .int (nI q)), (2, .int (nI o3)), (3, .int (nI o1)), (4, .int (nI o2))]) dX5_adds_1 (by decide) rfl ?_
  have lp : ∀ (z : Nat) (a : Nat) (F : Nat → Int64) (ha : a + z = 16) (hF : ∀ v, v < 16 → F (o3 + v) = lN (C v + sm (cj2 (g 5 q) A B v) a)) (hO : ∀ j, (j < o3 ∨ o3 + 16 ≤ j) → F j = L 9 j), G E0 l cX5_adds 8 wsX5_adds RX5 none (rmd 2) γ P (AE γ) (Qv γ P (fun I' L' => I' = I ∧ ∃ F : Nat → Int64, L' = va_up L 9 F ∧ (∀ v, v < 16 → F (o3 + v) = lN (C v + sm (cj2 (g 5 q) A B v) 16)) ∧ ∀ j, (j < o3 ∨ o3 + 16 ≤ j) → F j = L 9 j)) 0 0 3 [(0, .ref (γ.2.2 8)), (1, .int (nI q)), (2, .int (nI o3)), (3, .int (nI o1)), (4, .int (nI o2)), (5, .int (nI a))] [] I (va_up L 9 F) := by
    intro z
    induction z with
    | zero =>
      intro a F ha hF hO
      simp only [Nat.add_zero] at ha
      refine g_il 5 dX5_adds_3 rfl ?_
      refine g_bi (v := nI 16) dX5_adds_5 (by decide) ?_
      refine gn_ge (tgt := 113) dX5_adds_7 (by decide) (by omega) (by omega) (fun h1 => ?_) (fun h1 => ?_)
      · skip
        exact g_vret dX5_adds_113 (⟨rfl, F, rfl, fun v hv => by rw [hF v hv, ha], hO⟩)
      · skip
        exfalso; omega
    | succ z ih =>
      intro a F ha hF hO
      refine g_il 5 dX5_adds_3 rfl ?_
      refine g_bi (v := nI 16) dX5_adds_5 (by decide) ?_
      refine gn_ge (tgt := 113) dX5_adds_7 (by decide) (by omega) (by omega) (fun h1 => ?_) (fun h1 => ?_)
      · skip
        exfalso; omega
      · skip
        refine g_ic (v := nI 0) dX5_adds_10 (by decide) ?_
        refine g_is (lv' := [(6, .int (nI 0)), (0, .ref (γ.2.2 8)), (1, .int (nI q)), (2, .int (nI o3)), (3, .int (nI o1)), (4, .int (nI o2)), (5, .int (nI a))]) dX5_adds_11 (by decide) rfl ?_
        have hA31 := (hA a (by omega)).2
        by_cases hz : A a = 0
        · skip
          refine g_il 0 dX5_adds_13 rfl ?_
          refine g_bi (v := nI 16) dX5_adds_15 (by decide) ?_
          refine gn_ge (tgt := 107) dX5_adds_17 (by decide) (by omega) (by omega) (fun h2 => ?_) (fun h2 => ?_)
          · skip
            exfalso; omega
          · skip
            refine g_al_n 1 dX5_adds_20 rfl ?_
            refine g_get (v := .ref (γ.2.2 9)) 8 13 (by decide) rfl in_X5_adds_5 rfl (by decide) (by decide +kernel) rfl rfl dX5_adds_21 ?_
            refine g_il_n 4 dX5_adds_24 rfl ?_
            refine g_il 6 dX5_adds_25 rfl ?_
            refine g_iadd (v := nI (o1 + a)) dX5_adds_27 (nI_add _ _) ?_
            refine g_lald (v := lN (A a)) 9 (o1 + a) (by decide) rfl (by decide) (by omega) (by rw [va_us, hO _ (by omega)]; exact (hA a (by omega)).1) dX5_adds_28 ?_
            refine g_lc (v := lN 0) dX5_adds_29 rfl ?_
            refine g_lcmp (v := lg_cmp (lN (A a)) (lN 0)) dX5_adds_30 (rfl) ?_
            refine g_if_le (tgt := 107) dX5_adds_31 (by decide) (fun h3 => ?_) (fun h3 => ?_)
            · skip
              refine g_inc (v := nI (a + 1)) (lv' := [(5, .int (nI (a + 1))), (6, .int (nI 0)), (0, .ref (γ.2.2 8)), (1, .int (nI q)), (2, .int (nI o3)), (3, .int (nI o1)), (4, .int (nI o2))]) 6 dX5_adds_107 rfl (inc_1 _) (by decide) rfl ?_
              refine g_goto (tgt := 3) dX5_adds_110 (by decide) ?_
              refine g_sub [2, 3, 4, 5, 6, 0] rfl ?_
              exact ih (a + 1) F (by omega) (fun v hv => by
                rw [hF v hv]
                show _ = lN (C v + (sm (cj2 (g 5 q) A B v) a + cj2 (g 5 q) A B v a))
                rw [show cj2 (g 5 q) A B v a = 0 from sm_zero (fun o _ => by simp [cj1, hz]), Nat.add_zero]) hO
            · skip
              exact (h3 ((lcmp_le (by omega) (by omega)).mpr (by omega))).elim
        · skip
          have lp2 : ∀ (z2 : Nat) (o : Nat) (F2 : Nat → Int64) (ho : o + z2 = 16) (hF2 : ∀ v, v < 16 → F2 (o3 + v) = lN (C v + sm (cj2 (g 5 q) A B v) a + sm (cj1 (g 5 q) a (A a) B v) o)) (hO2 : ∀ j, (j < o3 ∨ o3 + 16 ≤ j) → F2 j = L 9 j), G E0 l cX5_adds 8 wsX5_adds RX5 none (rmd 2) γ P (AE γ) (Qv γ P (fun I' L' => I' = I ∧ ∃ F : Nat → Int64, L' = va_up L 9 F ∧ (∀ v, v < 16 → F (o3 + v) = lN (C v + sm (cj2 (g 5 q) A B v) 16)) ∧ ∀ j, (j < o3 ∨ o3 + 16 ≤ j) → F j = L 9 j)) 0 0 13 [(0, .ref (γ.2.2 8)), (1, .int (nI q)), (2, .int (nI o3)), (3, .int (nI o1)), (4, .int (nI o2)), (5, .int (nI a)), (6, .int (nI o))] [] I (va_up L 9 F2) := by
            intro z2
            induction z2 with
            | zero =>
              intro o F2 ho hF2 hO2
              simp only [Nat.add_zero] at ho
              refine g_il 6 dX5_adds_13 rfl ?_
              refine g_bi (v := nI 16) dX5_adds_15 (by decide) ?_
              refine gn_ge (tgt := 107) dX5_adds_17 (by decide) (by omega) (by omega) (fun h2 => ?_) (fun h2 => ?_)
              · skip
                refine g_inc (v := nI (a + 1)) (lv' := [(5, .int (nI (a + 1))), (0, .ref (γ.2.2 8)), (1, .int (nI q)), (2, .int (nI o3)), (3, .int (nI o1)), (4, .int (nI o2)), (6, .int (nI o))]) 5 dX5_adds_107 rfl (inc_1 _) (by decide) rfl ?_
                refine g_goto (tgt := 3) dX5_adds_110 (by decide) ?_
                refine g_sub [1, 2, 3, 4, 5, 0] rfl ?_
                exact ih (a + 1) F2 (by omega) (fun v hv => by rw [hF2 v hv, ho, Nat.add_assoc]; rfl) hO2
              · skip
                exfalso; omega
            | succ z2 ih2 =>
              intro o F2 ho hF2 hO2
              refine g_il 6 dX5_adds_13 rfl ?_
              refine g_bi (v := nI 16) dX5_adds_15 (by decide) ?_
              refine gn_ge (tgt := 107) dX5_adds_17 (by decide) (by omega) (by omega) (fun h2 => ?_) (fun h2 => ?_)
              · skip
                exfalso; omega
              · skip
                refine g_al_n 0 dX5_adds_20 rfl ?_
                refine g_get (v := .ref (γ.2.2 9)) 8 13 (by decide) rfl in_X5_adds_5 rfl (by decide) (by decide +kernel) rfl rfl dX5_adds_21 ?_
                refine g_il_n 3 dX5_adds_24 rfl ?_
                refine g_il 5 dX5_adds_25 rfl ?_
                refine g_iadd (v := nI (o1 + a)) dX5_adds_27 (nI_add _ _) ?_
                refine g_lald (v := lN (A a)) 9 (o1 + a) (by decide) rfl (by decide) (by omega) (by rw [va_us, hO2 _ (by omega)]; exact (hA a (by omega)).1) dX5_adds_28 ?_
                refine g_lc (v := lN 0) dX5_adds_29 rfl ?_
                refine g_lcmp (v := lg_cmp (lN (A a)) (lN 0)) dX5_adds_30 (rfl) ?_
                refine g_if_le (tgt := 107) dX5_adds_31 (by decide) (fun h3 => ?_) (fun h3 => ?_)
                · skip
                  exact (hz (by have := (lcmp_le (by omega) (by omega)).mp h3; omega)).elim
                · skip
                  refine g_al_n 0 dX5_adds_34 rfl ?_
                  refine g_get (v := .ref (γ.2.2 9)) 8 13 (by decide) rfl in_X5_adds_5 rfl (by decide) (by decide +kernel) rfl rfl dX5_adds_35 ?_
                  refine g_il 4 dX5_adds_38 rfl ?_
                  refine g_il 6 dX5_adds_40 rfl ?_
                  refine g_iadd (v := nI (o2 + o)) dX5_adds_42 (nI_add _ _) ?_
                  refine g_lald (v := lN (B o)) 9 (o2 + o) (by decide) rfl (by decide) (by omega) (by rw [va_us, hO2 _ (by omega)]; exact (hB o (by omega)).1) dX5_adds_43 ?_
                  refine g_lc (v := lN 0) dX5_adds_44 rfl ?_
                  refine g_lcmp (v := lg_cmp (lN (B o)) (lN 0)) dX5_adds_45 (rfl) ?_
                  refine g_if_le (tgt := 61) dX5_adds_46 (by decide) (fun h4 => ?_) (fun h4 => ?_)
                  · skip
                    have hb31 := (hB o (by omega)).2
                    have hb0 : B o = 0 := by have := (lcmp_le (by omega) (by omega)).mp h4; omega
                    refine g_ic (v := (-1 : Int32)) dX5_adds_61 (by decide) ?_
                    refine g_is (lv' := [(7, .int (-1 : Int32)), (0, .ref (γ.2.2 8)), (1, .int (nI q)), (2, .int (nI o3)), (3, .int (nI o1)), (4, .int (nI o2)), (5, .int (nI a)), (6, .int (nI o))]) dX5_adds_62 (by decide) rfl ?_
                    refine g_il 0 dX5_adds_64 rfl ?_
                    refine g_if_lt (tgt := 101) dX5_adds_66 (by decide) (fun h6 => ?_) (fun h6 => ?_)
                    · skip
                      refine g_inc (v := nI (o + 1)) (lv' := [(6, .int (nI (o + 1))), (7, .int (-1 : Int32)), (0, .ref (γ.2.2 8)), (1, .int (nI q)), (2, .int (nI o3)), (3, .int (nI o1)), (4, .int (nI o2)), (5, .int (nI a))]) 7 dX5_adds_101 rfl (inc_1 _) (by decide) rfl ?_
                      refine g_goto (tgt := 13) dX5_adds_104 (by decide) ?_
                      refine g_sub [2, 3, 4, 5, 6, 7, 0] rfl ?_
                      exact ih2 (o + 1) F2 (by omega) (fun v hv => by rw [hF2 v hv]; show _ = lN (C v + sm (cj2 (g 5 q) A B v) a + (sm (cj1 (g 5 q) a (A a) B v) o + cj1 (g 5 q) a (A a) B v o)); rw [show cj1 (g 5 q) a (A a) B v o = 0 by simp [cj1, *]]; rfl) hO2
                    · skip
                      exact absurd (by decide) h6
                  · skip
                    refine g_al_n 0 dX5_adds_49 rfl ?_
                    refine g_il_n 1 dX5_adds_50 rfl ?_
                    refine g_il 5 dX5_adds_51 rfl ?_
                    refine g_il 6 dX5_adds_53 rfl ?_
                    refine g_ci (r_V (st := []) (As := [.int (nI q), .int (nI a), .int (nI o)]) (d := 1) 8 (by decide) rfl rfl (c_X5_makesBoth l γ I (va_up L 9 F2) P g n r q a o hM hq (by omega) (by omega)) gX5_adds_X5_makesBoth rfl ⟨rfl, by decide, by decide, rfl⟩ ⟨Nat.le_of_ble_eq_true rfl, Nat.le_of_ble_eq_true rfl⟩ rfl (Nat.le_of_ble_eq_true rfl) dX5_adds_55 ⟨Nat.zero_le _, Nat.zero_le _⟩) ?_
                    rintro rz201 Iz201 Lz201 ⟨ez201, eIz201, eLz201⟩
                    rw [ez201, eIz201, eLz201]
                    refine g_goto (tgt := 62) dX5_adds_58 (by decide) ?_
                    refine g_is (lv' := [(7, .int (enc (jp (g 5 q) a o))), (0, .ref (γ.2.2 8)), (1, .int (nI q)), (2, .int (nI o3)), (3, .int (nI o1)), (4, .int (nI o2)), (5, .int (nI a)), (6, .int (nI o))]) dX5_adds_62 (by decide) rfl ?_
                    refine g_il 0 dX5_adds_64 rfl ?_
                    refine g_if_lt (tgt := 101) dX5_adds_66 (by decide) (fun h6 => ?_) (fun h6 => ?_)
                    · skip
                      have hjn := enc_lt h6 (fun v hv => by have := jp_lt (by omega) (by omega) hv; omega)
                      refine g_inc (v := nI (o + 1)) (lv' := [(6, .int (nI (o + 1))), (7, .int (enc (jp (g 5 q) a o))), (0, .ref (γ.2.2 8)), (1, .int (nI q)), (2, .int (nI o3)), (3, .int (nI o1)), (4, .int (nI o2)), (5, .int (nI a))]) 7 dX5_adds_101 rfl (inc_1 _) (by decide) rfl ?_
                      refine g_goto (tgt := 13) dX5_adds_104 (by decide) ?_
                      refine g_sub [2, 3, 4, 5, 6, 7, 0] rfl ?_
                      exact ih2 (o + 1) F2 (by omega) (fun v hv => by rw [hF2 v hv]; show _ = lN (C v + sm (cj2 (g 5 q) A B v) a + (sm (cj1 (g 5 q) a (A a) B v) o + cj1 (g 5 q) a (A a) B v o)); rw [show cj1 (g 5 q) a (A a) B v o = 0 by simp [cj1, *]]; rfl) hO2
                    · skip
                      obtain ⟨u, hu⟩ := enc_nlt h6
                      have hu16 := jp_lt (by omega) (by omega) hu
                      rw [show enc (jp (g 5 q) a o) = nI u by rw [hu]; rfl]
                      refine g_al_n 1 dX5_adds_69 rfl ?_
                      refine g_get (v := .ref (γ.2.2 9)) 8 13 (by decide) rfl in_X5_adds_5 rfl (by decide) (by decide +kernel) rfl rfl dX5_adds_70 ?_
                      refine g_il_n 3 dX5_adds_73 rfl ?_
                      refine g_il 0 dX5_adds_74 rfl ?_
                      refine g_iadd (v := nI (o3 + u)) dX5_adds_76 (nI_add _ _) ?_
                      refine g_dup2 dX5_adds_77 rfl rfl ?_
                      refine g_lald (v := lN (C u + sm (cj2 (g 5 q) A B u) a + sm (cj1 (g 5 q) a (A a) B u) o)) 9 (o3 + u) (by decide) rfl (by decide) (by omega) (by rw [va_us]; exact hF2 u hu16) dX5_adds_78 ?_
                      refine g_al_n 1 dX5_adds_79 rfl ?_
                      refine g_get (v := .ref (γ.2.2 9)) 8 13 (by decide) rfl in_X5_adds_5 rfl (by decide) (by decide +kernel) rfl rfl dX5_adds_80 ?_
                      refine g_il_n 4 dX5_adds_83 rfl ?_
                      refine g_il 6 dX5_adds_84 rfl ?_
                      refine g_iadd (v := nI (o1 + a)) dX5_adds_86 (nI_add _ _) ?_
                      refine g_lald (v := lN (A a)) 9 (o1 + a) (by decide) rfl (by decide) (by omega) (by rw [va_us, hO2 _ (by omega)]; exact (hA a (by omega)).1) dX5_adds_87 ?_
                      refine g_al_n 1 dX5_adds_88 rfl ?_
                      refine g_get (v := .ref (γ.2.2 9)) 8 13 (by decide) rfl in_X5_adds_5 rfl (by decide) (by decide +kernel) rfl rfl dX5_adds_89 ?_
                      refine g_il 5 dX5_adds_92 rfl ?_
                      refine g_il 7 dX5_adds_94 rfl ?_
                      refine g_iadd (v := nI (o2 + o)) dX5_adds_96 (nI_add _ _) ?_
                      refine g_lald (v := lN (B o)) 9 (o2 + o) (by decide) rfl (by decide) (by omega) (by rw [va_us, hO2 _ (by omega)]; exact (hB o (by omega)).1) dX5_adds_97 ?_
                      refine g_lmul (v := lN (A a * B o)) dX5_adds_98 (lN_mul _ _) ?_
                      refine g_ladd (v := lN (C u + sm (cj2 (g 5 q) A B u) a + sm (cj1 (g 5 q) a (A a) B u) o + A a * B o)) dX5_adds_99 (lN_add _ _) ?_
                      refine g_last 9 (o3 + u) (by decide) (fun _ => rfl) (by decide) (by omega) dX5_adds_100 ?_
                      refine g_eq (L' := va_up L 9 (vp_updL F2 (o3 + u) (lN (C u + sm (cj2 (g 5 q) A B u) a + sm (cj1 (g 5 q) a (A a) B u) o + A a * B o)))) rfl (va_uwL _ _ _ _ _) ?_
                      refine g_inc (v := nI (o + 1)) (lv' := [(6, .int (nI (o + 1))), (7, .int (nI u)), (0, .ref (γ.2.2 8)), (1, .int (nI q)), (2, .int (nI o3)), (3, .int (nI o1)), (4, .int (nI o2)), (5, .int (nI a))]) 7 dX5_adds_101 rfl (inc_1 _) (by decide) rfl ?_
                      refine g_goto (tgt := 13) dX5_adds_104 (by decide) ?_
                      refine g_sub [2, 3, 4, 5, 6, 7, 0] rfl ?_
                      exact ih2 (o + 1) (vp_updL F2 (o3 + u) (lN (C u + sm (cj2 (g 5 q) A B u) a + sm (cj1 (g 5 q) a (A a) B u) o + A a * B o))) (by omega) (fun v hv => by
                        show _ = lN (C v + sm (cj2 (g 5 q) A B v) a + (sm (cj1 (g 5 q) a (A a) B v) o + cj1 (g 5 q) a (A a) B v o))
                        by_cases e : v = u
                        · subst e; rw [vl_us, show cj1 (g 5 q) a (A a) B v o = A a * B o by simp [cj1, hu], Nat.add_assoc]
                        · rw [vl_un _ _ (by omega), hF2 v hv, show cj1 (g 5 q) a (A a) B v o = 0 by simp [cj1, hu, Ne.symm e], Nat.add_zero]) (fun j hj => by rw [vl_un _ _ (by omega)]; exact hO2 j hj)
          refine g_sub [1, 2, 3, 4, 5, 6, 0] rfl ?_
          exact lp2 16 0 F rfl (fun v hv => by rw [hF v hv]; exact congrArg lN (Nat.add_zero _).symm) hO
  refine g_sub [1, 2, 3, 4, 5, 0] rfl ?_
  refine g_eq (L' := va_up L 9 (L 9)) rfl (va_id _ _).symm ?_
  exact lp 16 0 _ rfl (fun v hv => by rw [hC v hv]; exact congrArg lN (Nat.add_zero _).symm) (fun _ _ => rfl)

theorem in_X5_counts_5 : ∀ w ∈ wsX50, w ∈ wsX5_counts := by decide +kernel
set_option maxRecDepth 100000 in
set_option maxHeartbeats 4000000 in
theorem c_X5_counts (l : Launch) (γ : Gm) (I : IT) (L : LT) (P : PT) (g : GR) (n r t : Nat) (x : Nat → Nat) (hM : MG I g n r) (ht : I 8 3 = nI t) (ht6 : t ≤ 6) (hx : ∀ p, p < t → I 27 p = nI (x p)) (hx2 : ∀ p, p < t → x p < n) : Cv l yX5_counts wsX5_counts 3 γ [.ref (γ.2.2 8)] I L P (fun I' L' => I' = I ∧ ∃ F : Nat → Int64, L' = va_up L 9 F ∧ CN F g r x 0 t) := by
  refine Cv_of (own := RX5) (cc := cX5_counts) (maxL := 6) (by decide) rfl rfl (Nat.le_of_ble_eq_true rfl) ?_
  refine g_sub (lv' := [(0, .ref (γ.2.2 8))]) [0] rfl ?_
  have hr8 := hM.r_le
  have hn9 := hM.n_le
  refine g_al_n 0 dX5_counts_0 rfl ?_
  refine g_get 8 11 (by decide) rfl in_X5_counts_5 rfl (by decide) (by decide +kernel) rfl rfl dX5_counts_1 ?_
  refine g_top (v := nI t) (ht) ?_
  refine g_ic (v := nI 1) dX5_counts_4 (by decide) ?_
  refine g_isub (v := dn t) dX5_counts_5 (dn_sub1 t) ?_
  refine g_is_n (lv' := [(1, .int (dn t)), (0, .ref (γ.2.2 8))]) dX5_counts_6 (by decide) rfl ?_
  have lp : ∀ (f : Nat) (F : Nat → Int64) (hf : f ≤ t) (hV : CN F g r x f t), G E0 l cX5_counts 6 wsX5_counts RX5 none (rmd 3) γ P (AE γ) (Qv γ P (fun I' L' => I' = I ∧ ∃ F : Nat → Int64, L' = va_up L 9 F ∧ CN F g r x 0 t)) 0 0 7 [(0, .ref (γ.2.2 8)), (1, .int (dn f))] [] I (va_up L 9 F) := by
    intro f
    induction f with
    | zero =>
      intro F hf hV
      refine g_lv (lv' := [(0, .ref (γ.2.2 8)), (1, .int (-1 : Int32))]) rfl ?_
      refine g_il_n 1 dX5_counts_7 rfl ?_
      refine g_if_lt (tgt := 199) dX5_counts_8 (by decide) (fun h1 => ?_) (fun h1 => ?_)
      · skip
        exact g_vret dX5_counts_199 (⟨rfl, F, rfl, hV⟩)
      · skip
        exact absurd (by decide) h1
    | succ f ih =>
      intro F hf hV
      refine g_lv (lv' := [(0, .ref (γ.2.2 8)), (1, .int (nI f))]) rfl ?_
      refine g_il_n 1 dX5_counts_7 rfl ?_
      refine gz_lt (tgt := 199) dX5_counts_8 (by decide) (by omega) (fun h1 => ?_) (fun h1 => ?_)
      · skip
        exfalso; omega
      · skip
        refine g_il_n 1 dX5_counts_11 rfl ?_
        refine g_ic (v := nI 1) dX5_counts_12 (by decide) ?_
        refine g_iadd (v := nI (f + 1)) dX5_counts_13 (nI_add _ _) ?_
        refine g_is_n (lv' := [(2, .int (nI (f + 1))), (0, .ref (γ.2.2 8)), (1, .int (nI f))]) dX5_counts_14 (by decide) rfl ?_
        have lp2 : ∀ (z2 : Nat) (d : Nat) (F : Nat → Int64) (hd : d + z2 = t - f) (hV : CN F g r x (f + 1) t) (hR : ∀ j, f < j → j < f + 1 + d → ∀ c, c < 8 → ∀ v, v < 16 → F (16 * ((f * 7 + j) * 8) + 16 * c + v) = lN (ct g r x f j c v)), G E0 l cX5_counts 6 wsX5_counts RX5 none (rmd 3) γ P (AE γ) (Qv γ P (fun I' L' => I' = I ∧ ∃ F : Nat → Int64, L' = va_up L 9 F ∧ CN F g r x 0 t)) 0 0 15 [(0, .ref (γ.2.2 8)), (1, .int (nI f)), (2, .int (nI (f + 1 + d)))] [] I (va_up L 9 F) := by
          intro z2
          induction z2 with
          | zero =>
            intro d F hd hV hR
            simp only [Nat.add_zero] at hd
            refine g_il_n 2 dX5_counts_15 rfl ?_
            refine g_al_n 0 dX5_counts_16 rfl ?_
            refine g_get 8 11 (by decide) rfl in_X5_counts_5 rfl (by decide) (by decide +kernel) rfl rfl dX5_counts_17 ?_
            refine g_top (v := nI t) (ht) ?_
            refine gn_gt (tgt := 193) dX5_counts_20 (by decide) (by omega) (by omega) (fun h2 => ?_) (fun h2 => ?_)
            · skip
              refine g_inc (v := dn f) (lv' := [(1, .int (dn f)), (0, .ref (γ.2.2 8)), (2, .int (nI (f + 1 + d)))]) 1 dX5_counts_193 rfl (dec_1 _) (by decide) rfl ?_
              refine g_goto (tgt := 7) dX5_counts_196 (by decide) ?_
              refine g_sub [1, 0] rfl ?_
              exact ih F (by omega) (fun i j h7 h8 h9 c hc v hv => by
                by_cases ei : i = f
                · subst ei; exact hR j h8 (by omega) c hc v hv
                · exact hV i j (by omega) h8 h9 c hc v hv)
            · skip
              exfalso; omega
          | succ z2 ih2 =>
            intro d F hd hV hR
            have hdt : f + 1 + d ≤ t := by omega
            refine g_il_n 2 dX5_counts_15 rfl ?_
            refine g_al_n 0 dX5_counts_16 rfl ?_
            refine g_get 8 11 (by decide) rfl in_X5_counts_5 rfl (by decide) (by decide +kernel) rfl rfl dX5_counts_17 ?_
            refine g_top (v := nI t) (ht) ?_
            refine gn_gt (tgt := 193) dX5_counts_20 (by decide) (by omega) (by omega) (fun h2 => ?_) (fun h2 => ?_)
            · skip
              exfalso; omega
            · skip
              refine g_bi (v := nI 16) dX5_counts_23 (by decide) ?_
              refine g_il_n 1 dX5_counts_25 rfl ?_
              refine g_il_n 2 dX5_counts_26 rfl ?_
              refine g_ci (r_S (st := [.int (nI 16)]) (As := [.int (nI f), .int (nI (f + 1 + d))]) (d := 0) (c_X5_span l γ I (va_up L 9 F) P f (f + 1 + d)) gX5_counts_X5_span rfl ⟨by decide, by decide, rfl⟩ ⟨Nat.le_of_ble_eq_true rfl, Nat.le_of_ble_eq_true rfl⟩ rfl (Nat.le_of_ble_eq_true rfl) dX5_counts_27 ⟨Nat.zero_le _, Nat.zero_le _⟩) ?_
              rintro rz1 Iz1 Lz1 ⟨ez1, eIz1, eLz1⟩
              rw [ez1, eIz1, eLz1]
              refine g_imul (v := nI (16 * ((f * 7 + (f + 1 + d)) * 8))) dX5_counts_30 (pk_mul _ _) ?_
              refine g_is_n (lv' := [(3, .int (nI (16 * ((f * 7 + (f + 1 + d)) * 8)))), (0, .ref (γ.2.2 8)), (1, .int (nI f)), (2, .int (nI (f + 1 + d)))]) dX5_counts_31 (by decide) rfl ?_
              refine g_ic (v := nI 0) dX5_counts_32 (by decide) ?_
              refine g_is (lv' := [(4, .int (nI 0)), (3, .int (nI (16 * ((f * 7 + (f + 1 + d)) * 8)))), (0, .ref (γ.2.2 8)), (1, .int (nI f)), (2, .int (nI (f + 1 + d)))]) dX5_counts_33 (by decide) rfl ?_
              have lp1 : ∀ (z1 : Nat) (k : Nat) (F1 : Nat → Int64) (hk : k + z1 = 128) (hF1 : ∀ j, j < k → F1 (16 * ((f * 7 + (f + 1 + d)) * 8) + j) = lN 0) (hO1 : ∀ j, (j < 16 * ((f * 7 + (f + 1 + d)) * 8) ∨ 16 * ((f * 7 + (f + 1 + d)) * 8) + 128 ≤ j) → F1 j = F j), G E0 l cX5_counts 6 wsX5_counts RX5 none (rmd 3) γ P (AE γ) (Qv γ P (fun I' L' => I' = I ∧ ∃ F : Nat → Int64, L' = va_up L 9 F ∧ CN F g r x 0 t)) 0 0 35 [(0, .ref (γ.2.2 8)), (1, .int (nI f)), (2, .int (nI (f + 1 + d))), (3, .int (nI (16 * ((f * 7 + (f + 1 + d)) * 8)))), (4, .int (nI k))] [] I (va_up L 9 F1) := by
                intro z1
                induction z1 with
                | zero =>
                  intro k F1 hk hF1 hO1
                  simp only [Nat.add_zero] at hk
                  refine g_il 4 dX5_counts_35 rfl ?_
                  refine g_si (v := nI 128) dX5_counts_37 (by decide) ?_
                  refine gn_ge (tgt := 59) dX5_counts_40 (by decide) (by omega) (by omega) (fun h3 => ?_) (fun h3 => ?_)
                  · skip
                    refine g_il_n 2 dX5_counts_59 rfl ?_
                    refine g_il_n 1 dX5_counts_60 rfl ?_
                    refine g_ic (v := nI 1) dX5_counts_61 (by decide) ?_
                    refine g_iadd (v := nI (f + 1)) dX5_counts_62 (nI_add _ _) ?_
                    refine gn_ne (tgt := 100) dX5_counts_63 (by decide) (by omega) (by omega) (fun h4 => ?_) (fun h4 => ?_)
                    · skip
                      refine g_ic (v := nI 0) dX5_counts_100 (by decide) ?_
                      refine g_is (lv' := [(4, .int (nI 0)), (0, .ref (γ.2.2 8)), (1, .int (nI f)), (2, .int (nI (f + 1 + d))), (3, .int (nI (16 * ((f * 7 + (f + 1 + d)) * 8))))]) dX5_counts_101 (by decide) rfl ?_
                      have lp3 : ∀ (z3 : Nat) (q : Nat) (F3 : Nat → Int64) (hq : q + z3 = r) (hF3 : ∀ c, c < 8 → ∀ v, v < 16 → F3 (16 * ((f * 7 + (f + 1 + d)) * 8) + 16 * c + v) = lN (ncur g r x f d c v q)) (hO3 : ∀ j, (j < 16 * ((f * 7 + (f + 1 + d)) * 8) ∨ 16 * ((f * 7 + (f + 1 + d)) * 8) + 128 ≤ j) → F3 j = F j), G E0 l cX5_counts 6 wsX5_counts RX5 none (rmd 3) γ P (AE γ) (Qv γ P (fun I' L' => I' = I ∧ ∃ F : Nat → Int64, L' = va_up L 9 F ∧ CN F g r x 0 t)) 0 0 103 [(0, .ref (γ.2.2 8)), (1, .int (nI f)), (2, .int (nI (f + 1 + d))), (3, .int (nI (16 * ((f * 7 + (f + 1 + d)) * 8)))), (4, .int (nI q))] [] I (va_up L 9 F3) := by
                        intro z3
                        induction z3 with
                        | zero =>
                          intro q F3 hq hF3 hO3
                          simp only [Nat.add_zero] at hq
                          refine g_il 4 dX5_counts_103 rfl ?_
                          refine g_al_n 0 dX5_counts_105 rfl ?_
                          refine g_get 8 7 (by decide) rfl in_X5_counts_5 rfl (by decide) (by decide +kernel) rfl rfl dX5_counts_106 ?_
                          refine g_top (v := nI r) (hM.cr) ?_
                          refine gn_ge (tgt := 187) dX5_counts_109 (by decide) (by omega) (by omega) (fun h5 => ?_) (fun h5 => ?_)
                          · skip
                            refine g_inc (v := nI (f + 1 + d + 1)) (lv' := [(2, .int (nI (f + 1 + d + 1))), (0, .ref (γ.2.2 8)), (1, .int (nI f)), (3, .int (nI (16 * ((f * 7 + (f + 1 + d)) * 8)))), (4, .int (nI q))]) 2 dX5_counts_187 rfl (inc_1 _) (by decide) rfl ?_
                            refine g_goto (tgt := 15) dX5_counts_190 (by decide) ?_
                            refine g_sub [1, 2, 0] rfl ?_
                            exact ih2 (d + 1) F3 (by omega) (fun i j h7 h8 h9 c hc v hv => by rw [hO3 _ (by omega)]; exact hV i j h7 h8 h9 c hc v hv) (fun j h7 h8 c hc v hv => by
                              by_cases ej : j = f + 1 + d
                              · subst ej; rw [hF3 c hc v hv, hq, ncur_all]
                              · rw [hO3 _ (by omega)]; exact hR j h7 (by omega) c hc v hv)
                          · skip
                            exfalso; omega
                        | succ z3 ih3 =>
                          intro q F3 hq hF3 hO3
                          have hqr : q < r := by omega
                          have f8 := hM.fst_lt hqr
                          have s8 := hM.snd_lt hqr
                          have m8 := hM.made_lt hqr
                          refine g_il 4 dX5_counts_103 rfl ?_
                          refine g_al_n 0 dX5_counts_105 rfl ?_
                          refine g_get 8 7 (by decide) rfl in_X5_counts_5 rfl (by decide) (by decide +kernel) rfl rfl dX5_counts_106 ?_
                          refine g_top (v := nI r) (hM.cr) ?_
                          refine gn_ge (tgt := 187) dX5_counts_109 (by decide) (by omega) (by omega) (fun h5 => ?_) (fun h5 => ?_)
                          · skip
                            exfalso; omega
                          · skip
                            refine g_il_n 1 dX5_counts_112 rfl ?_
                            refine g_ic (v := nI 1) dX5_counts_113 (by decide) ?_
                            refine g_iadd (v := nI (f + 1)) dX5_counts_114 (nI_add _ _) ?_
                            refine g_is (lv' := [(5, .int (nI (f + 1))), (0, .ref (γ.2.2 8)), (1, .int (nI f)), (2, .int (nI (f + 1 + d))), (3, .int (nI (16 * ((f * 7 + (f + 1 + d)) * 8)))), (4, .int (nI q))]) dX5_counts_115 (by decide) rfl ?_
                            have lp4 : ∀ (z4 : Nat) (e : Nat) (F4 : Nat → Int64) (he : e + z4 = d) (hF4 : ∀ c, c < 8 → ∀ v, v < 16 → F4 (16 * ((f * 7 + (f + 1 + d)) * 8) + 16 * c + v) = lN (ncur g r x f d c v q + sm (fun e => nrow g r x f d e c v q) e)) (hO4 : ∀ j, (j < 16 * ((f * 7 + (f + 1 + d)) * 8) ∨ 16 * ((f * 7 + (f + 1 + d)) * 8) + 128 ≤ j) → F4 j = F j), G E0 l cX5_counts 6 wsX5_counts RX5 none (rmd 3) γ P (AE γ) (Qv γ P (fun I' L' => I' = I ∧ ∃ F : Nat → Int64, L' = va_up L 9 F ∧ CN F g r x 0 t)) 0 0 117 [(0, .ref (γ.2.2 8)), (1, .int (nI f)), (2, .int (nI (f + 1 + d))), (3, .int (nI (16 * ((f * 7 + (f + 1 + d)) * 8)))), (4, .int (nI q)), (5, .int (nI (f + 1 + e)))] [] I (va_up L 9 F4) := by
                              intro z4
                              induction z4 with
                              | zero =>
                                intro e F4 he hF4 hO4
                                simp only [Nat.add_zero] at he
                                refine g_il 5 dX5_counts_117 rfl ?_
                                refine g_il_n 2 dX5_counts_119 rfl ?_
                                refine gn_ge (tgt := 181) dX5_counts_120 (by decide) (by omega) (by omega) (fun h6 => ?_) (fun h6 => ?_)
                                · skip
                                  refine g_inc (v := nI (q + 1)) (lv' := [(4, .int (nI (q + 1))), (0, .ref (γ.2.2 8)), (1, .int (nI f)), (2, .int (nI (f + 1 + d))), (3, .int (nI (16 * ((f * 7 + (f + 1 + d)) * 8)))), (5, .int (nI (f + 1 + e)))]) 4 dX5_counts_181 rfl (inc_1 _) (by decide) rfl ?_
                                  refine g_goto (tgt := 103) dX5_counts_184 (by decide) ?_
                                  refine g_sub [1, 2, 3, 4, 0] rfl ?_
                                  exact ih3 (q + 1) F4 (by omega) (fun c hc v hv => by rw [hF4 c hc v hv, he, ncur_s]) hO4
                                · skip
                                  exfalso; omega
                              | succ z4 ih4 =>
                                intro e F4 he hF4 hO4
                                have hed : e < d := by omega
                                have bl := hM.ctb (w := x) (show f < f + 1 + e by omega) (show f + 1 + e - f ≤ 6 by omega)
                                have br := hM.ctb (w := x) (show f + 1 + e < f + 1 + d by omega) (show f + 1 + d - (f + 1 + e) ≤ 6 by omega)
                                refine g_il 5 dX5_counts_117 rfl ?_
                                refine g_il_n 2 dX5_counts_119 rfl ?_
                                refine gn_ge (tgt := 181) dX5_counts_120 (by decide) (by omega) (by omega) (fun h6 => ?_) (fun h6 => ?_)
                                · skip
                                  exfalso; omega
                                · skip
                                  refine g_al_n 0 dX5_counts_123 rfl ?_
                                  refine g_il 4 dX5_counts_124 rfl ?_
                                  refine g_il_n 3 dX5_counts_126 rfl ?_
                                  refine g_bi (v := nI 16) dX5_counts_127 (by decide) ?_
                                  refine g_al_n 0 dX5_counts_129 rfl ?_
                                  refine g_get (v := .ref (γ.2.2 22)) 8 3 (by decide) rfl in_X5_counts_5 rfl (by decide) (by decide +kernel) rfl rfl dX5_counts_130 ?_
                                  refine g_il 4 dX5_counts_133 rfl ?_
                                  refine g_iald (v := nI (g 2 q)) 22 q (by decide) (by decide) (show _ < 8 by omega) (hM.made hqr) dX5_counts_135 ?_
                                  refine g_imul (v := nI (16 * (g 2 q))) dX5_counts_136 (pk_mul _ _) ?_
                                  refine g_iadd (v := nI (16 * ((f * 7 + (f + 1 + d)) * 8) + (16 * (g 2 q)))) dX5_counts_137 (nI_add _ _) ?_
                                  refine g_bi (v := nI 16) dX5_counts_138 (by decide) ?_
                                  refine g_il_n 1 dX5_counts_140 rfl ?_
                                  refine g_il 5 dX5_counts_141 rfl ?_
                                  refine g_ci (r_S (st := [.int (nI 16), .int (nI (16 * ((f * 7 + (f + 1 + d)) * 8) + (16 * (g 2 q)))), .int (nI q), .ref (γ.2.2 8)]) (As := [.int (nI f), .int (nI (f + 1 + e))]) (d := 0) (c_X5_span l γ I (va_up L 9 F4) P f (f + 1 + e)) gX5_counts_X5_span rfl ⟨by decide, by decide, rfl⟩ ⟨Nat.le_of_ble_eq_true rfl, Nat.le_of_ble_eq_true rfl⟩ rfl (Nat.le_of_ble_eq_true rfl) dX5_counts_143 ⟨Nat.zero_le _, Nat.zero_le _⟩) ?_
                                  rintro rz2 Iz2 Lz2 ⟨ez2, eIz2, eLz2⟩
                                  rw [ez2, eIz2, eLz2]
                                  refine g_al_n 0 dX5_counts_146 rfl ?_
                                  refine g_get (v := .ref (γ.2.2 23)) 8 4 (by decide) rfl in_X5_counts_5 rfl (by decide) (by decide +kernel) rfl rfl dX5_counts_147 ?_
                                  refine g_il 4 dX5_counts_150 rfl ?_
                                  refine g_iald (v := nI (g 3 q)) 23 q (by decide) (by decide) (show _ < 8 by omega) (hM.fst hqr) dX5_counts_152 ?_
                                  refine g_iadd (v := nI ((f * 7 + (f + 1 + e)) * 8 + (g 3 q))) dX5_counts_153 (nI_add _ _) ?_
                                  refine g_imul (v := nI (16 * ((f * 7 + (f + 1 + e)) * 8 + (g 3 q)))) dX5_counts_154 (pk_mul _ _) ?_
                                  refine g_bi (v := nI 16) dX5_counts_155 (by decide) ?_
                                  refine g_il 5 dX5_counts_157 rfl ?_
                                  refine g_il_n 2 dX5_counts_159 rfl ?_
                                  refine g_ci (r_S (st := [.int (nI 16), .int (nI (16 * ((f * 7 + (f + 1 + e)) * 8 + (g 3 q)))), .int (nI (16 * ((f * 7 + (f + 1 + d)) * 8) + (16 * (g 2 q)))), .int (nI q), .ref (γ.2.2 8)]) (As := [.int (nI (f + 1 + e)), .int (nI (f + 1 + d))]) (d := 0) (c_X5_span l γ I (va_up L 9 F4) P (f + 1 + e) (f + 1 + d)) gX5_counts_X5_span rfl ⟨by decide, by decide, rfl⟩ ⟨Nat.le_of_ble_eq_true rfl, Nat.le_of_ble_eq_true rfl⟩ rfl (Nat.le_of_ble_eq_true rfl) dX5_counts_160 ⟨Nat.zero_le _, Nat.zero_le _⟩) ?_
                                  rintro rz3 Iz3 Lz3 ⟨ez3, eIz3, eLz3⟩
                                  rw [ez3, eIz3, eLz3]
                                  refine g_al_n 0 dX5_counts_163 rfl ?_
                                  refine g_get (v := .ref (γ.2.2 24)) 8 5 (by decide) rfl in_X5_counts_5 rfl (by decide) (by decide +kernel) rfl rfl dX5_counts_164 ?_
                                  refine g_il 4 dX5_counts_167 rfl ?_
                                  refine g_iald (v := nI (g 4 q)) 24 q (by decide) (by decide) (show _ < 8 by omega) (hM.snd hqr) dX5_counts_169 ?_
                                  refine g_iadd (v := nI (((f + 1 + e) * 7 + (f + 1 + d)) * 8 + (g 4 q))) dX5_counts_170 (nI_add _ _) ?_
                                  refine g_imul (v := nI (16 * (((f + 1 + e) * 7 + (f + 1 + d)) * 8 + (g 4 q)))) dX5_counts_171 (pk_mul _ _) ?_
                                  refine g_cv (r_V (st := []) (As := [.int (nI q), .int (nI (16 * ((f * 7 + (f + 1 + d)) * 8) + (16 * (g 2 q)))), .int (nI (16 * ((f * 7 + (f + 1 + e)) * 8 + (g 3 q)))), .int (nI (16 * (((f + 1 + e) * 7 + (f + 1 + d)) * 8 + (g 4 q))))]) (d := 2) 8 (by decide) rfl rfl (c_X5_adds l γ I (va_up L 9 F4) P g n r q (16 * ((f * 7 + (f + 1 + e)) * 8 + g 3 q)) (16 * (((f + 1 + e) * 7 + (f + 1 + d)) * 8 + g 4 q)) (16 * ((f * 7 + (f + 1 + d)) * 8) + 16 * g 2 q) (ct g r x f (f + 1 + e) (g 3 q)) (ct g r x (f + 1 + e) (f + 1 + d) (g 4 q)) (fun v => ncur g r x f d (g 2 q) v q + sm (fun e => nrow g r x f d e (g 2 q) v q) e) hM hqr (by omega) (by omega) (by omega) (by omega) (by omega) (fun v hv => ⟨by rw [va_us, hO4 _ (by omega), show 16 * ((f * 7 + (f + 1 + e)) * 8 + g 3 q) + v = 16 * ((f * 7 + (f + 1 + e)) * 8) + 16 * g 3 q + v by omega]; exact hR (f + 1 + e) (by omega) (by omega) _ f8 v hv, ct_lt31 bl f8 hv⟩) (fun v hv => ⟨by rw [va_us, hO4 _ (by omega), show 16 * (((f + 1 + e) * 7 + (f + 1 + d)) * 8 + g 4 q) + v = 16 * (((f + 1 + e) * 7 + (f + 1 + d)) * 8) + 16 * g 4 q + v by omega]; exact hV (f + 1 + e) (f + 1 + d) (by omega) (by omega) (by omega) _ s8 v hv, ct_lt31 br s8 hv⟩) (fun v hv => by rw [va_us]; exact hF4 _ m8 v hv)) gX5_counts_X5_adds rfl ⟨rfl, by decide, by decide, rfl⟩ ⟨Nat.le_of_ble_eq_true rfl, Nat.le_of_ble_eq_true rfl⟩ rfl (Nat.le_of_ble_eq_true rfl) dX5_counts_172 ⟨Nat.zero_le _, Nat.zero_le _⟩) ?_
                                  rintro Iz4 Lz4 ⟨eIz4, F5, eLz4, hF5, hO5⟩
                                  rw [eIz4, eLz4, va_uu]
                                  simp only [va_us] at hO5
                                  refine g_inc (v := nI (f + 1 + e + 1)) (lv' := [(5, .int (nI (f + 1 + e + 1))), (0, .ref (γ.2.2 8)), (1, .int (nI f)), (2, .int (nI (f + 1 + d))), (3, .int (nI (16 * ((f * 7 + (f + 1 + d)) * 8)))), (4, .int (nI q))]) 5 dX5_counts_175 rfl (inc_1 _) (by decide) rfl ?_
                                  refine g_goto (tgt := 117) dX5_counts_178 (by decide) ?_
                                  refine g_sub [1, 2, 3, 4, 5, 0] rfl ?_
                                  exact ih4 (e + 1) F5 (by omega) (fun c hc v hv => by
                                    show _ = lN (ncur g r x f d c v q + (sm (fun e => nrow g r x f d e c v q) e + nrow g r x f d e c v q))
                                    by_cases ec : g 2 q = c
                                    · subst ec; rw [hF5 v hv, nrow_eq rfl, Nat.add_assoc]
                                    · rw [hO5 _ (by omega), nrow_ne ec, Nat.add_zero]; exact hF4 c hc v hv) (fun j hj => by rw [hO5 _ (by omega)]; exact hO4 j hj)
                            refine g_sub [1, 2, 3, 4, 5, 0] rfl ?_
                            exact lp4 d 0 F3 (Nat.zero_add _) (fun c hc v hv => by rw [hF3 c hc v hv]; exact congrArg lN (Nat.add_zero _).symm) hO3
                      refine g_sub [1, 2, 3, 4, 0] rfl ?_
                      exact lp3 r 0 _ (Nat.zero_add _) (fun c hc v hv => by
                        rw [ncur_0, if_neg (show d ≠ 0 by omega)]
                        rw [show 16 * ((f * 7 + (f + 1 + d)) * 8) + 16 * c + v = 16 * ((f * 7 + (f + 1 + d)) * 8) + (16 * c + v) by omega]; exact hF1 (16 * c + v) (by omega)) hO1
                    · skip
                      have hxn := hx2 f (by omega)
                      have c8 := hM.cat_lt hxn
                      have v16 := hM.val_lt hxn
                      refine g_al_n 0 dX5_counts_66 rfl ?_
                      refine g_get (v := .ref (γ.2.2 9)) 8 13 (by decide) rfl in_X5_counts_5 rfl (by decide) (by decide +kernel) rfl rfl dX5_counts_67 ?_
                      refine g_il_n 3 dX5_counts_70 rfl ?_
                      refine g_bi (v := nI 16) dX5_counts_71 (by decide) ?_
                      refine g_al_n 0 dX5_counts_73 rfl ?_
                      refine g_get (v := .ref (γ.2.2 20)) 8 0 (by decide) rfl in_X5_counts_5 rfl (by decide) (by decide +kernel) rfl rfl dX5_counts_74 ?_
                      refine g_al_n 0 dX5_counts_77 rfl ?_
                      refine g_get (v := .ref (γ.2.2 27)) 8 10 (by decide) rfl in_X5_counts_5 rfl (by decide) (by decide +kernel) rfl rfl dX5_counts_78 ?_
                      refine g_il_n 1 dX5_counts_81 rfl ?_
                      refine g_iald (v := nI (x f)) 27 f (by decide) (by decide) (show _ < 6 by omega) (hx f (by omega)) dX5_counts_82 ?_
                      refine g_iald (v := nI (g 0 (x f))) 20 (x f) (by decide) (by decide) (show _ < 9 by omega) (hM.cat hxn) dX5_counts_83 ?_
                      refine g_imul (v := nI (16 * (g 0 (x f)))) dX5_counts_84 (pk_mul _ _) ?_
                      refine g_iadd (v := nI (16 * ((f * 7 + (f + 1 + d)) * 8) + (16 * (g 0 (x f))))) dX5_counts_85 (nI_add _ _) ?_
                      refine g_al_n 0 dX5_counts_86 rfl ?_
                      refine g_get (v := .ref (γ.2.2 21)) 8 1 (by decide) rfl in_X5_counts_5 rfl (by decide) (by decide +kernel) rfl rfl dX5_counts_87 ?_
                      refine g_al_n 0 dX5_counts_90 rfl ?_
                      refine g_get (v := .ref (γ.2.2 27)) 8 10 (by decide) rfl in_X5_counts_5 rfl (by decide) (by decide +kernel) rfl rfl dX5_counts_91 ?_
                      refine g_il_n 1 dX5_counts_94 rfl ?_
                      refine g_iald (v := nI (x f)) 27 f (by decide) (by decide) (show _ < 6 by omega) (hx f (by omega)) dX5_counts_95 ?_
                      refine g_iald (v := nI (g 1 (x f))) 21 (x f) (by decide) (by decide) (show _ < 9 by omega) (hM.val hxn) dX5_counts_96 ?_
                      refine g_iadd (v := nI (16 * ((f * 7 + (f + 1 + d)) * 8) + (16 * (g 0 (x f))) + (g 1 (x f)))) dX5_counts_97 (nI_add _ _) ?_
                      refine g_lc (v := lN 1) dX5_counts_98 rfl ?_
                      refine g_last 9 (16 * ((f * 7 + (f + 1 + d)) * 8) + (16 * (g 0 (x f))) + (g 1 (x f))) (by decide) (fun _ => rfl) (by decide) (by omega) dX5_counts_99 ?_
                      refine g_eq (L' := va_up L 9 (vp_updL F1 (16 * ((f * 7 + (f + 1 + d)) * 8) + 16 * g 0 (x f) + g 1 (x f)) (lN 1))) rfl (va_uwL _ _ _ _ _) ?_
                      refine g_ic (v := nI 0) dX5_counts_100 (by decide) ?_
                      refine g_is (lv' := [(4, .int (nI 0)), (0, .ref (γ.2.2 8)), (1, .int (nI f)), (2, .int (nI (f + 1 + d))), (3, .int (nI (16 * ((f * 7 + (f + 1 + d)) * 8))))]) dX5_counts_101 (by decide) rfl ?_
                      have lp3 : ∀ (z3 : Nat) (q : Nat) (F3 : Nat → Int64) (hq : q + z3 = r) (hF3 : ∀ c, c < 8 → ∀ v, v < 16 → F3 (16 * ((f * 7 + (f + 1 + d)) * 8) + 16 * c + v) = lN (ncur g r x f d c v q)) (hO3 : ∀ j, (j < 16 * ((f * 7 + (f + 1 + d)) * 8) ∨ 16 * ((f * 7 + (f + 1 + d)) * 8) + 128 ≤ j) → F3 j = F j), G E0 l cX5_counts 6 wsX5_counts RX5 none (rmd 3) γ P (AE γ) (Qv γ P (fun I' L' => I' = I ∧ ∃ F : Nat → Int64, L' = va_up L 9 F ∧ CN F g r x 0 t)) 0 0 103 [(0, .ref (γ.2.2 8)), (1, .int (nI f)), (2, .int (nI (f + 1 + d))), (3, .int (nI (16 * ((f * 7 + (f + 1 + d)) * 8)))), (4, .int (nI q))] [] I (va_up L 9 F3) := by
                        intro z3
                        induction z3 with
                        | zero =>
                          intro q F3 hq hF3 hO3
                          simp only [Nat.add_zero] at hq
                          refine g_il 4 dX5_counts_103 rfl ?_
                          refine g_al_n 0 dX5_counts_105 rfl ?_
                          refine g_get 8 7 (by decide) rfl in_X5_counts_5 rfl (by decide) (by decide +kernel) rfl rfl dX5_counts_106 ?_
                          refine g_top (v := nI r) (hM.cr) ?_
                          refine gn_ge (tgt := 187) dX5_counts_109 (by decide) (by omega) (by omega) (fun h5 => ?_) (fun h5 => ?_)
                          · skip
                            refine g_inc (v := nI (f + 1 + d + 1)) (lv' := [(2, .int (nI (f + 1 + d + 1))), (0, .ref (γ.2.2 8)), (1, .int (nI f)), (3, .int (nI (16 * ((f * 7 + (f + 1 + d)) * 8)))), (4, .int (nI q))]) 2 dX5_counts_187 rfl (inc_1 _) (by decide) rfl ?_
                            refine g_goto (tgt := 15) dX5_counts_190 (by decide) ?_
                            refine g_sub [1, 2, 0] rfl ?_
                            exact ih2 (d + 1) F3 (by omega) (fun i j h7 h8 h9 c hc v hv => by rw [hO3 _ (by omega)]; exact hV i j h7 h8 h9 c hc v hv) (fun j h7 h8 c hc v hv => by
                              by_cases ej : j = f + 1 + d
                              · subst ej; rw [hF3 c hc v hv, hq, ncur_all]
                              · rw [hO3 _ (by omega)]; exact hR j h7 (by omega) c hc v hv)
                          · skip
                            exfalso; omega
                        | succ z3 ih3 =>
                          intro q F3 hq hF3 hO3
                          have hqr : q < r := by omega
                          have f8 := hM.fst_lt hqr
                          have s8 := hM.snd_lt hqr
                          have m8 := hM.made_lt hqr
                          refine g_il 4 dX5_counts_103 rfl ?_
                          refine g_al_n 0 dX5_counts_105 rfl ?_
                          refine g_get 8 7 (by decide) rfl in_X5_counts_5 rfl (by decide) (by decide +kernel) rfl rfl dX5_counts_106 ?_
                          refine g_top (v := nI r) (hM.cr) ?_
                          refine gn_ge (tgt := 187) dX5_counts_109 (by decide) (by omega) (by omega) (fun h5 => ?_) (fun h5 => ?_)
                          · skip
                            exfalso; omega
                          · skip
                            refine g_il_n 1 dX5_counts_112 rfl ?_
                            refine g_ic (v := nI 1) dX5_counts_113 (by decide) ?_
                            refine g_iadd (v := nI (f + 1)) dX5_counts_114 (nI_add _ _) ?_
                            refine g_is (lv' := [(5, .int (nI (f + 1))), (0, .ref (γ.2.2 8)), (1, .int (nI f)), (2, .int (nI (f + 1 + d))), (3, .int (nI (16 * ((f * 7 + (f + 1 + d)) * 8)))), (4, .int (nI q))]) dX5_counts_115 (by decide) rfl ?_
                            have lp4 : ∀ (z4 : Nat) (e : Nat) (F4 : Nat → Int64) (he : e + z4 = d) (hF4 : ∀ c, c < 8 → ∀ v, v < 16 → F4 (16 * ((f * 7 + (f + 1 + d)) * 8) + 16 * c + v) = lN (ncur g r x f d c v q + sm (fun e => nrow g r x f d e c v q) e)) (hO4 : ∀ j, (j < 16 * ((f * 7 + (f + 1 + d)) * 8) ∨ 16 * ((f * 7 + (f + 1 + d)) * 8) + 128 ≤ j) → F4 j = F j), G E0 l cX5_counts 6 wsX5_counts RX5 none (rmd 3) γ P (AE γ) (Qv γ P (fun I' L' => I' = I ∧ ∃ F : Nat → Int64, L' = va_up L 9 F ∧ CN F g r x 0 t)) 0 0 117 [(0, .ref (γ.2.2 8)), (1, .int (nI f)), (2, .int (nI (f + 1 + d))), (3, .int (nI (16 * ((f * 7 + (f + 1 + d)) * 8)))), (4, .int (nI q)), (5, .int (nI (f + 1 + e)))] [] I (va_up L 9 F4) := by
                              intro z4
                              induction z4 with
                              | zero =>
                                intro e F4 he hF4 hO4
                                simp only [Nat.add_zero] at he
                                refine g_il 5 dX5_counts_117 rfl ?_
                                refine g_il_n 2 dX5_counts_119 rfl ?_
                                refine gn_ge (tgt := 181) dX5_counts_120 (by decide) (by omega) (by omega) (fun h6 => ?_) (fun h6 => ?_)
                                · skip
                                  refine g_inc (v := nI (q + 1)) (lv' := [(4, .int (nI (q + 1))), (0, .ref (γ.2.2 8)), (1, .int (nI f)), (2, .int (nI (f + 1 + d))), (3, .int (nI (16 * ((f * 7 + (f + 1 + d)) * 8)))), (5, .int (nI (f + 1 + e)))]) 4 dX5_counts_181 rfl (inc_1 _) (by decide) rfl ?_
                                  refine g_goto (tgt := 103) dX5_counts_184 (by decide) ?_
                                  refine g_sub [1, 2, 3, 4, 0] rfl ?_
                                  exact ih3 (q + 1) F4 (by omega) (fun c hc v hv => by rw [hF4 c hc v hv, he, ncur_s]) hO4
                                · skip
                                  exfalso; omega
                              | succ z4 ih4 =>
                                intro e F4 he hF4 hO4
                                have hed : e < d := by omega
                                have bl := hM.ctb (w := x) (show f < f + 1 + e by omega) (show f + 1 + e - f ≤ 6 by omega)
                                have br := hM.ctb (w := x) (show f + 1 + e < f + 1 + d by omega) (show f + 1 + d - (f + 1 + e) ≤ 6 by omega)
                                refine g_il 5 dX5_counts_117 rfl ?_
                                refine g_il_n 2 dX5_counts_119 rfl ?_
                                refine gn_ge (tgt := 181) dX5_counts_120 (by decide) (by omega) (by omega) (fun h6 => ?_) (fun h6 => ?_)
                                · skip
                                  exfalso; omega
                                · skip
                                  refine g_al_n 0 dX5_counts_123 rfl ?_
                                  refine g_il 4 dX5_counts_124 rfl ?_
                                  refine g_il_n 3 dX5_counts_126 rfl ?_
                                  refine g_bi (v := nI 16) dX5_counts_127 (by decide) ?_
                                  refine g_al_n 0 dX5_counts_129 rfl ?_
                                  refine g_get (v := .ref (γ.2.2 22)) 8 3 (by decide) rfl in_X5_counts_5 rfl (by decide) (by decide +kernel) rfl rfl dX5_counts_130 ?_
                                  refine g_il 4 dX5_counts_133 rfl ?_
                                  refine g_iald (v := nI (g 2 q)) 22 q (by decide) (by decide) (show _ < 8 by omega) (hM.made hqr) dX5_counts_135 ?_
                                  refine g_imul (v := nI (16 * (g 2 q))) dX5_counts_136 (pk_mul _ _) ?_
                                  refine g_iadd (v := nI (16 * ((f * 7 + (f + 1 + d)) * 8) + (16 * (g 2 q)))) dX5_counts_137 (nI_add _ _) ?_
                                  refine g_bi (v := nI 16) dX5_counts_138 (by decide) ?_
                                  refine g_il_n 1 dX5_counts_140 rfl ?_
                                  refine g_il 5 dX5_counts_141 rfl ?_
                                  refine g_ci (r_S (st := [.int (nI 16), .int (nI (16 * ((f * 7 + (f + 1 + d)) * 8) + (16 * (g 2 q)))), .int (nI q), .ref (γ.2.2 8)]) (As := [.int (nI f), .int (nI (f + 1 + e))]) (d := 0) (c_X5_span l γ I (va_up L 9 F4) P f (f + 1 + e)) gX5_counts_X5_span rfl ⟨by decide, by decide, rfl⟩ ⟨Nat.le_of_ble_eq_true rfl, Nat.le_of_ble_eq_true rfl⟩ rfl (Nat.le_of_ble_eq_true rfl) dX5_counts_143 ⟨Nat.zero_le _, Nat.zero_le _⟩) ?_
                                  rintro rz5 Iz5 Lz5 ⟨ez5, eIz5, eLz5⟩
                                  rw [ez5, eIz5, eLz5]
                                  refine g_al_n 0 dX5_counts_146 rfl ?_
                                  refine g_get (v := .ref (γ.2.2 23)) 8 4 (by decide) rfl in_X5_counts_5 rfl (by decide) (by decide +kernel) rfl rfl dX5_counts_147 ?_
                                  refine g_il 4 dX5_counts_150 rfl ?_
                                  refine g_iald (v := nI (g 3 q)) 23 q (by decide) (by decide) (show _ < 8 by omega) (hM.fst hqr) dX5_counts_152 ?_
                                  refine g_iadd (v := nI ((f * 7 + (f + 1 + e)) * 8 + (g 3 q))) dX5_counts_153 (nI_add _ _) ?_
                                  refine g_imul (v := nI (16 * ((f * 7 + (f + 1 + e)) * 8 + (g 3 q)))) dX5_counts_154 (pk_mul _ _) ?_
                                  refine g_bi (v := nI 16) dX5_counts_155 (by decide) ?_
                                  refine g_il 5 dX5_counts_157 rfl ?_
                                  refine g_il_n 2 dX5_counts_159 rfl ?_
                                  refine g_ci (r_S (st := [.int (nI 16), .int (nI (16 * ((f * 7 + (f + 1 + e)) * 8 + (g 3 q)))), .int (nI (16 * ((f * 7 + (f + 1 + d)) * 8) + (16 * (g 2 q)))), .int (nI q), .ref (γ.2.2 8)]) (As := [.int (nI (f + 1 + e)), .int (nI (f + 1 + d))]) (d := 0) (c_X5_span l γ I (va_up L 9 F4) P (f + 1 + e) (f + 1 + d)) gX5_counts_X5_span rfl ⟨by decide, by decide, rfl⟩ ⟨Nat.le_of_ble_eq_true rfl, Nat.le_of_ble_eq_true rfl⟩ rfl (Nat.le_of_ble_eq_true rfl) dX5_counts_160 ⟨Nat.zero_le _, Nat.zero_le _⟩) ?_
                                  rintro rz6 Iz6 Lz6 ⟨ez6, eIz6, eLz6⟩
                                  rw [ez6, eIz6, eLz6]
                                  refine g_al_n 0 dX5_counts_163 rfl ?_
                                  refine g_get (v := .ref (γ.2.2 24)) 8 5 (by decide) rfl in_X5_counts_5 rfl (by decide) (by decide +kernel) rfl rfl dX5_counts_164 ?_
                                  refine g_il 4 dX5_counts_167 rfl ?_
                                  refine g_iald (v := nI (g 4 q)) 24 q (by decide) (by decide) (show _ < 8 by omega) (hM.snd hqr) dX5_counts_169 ?_
                                  refine g_iadd (v := nI (((f + 1 + e) * 7 + (f + 1 + d)) * 8 + (g 4 q))) dX5_counts_170 (nI_add _ _) ?_
                                  refine g_imul (v := nI (16 * (((f + 1 + e) * 7 + (f + 1 + d)) * 8 + (g 4 q)))) dX5_counts_171 (pk_mul _ _) ?_
                                  refine g_cv (r_V (st := []) (As := [.int (nI q), .int (nI (16 * ((f * 7 + (f + 1 + d)) * 8) + (16 * (g 2 q)))), .int (nI (16 * ((f * 7 + (f + 1 + e)) * 8 + (g 3 q)))), .int (nI (16 * (((f + 1 + e) * 7 + (f + 1 + d)) * 8 + (g 4 q))))]) (d := 2) 8 (by decide) rfl rfl (c_X5_adds l γ I (va_up L 9 F4) P g n r q (16 * ((f * 7 + (f + 1 + e)) * 8 + g 3 q)) (16 * (((f + 1 + e) * 7 + (f + 1 + d)) * 8 + g 4 q)) (16 * ((f * 7 + (f + 1 + d)) * 8) + 16 * g 2 q) (ct g r x f (f + 1 + e) (g 3 q)) (ct g r x (f + 1 + e) (f + 1 + d) (g 4 q)) (fun v => ncur g r x f d (g 2 q) v q + sm (fun e => nrow g r x f d e (g 2 q) v q) e) hM hqr (by omega) (by omega) (by omega) (by omega) (by omega) (fun v hv => ⟨by rw [va_us, hO4 _ (by omega), show 16 * ((f * 7 + (f + 1 + e)) * 8 + g 3 q) + v = 16 * ((f * 7 + (f + 1 + e)) * 8) + 16 * g 3 q + v by omega]; exact hR (f + 1 + e) (by omega) (by omega) _ f8 v hv, ct_lt31 bl f8 hv⟩) (fun v hv => ⟨by rw [va_us, hO4 _ (by omega), show 16 * (((f + 1 + e) * 7 + (f + 1 + d)) * 8 + g 4 q) + v = 16 * (((f + 1 + e) * 7 + (f + 1 + d)) * 8) + 16 * g 4 q + v by omega]; exact hV (f + 1 + e) (f + 1 + d) (by omega) (by omega) (by omega) _ s8 v hv, ct_lt31 br s8 hv⟩) (fun v hv => by rw [va_us]; exact hF4 _ m8 v hv)) gX5_counts_X5_adds rfl ⟨rfl, by decide, by decide, rfl⟩ ⟨Nat.le_of_ble_eq_true rfl, Nat.le_of_ble_eq_true rfl⟩ rfl (Nat.le_of_ble_eq_true rfl) dX5_counts_172 ⟨Nat.zero_le _, Nat.zero_le _⟩) ?_
                                  rintro Iz7 Lz7 ⟨eIz7, F5, eLz7, hF5, hO5⟩
                                  rw [eIz7, eLz7, va_uu]
                                  simp only [va_us] at hO5
                                  refine g_inc (v := nI (f + 1 + e + 1)) (lv' := [(5, .int (nI (f + 1 + e + 1))), (0, .ref (γ.2.2 8)), (1, .int (nI f)), (2, .int (nI (f + 1 + d))), (3, .int (nI (16 * ((f * 7 + (f + 1 + d)) * 8)))), (4, .int (nI q))]) 5 dX5_counts_175 rfl (inc_1 _) (by decide) rfl ?_
                                  refine g_goto (tgt := 117) dX5_counts_178 (by decide) ?_
                                  refine g_sub [1, 2, 3, 4, 5, 0] rfl ?_
                                  exact ih4 (e + 1) F5 (by omega) (fun c hc v hv => by
                                    show _ = lN (ncur g r x f d c v q + (sm (fun e => nrow g r x f d e c v q) e + nrow g r x f d e c v q))
                                    by_cases ec : g 2 q = c
                                    · subst ec; rw [hF5 v hv, nrow_eq rfl, Nat.add_assoc]
                                    · rw [hO5 _ (by omega), nrow_ne ec, Nat.add_zero]; exact hF4 c hc v hv) (fun j hj => by rw [hO5 _ (by omega)]; exact hO4 j hj)
                            refine g_sub [1, 2, 3, 4, 5, 0] rfl ?_
                            exact lp4 d 0 F3 (Nat.zero_add _) (fun c hc v hv => by rw [hF3 c hc v hv]; exact congrArg lN (Nat.add_zero _).symm) hO3
                      refine g_sub [1, 2, 3, 4, 0] rfl ?_
                      exact lp3 r 0 _ (Nat.zero_add _) (fun c hc v hv => by
                        rw [ncur_0, if_pos (show d = 0 by omega)]
                        by_cases ec : c = g 0 (x f) ∧ v = g 1 (x f)
                        · rw [ec.1, ec.2, vl_us]; simp [wcnt]
                        · rw [vl_un _ _ (by omega), show 16 * ((f * 7 + (f + 1 + d)) * 8) + 16 * c + v = 16 * ((f * 7 + (f + 1 + d)) * 8) + (16 * c + v) by omega, hF1 (16 * c + v) (by omega), wcnt, if_neg (fun q => ec ⟨q.1.symm, q.2.symm⟩)]) (fun j hj => by rw [vl_un _ _ (by omega)]; exact hO1 j hj)
                  · skip
                    exfalso; omega
                | succ z1 ih1 =>
                  intro k F1 hk hF1 hO1
                  refine g_il 4 dX5_counts_35 rfl ?_
                  refine g_si (v := nI 128) dX5_counts_37 (by decide) ?_
                  refine gn_ge (tgt := 59) dX5_counts_40 (by decide) (by omega) (by omega) (fun h3 => ?_) (fun h3 => ?_)
                  · skip
                    exfalso; omega
                  · skip
                    refine g_al_n 0 dX5_counts_43 rfl ?_
                    refine g_get (v := .ref (γ.2.2 9)) 8 13 (by decide) rfl in_X5_counts_5 rfl (by decide) (by decide +kernel) rfl rfl dX5_counts_44 ?_
                    refine g_il_n 3 dX5_counts_47 rfl ?_
                    refine g_il 4 dX5_counts_48 rfl ?_
                    refine g_iadd (v := nI (16 * ((f * 7 + (f + 1 + d)) * 8) + k)) dX5_counts_50 (nI_add _ _) ?_
                    refine g_lc (v := lN 0) dX5_counts_51 rfl ?_
                    refine g_last 9 (16 * ((f * 7 + (f + 1 + d)) * 8) + k) (by decide) (fun _ => rfl) (by decide) (by omega) dX5_counts_52 ?_
                    refine g_eq (L' := va_up L 9 (vp_updL F1 (16 * ((f * 7 + (f + 1 + d)) * 8) + k) (lN 0))) rfl (va_uwL _ _ _ _ _) ?_
                    refine g_inc (v := nI (k + 1)) (lv' := [(4, .int (nI (k + 1))), (0, .ref (γ.2.2 8)), (1, .int (nI f)), (2, .int (nI (f + 1 + d))), (3, .int (nI (16 * ((f * 7 + (f + 1 + d)) * 8))))]) 4 dX5_counts_53 rfl (inc_1 _) (by decide) rfl ?_
                    refine g_goto (tgt := 35) dX5_counts_56 (by decide) ?_
                    refine g_sub [1, 2, 3, 4, 0] rfl ?_
                    exact ih1 (k + 1) (vp_updL F1 (16 * ((f * 7 + (f + 1 + d)) * 8) + k) (lN 0)) (by omega) (fun j hj => by
                      by_cases ec : j = k
                      · subst ec; exact vl_us _ _ _
                      · rw [vl_un _ _ (by omega)]; exact hF1 j (by omega)) (fun j hj => by rw [vl_un _ _ (by omega)]; exact hO1 j hj)
              refine g_sub [2, 3, 4, 1, 0] rfl ?_
              exact lp1 128 0 F rfl (fun c hc => by omega) (fun _ _ => rfl)
        refine g_sub [1, 2, 0] rfl ?_
        exact lp2 (t - f) 0 F (Nat.zero_add _) hV (fun j h1 h2 => by omega)
  refine g_sub [1, 0] rfl ?_
  refine g_eq (L' := va_up L 9 (L 9)) rfl (va_id _ _).symm ?_
  exact lp t (L 9) (Nat.le_refl _) (fun i j h7 h8 h9 => by omega)
