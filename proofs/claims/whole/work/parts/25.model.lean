/-! the model: level, sentences in order -/
theorem pow_pos_of {n s k : Nat} (h : k < n ^ s) (hs : 0 < s) : 0 < n := by
  rcases Nat.eq_zero_or_pos n with e | e
  · subst e; rw [Nat.zero_pow hs] at h; omega
  · exact e
theorem FQ.k28 {I I' : IT} (h : ∀ k, k ≠ 28 → I' k = I k) : FQ I I' := ⟨fun k _ _ h3 => h k h3, fun j _ => by rw [h 8 (by decide)]⟩
theorem fst1_s (p : Nat → Bool) (m k : Nat) : fst1 p (m + 1) k = if p k then nI k else fst1 p m (k + 1) := rfl
theorem kfs_s (p : Nat → Bool) (m k y : Nat) : kfs p (m + 1) k y = if p k then (if y = 0 then some k else kfs p m (k + 1) (y - 1)) else kfs p m (k + 1) y := rfl

theorem in_X5_level_5 : ∀ w ∈ wsX50, w ∈ wsX5_level := by decide +kernel
set_option maxRecDepth 100000 in
set_option maxHeartbeats 4000000 in
theorem c_X5_level (l : Launch) (γ : Gm) (I : IT) (L : LT) (P : PT) (g : GR) (n r9 q : Nat) (u : Nat → Nat) (hM : MR I g n r9 q u) : Ci l yX5_level wsX5_level 4 γ [.ref (γ.2.2 8)] I L P (fun r I' L' => r = fst1 (fun k => isS g k u q) (r9 + 1) 0 ∧ I' 8 4 = nI 0 ∧ FQ I I' ∧ L' = L) := by
  refine Ci_of (own := RX5) (cc := cX5_level) (maxL := 3) (by decide) rfl rfl (Nat.le_of_ble_eq_true rfl) ?_
  refine g_sub (lv' := [(0, .ref (γ.2.2 8))]) [0] rfl ?_
  have hr8 := hM.1.r_le
  have hq6 := hM.2.2.1
  refine g_al_n 0 dX5_level_0 rfl ?_
  refine g_ic (v := nI 0) dX5_level_1 (by decide) ?_
  refine g_put tyX5 8 14 (upd (I 8) 4 (nI 0)) (by decide) rfl in_X5_level_5 tyX5_ok nmX5 rfl (by decide) (by decide +kernel) rfl rfl rfl rfl rfl (Nat.le_of_ble_eq_true rfl) dX5_level_2 rfl ?_
  obtain ⟨J, hJ⟩ : ∃ J, J = va_up I 8 (upd (I 8) 4 (nI 0)) := ⟨_, rfl⟩
  have hJQ : FQ I J := by rw [hJ]; exact FQ.up8 I _ (by decide)
  have hJM := hJQ.mr hM
  have hJ4 : J 8 4 = nI 0 := by rw [hJ, va_us, upd_s]
  refine g_eq (I' := J) hJ.symm rfl ?_
  refine g_al_n 0 dX5_level_5 rfl ?_
  refine g_cv (r_V (st := []) (As := []) (d := 0) 8 (by decide) rfl rfl (c_X5_takes2 l γ J L P g n r9 q u hJM) gX5_level_X5_takes rfl ⟨rfl, by decide, by decide, rfl⟩ ⟨Nat.le_of_ble_eq_true rfl, Nat.le_of_ble_eq_true rfl⟩ rfl (Nat.le_of_ble_eq_true rfl) dX5_level_6 ⟨Nat.zero_le _, Nat.zero_le _⟩) ?_
  rintro K Lz1 ⟨hK3, hKx, hKQ, hK4, eLz1⟩
  rw [eLz1]
  have hKM := hKQ.mr hJM
  refine g_ic (v := (-1 : Int32)) dX5_level_9 (by decide) ?_
  refine g_is_n (lv' := [(1, .int (-1 : Int32)), (0, .ref (γ.2.2 8))]) dX5_level_10 (by decide) rfl ?_
  refine g_pc (pc' := 11) rfl ?_
  refine g_al_n 1 dX5_level_11 rfl ?_
  refine g_get 8 7 (by decide) rfl in_X5_level_5 rfl (by decide) (by decide +kernel) rfl rfl dX5_level_12 ?_
  refine g_top (v := nI r9) (hKM.1.cr) ?_
  refine g_is_n (lv' := [(2, .int (nI r9)), (1, .int (-1 : Int32)), (0, .ref (γ.2.2 8))]) dX5_level_15 (by decide) rfl ?_
  have lp : ∀ (f : Nat) (T : IT) (fd : Int32) (hf : f ≤ r9 + 1) (hQ : FQ I T) (h3 : T 8 3 = nI q) (hx : ∀ p, p < q → T 27 p = nI (u p)) (h4 : T 8 4 = nI 0) (hfd : fd = fst1 (fun k => isS g k u q) (r9 + 1 - f) f), G E0 l cX5_level 3 wsX5_level RX5 (some .int) (rmd 4) γ P (AE γ) (Qi γ P (fun r I' L' => r = fst1 (fun k => isS g k u q) (r9 + 1) 0 ∧ I' 8 4 = nI 0 ∧ FQ I I' ∧ L' = L)) 0 0 16 [(0, .ref (γ.2.2 8)), (1, .int fd), (2, .int (dn f))] [] T L := by
    intro f
    induction f with
    | zero =>
      intro T fd hf hQ h3 hx h4 hfd
      refine g_lv (lv' := [(0, .ref (γ.2.2 8)), (1, .int fd), (2, .int (-1 : Int32))]) rfl ?_
      refine g_il_n 2 dX5_level_16 rfl ?_
      refine g_if_lt (tgt := 60) dX5_level_17 (by decide) (fun h1 => ?_) (fun h1 => ?_)
      · skip
        refine g_il_n 1 dX5_level_60 rfl ?_
        exact g_iret dX5_level_61 (⟨hfd, h4, hQ, rfl⟩)
      · skip
        exact absurd (by decide) h1
    | succ f ih =>
      intro T fd hf hQ h3 hx h4 hfd
      refine g_lv (lv' := [(0, .ref (γ.2.2 8)), (1, .int fd), (2, .int (nI f))]) rfl ?_
      have hTM := hQ.mr hM
      refine g_il_n 2 dX5_level_16 rfl ?_
      refine g_pc (pc' := 17) rfl ?_
      refine gz_lt (tgt := 60) dX5_level_17 (by decide) (by omega) (fun h1 => ?_) (fun h1 => ?_)
      · skip
        exfalso; omega
      · skip
        refine g_al_n 0 dX5_level_20 rfl ?_
        refine g_il_n 2 dX5_level_21 rfl ?_
        refine g_cv (r_V (st := []) (As := [.int (nI f)]) (d := 3) 8 (by decide) rfl rfl (c_X5_parses l γ T L P g n r9 f q u hTM.1 (by omega) h3 hq6 hx (fun p hp => (hM.2.2.2 p hp).2)) gX5_level_X5_parses rfl ⟨rfl, by decide, by decide, rfl⟩ ⟨Nat.le_of_ble_eq_true rfl, Nat.le_of_ble_eq_true rfl⟩ rfl (Nat.le_of_ble_eq_true rfl) dX5_level_22 ⟨Nat.zero_le _, Nat.zero_le _⟩) ?_
        rintro Iz2 Lz2 ⟨⟨F, eIz2, hF⟩, eLz2⟩
        rw [eIz2]
        rw [eLz2]
        obtain ⟨I9, eI9⟩ : ∃ I9, I9 = va_up T 28 F := ⟨_, rfl⟩
        refine g_eq (I' := I9) eI9.symm rfl ?_
        have hQ2 : FQ I I9 := by rw [eI9]; exact hQ.trans (FQ.up28 _ _)
        have h32 : I9 8 3 = nI q := by rw [eI9]; exact h3
        have h42 : I9 8 4 = nI 0 := by rw [eI9]; exact h4
        have hx2 : ∀ p, p < q → I9 27 p = nI (u p) := fun p hp => by rw [eI9]; exact hx p hp
        have hF9 : 0 < q → I9 28 ((0 * 7 + q) * 8) = nI (ch g f (lxw g u) 0 q 0) := fun h => by rw [eI9, va_us]; exact hF 0 q (Nat.zero_le _) h (Nat.le_refl _) 0 (by decide)
        refine g_al_n 0 dX5_level_25 rfl ?_
        refine g_get 8 11 (by decide) rfl in_X5_level_5 rfl (by decide) (by decide +kernel) rfl rfl dX5_level_26 ?_
        refine g_top (v := nI q) (h32) ?_
        refine gz_le (tgt := 52) dX5_level_29 (by decide) (by omega) (fun h5 => ?_) (fun h5 => ?_)
        · skip
          have hb : isS g f u q = false := decide_eq_false (by omega)
          refine g_il_n 1 dX5_level_52 rfl ?_
          refine g_pc (pc' := 53) rfl ?_
          refine g_is_n (lv' := [(1, .int fd), (0, .ref (γ.2.2 8)), (2, .int (nI f))]) dX5_level_53 (by decide) rfl ?_
          refine g_inc (v := dn f) (lv' := [(2, .int (dn f)), (1, .int fd), (0, .ref (γ.2.2 8))]) 2 dX5_level_54 rfl (dec_1 _) (by decide) rfl ?_
          refine g_goto (tgt := 16) dX5_level_57 (by decide) ?_
          refine g_sub [2, 1, 0] rfl ?_
          exact ih I9 fd (by omega) hQ2 h32 hx2 h42 (by rw [hfd]; rw [show r9 + 1 - f = (r9 + 1 - (f + 1)) + 1 by omega, fst1_s, hb]; rfl)
        · skip
          refine g_al_n 0 dX5_level_32 rfl ?_
          refine g_get (v := .ref (γ.2.2 28)) 8 12 (by decide) rfl in_X5_level_5 rfl (by decide) (by decide +kernel) rfl rfl dX5_level_33 ?_
          refine g_ic (v := nI 0) dX5_level_36 (by decide) ?_
          refine g_al_n 0 dX5_level_37 rfl ?_
          refine g_get 8 11 (by decide) rfl in_X5_level_5 rfl (by decide) (by decide +kernel) rfl rfl dX5_level_38 ?_
          refine g_top (v := nI q) (h32) ?_
          refine g_pc (pc' := 41) rfl ?_
          refine g_ci0 (v := nI ((0 * 7 + q) * 8)) (r_S (st := [.ref (γ.2.2 28)]) (As := [.int (nI 0), .int (nI q)]) (d := 0) (c_X5_span l γ I9 L P 0 q) gX5_level_X5_span rfl ⟨by decide, by decide, rfl⟩ ⟨Nat.le_of_ble_eq_true rfl, Nat.le_of_ble_eq_true rfl⟩ rfl (Nat.le_of_ble_eq_true rfl) dX5_level_41 ⟨Nat.zero_le _, Nat.zero_le _⟩) ?_
          refine g_iald (v := nI (ch g f (lxw g u) 0 q 0)) 28 ((0 * 7 + q) * 8) (by decide) (by decide) (show _ < 336 by omega) (hF9 h5) dX5_level_44 ?_
          refine gz_eq (tgt := 52) dX5_level_45 (by decide) (Nat.lt_trans (ch_lt16 h5 (fun p _ hp c => wset_lt (hM.1.val_lt ((hM.2.2.2 p hp).2)))) (by decide)) (fun h6 => ?_) (fun h6 => ?_)
          · skip
            have hb : isS g f u q = false := decide_eq_false (by omega)
            refine g_il_n 1 dX5_level_52 rfl ?_
            refine g_is_n (lv' := [(1, .int fd), (0, .ref (γ.2.2 8)), (2, .int (nI f))]) dX5_level_53 (by decide) rfl ?_
            refine g_inc (v := dn f) (lv' := [(2, .int (dn f)), (1, .int fd), (0, .ref (γ.2.2 8))]) 2 dX5_level_54 rfl (dec_1 _) (by decide) rfl ?_
            refine g_goto (tgt := 16) dX5_level_57 (by decide) ?_
            refine g_sub [2, 1, 0] rfl ?_
            exact ih I9 fd (by omega) hQ2 h32 hx2 h42 (by rw [hfd]; rw [show r9 + 1 - f = (r9 + 1 - (f + 1)) + 1 by omega, fst1_s, hb]; rfl)
          · skip
            have hb : isS g f u q = true := decide_eq_true ⟨h5, h6⟩
            refine g_il_n 2 dX5_level_48 rfl ?_
            refine g_pc (pc' := 49) rfl ?_
            refine g_goto (tgt := 53) dX5_level_49 (by decide) ?_
            refine g_is_n (lv' := [(1, .int (nI f)), (0, .ref (γ.2.2 8)), (2, .int (nI f))]) dX5_level_53 (by decide) rfl ?_
            refine g_inc (v := dn f) (lv' := [(2, .int (dn f)), (1, .int (nI f)), (0, .ref (γ.2.2 8))]) 2 dX5_level_54 rfl (dec_1 _) (by decide) rfl ?_
            refine g_goto (tgt := 16) dX5_level_57 (by decide) ?_
            refine g_sub [2, 1, 0] rfl ?_
            exact ih I9 (nI f) (by omega) hQ2 h32 hx2 h42 (by rw [show r9 + 1 - f = (r9 + 1 - (f + 1)) + 1 by omega, fst1_s, hb]; rfl)
  refine g_sub [2, 1, 0] rfl ?_
  exact lp (r9 + 1) K (-1) (Nat.le_refl _) (hJQ.trans hKQ) hK3 hKx (by rw [hK4, hJ4]) (by rw [Nat.sub_self]; rfl)

theorem in_X5_rows_5 : ∀ w ∈ wsX50, w ∈ wsX5_rows := by decide +kernel
set_option maxRecDepth 100000 in
set_option maxHeartbeats 4000000 in
theorem c_X5_rows (l : Launch) (γ : Gm) (I : IT) (L : LT) (P : PT) (n s : Nat) (hn : I 8 0 = nI n) (hs : s < 2 ^ 31) : Ci l yX5_rows wsX5_rows 0 γ [.ref (γ.2.2 8), .int (nI s)] I L P (fun r I' L' => r = nI (n ^ s) ∧ I' = I ∧ L' = L) := by
  refine Ci_of (own := RX5) (cc := cX5_rows) (maxL := 4) (by decide) rfl rfl (Nat.le_of_ble_eq_true rfl) ?_
  refine g_sub (lv' := [(0, .ref (γ.2.2 8)), (1, .int (nI s))]) [0, 1] rfl ?_
  refine g_ic (v := nI 1) dX5_rows_0 (by decide) ?_
  refine g_is_n (lv' := [(2, .int (nI 1)), (0, .ref (γ.2.2 8)), (1, .int (nI s))]) dX5_rows_1 (by decide) rfl ?_
  refine g_ic (v := nI 0) dX5_rows_2 (by decide) ?_
  refine g_is_n (lv' := [(3, .int (nI 0)), (2, .int (nI 1)), (0, .ref (γ.2.2 8)), (1, .int (nI s))]) dX5_rows_3 (by decide) rfl ?_
  have lp : ∀ (z : Nat) (k : Nat) (hk : k + z = s), G E0 l cX5_rows 4 wsX5_rows RX5 (some .int) (rmd 0) γ P (AE γ) (Qi γ P (fun r I' L' => r = nI (n ^ s) ∧ I' = I ∧ L' = L)) 0 0 4 [(0, .ref (γ.2.2 8)), (1, .int (nI s)), (2, .int (nI (n ^ k))), (3, .int (nI k))] [] I L := by
    intro z
    induction z with
    | zero =>
      intro k hk
      simp only [Nat.add_zero] at hk
      refine g_il_n 3 dX5_rows_4 rfl ?_
      refine g_il_n 1 dX5_rows_5 rfl ?_
      refine gn_ge (tgt := 22) dX5_rows_6 (by decide) (by omega) (by omega) (fun h1 => ?_) (fun h1 => ?_)
      · skip
        refine g_pc (pc' := 22) rfl ?_
        refine g_il_n 2 dX5_rows_22 rfl ?_
        refine g_top (v := nI (n ^ s)) (by rw [hk]) ?_
        exact g_iret dX5_rows_23 (⟨rfl, rfl, rfl⟩)
      · skip
        exfalso; omega
    | succ z ih =>
      intro k hk
      refine g_il_n 3 dX5_rows_4 rfl ?_
      refine g_il_n 1 dX5_rows_5 rfl ?_
      refine gn_ge (tgt := 22) dX5_rows_6 (by decide) (by omega) (by omega) (fun h1 => ?_) (fun h1 => ?_)
      · skip
        exfalso; omega
      · skip
        refine g_il_n 2 dX5_rows_9 rfl ?_
        refine g_al_n 0 dX5_rows_10 rfl ?_
        refine g_get 8 2 (by decide) rfl in_X5_rows_5 rfl (by decide) (by decide +kernel) rfl rfl dX5_rows_11 ?_
        refine g_top (v := nI n) (hn) ?_
        refine g_pc (pc' := 14) rfl ?_
        refine g_imul (v := nI (n ^ k * n)) dX5_rows_14 (pk_mul _ _) ?_
        refine g_is_n (lv' := [(2, .int (nI (n ^ k * n))), (0, .ref (γ.2.2 8)), (1, .int (nI s)), (3, .int (nI k))]) dX5_rows_15 (by decide) rfl ?_
        refine g_inc (v := nI (k + 1)) (lv' := [(3, .int (nI (k + 1))), (2, .int (nI (n ^ k * n))), (0, .ref (γ.2.2 8)), (1, .int (nI s))]) 3 dX5_rows_16 rfl (inc_1 _) (by decide) rfl ?_
        refine g_goto (tgt := 4) dX5_rows_19 (by decide) ?_
        refine g_sub [2, 3, 1, 0] rfl ?_
        exact ih (k + 1) (by omega)
  refine g_sub [2, 3, 1, 0] rfl ?_
  exact lp s 0 (Nat.zero_add _)

theorem in_X5_lays_5 : ∀ w ∈ wsX50, w ∈ wsX5_lays := by decide +kernel
set_option maxRecDepth 100000 in
set_option maxHeartbeats 4000000 in
theorem c_X5_lays (l : Launch) (γ : Gm) (I : IT) (L : LT) (P : PT) (n m s : Nat) (hn : I 8 0 = nI n) (hn0 : 0 < n) (hn9 : n ≤ 9) (hs : s ≤ 6) (hm : m < 2 ^ 31) : Cv l yX5_lays wsX5_lays 0 γ [.ref (γ.2.2 8), .int (nI m), .int (nI s)] I L P (fun I' L' => I' 8 3 = nI s ∧ (∀ p, p < s → I' 27 p = nI (dig n s m p)) ∧ FQ I I' ∧ I' 8 4 = I 8 4 ∧ L' = L) := by
  refine Cv_of (own := RX5) (cc := cX5_lays) (maxL := 5) (by decide) rfl rfl (Nat.le_of_ble_eq_true rfl) ?_
  refine g_sub (lv' := [(0, .ref (γ.2.2 8)), (1, .int (nI m)), (2, .int (nI s))]) [0, 1, 2] rfl ?_
  refine g_il_n 1 dX5_lays_0 rfl ?_
  refine g_is_n (lv' := [(3, .int (nI m)), (0, .ref (γ.2.2 8)), (1, .int (nI m)), (2, .int (nI s))]) dX5_lays_1 (by decide) rfl ?_
  refine g_al_n 1 dX5_lays_2 rfl ?_
  refine g_il_n 3 dX5_lays_3 rfl ?_
  refine g_put tyX5 8 11 (upd (I 8) 3 (nI s)) (by decide) rfl in_X5_lays_5 tyX5_ok nmX5 rfl (by decide) (by decide +kernel) rfl rfl rfl rfl rfl (Nat.le_of_ble_eq_true rfl) dX5_lays_4 rfl ?_
  obtain ⟨J, hJ⟩ : ∃ J, J = va_up I 8 (upd (I 8) 3 (nI s)) := ⟨_, rfl⟩
  have hJn : J 8 0 = nI n := by rw [hJ, va_us, upd_n _ _ (by decide)]; exact hn
  refine g_eq (I' := J) hJ.symm rfl ?_
  refine g_il_n 3 dX5_lays_7 rfl ?_
  refine g_ic (v := nI 1) dX5_lays_8 (by decide) ?_
  refine g_pc (pc' := 9) rfl ?_
  refine g_isub (v := dn s) dX5_lays_9 (dn_sub1 s) ?_
  refine g_is (lv' := [(4, .int (dn s)), (3, .int (nI m)), (0, .ref (γ.2.2 8)), (1, .int (nI m)), (2, .int (nI s))]) dX5_lays_10 (by decide) rfl ?_
  have lp : ∀ (f : Nat) (F : Nat → Int32) (hf : f ≤ s) (hF : ∀ p, f ≤ p → p < s → F p = nI (dig n s m p)), G E0 l cX5_lays 5 wsX5_lays RX5 none (rmd 0) γ P (AE γ) (Qv γ P (fun I' L' => I' 8 3 = nI s ∧ (∀ p, p < s → I' 27 p = nI (dig n s m p)) ∧ FQ I I' ∧ I' 8 4 = I 8 4 ∧ L' = L)) 0 0 12 [(0, .ref (γ.2.2 8)), (2, .int (nI s)), (3, .int (nI (m / n ^ (s - f)))), (4, .int (dn f))] [] (va_up J 27 F) L := by
    intro f
    induction f with
    | zero =>
      intro F hf hF
      refine g_lv (lv' := [(0, .ref (γ.2.2 8)), (2, .int (nI s)), (3, .int (nI (m / n ^ (s - 0)))), (4, .int (-1 : Int32))]) rfl ?_
      refine g_il 3 dX5_lays_12 rfl ?_
      refine g_if_lt (tgt := 43) dX5_lays_14 (by decide) (fun h1 => ?_) (fun h1 => ?_)
      · skip
        exact g_vret dX5_lays_43 (⟨by rw [va_up_ne _ _ (by decide), hJ, va_us, upd_s], fun p hp => by rw [va_us]; exact hF p (Nat.zero_le _) hp, by rw [hJ]; exact (FQ.up8 I _ (by decide)).trans (FQ.up27 _ _), by rw [va_up_ne _ _ (by decide), hJ, va_us, upd_n _ _ (by decide)], rfl⟩)
      · skip
        exact absurd (by decide) h1
    | succ f ih =>
      intro F hf hF
      refine g_lv (lv' := [(0, .ref (γ.2.2 8)), (2, .int (nI s)), (3, .int (nI (m / n ^ (s - (f + 1))))), (4, .int (nI f))]) rfl ?_
      have hml : m / n ^ (s - (f + 1)) < 2 ^ 31 := Nat.lt_of_le_of_lt (Nat.div_le_self _ _) hm
      refine g_il 3 dX5_lays_12 rfl ?_
      refine gz_lt (tgt := 43) dX5_lays_14 (by decide) (by omega) (fun h1 => ?_) (fun h1 => ?_)
      · skip
        exfalso; omega
      · skip
        refine g_al_n 0 dX5_lays_17 rfl ?_
        refine g_pc (pc' := 18) rfl ?_
        refine g_get (v := .ref (γ.2.2 27)) 8 10 (by decide) rfl in_X5_lays_5 rfl (by decide) (by decide +kernel) rfl rfl dX5_lays_18 ?_
        refine g_il 3 dX5_lays_21 rfl ?_
        refine g_il_n 2 dX5_lays_23 rfl ?_
        refine g_al_n 0 dX5_lays_24 rfl ?_
        refine g_get 8 2 (by decide) rfl in_X5_lays_5 rfl (by decide) (by decide +kernel) rfl rfl dX5_lays_25 ?_
        refine g_top (v := nI n) (hJn) ?_
        refine g_irem (v := nI (m / n ^ (s - (f + 1)) % n)) dX5_lays_28 (fun e => by have := (nI_z (by omega)).mp e; omega) (pk_rem hml hn0 (by omega)) ?_
        refine g_iast 27 f (by decide) (by decide) (show f < 6 by omega) dX5_lays_29 ?_
        refine g_eq (I' := va_up J 27 (upd F f (nI (m / n ^ (s - (f + 1)) % n)))) (va_uw _ _ _ _ _) rfl ?_
        refine g_il_n 2 dX5_lays_30 rfl ?_
        refine g_pc (pc' := 31) rfl ?_
        refine g_al_n 0 dX5_lays_31 rfl ?_
        refine g_get 8 2 (by decide) rfl in_X5_lays_5 rfl (by decide) (by decide +kernel) rfl rfl dX5_lays_32 ?_
        refine g_top (v := nI n) (hJn) ?_
        refine g_idiv (v := nI (m / n ^ (s - (f + 1)) / n)) dX5_lays_35 (fun e => by have := (nI_z (by omega)).mp e; omega) (pk_div hml hn0 (by omega)) ?_
        refine g_is_n (lv' := [(3, .int (nI (m / n ^ (s - (f + 1)) / n))), (0, .ref (γ.2.2 8)), (2, .int (nI s)), (4, .int (nI f))]) dX5_lays_36 (by decide) rfl ?_
        refine g_inc (v := dn f) (lv' := [(4, .int (dn f)), (3, .int (nI (m / n ^ (s - (f + 1)) / n))), (0, .ref (γ.2.2 8)), (2, .int (nI s))]) 3 dX5_lays_37 rfl (dec_1 _) (by decide) rfl ?_
        refine g_goto (tgt := 12) dX5_lays_40 (by decide) ?_
        refine g_sub [2, 3, 1, 0] rfl ?_
        refine g_lv (lv' := [(0, .ref (γ.2.2 8)), (2, .int (nI s)), (3, .int (nI (m / n ^ (s - f)))), (4, .int (dn f))]) (by rw [Nat.div_div_eq_div_mul, ← Nat.pow_succ, show (s - (f + 1)).succ = s - f by omega]; rfl) ?_
        exact ih (upd F f (nI (m / n ^ (s - (f + 1)) % n))) (by omega) (fun p h5 h6 => by
          by_cases e : p = f
          · subst e; rw [upd_s, dig, show s - 1 - p = s - (p + 1) by omega]
          · rw [upd_n _ _ e]; exact hF p (by omega) h6)
  refine g_sub [2, 4, 1, 0] rfl ?_
  refine g_eq (I' := va_up J 27 (J 27)) (va_id _ _).symm rfl ?_
  refine g_lv (lv' := [(0, .ref (γ.2.2 8)), (2, .int (nI s)), (3, .int (nI (m / n ^ (s - s)))), (4, .int (dn s))]) (by rw [Nat.sub_self, Nat.pow_zero, Nat.div_one]; rfl) ?_
  exact lp s _ (Nat.le_refl _) (fun p h5 h6 => by omega)

set_option maxRecDepth 100000 in
set_option maxHeartbeats 4000000 in
theorem c_X5_sentencesOf (l : Launch) (γ : Gm) (I : IT) (L : LT) (P : PT) (g : GR) (n r9 q : Nat) (u : Nat → Nat) (hM : MR I g n r9 q u) (s : Nat) (hs1 : 1 ≤ s) (hs4 : s ≤ 4) : Ci l yX5_sentencesOf wsX5_sentencesOf 5 γ [.ref (γ.2.2 8), .int (nI s)] I L P (fun r I' L' => r = nI (bc (fun j => isS g r9 (dig n s j) s) (n ^ s)) ∧ FQ I I' ∧ I' 8 4 = I 8 4 ∧ L' = L) := by
  refine Ci_of (own := RX5) (cc := cX5_sentencesOf) (maxL := 4) (by decide) rfl rfl (Nat.le_of_ble_eq_true rfl) ?_
  refine g_sub (lv' := [(0, .ref (γ.2.2 8)), (1, .int (nI s))]) [0, 1] rfl ?_
  have hn9 := hM.1.n_le
  have hpow := pow_le4 hn9 hs4
  refine g_ic (v := nI 0) dX5_sentencesOf_0 (by decide) ?_
  refine g_is_n (lv' := [(2, .int (nI 0)), (0, .ref (γ.2.2 8)), (1, .int (nI s))]) dX5_sentencesOf_1 (by decide) rfl ?_
  refine g_ic (v := nI 0) dX5_sentencesOf_2 (by decide) ?_
  refine g_is_n (lv' := [(3, .int (nI 0)), (2, .int (nI 0)), (0, .ref (γ.2.2 8)), (1, .int (nI s))]) dX5_sentencesOf_3 (by decide) rfl ?_
  have lp : ∀ (z : Nat) (k : Nat) (c : Nat) (T : IT) (hk : k + z = n ^ s) (hc : c = bc (fun j => isS g r9 (dig n s j) s) k) (hQ : FQ I T) (h4 : T 8 4 = I 8 4), G E0 l cX5_sentencesOf 4 wsX5_sentencesOf RX5 (some .int) (rmd 5) γ P (AE γ) (Qi γ P (fun r I' L' => r = nI (bc (fun j => isS g r9 (dig n s j) s) (n ^ s)) ∧ FQ I I' ∧ I' 8 4 = I 8 4 ∧ L' = L)) 0 0 4 [(0, .ref (γ.2.2 8)), (1, .int (nI s)), (2, .int (nI c)), (3, .int (nI k))] [] T L := by
    intro z
    induction z with
    | zero =>
      intro k c T hk hc hQ h4
      simp only [Nat.add_zero] at hk
      have hTM := hQ.mr hM
      refine g_il_n 3 dX5_sentencesOf_4 rfl ?_
      refine g_al_n 0 dX5_sentencesOf_5 rfl ?_
      refine g_il_n 1 dX5_sentencesOf_6 rfl ?_
      refine g_pc (pc' := 7) rfl ?_
      refine g_ci0 (v := nI (n ^ s)) (r_V (st := [.int (nI k)]) (As := [.int (nI s)]) (d := 0) 8 (by decide) rfl rfl (c_X5_rows l γ T L P n s hTM.1.cn (by omega)) gX5_sentencesOf_X5_rows rfl ⟨rfl, by decide, by decide, rfl⟩ ⟨Nat.le_of_ble_eq_true rfl, Nat.le_of_ble_eq_true rfl⟩ rfl (Nat.le_of_ble_eq_true rfl) dX5_sentencesOf_7 ⟨Nat.zero_le _, Nat.zero_le _⟩) ?_
      refine gn_ge (tgt := 40) dX5_sentencesOf_10 (by decide) (by omega) (by omega) (fun h1 => ?_) (fun h1 => ?_)
      · skip
        refine g_il_n 2 dX5_sentencesOf_40 rfl ?_
        exact g_iret dX5_sentencesOf_41 (⟨by rw [hc, hk], hQ, h4, rfl⟩)
      · skip
        exfalso; omega
    | succ z ih =>
      intro k c T hk hc hQ h4
      have hTM := hQ.mr hM
      have hkn : k < n ^ s := by omega
      have hn0 := pow_pos_of hkn hs1
      refine g_il_n 3 dX5_sentencesOf_4 rfl ?_
      refine g_al_n 0 dX5_sentencesOf_5 rfl ?_
      refine g_il_n 1 dX5_sentencesOf_6 rfl ?_
      refine g_ci0 (v := nI (n ^ s)) (r_V (st := [.int (nI k)]) (As := [.int (nI s)]) (d := 0) 8 (by decide) rfl rfl (c_X5_rows l γ T L P n s hTM.1.cn (by omega)) gX5_sentencesOf_X5_rows rfl ⟨rfl, by decide, by decide, rfl⟩ ⟨Nat.le_of_ble_eq_true rfl, Nat.le_of_ble_eq_true rfl⟩ rfl (Nat.le_of_ble_eq_true rfl) dX5_sentencesOf_7 ⟨Nat.zero_le _, Nat.zero_le _⟩) ?_
      refine g_pc (pc' := 10) rfl ?_
      refine gn_ge (tgt := 40) dX5_sentencesOf_10 (by decide) (by omega) (by omega) (fun h1 => ?_) (fun h1 => ?_)
      · skip
        exfalso; omega
      · skip
        refine g_al_n 0 dX5_sentencesOf_13 rfl ?_
        refine g_il_n 3 dX5_sentencesOf_14 rfl ?_
        refine g_il_n 1 dX5_sentencesOf_15 rfl ?_
        refine g_cv (r_V (st := []) (As := [.int (nI k), .int (nI s)]) (d := 0) 8 (by decide) rfl rfl (c_X5_lays l γ T L P n k s (hTM.1.cn) hn0 hn9 (by omega) (by omega)) gX5_sentencesOf_X5_lays rfl ⟨rfl, by decide, by decide, rfl⟩ ⟨Nat.le_of_ble_eq_true rfl, Nat.le_of_ble_eq_true rfl⟩ rfl (Nat.le_of_ble_eq_true rfl) dX5_sentencesOf_16 ⟨Nat.zero_le _, Nat.zero_le _⟩) ?_
        rintro T2 Lz3 ⟨hA3, hAx, hAQ, hA4, eLz3⟩
        rw [eLz3]
        have hAM := hAQ.mr hTM
        refine g_il_n 2 dX5_sentencesOf_19 rfl ?_
        refine g_al_n 0 dX5_sentencesOf_20 rfl ?_
        refine g_ci (r_V (st := [.int (nI c)]) (As := []) (d := 4) 8 (by decide) rfl rfl (c_X5_isSentence2 l γ T2 L P g n r9 s (dig n s k) hAM.1 hA3 (by omega) hAx (fun p hp => dig_lt hn0)) gX5_sentencesOf_X5_isSentence rfl ⟨rfl, by decide, by decide, rfl⟩ ⟨Nat.le_of_ble_eq_true rfl, Nat.le_of_ble_eq_true rfl⟩ rfl (Nat.le_of_ble_eq_true rfl) dX5_sentencesOf_21 ⟨Nat.zero_le _, Nat.zero_le _⟩) ?_
        rintro rz4 T3 Lz4 ⟨ez4, hk28, eLz4⟩
        subst ez4
        rw [eLz4]
        have hQ3 : FQ I T3 := (hQ.trans hAQ).trans (FQ.k28 hk28)
        have h43 : T3 8 4 = I 8 4 := by rw [hk28 8 (by decide), hA4, h4]
        refine g_pc (pc' := 24) rfl ?_
        refine gb_eq (tgt := 31) dX5_sentencesOf_24 (by decide) (fun hb => ?_) (fun hb => ?_)
        · skip
          refine g_ic (v := nI 0) dX5_sentencesOf_31 (by decide) ?_
          refine g_iadd (v := nI (c + 0)) dX5_sentencesOf_32 (nI_add _ _) ?_
          refine g_is_n (lv' := [(2, .int (nI (c + 0))), (0, .ref (γ.2.2 8)), (1, .int (nI s)), (3, .int (nI k))]) dX5_sentencesOf_33 (by decide) rfl ?_
          refine g_inc (v := nI (k + 1)) (lv' := [(3, .int (nI (k + 1))), (2, .int (nI (c + 0))), (0, .ref (γ.2.2 8)), (1, .int (nI s))]) 3 dX5_sentencesOf_34 rfl (inc_1 _) (by decide) rfl ?_
          refine g_goto (tgt := 4) dX5_sentencesOf_37 (by decide) ?_
          refine g_sub [2, 3, 1, 0] rfl ?_
          exact ih (k + 1) (c + 0) T3 (by omega) (by rw [hc]; show _ = bc (fun j => isS g r9 (dig n s j) s) k + (if isS g r9 (dig n s k) s then 1 else 0); rw [hb]; rfl) hQ3 h43
        · skip
          refine g_ic (v := nI 1) dX5_sentencesOf_27 (by decide) ?_
          refine g_goto (tgt := 32) dX5_sentencesOf_28 (by decide) ?_
          refine g_pc (pc' := 32) rfl ?_
          refine g_iadd (v := nI (c + 1)) dX5_sentencesOf_32 (nI_add _ _) ?_
          refine g_is_n (lv' := [(2, .int (nI (c + 1))), (0, .ref (γ.2.2 8)), (1, .int (nI s)), (3, .int (nI k))]) dX5_sentencesOf_33 (by decide) rfl ?_
          refine g_inc (v := nI (k + 1)) (lv' := [(3, .int (nI (k + 1))), (2, .int (nI (c + 1))), (0, .ref (γ.2.2 8)), (1, .int (nI s))]) 3 dX5_sentencesOf_34 rfl (inc_1 _) (by decide) rfl ?_
          refine g_goto (tgt := 4) dX5_sentencesOf_37 (by decide) ?_
          refine g_sub [2, 3, 1, 0] rfl ?_
          exact ih (k + 1) (c + 1) T3 (by omega) (by rw [hc]; show _ = bc (fun j => isS g r9 (dig n s j) s) k + (if isS g r9 (dig n s k) s then 1 else 0); rw [hb]; rfl) hQ3 h43
  refine g_sub [2, 3, 1, 0] rfl ?_
  exact lp (n ^ s) 0 0 I (Nat.zero_add _) rfl (FQ.refl I) rfl

set_option maxRecDepth 100000 in
set_option maxHeartbeats 4000000 in
theorem c_X5_sentences (l : Launch) (γ : Gm) (I : IT) (L : LT) (P : PT) (g : GR) (n r9 q : Nat) (u : Nat → Nat) (hM : MR I g n r9 q u) (x : Int32) : Ci l yX5_sentences wsX5_sentences 6 γ [.ref (γ.2.2 8), .int x] I L P (fun r I' L' => (pB (∃ m, LEN x m) = true → r = nI (bc (fun j => isS g r9 (dig n (tn x) j) (tn x)) (n ^ tn x))) ∧ I' 8 4 = nI (cd2 (pB (∃ m, LEN x m)) true) ∧ FQ I I' ∧ L' = L) := by
  refine Ci_of (own := RX5) (cc := cX5_sentences) (maxL := 2) (by decide) rfl rfl (Nat.le_of_ble_eq_true rfl) ?_
  refine g_sub (lv' := [(0, .ref (γ.2.2 8)), (1, .int x)]) [0, 1] rfl ?_
  refine g_al_n 0 dX5_sentences_0 rfl ?_
  refine g_il_n 1 dX5_sentences_1 rfl ?_
  refine g_ci0 (v := bi (pB (∃ m, LEN x m))) (r_S (st := [.ref (γ.2.2 8)]) (As := [.int x]) (d := 0) (c_X5_isShort l γ I L P x) gX5_sentences_X5_isShort rfl ⟨by decide, by decide, rfl⟩ ⟨Nat.le_of_ble_eq_true rfl, Nat.le_of_ble_eq_true rfl⟩ rfl (Nat.le_of_ble_eq_true rfl) dX5_sentences_2 ⟨Nat.zero_le _, Nat.zero_le _⟩) ?_
  refine g_ic (v := bi true) dX5_sentences_5 (by decide) ?_
  refine g_ci (r_V (st := []) (As := [.int (bi (pB (∃ m, LEN x m))), .int (bi true)]) (d := 0) 8 (by decide) rfl rfl (c_X5_goes l γ I L P (pB (∃ m, LEN x m)) (true)) gX5_sentences_X5_goes rfl ⟨rfl, by decide, by decide, rfl⟩ ⟨Nat.le_of_ble_eq_true rfl, Nat.le_of_ble_eq_true rfl⟩ rfl (Nat.le_of_ble_eq_true rfl) dX5_sentences_6 ⟨Nat.zero_le _, Nat.zero_le _⟩) ?_
  rintro rz2 J Lz2 ⟨ez2, hJ4, hJ8, hJk, eLz2⟩
  subst ez2
  rw [eLz2]
  have hJQ : FQ I J := ⟨fun k h _ _ => hJk k h, fun j hj => hJ8 j (by omega)⟩
  have hJM := hJQ.mr hM
  refine gb_eq (tgt := 20) dX5_sentences_9 (by decide) (fun h1 => ?_) (fun h1 => ?_)
  · skip
    refine g_ic (v := nI 0) dX5_sentences_20 (by decide) ?_
    refine g_pc (pc' := 21) rfl ?_
    exact g_iret dX5_sentences_21 (⟨fun q9 => by rw [q9] at h1; exact absurd h1 (by simp), hJ4, hJQ, rfl⟩)
  · skip
    have hok : pB (∃ m, LEN x m) = true := by rw [← h1, Bool.and_true]
    obtain ⟨ex, hs1, hs4⟩ := LEN_tn (pB_t.mp hok)
    refine g_lv (lv' := [(0, .ref (γ.2.2 8)), (1, .int (nI (tn x)))]) (by rw [← ex]) ?_
    refine g_al_n 0 dX5_sentences_12 rfl ?_
    refine g_il_n 1 dX5_sentences_13 rfl ?_
    refine g_ci (r_V (st := []) (As := [.int (nI (tn x))]) (d := 5) 8 (by decide) rfl rfl (c_X5_sentencesOf l γ J L P g n r9 q u hJM (tn x) hs1 hs4) gX5_sentences_X5_sentencesOf rfl ⟨rfl, by decide, by decide, rfl⟩ ⟨Nat.le_of_ble_eq_true rfl, Nat.le_of_ble_eq_true rfl⟩ rfl (Nat.le_of_ble_eq_true rfl) dX5_sentences_14 ⟨Nat.zero_le _, Nat.zero_le _⟩) ?_
    rintro rz3 K Lz3 ⟨ez3, hKQ, hK4, eLz3⟩
    subst ez3
    rw [eLz3]
    refine g_goto (tgt := 21) dX5_sentences_17 (by decide) ?_
    exact g_iret dX5_sentences_21 (⟨fun _ => rfl, by rw [hK4]; exact hJ4, hJQ.trans hKQ, rfl⟩)

theorem in_X5_sentence_5 : ∀ w ∈ wsX50, w ∈ wsX5_sentence := by decide +kernel
set_option maxRecDepth 100000 in
set_option maxHeartbeats 4000000 in
theorem c_X5_sentence (l : Launch) (γ : Gm) (I : IT) (L : LT) (P : PT) (g : GR) (n r9 q : Nat) (u : Nat → Nat) (hM : MR I g n r9 q u) (x y : Int32) : Ci l yX5_sentence wsX5_sentence 5 γ [.ref (γ.2.2 8), .int x, .int y] I L P (fun r I' L' => ((pB (∃ m, LEN x m) && pB (¬ y < 0)) = true → r = (match kfs (fun j => isS g r9 (dig n (tn x) j) (tn x)) (n ^ tn x) 0 (tn y) with | some j => nI (tdig (dig n (tn x) j) (tn x)) | none => -1)) ∧ I' 8 4 = nI (cd2 (pB (∃ m, LEN x m) && pB (¬ y < 0)) true) ∧ FQ I I' ∧ L' = L) := by
  refine Ci_of (own := RX5) (cc := cX5_sentence) (maxL := 7) (by decide) rfl rfl (Nat.le_of_ble_eq_true rfl) ?_
  refine g_sub (lv' := [(0, .ref (γ.2.2 8)), (1, .int x), (2, .int y)]) [0, 1, 2] rfl ?_
  refine g_al_n 0 dX5_sentence_0 rfl ?_
  refine g_il_n 1 dX5_sentence_1 rfl ?_
  refine g_ci0 (v := bi (pB (∃ m, LEN x m))) (r_S (st := [.ref (γ.2.2 8)]) (As := [.int x]) (d := 0) (c_X5_isShort l γ I L P x) gX5_sentence_X5_isShort rfl ⟨by decide, by decide, rfl⟩ ⟨Nat.le_of_ble_eq_true rfl, Nat.le_of_ble_eq_true rfl⟩ rfl (Nat.le_of_ble_eq_true rfl) dX5_sentence_2 ⟨Nat.zero_le _, Nat.zero_le _⟩) ?_
  refine gb_eq (tgt := 16) dX5_sentence_5 (by decide) (fun h1 => ?_) (fun h1 => ?_)
  · skip
    have hok : (pB (∃ m, LEN x m) && pB (¬ y < 0)) = false := by rw [h1]; rfl
    refine g_ic (v := bi false) dX5_sentence_16 (by decide) ?_
    refine g_ic (v := bi true) dX5_sentence_17 (by decide) ?_
    refine g_ci (r_V (st := []) (As := [.int (bi false), .int (bi true)]) (d := 0) 8 (by decide) rfl rfl (c_X5_goes l γ I L P (false) (true)) gX5_sentence_X5_goes rfl ⟨rfl, by decide, by decide, rfl⟩ ⟨Nat.le_of_ble_eq_true rfl, Nat.le_of_ble_eq_true rfl⟩ rfl (Nat.le_of_ble_eq_true rfl) dX5_sentence_18 ⟨Nat.zero_le _, Nat.zero_le _⟩) ?_
    rintro rz2 J Lz2 ⟨ez2, hJ4, hJ8, hJk, eLz2⟩
    subst ez2
    rw [eLz2]
    have hJQ : FQ I J := ⟨fun k h _ _ => hJk k h, fun j hj => hJ8 j (by omega)⟩
    have hJM := hJQ.mr hM
    refine g_pc (pc' := 21) rfl ?_
    refine gb_ne (tgt := 26) dX5_sentence_21 (by decide) (fun h9 => ?_) (fun h9 => ?_)
    · skip
      exact absurd h9 (by simp)
    · skip
      refine g_ic (v := nI 0) dX5_sentence_24 (by decide) ?_
      exact g_iret dX5_sentence_25 (⟨fun q9 => by rw [hok] at q9; exact absurd q9 (by simp), by rw [hok]; exact hJ4, hJQ, rfl⟩)
  · skip
    refine g_il_n 2 dX5_sentence_8 rfl ?_
    refine g_if_lt (tgt := 16) dX5_sentence_9 (by decide) (fun h2 => ?_) (fun h2 => ?_)
    · skip
      have hok : (pB (∃ m, LEN x m) && pB (¬ y < 0)) = false := by rw [show pB (¬ y < 0) = false from pB_no (fun q9 => q9 h2), Bool.and_false]
      refine g_ic (v := bi false) dX5_sentence_16 (by decide) ?_
      refine g_ic (v := bi true) dX5_sentence_17 (by decide) ?_
      refine g_ci (r_V (st := []) (As := [.int (bi false), .int (bi true)]) (d := 0) 8 (by decide) rfl rfl (c_X5_goes l γ I L P (false) (true)) gX5_sentence_X5_goes rfl ⟨rfl, by decide, by decide, rfl⟩ ⟨Nat.le_of_ble_eq_true rfl, Nat.le_of_ble_eq_true rfl⟩ rfl (Nat.le_of_ble_eq_true rfl) dX5_sentence_18 ⟨Nat.zero_le _, Nat.zero_le _⟩) ?_
      rintro rz3 J Lz3 ⟨ez3, hJ4, hJ8, hJk, eLz3⟩
      subst ez3
      rw [eLz3]
      have hJQ : FQ I J := ⟨fun k h _ _ => hJk k h, fun j hj => hJ8 j (by omega)⟩
      have hJM := hJQ.mr hM
      refine g_pc (pc' := 21) rfl ?_
      refine gb_ne (tgt := 26) dX5_sentence_21 (by decide) (fun h9 => ?_) (fun h9 => ?_)
      · skip
        exact absurd h9 (by simp)
      · skip
        refine g_ic (v := nI 0) dX5_sentence_24 (by decide) ?_
        exact g_iret dX5_sentence_25 (⟨fun q9 => by rw [hok] at q9; exact absurd q9 (by simp), by rw [hok]; exact hJ4, hJQ, rfl⟩)
    · skip
      have hok : (pB (∃ m, LEN x m) && pB (¬ y < 0)) = true := by rw [h1, pB_of h2]; rfl
      refine g_ic (v := bi true) dX5_sentence_12 (by decide) ?_
      refine g_goto (tgt := 17) dX5_sentence_13 (by decide) ?_
      refine g_ic (v := bi true) dX5_sentence_17 (by decide) ?_
      refine g_ci (r_V (st := []) (As := [.int (bi true), .int (bi true)]) (d := 0) 8 (by decide) rfl rfl (c_X5_goes l γ I L P (true) (true)) gX5_sentence_X5_goes rfl ⟨rfl, by decide, by decide, rfl⟩ ⟨Nat.le_of_ble_eq_true rfl, Nat.le_of_ble_eq_true rfl⟩ rfl (Nat.le_of_ble_eq_true rfl) dX5_sentence_18 ⟨Nat.zero_le _, Nat.zero_le _⟩) ?_
      rintro rz4 J Lz4 ⟨ez4, hJ4, hJ8, hJk, eLz4⟩
      subst ez4
      rw [eLz4]
      have hJQ : FQ I J := ⟨fun k h _ _ => hJk k h, fun j hj => hJ8 j (by omega)⟩
      have hJM := hJQ.mr hM
      refine gb_ne (tgt := 26) dX5_sentence_21 (by decide) (fun h9 => ?_) (fun h9 => ?_)
      · skip
        obtain ⟨ex, hs1, hs4⟩ := LEN_tn (pB_t.mp h1)
        obtain ⟨s, es⟩ : ∃ s, s = tn x := ⟨_, rfl⟩
        rw [← es] at ex hs1 hs4
        obtain ⟨Y, hY, ey⟩ := nI_of h2
        have eY : tn y = Y := by rw [ey]; exact tn_nI hY
        refine g_lv (lv' := [(0, .ref (γ.2.2 8)), (1, .int (nI s)), (2, .int (nI Y))]) (by rw [← ex, ← ey]) ?_
        have hn9 := hM.1.n_le
        have hpow := pow_le4 hn9 hs4
        refine g_pc (pc' := 26) rfl ?_
        refine g_il_n 2 dX5_sentence_26 rfl ?_
        refine g_is_n (lv' := [(3, .int (nI Y)), (0, .ref (γ.2.2 8)), (1, .int (nI s)), (2, .int (nI Y))]) dX5_sentence_27 (by decide) rfl ?_
        refine g_ic (v := (-1 : Int32)) dX5_sentence_28 (by decide) ?_
        refine g_is (lv' := [(4, .int (-1 : Int32)), (3, .int (nI Y)), (0, .ref (γ.2.2 8)), (1, .int (nI s)), (2, .int (nI Y))]) dX5_sentence_29 (by decide) rfl ?_
        refine g_ic (v := nI 0) dX5_sentence_31 (by decide) ?_
        refine g_is (lv' := [(5, .int (nI 0)), (4, .int (-1 : Int32)), (3, .int (nI Y)), (0, .ref (γ.2.2 8)), (1, .int (nI s)), (2, .int (nI Y))]) dX5_sentence_32 (by decide) rfl ?_
        have lp : ∀ (z : Nat) (k : Nat) (M : Nat) (T : IT) (hk : k + z = n ^ s) (hkf : kfs (fun j => isS g r9 (dig n s j) s) z k M = kfs (fun j => isS g r9 (dig n s j) s) (n ^ s) 0 Y) (hMl : M < 2 ^ 31) (hQ : FQ J T) (h4 : T 8 4 = J 8 4), G E0 l cX5_sentence 7 wsX5_sentence RX5 (some .int) (rmd 5) γ P (AE γ) (Qi γ P (fun r I' L' => ((pB (∃ m, LEN x m) && pB (¬ y < 0)) = true → r = (match kfs (fun j => isS g r9 (dig n (tn x) j) (tn x)) (n ^ tn x) 0 (tn y) with | some j => nI (tdig (dig n (tn x) j) (tn x)) | none => -1)) ∧ I' 8 4 = nI (cd2 (pB (∃ m, LEN x m) && pB (¬ y < 0)) true) ∧ FQ I I' ∧ L' = L)) 0 0 34 [(0, .ref (γ.2.2 8)), (1, .int (nI s)), (3, .int (nI M)), (4, .int (-1 : Int32)), (5, .int (nI k))] [] T L := by
          intro z
          induction z with
          | zero =>
            intro k M T hk hkf hMl hQ h4
            simp only [Nat.add_zero] at hk
            have hTM := hQ.mr hJM
            refine g_il 4 dX5_sentence_34 rfl ?_
            refine g_al_n 0 dX5_sentence_36 rfl ?_
            refine g_pc (pc' := 37) rfl ?_
            refine g_il_n 1 dX5_sentence_37 rfl ?_
            refine g_ci0 (v := nI (n ^ s)) (r_V (st := [.int (nI k)]) (As := [.int (nI s)]) (d := 0) 8 (by decide) rfl rfl (c_X5_rows l γ T L P n s hTM.1.cn (by omega)) gX5_sentence_X5_rows rfl ⟨rfl, by decide, by decide, rfl⟩ ⟨Nat.le_of_ble_eq_true rfl, Nat.le_of_ble_eq_true rfl⟩ rfl (Nat.le_of_ble_eq_true rfl) dX5_sentence_38 ⟨Nat.zero_le _, Nat.zero_le _⟩) ?_
            refine gn_ge (tgt := 98) dX5_sentence_41 (by decide) (by omega) (by omega) (fun h10 => ?_) (fun h10 => ?_)
            · skip
              refine g_il 3 dX5_sentence_98 rfl ?_
              refine g_if_ge (tgt := 105) dX5_sentence_100 (by decide) (fun h15 => ?_) (fun h15 => ?_)
              · skip
                exact absurd h15 (by decide)
              · skip
                refine g_ic (v := (-1 : Int32)) dX5_sentence_103 (by decide) ?_
                exact g_iret dX5_sentence_104 (⟨fun _ => by rw [← es, eY, ← hkf]; rfl, by rw [h4, hok]; exact hJ4, hJQ.trans hQ, rfl⟩)
            · skip
              exfalso; omega
          | succ z ih =>
            intro k M T hk hkf hMl hQ h4
            have hTM := hQ.mr hJM
            have hkn : k < n ^ s := by omega
            have hn0 := pow_pos_of hkn hs1
            refine g_il 4 dX5_sentence_34 rfl ?_
            refine g_pc (pc' := 36) rfl ?_
            refine g_al_n 0 dX5_sentence_36 rfl ?_
            refine g_il_n 1 dX5_sentence_37 rfl ?_
            refine g_ci0 (v := nI (n ^ s)) (r_V (st := [.int (nI k)]) (As := [.int (nI s)]) (d := 0) 8 (by decide) rfl rfl (c_X5_rows l γ T L P n s hTM.1.cn (by omega)) gX5_sentence_X5_rows rfl ⟨rfl, by decide, by decide, rfl⟩ ⟨Nat.le_of_ble_eq_true rfl, Nat.le_of_ble_eq_true rfl⟩ rfl (Nat.le_of_ble_eq_true rfl) dX5_sentence_38 ⟨Nat.zero_le _, Nat.zero_le _⟩) ?_
            refine gn_ge (tgt := 98) dX5_sentence_41 (by decide) (by omega) (by omega) (fun h10 => ?_) (fun h10 => ?_)
            · skip
              exfalso; omega
            · skip
              refine g_il 3 dX5_sentence_44 rfl ?_
              refine g_if_ge (tgt := 98) dX5_sentence_46 (by decide) (fun h14 => ?_) (fun h14 => ?_)
              · skip
                exact absurd h14 (by decide)
              · skip
                refine g_al_n 0 dX5_sentence_49 rfl ?_
                refine g_il 4 dX5_sentence_50 rfl ?_
                refine g_pc (pc' := 52) rfl ?_
                refine g_il_n 1 dX5_sentence_52 rfl ?_
                refine g_cv (r_V (st := []) (As := [.int (nI k), .int (nI s)]) (d := 0) 8 (by decide) rfl rfl (c_X5_lays l γ T L P n k s (hTM.1.cn) hn0 hn9 (by omega) (by omega)) gX5_sentence_X5_lays rfl ⟨rfl, by decide, by decide, rfl⟩ ⟨Nat.le_of_ble_eq_true rfl, Nat.le_of_ble_eq_true rfl⟩ rfl (Nat.le_of_ble_eq_true rfl) dX5_sentence_53 ⟨Nat.zero_le _, Nat.zero_le _⟩) ?_
                rintro T2 Lz7 ⟨hA3, hAx, hAQ, hA4, eLz7⟩
                rw [eLz7]
                have hAM := hAQ.mr hTM
                refine g_al_n 0 dX5_sentence_56 rfl ?_
                refine g_ci (r_V (st := []) (As := []) (d := 4) 8 (by decide) rfl rfl (c_X5_isSentence2 l γ T2 L P g n r9 s (dig n s k) hAM.1 hA3 (by omega) hAx (fun p hp => dig_lt hn0)) gX5_sentence_X5_isSentence rfl ⟨rfl, by decide, by decide, rfl⟩ ⟨Nat.le_of_ble_eq_true rfl, Nat.le_of_ble_eq_true rfl⟩ rfl (Nat.le_of_ble_eq_true rfl) dX5_sentence_57 ⟨Nat.zero_le _, Nat.zero_le _⟩) ?_
                rintro rz8 T3 Lz8 ⟨ez8, hk28, eLz8⟩
                subst ez8
                rw [eLz8]
                have hQ3 : FQ J T3 := (hQ.trans hAQ).trans (FQ.k28 hk28)
                have h43 : T3 8 4 = J 8 4 := by rw [hk28 8 (by decide), hA4, h4]
                refine g_is (lv' := [(6, .int (bi (isS g r9 (dig n s k) s))), (0, .ref (γ.2.2 8)), (1, .int (nI s)), (3, .int (nI M)), (4, .int (-1 : Int32)), (5, .int (nI k))]) dX5_sentence_60 (by decide) rfl ?_
                refine g_il 0 dX5_sentence_62 rfl ?_
                refine gb_eq (tgt := 76) dX5_sentence_64 (by decide) (fun hb => ?_) (fun hb => ?_)
                · skip
                  refine g_ic (v := (-1 : Int32)) dX5_sentence_76 (by decide) ?_
                  refine g_pc (pc' := 77) rfl ?_
                  refine g_is (lv' := [(4, .int (-1 : Int32)), (6, .int (bi (isS g r9 (dig n s k) s))), (0, .ref (γ.2.2 8)), (1, .int (nI s)), (3, .int (nI M)), (5, .int (nI k))]) dX5_sentence_77 (by decide) rfl ?_
                  refine g_il_n 4 dX5_sentence_79 rfl ?_
                  refine g_il 1 dX5_sentence_80 rfl ?_
                  refine gb_eq (tgt := 89) dX5_sentence_82 (by decide) (fun hb2 => ?_) (fun hb2 => ?_)
                  · skip
                    refine g_ic (v := nI 0) dX5_sentence_89 (by decide) ?_
                    refine g_isub (v := nI (M - 0)) dX5_sentence_90 (pk_sub (by omega)) ?_
                    refine g_is_n (lv' := [(3, .int (nI (M - 0))), (4, .int (-1 : Int32)), (6, .int (bi (isS g r9 (dig n s k) s))), (0, .ref (γ.2.2 8)), (1, .int (nI s)), (5, .int (nI k))]) dX5_sentence_91 (by decide) rfl ?_
                    refine g_inc (v := nI (k + 1)) (lv' := [(5, .int (nI (k + 1))), (3, .int (nI (M - 0))), (4, .int (-1 : Int32)), (6, .int (bi (isS g r9 (dig n s k) s))), (0, .ref (γ.2.2 8)), (1, .int (nI s))]) 5 dX5_sentence_92 rfl (inc_1 _) (by decide) rfl ?_
                    refine g_pc (pc' := 95) rfl ?_
                    refine g_goto (tgt := 34) dX5_sentence_95 (by decide) ?_
                    refine g_sub [4, 5, 1, 2, 0] rfl ?_
                    exact ih (k + 1) (M - 0) T3 (by omega) (by rw [← hkf, kfs_s, hb]; rfl) (by omega) hQ3 h43
                  · skip
                    exact absurd (hb.symm.trans hb2) (by simp)
                · skip
                  refine g_il_n 3 dX5_sentence_67 rfl ?_
                  refine gz_ne (tgt := 76) dX5_sentence_68 (by decide) (by omega) (fun h11 => ?_) (fun h11 => ?_)
                  · skip
                    refine g_ic (v := (-1 : Int32)) dX5_sentence_76 (by decide) ?_
                    refine g_is (lv' := [(4, .int (-1 : Int32)), (6, .int (bi (isS g r9 (dig n s k) s))), (0, .ref (γ.2.2 8)), (1, .int (nI s)), (3, .int (nI M)), (5, .int (nI k))]) dX5_sentence_77 (by decide) rfl ?_
                    refine g_il_n 4 dX5_sentence_79 rfl ?_
                    refine g_il 1 dX5_sentence_80 rfl ?_
                    refine gb_eq (tgt := 89) dX5_sentence_82 (by decide) (fun hb2 => ?_) (fun hb2 => ?_)
                    · skip
                      exact absurd (hb.symm.trans hb2) (by simp)
                    · skip
                      refine g_pc (pc' := 85) rfl ?_
                      refine g_ic (v := nI 1) dX5_sentence_85 (by decide) ?_
                      refine g_goto (tgt := 90) dX5_sentence_86 (by decide) ?_
                      refine g_isub (v := nI (M - 1)) dX5_sentence_90 (pk_sub (by omega)) ?_
                      refine g_is_n (lv' := [(3, .int (nI (M - 1))), (4, .int (-1 : Int32)), (6, .int (bi (isS g r9 (dig n s k) s))), (0, .ref (γ.2.2 8)), (1, .int (nI s)), (5, .int (nI k))]) dX5_sentence_91 (by decide) rfl ?_
                      refine g_inc (v := nI (k + 1)) (lv' := [(5, .int (nI (k + 1))), (3, .int (nI (M - 1))), (4, .int (-1 : Int32)), (6, .int (bi (isS g r9 (dig n s k) s))), (0, .ref (γ.2.2 8)), (1, .int (nI s))]) 5 dX5_sentence_92 rfl (inc_1 _) (by decide) rfl ?_
                      refine g_goto (tgt := 34) dX5_sentence_95 (by decide) ?_
                      refine g_sub [4, 5, 1, 2, 0] rfl ?_
                      exact ih (k + 1) (M - 1) T3 (by omega) (by rw [← hkf, kfs_s, hb, if_pos rfl, if_neg h11]) (by omega) hQ3 h43
                  · skip
                    refine g_il 5 dX5_sentence_71 rfl ?_
                    refine g_goto (tgt := 77) dX5_sentence_73 (by decide) ?_
                    refine g_pc (pc' := 77) rfl ?_
                    refine g_is (lv' := [(4, .int (nI k)), (6, .int (bi (isS g r9 (dig n s k) s))), (0, .ref (γ.2.2 8)), (1, .int (nI s)), (3, .int (nI M)), (5, .int (nI k))]) dX5_sentence_77 (by decide) rfl ?_
                    refine g_il_n 4 dX5_sentence_79 rfl ?_
                    refine g_il 1 dX5_sentence_80 rfl ?_
                    refine gb_eq (tgt := 89) dX5_sentence_82 (by decide) (fun hb2 => ?_) (fun hb2 => ?_)
                    · skip
                      exact absurd (hb.symm.trans hb2) (by simp)
                    · skip
                      refine g_ic (v := nI 1) dX5_sentence_85 (by decide) ?_
                      refine g_goto (tgt := 90) dX5_sentence_86 (by decide) ?_
                      refine g_isub (v := (-1 : Int32)) dX5_sentence_90 (by rw [h11]; rfl) ?_
                      refine g_is_n (lv' := [(3, .int (-1 : Int32)), (4, .int (nI k)), (6, .int (bi (isS g r9 (dig n s k) s))), (0, .ref (γ.2.2 8)), (1, .int (nI s)), (5, .int (nI k))]) dX5_sentence_91 (by decide) rfl ?_
                      refine g_pc (pc' := 92) rfl ?_
                      refine g_inc (v := nI (k + 1)) (lv' := [(5, .int (nI (k + 1))), (3, .int (-1 : Int32)), (4, .int (nI k)), (6, .int (bi (isS g r9 (dig n s k) s))), (0, .ref (γ.2.2 8)), (1, .int (nI s))]) 5 dX5_sentence_92 rfl (inc_1 _) (by decide) rfl ?_
                      refine g_goto (tgt := 34) dX5_sentence_95 (by decide) ?_
                      refine g_sub [4, 5, 1, 2, 0] rfl ?_
                      have hkf : some k = kfs (fun j => isS g r9 (dig n s j) s) (n ^ s) 0 Y := by rw [← hkf, kfs_s, hb, if_pos rfl, if_pos h11]
                      have hTM3 := hQ3.mr hJM
                      refine g_lv (lv' := [(0, .ref (γ.2.2 8)), (1, .int (nI s)), (3, .int (-1 : Int32)), (4, .int (nI k)), (5, .int (nI (k + 1)))]) rfl ?_
                      refine g_il 4 dX5_sentence_34 rfl ?_
                      refine g_al_n 0 dX5_sentence_36 rfl ?_
                      refine g_il_n 1 dX5_sentence_37 rfl ?_
                      refine g_ci0 (v := nI (n ^ s)) (r_V (st := [.int (nI (k + 1))]) (As := [.int (nI s)]) (d := 0) 8 (by decide) rfl rfl (c_X5_rows l γ T3 L P n s hTM3.1.cn (by omega)) gX5_sentence_X5_rows rfl ⟨rfl, by decide, by decide, rfl⟩ ⟨Nat.le_of_ble_eq_true rfl, Nat.le_of_ble_eq_true rfl⟩ rfl (Nat.le_of_ble_eq_true rfl) dX5_sentence_38 ⟨Nat.zero_le _, Nat.zero_le _⟩) ?_
                      refine gn_ge (tgt := 98) dX5_sentence_41 (by decide) (by omega) (by omega) (fun h13 => ?_) (fun h13 => ?_)
                      · skip
                        refine g_il 3 dX5_sentence_98 rfl ?_
                        refine gz_ge (tgt := 105) dX5_sentence_100 (by decide) (by omega) (fun h15 => ?_) (fun h15 => ?_)
                        · skip
                          refine g_pc (pc' := 105) rfl ?_
                          refine g_bi (v := nI 9) dX5_sentence_105 (by decide) ?_
                          refine g_is (lv' := [(5, .int (nI 9)), (0, .ref (γ.2.2 8)), (1, .int (nI s)), (3, .int (-1 : Int32)), (4, .int (nI k))]) dX5_sentence_107 (by decide) rfl ?_
                          refine g_ic (v := nI 0) dX5_sentence_109 (by decide) ?_
                          refine g_is (lv' := [(6, .int (nI 0)), (5, .int (nI 9)), (0, .ref (γ.2.2 8)), (1, .int (nI s)), (3, .int (-1 : Int32)), (4, .int (nI k))]) dX5_sentence_110 (by decide) rfl ?_
                          have lt : ∀ (z : Nat) (p : Nat) (t : Nat) (hp : p + z = s) (ht : t = tdig (dig n s k) p), G E0 l cX5_sentence 7 wsX5_sentence RX5 (some .int) (rmd 5) γ P (AE γ) (Qi γ P (fun r I' L' => ((pB (∃ m, LEN x m) && pB (¬ y < 0)) = true → r = (match kfs (fun j => isS g r9 (dig n (tn x) j) (tn x)) (n ^ tn x) 0 (tn y) with | some j => nI (tdig (dig n (tn x) j) (tn x)) | none => -1)) ∧ I' 8 4 = nI (cd2 (pB (∃ m, LEN x m) && pB (¬ y < 0)) true) ∧ FQ I I' ∧ L' = L)) 0 0 112 [(0, .ref (γ.2.2 8)), (1, .int (nI s)), (5, .int (nI t)), (6, .int (nI p))] [] T3 L := by
                            intro z
                            induction z with
                            | zero =>
                              intro p t hp ht
                              simp only [Nat.add_zero] at hp
                              refine g_il 3 dX5_sentence_112 rfl ?_
                              refine g_il_n 1 dX5_sentence_114 rfl ?_
                              refine gn_ge (tgt := 139) dX5_sentence_115 (by decide) (by omega) (by omega) (fun h12 => ?_) (fun h12 => ?_)
                              · skip
                                refine g_il 2 dX5_sentence_139 rfl ?_
                                refine g_pc (pc' := 141) rfl ?_
                                exact g_iret dX5_sentence_141 (⟨fun _ => by rw [ht, hp, ← es, eY, ← hkf], by rw [h43, hok]; exact hJ4, hJQ.trans hQ3, rfl⟩)
                              · skip
                                exfalso; omega
                            | succ z ih =>
                              intro p t hp ht
                              refine g_il 3 dX5_sentence_112 rfl ?_
                              refine g_il_n 1 dX5_sentence_114 rfl ?_
                              refine gn_ge (tgt := 139) dX5_sentence_115 (by decide) (by omega) (by omega) (fun h12 => ?_) (fun h12 => ?_)
                              · skip
                                exfalso; omega
                              · skip
                                refine g_bi (v := nI 10) dX5_sentence_118 (by decide) ?_
                                refine g_il 2 dX5_sentence_120 rfl ?_
                                refine g_imul (v := nI (10 * t)) dX5_sentence_122 (pk_mul _ _) ?_
                                refine g_al_n 0 dX5_sentence_123 rfl ?_
                                refine g_pc (pc' := 124) rfl ?_
                                refine g_get (v := .ref (γ.2.2 27)) 8 10 (by decide) rfl in_X5_sentence_5 rfl (by decide) (by decide +kernel) rfl rfl dX5_sentence_124 ?_
                                refine g_il 3 dX5_sentence_127 rfl ?_
                                refine g_iald (v := nI (dig n s k p)) 27 p (by decide) (by decide) (show p < 6 by omega) (by rw [hk28 27 (by decide)]; exact hAx p (by omega)) dX5_sentence_129 ?_
                                refine g_iadd (v := nI (10 * t + (dig n s k p))) dX5_sentence_130 (nI_add _ _) ?_
                                refine g_is (lv' := [(5, .int (nI (10 * t + (dig n s k p)))), (0, .ref (γ.2.2 8)), (1, .int (nI s)), (6, .int (nI p))]) dX5_sentence_131 (by decide) rfl ?_
                                refine g_inc (v := nI (p + 1)) (lv' := [(6, .int (nI (p + 1))), (5, .int (nI (10 * t + (dig n s k p)))), (0, .ref (γ.2.2 8)), (1, .int (nI s))]) 3 dX5_sentence_133 rfl (inc_1 _) (by decide) rfl ?_
                                refine g_goto (tgt := 112) dX5_sentence_136 (by decide) ?_
                                refine g_sub [2, 3, 1, 0] rfl ?_
                                exact ih (p + 1) (10 * t + dig n s k p) (by omega) (by rw [ht]; rfl)
                          refine g_sub [2, 3, 1, 0] rfl ?_
                          exact lt s 0 9 (Nat.zero_add _) rfl
                        · skip
                          exact h15.elim
                      · skip
                        refine g_il 3 dX5_sentence_44 rfl ?_
                        refine g_pc (pc' := 46) rfl ?_
                        refine gz_ge (tgt := 98) dX5_sentence_46 (by decide) (by omega) (fun h14 => ?_) (fun h14 => ?_)
                        · skip
                          refine g_il 3 dX5_sentence_98 rfl ?_
                          refine gz_ge (tgt := 105) dX5_sentence_100 (by decide) (by omega) (fun h15 => ?_) (fun h15 => ?_)
                          · skip
                            refine g_bi (v := nI 9) dX5_sentence_105 (by decide) ?_
                            refine g_is (lv' := [(5, .int (nI 9)), (0, .ref (γ.2.2 8)), (1, .int (nI s)), (3, .int (-1 : Int32)), (4, .int (nI k))]) dX5_sentence_107 (by decide) rfl ?_
                            refine g_ic (v := nI 0) dX5_sentence_109 (by decide) ?_
                            refine g_is (lv' := [(6, .int (nI 0)), (5, .int (nI 9)), (0, .ref (γ.2.2 8)), (1, .int (nI s)), (3, .int (-1 : Int32)), (4, .int (nI k))]) dX5_sentence_110 (by decide) rfl ?_
                            have lt : ∀ (z : Nat) (p : Nat) (t : Nat) (hp : p + z = s) (ht : t = tdig (dig n s k) p), G E0 l cX5_sentence 7 wsX5_sentence RX5 (some .int) (rmd 5) γ P (AE γ) (Qi γ P (fun r I' L' => ((pB (∃ m, LEN x m) && pB (¬ y < 0)) = true → r = (match kfs (fun j => isS g r9 (dig n (tn x) j) (tn x)) (n ^ tn x) 0 (tn y) with | some j => nI (tdig (dig n (tn x) j) (tn x)) | none => -1)) ∧ I' 8 4 = nI (cd2 (pB (∃ m, LEN x m) && pB (¬ y < 0)) true) ∧ FQ I I' ∧ L' = L)) 0 0 112 [(0, .ref (γ.2.2 8)), (1, .int (nI s)), (5, .int (nI t)), (6, .int (nI p))] [] T3 L := by
                              intro z
                              induction z with
                              | zero =>
                                intro p t hp ht
                                simp only [Nat.add_zero] at hp
                                refine g_il 3 dX5_sentence_112 rfl ?_
                                refine g_pc (pc' := 114) rfl ?_
                                refine g_il_n 1 dX5_sentence_114 rfl ?_
                                refine gn_ge (tgt := 139) dX5_sentence_115 (by decide) (by omega) (by omega) (fun h12 => ?_) (fun h12 => ?_)
                                · skip
                                  refine g_il 2 dX5_sentence_139 rfl ?_
                                  exact g_iret dX5_sentence_141 (⟨fun _ => by rw [ht, hp, ← es, eY, ← hkf], by rw [h43, hok]; exact hJ4, hJQ.trans hQ3, rfl⟩)
                                · skip
                                  exfalso; omega
                              | succ z ih =>
                                intro p t hp ht
                                refine g_il 3 dX5_sentence_112 rfl ?_
                                refine g_il_n 1 dX5_sentence_114 rfl ?_
                                refine gn_ge (tgt := 139) dX5_sentence_115 (by decide) (by omega) (by omega) (fun h12 => ?_) (fun h12 => ?_)
                                · skip
                                  exfalso; omega
                                · skip
                                  refine g_bi (v := nI 10) dX5_sentence_118 (by decide) ?_
                                  refine g_pc (pc' := 120) rfl ?_
                                  refine g_il 2 dX5_sentence_120 rfl ?_
                                  refine g_imul (v := nI (10 * t)) dX5_sentence_122 (pk_mul _ _) ?_
                                  refine g_al_n 0 dX5_sentence_123 rfl ?_
                                  refine g_get (v := .ref (γ.2.2 27)) 8 10 (by decide) rfl in_X5_sentence_5 rfl (by decide) (by decide +kernel) rfl rfl dX5_sentence_124 ?_
                                  refine g_il 3 dX5_sentence_127 rfl ?_
                                  refine g_iald (v := nI (dig n s k p)) 27 p (by decide) (by decide) (show p < 6 by omega) (by rw [hk28 27 (by decide)]; exact hAx p (by omega)) dX5_sentence_129 ?_
                                  refine g_iadd (v := nI (10 * t + (dig n s k p))) dX5_sentence_130 (nI_add _ _) ?_
                                  refine g_is (lv' := [(5, .int (nI (10 * t + (dig n s k p)))), (0, .ref (γ.2.2 8)), (1, .int (nI s)), (6, .int (nI p))]) dX5_sentence_131 (by decide) rfl ?_
                                  refine g_pc (pc' := 133) rfl ?_
                                  refine g_inc (v := nI (p + 1)) (lv' := [(6, .int (nI (p + 1))), (5, .int (nI (10 * t + (dig n s k p)))), (0, .ref (γ.2.2 8)), (1, .int (nI s))]) 3 dX5_sentence_133 rfl (inc_1 _) (by decide) rfl ?_
                                  refine g_goto (tgt := 112) dX5_sentence_136 (by decide) ?_
                                  refine g_sub [2, 3, 1, 0] rfl ?_
                                  exact ih (p + 1) (10 * t + dig n s k p) (by omega) (by rw [ht]; rfl)
                            refine g_sub [2, 3, 1, 0] rfl ?_
                            exact lt s 0 9 (Nat.zero_add _) rfl
                          · skip
                            exact h15.elim
                        · skip
                          exact h14.elim
        refine g_sub [3, 4, 2, 1, 0] rfl ?_
        exact lp (n ^ s) 0 Y J (Nat.zero_add _) rfl hY (FQ.refl J) rfl
      · skip
        exact absurd h9 (by simp)
