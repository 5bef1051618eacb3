/-! the sets of pairs: what a rule makes; the chart -/
theorem row_at {F : Nat → Int32} {m : Nat} (h : ∀ k, k < 256 → F k = enc (jp m (k / 16) (k % 16))) {a b : Nat} (ha : a < 16) (hb : b < 16) : F (a * 16 + b) = enc (jp m a b) := by
  rw [h _ (by omega), show (a * 16 + b) / 16 = a by omega, show (a * 16 + b) % 16 = b by omega]
theorem pow_lt31 {v : Nat} (h : v < 16) : 2 ^ v < 2 ^ 31 := Nat.pow_lt_pow_right (by decide) (by omega)
/-- what any word makes at a place -/
def wany (g : GR) (n c : Nat) : Nat := orf (fun w => wset g w c) n
theorem str_eq {g : GR} {A B : Nat → Nat} {c ρ : Nat} (h : g 2 ρ = c) : str g A B c ρ = pmk (g 5 ρ) (A (g 3 ρ)) (B (g 4 ρ)) := if_pos h
theorem str_ne {g : GR} {A B : Nat → Nat} {c ρ : Nat} (h : g 2 ρ ≠ c) : str g A B c ρ = 0 := if_neg h
theorem str_z {g : GR} {A B : Nat → Nat} {ρ : Nat} (h : A (g 3 ρ) = 0 ∨ B (g 4 ρ) = 0) (c : Nat) : str g A B c ρ = 0 := by
  unfold str
  split
  · rcases h with h | h
    · rw [h, pmk_0l]
    · rw [h, pmk_0r]
  · rfl
theorem sp_1 (p : Nat) : sp p (p + 1) = (p + 1) * p / 2 + p := rfl
theorem sp_8 {a b : Nat} (h : a < b) (hb : b ≤ 6) : sp a b * 8 + 8 ≤ 168 := by have := sp_lt h hb; omega
theorem sp_ap {a b a' b' : Nat} (h : a < b) (hb : b ≤ 6) (h' : a' < b') (hb' : b' ≤ 6) (e : ¬ (a = a' ∧ b = b')) : sp a b * 8 + 8 ≤ sp a' b' * 8 ∨ sp a' b' * 8 + 8 ≤ sp a b * 8 := by
  have h1 : sp a b ≠ sp a' b' := fun q => e (sp_inj h hb h' hb' q)
  omega
theorem or_lt16 {a b : Nat} (ha : a < 2 ^ 16) (hb : b < 2 ^ 16) : a ||| b < 2 ^ 16 := Nat.or_lt_two_pow ha hb

theorem in_X1_pairsMade_1 : ∀ w ∈ wsX10, w ∈ wsX1_pairsMade := by decide +kernel
set_option maxRecDepth 100000 in
set_option maxHeartbeats 4000000 in
theorem c_X1_pairsMade (l : Launch) (γ : Gm) (I : IT) (L : LT) (P : PT) (q m a b : Nat) (hq : q < 8) (hrow : ∀ k, k < 256 → I (q + 29) k = enc (jp m (k / 16) (k % 16))) (hA : a < 2 ^ 16) (hB : b < 2 ^ 16) : Ci l yX1_pairsMade wsX1_pairsMade 1 γ [.ref (γ.2.2 1), .int (nI q), .int (nI a), .int (nI b)] I L P (fun r I' L' => r = nI (pmk m a b) ∧ I' = I ∧ L' = L) := by
  refine Ci_of (own := RX1) (cc := cX1_pairsMade) (maxL := 8) (by decide) rfl rfl (Nat.le_of_ble_eq_true rfl) ?_
  refine g_sub (lv' := [(0, .ref (γ.2.2 1)), (1, .int (nI q)), (2, .int (nI a)), (3, .int (nI b))]) [0, 1, 2, 3] rfl ?_
  refine g_ic (v := nI 0) dX1_pairsMade_0 (by decide) ?_
  refine g_is (lv' := [(4, .int (nI 0)), (0, .ref (γ.2.2 1)), (1, .int (nI q)), (2, .int (nI a)), (3, .int (nI b))]) dX1_pairsMade_1 (by decide) rfl ?_
  refine g_ic (v := nI 0) dX1_pairsMade_3 (by decide) ?_
  refine g_is (lv' := [(5, .int (nI 0)), (4, .int (nI 0)), (0, .ref (γ.2.2 1)), (1, .int (nI q)), (2, .int (nI a)), (3, .int (nI b))]) dX1_pairsMade_4 (by decide) rfl ?_
  have lp : ∀ (n : Nat) (o : Nat) (acc : Nat) (ho : o + n = 16) (ha : acc = orf (pmo m a b) o), G E0 l cX1_pairsMade 8 wsX1_pairsMade RX1 (some .int) (rmd 1) γ P (AE γ) (Qi γ P (fun r I' L' => r = nI (pmk m a b) ∧ I' = I ∧ L' = L)) 0 0 6 [(0, .ref (γ.2.2 1)), (1, .int (nI q)), (2, .int (nI a)), (3, .int (nI b)), (4, .int (nI acc)), (5, .int (nI o))] [] I L := by
    intro n
    induction n with
    | zero =>
      intro o acc ho ha
      simp only [Nat.add_zero] at ho
      refine g_il 5 dX1_pairsMade_6 rfl ?_
      refine g_bi (v := nI 16) dX1_pairsMade_8 (by decide) ?_
      refine gn_ge (tgt := 88) dX1_pairsMade_10 (by decide) (by omega) (by omega) (fun h1 => ?_) (fun h1 => ?_)
      · skip
        refine g_il 4 dX1_pairsMade_88 rfl ?_
        refine g_top (v := nI (pmk m a b)) (by rw [ha, ho]; rfl) ?_
        exact g_iret dX1_pairsMade_90 (⟨rfl, rfl, rfl⟩)
      · skip
        exfalso; omega
    | succ n ih =>
      intro o acc ho ha
      refine g_il 5 dX1_pairsMade_6 rfl ?_
      refine g_bi (v := nI 16) dX1_pairsMade_8 (by decide) ?_
      refine gn_ge (tgt := 88) dX1_pairsMade_10 (by decide) (by omega) (by omega) (fun h1 => ?_) (fun h1 => ?_)
      · skip
        exfalso; omega
      · skip
        refine g_il_n 2 dX1_pairsMade_13 rfl ?_
        refine g_il 5 dX1_pairsMade_14 rfl ?_
        refine g_ci (r_SN (st := []) (As := [.int (nI a), .int (nI o)]) (d := 0) (host := RX4) (c_X4_hasPair l γ I L P a o (by omega) (by omega)) gX1_pairsMade_X4_hasPair_n50 rfl nm_RX1_50 (by decide +kernel) (by decide +kernel) ⟨by decide, by decide, rfl⟩ ⟨Nat.le_of_ble_eq_true rfl, Nat.le_of_ble_eq_true rfl⟩ rfl (Nat.le_of_ble_eq_true rfl) dX1_pairsMade_16 ⟨Nat.zero_le _, Nat.zero_le _⟩) ?_
        rintro rz1 Iz1 Lz1 ⟨ez1, eIz1, eLz1⟩
        rw [ez1, eIz1, eLz1]
        refine gb_ne (tgt := 25) dX1_pairsMade_19 (by decide) (fun h3 => ?_) (fun h3 => ?_)
        · skip
          refine g_ic (v := nI 0) dX1_pairsMade_25 (by decide) ?_
          refine g_is (lv' := [(6, .int (nI 0)), (0, .ref (γ.2.2 1)), (1, .int (nI q)), (2, .int (nI a)), (3, .int (nI b)), (4, .int (nI acc)), (5, .int (nI o))]) dX1_pairsMade_26 (by decide) rfl ?_
          have lp2 : ∀ (n : Nat) (k : Nat) (acc2 : Nat) (hk : k + n = 16) (ha2 : acc2 = acc ||| orf (pin m o b) k), G E0 l cX1_pairsMade 8 wsX1_pairsMade RX1 (some .int) (rmd 1) γ P (AE γ) (Qi γ P (fun r I' L' => r = nI (pmk m a b) ∧ I' = I ∧ L' = L)) 0 0 28 [(0, .ref (γ.2.2 1)), (1, .int (nI q)), (2, .int (nI a)), (3, .int (nI b)), (4, .int (nI acc2)), (5, .int (nI o)), (6, .int (nI k))] [] I L := by
            intro n
            induction n with
            | zero =>
              intro k acc2 hk ha2
              simp only [Nat.add_zero] at hk
              refine g_il 6 dX1_pairsMade_28 rfl ?_
              refine g_bi (v := nI 16) dX1_pairsMade_30 (by decide) ?_
              refine gn_ge (tgt := 82) dX1_pairsMade_32 (by decide) (by omega) (by omega) (fun h2 => ?_) (fun h2 => ?_)
              · skip
                refine g_inc (v := nI (o + 1)) (lv' := [(5, .int (nI (o + 1))), (0, .ref (γ.2.2 1)), (1, .int (nI q)), (2, .int (nI a)), (3, .int (nI b)), (4, .int (nI acc2)), (6, .int (nI k))]) 5 dX1_pairsMade_82 rfl (inc_1 _) (by decide) rfl ?_
                refine g_goto (tgt := 6) dX1_pairsMade_85 (by decide) ?_
                refine g_sub [1, 2, 3, 4, 5, 0] rfl ?_
                exact ih (o + 1) acc2 (by omega) (by show _ = orf (pmo m a b) o ||| pmo m a b o; rw [ha2, hk, show pmo m a b o = orf (pin m o b) 16 from if_pos h3, ha])
              · skip
                exfalso; omega
            | succ n ih2 =>
              intro k acc2 hk ha2
              refine g_il 6 dX1_pairsMade_28 rfl ?_
              refine g_bi (v := nI 16) dX1_pairsMade_30 (by decide) ?_
              refine gn_ge (tgt := 82) dX1_pairsMade_32 (by decide) (by omega) (by omega) (fun h2 => ?_) (fun h2 => ?_)
              · skip
                exfalso; omega
              · skip
                have hpn : ∀ u, pin m o b k = u → acc2 ||| u = acc ||| orf (pin m o b) (k + 1) := fun u hu => by rw [ha2, orf, hu, Nat.or_assoc]
                refine g_al_n 0 dX1_pairsMade_35 rfl ?_
                refine g_get (v := .ref (γ.2.2 5)) 1 7 (by decide) rfl in_X1_pairsMade_1 rfl (by decide) (by decide +kernel) rfl rfl dX1_pairsMade_36 ?_
                refine g_il_n 1 dX1_pairsMade_39 rfl ?_
                refine g_aald (q := γ.2.2 (q + 29)) 5 q (by decide) rfl (by decide) (show _ < 8 by omega) (if_pos (show _ < 8 by omega)) dX1_pairsMade_40 ?_
                refine g_il 5 dX1_pairsMade_41 rfl ?_
                refine g_bi (v := nI 16) dX1_pairsMade_43 (by decide) ?_
                refine g_imul (v := nI (o * 16)) dX1_pairsMade_45 (pk_mul _ _) ?_
                refine g_il 6 dX1_pairsMade_46 rfl ?_
                refine g_iadd (v := nI (o * 16 + k)) dX1_pairsMade_48 (nI_add _ _) ?_
                refine g_iald (v := enc (jp m o k)) (q + 29) (o * 16 + k) (by omega) (by omega) (by rw [ln_29 hq]; omega) (row_at hrow (by omega) (by omega)) dX1_pairsMade_49 ?_
                refine g_is (lv' := [(7, .int (enc (jp m o k))), (0, .ref (γ.2.2 1)), (1, .int (nI q)), (2, .int (nI a)), (3, .int (nI b)), (4, .int (nI acc2)), (5, .int (nI o)), (6, .int (nI k))]) dX1_pairsMade_50 (by decide) rfl ?_
                refine g_il 0 dX1_pairsMade_52 rfl ?_
                refine g_ic (v := (-1 : Int32)) dX1_pairsMade_54 (by decide) ?_
                refine g_ic_eq (tgt := 76) dX1_pairsMade_55 (by decide) (fun h4 => ?_) (fun h4 => ?_)
                · skip
                  have h4 := enc_eq h4 (fun v hv => by have := jp_lt (by omega) (by omega) hv; omega)
                  refine g_inc (v := nI (k + 1)) (lv' := [(6, .int (nI (k + 1))), (7, .int (enc (jp m o k))), (0, .ref (γ.2.2 1)), (1, .int (nI q)), (2, .int (nI a)), (3, .int (nI b)), (4, .int (nI acc2)), (5, .int (nI o))]) 7 dX1_pairsMade_76 rfl (inc_1 _) (by decide) rfl ?_
                  refine g_goto (tgt := 28) dX1_pairsMade_79 (by decide) ?_
                  refine g_sub [2, 3, 4, 5, 6, 7, 0] rfl ?_
                  exact ih2 (k + 1) acc2 (by omega) (by rw [← hpn 0 (by simp [pin, obit, *]), Nat.or_zero])
                · skip
                  obtain ⟨v, hv⟩ := enc_ne h4
                  have hv16 := jp_lt (by omega) (by omega) hv
                  refine g_il_n 4 dX1_pairsMade_58 rfl ?_
                  refine g_il 7 dX1_pairsMade_59 rfl ?_
                  refine g_ci (r_SN (st := []) (As := [.int (nI b), .int (nI k)]) (d := 0) (host := RX4) (c_X4_hasPair l γ I L P b k (by omega) (by omega)) gX1_pairsMade_X4_hasPair_n50 rfl nm_RX1_50 (by decide +kernel) (by decide +kernel) ⟨by decide, by decide, rfl⟩ ⟨Nat.le_of_ble_eq_true rfl, Nat.le_of_ble_eq_true rfl⟩ rfl (Nat.le_of_ble_eq_true rfl) dX1_pairsMade_61 ⟨Nat.zero_le _, Nat.zero_le _⟩) ?_
                  rintro rz2 Iz2 Lz2 ⟨ez2, eIz2, eLz2⟩
                  rw [ez2, eIz2, eLz2]
                  refine gb_eq (tgt := 76) dX1_pairsMade_64 (by decide) (fun h5 => ?_) (fun h5 => ?_)
                  · skip
                    refine g_inc (v := nI (k + 1)) (lv' := [(6, .int (nI (k + 1))), (7, .int (enc (jp m o k))), (0, .ref (γ.2.2 1)), (1, .int (nI q)), (2, .int (nI a)), (3, .int (nI b)), (4, .int (nI acc2)), (5, .int (nI o))]) 7 dX1_pairsMade_76 rfl (inc_1 _) (by decide) rfl ?_
                    refine g_goto (tgt := 28) dX1_pairsMade_79 (by decide) ?_
                    refine g_sub [2, 3, 4, 5, 6, 7, 0] rfl ?_
                    exact ih2 (k + 1) acc2 (by omega) (by rw [← hpn 0 (by simp [pin, obit, *]), Nat.or_zero])
                  · skip
                    rw [show enc (jp m o k) = nI v by rw [hv]; rfl]
                    refine g_il 5 dX1_pairsMade_67 rfl ?_
                    refine g_ic (v := nI 1) dX1_pairsMade_69 (by decide) ?_
                    refine g_il 0 dX1_pairsMade_70 rfl ?_
                    refine g_ishl (v := nI (2 ^ v)) dX1_pairsMade_72 (nI_shl (by omega)) ?_
                    refine g_ior (v := nI (acc2 ||| 2 ^ v)) dX1_pairsMade_73 (nI_or _ _) ?_
                    refine g_is (lv' := [(4, .int (nI (acc2 ||| 2 ^ v))), (7, .int (nI v)), (0, .ref (γ.2.2 1)), (1, .int (nI q)), (2, .int (nI a)), (3, .int (nI b)), (5, .int (nI o)), (6, .int (nI k))]) dX1_pairsMade_74 (by decide) rfl ?_
                    refine g_inc (v := nI (k + 1)) (lv' := [(6, .int (nI (k + 1))), (4, .int (nI (acc2 ||| 2 ^ v))), (7, .int (nI v)), (0, .ref (γ.2.2 1)), (1, .int (nI q)), (2, .int (nI a)), (3, .int (nI b)), (5, .int (nI o))]) 7 dX1_pairsMade_76 rfl (inc_1 _) (by decide) rfl ?_
                    refine g_goto (tgt := 28) dX1_pairsMade_79 (by decide) ?_
                    refine g_sub [3, 4, 5, 6, 1, 7, 0] rfl ?_
                    exact ih2 (k + 1) (acc2 ||| 2 ^ v) (by omega) (hpn _ (by simp [pin, obit, h5, hv]))
          refine g_sub [1, 2, 3, 4, 5, 6, 0] rfl ?_
          exact lp2 16 0 acc rfl (by rw [orf, Nat.or_zero])
        · skip
          refine g_goto (tgt := 82) dX1_pairsMade_22 (by decide) ?_
          refine g_inc (v := nI (o + 1)) (lv' := [(5, .int (nI (o + 1))), (0, .ref (γ.2.2 1)), (1, .int (nI q)), (2, .int (nI a)), (3, .int (nI b)), (4, .int (nI acc))]) 5 dX1_pairsMade_82 rfl (inc_1 _) (by decide) rfl ?_
          refine g_goto (tgt := 6) dX1_pairsMade_85 (by decide) ?_
          refine g_sub [1, 2, 3, 4, 5, 0] rfl ?_
          exact ih (o + 1) acc (by omega) (by rw [ha, orf, pmo, if_neg (by rw [h3]; decide), Nat.or_zero])
  refine g_sub [2, 3, 4, 5, 1, 0] rfl ?_
  exact lp 16 0 0 rfl rfl

theorem in_X2_pairsOf_2 : ∀ w ∈ wsX20, w ∈ wsX2_pairsOf := by decide +kernel
set_option maxRecDepth 100000 in
set_option maxHeartbeats 4000000 in
theorem c_X2_pairsOf (l : Launch) (γ : Gm) (I : IT) (L : LT) (P : PT) (a b c : Nat) (ha : a < b) (hb : b ≤ 6) (hc : c < 8) : Ci l yX2_pairsOf wsX2_pairsOf 1 γ [.ref (γ.2.2 2), .int (nI a), .int (nI b), .int (nI c)] I L P (fun r I' L' => r = I 19 (sp a b * 8 + c) ∧ I' = I ∧ L' = L) := by
  refine Ci_of (own := RX2) (cc := cX2_pairsOf) (maxL := 4) (by decide) rfl rfl (Nat.le_of_ble_eq_true rfl) ?_
  refine g_sub (lv' := [(0, .ref (γ.2.2 2)), (1, .int (nI a)), (2, .int (nI b)), (3, .int (nI c))]) [0, 1, 2, 3] rfl ?_
  have h9 := sp_8 ha hb
  refine g_al_n 0 dX2_pairsOf_0 rfl ?_
  refine g_get (v := .ref (γ.2.2 19)) 2 0 (by decide) rfl in_X2_pairsOf_2 rfl (by decide) (by decide +kernel) rfl rfl dX2_pairsOf_1 ?_
  refine g_il_n 1 dX2_pairsOf_4 rfl ?_
  refine g_il_n 2 dX2_pairsOf_5 rfl ?_
  refine g_ci (r_SN (st := [.ref (γ.2.2 19)]) (As := [.int (nI a), .int (nI b)]) (d := 0) (host := RX4) (c_X4_spanOf l γ I L P a b ha hb) gX2_pairsOf_X4_spanOf_n15 rfl nm_RX2_15 (by decide +kernel) (by decide +kernel) ⟨by decide, by decide, rfl⟩ ⟨Nat.le_of_ble_eq_true rfl, Nat.le_of_ble_eq_true rfl⟩ rfl (Nat.le_of_ble_eq_true rfl) dX2_pairsOf_6 ⟨Nat.zero_le _, Nat.zero_le _⟩) ?_
  rintro rz1 Iz1 Lz1 ⟨ez1, eIz1, eLz1⟩
  rw [ez1, eIz1, eLz1]
  refine g_bi (v := nI 8) dX2_pairsOf_9 (by decide) ?_
  refine g_imul (v := nI ((sp a b) * 8)) dX2_pairsOf_11 (pk_mul _ _) ?_
  refine g_il_n 3 dX2_pairsOf_12 rfl ?_
  refine g_iadd (v := nI ((sp a b) * 8 + c)) dX2_pairsOf_13 (nI_add _ _) ?_
  refine g_iald (v := I 19 ((sp a b) * 8 + c)) 19 ((sp a b) * 8 + c) (by decide) (by decide) (show _ < 168 by omega) (rfl) dX2_pairsOf_14 ?_
  exact g_iret dX2_pairsOf_15 (⟨rfl, rfl, rfl⟩)

set_option maxRecDepth 100000 in
set_option maxHeartbeats 4000000 in
theorem c_X2_holdsSentence (l : Launch) (γ : Gm) (I : IT) (L : LT) (P : PT) (t x : Nat) (ht : t ≤ 6) (hx : 0 < t → I 19 (sp 0 t * 8 + 0) = nI x) (hx2 : x < 2 ^ 31) : Ci l yX2_holdsSentence wsX2_holdsSentence 2 γ [.ref (γ.2.2 2), .int (nI t)] I L P (fun r I' L' => r = bi (decide (0 < t ∧ x ≠ 0)) ∧ I' = I ∧ L' = L) := by
  refine Ci_of (own := RX2) (cc := cX2_holdsSentence) (maxL := 2) (by decide) rfl rfl (Nat.le_of_ble_eq_true rfl) ?_
  refine g_sub (lv' := [(0, .ref (γ.2.2 2)), (1, .int (nI t))]) [0, 1] rfl ?_
  refine g_il_n 1 dX2_holdsSentence_0 rfl ?_
  refine gz_le (tgt := 18) dX2_holdsSentence_1 (by decide) (by omega) (fun h1 => ?_) (fun h1 => ?_)
  · skip
    refine g_ic (v := nI 0) dX2_holdsSentence_18 (by decide) ?_
    refine g_top (v := bi (decide (0 < t ∧ x ≠ 0))) (bi_0 (decide_eq_false (by omega))) ?_
    exact g_zret (bi_nar _) dX2_holdsSentence_19 (⟨rfl, rfl, rfl⟩)
  · skip
    refine g_al_n 0 dX2_holdsSentence_4 rfl ?_
    refine g_ic (v := nI 0) dX2_holdsSentence_5 (by decide) ?_
    refine g_il_n 1 dX2_holdsSentence_6 rfl ?_
    refine g_ic (v := nI 0) dX2_holdsSentence_7 (by decide) ?_
    refine g_ci (r_V (st := []) (As := [.int (nI 0), .int (nI t), .int (nI 0)]) (d := 1) 2 (by decide) rfl rfl (c_X2_pairsOf l γ I L P 0 t 0 h1 ht (by decide)) gX2_holdsSentence_X2_pairsOf rfl ⟨rfl, by decide, by decide, rfl⟩ ⟨Nat.le_of_ble_eq_true rfl, Nat.le_of_ble_eq_true rfl⟩ rfl (Nat.le_of_ble_eq_true rfl) dX2_holdsSentence_8 ⟨Nat.zero_le _, Nat.zero_le _⟩) ?_
    rintro rz1 Iz1 Lz1 ⟨ez1, eIz1, eLz1⟩
    rw [ez1, eIz1, eLz1, hx h1]
    refine gz_eq (tgt := 18) dX2_holdsSentence_11 (by decide) (by omega) (fun h2 => ?_) (fun h2 => ?_)
    · skip
      refine g_ic (v := nI 0) dX2_holdsSentence_18 (by decide) ?_
      refine g_top (v := bi (decide (0 < t ∧ x ≠ 0))) (bi_0 (decide_eq_false (by omega))) ?_
      exact g_zret (bi_nar _) dX2_holdsSentence_19 (⟨rfl, rfl, rfl⟩)
    · skip
      refine g_ic (v := nI 1) dX2_holdsSentence_14 (by decide) ?_
      refine g_goto (tgt := 19) dX2_holdsSentence_15 (by decide) ?_
      refine g_top (v := bi (decide (0 < t ∧ x ≠ 0))) (bi_1 (decide_eq_true ⟨h1, h2⟩)) ?_
      exact g_zret (bi_nar _) dX2_holdsSentence_19 (⟨rfl, rfl, rfl⟩)

theorem in_X2_clearSpan_2 : ∀ w ∈ wsX20, w ∈ wsX2_clearSpan := by decide +kernel
set_option maxRecDepth 100000 in
set_option maxHeartbeats 4000000 in
theorem c_X2_clearSpan (l : Launch) (γ : Gm) (I : IT) (L : LT) (P : PT) (a b : Nat) (ha : a < b) (hb : b ≤ 6) : Cv l yX2_clearSpan wsX2_clearSpan 1 γ [.ref (γ.2.2 2), .int (nI a), .int (nI b)] I L P (fun I' L' => (∃ F : Nat → Int32, I' = va_up I 19 F ∧ (∀ c, c < 8 → F (sp a b * 8 + c) = nI 0) ∧ ∀ j, (j < sp a b * 8 ∨ sp a b * 8 + 8 ≤ j) → F j = I 19 j) ∧ L' = L) := by
  refine Cv_of (own := RX2) (cc := cX2_clearSpan) (maxL := 5) (by decide) rfl rfl (Nat.le_of_ble_eq_true rfl) ?_
  refine g_sub (lv' := [(0, .ref (γ.2.2 2)), (1, .int (nI a)), (2, .int (nI b))]) [0, 1, 2] rfl ?_
  have h9 := sp_8 ha hb
  refine g_il_n 1 dX2_clearSpan_0 rfl ?_
  refine g_il_n 2 dX2_clearSpan_1 rfl ?_
  refine g_ci (r_SN (st := []) (As := [.int (nI a), .int (nI b)]) (d := 0) (host := RX4) (c_X4_spanOf l γ I L P a b ha hb) gX2_clearSpan_X4_spanOf_n15 rfl nm_RX2_15 (by decide +kernel) (by decide +kernel) ⟨by decide, by decide, rfl⟩ ⟨Nat.le_of_ble_eq_true rfl, Nat.le_of_ble_eq_true rfl⟩ rfl (Nat.le_of_ble_eq_true rfl) dX2_clearSpan_2 ⟨Nat.zero_le _, Nat.zero_le _⟩) ?_
  rintro rz1 Iz1 Lz1 ⟨ez1, eIz1, eLz1⟩
  rw [ez1, eIz1, eLz1]
  refine g_bi (v := nI 8) dX2_clearSpan_5 (by decide) ?_
  refine g_imul (v := nI ((sp a b) * 8)) dX2_clearSpan_7 (pk_mul _ _) ?_
  refine g_is_n (lv' := [(3, .int (nI ((sp a b) * 8))), (0, .ref (γ.2.2 2)), (1, .int (nI a)), (2, .int (nI b))]) dX2_clearSpan_8 (by decide) rfl ?_
  refine g_ic (v := nI 0) dX2_clearSpan_9 (by decide) ?_
  refine g_is (lv' := [(4, .int (nI 0)), (3, .int (nI ((sp a b) * 8))), (0, .ref (γ.2.2 2)), (1, .int (nI a)), (2, .int (nI b))]) dX2_clearSpan_10 (by decide) rfl ?_
  have lp : ∀ (n : Nat) (k : Nat) (F : Nat → Int32) (hk : k + n = 8) (hF : ∀ c, c < k → F (sp a b * 8 + c) = nI 0) (hO : ∀ j, (j < sp a b * 8 ∨ sp a b * 8 + 8 ≤ j) → F j = I 19 j), G E0 l cX2_clearSpan 5 wsX2_clearSpan RX2 none (rmd 1) γ P (AE γ) (Qv γ P (fun I' L' => (∃ F : Nat → Int32, I' = va_up I 19 F ∧ (∀ c, c < 8 → F (sp a b * 8 + c) = nI 0) ∧ ∀ j, (j < sp a b * 8 ∨ sp a b * 8 + 8 ≤ j) → F j = I 19 j) ∧ L' = L)) 0 0 12 [(0, .ref (γ.2.2 2)), (3, .int (nI (sp a b * 8))), (4, .int (nI k))] [] (va_up I 19 F) L := by
    intro n
    induction n with
    | zero =>
      intro k F hk hF hO
      simp only [Nat.add_zero] at hk
      refine g_il 2 dX2_clearSpan_12 rfl ?_
      refine g_bi (v := nI 8) dX2_clearSpan_14 (by decide) ?_
      refine gn_ge (tgt := 35) dX2_clearSpan_16 (by decide) (by omega) (by omega) (fun h1 => ?_) (fun h1 => ?_)
      · skip
        exact g_vret dX2_clearSpan_35 (⟨⟨F, rfl, fun c hc => hF c (by omega), hO⟩, rfl⟩)
      · skip
        exfalso; omega
    | succ n ih =>
      intro k F hk hF hO
      refine g_il 2 dX2_clearSpan_12 rfl ?_
      refine g_bi (v := nI 8) dX2_clearSpan_14 (by decide) ?_
      refine gn_ge (tgt := 35) dX2_clearSpan_16 (by decide) (by omega) (by omega) (fun h1 => ?_) (fun h1 => ?_)
      · skip
        exfalso; omega
      · skip
        refine g_al_n 0 dX2_clearSpan_19 rfl ?_
        refine g_get (v := .ref (γ.2.2 19)) 2 0 (by decide) rfl in_X2_clearSpan_2 rfl (by decide) (by decide +kernel) rfl rfl dX2_clearSpan_20 ?_
        refine g_il_n 1 dX2_clearSpan_23 rfl ?_
        refine g_il 2 dX2_clearSpan_24 rfl ?_
        refine g_iadd (v := nI (sp a b * 8 + k)) dX2_clearSpan_26 (nI_add _ _) ?_
        refine g_ic (v := nI 0) dX2_clearSpan_27 (by decide) ?_
        refine g_iast 19 (sp a b * 8 + k) (by decide) (by decide) (show _ < 168 by omega) dX2_clearSpan_28 ?_
        refine g_eq (I' := va_up I 19 (upd F (sp a b * 8 + k) (nI 0))) (va_uw _ _ _ _ _) rfl ?_
        refine g_inc (v := nI (k + 1)) (lv' := [(4, .int (nI (k + 1))), (0, .ref (γ.2.2 2)), (3, .int (nI (sp a b * 8)))]) 2 dX2_clearSpan_29 rfl (inc_1 _) (by decide) rfl ?_
        refine g_goto (tgt := 12) dX2_clearSpan_32 (by decide) ?_
        refine g_sub [1, 2, 0] rfl ?_
        exact ih (k + 1) (upd F (sp a b * 8 + k) (nI 0)) (by omega) (fun c hc => by
          by_cases e : c = k
          · subst e; exact upd_s _ _ _
          · rw [upd_n _ _ (by omega)]; exact hF c (by omega)) (fun j hj => by rw [upd_n _ _ (by omega)]; exact hO j hj)
  refine g_sub [2, 1, 0] rfl ?_
  refine g_eq (I' := va_up I 19 (I 19)) (va_id _ _).symm rfl ?_
  exact lp 8 0 _ rfl (fun c hc => by omega) (fun _ _ => rfl)

theorem in_X2_allowWord_1 : ∀ w ∈ wsX10, w ∈ wsX2_allowWord := by decide +kernel
theorem in_X2_allowWord_2 : ∀ w ∈ wsX20, w ∈ wsX2_allowWord := by decide +kernel
set_option maxRecDepth 100000 in
set_option maxHeartbeats 4000000 in
theorem c_X2_allowWord (l : Launch) (γ : Gm) (I : IT) (L : LT) (P : PT) (g : GR) (n r p w m : Nat) (hG : GG I g n r) (hw : w < n) (hp : p < 6) (hm : I 19 (sp p (p + 1) * 8 + g 0 w) = nI m) : Cv l yX2_allowWord wsX2_allowWord 1 γ [.ref (γ.2.2 2), .ref (γ.2.2 1), .int (nI p), .int (nI w)] I L P (fun I' L' => I' = va_up I 19 (upd (I 19) (sp p (p + 1) * 8 + g 0 w) (nI (m ||| 2 ^ g 1 w))) ∧ L' = L) := by
  refine Cv_of (own := RX2) (cc := cX2_allowWord) (maxL := 5) (by decide) rfl rfl (Nat.le_of_ble_eq_true rfl) ?_
  refine g_sub (lv' := [(0, .ref (γ.2.2 2)), (1, .ref (γ.2.2 1)), (2, .int (nI p)), (3, .int (nI w))]) [0, 1, 2, 3] rfl ?_
  have h9 : sp p (p + 1) * 8 + 8 ≤ 168 := sp_8 (Nat.lt_succ_self p) hp
  have hn9 := hG.n_le
  have hc8 := hG.cat_lt hw
  have hv16 := hG.val_lt hw
  refine g_il_n 2 dX2_allowWord_0 rfl ?_
  refine g_il_n 2 dX2_allowWord_1 rfl ?_
  refine g_ic (v := nI 1) dX2_allowWord_2 (by decide) ?_
  refine g_iadd (v := nI (p + 1)) dX2_allowWord_3 (nI_add _ _) ?_
  refine g_ci (r_SN (st := []) (As := [.int (nI p), .int (nI (p + 1))]) (d := 0) (host := RX4) (c_X4_spanOf l γ I L P p (p + 1) (by omega) (by omega)) gX2_allowWord_X4_spanOf_n15 rfl nm_RX2_15 (by decide +kernel) (by decide +kernel) ⟨by decide, by decide, rfl⟩ ⟨Nat.le_of_ble_eq_true rfl, Nat.le_of_ble_eq_true rfl⟩ rfl (Nat.le_of_ble_eq_true rfl) dX2_allowWord_4 ⟨Nat.zero_le _, Nat.zero_le _⟩) ?_
  rintro rz1 Iz1 Lz1 ⟨ez1, eIz1, eLz1⟩
  rw [ez1, eIz1, eLz1]
  refine g_is (lv' := [(4, .int (nI (sp p (p + 1)))), (0, .ref (γ.2.2 2)), (1, .ref (γ.2.2 1)), (2, .int (nI p)), (3, .int (nI w))]) dX2_allowWord_7 (by decide) rfl ?_
  refine g_al_n 1 dX2_allowWord_9 rfl ?_
  refine g_get (v := .ref (γ.2.2 19)) 2 0 (by decide) rfl in_X2_allowWord_2 rfl (by decide) (by decide +kernel) rfl rfl dX2_allowWord_10 ?_
  refine g_il 0 dX2_allowWord_13 rfl ?_
  refine g_bi (v := nI 8) dX2_allowWord_15 (by decide) ?_
  refine g_imul (v := nI ((sp p (p + 1)) * 8)) dX2_allowWord_17 (pk_mul _ _) ?_
  refine g_al_n 2 dX2_allowWord_18 rfl ?_
  refine g_getN (v := .ref (γ.2.2 14)) 1 1 (by decide) rfl in_X2_allowWord_1 rfl (by decide) nw_RX2_43 rfl rfl dX2_allowWord_19 ?_
  refine g_il_n 4 dX2_allowWord_22 rfl ?_
  refine g_iald (v := nI (g 0 w)) 14 w (by decide) (by decide) (show _ < 9 by omega) (hG.cat hw) dX2_allowWord_23 ?_
  refine g_iadd (v := nI ((sp p (p + 1)) * 8 + (g 0 w))) dX2_allowWord_24 (nI_add _ _) ?_
  refine g_dup2 dX2_allowWord_25 rfl rfl ?_
  refine g_iald (v := nI m) 19 ((sp p (p + 1)) * 8 + (g 0 w)) (by decide) (by decide) (show _ < 168 by omega) (hm) dX2_allowWord_26 ?_
  refine g_ic (v := nI 1) dX2_allowWord_27 (by decide) ?_
  refine g_al_n 2 dX2_allowWord_28 rfl ?_
  refine g_getN (v := .ref (γ.2.2 15)) 1 2 (by decide) rfl in_X2_allowWord_1 rfl (by decide) nw_RX2_46 rfl rfl dX2_allowWord_29 ?_
  refine g_il_n 4 dX2_allowWord_32 rfl ?_
  refine g_iald (v := nI (g 1 w)) 15 w (by decide) (by decide) (show _ < 9 by omega) (hG.val hw) dX2_allowWord_33 ?_
  refine g_ishl (v := nI (2 ^ g 1 w)) dX2_allowWord_34 (nI_shl (by omega)) ?_
  refine g_ior (v := nI (m ||| 2 ^ g 1 w)) dX2_allowWord_35 (nI_or _ _) ?_
  refine g_iast 19 ((sp p (p + 1)) * 8 + (g 0 w)) (by decide) (by decide) (show _ < 168 by omega) dX2_allowWord_36 ?_
  exact g_vret dX2_allowWord_37 (⟨rfl, rfl⟩)

set_option maxRecDepth 100000 in
set_option maxHeartbeats 4000000 in
theorem c_X2_putWord (l : Launch) (γ : Gm) (I : IT) (L : LT) (P : PT) (g : GR) (n r p w : Nat) (hG : GG I g n r) (hw : w < n) (hp : p < 6) : Cv l yX2_putWord wsX2_putWord 2 γ [.ref (γ.2.2 2), .ref (γ.2.2 1), .int (nI p), .int (nI w)] I L P (fun I' L' => (∃ F : Nat → Int32, I' = va_up I 19 F ∧ (∀ c, c < 8 → F (sp p (p + 1) * 8 + c) = nI (wset g w c)) ∧ ∀ j, (j < sp p (p + 1) * 8 ∨ sp p (p + 1) * 8 + 8 ≤ j) → F j = I 19 j) ∧ L' = L) := by
  refine Cv_of (own := RX2) (cc := cX2_putWord) (maxL := 4) (by decide) rfl rfl (Nat.le_of_ble_eq_true rfl) ?_
  refine g_sub (lv' := [(0, .ref (γ.2.2 2)), (1, .ref (γ.2.2 1)), (2, .int (nI p)), (3, .int (nI w))]) [0, 1, 2, 3] rfl ?_
  have h9 : sp p (p + 1) * 8 + 8 ≤ 168 := sp_8 (Nat.lt_succ_self p) hp
  have hc8 := hG.cat_lt hw
  refine g_al_n 0 dX2_putWord_0 rfl ?_
  refine g_il_n 2 dX2_putWord_1 rfl ?_
  refine g_il_n 2 dX2_putWord_2 rfl ?_
  refine g_ic (v := nI 1) dX2_putWord_3 (by decide) ?_
  refine g_iadd (v := nI (p + 1)) dX2_putWord_4 (nI_add _ _) ?_
  refine g_cv (r_V (st := []) (As := [.int (nI p), .int (nI (p + 1))]) (d := 1) 2 (by decide) rfl rfl (c_X2_clearSpan l γ I L P p (p + 1) (by omega) (by omega)) gX2_putWord_X2_clearSpan rfl ⟨rfl, by decide, by decide, rfl⟩ ⟨Nat.le_of_ble_eq_true rfl, Nat.le_of_ble_eq_true rfl⟩ rfl (Nat.le_of_ble_eq_true rfl) dX2_putWord_5 ⟨Nat.zero_le _, Nat.zero_le _⟩) ?_
  rintro Iz1 Lz1 ⟨⟨F, eIz1, hF, hO⟩, eLz1⟩
  rw [eIz1, eLz1]
  refine g_al_n 0 dX2_putWord_8 rfl ?_
  refine g_al_n 1 dX2_putWord_9 rfl ?_
  refine g_il_n 2 dX2_putWord_10 rfl ?_
  refine g_il_n 3 dX2_putWord_11 rfl ?_
  refine g_cv (r_V (st := []) (As := [.ref (γ.2.2 1), .int (nI p), .int (nI w)]) (d := 1) 2 (by decide) rfl rfl (c_X2_allowWord l γ (va_up I 19 F) L P g n r p w 0 (hG.up (by decide) F) hw hp (by rw [va_us]; exact hF _ hc8)) gX2_putWord_X2_allowWord rfl ⟨rfl, by decide, by decide, rfl⟩ ⟨Nat.le_of_ble_eq_true rfl, Nat.le_of_ble_eq_true rfl⟩ rfl (Nat.le_of_ble_eq_true rfl) dX2_putWord_12 ⟨Nat.zero_le _, Nat.zero_le _⟩) ?_
  rintro Iz2 Lz2 ⟨eIz2, eLz2⟩
  rw [eIz2, eLz2]
  exact g_vret dX2_putWord_15 (⟨⟨_, va_uw _ _ _ _ _, fun c hc => by
      by_cases e : c = g 0 w
      · subst e; rw [upd_s]; simp [wset]
      · rw [upd_n _ _ (by omega), hF c hc, wset, if_neg (Ne.symm e)], fun j hj => by rw [upd_n _ _ (by omega)]; exact hO j hj⟩, rfl⟩)

theorem in_X2_putAnyWord_1 : ∀ w ∈ wsX10, w ∈ wsX2_putAnyWord := by decide +kernel
set_option maxRecDepth 100000 in
set_option maxHeartbeats 4000000 in
theorem c_X2_putAnyWord (l : Launch) (γ : Gm) (I : IT) (L : LT) (P : PT) (g : GR) (n r p : Nat) (hG : GG I g n r) (hp : p < 6) : Cv l yX2_putAnyWord wsX2_putAnyWord 2 γ [.ref (γ.2.2 2), .ref (γ.2.2 1), .int (nI p)] I L P (fun I' L' => (∃ F : Nat → Int32, I' = va_up I 19 F ∧ (∀ c, c < 8 → F (sp p (p + 1) * 8 + c) = nI (wany g n c)) ∧ ∀ j, (j < sp p (p + 1) * 8 ∨ sp p (p + 1) * 8 + 8 ≤ j) → F j = I 19 j) ∧ L' = L) := by
  refine Cv_of (own := RX2) (cc := cX2_putAnyWord) (maxL := 4) (by decide) rfl rfl (Nat.le_of_ble_eq_true rfl) ?_
  refine g_sub (lv' := [(0, .ref (γ.2.2 2)), (1, .ref (γ.2.2 1)), (2, .int (nI p))]) [0, 1, 2] rfl ?_
  have h9 : sp p (p + 1) * 8 + 8 ≤ 168 := sp_8 (Nat.lt_succ_self p) hp
  have hn9 := hG.n_le
  refine g_al_n 0 dX2_putAnyWord_0 rfl ?_
  refine g_il_n 2 dX2_putAnyWord_1 rfl ?_
  refine g_il_n 2 dX2_putAnyWord_2 rfl ?_
  refine g_ic (v := nI 1) dX2_putAnyWord_3 (by decide) ?_
  refine g_iadd (v := nI (p + 1)) dX2_putAnyWord_4 (nI_add _ _) ?_
  refine g_cv (r_V (st := []) (As := [.int (nI p), .int (nI (p + 1))]) (d := 1) 2 (by decide) rfl rfl (c_X2_clearSpan l γ I L P p (p + 1) (by omega) (by omega)) gX2_putAnyWord_X2_clearSpan rfl ⟨rfl, by decide, by decide, rfl⟩ ⟨Nat.le_of_ble_eq_true rfl, Nat.le_of_ble_eq_true rfl⟩ rfl (Nat.le_of_ble_eq_true rfl) dX2_putAnyWord_5 ⟨Nat.zero_le _, Nat.zero_le _⟩) ?_
  rintro Iz1 Lz1 ⟨⟨F, eIz1, hF, hO⟩, eLz1⟩
  rw [eIz1, eLz1]
  refine g_ic (v := nI 0) dX2_putAnyWord_8 (by decide) ?_
  refine g_is_n (lv' := [(3, .int (nI 0)), (0, .ref (γ.2.2 2)), (1, .ref (γ.2.2 1)), (2, .int (nI p))]) dX2_putAnyWord_9 (by decide) rfl ?_
  have lp : ∀ (k : Nat) (w : Nat) (F : Nat → Int32) (hk : w + k = n) (hF : ∀ c, c < 8 → F (sp p (p + 1) * 8 + c) = nI (wany g w c)) (hO : ∀ j, (j < sp p (p + 1) * 8 ∨ sp p (p + 1) * 8 + 8 ≤ j) → F j = I 19 j), G E0 l cX2_putAnyWord 4 wsX2_putAnyWord RX2 none (rmd 2) γ P (AE γ) (Qv γ P (fun I' L' => (∃ F : Nat → Int32, I' = va_up I 19 F ∧ (∀ c, c < 8 → F (sp p (p + 1) * 8 + c) = nI (wany g n c)) ∧ ∀ j, (j < sp p (p + 1) * 8 ∨ sp p (p + 1) * 8 + 8 ≤ j) → F j = I 19 j) ∧ L' = L)) 0 0 10 [(0, .ref (γ.2.2 2)), (1, .ref (γ.2.2 1)), (2, .int (nI p)), (3, .int (nI w))] [] (va_up I 19 F) L := by
    intro k
    induction k with
    | zero =>
      intro w F hk hF hO
      simp only [Nat.add_zero] at hk
      refine g_il_n 3 dX2_putAnyWord_10 rfl ?_
      refine g_al_n 1 dX2_putAnyWord_11 rfl ?_
      refine g_getN 1 0 (by decide) rfl in_X2_putAnyWord_1 rfl (by decide) nw_RX2_37 rfl rfl dX2_putAnyWord_12 ?_
      refine g_top (v := nI n) ((hG.up (by decide) F).cn) ?_
      refine gn_ge (tgt := 31) dX2_putAnyWord_15 (by decide) (by omega) (by omega) (fun h1 => ?_) (fun h1 => ?_)
      · skip
        exact g_vret dX2_putAnyWord_31 (⟨⟨F, rfl, fun c hc => by rw [hF c hc, hk], hO⟩, rfl⟩)
      · skip
        exfalso; omega
    | succ k ih =>
      intro w F hk hF hO
      have hw : w < n := by omega
      have hc8 := hG.cat_lt hw
      refine g_il_n 3 dX2_putAnyWord_10 rfl ?_
      refine g_al_n 1 dX2_putAnyWord_11 rfl ?_
      refine g_getN 1 0 (by decide) rfl in_X2_putAnyWord_1 rfl (by decide) nw_RX2_37 rfl rfl dX2_putAnyWord_12 ?_
      refine g_top (v := nI n) ((hG.up (by decide) F).cn) ?_
      refine gn_ge (tgt := 31) dX2_putAnyWord_15 (by decide) (by omega) (by omega) (fun h1 => ?_) (fun h1 => ?_)
      · skip
        exfalso; omega
      · skip
        refine g_al_n 0 dX2_putAnyWord_18 rfl ?_
        refine g_al_n 1 dX2_putAnyWord_19 rfl ?_
        refine g_il_n 2 dX2_putAnyWord_20 rfl ?_
        refine g_il_n 3 dX2_putAnyWord_21 rfl ?_
        refine g_cv (r_V (st := []) (As := [.ref (γ.2.2 1), .int (nI p), .int (nI w)]) (d := 1) 2 (by decide) rfl rfl (c_X2_allowWord l γ (va_up I 19 F) L P g n r p w (wany g w (g 0 w)) (hG.up (by decide) F) hw hp (by rw [va_us]; exact hF _ hc8)) gX2_putAnyWord_X2_allowWord rfl ⟨rfl, by decide, by decide, rfl⟩ ⟨Nat.le_of_ble_eq_true rfl, Nat.le_of_ble_eq_true rfl⟩ rfl (Nat.le_of_ble_eq_true rfl) dX2_putAnyWord_22 ⟨Nat.zero_le _, Nat.zero_le _⟩) ?_
        rintro Iz2 Lz2 ⟨eIz2, eLz2⟩
        rw [eIz2, eLz2, va_uw]
        refine g_inc (v := nI (w + 1)) (lv' := [(3, .int (nI (w + 1))), (0, .ref (γ.2.2 2)), (1, .ref (γ.2.2 1)), (2, .int (nI p))]) 3 dX2_putAnyWord_25 rfl (inc_1 _) (by decide) rfl ?_
        refine g_goto (tgt := 10) dX2_putAnyWord_28 (by decide) ?_
        refine g_sub [1, 2, 3, 0] rfl ?_
        exact ih (w + 1) (upd F (sp p (p + 1) * 8 + g 0 w) (nI (wany g w (g 0 w) ||| 2 ^ g 1 w))) (by omega) (fun c hc => by
          by_cases e : c = g 0 w
          · subst e; rw [upd_s]; simp [wany, orf, wset]
          · rw [upd_n _ _ (by omega), hF c hc]; simp [wany, orf, wset, Ne.symm e]) (fun j hj => by rw [upd_n _ _ (by omega)]; exact hO j hj)
  refine g_sub [1, 2, 3, 0] rfl ?_
  exact lp n 0 F (Nat.zero_add n) hF hO
