theorem dec_n {a : Nat} (h : 0 < a) : nI a + Int32.ofInt (-1) = nI (a - 1) := by
  obtain ⟨b, rfl⟩ : ∃ b, a = b + 1 := ⟨a - 1, by omega⟩
  rw [dec_1]; rfl
/-! the class: spoiling, correcting -/

theorem in_X4_spoil_1 : ∀ w ∈ wsX10, w ∈ wsX4_spoil := by decide +kernel
theorem in_X4_spoil_4 : ∀ w ∈ wsX40, w ∈ wsX4_spoil := by decide +kernel
theorem ts_X4_spoil_83 : ∀ w ∈ (vx_atS RX4 83 "java/lang/IndexOutOfBoundsException" ["java/lang/RuntimeException", "java/lang/Exception"]).filter goodWord, w ∈ wsX4_spoil := by decide +kernel
set_option maxRecDepth 100000 in
set_option maxHeartbeats 4000000 in
theorem c_X4_spoil (l : Launch) (hl0 : l.stackTraces = false) (γ : Gm) (I : IT) (L : LT) (P : PT) (g : GR) (n r9 q : Nat) (u : Nat → Nat) (hG : GW I g n r9 q u) (x : Int32) : Xi l yX4_spoil wsX4_spoil 6 γ [.ref (γ.2.2 0), .int x] I L P (xq (inB x q) (true) "java/lang/IndexOutOfBoundsException" "java/lang/IndexOutOfBoundsException" I L) (fun r I' L' => (inB x q) = true ∧ r = spo g r9 u q n (tn x) ∧ GW I' g n r9 q u ∧ FG I I' ∧ L' = L) := by
  refine Xi_of (own := RX4) (cc := cX4_spoil) (maxL := 4) (by decide) rfl rfl (Nat.le_of_ble_eq_true rfl) ?_
  refine g_sub (lv' := [(0, .ref (γ.2.2 0)), (1, .int x)]) [0, 1] rfl ?_
  have hq6 := hG.2.2.1
  refine g_il_n 1 dX4_spoil_0 rfl ?_
  refine g_al_n 0 dX4_spoil_1 rfl ?_
  refine g_get 0 2 (by decide) rfl in_X4_spoil_4 rfl (by decide) (by decide +kernel) rfl rfl dX4_spoil_2 ?_
  refine g_top (v := nI q) (hG.2.1) ?_
  refine g_ci0 (v := bi (!inB x q)) (r_S (st := []) (As := [.int x, .int (nI q)]) (d := 0) (c_X4_isOutside l γ I L P x q (by omega)) gX4_spoil_X4_isOutside rfl ⟨by decide, by decide, rfl⟩ ⟨Nat.le_of_ble_eq_true rfl, Nat.le_of_ble_eq_true rfl⟩ rfl (Nat.le_of_ble_eq_true rfl) dX4_spoil_5 ⟨Nat.zero_le _, Nat.zero_le _⟩) ?_
  refine gb_eq (tgt := 21) dX4_spoil_8 (by decide) (fun h1 => ?_) (fun h1 => ?_)
  · skip
    have hok := bnot_f h1
    obtain ⟨ep, hpq⟩ := inB_tn (by omega) hok
    refine g_lv (lv' := [(0, .ref (γ.2.2 0)), (1, .int (nI (tn x)))]) (by rw [← ep]) ?_
    refine g_al_n 0 dX4_spoil_21 rfl ?_
    refine g_ic (v := (-1 : Int32)) dX4_spoil_22 (by decide) ?_
    refine g_pc (pc' := 23) rfl ?_
    refine g_ic (v := (-1 : Int32)) dX4_spoil_23 (by decide) ?_
    refine g_ci (r_V (st := []) (As := [.int (-1 : Int32), .int (-1 : Int32)]) (d := 4) 0 (by decide) rfl rfl (c_X4_isSentenceFreeAt l γ I L P g n r9 q u hG (-1) (-1)) gX4_spoil_X4_isSentenceFreeAt rfl ⟨rfl, by decide, by decide, rfl⟩ ⟨Nat.le_of_ble_eq_true rfl, Nat.le_of_ble_eq_true rfl⟩ rfl (Nat.le_of_ble_eq_true rfl) dX4_spoil_24 ⟨Nat.zero_le _, Nat.zero_le _⟩) ?_
    rintro rz2 J Lz2 ⟨ez2, hJF, eLz2⟩
    subst ez2
    rw [eLz2]
    have hJG := hJF.gw hG
    have hup := (hG.2.2.2 (tn x) hpq).2
    refine gb_ne (tgt := 32) dX4_spoil_27 (by decide) (fun hb => ?_) (fun hb => ?_)
    · skip
      have hS : isS g r9 u q = true := by rw [isF_no hq6] at hb; exact hb
      refine g_al_n 0 dX4_spoil_32 rfl ?_
      refine g_get (v := .ref (γ.2.2 1)) 0 0 (by decide) rfl in_X4_spoil_4 rfl (by decide) (by decide +kernel) rfl rfl dX4_spoil_33 ?_
      refine g_getN (v := .ref (γ.2.2 14)) 1 1 (by decide) rfl in_X4_spoil_1 rfl (by decide) nw_RX4_84 rfl rfl dX4_spoil_36 ?_
      refine g_al_n 0 dX4_spoil_39 rfl ?_
      refine g_get (v := .ref (γ.2.2 12)) 0 1 (by decide) rfl in_X4_spoil_4 rfl (by decide) (by decide +kernel) rfl rfl dX4_spoil_40 ?_
      refine g_pc (pc' := 43) rfl ?_
      refine g_il_n 1 dX4_spoil_43 rfl ?_
      refine g_iald (v := nI (u (tn x))) 12 (tn x) (by decide) (by decide) (show tn x < 6 by omega) ((hJG.2.2.2 (tn x) hpq).1) dX4_spoil_44 ?_
      refine g_iald (v := nI (g 0 (u (tn x)))) 14 (u (tn x)) (by decide) (by decide) (show u (tn x) < 9 by have := hG.1.n_le; omega) (hJG.1.cat hup) dX4_spoil_45 ?_
      refine g_is_n (lv' := [(2, .int (nI (g 0 (u (tn x))))), (0, .ref (γ.2.2 0)), (1, .int (nI (tn x)))]) dX4_spoil_46 (by decide) rfl ?_
      refine g_ic (v := nI 0) dX4_spoil_47 (by decide) ?_
      refine g_is_n (lv' := [(3, .int (nI 0)), (2, .int (nI (g 0 (u (tn x))))), (0, .ref (γ.2.2 0)), (1, .int (nI (tn x)))]) dX4_spoil_48 (by decide) rfl ?_
      have lp : ∀ (z : Nat) (k : Nat) (T : IT) (hk : k + z = n) (hf : fst1 (sok g r9 u q (tn x)) n 0 = fst1 (sok g r9 u q (tn x)) z k) (hQ : FC I T), G E1 l cX4_spoil 4 wsX4_spoil RX4 (some .int) (rmx 6) γ P (AE γ) (QXi γ P (xq (inB x q) (true) "java/lang/IndexOutOfBoundsException" "java/lang/IndexOutOfBoundsException" I L) (fun r I' L' => (inB x q) = true ∧ r = spo g r9 u q n (tn x) ∧ GW I' g n r9 q u ∧ FG I I' ∧ L' = L)) 0 0 49 [(0, .ref (γ.2.2 0)), (1, .int (nI (tn x))), (2, .int (nI (g 0 (u (tn x))))), (3, .int (nI k))] [] T L := by
        intro z
        induction z with
        | zero =>
          intro k T hk hf hQ
          simp only [Nat.add_zero] at hk
          have hTG := hQ.gw hG
          have hn9 := hG.1.n_le
          refine g_il_n 3 dX4_spoil_49 rfl ?_
          refine g_al_n 0 dX4_spoil_50 rfl ?_
          refine g_pc (pc' := 51) rfl ?_
          refine g_get (v := .ref (γ.2.2 1)) 0 0 (by decide) rfl in_X4_spoil_4 rfl (by decide) (by decide +kernel) rfl rfl dX4_spoil_51 ?_
          refine g_getN 1 0 (by decide) rfl in_X4_spoil_1 rfl (by decide) nw_RX4_59 rfl rfl dX4_spoil_54 ?_
          refine g_top (v := nI n) (hTG.1.cn) ?_
          refine gn_ge (tgt := 90) dX4_spoil_57 (by decide) (by omega) (by omega) (fun h2 => ?_) (fun h2 => ?_)
          · skip
            refine g_ic (v := (-1 : Int32)) dX4_spoil_90 (by decide) ?_
            exact g_xiret dX4_spoil_91 (⟨hok, by rw [spo, hS, hf]; rfl, (hQ).gw hG, (hQ).fg, rfl⟩)
          · skip
            exfalso; omega
        | succ z ih =>
          intro k T hk hf hQ
          have hkn : k < n := by omega
          have hTG := hQ.gw hG
          have hn9 := hG.1.n_le
          refine g_il_n 3 dX4_spoil_49 rfl ?_
          refine g_al_n 0 dX4_spoil_50 rfl ?_
          refine g_get (v := .ref (γ.2.2 1)) 0 0 (by decide) rfl in_X4_spoil_4 rfl (by decide) (by decide +kernel) rfl rfl dX4_spoil_51 ?_
          refine g_pc (pc' := 54) rfl ?_
          refine g_getN 1 0 (by decide) rfl in_X4_spoil_1 rfl (by decide) nw_RX4_59 rfl rfl dX4_spoil_54 ?_
          refine g_top (v := nI n) (hTG.1.cn) ?_
          refine gn_ge (tgt := 90) dX4_spoil_57 (by decide) (by omega) (by omega) (fun h2 => ?_) (fun h2 => ?_)
          · skip
            exfalso; omega
          · skip
            refine g_al_n 0 dX4_spoil_60 rfl ?_
            refine g_get (v := .ref (γ.2.2 1)) 0 0 (by decide) rfl in_X4_spoil_4 rfl (by decide) (by decide +kernel) rfl rfl dX4_spoil_61 ?_
            refine g_getN (v := .ref (γ.2.2 14)) 1 1 (by decide) rfl in_X4_spoil_1 rfl (by decide) nw_RX4_84 rfl rfl dX4_spoil_64 ?_
            refine g_il_n 3 dX4_spoil_67 rfl ?_
            refine g_iald (v := nI (g 0 k)) 14 k (by decide) (by decide) (show k < 9 by omega) (hTG.1.cat hkn) dX4_spoil_68 ?_
            refine g_il_n 2 dX4_spoil_69 rfl ?_
            refine g_pc (pc' := 70) rfl ?_
            refine gn_ne (tgt := 84) dX4_spoil_70 (by decide) (by have := hG.1.cat_lt hkn; omega) (by have := hG.1.cat_lt hup; omega) (fun h3 => ?_) (fun h3 => ?_)
            · skip
              have hc : sok g r9 u q (tn x) k = false := by rw [sok, decide_eq_false h3]; rfl
              refine g_inc (v := nI (k + 1)) (lv' := [(3, .int (nI (k + 1))), (0, .ref (γ.2.2 0)), (1, .int (nI (tn x))), (2, .int (nI (g 0 (u (tn x)))))]) 3 dX4_spoil_84 rfl (inc_1 _) (by decide) rfl ?_
              refine g_goto (tgt := 49) dX4_spoil_87 (by decide) ?_
              refine g_sub [1, 2, 3, 0] rfl ?_
              exact ih (k + 1) T (by omega) (by rw [hf, fst1_s, hc]; rfl) hQ
            · skip
              refine g_al_n 0 dX4_spoil_73 rfl ?_
              refine g_il_n 1 dX4_spoil_74 rfl ?_
              refine g_il_n 3 dX4_spoil_75 rfl ?_
              refine g_ci (r_V (st := []) (As := [.int (nI (tn x)), .int (nI k)]) (d := 5) 0 (by decide) rfl rfl (c_X4_isSentenceWith l γ T L P g n r9 q u (hQ.gw hG) (tn x) (k) hpq hkn) gX4_spoil_X4_isSentenceWith rfl ⟨rfl, by decide, by decide, rfl⟩ ⟨Nat.le_of_ble_eq_true rfl, Nat.le_of_ble_eq_true rfl⟩ rfl (Nat.le_of_ble_eq_true rfl) dX4_spoil_76 ⟨Nat.zero_le _, Nat.zero_le _⟩) ?_
              rintro rz3 K Lz3 ⟨ez3, hK, eLz3⟩
              subst ez3
              rw [eLz3]
              have hKF : FC I K := hQ.trans hK
              refine gb_ne (tgt := 84) dX4_spoil_79 (by decide) (fun h4 => ?_) (fun h4 => ?_)
              · skip
                have hc : sok g r9 u q (tn x) k = false := by rw [sok, h4]; simp
                refine g_pc (pc' := 84) rfl ?_
                refine g_inc (v := nI (k + 1)) (lv' := [(3, .int (nI (k + 1))), (0, .ref (γ.2.2 0)), (1, .int (nI (tn x))), (2, .int (nI (g 0 (u (tn x)))))]) 3 dX4_spoil_84 rfl (inc_1 _) (by decide) rfl ?_
                refine g_goto (tgt := 49) dX4_spoil_87 (by decide) ?_
                refine g_sub [1, 2, 3, 0] rfl ?_
                exact ih (k + 1) K (by omega) (by rw [hf, fst1_s, hc]; rfl) hKF
              · skip
                have hc : sok g r9 u q (tn x) k = true := by rw [sok, decide_eq_true h3, h4]; rfl
                refine g_il_n 3 dX4_spoil_82 rfl ?_
                exact g_xiret dX4_spoil_83 (⟨hok, by rw [spo, hS, hf, fst1_s, hc]; rfl, (hKF).gw hG, (hKF).fg, rfl⟩)
      refine g_sub [2, 3, 1, 0] rfl ?_
      exact lp n 0 J (Nat.zero_add _) rfl hJF
    · skip
      refine g_ic (v := (-1 : Int32)) dX4_spoil_30 (by decide) ?_
      exact g_xiret dX4_spoil_31 (⟨hok, by rw [isF_no hq6] at hb; rw [spo, hb]; rfl, (hJF).gw hG, (hJF).fg, rfl⟩)
  · skip
    exact g_throw (cls := "java/lang/IndexOutOfBoundsException") (text := "no such place") (ik := 79) (is := 108) (ic := 83) hl0 (by decide) (by decide +kernel) (by decide +kernel) (List.mem_of_getElem? (i := 8) rfl) ts_X4_spoil_83 tw_83 tg_83 dX4_spoil_11 dX4_spoil_14 dX4_spoil_15 dX4_spoil_17 dX4_spoil_20 (Nat.le_of_ble_eq_true rfl) (Nat.le_of_ble_eq_true rfl) (Nat.le_of_ble_eq_true rfl) (Nat.le_of_ble_eq_true rfl) (⟨Or.inl ⟨rfl, bnot_t h1⟩, rfl, rfl⟩)

theorem in_X4_correction_1 : ∀ w ∈ wsX10, w ∈ wsX4_correction := by decide +kernel
theorem in_X4_correction_4 : ∀ w ∈ wsX40, w ∈ wsX4_correction := by decide +kernel
theorem ts_X4_correction_83 : ∀ w ∈ (vx_atS RX4 83 "java/lang/IndexOutOfBoundsException" ["java/lang/RuntimeException", "java/lang/Exception"]).filter goodWord, w ∈ wsX4_correction := by decide +kernel
set_option maxRecDepth 100000 in
set_option maxHeartbeats 4000000 in
theorem c_X4_correction (l : Launch) (hl0 : l.stackTraces = false) (γ : Gm) (I : IT) (L : LT) (P : PT) (g : GR) (n r9 q : Nat) (u : Nat → Nat) (hG : GW I g n r9 q u) (x : Int32) : Xi l yX4_correction wsX4_correction 6 γ [.ref (γ.2.2 0), .int x] I L P (xq (pB (¬ x < 0)) (true) "java/lang/IndexOutOfBoundsException" "java/lang/IndexOutOfBoundsException" I L) (fun r I' L' => (pB (¬ x < 0)) = true ∧ r = cor g r9 u q n (tn x) ∧ GW I' g n r9 q u ∧ FG I I' ∧ L' = L) := by
  refine Xi_of (own := RX4) (cc := cX4_correction) (maxL := 5) (by decide) rfl rfl (Nat.le_of_ble_eq_true rfl) ?_
  refine g_sub (lv' := [(0, .ref (γ.2.2 0)), (1, .int x)]) [0, 1] rfl ?_
  have hq6 := hG.2.2.1
  have hn9 := hG.1.n_le
  refine g_il_n 1 dX4_correction_0 rfl ?_
  refine g_if_ge (tgt := 14) dX4_correction_1 (by decide) (fun h1 => ?_) (fun h1 => ?_)
  · skip
    have hx0 : ¬ x < 0 := Int32.not_lt.mpr h1
    have hok : pB (¬ x < 0) = true := pB_of hx0
    obtain ⟨X, hX, ex⟩ := nI_of hx0
    have eX : tn x = X := by rw [ex]; exact tn_nI hX
    refine g_lv (lv' := [(0, .ref (γ.2.2 0)), (1, .int (nI X))]) (by rw [← ex]) ?_
    refine g_il_n 1 dX4_correction_14 rfl ?_
    refine g_is_n (lv' := [(2, .int (nI X)), (0, .ref (γ.2.2 0)), (1, .int (nI X))]) dX4_correction_15 (by decide) rfl ?_
    refine g_ic (v := nI 0) dX4_correction_16 (by decide) ?_
    refine g_is_n (lv' := [(3, .int (nI 0)), (2, .int (nI X)), (0, .ref (γ.2.2 0)), (1, .int (nI X))]) dX4_correction_17 (by decide) rfl ?_
    have lp : ∀ (z : Nat) (p : Nat) (M : Nat) (T : IT) (hp : p + z = q) (hkf : kfs (cok g r9 u q n) (z * n) (p * n) M = kfs (cok g r9 u q n) (q * n) 0 X) (hMl : M < 2 ^ 31) (hQ : FC I T), G E1 l cX4_correction 5 wsX4_correction RX4 (some .int) (rmx 6) γ P (AE γ) (QXi γ P (xq (pB (¬ x < 0)) (true) "java/lang/IndexOutOfBoundsException" "java/lang/IndexOutOfBoundsException" I L) (fun r I' L' => (pB (¬ x < 0)) = true ∧ r = cor g r9 u q n (tn x) ∧ GW I' g n r9 q u ∧ FG I I' ∧ L' = L)) 0 0 18 [(0, .ref (γ.2.2 0)), (2, .int (nI M)), (3, .int (nI p))] [] T L := by
      intro z
      induction z with
      | zero =>
        intro p M T hp hkf hMl hQ
        simp only [Nat.add_zero] at hp
        rw [Nat.zero_mul] at hkf
        have hTG := hQ.gw hG
        refine g_il_n 2 dX4_correction_18 rfl ?_
        refine g_pc (pc' := 19) rfl ?_
        refine g_al_n 0 dX4_correction_19 rfl ?_
        refine g_get 0 2 (by decide) rfl in_X4_correction_4 rfl (by decide) (by decide +kernel) rfl rfl dX4_correction_20 ?_
        refine g_top (v := nI q) (hTG.2.1) ?_
        refine gn_ge (tgt := 89) dX4_correction_23 (by decide) (by omega) (by omega) (fun h5 => ?_) (fun h5 => ?_)
        · skip
          refine g_ic (v := (-1 : Int32)) dX4_correction_89 (by decide) ?_
          exact g_xiret dX4_correction_90 (⟨hok, by rw [eX, cor, ← hkf]; rfl, (hQ).gw hG, (hQ).fg, rfl⟩)
        · skip
          exfalso; omega
      | succ z ih =>
        intro p M T hp hkf hMl hQ
        have hTG := hQ.gw hG
        have hpq : p < q := by omega
        have hup := (hG.2.2.2 p hpq).2
        refine g_il_n 2 dX4_correction_18 rfl ?_
        refine g_al_n 0 dX4_correction_19 rfl ?_
        refine g_get 0 2 (by decide) rfl in_X4_correction_4 rfl (by decide) (by decide +kernel) rfl rfl dX4_correction_20 ?_
        refine g_top (v := nI q) (hTG.2.1) ?_
        refine g_pc (pc' := 23) rfl ?_
        refine gn_ge (tgt := 89) dX4_correction_23 (by decide) (by omega) (by omega) (fun h5 => ?_) (fun h5 => ?_)
        · skip
          exfalso; omega
        · skip
          refine g_ic (v := nI 0) dX4_correction_26 (by decide) ?_
          refine g_is (lv' := [(4, .int (nI 0)), (0, .ref (γ.2.2 0)), (2, .int (nI M)), (3, .int (nI p))]) dX4_correction_27 (by decide) rfl ?_
          have lp2 : ∀ (z2 : Nat) (w : Nat) (M : Nat) (T : IT) (hw : w + z2 = n) (hkf : kfs (cok g r9 u q n) (z * n + z2) (p * n + w) M = kfs (cok g r9 u q n) (q * n) 0 X) (hMl : M < 2 ^ 31) (hQ : FC I T), G E1 l cX4_correction 5 wsX4_correction RX4 (some .int) (rmx 6) γ P (AE γ) (QXi γ P (xq (pB (¬ x < 0)) (true) "java/lang/IndexOutOfBoundsException" "java/lang/IndexOutOfBoundsException" I L) (fun r I' L' => (pB (¬ x < 0)) = true ∧ r = cor g r9 u q n (tn x) ∧ GW I' g n r9 q u ∧ FG I I' ∧ L' = L)) 0 0 29 [(0, .ref (γ.2.2 0)), (2, .int (nI M)), (3, .int (nI p)), (4, .int (nI w))] [] T L := by
            intro z2
            induction z2 with
            | zero =>
              intro w M T hw hkf hMl hQ
              simp only [Nat.add_zero] at hw
              have hTG := hQ.gw hG
              refine g_il 3 dX4_correction_29 rfl ?_
              refine g_al_n 0 dX4_correction_31 rfl ?_
              refine g_get (v := .ref (γ.2.2 1)) 0 0 (by decide) rfl in_X4_correction_4 rfl (by decide) (by decide +kernel) rfl rfl dX4_correction_32 ?_
              refine g_getN 1 0 (by decide) rfl in_X4_correction_1 rfl (by decide) nw_RX4_59 rfl rfl dX4_correction_35 ?_
              refine g_top (v := nI n) (hTG.1.cn) ?_
              refine gn_ge (tgt := 83) dX4_correction_38 (by decide) (by omega) (by omega) (fun h6 => ?_) (fun h6 => ?_)
              · skip
                refine g_pc (pc' := 83) rfl ?_
                refine g_inc (v := nI (p + 1)) (lv' := [(3, .int (nI (p + 1))), (0, .ref (γ.2.2 0)), (2, .int (nI M)), (4, .int (nI w))]) 2 dX4_correction_83 rfl (inc_1 _) (by decide) rfl ?_
                refine g_goto (tgt := 18) dX4_correction_86 (by decide) ?_
                refine g_sub [1, 2, 0] rfl ?_
                exact ih (p + 1) M T (by omega) (by rw [← hkf, hw, Nat.succ_mul]; rfl) hMl hQ
              · skip
                exfalso; omega
            | succ z2 ih2 =>
              intro w M T hw hkf hMl hQ
              have hTG := hQ.gw hG
              have hwn : w < n := by omega
              have hck : cok g r9 u q n (p * n + w) = (!decide (w = u p) && isS g r9 (ust u p w) q) := by rw [cok, dm_d hwn, dm_m hwn]
              refine g_il 3 dX4_correction_29 rfl ?_
              refine g_al_n 0 dX4_correction_31 rfl ?_
              refine g_get (v := .ref (γ.2.2 1)) 0 0 (by decide) rfl in_X4_correction_4 rfl (by decide) (by decide +kernel) rfl rfl dX4_correction_32 ?_
              refine g_getN 1 0 (by decide) rfl in_X4_correction_1 rfl (by decide) nw_RX4_59 rfl rfl dX4_correction_35 ?_
              refine g_top (v := nI n) (hTG.1.cn) ?_
              refine gn_ge (tgt := 83) dX4_correction_38 (by decide) (by omega) (by omega) (fun h6 => ?_) (fun h6 => ?_)
              · skip
                exfalso; omega
              · skip
                refine g_il 3 dX4_correction_41 rfl ?_
                refine g_pc (pc' := 43) rfl ?_
                refine g_al_n 0 dX4_correction_43 rfl ?_
                refine g_get (v := .ref (γ.2.2 12)) 0 1 (by decide) rfl in_X4_correction_4 rfl (by decide) (by decide +kernel) rfl rfl dX4_correction_44 ?_
                refine g_il_n 2 dX4_correction_47 rfl ?_
                refine g_iald (v := nI (u p)) 12 p (by decide) (by decide) (show p < 6 by omega) ((hTG.2.2.2 p hpq).1) dX4_correction_48 ?_
                refine gn_eq (tgt := 77) dX4_correction_49 (by decide) (by omega) (by omega) (fun h8 => ?_) (fun h8 => ?_)
                · skip
                  have hc : cok g r9 u q n (p * n + w) = false := by rw [hck, decide_eq_true h8]; rfl
                  refine g_inc (v := nI (w + 1)) (lv' := [(4, .int (nI (w + 1))), (0, .ref (γ.2.2 0)), (2, .int (nI M)), (3, .int (nI p))]) 3 dX4_correction_77 rfl (inc_1 _) (by decide) rfl ?_
                  refine g_goto (tgt := 29) dX4_correction_80 (by decide) ?_
                  refine g_sub [1, 2, 3, 0] rfl ?_
                  exact ih2 (w + 1) (M) T (by omega) (by rw [← hkf, show z * n + (z2 + 1) = (z * n + z2) + 1 from rfl, kfs_s, hc]; rfl) (by omega) hQ
                · skip
                  refine g_al_n 0 dX4_correction_52 rfl ?_
                  refine g_pc (pc' := 53) rfl ?_
                  refine g_il_n 2 dX4_correction_53 rfl ?_
                  refine g_il 3 dX4_correction_54 rfl ?_
                  refine g_ci (r_V (st := []) (As := [.int (nI p), .int (nI w)]) (d := 5) 0 (by decide) rfl rfl (c_X4_isSentenceWith l γ T L P g n r9 q u (hQ.gw hG) (p) (w) hpq hwn) gX4_correction_X4_isSentenceWith rfl ⟨rfl, by decide, by decide, rfl⟩ ⟨Nat.le_of_ble_eq_true rfl, Nat.le_of_ble_eq_true rfl⟩ rfl (Nat.le_of_ble_eq_true rfl) dX4_correction_56 ⟨Nat.zero_le _, Nat.zero_le _⟩) ?_
                  rintro rz1 K Lz1 ⟨ez1, hK, eLz1⟩
                  subst ez1
                  rw [eLz1]
                  have hKF : FC I K := hQ.trans hK
                  refine gb_eq (tgt := 77) dX4_correction_59 (by decide) (fun hb => ?_) (fun hb => ?_)
                  · skip
                    have hc : cok g r9 u q n (p * n + w) = false := by rw [hck, hb]; simp
                    refine g_inc (v := nI (w + 1)) (lv' := [(4, .int (nI (w + 1))), (0, .ref (γ.2.2 0)), (2, .int (nI M)), (3, .int (nI p))]) 3 dX4_correction_77 rfl (inc_1 _) (by decide) rfl ?_
                    refine g_goto (tgt := 29) dX4_correction_80 (by decide) ?_
                    refine g_sub [1, 2, 3, 0] rfl ?_
                    exact ih2 (w + 1) (M) K (by omega) (by rw [← hkf, show z * n + (z2 + 1) = (z * n + z2) + 1 from rfl, kfs_s, hc]; rfl) (by omega) hKF
                  · skip
                    have hc : cok g r9 u q n (p * n + w) = true := by rw [hck, decide_eq_false h8, hb]; rfl
                    refine g_il_n 1 dX4_correction_62 rfl ?_
                    refine gz_ne (tgt := 74) dX4_correction_63 (by decide) (by omega) (fun h11 => ?_) (fun h11 => ?_)
                    · skip
                      refine g_pc (pc' := 74) rfl ?_
                      refine g_inc (v := nI (M - 1)) (lv' := [(2, .int (nI (M - 1))), (0, .ref (γ.2.2 0)), (3, .int (nI p)), (4, .int (nI w))]) 1 dX4_correction_74 rfl (dec_n (by omega)) (by decide) rfl ?_
                      refine g_inc (v := nI (w + 1)) (lv' := [(4, .int (nI (w + 1))), (2, .int (nI (M - 1))), (0, .ref (γ.2.2 0)), (3, .int (nI p))]) 3 dX4_correction_77 rfl (inc_1 _) (by decide) rfl ?_
                      refine g_goto (tgt := 29) dX4_correction_80 (by decide) ?_
                      refine g_sub [2, 1, 3, 0] rfl ?_
                      exact ih2 (w + 1) (M - 1) K (by omega) (by rw [← hkf, show z * n + (z2 + 1) = (z * n + z2) + 1 from rfl, kfs_s, hc, if_pos rfl, if_neg h11]; rfl) (by omega) hKF
                    · skip
                      refine g_bi (v := nI 10) dX4_correction_66 (by decide) ?_
                      refine g_il_n 2 dX4_correction_68 rfl ?_
                      refine g_imul (v := nI (10 * p)) dX4_correction_69 (pk_mul _ _) ?_
                      refine g_il 3 dX4_correction_70 rfl ?_
                      refine g_iadd (v := nI (10 * p + w)) dX4_correction_72 (nI_add _ _) ?_
                      refine g_pc (pc' := 73) rfl ?_
                      exact g_xiret dX4_correction_73 (⟨hok, by rw [eX, cor, ← hkf, show z * n + (z2 + 1) = (z * n + z2) + 1 from rfl, kfs_s, hc, if_pos rfl, if_pos h11]; show _ = nI (10 * ((p * n + w) / n) + (p * n + w) % n); rw [dm_d hwn, dm_m hwn], (hKF).gw hG, (hKF).fg, rfl⟩)
          refine g_sub [1, 2, 3, 0] rfl ?_
          exact lp2 n 0 M T (Nat.zero_add _) (by rw [← hkf, Nat.succ_mul]; rfl) hMl hQ
    refine g_sub [2, 1, 0] rfl ?_
    exact lp q 0 X I (Nat.zero_add _) (by rw [Nat.zero_mul]) hX (FC.refl I)
  · skip
    exact g_throw (cls := "java/lang/IndexOutOfBoundsException") (text := "no such correction") (ik := 79) (is := 164) (ic := 83) hl0 (by decide) (by decide +kernel) (by decide +kernel) (List.mem_of_getElem? (i := 13) rfl) ts_X4_correction_83 tw_83 tg_83 dX4_correction_4 dX4_correction_7 dX4_correction_8 dX4_correction_10 dX4_correction_13 (Nat.le_of_ble_eq_true rfl) (Nat.le_of_ble_eq_true rfl) (Nat.le_of_ble_eq_true rfl) (Nat.le_of_ble_eq_true rfl) (⟨Or.inl ⟨rfl, pB_no (fun q9 => h1 (Int32.not_lt.mp q9))⟩, rfl, rfl⟩)
