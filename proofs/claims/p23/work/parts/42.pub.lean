/-! the class: its calls that look and may throw -/

theorem in_X4_wordAt_4 : ∀ w ∈ wsX40, w ∈ wsX4_wordAt := by decide +kernel
theorem tw_83 : ∀ w ∈ (vx_atS RX4 83 "java/lang/IndexOutOfBoundsException" ["java/lang/RuntimeException", "java/lang/Exception"]).filter (fun w => !goodWord w), w ∈ nwD.map Cond.declares ++ nwE.map (fun x => Cond.castable x x) := by decide +kernel
theorem tg_83 : ∀ w ∈ Cond.classLink RX4 79 "java/lang/IndexOutOfBoundsException" :: Cond.initialized "java/lang/IndexOutOfBoundsException" :: (vx_atS RX4 83 "java/lang/IndexOutOfBoundsException" ["java/lang/RuntimeException", "java/lang/Exception"]), vx_ot w = true := by decide +kernel
theorem ts_X4_wordAt_83 : ∀ w ∈ (vx_atS RX4 83 "java/lang/IndexOutOfBoundsException" ["java/lang/RuntimeException", "java/lang/Exception"]).filter goodWord, w ∈ wsX4_wordAt := by decide +kernel
set_option maxRecDepth 100000 in
set_option maxHeartbeats 4000000 in
theorem c_X4_wordAt (l : Launch) (hl0 : l.stackTraces = false) (γ : Gm) (I : IT) (L : LT) (P : PT) (g : GR) (n r9 q : Nat) (u : Nat → Nat) (hG : GW I g n r9 q u) (p : Int32) : Xi l yX4_wordAt wsX4_wordAt 1 γ [.ref (γ.2.2 0), .int p] I L P (xq (inB p q) (true) "java/lang/IndexOutOfBoundsException" "java/lang/IndexOutOfBoundsException" I L) (fun r I' L' => (inB p q) = true ∧ r = nI (u (tn p)) ∧ GW I' g n r9 q u ∧ FG I I' ∧ L' = L) := by
  refine Xi_of (own := RX4) (cc := cX4_wordAt) (maxL := 2) (by decide) rfl rfl (Nat.le_of_ble_eq_true rfl) ?_
  refine g_sub (lv' := [(0, .ref (γ.2.2 0)), (1, .int p)]) [0, 1] rfl ?_
  have hq6 := hG.2.2.1
  refine g_il_n 1 dX4_wordAt_0 rfl ?_
  refine g_al_n 0 dX4_wordAt_1 rfl ?_
  refine g_get 0 2 (by decide) rfl in_X4_wordAt_4 rfl (by decide) (by decide +kernel) rfl rfl dX4_wordAt_2 ?_
  refine g_top (v := nI q) (hG.2.1) ?_
  refine g_ci0 (v := bi (!inB p q)) (r_S (st := []) (As := [.int p, .int (nI q)]) (d := 0) (c_X4_isOutside l γ I L P p q (by omega)) gX4_wordAt_X4_isOutside rfl ⟨by decide, by decide, rfl⟩ ⟨Nat.le_of_ble_eq_true rfl, Nat.le_of_ble_eq_true rfl⟩ rfl (Nat.le_of_ble_eq_true rfl) dX4_wordAt_5 ⟨Nat.zero_le _, Nat.zero_le _⟩) ?_
  refine gb_eq (tgt := 21) dX4_wordAt_8 (by decide) (fun h1 => ?_) (fun h1 => ?_)
  · skip
    have hok := bnot_f h1
    obtain ⟨ep, hpq⟩ := inB_tn (by omega) hok
    refine g_lv (lv' := [(0, .ref (γ.2.2 0)), (1, .int (nI (tn p)))]) (by rw [← ep]) ?_
    refine g_al_n 0 dX4_wordAt_21 rfl ?_
    refine g_get (v := .ref (γ.2.2 12)) 0 1 (by decide) rfl in_X4_wordAt_4 rfl (by decide) (by decide +kernel) rfl rfl dX4_wordAt_22 ?_
    refine g_pc (pc' := 25) rfl ?_
    refine g_il_n 1 dX4_wordAt_25 rfl ?_
    refine g_iald (v := nI (u (tn p))) 12 (tn p) (by decide) (by decide) (show tn p < 6 by omega) ((hG.2.2.2 (tn p) hpq).1) dX4_wordAt_26 ?_
    exact g_xiret dX4_wordAt_27 (⟨hok, rfl, (FC.refl I).gw hG, (FC.refl I).fg, rfl⟩)
  · skip
    exact g_throw (cls := "java/lang/IndexOutOfBoundsException") (text := "no such place") (ik := 79) (is := 108) (ic := 83) hl0 (by decide) (by decide +kernel) (by decide +kernel) (List.mem_of_getElem? (i := 8) rfl) ts_X4_wordAt_83 tw_83 tg_83 dX4_wordAt_11 dX4_wordAt_14 dX4_wordAt_15 dX4_wordAt_17 dX4_wordAt_20 (Nat.le_of_ble_eq_true rfl) (Nat.le_of_ble_eq_true rfl) (Nat.le_of_ble_eq_true rfl) (Nat.le_of_ble_eq_true rfl) (⟨Or.inl ⟨rfl, bnot_t h1⟩, rfl, rfl⟩)

theorem ts_X4_readingsOf_83 : ∀ w ∈ (vx_atS RX4 83 "java/lang/IndexOutOfBoundsException" ["java/lang/RuntimeException", "java/lang/Exception"]).filter goodWord, w ∈ wsX4_readingsOf := by decide +kernel
set_option maxRecDepth 100000 in
set_option maxHeartbeats 4000000 in
theorem c_X4_readingsOf (l : Launch) (hl0 : l.stackTraces = false) (γ : Gm) (I : IT) (L : LT) (P : PT) (g : GR) (n r9 q : Nat) (u : Nat → Nat) (hG : GW I g n r9 q u) (x y z : Int32) : Xi l yX4_readingsOf wsX4_readingsOf 5 γ [.ref (γ.2.2 0), .int x, .int y, .int z] I L P (xq (pB (∃ a b, SPN x y q a b) && inB z 8) (true) "java/lang/IndexOutOfBoundsException" "java/lang/IndexOutOfBoundsException" I L) (fun r I' L' => (pB (∃ a b, SPN x y q a b) && inB z 8) = true ∧ r = nI (tld (sm (ct g r9 u (tn x) (tn y) (tn z)) 16)) ∧ GW I' g n r9 q u ∧ FG I I' ∧ L' = L) := by
  refine Xi_of (own := RX4) (cc := cX4_readingsOf) (maxL := 4) (by decide) rfl rfl (Nat.le_of_ble_eq_true rfl) ?_
  refine g_sub (lv' := [(0, .ref (γ.2.2 0)), (1, .int x), (2, .int y), (3, .int z)]) [0, 1, 2, 3] rfl ?_
  have hq6 := hG.2.2.1
  refine g_al_n 0 dX4_readingsOf_0 rfl ?_
  refine g_il_n 1 dX4_readingsOf_1 rfl ?_
  refine g_il_n 2 dX4_readingsOf_2 rfl ?_
  refine g_ci0 (v := bi (!pB (∃ a b, SPN x y q a b))) (r_V (st := []) (As := [.int x, .int y]) (d := 0) 0 (by decide) rfl rfl (c_X4_isNoSpan l γ I L P x y q hG.2.1 hq6) gX4_readingsOf_X4_isNoSpan rfl ⟨rfl, by decide, by decide, rfl⟩ ⟨Nat.le_of_ble_eq_true rfl, Nat.le_of_ble_eq_true rfl⟩ rfl (Nat.le_of_ble_eq_true rfl) dX4_readingsOf_3 ⟨Nat.zero_le _, Nat.zero_le _⟩) ?_
  refine gb_ne (tgt := 18) dX4_readingsOf_6 (by decide) (fun h1 => ?_) (fun h1 => ?_)
  · skip
    exact g_throw (cls := "java/lang/IndexOutOfBoundsException") (text := "no such words or category") (ik := 79) (is := 125) (ic := 83) hl0 (by decide) (by decide +kernel) (by decide +kernel) (List.mem_of_getElem? (i := 9) rfl) ts_X4_readingsOf_83 tw_83 tg_83 dX4_readingsOf_18 dX4_readingsOf_21 dX4_readingsOf_22 dX4_readingsOf_24 dX4_readingsOf_27 (Nat.le_of_ble_eq_true rfl) (Nat.le_of_ble_eq_true rfl) (Nat.le_of_ble_eq_true rfl) (Nat.le_of_ble_eq_true rfl) (⟨Or.inl ⟨rfl, by rw [bnot_t h1]; rfl⟩, rfl, rfl⟩)
  · skip
    refine g_il_n 3 dX4_readingsOf_9 rfl ?_
    refine g_pc (pc' := 10) rfl ?_
    refine g_bi (v := nI 8) dX4_readingsOf_10 (by decide) ?_
    refine g_ci0 (v := bi (!inB z 8)) (r_S (st := []) (As := [.int z, .int (nI 8)]) (d := 0) (c_X4_isOutside l γ I L P z 8 (by decide)) gX4_readingsOf_X4_isOutside rfl ⟨by decide, by decide, rfl⟩ ⟨Nat.le_of_ble_eq_true rfl, Nat.le_of_ble_eq_true rfl⟩ rfl (Nat.le_of_ble_eq_true rfl) dX4_readingsOf_12 ⟨Nat.zero_le _, Nat.zero_le _⟩) ?_
    refine gb_eq (tgt := 28) dX4_readingsOf_15 (by decide) (fun h2 => ?_) (fun h2 => ?_)
    · skip
      have hP2 := bnot_f h1
      have hP3 := bnot_f h2
      have hok : (pB (∃ a b, SPN x y q a b) && inB z 8) = true := by rw [hP2, hP3]; rfl
      obtain ⟨ex, ey, hab, hb⟩ := SPN_tn (by omega) (pB_t.mp hP2)
      obtain ⟨ez, hc⟩ := inB_tn (by decide) hP3
      refine g_lv (lv' := [(0, .ref (γ.2.2 0)), (1, .int (nI (tn x))), (2, .int (nI (tn y))), (3, .int (nI (tn z)))]) (by rw [← ex, ← ey, ← ez]) ?_
      refine g_al_n 0 dX4_readingsOf_28 rfl ?_
      refine g_il_n 1 dX4_readingsOf_29 rfl ?_
      refine g_il_n 2 dX4_readingsOf_30 rfl ?_
      refine g_il_n 3 dX4_readingsOf_31 rfl ?_
      refine g_ci (r_V (st := []) (As := [.int (nI (tn x)), .int (nI (tn y)), .int (nI (tn z))]) (d := 4) 0 (by decide) rfl rfl (c_X4_countReadings l γ I L P g n r9 q u hG (tn x) (tn y) (tn z) hab hb hc) gX4_readingsOf_X4_countReadings rfl ⟨rfl, by decide, by decide, rfl⟩ ⟨Nat.le_of_ble_eq_true rfl, Nat.le_of_ble_eq_true rfl⟩ rfl (Nat.le_of_ble_eq_true rfl) dX4_readingsOf_32 ⟨Nat.zero_le _, Nat.zero_le _⟩) ?_
      rintro rz3 J Lz3 ⟨ez3, hJF, eLz3⟩
      subst ez3
      rw [eLz3]
      refine g_pc (pc' := 35) rfl ?_
      exact g_xiret dX4_readingsOf_35 (⟨hok, rfl, (hJF).gw hG, (hJF).fg, rfl⟩)
    · skip
      exact g_throw (cls := "java/lang/IndexOutOfBoundsException") (text := "no such words or category") (ik := 79) (is := 125) (ic := 83) hl0 (by decide) (by decide +kernel) (by decide +kernel) (List.mem_of_getElem? (i := 9) rfl) ts_X4_readingsOf_83 tw_83 tg_83 dX4_readingsOf_18 dX4_readingsOf_21 dX4_readingsOf_22 dX4_readingsOf_24 dX4_readingsOf_27 (Nat.le_of_ble_eq_true rfl) (Nat.le_of_ble_eq_true rfl) (Nat.le_of_ble_eq_true rfl) (Nat.le_of_ble_eq_true rfl) (⟨Or.inl ⟨rfl, by rw [bnot_t h2, Bool.and_false]⟩, rfl, rfl⟩)

theorem in_X4_has_1 : ∀ w ∈ wsX10, w ∈ wsX4_has := by decide +kernel
theorem in_X4_has_4 : ∀ w ∈ wsX40, w ∈ wsX4_has := by decide +kernel
theorem tw_56 : ∀ w ∈ (vx_atS RX4 56 "java/lang/IllegalArgumentException" ["java/lang/RuntimeException", "java/lang/Exception"]).filter (fun w => !goodWord w), w ∈ nwD.map Cond.declares ++ nwE.map (fun x => Cond.castable x x) := by decide +kernel
theorem tg_56 : ∀ w ∈ Cond.classLink RX4 52 "java/lang/IllegalArgumentException" :: Cond.initialized "java/lang/IllegalArgumentException" :: (vx_atS RX4 56 "java/lang/IllegalArgumentException" ["java/lang/RuntimeException", "java/lang/Exception"]), vx_ot w = true := by decide +kernel
theorem ts_X4_has_56 : ∀ w ∈ (vx_atS RX4 56 "java/lang/IllegalArgumentException" ["java/lang/RuntimeException", "java/lang/Exception"]).filter goodWord, w ∈ wsX4_has := by decide +kernel
theorem ts_X4_has_83 : ∀ w ∈ (vx_atS RX4 83 "java/lang/IndexOutOfBoundsException" ["java/lang/RuntimeException", "java/lang/Exception"]).filter goodWord, w ∈ wsX4_has := by decide +kernel
set_option maxRecDepth 100000 in
set_option maxHeartbeats 4000000 in
theorem c_X4_has (l : Launch) (hl0 : l.stackTraces = false) (γ : Gm) (I : IT) (L : LT) (P : PT) (g : GR) (n r9 q : Nat) (u : Nat → Nat) (hG : GW I g n r9 q u) (x y z v : Int32) : Xi l yX4_has wsX4_has 5 γ [.ref (γ.2.2 0), .int x, .int y, .int z, .int v] I L P (xq (pB (∃ a b, SPN x y q a b) && inB z 8) (pB (∃ m, DP v m)) "java/lang/IndexOutOfBoundsException" "java/lang/IllegalArgumentException" I L) (fun r I' L' => ((pB (∃ a b, SPN x y q a b) && inB z 8) && pB (∃ m, DP v m)) = true ∧ r = bi ((ch g r9 (lxw g u) (tn x) (tn y) (tn z)).testBit (4 * (tn v / 10) + tn v % 10)) ∧ GW I' g n r9 q u ∧ FG I I' ∧ L' = L) := by
  refine Xi_of (own := RX4) (cc := cX4_has) (maxL := 6) (by decide) rfl rfl (Nat.le_of_ble_eq_true rfl) ?_
  refine g_sub (lv' := [(0, .ref (γ.2.2 0)), (1, .int x), (2, .int y), (3, .int z), (4, .int v)]) [0, 1, 2, 3, 4] rfl ?_
  have hq6 := hG.2.2.1
  refine g_al_n 0 dX4_has_0 rfl ?_
  refine g_il_n 1 dX4_has_1 rfl ?_
  refine g_il_n 2 dX4_has_2 rfl ?_
  refine g_ci0 (v := bi (!pB (∃ a b, SPN x y q a b))) (r_V (st := []) (As := [.int x, .int y]) (d := 0) 0 (by decide) rfl rfl (c_X4_isNoSpan l γ I L P x y q hG.2.1 hq6) gX4_has_X4_isNoSpan rfl ⟨rfl, by decide, by decide, rfl⟩ ⟨Nat.le_of_ble_eq_true rfl, Nat.le_of_ble_eq_true rfl⟩ rfl (Nat.le_of_ble_eq_true rfl) dX4_has_3 ⟨Nat.zero_le _, Nat.zero_le _⟩) ?_
  refine gb_ne (tgt := 18) dX4_has_6 (by decide) (fun h1 => ?_) (fun h1 => ?_)
  · skip
    exact g_throw (cls := "java/lang/IndexOutOfBoundsException") (text := "no such words or category") (ik := 79) (is := 125) (ic := 83) hl0 (by decide) (by decide +kernel) (by decide +kernel) (List.mem_of_getElem? (i := 9) rfl) ts_X4_has_83 tw_83 tg_83 dX4_has_18 dX4_has_21 dX4_has_22 dX4_has_24 dX4_has_27 (Nat.le_of_ble_eq_true rfl) (Nat.le_of_ble_eq_true rfl) (Nat.le_of_ble_eq_true rfl) (Nat.le_of_ble_eq_true rfl) (⟨Or.inl ⟨rfl, by rw [bnot_t h1]; rfl⟩, rfl, rfl⟩)
  · skip
    refine g_il_n 3 dX4_has_9 rfl ?_
    refine g_pc (pc' := 10) rfl ?_
    refine g_bi (v := nI 8) dX4_has_10 (by decide) ?_
    refine g_ci0 (v := bi (!inB z 8)) (r_S (st := []) (As := [.int z, .int (nI 8)]) (d := 0) (c_X4_isOutside l γ I L P z 8 (by decide)) gX4_has_X4_isOutside rfl ⟨by decide, by decide, rfl⟩ ⟨Nat.le_of_ble_eq_true rfl, Nat.le_of_ble_eq_true rfl⟩ rfl (Nat.le_of_ble_eq_true rfl) dX4_has_12 ⟨Nat.zero_le _, Nat.zero_le _⟩) ?_
    refine gb_eq (tgt := 28) dX4_has_15 (by decide) (fun h2 => ?_) (fun h2 => ?_)
    · skip
      have hP2 := bnot_f h1
      have hP3 := bnot_f h2
      have hok : (pB (∃ a b, SPN x y q a b) && inB z 8) = true := by rw [hP2, hP3]; rfl
      obtain ⟨ex, ey, hab, hb⟩ := SPN_tn (by omega) (pB_t.mp hP2)
      obtain ⟨ez, hc⟩ := inB_tn (by decide) hP3
      refine g_lv (lv' := [(0, .ref (γ.2.2 0)), (1, .int (nI (tn x))), (2, .int (nI (tn y))), (3, .int (nI (tn z))), (4, .int v)]) (by rw [← ex, ← ey, ← ez]) ?_
      refine g_il 4 dX4_has_28 rfl ?_
      refine g_ci0 (v := bi (!pB (∃ m, DP v m))) (r_S (st := []) (As := [.int v]) (d := 0) (c_X4_isNoDigitPair l γ I L P v) gX4_has_X4_isNoDigitPair rfl ⟨by decide, by decide, rfl⟩ ⟨Nat.le_of_ble_eq_true rfl, Nat.le_of_ble_eq_true rfl⟩ rfl (Nat.le_of_ble_eq_true rfl) dX4_has_30 ⟨Nat.zero_le _, Nat.zero_le _⟩) ?_
      refine gb_eq (tgt := 46) dX4_has_33 (by decide) (fun h3 => ?_) (fun h3 => ?_)
      · skip
        have hV := bnot_f h3
        have hok2 : ((pB (∃ a b, SPN x y q a b) && inB z 8) && pB (∃ m, DP v m)) = true := by rw [hok, hV]; rfl
        obtain ⟨ev, hv1, hv2⟩ := DP_tn (pB_t.mp hV)
        refine g_lv (lv' := [(0, .ref (γ.2.2 0)), (1, .int (nI (tn x))), (2, .int (nI (tn y))), (3, .int (nI (tn z))), (4, .int (nI (tn v)))]) (by rw [← ev]) ?_
        refine g_al_n 0 dX4_has_46 rfl ?_
        refine g_get (v := .ref (γ.2.2 2)) 0 4 (by decide) rfl in_X4_has_4 rfl (by decide) (by decide +kernel) rfl rfl dX4_has_47 ?_
        refine g_pc (pc' := 50) rfl ?_
        refine g_al_n 0 dX4_has_50 rfl ?_
        refine g_get (v := .ref (γ.2.2 1)) 0 0 (by decide) rfl in_X4_has_4 rfl (by decide) (by decide +kernel) rfl rfl dX4_has_51 ?_
        refine g_al_n 0 dX4_has_54 rfl ?_
        refine g_get (v := .ref (γ.2.2 12)) 0 1 (by decide) rfl in_X4_has_4 rfl (by decide) (by decide +kernel) rfl rfl dX4_has_55 ?_
        refine g_al_n 0 dX4_has_58 rfl ?_
        refine g_get 0 2 (by decide) rfl in_X4_has_4 rfl (by decide) (by decide +kernel) rfl rfl dX4_has_59 ?_
        refine g_top (v := nI q) (hG.2.1) ?_
        refine g_al_n 0 dX4_has_62 rfl ?_
        refine g_get (v := .ref (γ.2.2 1)) 0 0 (by decide) rfl in_X4_has_4 rfl (by decide) (by decide +kernel) rfl rfl dX4_has_63 ?_
        refine g_pc (pc' := 66) rfl ?_
        refine g_getN 1 3 (by decide) rfl in_X4_has_1 rfl (by decide) nw_RX4_93 rfl rfl dX4_has_66 ?_
        refine g_top (v := nI r9) (hG.1.cr) ?_
        refine g_cv (r_VN (st := []) (As := [.ref (γ.2.2 1), .ref (γ.2.2 12), .int (nI q), .int (nI r9)]) (d := 4) (host := RX4) 2 (by decide) rfl rfl (c_X2_parse l γ I L P g n r9 r9 q 12 u hG.1 (Nat.le_refl _) hq6 (Or.inl rfl) (fun p hp => (hG.2.2.2 p hp).1) (fun p hp => (hG.2.2.2 p hp).2)) gX4_has_X2_parse_n129 rfl nm_RX4_129 (by decide +kernel) (by decide +kernel) (by decide +kernel) ⟨by decide, by decide, rfl⟩ ⟨Nat.le_of_ble_eq_true rfl, Nat.le_of_ble_eq_true rfl⟩ rfl (Nat.le_of_ble_eq_true rfl) dX4_has_69 ⟨Nat.zero_le _, Nat.zero_le _⟩) ?_
        rintro Iz4 Lz4 ⟨⟨F1, eIz4, hF1⟩, eLz4⟩
        rw [eIz4]
        rw [eLz4]
        have hch : ch g r9 (lxw g u) (tn x) (tn y) (tn z) < 2 ^ 16 := ch_lt16 hab (fun p _ hp c => wset_lt (hG.1.val_lt ((hG.2.2.2 p (by omega)).2)))
        refine g_al_n 0 dX4_has_72 rfl ?_
        refine g_get (v := .ref (γ.2.2 2)) 0 4 (by decide) rfl in_X4_has_4 rfl (by decide) (by decide +kernel) rfl rfl dX4_has_73 ?_
        refine g_il_n 1 dX4_has_76 rfl ?_
        refine g_il_n 2 dX4_has_77 rfl ?_
        refine g_il_n 3 dX4_has_78 rfl ?_
        refine g_ci0 (v := va_up I 19 F1 19 (sp (tn x) (tn y) * 8 + tn z)) (r_VN (st := []) (As := [.int (nI (tn x)), .int (nI (tn y)), .int (nI (tn z))]) (d := 1) (host := RX4) 2 (by decide) rfl rfl (c_X2_pairsOf l γ (va_up I 19 F1) L P (tn x) (tn y) (tn z) hab (by omega) hc) gX4_has_X2_pairsOf_n133 rfl nm_RX4_133 (by decide +kernel) (by decide +kernel) (by decide +kernel) ⟨by decide, by decide, rfl⟩ ⟨Nat.le_of_ble_eq_true rfl, Nat.le_of_ble_eq_true rfl⟩ rfl (Nat.le_of_ble_eq_true rfl) dX4_has_79 ⟨Nat.zero_le _, Nat.zero_le _⟩) ?_
        refine g_pc (pc' := 82) rfl ?_
        refine g_top (v := nI (ch g r9 (lxw g u) (tn x) (tn y) (tn z))) (by rw [va_us]; exact hF1 (tn x) (tn y) hab hb (tn z) hc) ?_
        refine g_is (lv' := [(5, .int (nI (ch g r9 (lxw g u) (tn x) (tn y) (tn z)))), (0, .ref (γ.2.2 0)), (1, .int (nI (tn x))), (2, .int (nI (tn y))), (3, .int (nI (tn z))), (4, .int (nI (tn v)))]) dX4_has_82 (by decide) rfl ?_
        refine g_il 0 dX4_has_84 rfl ?_
        refine g_il 5 dX4_has_86 rfl ?_
        refine g_bi (v := nI 10) dX4_has_88 (by decide) ?_
        refine g_idiv (v := nI (tn v / 10)) dX4_has_90 (by decide) (pk_div (by omega) (by omega) (by omega)) ?_
        refine g_il 5 dX4_has_91 rfl ?_
        refine g_bi (v := nI 10) dX4_has_93 (by decide) ?_
        refine g_irem (v := nI (tn v % 10)) dX4_has_95 (by decide) (pk_rem (by omega) (by omega) (by omega)) ?_
        refine g_pc (pc' := 96) rfl ?_
        refine g_ci0 (v := nI (tn v / 10 * 4 + tn v % 10)) (r_S (st := [.int (nI (ch g r9 (lxw g u) (tn x) (tn y) (tn z)))]) (As := [.int (nI (tn v / 10)), .int (nI (tn v % 10))]) (d := 0) (c_X4_pairOf l γ (va_up I 19 F1) L P (tn v / 10) (tn v % 10)) gX4_has_X4_pairOf rfl ⟨by decide, by decide, rfl⟩ ⟨Nat.le_of_ble_eq_true rfl, Nat.le_of_ble_eq_true rfl⟩ rfl (Nat.le_of_ble_eq_true rfl) dX4_has_96 ⟨Nat.zero_le _, Nat.zero_le _⟩) ?_
        refine g_ci0 (v := bi ((ch g r9 (lxw g u) (tn x) (tn y) (tn z)).testBit (tn v / 10 * 4 + tn v % 10))) (r_S (st := []) (As := [.int (nI (ch g r9 (lxw g u) (tn x) (tn y) (tn z))), .int (nI (tn v / 10 * 4 + tn v % 10))]) (d := 0) (c_X4_hasPair l γ (va_up I 19 F1) L P (ch g r9 (lxw g u) (tn x) (tn y) (tn z)) (tn v / 10 * 4 + tn v % 10) (by omega) (by omega)) gX4_has_X4_hasPair rfl ⟨by decide, by decide, rfl⟩ ⟨Nat.le_of_ble_eq_true rfl, Nat.le_of_ble_eq_true rfl⟩ rfl (Nat.le_of_ble_eq_true rfl) dX4_has_99 ⟨Nat.zero_le _, Nat.zero_le _⟩) ?_
        exact g_xzret (bi_nar _) dX4_has_102 (⟨hok2, by rw [Nat.mul_comm 4], (FC.up19 I F1).gw hG, (FC.up19 I F1).fg, rfl⟩)
      · skip
        exact g_throw (cls := "java/lang/IllegalArgumentException") (text := "no such values") (ik := 52) (is := 127) (ic := 56) hl0 (by decide) (by decide +kernel) (by decide +kernel) (List.mem_of_getElem? (i := 10) rfl) ts_X4_has_56 tw_56 tg_56 dX4_has_36 dX4_has_39 dX4_has_40 dX4_has_42 dX4_has_45 (Nat.le_of_ble_eq_true rfl) (Nat.le_of_ble_eq_true rfl) (Nat.le_of_ble_eq_true rfl) (Nat.le_of_ble_eq_true rfl) (⟨Or.inr ⟨rfl, hok, bnot_t h3⟩, rfl, rfl⟩)
    · skip
      exact g_throw (cls := "java/lang/IndexOutOfBoundsException") (text := "no such words or category") (ik := 79) (is := 125) (ic := 83) hl0 (by decide) (by decide +kernel) (by decide +kernel) (List.mem_of_getElem? (i := 9) rfl) ts_X4_has_83 tw_83 tg_83 dX4_has_18 dX4_has_21 dX4_has_22 dX4_has_24 dX4_has_27 (Nat.le_of_ble_eq_true rfl) (Nat.le_of_ble_eq_true rfl) (Nat.le_of_ble_eq_true rfl) (Nat.le_of_ble_eq_true rfl) (⟨Or.inl ⟨rfl, by rw [bnot_t h2, Bool.and_false]⟩, rfl, rfl⟩)

theorem ts_X4_sentences_56 : ∀ w ∈ (vx_atS RX4 56 "java/lang/IllegalArgumentException" ["java/lang/RuntimeException", "java/lang/Exception"]).filter goodWord, w ∈ wsX4_sentences := by decide +kernel
set_option maxRecDepth 100000 in
set_option maxHeartbeats 4000000 in
theorem c_X4_sentences (l : Launch) (hl0 : l.stackTraces = false) (γ : Gm) (I : IT) (L : LT) (P : PT) (g : GR) (n r9 q : Nat) (u : Nat → Nat) (hG : GW I g n r9 q u) (x : Int32) : Xi l yX4_sentences wsX4_sentences 6 γ [.ref (γ.2.2 0), .int x] I L P (xq (pB (∃ m, LEN x m)) (true) "java/lang/IllegalArgumentException" "java/lang/IllegalArgumentException" I L) (fun r I' L' => (pB (∃ m, LEN x m)) = true ∧ r = nI (bc (fun j => isS g r9 (dig n (tn x) j) (tn x)) (n ^ tn x)) ∧ GW I' g n r9 q u ∧ FG I I' ∧ L' = L) := by
  refine Xi_of (own := RX4) (cc := cX4_sentences) (maxL := 2) (by decide) rfl rfl (Nat.le_of_ble_eq_true rfl) ?_
  refine g_sub (lv' := [(0, .ref (γ.2.2 0)), (1, .int x)]) [0, 1] rfl ?_
  refine g_il_n 1 dX4_sentences_0 rfl ?_
  refine g_ci0 (v := bi (!pB (∃ m, LEN x m))) (r_S (st := []) (As := [.int x]) (d := 0) (c_X4_isNoLength l γ I L P x) gX4_sentences_X4_isNoLength rfl ⟨by decide, by decide, rfl⟩ ⟨Nat.le_of_ble_eq_true rfl, Nat.le_of_ble_eq_true rfl⟩ rfl (Nat.le_of_ble_eq_true rfl) dX4_sentences_1 ⟨Nat.zero_le _, Nat.zero_le _⟩) ?_
  refine gb_eq (tgt := 17) dX4_sentences_4 (by decide) (fun h1 => ?_) (fun h1 => ?_)
  · skip
    have hok := bnot_f h1
    obtain ⟨ex, hs1, hs4⟩ := LEN_tn (pB_t.mp hok)
    have hn9 := hG.1.n_le
    have hpow := pow_le4 hn9 hs4
    refine g_lv (lv' := [(0, .ref (γ.2.2 0)), (1, .int (nI (tn x)))]) (by rw [← ex]) ?_
    refine g_al_n 0 dX4_sentences_17 rfl ?_
    refine g_il_n 1 dX4_sentences_18 rfl ?_
    refine g_al_n 0 dX4_sentences_19 rfl ?_
    refine g_il_n 1 dX4_sentences_20 rfl ?_
    refine g_pc (pc' := 21) rfl ?_
    refine g_ci0 (v := nI (n ^ tn x)) (r_V (st := [.int (nI (tn x)), .ref (γ.2.2 0)]) (As := [.int (nI (tn x))]) (d := 0) 0 (by decide) rfl rfl (c_X4_rowsOfLength l γ I L P n (tn x) hG.1.cn (by omega)) gX4_sentences_X4_rowsOfLength rfl ⟨rfl, by decide, by decide, rfl⟩ ⟨Nat.le_of_ble_eq_true rfl, Nat.le_of_ble_eq_true rfl⟩ rfl (Nat.le_of_ble_eq_true rfl) dX4_sentences_21 ⟨Nat.zero_le _, Nat.zero_le _⟩) ?_
    refine g_ci (r_V (st := []) (As := [.int (nI (tn x)), .int (nI (n ^ tn x))]) (d := 5) 0 (by decide) rfl rfl (c_X4_makeSentences l γ I L P g n r9 q u hG (tn x) (n ^ tn x) hs1 hs4 (by omega)) gX4_sentences_X4_makeSentences rfl ⟨rfl, by decide, by decide, rfl⟩ ⟨Nat.le_of_ble_eq_true rfl, Nat.le_of_ble_eq_true rfl⟩ rfl (Nat.le_of_ble_eq_true rfl) dX4_sentences_24 ⟨Nat.zero_le _, Nat.zero_le _⟩) ?_
    rintro rr J Lz3 ⟨hMS, hJF, eLz3⟩
    rw [eLz3]
    have er : rr = nI (bc (fun j => isS g r9 (dig n (tn x) j) (tn x)) (n ^ tn x)) := by
      rcases hMS with ⟨_, er, _⟩ | ⟨j, _, _, hlt, _⟩
      · exact er
      · exact absurd hlt (Nat.lt_irrefl _)
    rw [er]
    exact g_xiret dX4_sentences_27 (⟨hok, rfl, (hJF).gw hG, (hJF).fg, rfl⟩)
  · skip
    exact g_throw (cls := "java/lang/IllegalArgumentException") (text := "no such length") (ik := 52) (is := 145) (ic := 56) hl0 (by decide) (by decide +kernel) (by decide +kernel) (List.mem_of_getElem? (i := 11) rfl) ts_X4_sentences_56 tw_56 tg_56 dX4_sentences_7 dX4_sentences_10 dX4_sentences_11 dX4_sentences_13 dX4_sentences_16 (Nat.le_of_ble_eq_true rfl) (Nat.le_of_ble_eq_true rfl) (Nat.le_of_ble_eq_true rfl) (Nat.le_of_ble_eq_true rfl) (⟨Or.inl ⟨rfl, bnot_t h1⟩, rfl, rfl⟩)

theorem ts_X4_share_56 : ∀ w ∈ (vx_atS RX4 56 "java/lang/IllegalArgumentException" ["java/lang/RuntimeException", "java/lang/Exception"]).filter goodWord, w ∈ wsX4_share := by decide +kernel
set_option maxRecDepth 100000 in
set_option maxHeartbeats 4000000 in
theorem c_X4_share (l : Launch) (hl0 : l.stackTraces = false) (γ : Gm) (I : IT) (L : LT) (P : PT) (g : GR) (n r9 q : Nat) (u : Nat → Nat) (hG : GW I g n r9 q u) (x : Int32) : Xf l yX4_share wsX4_share 6 γ [.ref (γ.2.2 0), .int x] I L P (xq (pB (∃ m, LEN x m)) (true) "java/lang/IllegalArgumentException" "java/lang/IllegalArgumentException" I L) (fun r I' L' => (pB (∃ m, LEN x m)) = true ∧ r = shr g r9 n (tn x) ∧ GW I' g n r9 q u ∧ FG I I' ∧ L' = L) := by
  refine Xf_of (own := RX4) (cc := cX4_share) (maxL := 3) (by decide) rfl rfl (Nat.le_of_ble_eq_true rfl) ?_
  refine g_sub (lv' := [(0, .ref (γ.2.2 0)), (1, .int x)]) [0, 1] rfl ?_
  refine g_il_n 1 dX4_share_0 rfl ?_
  refine g_ci0 (v := bi (!pB (∃ m, LEN x m))) (r_S (st := []) (As := [.int x]) (d := 0) (c_X4_isNoLength l γ I L P x) gX4_share_X4_isNoLength rfl ⟨by decide, by decide, rfl⟩ ⟨Nat.le_of_ble_eq_true rfl, Nat.le_of_ble_eq_true rfl⟩ rfl (Nat.le_of_ble_eq_true rfl) dX4_share_1 ⟨Nat.zero_le _, Nat.zero_le _⟩) ?_
  refine gb_eq (tgt := 17) dX4_share_4 (by decide) (fun h1 => ?_) (fun h1 => ?_)
  · skip
    have hok := bnot_f h1
    obtain ⟨ex, hs1, hs4⟩ := LEN_tn (pB_t.mp hok)
    have hn9 := hG.1.n_le
    have hpow := pow_le4 hn9 hs4
    refine g_lv (lv' := [(0, .ref (γ.2.2 0)), (1, .int (nI (tn x)))]) (by rw [← ex]) ?_
    refine g_al_n 0 dX4_share_17 rfl ?_
    refine g_il_n 1 dX4_share_18 rfl ?_
    refine g_ci0 (v := nI (n ^ tn x)) (r_V (st := []) (As := [.int (nI (tn x))]) (d := 0) 0 (by decide) rfl rfl (c_X4_rowsOfLength l γ I L P n (tn x) hG.1.cn (by omega)) gX4_share_X4_rowsOfLength rfl ⟨rfl, by decide, by decide, rfl⟩ ⟨Nat.le_of_ble_eq_true rfl, Nat.le_of_ble_eq_true rfl⟩ rfl (Nat.le_of_ble_eq_true rfl) dX4_share_19 ⟨Nat.zero_le _, Nat.zero_le _⟩) ?_
    refine g_is_n (lv' := [(2, .int (nI (n ^ tn x))), (0, .ref (γ.2.2 0)), (1, .int (nI (tn x)))]) dX4_share_22 (by decide) rfl ?_
    refine g_pc (pc' := 23) rfl ?_
    refine g_il_n 0 dX4_share_23 rfl ?_
    refine gz_ne (tgt := 29) dX4_share_24 (by decide) (by omega) (fun h2 => ?_) (fun h2 => ?_)
    · skip
      have hn0 : n ≠ 0 := fun e => h2 (by rw [e]; exact Nat.zero_pow (by omega))
      have hz : nI (n ^ tn x) ≠ 0 := fun e => h2 ((nI_z (by omega)).mp e)
      refine g_al_n 1 dX4_share_29 rfl ?_
      refine g_il_n 2 dX4_share_30 rfl ?_
      refine g_il_n 0 dX4_share_31 rfl ?_
      refine g_ci (r_V (st := []) (As := [.int (nI (tn x)), .int (nI (n ^ tn x))]) (d := 5) 0 (by decide) rfl rfl (c_X4_makeSentences l γ I L P g n r9 q u hG (tn x) (n ^ tn x) hs1 hs4 (by omega)) gX4_share_X4_makeSentences rfl ⟨rfl, by decide, by decide, rfl⟩ ⟨Nat.le_of_ble_eq_true rfl, Nat.le_of_ble_eq_true rfl⟩ rfl (Nat.le_of_ble_eq_true rfl) dX4_share_32 ⟨Nat.zero_le _, Nat.zero_le _⟩) ?_
      rintro rr J Lz3 ⟨hMS, hJF, eLz3⟩
      rw [eLz3]
      have er : rr = nI (bc (fun j => isS g r9 (dig n (tn x) j) (tn x)) (n ^ tn x)) := by
        rcases hMS with ⟨_, er, _⟩ | ⟨j, _, _, hlt, _⟩
        · exact er
        · exact absurd hlt (Nat.lt_irrefl _)
      rw [er]
      refine g_i2f dX4_share_35 ?_
      refine g_il_n 0 dX4_share_36 rfl ?_
      refine g_pc (pc' := 37) rfl ?_
      refine g_i2f dX4_share_37 ?_
      refine g_fdiv dX4_share_38 (fd_ok hz) ?_
      exact g_xfret dX4_share_39 (⟨hok, by rw [shr, if_neg hn0], (hJF).gw hG, (hJF).fg, rfl⟩)
    · skip
      refine g_fc0 dX4_share_27 ?_
      exact g_xfret dX4_share_28 (⟨hok, by rw [shr, if_pos (Nat.eq_zero_of_not_pos (fun h0 => absurd h2 (Nat.ne_of_gt (Nat.pow_pos h0))))], (FC.refl I).gw hG, (FC.refl I).fg, rfl⟩)
  · skip
    exact g_throw (cls := "java/lang/IllegalArgumentException") (text := "no such length") (ik := 52) (is := 145) (ic := 56) hl0 (by decide) (by decide +kernel) (by decide +kernel) (List.mem_of_getElem? (i := 11) rfl) ts_X4_share_56 tw_56 tg_56 dX4_share_7 dX4_share_10 dX4_share_11 dX4_share_13 dX4_share_16 (Nat.le_of_ble_eq_true rfl) (Nat.le_of_ble_eq_true rfl) (Nat.le_of_ble_eq_true rfl) (Nat.le_of_ble_eq_true rfl) (⟨Or.inl ⟨rfl, bnot_t h1⟩, rfl, rfl⟩)

theorem ts_X4_sentence_56 : ∀ w ∈ (vx_atS RX4 56 "java/lang/IllegalArgumentException" ["java/lang/RuntimeException", "java/lang/Exception"]).filter goodWord, w ∈ wsX4_sentence := by decide +kernel
set_option maxRecDepth 100000 in
set_option maxHeartbeats 4000000 in
theorem c_X4_sentence (l : Launch) (hl0 : l.stackTraces = false) (γ : Gm) (I : IT) (L : LT) (P : PT) (g : GR) (n r9 q : Nat) (u : Nat → Nat) (hG : GW I g n r9 q u) (x y : Int32) : Xi l yX4_sentence wsX4_sentence 6 γ [.ref (γ.2.2 0), .int x, .int y] I L P (xq (pB (∃ m, LEN x m) && pB (¬ y < 0)) (true) "java/lang/IllegalArgumentException" "java/lang/IllegalArgumentException" I L) (fun r I' L' => (pB (∃ m, LEN x m) && pB (¬ y < 0)) = true ∧ r = (match kfs (fun j => isS g r9 (dig n (tn x) j) (tn x)) (n ^ tn x) 0 (tn y) with | some j => nI (tdig (dig n (tn x) j) (tn x)) | none => -1) ∧ GW I' g n r9 q u ∧ FG I I' ∧ L' = L) := by
  refine Xi_of (own := RX4) (cc := cX4_sentence) (maxL := 3) (by decide) rfl rfl (Nat.le_of_ble_eq_true rfl) ?_
  refine g_sub (lv' := [(0, .ref (γ.2.2 0)), (1, .int x), (2, .int y)]) [0, 1, 2] rfl ?_
  refine g_il_n 1 dX4_sentence_0 rfl ?_
  refine g_ci0 (v := bi (!pB (∃ m, LEN x m))) (r_S (st := []) (As := [.int x]) (d := 0) (c_X4_isNoLength l γ I L P x) gX4_sentence_X4_isNoLength rfl ⟨by decide, by decide, rfl⟩ ⟨Nat.le_of_ble_eq_true rfl, Nat.le_of_ble_eq_true rfl⟩ rfl (Nat.le_of_ble_eq_true rfl) dX4_sentence_1 ⟨Nat.zero_le _, Nat.zero_le _⟩) ?_
  refine gb_ne (tgt := 11) dX4_sentence_4 (by decide) (fun h1 => ?_) (fun h1 => ?_)
  · skip
    exact g_throw (cls := "java/lang/IllegalArgumentException") (text := "no such length or number") (ik := 52) (is := 153) (ic := 56) hl0 (by decide) (by decide +kernel) (by decide +kernel) (List.mem_of_getElem? (i := 12) rfl) ts_X4_sentence_56 tw_56 tg_56 dX4_sentence_11 dX4_sentence_14 dX4_sentence_15 dX4_sentence_17 dX4_sentence_20 (Nat.le_of_ble_eq_true rfl) (Nat.le_of_ble_eq_true rfl) (Nat.le_of_ble_eq_true rfl) (Nat.le_of_ble_eq_true rfl) (⟨Or.inl ⟨rfl, by rw [bnot_t h1]; rfl⟩, rfl, rfl⟩)
  · skip
    refine g_il_n 2 dX4_sentence_7 rfl ?_
    refine g_if_ge (tgt := 21) dX4_sentence_8 (by decide) (fun h2 => ?_) (fun h2 => ?_)
    · skip
      have hok0 := bnot_f h1
      have hy0 : ¬ y < 0 := Int32.not_lt.mpr h2
      have hok : (pB (∃ m, LEN x m) && pB (¬ y < 0)) = true := by rw [hok0, pB_of hy0]; rfl
      obtain ⟨ex, hs1, hs4⟩ := LEN_tn (pB_t.mp hok0)
      obtain ⟨Y, hY, ey⟩ := nI_of hy0
      have eY : tn y = Y := by rw [ey]; exact tn_nI hY
      have hn9 := hG.1.n_le
      have hpow := pow_le4 hn9 hs4
      refine g_lv (lv' := [(0, .ref (γ.2.2 0)), (1, .int (nI (tn x))), (2, .int (nI Y))]) (by rw [← ex, ← ey]) ?_
      refine g_al_n 0 dX4_sentence_21 rfl ?_
      refine g_pc (pc' := 22) rfl ?_
      refine g_il_n 1 dX4_sentence_22 rfl ?_
      refine g_il_n 2 dX4_sentence_23 rfl ?_
      refine g_ci (r_V (st := []) (As := [.int (nI (tn x)), .int (nI Y)]) (d := 5) 0 (by decide) rfl rfl (c_X4_makeSentences l γ I L P g n r9 q u hG (tn x) (Y) hs1 hs4 (by omega)) gX4_sentence_X4_makeSentences rfl ⟨rfl, by decide, by decide, rfl⟩ ⟨Nat.le_of_ble_eq_true rfl, Nat.le_of_ble_eq_true rfl⟩ rfl (Nat.le_of_ble_eq_true rfl) dX4_sentence_24 ⟨Nat.zero_le _, Nat.zero_le _⟩) ?_
      rintro rr J Lz2 ⟨hMS, hJF, eLz2⟩
      rw [eLz2]
      rcases hMS with ⟨hk0, er, hle⟩ | ⟨j, hk1, er, hlt, hTr⟩
      · rw [er]
        refine g_il_n 2 dX4_sentence_27 rfl ?_
        refine gn_le (tgt := 39) dX4_sentence_28 (by decide) (by have := bc_le (fun j => isS g r9 (dig n (tn x) j) (tn x)) (n ^ tn x); omega) (by omega) (fun h6 => ?_) (fun h6 => ?_)
        · skip
          refine g_ic (v := (-1 : Int32)) dX4_sentence_39 (by decide) ?_
          exact g_xiret dX4_sentence_40 (⟨hok, by rw [eY, hk0], (hJF).gw hG, (hJF).fg, rfl⟩)
        · skip
          omega
      · rw [er]
        refine g_il_n 2 dX4_sentence_27 rfl ?_
        refine gn_le (tgt := 39) dX4_sentence_28 (by decide) (by omega) (by omega) (fun h6 => ?_) (fun h6 => ?_)
        · skip
          exfalso; omega
        · skip
          refine g_al_n 0 dX4_sentence_31 rfl ?_
          refine g_il_n 1 dX4_sentence_32 rfl ?_
          refine g_ci0 (v := nI (tdig (dig n (tn x) j) (tn x))) (r_V (st := []) (As := [.int (nI (tn x))]) (d := 0) 0 (by decide) rfl rfl (c_X4_trialAsDigits l γ J L P (tn x) (dig n (tn x) j) (by omega) hTr) gX4_sentence_X4_trialAsDigits rfl ⟨rfl, by decide, by decide, rfl⟩ ⟨Nat.le_of_ble_eq_true rfl, Nat.le_of_ble_eq_true rfl⟩ rfl (Nat.le_of_ble_eq_true rfl) dX4_sentence_33 ⟨Nat.zero_le _, Nat.zero_le _⟩) ?_
          refine g_goto (tgt := 40) dX4_sentence_36 (by decide) ?_
          exact g_xiret dX4_sentence_40 (⟨hok, by rw [eY, hk1], (hJF).gw hG, (hJF).fg, rfl⟩)
    · skip
      exact g_throw (cls := "java/lang/IllegalArgumentException") (text := "no such length or number") (ik := 52) (is := 153) (ic := 56) hl0 (by decide) (by decide +kernel) (by decide +kernel) (List.mem_of_getElem? (i := 12) rfl) ts_X4_sentence_56 tw_56 tg_56 dX4_sentence_11 dX4_sentence_14 dX4_sentence_15 dX4_sentence_17 dX4_sentence_20 (Nat.le_of_ble_eq_true rfl) (Nat.le_of_ble_eq_true rfl) (Nat.le_of_ble_eq_true rfl) (Nat.le_of_ble_eq_true rfl) (⟨Or.inl ⟨rfl, by rw [show pB (¬ y < 0) = false from pB_no (fun q9 => h2 (Int32.not_lt.mp q9)), Bool.and_false]⟩, rfl, rfl⟩)
