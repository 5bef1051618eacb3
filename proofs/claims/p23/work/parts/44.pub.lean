/-! the class: its calls that change words, rules, the row -/
theorem FG.two {I J K : IT} {a b : Nat} (h1 : ∀ k, k ≠ a → J k = I k) (h2 : ∀ k, k ≠ b → K k = J k) (ha : ¬ MI a) (hb : ¬ MI b) : FG I K := fun k hk => by
  rw [h2 k (fun e => hb (e ▸ hk)), h1 k (fun e => ha (e ▸ hk))]
theorem MI_dec {a : Nat} (h : a ≠ 8 ∧ (a < 20 ∨ 29 ≤ a)) : ¬ MI a := fun q => by
  unfold MI at q
  omega

theorem in_X4_addWord_1 : ∀ w ∈ wsX10, w ∈ wsX4_addWord := by decide +kernel
theorem in_X4_addWord_4 : ∀ w ∈ wsX40, w ∈ wsX4_addWord := by decide +kernel
theorem ts_X4_addWord_56 : ∀ w ∈ (vx_atS RX4 56 "java/lang/IllegalArgumentException" ["java/lang/RuntimeException", "java/lang/Exception"]).filter goodWord, w ∈ wsX4_addWord := by decide +kernel
theorem tw_66 : ∀ w ∈ (vx_atS RX4 66 "java/lang/IllegalStateException" ["java/lang/RuntimeException", "java/lang/Exception"]).filter (fun w => !goodWord w), w ∈ nwD.map Cond.declares ++ nwE.map (fun x => Cond.castable x x) := by decide +kernel
theorem tg_66 : ∀ w ∈ Cond.classLink RX4 62 "java/lang/IllegalStateException" :: Cond.initialized "java/lang/IllegalStateException" :: (vx_atS RX4 66 "java/lang/IllegalStateException" ["java/lang/RuntimeException", "java/lang/Exception"]), vx_ot w = true := by decide +kernel
theorem ts_X4_addWord_66 : ∀ w ∈ (vx_atS RX4 66 "java/lang/IllegalStateException" ["java/lang/RuntimeException", "java/lang/Exception"]).filter goodWord, w ∈ wsX4_addWord := by decide +kernel
set_option maxRecDepth 100000 in
set_option maxHeartbeats 4000000 in
theorem c_X4_addWord (l : Launch) (hl0 : l.stackTraces = false) (γ : Gm) (I : IT) (L : LT) (P : PT) (g : GR) (n r9 q : Nat) (u : Nat → Nat) (hG : GW I g n r9 q u) (x y z : Int32) : Xi l yX4_addWord wsX4_addWord 1 γ [.ref (γ.2.2 0), .int x, .int y, .int z] I L P (xq (inB x 8 && inB y 4 && inB z 4) (decide (n < 9)) "java/lang/IllegalArgumentException" "java/lang/IllegalStateException" I L) (fun r I' L' => ((inB x 8 && inB y 4 && inB z 4) && decide (n < 9)) = true ∧ r = nI n ∧ GW I' (gword g n (tn x) (tn y * 4 + tn z)) (n + 1) r9 q u ∧ FG I I' ∧ L' = L) := by
  refine Xi_of (own := RX4) (cc := cX4_addWord) (maxL := 5) (by decide) rfl rfl (Nat.le_of_ble_eq_true rfl) ?_
  refine g_sub (lv' := [(0, .ref (γ.2.2 0)), (1, .int x), (2, .int y), (3, .int z)]) [0, 1, 2, 3] rfl ?_
  have hn9 := hG.1.n_le
  refine g_il_n 1 dX4_addWord_0 rfl ?_
  refine g_il_n 2 dX4_addWord_1 rfl ?_
  refine g_il_n 3 dX4_addWord_2 rfl ?_
  refine g_ci0 (v := bi (!(inB x 8 && inB y 4 && inB z 4))) (r_S (st := []) (As := [.int x, .int y, .int z]) (d := 1) (c_X4_isNoKind l γ I L P x y z) gX4_addWord_X4_isNoKind rfl ⟨by decide, by decide, rfl⟩ ⟨Nat.le_of_ble_eq_true rfl, Nat.le_of_ble_eq_true rfl⟩ rfl (Nat.le_of_ble_eq_true rfl) dX4_addWord_3 ⟨Nat.zero_le _, Nat.zero_le _⟩) ?_
  refine gb_eq (tgt := 19) dX4_addWord_6 (by decide) (fun h1 => ?_) (fun h1 => ?_)
  · skip
    have hok := bnot_f h1
    have hP1 := (Bool.and_eq_true _ _).mp hok
    have hP2 := (Bool.and_eq_true _ _).mp hP1.1
    obtain ⟨ex, hx8⟩ := inB_tn (by decide) hP2.1
    obtain ⟨ey, hy4⟩ := inB_tn (by decide) hP2.2
    obtain ⟨ez, hz4⟩ := inB_tn (by decide) hP1.2
    refine g_lv (lv' := [(0, .ref (γ.2.2 0)), (1, .int (nI (tn x))), (2, .int (nI (tn y))), (3, .int (nI (tn z)))]) (by rw [← ex, ← ey, ← ez]) ?_
    refine g_al_n 0 dX4_addWord_19 rfl ?_
    refine g_get (v := .ref (γ.2.2 1)) 0 0 (by decide) rfl in_X4_addWord_4 rfl (by decide) (by decide +kernel) rfl rfl dX4_addWord_20 ?_
    refine g_pc (pc' := 23) rfl ?_
    refine g_getN 1 0 (by decide) rfl in_X4_addWord_1 rfl (by decide) nw_RX4_59 rfl rfl dX4_addWord_23 ?_
    refine g_top (v := nI n) (hG.1.cn) ?_
    refine g_bi (v := nI 9) dX4_addWord_26 (by decide) ?_
    refine gn_lt (tgt := 41) dX4_addWord_28 (by decide) (by omega) (by omega) (fun h2 => ?_) (fun h2 => ?_)
    · skip
      have hok2 : ((inB x 8 && inB y 4 && inB z 4) && decide (n < 9)) = true := by rw [hok, decide_eq_true h2]; rfl
      refine g_al_n 0 dX4_addWord_41 rfl ?_
      refine g_get (v := .ref (γ.2.2 1)) 0 0 (by decide) rfl in_X4_addWord_4 rfl (by decide) (by decide +kernel) rfl rfl dX4_addWord_42 ?_
      refine g_getN 1 0 (by decide) rfl in_X4_addWord_1 rfl (by decide) nw_RX4_59 rfl rfl dX4_addWord_45 ?_
      refine g_top (v := nI n) (hG.1.cn) ?_
      refine g_is (lv' := [(4, .int (nI n)), (0, .ref (γ.2.2 0)), (1, .int (nI (tn x))), (2, .int (nI (tn y))), (3, .int (nI (tn z)))]) dX4_addWord_48 (by decide) rfl ?_
      refine g_al_n 1 dX4_addWord_50 rfl ?_
      refine g_pc (pc' := 51) rfl ?_
      refine g_get (v := .ref (γ.2.2 1)) 0 0 (by decide) rfl in_X4_addWord_4 rfl (by decide) (by decide +kernel) rfl rfl dX4_addWord_51 ?_
      refine g_dup dX4_addWord_54 rfl ?_
      refine g_getN 1 0 (by decide) rfl in_X4_addWord_1 rfl (by decide) nw_RX4_59 rfl rfl dX4_addWord_55 ?_
      refine g_top (v := nI n) (hG.1.cn) ?_
      refine g_ic (v := nI 1) dX4_addWord_58 (by decide) ?_
      refine g_iadd (v := nI (n + 1)) dX4_addWord_59 (nI_add _ _) ?_
      refine g_putN tyX1 1 0 (upd (I 1) 0 (nI (n + 1))) (by decide) rfl in_X4_addWord_1 tyX1_ok nmX1 rfl (by decide) nw_RX4_59 rfl rfl rfl rfl rfl (Nat.le_of_ble_eq_true rfl) dX4_addWord_60 rfl ?_
      obtain ⟨A, wA⟩ : ∃ A, A = va_up I 1 (upd (I 1) 0 (nI (n + 1))) := ⟨_, rfl⟩
      have A_a : A 1 = upd (I 1) 0 (nI (n + 1)) := by rw [wA, va_us]
      have A_b : ∀ k, k ≠ 1 → A k = I k := fun k hk => by rw [wA, va_up_ne _ _ hk]
      refine g_eq (I' := A) wA.symm rfl ?_
      refine g_al_n 1 dX4_addWord_63 rfl ?_
      refine g_get (v := .ref (γ.2.2 1)) 0 0 (by decide) rfl in_X4_addWord_4 rfl (by decide) (by decide +kernel) rfl rfl dX4_addWord_64 ?_
      refine g_pc (pc' := 67) rfl ?_
      refine g_il 0 dX4_addWord_67 rfl ?_
      refine g_il_n 2 dX4_addWord_69 rfl ?_
      refine g_il_n 3 dX4_addWord_70 rfl ?_
      refine g_il_n 4 dX4_addWord_71 rfl ?_
      refine g_ci0 (v := nI (tn y * 4 + tn z)) (r_S (st := [.int (nI (tn x)), .int (nI n), .ref (γ.2.2 1)]) (As := [.int (nI (tn y)), .int (nI (tn z))]) (d := 0) (c_X4_pairOf l γ A L P (tn y) (tn z)) gX4_addWord_X4_pairOf rfl ⟨by decide, by decide, rfl⟩ ⟨Nat.le_of_ble_eq_true rfl, Nat.le_of_ble_eq_true rfl⟩ rfl (Nat.le_of_ble_eq_true rfl) dX4_addWord_72 ⟨Nat.zero_le _, Nat.zero_le _⟩) ?_
      refine g_cv (r_VN (st := []) (As := [.int (nI n), .int (nI (tn x)), .int (nI (tn y * 4 + tn z))]) (d := 0) (host := RX4) 1 (by decide) rfl rfl (c_X1_defineWord l γ A L P n (tn x) (tn y * 4 + tn z) (by omega)) gX4_addWord_X1_defineWord_n71 rfl nm_RX4_71 (by decide +kernel) (by decide +kernel) (by decide +kernel) ⟨by decide, by decide, rfl⟩ ⟨Nat.le_of_ble_eq_true rfl, Nat.le_of_ble_eq_true rfl⟩ rfl (Nat.le_of_ble_eq_true rfl) dX4_addWord_75 ⟨Nat.zero_le _, Nat.zero_le _⟩) ?_
      rintro K Lz3 ⟨eK, eLz3⟩
      rw [eLz3]
      refine g_il 0 dX4_addWord_78 rfl ?_
      exact g_xiret dX4_addWord_80 (⟨hok2, rfl, hG.word (by omega) (by omega) (by omega) (fun j h9 h10 => by omega) hx8 (by omega) (by rw [eK, va_up_ne _ _ (by decide), va_up_ne _ _ (by decide), A_a, upd_s]) (by rw [eK, va_up_ne _ _ (by decide), va_up_ne _ _ (by decide), A_a, upd_n _ _ (by decide)]) (by rw [eK, va_up_ne _ _ (by decide), va_up_ne _ _ (by decide), A_b 0 (by decide)]) (by rw [eK, va_up_ne _ _ (by decide), va_us, A_b 14 (by decide)]) (by rw [eK, va_us, A_b 15 (by decide)]) (fun k h9 => by rw [eK, va_up_ne _ _ (by omega), va_up_ne _ _ (by omega), A_b k (by omega)]), fun k hk => by
          have hk2 : k ≠ 1 ∧ k ≠ 14 ∧ k ≠ 15 := by unfold MI at hk; omega
          rw [eK, va_up_ne _ _ hk2.2.2, va_up_ne _ _ hk2.2.1, A_b k hk2.1], rfl⟩)
    · skip
      refine g_pc (pc' := 31) rfl ?_
      exact g_throw (cls := "java/lang/IllegalStateException") (text := "there are 9 words") (ik := 62) (is := 64) (ic := 66) hl0 (by decide) (by decide +kernel) (by decide +kernel) (List.mem_of_getElem? (i := 1) rfl) ts_X4_addWord_66 tw_66 tg_66 dX4_addWord_31 dX4_addWord_34 dX4_addWord_35 dX4_addWord_37 dX4_addWord_40 (Nat.le_of_ble_eq_true rfl) (Nat.le_of_ble_eq_true rfl) (Nat.le_of_ble_eq_true rfl) (Nat.le_of_ble_eq_true rfl) (⟨Or.inr ⟨rfl, hok, decide_eq_false (by omega)⟩, rfl, rfl⟩)
  · skip
    exact g_throw (cls := "java/lang/IllegalArgumentException") (text := "no such category or value") (ik := 52) (is := 54) (ic := 56) hl0 (by decide) (by decide +kernel) (by decide +kernel) (List.mem_of_getElem? (i := 0) rfl) ts_X4_addWord_56 tw_56 tg_56 dX4_addWord_9 dX4_addWord_12 dX4_addWord_13 dX4_addWord_15 dX4_addWord_18 (Nat.le_of_ble_eq_true rfl) (Nat.le_of_ble_eq_true rfl) (Nat.le_of_ble_eq_true rfl) (Nat.le_of_ble_eq_true rfl) (⟨Or.inl ⟨rfl, bnot_t h1⟩, rfl, rfl⟩)

theorem in_X4_setWord_1 : ∀ w ∈ wsX10, w ∈ wsX4_setWord := by decide +kernel
theorem in_X4_setWord_4 : ∀ w ∈ wsX40, w ∈ wsX4_setWord := by decide +kernel
theorem ts_X4_setWord_56 : ∀ w ∈ (vx_atS RX4 56 "java/lang/IllegalArgumentException" ["java/lang/RuntimeException", "java/lang/Exception"]).filter goodWord, w ∈ wsX4_setWord := by decide +kernel
theorem ts_X4_setWord_83 : ∀ w ∈ (vx_atS RX4 83 "java/lang/IndexOutOfBoundsException" ["java/lang/RuntimeException", "java/lang/Exception"]).filter goodWord, w ∈ wsX4_setWord := by decide +kernel
set_option maxRecDepth 100000 in
set_option maxHeartbeats 4000000 in
theorem c_X4_setWord (l : Launch) (hl0 : l.stackTraces = false) (γ : Gm) (I : IT) (L : LT) (P : PT) (g : GR) (n r9 q : Nat) (u : Nat → Nat) (hG : GW I g n r9 q u) (v x y z : Int32) : Xi l yX4_setWord wsX4_setWord 1 γ [.ref (γ.2.2 0), .int v, .int x, .int y, .int z] I L P (xq (inB v n) (inB x 8 && inB y 4 && inB z 4) "java/lang/IndexOutOfBoundsException" "java/lang/IllegalArgumentException" I L) (fun r I' L' => (inB v n && (inB x 8 && inB y 4 && inB z 4)) = true ∧ r = nI (g 0 (tn v)) ∧ GW I' (gword g (tn v) (tn x) (tn y * 4 + tn z)) n r9 q u ∧ FG I I' ∧ L' = L) := by
  refine Xi_of (own := RX4) (cc := cX4_setWord) (maxL := 6) (by decide) rfl rfl (Nat.le_of_ble_eq_true rfl) ?_
  refine g_sub (lv' := [(0, .ref (γ.2.2 0)), (1, .int v), (2, .int x), (3, .int y), (4, .int z)]) [0, 1, 2, 3, 4] rfl ?_
  have hn9 := hG.1.n_le
  refine g_il_n 1 dX4_setWord_0 rfl ?_
  refine g_al_n 0 dX4_setWord_1 rfl ?_
  refine g_get (v := .ref (γ.2.2 1)) 0 0 (by decide) rfl in_X4_setWord_4 rfl (by decide) (by decide +kernel) rfl rfl dX4_setWord_2 ?_
  refine g_getN 1 0 (by decide) rfl in_X4_setWord_1 rfl (by decide) nw_RX4_59 rfl rfl dX4_setWord_5 ?_
  refine g_top (v := nI n) (hG.1.cn) ?_
  refine g_ci0 (v := bi (!inB v n)) (r_S (st := []) (As := [.int v, .int (nI n)]) (d := 0) (c_X4_isOutside l γ I L P v n (by omega)) gX4_setWord_X4_isOutside rfl ⟨by decide, by decide, rfl⟩ ⟨Nat.le_of_ble_eq_true rfl, Nat.le_of_ble_eq_true rfl⟩ rfl (Nat.le_of_ble_eq_true rfl) dX4_setWord_8 ⟨Nat.zero_le _, Nat.zero_le _⟩) ?_
  refine gb_eq (tgt := 24) dX4_setWord_11 (by decide) (fun h1 => ?_) (fun h1 => ?_)
  · skip
    have hok1 := bnot_f h1
    obtain ⟨ev, hvn⟩ := inB_tn (by omega) hok1
    refine g_lv (lv' := [(0, .ref (γ.2.2 0)), (1, .int (nI (tn v))), (2, .int x), (3, .int y), (4, .int z)]) (by rw [← ev]) ?_
    refine g_il_n 2 dX4_setWord_24 rfl ?_
    refine g_pc (pc' := 25) rfl ?_
    refine g_il_n 3 dX4_setWord_25 rfl ?_
    refine g_il 4 dX4_setWord_26 rfl ?_
    refine g_ci0 (v := bi (!(inB x 8 && inB y 4 && inB z 4))) (r_S (st := []) (As := [.int x, .int y, .int z]) (d := 1) (c_X4_isNoKind l γ I L P x y z) gX4_setWord_X4_isNoKind rfl ⟨by decide, by decide, rfl⟩ ⟨Nat.le_of_ble_eq_true rfl, Nat.le_of_ble_eq_true rfl⟩ rfl (Nat.le_of_ble_eq_true rfl) dX4_setWord_28 ⟨Nat.zero_le _, Nat.zero_le _⟩) ?_
    refine gb_eq (tgt := 44) dX4_setWord_31 (by decide) (fun h2 => ?_) (fun h2 => ?_)
    · skip
      have hok := bnot_f h2
      have hok2 : (inB v n && (inB x 8 && inB y 4 && inB z 4)) = true := by rw [hok1, hok]; rfl
      have hP1 := (Bool.and_eq_true _ _).mp hok
      have hP2 := (Bool.and_eq_true _ _).mp hP1.1
      obtain ⟨ex, hx8⟩ := inB_tn (by decide) hP2.1
      obtain ⟨ey, hy4⟩ := inB_tn (by decide) hP2.2
      obtain ⟨ez, hz4⟩ := inB_tn (by decide) hP1.2
      refine g_lv (lv' := [(0, .ref (γ.2.2 0)), (1, .int (nI (tn v))), (2, .int (nI (tn x))), (3, .int (nI (tn y))), (4, .int (nI (tn z)))]) (by rw [← ex, ← ey, ← ez]) ?_
      refine g_al_n 0 dX4_setWord_44 rfl ?_
      refine g_get (v := .ref (γ.2.2 1)) 0 0 (by decide) rfl in_X4_setWord_4 rfl (by decide) (by decide +kernel) rfl rfl dX4_setWord_45 ?_
      refine g_getN (v := .ref (γ.2.2 14)) 1 1 (by decide) rfl in_X4_setWord_1 rfl (by decide) nw_RX4_84 rfl rfl dX4_setWord_48 ?_
      refine g_il_n 1 dX4_setWord_51 rfl ?_
      refine g_pc (pc' := 52) rfl ?_
      refine g_iald (v := nI (g 0 (tn v))) 14 (tn v) (by decide) (by decide) (show tn v < 9 by omega) (hG.1.cat hvn) dX4_setWord_52 ?_
      refine g_is (lv' := [(5, .int (nI (g 0 (tn v)))), (0, .ref (γ.2.2 0)), (1, .int (nI (tn v))), (2, .int (nI (tn x))), (3, .int (nI (tn y))), (4, .int (nI (tn z)))]) dX4_setWord_53 (by decide) rfl ?_
      refine g_al_n 1 dX4_setWord_55 rfl ?_
      refine g_get (v := .ref (γ.2.2 1)) 0 0 (by decide) rfl in_X4_setWord_4 rfl (by decide) (by decide +kernel) rfl rfl dX4_setWord_56 ?_
      refine g_il_n 2 dX4_setWord_59 rfl ?_
      refine g_il_n 3 dX4_setWord_60 rfl ?_
      refine g_il_n 4 dX4_setWord_61 rfl ?_
      refine g_il 5 dX4_setWord_62 rfl ?_
      refine g_pc (pc' := 64) rfl ?_
      refine g_ci0 (v := nI (tn y * 4 + tn z)) (r_S (st := [.int (nI (tn x)), .int (nI (tn v)), .ref (γ.2.2 1)]) (As := [.int (nI (tn y)), .int (nI (tn z))]) (d := 0) (c_X4_pairOf l γ I L P (tn y) (tn z)) gX4_setWord_X4_pairOf rfl ⟨by decide, by decide, rfl⟩ ⟨Nat.le_of_ble_eq_true rfl, Nat.le_of_ble_eq_true rfl⟩ rfl (Nat.le_of_ble_eq_true rfl) dX4_setWord_64 ⟨Nat.zero_le _, Nat.zero_le _⟩) ?_
      refine g_cv (r_VN (st := []) (As := [.int (nI (tn v)), .int (nI (tn x)), .int (nI (tn y * 4 + tn z))]) (d := 0) (host := RX4) 1 (by decide) rfl rfl (c_X1_defineWord l γ I L P (tn v) (tn x) (tn y * 4 + tn z) (by omega)) gX4_setWord_X1_defineWord_n71 rfl nm_RX4_71 (by decide +kernel) (by decide +kernel) (by decide +kernel) ⟨by decide, by decide, rfl⟩ ⟨Nat.le_of_ble_eq_true rfl, Nat.le_of_ble_eq_true rfl⟩ rfl (Nat.le_of_ble_eq_true rfl) dX4_setWord_67 ⟨Nat.zero_le _, Nat.zero_le _⟩) ?_
      rintro K Lz4 ⟨eK, eLz4⟩
      rw [eLz4]
      refine g_il 0 dX4_setWord_70 rfl ?_
      exact g_xiret dX4_setWord_72 (⟨hok2, rfl, hG.word hn9 (Nat.le_refl _) hvn (fun j h9 h10 => h9) hx8 (by omega) (by rw [eK, va_up_ne _ _ (by decide), va_up_ne _ _ (by decide)]; exact hG.1.cn) (by rw [eK, va_up_ne _ _ (by decide), va_up_ne _ _ (by decide)]) (by rw [eK, va_up_ne _ _ (by decide), va_up_ne _ _ (by decide)]) (by rw [eK, va_up_ne _ _ (by decide), va_us]) (by rw [eK, va_us]) (fun k h9 => by rw [eK, va_up_ne _ _ (by omega), va_up_ne _ _ (by omega)]), fun k hk => by
          have hk2 : k ≠ 14 ∧ k ≠ 15 := by unfold MI at hk; omega
          rw [eK, va_up_ne _ _ hk2.2, va_up_ne _ _ hk2.1], rfl⟩)
    · skip
      exact g_throw (cls := "java/lang/IllegalArgumentException") (text := "no such category or value") (ik := 52) (is := 54) (ic := 56) hl0 (by decide) (by decide +kernel) (by decide +kernel) (List.mem_of_getElem? (i := 0) rfl) ts_X4_setWord_56 tw_56 tg_56 dX4_setWord_34 dX4_setWord_37 dX4_setWord_38 dX4_setWord_40 dX4_setWord_43 (Nat.le_of_ble_eq_true rfl) (Nat.le_of_ble_eq_true rfl) (Nat.le_of_ble_eq_true rfl) (Nat.le_of_ble_eq_true rfl) (⟨Or.inr ⟨rfl, hok1, bnot_t h2⟩, rfl, rfl⟩)
  · skip
    exact g_throw (cls := "java/lang/IndexOutOfBoundsException") (text := "no such word") (ik := 79) (is := 81) (ic := 83) hl0 (by decide) (by decide +kernel) (by decide +kernel) (List.mem_of_getElem? (i := 2) rfl) ts_X4_setWord_83 tw_83 tg_83 dX4_setWord_14 dX4_setWord_17 dX4_setWord_18 dX4_setWord_20 dX4_setWord_23 (Nat.le_of_ble_eq_true rfl) (Nat.le_of_ble_eq_true rfl) (Nat.le_of_ble_eq_true rfl) (Nat.le_of_ble_eq_true rfl) (⟨Or.inl ⟨rfl, bnot_t h1⟩, rfl, rfl⟩)

theorem in_X4_addRule_1 : ∀ w ∈ wsX10, w ∈ wsX4_addRule := by decide +kernel
theorem in_X4_addRule_4 : ∀ w ∈ wsX40, w ∈ wsX4_addRule := by decide +kernel
theorem ts_X4_addRule_56 : ∀ w ∈ (vx_atS RX4 56 "java/lang/IllegalArgumentException" ["java/lang/RuntimeException", "java/lang/Exception"]).filter goodWord, w ∈ wsX4_addRule := by decide +kernel
theorem ts_X4_addRule_66 : ∀ w ∈ (vx_atS RX4 66 "java/lang/IllegalStateException" ["java/lang/RuntimeException", "java/lang/Exception"]).filter goodWord, w ∈ wsX4_addRule := by decide +kernel
set_option maxRecDepth 100000 in
set_option maxHeartbeats 4000000 in
theorem c_X4_addRule (l : Launch) (hl0 : l.stackTraces = false) (γ : Gm) (I : IT) (L : LT) (P : PT) (g : GR) (n r9 q : Nat) (u : Nat → Nat) (hG : GW I g n r9 q u) (x y z m9 : Int32) : Xi l yX4_addRule wsX4_addRule 3 γ [.ref (γ.2.2 0), .int x, .int y, .int z, .int m9] I L P (xq (inB x 8 && inB y 8 && inB z 8 && pB (∃ m, DP m9 m)) (decide (r9 < 8)) "java/lang/IllegalArgumentException" "java/lang/IllegalStateException" I L) (fun r I' L' => ((inB x 8 && inB y 8 && inB z 8 && pB (∃ m, DP m9 m)) && decide (r9 < 8)) = true ∧ r = nI r9 ∧ GW I' (grule g r9 (tn x) (tn y) (tn z) (tn m9)) n (r9 + 1) q u ∧ FG I I' ∧ L' = L) := by
  refine Xi_of (own := RX4) (cc := cX4_addRule) (maxL := 6) (by decide) rfl rfl (Nat.le_of_ble_eq_true rfl) ?_
  refine g_sub (lv' := [(0, .ref (γ.2.2 0)), (1, .int x), (2, .int y), (3, .int z), (4, .int m9)]) [0, 1, 2, 3, 4] rfl ?_
  have hr8 := hG.1.r_le
  refine g_il_n 1 dX4_addRule_0 rfl ?_
  refine g_bi (v := nI 8) dX4_addRule_1 (by decide) ?_
  refine g_ci0 (v := bi (!inB x 8)) (r_S (st := []) (As := [.int x, .int (nI 8)]) (d := 0) (c_X4_isOutside l γ I L P x 8 (by decide)) gX4_addRule_X4_isOutside rfl ⟨by decide, by decide, rfl⟩ ⟨Nat.le_of_ble_eq_true rfl, Nat.le_of_ble_eq_true rfl⟩ rfl (Nat.le_of_ble_eq_true rfl) dX4_addRule_3 ⟨Nat.zero_le _, Nat.zero_le _⟩) ?_
  refine gb_ne (tgt := 35) dX4_addRule_6 (by decide) (fun h1 => ?_) (fun h1 => ?_)
  · skip
    exact g_throw (cls := "java/lang/IllegalArgumentException") (text := "no such category or mode") (ik := 52) (is := 91) (ic := 56) hl0 (by decide) (by decide +kernel) (by decide +kernel) (List.mem_of_getElem? (i := 3) rfl) ts_X4_addRule_56 tw_56 tg_56 dX4_addRule_35 dX4_addRule_38 dX4_addRule_39 dX4_addRule_41 dX4_addRule_44 (Nat.le_of_ble_eq_true rfl) (Nat.le_of_ble_eq_true rfl) (Nat.le_of_ble_eq_true rfl) (Nat.le_of_ble_eq_true rfl) (⟨Or.inl ⟨rfl, by rw [bnot_t h1]; simp⟩, rfl, rfl⟩)
  · skip
    refine g_il_n 2 dX4_addRule_9 rfl ?_
    refine g_bi (v := nI 8) dX4_addRule_10 (by decide) ?_
    refine g_pc (pc' := 12) rfl ?_
    refine g_ci0 (v := bi (!inB y 8)) (r_S (st := []) (As := [.int y, .int (nI 8)]) (d := 0) (c_X4_isOutside l γ I L P y 8 (by decide)) gX4_addRule_X4_isOutside rfl ⟨by decide, by decide, rfl⟩ ⟨Nat.le_of_ble_eq_true rfl, Nat.le_of_ble_eq_true rfl⟩ rfl (Nat.le_of_ble_eq_true rfl) dX4_addRule_12 ⟨Nat.zero_le _, Nat.zero_le _⟩) ?_
    refine gb_ne (tgt := 35) dX4_addRule_15 (by decide) (fun h2 => ?_) (fun h2 => ?_)
    · skip
      exact g_throw (cls := "java/lang/IllegalArgumentException") (text := "no such category or mode") (ik := 52) (is := 91) (ic := 56) hl0 (by decide) (by decide +kernel) (by decide +kernel) (List.mem_of_getElem? (i := 3) rfl) ts_X4_addRule_56 tw_56 tg_56 dX4_addRule_35 dX4_addRule_38 dX4_addRule_39 dX4_addRule_41 dX4_addRule_44 (Nat.le_of_ble_eq_true rfl) (Nat.le_of_ble_eq_true rfl) (Nat.le_of_ble_eq_true rfl) (Nat.le_of_ble_eq_true rfl) (⟨Or.inl ⟨rfl, by rw [bnot_t h2]; simp⟩, rfl, rfl⟩)
    · skip
      refine g_il_n 3 dX4_addRule_18 rfl ?_
      refine g_bi (v := nI 8) dX4_addRule_19 (by decide) ?_
      refine g_ci0 (v := bi (!inB z 8)) (r_S (st := []) (As := [.int z, .int (nI 8)]) (d := 0) (c_X4_isOutside l γ I L P z 8 (by decide)) gX4_addRule_X4_isOutside rfl ⟨by decide, by decide, rfl⟩ ⟨Nat.le_of_ble_eq_true rfl, Nat.le_of_ble_eq_true rfl⟩ rfl (Nat.le_of_ble_eq_true rfl) dX4_addRule_21 ⟨Nat.zero_le _, Nat.zero_le _⟩) ?_
      refine gb_ne (tgt := 35) dX4_addRule_24 (by decide) (fun h3 => ?_) (fun h3 => ?_)
      · skip
        exact g_throw (cls := "java/lang/IllegalArgumentException") (text := "no such category or mode") (ik := 52) (is := 91) (ic := 56) hl0 (by decide) (by decide +kernel) (by decide +kernel) (List.mem_of_getElem? (i := 3) rfl) ts_X4_addRule_56 tw_56 tg_56 dX4_addRule_35 dX4_addRule_38 dX4_addRule_39 dX4_addRule_41 dX4_addRule_44 (Nat.le_of_ble_eq_true rfl) (Nat.le_of_ble_eq_true rfl) (Nat.le_of_ble_eq_true rfl) (Nat.le_of_ble_eq_true rfl) (⟨Or.inl ⟨rfl, by rw [bnot_t h3]; simp⟩, rfl, rfl⟩)
      · skip
        refine g_pc (pc' := 27) rfl ?_
        refine g_il 4 dX4_addRule_27 rfl ?_
        refine g_ci0 (v := bi (!pB (∃ m, DP m9 m))) (r_S (st := []) (As := [.int m9]) (d := 0) (c_X4_isNoDigitPair l γ I L P m9) gX4_addRule_X4_isNoDigitPair rfl ⟨by decide, by decide, rfl⟩ ⟨Nat.le_of_ble_eq_true rfl, Nat.le_of_ble_eq_true rfl⟩ rfl (Nat.le_of_ble_eq_true rfl) dX4_addRule_29 ⟨Nat.zero_le _, Nat.zero_le _⟩) ?_
        refine gb_eq (tgt := 45) dX4_addRule_32 (by decide) (fun h4 => ?_) (fun h4 => ?_)
        · skip
          have hok : (inB x 8 && inB y 8 && inB z 8 && pB (∃ m, DP m9 m)) = true := by rw [bnot_f h1, bnot_f h2, bnot_f h3, bnot_f h4]; rfl
          obtain ⟨ex, hx8⟩ := inB_tn (by decide) (bnot_f h1)
          obtain ⟨ey, hy8⟩ := inB_tn (by decide) (bnot_f h2)
          obtain ⟨ez, hz8⟩ := inB_tn (by decide) (bnot_f h3)
          obtain ⟨em, hm1, hm2⟩ := DP_tn (pB_t.mp (bnot_f h4))
          refine g_lv (lv' := [(0, .ref (γ.2.2 0)), (1, .int (nI (tn x))), (2, .int (nI (tn y))), (3, .int (nI (tn z))), (4, .int (nI (tn m9)))]) (by rw [← ex, ← ey, ← ez, ← em]) ?_
          refine g_al_n 0 dX4_addRule_45 rfl ?_
          refine g_get (v := .ref (γ.2.2 1)) 0 0 (by decide) rfl in_X4_addRule_4 rfl (by decide) (by decide +kernel) rfl rfl dX4_addRule_46 ?_
          refine g_getN 1 3 (by decide) rfl in_X4_addRule_1 rfl (by decide) nw_RX4_93 rfl rfl dX4_addRule_49 ?_
          refine g_top (v := nI r9) (hG.1.cr) ?_
          refine g_bi (v := nI 8) dX4_addRule_52 (by decide) ?_
          refine gn_lt (tgt := 67) dX4_addRule_54 (by decide) (by omega) (by omega) (fun h5 => ?_) (fun h5 => ?_)
          · skip
            have hok2 : ((inB x 8 && inB y 8 && inB z 8 && pB (∃ m, DP m9 m)) && decide (r9 < 8)) = true := by rw [hok, decide_eq_true h5]; rfl
            refine g_pc (pc' := 67) rfl ?_
            refine g_al_n 0 dX4_addRule_67 rfl ?_
            refine g_get (v := .ref (γ.2.2 1)) 0 0 (by decide) rfl in_X4_addRule_4 rfl (by decide) (by decide +kernel) rfl rfl dX4_addRule_68 ?_
            refine g_getN 1 3 (by decide) rfl in_X4_addRule_1 rfl (by decide) nw_RX4_93 rfl rfl dX4_addRule_71 ?_
            refine g_top (v := nI r9) (hG.1.cr) ?_
            refine g_is (lv' := [(5, .int (nI r9)), (0, .ref (γ.2.2 0)), (1, .int (nI (tn x))), (2, .int (nI (tn y))), (3, .int (nI (tn z))), (4, .int (nI (tn m9)))]) dX4_addRule_74 (by decide) rfl ?_
            refine g_al_n 1 dX4_addRule_76 rfl ?_
            refine g_get (v := .ref (γ.2.2 1)) 0 0 (by decide) rfl in_X4_addRule_4 rfl (by decide) (by decide +kernel) rfl rfl dX4_addRule_77 ?_
            refine g_dup dX4_addRule_80 rfl ?_
            refine g_getN 1 3 (by decide) rfl in_X4_addRule_1 rfl (by decide) nw_RX4_93 rfl rfl dX4_addRule_81 ?_
            refine g_top (v := nI r9) (hG.1.cr) ?_
            refine g_pc (pc' := 84) rfl ?_
            refine g_ic (v := nI 1) dX4_addRule_84 (by decide) ?_
            refine g_iadd (v := nI (r9 + 1)) dX4_addRule_85 (nI_add _ _) ?_
            refine g_putN tyX1 1 3 (upd (I 1) 1 (nI (r9 + 1))) (by decide) rfl in_X4_addRule_1 tyX1_ok nmX1 rfl (by decide) nw_RX4_93 rfl rfl rfl rfl rfl (Nat.le_of_ble_eq_true rfl) dX4_addRule_86 rfl ?_
            obtain ⟨A, wA⟩ : ∃ A, A = va_up I 1 (upd (I 1) 1 (nI (r9 + 1))) := ⟨_, rfl⟩
            have A_a : A 1 = upd (I 1) 1 (nI (r9 + 1)) := by rw [wA, va_us]
            have A_b : ∀ k, k ≠ 1 → A k = I k := fun k hk => by rw [wA, va_up_ne _ _ hk]
            refine g_eq (I' := A) wA.symm rfl ?_
            refine g_al_n 1 dX4_addRule_89 rfl ?_
            refine g_get (v := .ref (γ.2.2 1)) 0 0 (by decide) rfl in_X4_addRule_4 rfl (by decide) (by decide +kernel) rfl rfl dX4_addRule_90 ?_
            refine g_il 0 dX4_addRule_93 rfl ?_
            refine g_il_n 2 dX4_addRule_95 rfl ?_
            refine g_il_n 3 dX4_addRule_96 rfl ?_
            refine g_pc (pc' := 97) rfl ?_
            refine g_il_n 4 dX4_addRule_97 rfl ?_
            refine g_il 5 dX4_addRule_98 rfl ?_
            refine g_cv (r_VN (st := []) (As := [.int (nI r9), .int (nI (tn x)), .int (nI (tn y)), .int (nI (tn z)), .int (nI (tn m9))]) (d := 2) (host := RX4) 1 (by decide) rfl rfl (c_X1_defineRule l γ A L P r9 (tn x) (tn y) (tn z) (tn m9) h5 (by omega) hm1 hm2) gX4_addRule_X1_defineRule_n98 rfl nm_RX4_98 (by decide +kernel) (by decide +kernel) (by decide +kernel) ⟨by decide, by decide, rfl⟩ ⟨Nat.le_of_ble_eq_true rfl, Nat.le_of_ble_eq_true rfl⟩ rfl (Nat.le_of_ble_eq_true rfl) dX4_addRule_100 ⟨Nat.zero_le _, Nat.zero_le _⟩) ?_
            rintro K Lz5 ⟨⟨F, eK, hF⟩, eLz5⟩
            rw [eLz5]
            refine g_il 0 dX4_addRule_103 rfl ?_
            exact g_xiret dX4_addRule_105 (⟨hok2, rfl, hG.rule h5 hx8 hy8 hz8 (by rw [eK, va_up_ne _ _ (by omega), va_up_ne _ _ (by decide), va_up_ne _ _ (by decide), va_up_ne _ _ (by decide), A_a, upd_n _ _ (by decide)]) (by rw [eK, va_up_ne _ _ (by omega), va_up_ne _ _ (by decide), va_up_ne _ _ (by decide), va_up_ne _ _ (by decide), A_a, upd_s]) (by rw [eK, va_up_ne _ _ (by omega), va_up_ne _ _ (by decide), va_up_ne _ _ (by decide), va_up_ne _ _ (by decide), A_b 0 (by decide)]) (by rw [eK, va_up_ne _ _ (by omega), va_up_ne _ _ (by decide), va_up_ne _ _ (by decide), va_us, A_b 16 (by decide)]) (by rw [eK, va_up_ne _ _ (by omega), va_up_ne _ _ (by decide), va_us, A_b 17 (by decide)]) (by rw [eK, va_up_ne _ _ (by omega), va_us, A_b 18 (by decide)]) (fun k h9 => by rw [eK, va_us]; exact hF k h9) (fun k h9 => by rw [eK, va_up_ne _ _ (by omega), va_up_ne _ _ (by omega), va_up_ne _ _ (by omega), va_up_ne _ _ (by omega), A_b k (by omega)]), fun k hk => by
                have hk2 : k ≠ 1 ∧ k ≠ 16 ∧ k ≠ 17 ∧ k ≠ 18 ∧ k ≠ r9 + 29 := by unfold MI at hk; omega
                rw [eK, va_up_ne _ _ hk2.2.2.2.2, va_up_ne _ _ hk2.2.2.2.1, va_up_ne _ _ hk2.2.2.1, va_up_ne _ _ hk2.2.1, A_b k hk2.1], rfl⟩)
          · skip
            exact g_throw (cls := "java/lang/IllegalStateException") (text := "there are 8 rules") (ik := 62) (is := 96) (ic := 66) hl0 (by decide) (by decide +kernel) (by decide +kernel) (List.mem_of_getElem? (i := 4) rfl) ts_X4_addRule_66 tw_66 tg_66 dX4_addRule_57 dX4_addRule_60 dX4_addRule_61 dX4_addRule_63 dX4_addRule_66 (Nat.le_of_ble_eq_true rfl) (Nat.le_of_ble_eq_true rfl) (Nat.le_of_ble_eq_true rfl) (Nat.le_of_ble_eq_true rfl) (⟨Or.inr ⟨rfl, hok, decide_eq_false (by omega)⟩, rfl, rfl⟩)
        · skip
          exact g_throw (cls := "java/lang/IllegalArgumentException") (text := "no such category or mode") (ik := 52) (is := 91) (ic := 56) hl0 (by decide) (by decide +kernel) (by decide +kernel) (List.mem_of_getElem? (i := 3) rfl) ts_X4_addRule_56 tw_56 tg_56 dX4_addRule_35 dX4_addRule_38 dX4_addRule_39 dX4_addRule_41 dX4_addRule_44 (Nat.le_of_ble_eq_true rfl) (Nat.le_of_ble_eq_true rfl) (Nat.le_of_ble_eq_true rfl) (Nat.le_of_ble_eq_true rfl) (⟨Or.inl ⟨rfl, by rw [bnot_t h4]; simp⟩, rfl, rfl⟩)

theorem in_X4_dropRule_1 : ∀ w ∈ wsX10, w ∈ wsX4_dropRule := by decide +kernel
theorem in_X4_dropRule_4 : ∀ w ∈ wsX40, w ∈ wsX4_dropRule := by decide +kernel
theorem ts_X4_dropRule_66 : ∀ w ∈ (vx_atS RX4 66 "java/lang/IllegalStateException" ["java/lang/RuntimeException", "java/lang/Exception"]).filter goodWord, w ∈ wsX4_dropRule := by decide +kernel
set_option maxRecDepth 100000 in
set_option maxHeartbeats 4000000 in
theorem c_X4_dropRule (l : Launch) (hl0 : l.stackTraces = false) (γ : Gm) (I : IT) (L : LT) (P : PT) (g : GR) (n r9 q : Nat) (u : Nat → Nat) (hG : GW I g n r9 q u) : Xi l yX4_dropRule wsX4_dropRule 1 γ [.ref (γ.2.2 0)] I L P (xq (decide (0 < r9)) (true) "java/lang/IllegalStateException" "java/lang/IllegalStateException" I L) (fun r I' L' => (decide (0 < r9) && true) = true ∧ r = nI (r9 - 1) ∧ GW I' g n (r9 - 1) q u ∧ FG I I' ∧ L' = L) := by
  refine Xi_of (own := RX4) (cc := cX4_dropRule) (maxL := 1) (by decide) rfl rfl (Nat.le_of_ble_eq_true rfl) ?_
  refine g_sub (lv' := [(0, .ref (γ.2.2 0))]) [0] rfl ?_
  have hr8 := hG.1.r_le
  refine g_al_n 0 dX4_dropRule_0 rfl ?_
  refine g_get (v := .ref (γ.2.2 1)) 0 0 (by decide) rfl in_X4_dropRule_4 rfl (by decide) (by decide +kernel) rfl rfl dX4_dropRule_1 ?_
  refine g_getN 1 3 (by decide) rfl in_X4_dropRule_1 rfl (by decide) nw_RX4_93 rfl rfl dX4_dropRule_4 ?_
  refine g_top (v := nI r9) (hG.1.cr) ?_
  refine gz_ne (tgt := 20) dX4_dropRule_7 (by decide) (by omega) (fun h1 => ?_) (fun h1 => ?_)
  · skip
    have hok : (decide (0 < r9) && true) = true := by rw [decide_eq_true (Nat.pos_of_ne_zero h1)]; rfl
    refine g_al_n 0 dX4_dropRule_20 rfl ?_
    refine g_get (v := .ref (γ.2.2 1)) 0 0 (by decide) rfl in_X4_dropRule_4 rfl (by decide) (by decide +kernel) rfl rfl dX4_dropRule_21 ?_
    refine g_dup dX4_dropRule_24 rfl ?_
    refine g_pc (pc' := 25) rfl ?_
    refine g_getN 1 3 (by decide) rfl in_X4_dropRule_1 rfl (by decide) nw_RX4_93 rfl rfl dX4_dropRule_25 ?_
    refine g_top (v := nI r9) (hG.1.cr) ?_
    refine g_ic (v := nI 1) dX4_dropRule_28 (by decide) ?_
    refine g_isub (v := nI (r9 - 1)) dX4_dropRule_29 (pk_sub (by omega)) ?_
    refine g_putN tyX1 1 3 (upd (I 1) 1 (nI (r9 - 1))) (by decide) rfl in_X4_dropRule_1 tyX1_ok nmX1 rfl (by decide) nw_RX4_93 rfl rfl rfl rfl rfl (Nat.le_of_ble_eq_true rfl) dX4_dropRule_30 rfl ?_
    obtain ⟨A, wA⟩ : ∃ A, A = va_up I 1 (upd (I 1) 1 (nI (r9 - 1))) := ⟨_, rfl⟩
    have A_a : A 1 = upd (I 1) 1 (nI (r9 - 1)) := by rw [wA, va_us]
    have A_b : ∀ k, k ≠ 1 → A k = I k := fun k hk => by rw [wA, va_up_ne _ _ hk]
    refine g_eq (I' := A) wA.symm rfl ?_
    refine g_al_n 0 dX4_dropRule_33 rfl ?_
    refine g_get (v := .ref (γ.2.2 1)) 0 0 (by decide) rfl in_X4_dropRule_4 rfl (by decide) (by decide +kernel) rfl rfl dX4_dropRule_34 ?_
    refine g_getN 1 3 (by decide) rfl in_X4_dropRule_1 rfl (by decide) nw_RX4_93 rfl rfl dX4_dropRule_37 ?_
    refine g_top (v := nI (r9 - 1)) (by rw [A_a, upd_s]) ?_
    exact g_xiret dX4_dropRule_40 (⟨hok, rfl, hG.drop (by omega) (by rw [A_a, upd_n _ _ (by decide)]) (by rw [A_a, upd_s]) A_b, fun k hk => A_b k (fun e => MI_dec (by decide) (e ▸ hk)), rfl⟩)
  · skip
    refine g_pc (pc' := 10) rfl ?_
    exact g_throw (cls := "java/lang/IllegalStateException") (text := "there is no rule") (ik := 62) (is := 102) (ic := 66) hl0 (by decide) (by decide +kernel) (by decide +kernel) (List.mem_of_getElem? (i := 5) rfl) ts_X4_dropRule_66 tw_66 tg_66 dX4_dropRule_10 dX4_dropRule_13 dX4_dropRule_14 dX4_dropRule_16 dX4_dropRule_19 (Nat.le_of_ble_eq_true rfl) (Nat.le_of_ble_eq_true rfl) (Nat.le_of_ble_eq_true rfl) (Nat.le_of_ble_eq_true rfl) (⟨Or.inl ⟨rfl, decide_eq_false (by omega)⟩, rfl, rfl⟩)

theorem in_X4_say_1 : ∀ w ∈ wsX10, w ∈ wsX4_say := by decide +kernel
theorem in_X4_say_4 : ∀ w ∈ wsX40, w ∈ wsX4_say := by decide +kernel
theorem ts_X4_say_66 : ∀ w ∈ (vx_atS RX4 66 "java/lang/IllegalStateException" ["java/lang/RuntimeException", "java/lang/Exception"]).filter goodWord, w ∈ wsX4_say := by decide +kernel
theorem ts_X4_say_83 : ∀ w ∈ (vx_atS RX4 83 "java/lang/IndexOutOfBoundsException" ["java/lang/RuntimeException", "java/lang/Exception"]).filter goodWord, w ∈ wsX4_say := by decide +kernel
set_option maxRecDepth 100000 in
set_option maxHeartbeats 4000000 in
theorem c_X4_say (l : Launch) (hl0 : l.stackTraces = false) (γ : Gm) (I : IT) (L : LT) (P : PT) (g : GR) (n r9 q : Nat) (u : Nat → Nat) (hG : GW I g n r9 q u) (v : Int32) : Xi l yX4_say wsX4_say 1 γ [.ref (γ.2.2 0), .int v] I L P (xq (inB v n) (decide (q < 6)) "java/lang/IndexOutOfBoundsException" "java/lang/IllegalStateException" I L) (fun r I' L' => (inB v n && decide (q < 6)) = true ∧ r = nI (q + 1) ∧ GW I' g n r9 (q + 1) (ust u q (tn v)) ∧ FG I I' ∧ L' = L) := by
  refine Xi_of (own := RX4) (cc := cX4_say) (maxL := 2) (by decide) rfl rfl (Nat.le_of_ble_eq_true rfl) ?_
  refine g_sub (lv' := [(0, .ref (γ.2.2 0)), (1, .int v)]) [0, 1] rfl ?_
  have hn9 := hG.1.n_le
  have hq6 := hG.2.2.1
  refine g_il_n 1 dX4_say_0 rfl ?_
  refine g_al_n 0 dX4_say_1 rfl ?_
  refine g_get (v := .ref (γ.2.2 1)) 0 0 (by decide) rfl in_X4_say_4 rfl (by decide) (by decide +kernel) rfl rfl dX4_say_2 ?_
  refine g_getN 1 0 (by decide) rfl in_X4_say_1 rfl (by decide) nw_RX4_59 rfl rfl dX4_say_5 ?_
  refine g_top (v := nI n) (hG.1.cn) ?_
  refine g_ci0 (v := bi (!inB v n)) (r_S (st := []) (As := [.int v, .int (nI n)]) (d := 0) (c_X4_isOutside l γ I L P v n (by omega)) gX4_say_X4_isOutside rfl ⟨by decide, by decide, rfl⟩ ⟨Nat.le_of_ble_eq_true rfl, Nat.le_of_ble_eq_true rfl⟩ rfl (Nat.le_of_ble_eq_true rfl) dX4_say_8 ⟨Nat.zero_le _, Nat.zero_le _⟩) ?_
  refine gb_eq (tgt := 24) dX4_say_11 (by decide) (fun h1 => ?_) (fun h1 => ?_)
  · skip
    have hok1 := bnot_f h1
    obtain ⟨ev, hvn⟩ := inB_tn (by omega) hok1
    refine g_lv (lv' := [(0, .ref (γ.2.2 0)), (1, .int (nI (tn v)))]) (by rw [← ev]) ?_
    refine g_al_n 0 dX4_say_24 rfl ?_
    refine g_pc (pc' := 25) rfl ?_
    refine g_get 0 2 (by decide) rfl in_X4_say_4 rfl (by decide) (by decide +kernel) rfl rfl dX4_say_25 ?_
    refine g_top (v := nI q) (hG.2.1) ?_
    refine g_bi (v := nI 6) dX4_say_28 (by decide) ?_
    refine gn_lt (tgt := 43) dX4_say_30 (by decide) (by omega) (by omega) (fun h2 => ?_) (fun h2 => ?_)
    · skip
      have hok : (inB v n && decide (q < 6)) = true := by rw [hok1, decide_eq_true h2]; rfl
      refine g_al_n 0 dX4_say_43 rfl ?_
      refine g_get (v := .ref (γ.2.2 12)) 0 1 (by decide) rfl in_X4_say_4 rfl (by decide) (by decide +kernel) rfl rfl dX4_say_44 ?_
      refine g_al_n 0 dX4_say_47 rfl ?_
      refine g_get 0 2 (by decide) rfl in_X4_say_4 rfl (by decide) (by decide +kernel) rfl rfl dX4_say_48 ?_
      refine g_top (v := nI q) (hG.2.1) ?_
      refine g_il_n 1 dX4_say_51 rfl ?_
      refine g_pc (pc' := 52) rfl ?_
      refine g_iast 12 q (by decide) (by decide) (show q < 6 by omega) dX4_say_52 ?_
      obtain ⟨A, wA⟩ : ∃ A, A = va_up I 12 (upd (I 12) q (nI (tn v))) := ⟨_, rfl⟩
      have A_a : A 12 = upd (I 12) q (nI (tn v)) := by rw [wA, va_us]
      have A_b : ∀ k, k ≠ 12 → A k = I k := fun k hk => by rw [wA, va_up_ne _ _ hk]
      refine g_eq (I' := A) wA.symm rfl ?_
      refine g_al_n 0 dX4_say_53 rfl ?_
      refine g_dup dX4_say_54 rfl ?_
      refine g_get 0 2 (by decide) rfl in_X4_say_4 rfl (by decide) (by decide +kernel) rfl rfl dX4_say_55 ?_
      refine g_top (v := nI q) (by rw [A_b 0 (by decide)]; exact hG.2.1) ?_
      refine g_ic (v := nI 1) dX4_say_58 (by decide) ?_
      refine g_iadd (v := nI (q + 1)) dX4_say_59 (nI_add _ _) ?_
      refine g_put tyX4 0 2 (upd (A 0) 0 (nI (q + 1))) (by decide) rfl in_X4_say_4 tyX4_ok nmX4 rfl (by decide) (by decide +kernel) rfl rfl rfl rfl rfl (Nat.le_of_ble_eq_true rfl) dX4_say_60 rfl ?_
      obtain ⟨B, wB⟩ : ∃ B, B = va_up A 0 (upd (A 0) 0 (nI (q + 1))) := ⟨_, rfl⟩
      have B_a : B 0 = upd (A 0) 0 (nI (q + 1)) := by rw [wB, va_us]
      have B_b : ∀ k, k ≠ 0 → B k = A k := fun k hk => by rw [wB, va_up_ne _ _ hk]
      refine g_eq (I' := B) wB.symm rfl ?_
      refine g_al_n 0 dX4_say_63 rfl ?_
      refine g_pc (pc' := 64) rfl ?_
      refine g_get 0 2 (by decide) rfl in_X4_say_4 rfl (by decide) (by decide +kernel) rfl rfl dX4_say_64 ?_
      refine g_top (v := nI (q + 1)) (by rw [B_a, upd_s]) ?_
      exact g_xiret dX4_say_67 (⟨hok, rfl, hG.row (by omega) (by rw [B_a, upd_s]) (fun k h9 h10 => by rw [B_b k h9, A_b k h10]) (fun p hp => by
          rw [B_b 12 (by decide), A_a]
          by_cases e : p = q
          · subst e; rw [upd_s, ust_s]; exact ⟨rfl, hvn⟩
          · rw [upd_n _ _ e, ust_n _ _ e]; exact hG.2.2.2 p (by omega)), FG.two A_b B_b (MI_dec (by decide)) (MI_dec (by decide)), rfl⟩)
    · skip
      exact g_throw (cls := "java/lang/IllegalStateException") (text := "the row has 6 words") (ik := 62) (is := 104) (ic := 66) hl0 (by decide) (by decide +kernel) (by decide +kernel) (List.mem_of_getElem? (i := 6) rfl) ts_X4_say_66 tw_66 tg_66 dX4_say_33 dX4_say_36 dX4_say_37 dX4_say_39 dX4_say_42 (Nat.le_of_ble_eq_true rfl) (Nat.le_of_ble_eq_true rfl) (Nat.le_of_ble_eq_true rfl) (Nat.le_of_ble_eq_true rfl) (⟨Or.inr ⟨rfl, hok1, decide_eq_false (by omega)⟩, rfl, rfl⟩)
  · skip
    exact g_throw (cls := "java/lang/IndexOutOfBoundsException") (text := "no such word") (ik := 79) (is := 81) (ic := 83) hl0 (by decide) (by decide +kernel) (by decide +kernel) (List.mem_of_getElem? (i := 2) rfl) ts_X4_say_83 tw_83 tg_83 dX4_say_14 dX4_say_17 dX4_say_18 dX4_say_20 dX4_say_23 (Nat.le_of_ble_eq_true rfl) (Nat.le_of_ble_eq_true rfl) (Nat.le_of_ble_eq_true rfl) (Nat.le_of_ble_eq_true rfl) (⟨Or.inl ⟨rfl, bnot_t h1⟩, rfl, rfl⟩)

theorem in_X4_change_1 : ∀ w ∈ wsX10, w ∈ wsX4_change := by decide +kernel
theorem in_X4_change_4 : ∀ w ∈ wsX40, w ∈ wsX4_change := by decide +kernel
theorem ts_X4_change_83 : ∀ w ∈ (vx_atS RX4 83 "java/lang/IndexOutOfBoundsException" ["java/lang/RuntimeException", "java/lang/Exception"]).filter goodWord, w ∈ wsX4_change := by decide +kernel
set_option maxRecDepth 100000 in
set_option maxHeartbeats 4000000 in
theorem c_X4_change (l : Launch) (hl0 : l.stackTraces = false) (γ : Gm) (I : IT) (L : LT) (P : PT) (g : GR) (n r9 q : Nat) (u : Nat → Nat) (hG : GW I g n r9 q u) (p v : Int32) : Xi l yX4_change wsX4_change 1 γ [.ref (γ.2.2 0), .int p, .int v] I L P (xq (inB p q && inB v n) (true) "java/lang/IndexOutOfBoundsException" "java/lang/IndexOutOfBoundsException" I L) (fun r I' L' => ((inB p q && inB v n) && true) = true ∧ r = nI (u (tn p)) ∧ GW I' g n r9 q (ust u (tn p) (tn v)) ∧ FG I I' ∧ L' = L) := by
  refine Xi_of (own := RX4) (cc := cX4_change) (maxL := 4) (by decide) rfl rfl (Nat.le_of_ble_eq_true rfl) ?_
  refine g_sub (lv' := [(0, .ref (γ.2.2 0)), (1, .int p), (2, .int v)]) [0, 1, 2] rfl ?_
  have hn9 := hG.1.n_le
  have hq6 := hG.2.2.1
  refine g_il_n 1 dX4_change_0 rfl ?_
  refine g_al_n 0 dX4_change_1 rfl ?_
  refine g_get 0 2 (by decide) rfl in_X4_change_4 rfl (by decide) (by decide +kernel) rfl rfl dX4_change_2 ?_
  refine g_top (v := nI q) (hG.2.1) ?_
  refine g_ci0 (v := bi (!inB p q)) (r_S (st := []) (As := [.int p, .int (nI q)]) (d := 0) (c_X4_isOutside l γ I L P p q (by omega)) gX4_change_X4_isOutside rfl ⟨by decide, by decide, rfl⟩ ⟨Nat.le_of_ble_eq_true rfl, Nat.le_of_ble_eq_true rfl⟩ rfl (Nat.le_of_ble_eq_true rfl) dX4_change_5 ⟨Nat.zero_le _, Nat.zero_le _⟩) ?_
  refine gb_ne (tgt := 25) dX4_change_8 (by decide) (fun h1 => ?_) (fun h1 => ?_)
  · skip
    exact g_throw (cls := "java/lang/IndexOutOfBoundsException") (text := "no such place or word") (ik := 79) (is := 106) (ic := 83) hl0 (by decide) (by decide +kernel) (by decide +kernel) (List.mem_of_getElem? (i := 7) rfl) ts_X4_change_83 tw_83 tg_83 dX4_change_25 dX4_change_28 dX4_change_29 dX4_change_31 dX4_change_34 (Nat.le_of_ble_eq_true rfl) (Nat.le_of_ble_eq_true rfl) (Nat.le_of_ble_eq_true rfl) (Nat.le_of_ble_eq_true rfl) (⟨Or.inl ⟨rfl, by rw [bnot_t h1]; rfl⟩, rfl, rfl⟩)
  · skip
    refine g_il_n 2 dX4_change_11 rfl ?_
    refine g_pc (pc' := 12) rfl ?_
    refine g_al_n 0 dX4_change_12 rfl ?_
    refine g_get (v := .ref (γ.2.2 1)) 0 0 (by decide) rfl in_X4_change_4 rfl (by decide) (by decide +kernel) rfl rfl dX4_change_13 ?_
    refine g_getN 1 0 (by decide) rfl in_X4_change_1 rfl (by decide) nw_RX4_59 rfl rfl dX4_change_16 ?_
    refine g_top (v := nI n) (hG.1.cn) ?_
    refine g_ci0 (v := bi (!inB v n)) (r_S (st := []) (As := [.int v, .int (nI n)]) (d := 0) (c_X4_isOutside l γ I L P v n (by omega)) gX4_change_X4_isOutside rfl ⟨by decide, by decide, rfl⟩ ⟨Nat.le_of_ble_eq_true rfl, Nat.le_of_ble_eq_true rfl⟩ rfl (Nat.le_of_ble_eq_true rfl) dX4_change_19 ⟨Nat.zero_le _, Nat.zero_le _⟩) ?_
    refine gb_eq (tgt := 35) dX4_change_22 (by decide) (fun h2 => ?_) (fun h2 => ?_)
    · skip
      have hok : ((inB p q && inB v n) && true) = true := by rw [bnot_f h1, bnot_f h2]; rfl
      obtain ⟨ep, hpq⟩ := inB_tn (by omega) (bnot_f h1)
      obtain ⟨ev, hvn⟩ := inB_tn (by omega) (bnot_f h2)
      refine g_lv (lv' := [(0, .ref (γ.2.2 0)), (1, .int (nI (tn p))), (2, .int (nI (tn v)))]) (by rw [← ep, ← ev]) ?_
      refine g_al_n 0 dX4_change_35 rfl ?_
      refine g_get (v := .ref (γ.2.2 12)) 0 1 (by decide) rfl in_X4_change_4 rfl (by decide) (by decide +kernel) rfl rfl dX4_change_36 ?_
      refine g_il_n 1 dX4_change_39 rfl ?_
      refine g_pc (pc' := 40) rfl ?_
      refine g_iald (v := nI (u (tn p))) 12 (tn p) (by decide) (by decide) (show tn p < 6 by omega) ((hG.2.2.2 (tn p) hpq).1) dX4_change_40 ?_
      refine g_is_n (lv' := [(3, .int (nI (u (tn p)))), (0, .ref (γ.2.2 0)), (1, .int (nI (tn p))), (2, .int (nI (tn v)))]) dX4_change_41 (by decide) rfl ?_
      refine g_al_n 1 dX4_change_42 rfl ?_
      refine g_get (v := .ref (γ.2.2 12)) 0 1 (by decide) rfl in_X4_change_4 rfl (by decide) (by decide +kernel) rfl rfl dX4_change_43 ?_
      refine g_il_n 2 dX4_change_46 rfl ?_
      refine g_il_n 3 dX4_change_47 rfl ?_
      refine g_iast 12 (tn p) (by decide) (by decide) (show tn p < 6 by omega) dX4_change_48 ?_
      obtain ⟨A, wA⟩ : ∃ A, A = va_up I 12 (upd (I 12) (tn p) (nI (tn v))) := ⟨_, rfl⟩
      have A_a : A 12 = upd (I 12) (tn p) (nI (tn v)) := by rw [wA, va_us]
      have A_b : ∀ k, k ≠ 12 → A k = I k := fun k hk => by rw [wA, va_up_ne _ _ hk]
      refine g_eq (I' := A) wA.symm rfl ?_
      refine g_il_n 0 dX4_change_49 rfl ?_
      refine g_pc (pc' := 50) rfl ?_
      exact g_xiret dX4_change_50 (⟨hok, rfl, hG.row hq6 (by rw [A_b 0 (by decide)]; exact hG.2.1) (fun k h9 h10 => A_b k h10) (fun j hj => by
          rw [A_a]
          by_cases e : j = tn p
          · subst e; rw [upd_s, ust_s]; exact ⟨rfl, hvn⟩
          · rw [upd_n _ _ e, ust_n _ _ e]; exact hG.2.2.2 j hj), fun k hk => A_b k (fun e => MI_dec (by decide) (e ▸ hk)), rfl⟩)
    · skip
      exact g_throw (cls := "java/lang/IndexOutOfBoundsException") (text := "no such place or word") (ik := 79) (is := 106) (ic := 83) hl0 (by decide) (by decide +kernel) (by decide +kernel) (List.mem_of_getElem? (i := 7) rfl) ts_X4_change_83 tw_83 tg_83 dX4_change_25 dX4_change_28 dX4_change_29 dX4_change_31 dX4_change_34 (Nat.le_of_ble_eq_true rfl) (Nat.le_of_ble_eq_true rfl) (Nat.le_of_ble_eq_true rfl) (Nat.le_of_ble_eq_true rfl) (⟨Or.inl ⟨rfl, by rw [bnot_t h2, Bool.and_false]⟩, rfl, rfl⟩)

theorem in_X4_hush_4 : ∀ w ∈ wsX40, w ∈ wsX4_hush := by decide +kernel
set_option maxRecDepth 100000 in
set_option maxHeartbeats 4000000 in
theorem c_X4_hush (l : Launch) (γ : Gm) (I : IT) (L : LT) (P : PT) (g : GR) (n r9 q : Nat) (u : Nat → Nat) (hG : GW I g n r9 q u) : Ci l yX4_hush wsX4_hush 0 γ [.ref (γ.2.2 0)] I L P (fun r I' L' => r = nI q ∧ GW I' g n r9 0 u ∧ FG I I' ∧ L' = L) := by
  refine Ci_of (own := RX4) (cc := cX4_hush) (maxL := 2) (by decide) rfl rfl (Nat.le_of_ble_eq_true rfl) ?_
  refine g_sub (lv' := [(0, .ref (γ.2.2 0))]) [0] rfl ?_
  refine g_al_n 0 dX4_hush_0 rfl ?_
  refine g_get 0 2 (by decide) rfl in_X4_hush_4 rfl (by decide) (by decide +kernel) rfl rfl dX4_hush_1 ?_
  refine g_top (v := nI q) (hG.2.1) ?_
  refine g_is_n (lv' := [(1, .int (nI q)), (0, .ref (γ.2.2 0))]) dX4_hush_4 (by decide) rfl ?_
  refine g_al_n 1 dX4_hush_5 rfl ?_
  refine g_ic (v := nI 0) dX4_hush_6 (by decide) ?_
  refine g_put tyX4 0 2 (upd (I 0) 0 (nI 0)) (by decide) rfl in_X4_hush_4 tyX4_ok nmX4 rfl (by decide) (by decide +kernel) rfl rfl rfl rfl rfl (Nat.le_of_ble_eq_true rfl) dX4_hush_7 rfl ?_
  obtain ⟨A, wA⟩ : ∃ A, A = va_up I 0 (upd (I 0) 0 (nI 0)) := ⟨_, rfl⟩
  have A_a : A 0 = upd (I 0) 0 (nI 0) := by rw [wA, va_us]
  have A_b : ∀ k, k ≠ 0 → A k = I k := fun k hk => by rw [wA, va_up_ne _ _ hk]
  refine g_eq (I' := A) wA.symm rfl ?_
  refine g_il_n 0 dX4_hush_10 rfl ?_
  refine g_pc (pc' := 11) rfl ?_
  exact g_iret dX4_hush_11 (⟨rfl, hG.row (by decide) (by rw [A_a, upd_s]) (fun k h9 h10 => A_b k h9) (fun p hp => by omega), fun k hk => A_b k (fun e => MI_dec (by decide) (e ▸ hk)), rfl⟩)
