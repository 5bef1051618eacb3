/-! the law's wrappers -/

set_option maxRecDepth 100000 in
set_option maxHeartbeats 4000000 in
theorem c_L_addWord (l : Launch) (hl0 : l.stackTraces = false) (γ : Gm) (I : IT) (L : LT) (P : PT) (g : GR) (n r9 q : Nat) (u : Nat → Nat) (hG : GW I g n r9 q u) (x y z : Int32) : Li l yL_addWord wsL_addWord 2 γ [.ref (γ.2.2 0), .int x, .int y, .int z, .ref (γ.2.2 10)] I L P (fun r I' L' P' => r = nI (cd2 (inB x 8 && inB y 4 && inB z 4) (decide (n < 9))) ∧ (((inB x 8 && inB y 4 && inB z 4) && (decide (n < 9))) = true → L' 10 0 = (nI n).toInt64) ∧ GW I' (if ((inB x 8 && inB y 4 && inB z 4) && (decide (n < 9))) = true then gword g n (tn x) (tn y * 4 + tn z) else g) (if ((inB x 8 && inB y 4 && inB z 4) && (decide (n < 9))) = true then n + 1 else n) r9 q u ∧ FG I I' ∧ (∀ k, k ≠ 10 → L' k = L k) ∧ P' = P) := by
  refine Li_of (own := RL) (cc := cL_addWord) (maxL := 6) (by decide) rfl rfl (Nat.le_of_ble_eq_true rfl) ?_
  refine g_sub (lv' := [(0, .ref (γ.2.2 0)), (1, .int x), (2, .int y), (3, .int z), (4, .ref (γ.2.2 10))]) [0, 1, 2, 3, 4] rfl ?_
  refine g_al 4 dL_addWord_0 rfl ?_
  refine g_ic (v := nI 0) dL_addWord_2 (by decide) ?_
  refine g_al_n 0 dL_addWord_3 rfl ?_
  refine g_il_n 1 dL_addWord_4 rfl ?_
  refine g_il_n 2 dL_addWord_5 rfl ?_
  refine g_il_n 3 dL_addWord_6 rfl ?_
  refine g_xci (As := [.int x, .int y, .int z]) (st := [.int (nI 0), .ref (γ.2.2 10)]) (d := 1) (hh := [(0, 12, 15, 13), (0, 12, 19, 15)]) 0 (by decide) rfl rfl (c_X4_addWord l hl0 γ I L P g n r9 q u hG x y z) gL_addWord_X4_addWord rfl ⟨rfl, by decide, by decide, rfl⟩ ⟨Nat.le_of_ble_eq_true rfl, Nat.le_of_ble_eq_true rfl⟩ rfl (Nat.le_of_ble_eq_true rfl) dL_addWord_7 ⟨Nat.le_of_ble_eq_true rfl, Nat.le_of_ble_eq_true rfl⟩ ?_ ?_
  · rintro E I' L' ⟨hE, eI, eL⟩
    rw [eI, eL]
    rcases hE with ⟨eE, ha⟩ | ⟨eE, ha, hb⟩
    · subst eE
      refine ⟨15, ⟨[], ⟨0, 12, 15, 13⟩, [⟨0, 12, 19, 15⟩], rfl, (fun z hz => nomatch hz), by decide, by decide, by decide +kernel, by decide, rfl⟩, fun q9 => ?_⟩
      refine g_as (lv' := [(5, .ref q9), (0, .ref (γ.2.2 0)), (1, .int x), (2, .int y), (3, .int z), (4, .ref (γ.2.2 10))]) dL_addWord_15 (by decide) rfl ?_
      refine g_ic (v := nI 1) dL_addWord_17 (by decide) ?_
      exact g_liret dL_addWord_18 (⟨by rw [ha]; rfl, (fun q8 => by rw [ha] at q8; exact absurd q8 (by simp)), by rw [ha]; exact hG, FG.refl I, fun _ _ => rfl, rfl⟩)
    · subst eE
      refine ⟨19, ⟨[⟨0, 12, 15, 13⟩], ⟨0, 12, 19, 15⟩, [], rfl, (fun z hz => by cases List.mem_singleton.mp hz; exact ⟨by decide, "java/lang/IllegalArgumentException", by decide +kernel, by decide⟩), by decide, by decide, by decide +kernel, by decide, rfl⟩, fun q9 => ?_⟩
      refine g_as (lv' := [(5, .ref q9), (0, .ref (γ.2.2 0)), (1, .int x), (2, .int y), (3, .int z), (4, .ref (γ.2.2 10))]) dL_addWord_19 (by decide) rfl ?_
      refine g_ic (v := nI 2) dL_addWord_21 (by decide) ?_
      exact g_liret dL_addWord_22 (⟨by rw [ha, hb]; rfl, (fun q8 => by rw [ha, hb] at q8; exact absurd q8 (by simp)), by rw [ha, hb]; exact hG, FG.refl I, fun _ _ => rfl, rfl⟩)
  · rintro r J L' ⟨hok, er, hG1, hF1, eL⟩
    rw [er, eL]
    obtain ⟨ha, hb⟩ := (Bool.and_eq_true _ _).mp hok
    refine g_i2l (v := (nI n).toInt64) dL_addWord_10 (rfl) ?_
    refine g_last 10 0 (by decide) (fun _ => rfl) (by decide) (by omega) dL_addWord_11 ?_
    refine g_goto (tgt := 23) dL_addWord_12 (by decide) ?_
    refine g_ic (v := nI 0) dL_addWord_23 (by decide) ?_
    exact g_liret dL_addWord_24 (⟨by rw [ha, hb]; rfl, (fun _ => by rw [va_us, vl_us]), by rw [ha, hb]; exact hG1, hF1, (fun k hk => va_up_ne _ _ hk), rfl⟩)

set_option maxRecDepth 100000 in
set_option maxHeartbeats 4000000 in
theorem c_L_setWord (l : Launch) (hl0 : l.stackTraces = false) (γ : Gm) (I : IT) (L : LT) (P : PT) (g : GR) (n r9 q : Nat) (u : Nat → Nat) (hG : GW I g n r9 q u) (v x y z : Int32) : Li l yL_setWord wsL_setWord 2 γ [.ref (γ.2.2 0), .int v, .int x, .int y, .int z, .ref (γ.2.2 10)] I L P (fun r I' L' P' => r = nI (cd2 (inB v n) (inB x 8 && inB y 4 && inB z 4)) ∧ (((inB v n) && (inB x 8 && inB y 4 && inB z 4)) = true → L' 10 0 = (nI (g 0 (tn v))).toInt64) ∧ GW I' (if ((inB v n) && (inB x 8 && inB y 4 && inB z 4)) = true then gword g (tn v) (tn x) (tn y * 4 + tn z) else g) n r9 q u ∧ FG I I' ∧ (∀ k, k ≠ 10 → L' k = L k) ∧ P' = P) := by
  refine Li_of (own := RL) (cc := cL_setWord) (maxL := 7) (by decide) rfl rfl (Nat.le_of_ble_eq_true rfl) ?_
  refine g_sub (lv' := [(0, .ref (γ.2.2 0)), (1, .int v), (2, .int x), (3, .int y), (4, .int z), (5, .ref (γ.2.2 10))]) [0, 1, 2, 3, 4, 5] rfl ?_
  refine g_al 5 dL_setWord_0 rfl ?_
  refine g_ic (v := nI 0) dL_setWord_2 (by decide) ?_
  refine g_al_n 0 dL_setWord_3 rfl ?_
  refine g_il_n 1 dL_setWord_4 rfl ?_
  refine g_il_n 2 dL_setWord_5 rfl ?_
  refine g_il_n 3 dL_setWord_6 rfl ?_
  refine g_il 4 dL_setWord_7 rfl ?_
  refine g_xci (As := [.int v, .int x, .int y, .int z]) (st := [.int (nI 0), .ref (γ.2.2 10)]) (d := 1) (hh := [(0, 14, 17, 21), (0, 14, 21, 13)]) 0 (by decide) rfl rfl (c_X4_setWord l hl0 γ I L P g n r9 q u hG v x y z) gL_setWord_X4_setWord rfl ⟨rfl, by decide, by decide, rfl⟩ ⟨Nat.le_of_ble_eq_true rfl, Nat.le_of_ble_eq_true rfl⟩ rfl (Nat.le_of_ble_eq_true rfl) dL_setWord_9 ⟨Nat.le_of_ble_eq_true rfl, Nat.le_of_ble_eq_true rfl⟩ ?_ ?_
  · rintro E I' L' ⟨hE, eI, eL⟩
    rw [eI, eL]
    rcases hE with ⟨eE, ha⟩ | ⟨eE, ha, hb⟩
    · subst eE
      refine ⟨17, ⟨[], ⟨0, 14, 17, 21⟩, [⟨0, 14, 21, 13⟩], rfl, (fun z hz => nomatch hz), by decide, by decide, by decide +kernel, by decide, rfl⟩, fun q9 => ?_⟩
      refine g_as (lv' := [(6, .ref q9), (0, .ref (γ.2.2 0)), (1, .int v), (2, .int x), (3, .int y), (4, .int z), (5, .ref (γ.2.2 10))]) dL_setWord_17 (by decide) rfl ?_
      refine g_ic (v := nI 1) dL_setWord_19 (by decide) ?_
      exact g_liret dL_setWord_20 (⟨by rw [ha]; rfl, (fun q8 => by rw [ha] at q8; exact absurd q8 (by simp)), by rw [ha]; exact hG, FG.refl I, fun _ _ => rfl, rfl⟩)
    · subst eE
      refine ⟨21, ⟨[⟨0, 14, 17, 21⟩], ⟨0, 14, 21, 13⟩, [], rfl, (fun z hz => by cases List.mem_singleton.mp hz; exact ⟨by decide, "java/lang/IndexOutOfBoundsException", by decide +kernel, by decide⟩), by decide, by decide, by decide +kernel, by decide, rfl⟩, fun q9 => ?_⟩
      refine g_as (lv' := [(6, .ref q9), (0, .ref (γ.2.2 0)), (1, .int v), (2, .int x), (3, .int y), (4, .int z), (5, .ref (γ.2.2 10))]) dL_setWord_21 (by decide) rfl ?_
      refine g_ic (v := nI 2) dL_setWord_23 (by decide) ?_
      exact g_liret dL_setWord_24 (⟨by rw [ha, hb]; rfl, (fun q8 => by rw [ha, hb] at q8; exact absurd q8 (by simp)), by rw [ha, hb]; exact hG, FG.refl I, fun _ _ => rfl, rfl⟩)
  · rintro r J L' ⟨hok, er, hG1, hF1, eL⟩
    rw [er, eL]
    obtain ⟨ha, hb⟩ := (Bool.and_eq_true _ _).mp hok
    refine g_i2l (v := (nI (g 0 (tn v))).toInt64) dL_setWord_12 (rfl) ?_
    refine g_last 10 0 (by decide) (fun _ => rfl) (by decide) (by omega) dL_setWord_13 ?_
    refine g_goto (tgt := 25) dL_setWord_14 (by decide) ?_
    refine g_ic (v := nI 0) dL_setWord_25 (by decide) ?_
    exact g_liret dL_setWord_26 (⟨by rw [ha, hb]; rfl, (fun _ => by rw [va_us, vl_us]), by rw [ha, hb]; exact hG1, hF1, (fun k hk => va_up_ne _ _ hk), rfl⟩)

set_option maxRecDepth 100000 in
set_option maxHeartbeats 4000000 in
theorem c_L_addRule (l : Launch) (hl0 : l.stackTraces = false) (γ : Gm) (I : IT) (L : LT) (P : PT) (g : GR) (n r9 q : Nat) (u : Nat → Nat) (hG : GW I g n r9 q u) (x y z m9 : Int32) : Li l yL_addRule wsL_addRule 4 γ [.ref (γ.2.2 0), .int x, .int y, .int z, .int m9, .ref (γ.2.2 10)] I L P (fun r I' L' P' => r = nI (cd2 (inB x 8 && inB y 8 && inB z 8 && pB (∃ m, DP m9 m)) (decide (r9 < 8))) ∧ (((inB x 8 && inB y 8 && inB z 8 && pB (∃ m, DP m9 m)) && (decide (r9 < 8))) = true → L' 10 0 = (nI r9).toInt64) ∧ GW I' (if ((inB x 8 && inB y 8 && inB z 8 && pB (∃ m, DP m9 m)) && (decide (r9 < 8))) = true then grule g r9 (tn x) (tn y) (tn z) (tn m9) else g) n (if ((inB x 8 && inB y 8 && inB z 8 && pB (∃ m, DP m9 m)) && (decide (r9 < 8))) = true then r9 + 1 else r9) q u ∧ FG I I' ∧ (∀ k, k ≠ 10 → L' k = L k) ∧ P' = P) := by
  refine Li_of (own := RL) (cc := cL_addRule) (maxL := 7) (by decide) rfl rfl (Nat.le_of_ble_eq_true rfl) ?_
  refine g_sub (lv' := [(0, .ref (γ.2.2 0)), (1, .int x), (2, .int y), (3, .int z), (4, .int m9), (5, .ref (γ.2.2 10))]) [0, 1, 2, 3, 4, 5] rfl ?_
  refine g_al 5 dL_addRule_0 rfl ?_
  refine g_ic (v := nI 0) dL_addRule_2 (by decide) ?_
  refine g_al_n 0 dL_addRule_3 rfl ?_
  refine g_il_n 1 dL_addRule_4 rfl ?_
  refine g_il_n 2 dL_addRule_5 rfl ?_
  refine g_il_n 3 dL_addRule_6 rfl ?_
  refine g_il 4 dL_addRule_7 rfl ?_
  refine g_xci (As := [.int x, .int y, .int z, .int m9]) (st := [.int (nI 0), .ref (γ.2.2 10)]) (d := 3) (hh := [(0, 14, 17, 13), (0, 14, 21, 15)]) 0 (by decide) rfl rfl (c_X4_addRule l hl0 γ I L P g n r9 q u hG x y z m9) gL_addRule_X4_addRule rfl ⟨rfl, by decide, by decide, rfl⟩ ⟨Nat.le_of_ble_eq_true rfl, Nat.le_of_ble_eq_true rfl⟩ rfl (Nat.le_of_ble_eq_true rfl) dL_addRule_9 ⟨Nat.le_of_ble_eq_true rfl, Nat.le_of_ble_eq_true rfl⟩ ?_ ?_
  · rintro E I' L' ⟨hE, eI, eL⟩
    rw [eI, eL]
    rcases hE with ⟨eE, ha⟩ | ⟨eE, ha, hb⟩
    · subst eE
      refine ⟨17, ⟨[], ⟨0, 14, 17, 13⟩, [⟨0, 14, 21, 15⟩], rfl, (fun z hz => nomatch hz), by decide, by decide, by decide +kernel, by decide, rfl⟩, fun q9 => ?_⟩
      refine g_as (lv' := [(6, .ref q9), (0, .ref (γ.2.2 0)), (1, .int x), (2, .int y), (3, .int z), (4, .int m9), (5, .ref (γ.2.2 10))]) dL_addRule_17 (by decide) rfl ?_
      refine g_ic (v := nI 1) dL_addRule_19 (by decide) ?_
      exact g_liret dL_addRule_20 (⟨by rw [ha]; rfl, (fun q8 => by rw [ha] at q8; exact absurd q8 (by simp)), by rw [ha]; exact hG, FG.refl I, fun _ _ => rfl, rfl⟩)
    · subst eE
      refine ⟨21, ⟨[⟨0, 14, 17, 13⟩], ⟨0, 14, 21, 15⟩, [], rfl, (fun z hz => by cases List.mem_singleton.mp hz; exact ⟨by decide, "java/lang/IllegalArgumentException", by decide +kernel, by decide⟩), by decide, by decide, by decide +kernel, by decide, rfl⟩, fun q9 => ?_⟩
      refine g_as (lv' := [(6, .ref q9), (0, .ref (γ.2.2 0)), (1, .int x), (2, .int y), (3, .int z), (4, .int m9), (5, .ref (γ.2.2 10))]) dL_addRule_21 (by decide) rfl ?_
      refine g_ic (v := nI 2) dL_addRule_23 (by decide) ?_
      exact g_liret dL_addRule_24 (⟨by rw [ha, hb]; rfl, (fun q8 => by rw [ha, hb] at q8; exact absurd q8 (by simp)), by rw [ha, hb]; exact hG, FG.refl I, fun _ _ => rfl, rfl⟩)
  · rintro r J L' ⟨hok, er, hG1, hF1, eL⟩
    rw [er, eL]
    obtain ⟨ha, hb⟩ := (Bool.and_eq_true _ _).mp hok
    refine g_i2l (v := (nI r9).toInt64) dL_addRule_12 (rfl) ?_
    refine g_last 10 0 (by decide) (fun _ => rfl) (by decide) (by omega) dL_addRule_13 ?_
    refine g_goto (tgt := 25) dL_addRule_14 (by decide) ?_
    refine g_ic (v := nI 0) dL_addRule_25 (by decide) ?_
    exact g_liret dL_addRule_26 (⟨by rw [ha, hb]; rfl, (fun _ => by rw [va_us, vl_us]), by rw [ha, hb]; exact hG1, hF1, (fun k hk => va_up_ne _ _ hk), rfl⟩)

set_option maxRecDepth 100000 in
set_option maxHeartbeats 4000000 in
theorem c_L_dropRule (l : Launch) (hl0 : l.stackTraces = false) (γ : Gm) (I : IT) (L : LT) (P : PT) (g : GR) (n r9 q : Nat) (u : Nat → Nat) (hG : GW I g n r9 q u) : Li l yL_dropRule wsL_dropRule 2 γ [.ref (γ.2.2 0), .ref (γ.2.2 10)] I L P (fun r I' L' P' => r = nI (cd2 (decide (0 < r9)) (true)) ∧ (((decide (0 < r9)) && (true)) = true → L' 10 0 = (nI (r9 - 1)).toInt64) ∧ GW I' g n (if ((decide (0 < r9)) && (true)) = true then r9 - 1 else r9) q u ∧ FG I I' ∧ (∀ k, k ≠ 10 → L' k = L k) ∧ P' = P) := by
  refine Li_of (own := RL) (cc := cL_dropRule) (maxL := 3) (by decide) rfl rfl (Nat.le_of_ble_eq_true rfl) ?_
  refine g_sub (lv' := [(0, .ref (γ.2.2 0)), (1, .ref (γ.2.2 10))]) [0, 1] rfl ?_
  refine g_al_n 1 dL_dropRule_0 rfl ?_
  refine g_ic (v := nI 0) dL_dropRule_1 (by decide) ?_
  refine g_al_n 0 dL_dropRule_2 rfl ?_
  refine g_xci (As := []) (st := [.int (nI 0), .ref (γ.2.2 10)]) (d := 1) (hh := [(0, 8, 11, 15)]) 0 (by decide) rfl rfl (c_X4_dropRule l hl0 γ I L P g n r9 q u hG ) gL_dropRule_X4_dropRule rfl ⟨rfl, by decide, by decide, rfl⟩ ⟨Nat.le_of_ble_eq_true rfl, Nat.le_of_ble_eq_true rfl⟩ rfl (Nat.le_of_ble_eq_true rfl) dL_dropRule_3 ⟨Nat.le_of_ble_eq_true rfl, Nat.le_of_ble_eq_true rfl⟩ ?_ ?_
  · rintro E I' L' ⟨hE, eI, eL⟩
    rw [eI, eL]
    rcases hE with ⟨eE, ha⟩ | ⟨eE, ha, hb⟩
    · subst eE
      refine ⟨11, ⟨[], ⟨0, 8, 11, 15⟩, [], rfl, (fun z hz => nomatch hz), by decide, by decide, by decide +kernel, by decide, rfl⟩, fun q9 => ?_⟩
      refine g_as_n (lv' := [(2, .ref q9), (0, .ref (γ.2.2 0)), (1, .ref (γ.2.2 10))]) dL_dropRule_11 (by decide) rfl ?_
      refine g_ic (v := nI 1) dL_dropRule_12 (by decide) ?_
      exact g_liret dL_dropRule_13 (⟨by rw [ha]; rfl, (fun q8 => by rw [ha] at q8; exact absurd q8 (by simp)), by rw [ha]; exact hG, FG.refl I, fun _ _ => rfl, rfl⟩)
    · subst eE
      exact absurd hb (by decide)
  · rintro r J L' ⟨hok, er, hG1, hF1, eL⟩
    rw [er, eL]
    have ha : (decide (0 < r9)) = true := ((Bool.and_eq_true _ _).mp hok).1
    refine g_i2l (v := (nI (r9 - 1)).toInt64) dL_dropRule_6 (rfl) ?_
    refine g_last 10 0 (by decide) (fun _ => rfl) (by decide) (by omega) dL_dropRule_7 ?_
    refine g_goto (tgt := 14) dL_dropRule_8 (by decide) ?_
    refine g_ic (v := nI 0) dL_dropRule_14 (by decide) ?_
    exact g_liret dL_dropRule_15 (⟨by rw [ha]; rfl, (fun _ => by rw [va_us, vl_us]), by rw [ha]; exact hG1, hF1, (fun k hk => va_up_ne _ _ hk), rfl⟩)

set_option maxRecDepth 100000 in
set_option maxHeartbeats 4000000 in
theorem c_L_say (l : Launch) (hl0 : l.stackTraces = false) (γ : Gm) (I : IT) (L : LT) (P : PT) (g : GR) (n r9 q : Nat) (u : Nat → Nat) (hG : GW I g n r9 q u) (v : Int32) : Li l yL_say wsL_say 2 γ [.ref (γ.2.2 0), .int v, .ref (γ.2.2 10)] I L P (fun r I' L' P' => r = nI (cd2 (inB v n) (decide (q < 6))) ∧ (((inB v n) && (decide (q < 6))) = true → L' 10 0 = (nI (q + 1)).toInt64) ∧ GW I' g n r9 (if ((inB v n) && (decide (q < 6))) = true then q + 1 else q) (if ((inB v n) && (decide (q < 6))) = true then ust u q (tn v) else u) ∧ FG I I' ∧ (∀ k, k ≠ 10 → L' k = L k) ∧ P' = P) := by
  refine Li_of (own := RL) (cc := cL_say) (maxL := 4) (by decide) rfl rfl (Nat.le_of_ble_eq_true rfl) ?_
  refine g_sub (lv' := [(0, .ref (γ.2.2 0)), (1, .int v), (2, .ref (γ.2.2 10))]) [0, 1, 2] rfl ?_
  refine g_al_n 2 dL_say_0 rfl ?_
  refine g_ic (v := nI 0) dL_say_1 (by decide) ?_
  refine g_al_n 0 dL_say_2 rfl ?_
  refine g_il_n 1 dL_say_3 rfl ?_
  refine g_xci (As := [.int v]) (st := [.int (nI 0), .ref (γ.2.2 10)]) (d := 1) (hh := [(0, 9, 12, 21), (0, 9, 15, 15)]) 0 (by decide) rfl rfl (c_X4_say l hl0 γ I L P g n r9 q u hG v) gL_say_X4_say rfl ⟨rfl, by decide, by decide, rfl⟩ ⟨Nat.le_of_ble_eq_true rfl, Nat.le_of_ble_eq_true rfl⟩ rfl (Nat.le_of_ble_eq_true rfl) dL_say_4 ⟨Nat.le_of_ble_eq_true rfl, Nat.le_of_ble_eq_true rfl⟩ ?_ ?_
  · rintro E I' L' ⟨hE, eI, eL⟩
    rw [eI, eL]
    rcases hE with ⟨eE, ha⟩ | ⟨eE, ha, hb⟩
    · subst eE
      refine ⟨12, ⟨[], ⟨0, 9, 12, 21⟩, [⟨0, 9, 15, 15⟩], rfl, (fun z hz => nomatch hz), by decide, by decide, by decide +kernel, by decide, rfl⟩, fun q9 => ?_⟩
      refine g_as_n (lv' := [(3, .ref q9), (0, .ref (γ.2.2 0)), (1, .int v), (2, .ref (γ.2.2 10))]) dL_say_12 (by decide) rfl ?_
      refine g_ic (v := nI 1) dL_say_13 (by decide) ?_
      exact g_liret dL_say_14 (⟨by rw [ha]; rfl, (fun q8 => by rw [ha] at q8; exact absurd q8 (by simp)), by rw [ha]; exact hG, FG.refl I, fun _ _ => rfl, rfl⟩)
    · subst eE
      refine ⟨15, ⟨[⟨0, 9, 12, 21⟩], ⟨0, 9, 15, 15⟩, [], rfl, (fun z hz => by cases List.mem_singleton.mp hz; exact ⟨by decide, "java/lang/IndexOutOfBoundsException", by decide +kernel, by decide⟩), by decide, by decide, by decide +kernel, by decide, rfl⟩, fun q9 => ?_⟩
      refine g_as_n (lv' := [(3, .ref q9), (0, .ref (γ.2.2 0)), (1, .int v), (2, .ref (γ.2.2 10))]) dL_say_15 (by decide) rfl ?_
      refine g_ic (v := nI 2) dL_say_16 (by decide) ?_
      exact g_liret dL_say_17 (⟨by rw [ha, hb]; rfl, (fun q8 => by rw [ha, hb] at q8; exact absurd q8 (by simp)), by rw [ha, hb]; exact hG, FG.refl I, fun _ _ => rfl, rfl⟩)
  · rintro r J L' ⟨hok, er, hG1, hF1, eL⟩
    rw [er, eL]
    obtain ⟨ha, hb⟩ := (Bool.and_eq_true _ _).mp hok
    refine g_i2l (v := (nI (q + 1)).toInt64) dL_say_7 (rfl) ?_
    refine g_last 10 0 (by decide) (fun _ => rfl) (by decide) (by omega) dL_say_8 ?_
    refine g_goto (tgt := 18) dL_say_9 (by decide) ?_
    refine g_ic (v := nI 0) dL_say_18 (by decide) ?_
    exact g_liret dL_say_19 (⟨by rw [ha, hb]; rfl, (fun _ => by rw [va_us, vl_us]), by rw [ha, hb]; exact hG1, hF1, (fun k hk => va_up_ne _ _ hk), rfl⟩)

set_option maxRecDepth 100000 in
set_option maxHeartbeats 4000000 in
theorem c_L_change (l : Launch) (hl0 : l.stackTraces = false) (γ : Gm) (I : IT) (L : LT) (P : PT) (g : GR) (n r9 q : Nat) (u : Nat → Nat) (hG : GW I g n r9 q u) (p v : Int32) : Li l yL_change wsL_change 2 γ [.ref (γ.2.2 0), .int p, .int v, .ref (γ.2.2 10)] I L P (fun r I' L' P' => r = nI (cd2 (inB p q && inB v n) (true)) ∧ (((inB p q && inB v n) && (true)) = true → L' 10 0 = (nI (u (tn p))).toInt64) ∧ GW I' g n r9 q (if ((inB p q && inB v n) && (true)) = true then ust u (tn p) (tn v) else u) ∧ FG I I' ∧ (∀ k, k ≠ 10 → L' k = L k) ∧ P' = P) := by
  refine Li_of (own := RL) (cc := cL_change) (maxL := 5) (by decide) rfl rfl (Nat.le_of_ble_eq_true rfl) ?_
  refine g_sub (lv' := [(0, .ref (γ.2.2 0)), (1, .int p), (2, .int v), (3, .ref (γ.2.2 10))]) [0, 1, 2, 3] rfl ?_
  refine g_al_n 3 dL_change_0 rfl ?_
  refine g_ic (v := nI 0) dL_change_1 (by decide) ?_
  refine g_al_n 0 dL_change_2 rfl ?_
  refine g_il_n 1 dL_change_3 rfl ?_
  refine g_il_n 2 dL_change_4 rfl ?_
  refine g_xci (As := [.int p, .int v]) (st := [.int (nI 0), .ref (γ.2.2 10)]) (d := 1) (hh := [(0, 10, 13, 21)]) 0 (by decide) rfl rfl (c_X4_change l hl0 γ I L P g n r9 q u hG p v) gL_change_X4_change rfl ⟨rfl, by decide, by decide, rfl⟩ ⟨Nat.le_of_ble_eq_true rfl, Nat.le_of_ble_eq_true rfl⟩ rfl (Nat.le_of_ble_eq_true rfl) dL_change_5 ⟨Nat.le_of_ble_eq_true rfl, Nat.le_of_ble_eq_true rfl⟩ ?_ ?_
  · rintro E I' L' ⟨hE, eI, eL⟩
    rw [eI, eL]
    rcases hE with ⟨eE, ha⟩ | ⟨eE, ha, hb⟩
    · subst eE
      refine ⟨13, ⟨[], ⟨0, 10, 13, 21⟩, [], rfl, (fun z hz => nomatch hz), by decide, by decide, by decide +kernel, by decide, rfl⟩, fun q9 => ?_⟩
      refine g_as (lv' := [(4, .ref q9), (0, .ref (γ.2.2 0)), (1, .int p), (2, .int v), (3, .ref (γ.2.2 10))]) dL_change_13 (by decide) rfl ?_
      refine g_ic (v := nI 1) dL_change_15 (by decide) ?_
      exact g_liret dL_change_16 (⟨by rw [ha]; rfl, (fun q8 => by rw [ha] at q8; exact absurd q8 (by simp)), by rw [ha]; exact hG, FG.refl I, fun _ _ => rfl, rfl⟩)
    · subst eE
      exact absurd hb (by decide)
  · rintro r J L' ⟨hok, er, hG1, hF1, eL⟩
    rw [er, eL]
    have ha : (inB p q && inB v n) = true := ((Bool.and_eq_true _ _).mp hok).1
    refine g_i2l (v := (nI (u (tn p))).toInt64) dL_change_8 (rfl) ?_
    refine g_last 10 0 (by decide) (fun _ => rfl) (by decide) (by omega) dL_change_9 ?_
    refine g_goto (tgt := 17) dL_change_10 (by decide) ?_
    refine g_ic (v := nI 0) dL_change_17 (by decide) ?_
    exact g_liret dL_change_18 (⟨by rw [ha]; rfl, (fun _ => by rw [va_us, vl_us]), by rw [ha]; exact hG1, hF1, (fun k hk => va_up_ne _ _ hk), rfl⟩)

set_option maxRecDepth 100000 in
set_option maxHeartbeats 4000000 in
theorem c_L_wordAt (l : Launch) (hl0 : l.stackTraces = false) (γ : Gm) (I : IT) (L : LT) (P : PT) (g : GR) (n r9 q : Nat) (u : Nat → Nat) (hG : GW I g n r9 q u) (p : Int32) : Li l yL_wordAt wsL_wordAt 2 γ [.ref (γ.2.2 0), .int p, .ref (γ.2.2 10)] I L P (fun r I' L' P' => r = nI (cd2 (inB p q) (true)) ∧ (((inB p q) && (true)) = true → L' 10 0 = (nI (u (tn p))).toInt64) ∧ GW I' g n r9 q u ∧ FG I I' ∧ (∀ k, k ≠ 10 → L' k = L k) ∧ P' = P) := by
  refine Li_of (own := RL) (cc := cL_wordAt) (maxL := 4) (by decide) rfl rfl (Nat.le_of_ble_eq_true rfl) ?_
  refine g_sub (lv' := [(0, .ref (γ.2.2 0)), (1, .int p), (2, .ref (γ.2.2 10))]) [0, 1, 2] rfl ?_
  refine g_al_n 2 dL_wordAt_0 rfl ?_
  refine g_ic (v := nI 0) dL_wordAt_1 (by decide) ?_
  refine g_al_n 0 dL_wordAt_2 rfl ?_
  refine g_il_n 1 dL_wordAt_3 rfl ?_
  refine g_xci (As := [.int p]) (st := [.int (nI 0), .ref (γ.2.2 10)]) (d := 1) (hh := [(0, 9, 12, 21)]) 0 (by decide) rfl rfl (c_X4_wordAt l hl0 γ I L P g n r9 q u hG p) gL_wordAt_X4_wordAt rfl ⟨rfl, by decide, by decide, rfl⟩ ⟨Nat.le_of_ble_eq_true rfl, Nat.le_of_ble_eq_true rfl⟩ rfl (Nat.le_of_ble_eq_true rfl) dL_wordAt_4 ⟨Nat.le_of_ble_eq_true rfl, Nat.le_of_ble_eq_true rfl⟩ ?_ ?_
  · rintro E I' L' ⟨hE, eI, eL⟩
    rw [eI, eL]
    rcases hE with ⟨eE, ha⟩ | ⟨eE, ha, hb⟩
    · subst eE
      refine ⟨12, ⟨[], ⟨0, 9, 12, 21⟩, [], rfl, (fun z hz => nomatch hz), by decide, by decide, by decide +kernel, by decide, rfl⟩, fun q9 => ?_⟩
      refine g_as_n (lv' := [(3, .ref q9), (0, .ref (γ.2.2 0)), (1, .int p), (2, .ref (γ.2.2 10))]) dL_wordAt_12 (by decide) rfl ?_
      refine g_ic (v := nI 1) dL_wordAt_13 (by decide) ?_
      exact g_liret dL_wordAt_14 (⟨by rw [ha]; rfl, (fun q8 => by rw [ha] at q8; exact absurd q8 (by simp)), hG, FG.refl I, fun _ _ => rfl, rfl⟩)
    · subst eE
      exact absurd hb (by decide)
  · rintro r J L' ⟨hok, er, hG1, hF1, eL⟩
    rw [er, eL]
    have ha : (inB p q) = true := hok
    refine g_i2l (v := (nI (u (tn p))).toInt64) dL_wordAt_7 (rfl) ?_
    refine g_last 10 0 (by decide) (fun _ => rfl) (by decide) (by omega) dL_wordAt_8 ?_
    refine g_goto (tgt := 15) dL_wordAt_9 (by decide) ?_
    refine g_ic (v := nI 0) dL_wordAt_15 (by decide) ?_
    exact g_liret dL_wordAt_16 (⟨by rw [ha]; rfl, (fun _ => by rw [va_us, vl_us]), hG1, hF1, (fun k hk => va_up_ne _ _ hk), rfl⟩)

set_option maxRecDepth 100000 in
set_option maxHeartbeats 4000000 in
theorem c_L_readingsOf (l : Launch) (hl0 : l.stackTraces = false) (γ : Gm) (I : IT) (L : LT) (P : PT) (g : GR) (n r9 q : Nat) (u : Nat → Nat) (hG : GW I g n r9 q u) (x y z : Int32) : Li l yL_readingsOf wsL_readingsOf 6 γ [.ref (γ.2.2 0), .int x, .int y, .int z, .ref (γ.2.2 10)] I L P (fun r I' L' P' => r = nI (cd2 (pB (∃ a b, SPN x y q a b) && inB z 8) (true)) ∧ (((pB (∃ a b, SPN x y q a b) && inB z 8) && (true)) = true → L' 10 0 = (nI (tld (sm (ct g r9 u (tn x) (tn y) (tn z)) 16))).toInt64) ∧ GW I' g n r9 q u ∧ FG I I' ∧ (∀ k, k ≠ 10 → L' k = L k) ∧ P' = P) := by
  refine Li_of (own := RL) (cc := cL_readingsOf) (maxL := 6) (by decide) rfl rfl (Nat.le_of_ble_eq_true rfl) ?_
  refine g_sub (lv' := [(0, .ref (γ.2.2 0)), (1, .int x), (2, .int y), (3, .int z), (4, .ref (γ.2.2 10))]) [0, 1, 2, 3, 4] rfl ?_
  refine g_al 4 dL_readingsOf_0 rfl ?_
  refine g_ic (v := nI 0) dL_readingsOf_2 (by decide) ?_
  refine g_al_n 0 dL_readingsOf_3 rfl ?_
  refine g_il_n 1 dL_readingsOf_4 rfl ?_
  refine g_il_n 2 dL_readingsOf_5 rfl ?_
  refine g_il_n 3 dL_readingsOf_6 rfl ?_
  refine g_xci (As := [.int x, .int y, .int z]) (st := [.int (nI 0), .ref (γ.2.2 10)]) (d := 5) (hh := [(0, 12, 15, 21)]) 0 (by decide) rfl rfl (c_X4_readingsOf l hl0 γ I L P g n r9 q u hG x y z) gL_readingsOf_X4_readingsOf rfl ⟨rfl, by decide, by decide, rfl⟩ ⟨Nat.le_of_ble_eq_true rfl, Nat.le_of_ble_eq_true rfl⟩ rfl (Nat.le_of_ble_eq_true rfl) dL_readingsOf_7 ⟨Nat.le_of_ble_eq_true rfl, Nat.le_of_ble_eq_true rfl⟩ ?_ ?_
  · rintro E I' L' ⟨hE, eI, eL⟩
    rw [eI, eL]
    rcases hE with ⟨eE, ha⟩ | ⟨eE, ha, hb⟩
    · subst eE
      refine ⟨15, ⟨[], ⟨0, 12, 15, 21⟩, [], rfl, (fun z hz => nomatch hz), by decide, by decide, by decide +kernel, by decide, rfl⟩, fun q9 => ?_⟩
      refine g_as (lv' := [(5, .ref q9), (0, .ref (γ.2.2 0)), (1, .int x), (2, .int y), (3, .int z), (4, .ref (γ.2.2 10))]) dL_readingsOf_15 (by decide) rfl ?_
      refine g_ic (v := nI 1) dL_readingsOf_17 (by decide) ?_
      exact g_liret dL_readingsOf_18 (⟨by rw [ha]; rfl, (fun q8 => by rw [ha] at q8; exact absurd q8 (by simp)), hG, FG.refl I, fun _ _ => rfl, rfl⟩)
    · subst eE
      exact absurd hb (by decide)
  · rintro r J L' ⟨hok, er, hG1, hF1, eL⟩
    rw [er, eL]
    have ha : (pB (∃ a b, SPN x y q a b) && inB z 8) = true := hok
    refine g_i2l (v := (nI (tld (sm (ct g r9 u (tn x) (tn y) (tn z)) 16))).toInt64) dL_readingsOf_10 (rfl) ?_
    refine g_last 10 0 (by decide) (fun _ => rfl) (by decide) (by omega) dL_readingsOf_11 ?_
    refine g_goto (tgt := 19) dL_readingsOf_12 (by decide) ?_
    refine g_ic (v := nI 0) dL_readingsOf_19 (by decide) ?_
    exact g_liret dL_readingsOf_20 (⟨by rw [ha]; rfl, (fun _ => by rw [va_us, vl_us]), hG1, hF1, (fun k hk => va_up_ne _ _ hk), rfl⟩)

set_option maxRecDepth 100000 in
set_option maxHeartbeats 4000000 in
theorem c_L_has (l : Launch) (hl0 : l.stackTraces = false) (γ : Gm) (I : IT) (L : LT) (P : PT) (g : GR) (n r9 q : Nat) (u : Nat → Nat) (hG : GW I g n r9 q u) (x y z v : Int32) : Li l yL_has wsL_has 6 γ [.ref (γ.2.2 0), .int x, .int y, .int z, .int v, .ref (γ.2.2 10)] I L P (fun r I' L' P' => r = nI (cd2 (pB (∃ a b, SPN x y q a b) && inB z 8) (pB (∃ m, DP v m))) ∧ (((pB (∃ a b, SPN x y q a b) && inB z 8) && (pB (∃ m, DP v m))) = true → L' 10 0 = (bi ((ch g r9 (lxw g u) (tn x) (tn y) (tn z)).testBit (4 * (tn v / 10) + tn v % 10))).toInt64) ∧ GW I' g n r9 q u ∧ FG I I' ∧ (∀ k, k ≠ 10 → L' k = L k) ∧ P' = P) := by
  refine Li_of (own := RL) (cc := cL_has) (maxL := 7) (by decide) rfl rfl (Nat.le_of_ble_eq_true rfl) ?_
  refine g_sub (lv' := [(0, .ref (γ.2.2 0)), (1, .int x), (2, .int y), (3, .int z), (4, .int v), (5, .ref (γ.2.2 10))]) [0, 1, 2, 3, 4, 5] rfl ?_
  refine g_al 5 dL_has_0 rfl ?_
  refine g_ic (v := nI 0) dL_has_2 (by decide) ?_
  refine g_al_n 0 dL_has_3 rfl ?_
  refine g_il_n 1 dL_has_4 rfl ?_
  refine g_il_n 2 dL_has_5 rfl ?_
  refine g_il_n 3 dL_has_6 rfl ?_
  refine g_il 4 dL_has_7 rfl ?_
  refine g_xci (As := [.int x, .int y, .int z, .int v]) (st := [.int (nI 0), .ref (γ.2.2 10)]) (d := 5) (hh := [(0, 21, 24, 21), (0, 21, 28, 13)]) 0 (by decide) rfl rfl (c_X4_has l hl0 γ I L P g n r9 q u hG x y z v) gL_has_X4_has rfl ⟨rfl, by decide, by decide, rfl⟩ ⟨Nat.le_of_ble_eq_true rfl, Nat.le_of_ble_eq_true rfl⟩ rfl (Nat.le_of_ble_eq_true rfl) dL_has_9 ⟨Nat.le_of_ble_eq_true rfl, Nat.le_of_ble_eq_true rfl⟩ ?_ ?_
  · rintro E I' L' ⟨hE, eI, eL⟩
    rw [eI, eL]
    rcases hE with ⟨eE, ha⟩ | ⟨eE, ha, hb⟩
    · subst eE
      refine ⟨24, ⟨[], ⟨0, 21, 24, 21⟩, [⟨0, 21, 28, 13⟩], rfl, (fun z hz => nomatch hz), by decide, by decide, by decide +kernel, by decide, rfl⟩, fun q9 => ?_⟩
      refine g_as (lv' := [(6, .ref q9), (0, .ref (γ.2.2 0)), (1, .int x), (2, .int y), (3, .int z), (4, .int v), (5, .ref (γ.2.2 10))]) dL_has_24 (by decide) rfl ?_
      refine g_ic (v := nI 1) dL_has_26 (by decide) ?_
      exact g_liret dL_has_27 (⟨by rw [ha]; rfl, (fun q8 => by rw [ha] at q8; exact absurd q8 (by simp)), hG, FG.refl I, fun _ _ => rfl, rfl⟩)
    · subst eE
      refine ⟨28, ⟨[⟨0, 21, 24, 21⟩], ⟨0, 21, 28, 13⟩, [], rfl, (fun z hz => by cases List.mem_singleton.mp hz; exact ⟨by decide, "java/lang/IndexOutOfBoundsException", by decide +kernel, by decide⟩), by decide, by decide, by decide +kernel, by decide, rfl⟩, fun q9 => ?_⟩
      refine g_as (lv' := [(6, .ref q9), (0, .ref (γ.2.2 0)), (1, .int x), (2, .int y), (3, .int z), (4, .int v), (5, .ref (γ.2.2 10))]) dL_has_28 (by decide) rfl ?_
      refine g_ic (v := nI 2) dL_has_30 (by decide) ?_
      exact g_liret dL_has_31 (⟨by rw [ha, hb]; rfl, (fun q8 => by rw [ha, hb] at q8; exact absurd q8 (by simp)), hG, FG.refl I, fun _ _ => rfl, rfl⟩)
  · rintro r J L' ⟨hok, er, hG1, hF1, eL⟩
    rw [er, eL]
    obtain ⟨ha, hb⟩ := (Bool.and_eq_true _ _).mp hok
    refine gb_eq (tgt := 19) dL_has_12 (by decide) (fun h5 => ?_) (fun h5 => ?_)
    · skip
      refine g_lc (v := lN 0) dL_has_19 rfl ?_
      refine g_last 10 0 (by decide) (fun _ => rfl) (by decide) (by omega) dL_has_20 ?_
      refine g_goto (tgt := 32) dL_has_21 (by decide) ?_
      refine g_ic (v := nI 0) dL_has_32 (by decide) ?_
      exact g_liret dL_has_33 (⟨by rw [ha, hb]; rfl, (fun _ => by rw [va_us, vl_us, h5]; rfl), hG1, hF1, (fun k hk => va_up_ne _ _ hk), rfl⟩)
    · skip
      refine g_lc (v := lN 1) dL_has_15 rfl ?_
      refine g_pc (pc' := 16) rfl ?_
      refine g_goto (tgt := 20) dL_has_16 (by decide) ?_
      refine g_last 10 0 (by decide) (fun _ => rfl) (by decide) (by omega) dL_has_20 ?_
      refine g_goto (tgt := 32) dL_has_21 (by decide) ?_
      refine g_ic (v := nI 0) dL_has_32 (by decide) ?_
      exact g_liret dL_has_33 (⟨by rw [ha, hb]; rfl, (fun _ => by rw [va_us, vl_us, h5]; rfl), hG1, hF1, (fun k hk => va_up_ne _ _ hk), rfl⟩)

set_option maxRecDepth 100000 in
set_option maxHeartbeats 4000000 in
theorem c_L_sentences (l : Launch) (hl0 : l.stackTraces = false) (γ : Gm) (I : IT) (L : LT) (P : PT) (g : GR) (n r9 q : Nat) (u : Nat → Nat) (hG : GW I g n r9 q u) (x : Int32) : Li l yL_sentences wsL_sentences 7 γ [.ref (γ.2.2 0), .int x, .ref (γ.2.2 10)] I L P (fun r I' L' P' => r = nI (cd2 (pB (∃ m, LEN x m)) (true)) ∧ (((pB (∃ m, LEN x m)) && (true)) = true → L' 10 0 = (nI (bc (fun j => isS g r9 (dig n (tn x) j) (tn x)) (n ^ tn x))).toInt64) ∧ GW I' g n r9 q u ∧ FG I I' ∧ (∀ k, k ≠ 10 → L' k = L k) ∧ P' = P) := by
  refine Li_of (own := RL) (cc := cL_sentences) (maxL := 4) (by decide) rfl rfl (Nat.le_of_ble_eq_true rfl) ?_
  refine g_sub (lv' := [(0, .ref (γ.2.2 0)), (1, .int x), (2, .ref (γ.2.2 10))]) [0, 1, 2] rfl ?_
  refine g_al_n 2 dL_sentences_0 rfl ?_
  refine g_ic (v := nI 0) dL_sentences_1 (by decide) ?_
  refine g_al_n 0 dL_sentences_2 rfl ?_
  refine g_il_n 1 dL_sentences_3 rfl ?_
  refine g_xci (As := [.int x]) (st := [.int (nI 0), .ref (γ.2.2 10)]) (d := 6) (hh := [(0, 9, 12, 13)]) 0 (by decide) rfl rfl (c_X4_sentences l hl0 γ I L P g n r9 q u hG x) gL_sentences_X4_sentences rfl ⟨rfl, by decide, by decide, rfl⟩ ⟨Nat.le_of_ble_eq_true rfl, Nat.le_of_ble_eq_true rfl⟩ rfl (Nat.le_of_ble_eq_true rfl) dL_sentences_4 ⟨Nat.le_of_ble_eq_true rfl, Nat.le_of_ble_eq_true rfl⟩ ?_ ?_
  · rintro E I' L' ⟨hE, eI, eL⟩
    rw [eI, eL]
    rcases hE with ⟨eE, ha⟩ | ⟨eE, ha, hb⟩
    · subst eE
      refine ⟨12, ⟨[], ⟨0, 9, 12, 13⟩, [], rfl, (fun z hz => nomatch hz), by decide, by decide, by decide +kernel, by decide, rfl⟩, fun q9 => ?_⟩
      refine g_as_n (lv' := [(3, .ref q9), (0, .ref (γ.2.2 0)), (1, .int x), (2, .ref (γ.2.2 10))]) dL_sentences_12 (by decide) rfl ?_
      refine g_ic (v := nI 1) dL_sentences_13 (by decide) ?_
      exact g_liret dL_sentences_14 (⟨by rw [ha]; rfl, (fun q8 => by rw [ha] at q8; exact absurd q8 (by simp)), hG, FG.refl I, fun _ _ => rfl, rfl⟩)
    · subst eE
      exact absurd hb (by decide)
  · rintro r J L' ⟨hok, er, hG1, hF1, eL⟩
    rw [er, eL]
    have ha : (pB (∃ m, LEN x m)) = true := hok
    refine g_i2l (v := (nI (bc (fun j => isS g r9 (dig n (tn x) j) (tn x)) (n ^ tn x))).toInt64) dL_sentences_7 (rfl) ?_
    refine g_last 10 0 (by decide) (fun _ => rfl) (by decide) (by omega) dL_sentences_8 ?_
    refine g_goto (tgt := 15) dL_sentences_9 (by decide) ?_
    refine g_ic (v := nI 0) dL_sentences_15 (by decide) ?_
    exact g_liret dL_sentences_16 (⟨by rw [ha]; rfl, (fun _ => by rw [va_us, vl_us]), hG1, hF1, (fun k hk => va_up_ne _ _ hk), rfl⟩)

set_option maxRecDepth 100000 in
set_option maxHeartbeats 4000000 in
theorem c_L_sentence (l : Launch) (hl0 : l.stackTraces = false) (γ : Gm) (I : IT) (L : LT) (P : PT) (g : GR) (n r9 q : Nat) (u : Nat → Nat) (hG : GW I g n r9 q u) (x y : Int32) : Li l yL_sentence wsL_sentence 7 γ [.ref (γ.2.2 0), .int x, .int y, .ref (γ.2.2 10)] I L P (fun r I' L' P' => r = nI (cd2 (pB (∃ m, LEN x m) && pB (¬ y < 0)) (true)) ∧ (((pB (∃ m, LEN x m) && pB (¬ y < 0)) && (true)) = true → L' 10 0 = ((match kfs (fun j => isS g r9 (dig n (tn x) j) (tn x)) (n ^ tn x) 0 (tn y) with | some j => nI (tdig (dig n (tn x) j) (tn x)) | none => -1)).toInt64) ∧ GW I' g n r9 q u ∧ FG I I' ∧ (∀ k, k ≠ 10 → L' k = L k) ∧ P' = P) := by
  refine Li_of (own := RL) (cc := cL_sentence) (maxL := 5) (by decide) rfl rfl (Nat.le_of_ble_eq_true rfl) ?_
  refine g_sub (lv' := [(0, .ref (γ.2.2 0)), (1, .int x), (2, .int y), (3, .ref (γ.2.2 10))]) [0, 1, 2, 3] rfl ?_
  refine g_al_n 3 dL_sentence_0 rfl ?_
  refine g_ic (v := nI 0) dL_sentence_1 (by decide) ?_
  refine g_al_n 0 dL_sentence_2 rfl ?_
  refine g_il_n 1 dL_sentence_3 rfl ?_
  refine g_il_n 2 dL_sentence_4 rfl ?_
  refine g_xci (As := [.int x, .int y]) (st := [.int (nI 0), .ref (γ.2.2 10)]) (d := 6) (hh := [(0, 10, 13, 13)]) 0 (by decide) rfl rfl (c_X4_sentence l hl0 γ I L P g n r9 q u hG x y) gL_sentence_X4_sentence rfl ⟨rfl, by decide, by decide, rfl⟩ ⟨Nat.le_of_ble_eq_true rfl, Nat.le_of_ble_eq_true rfl⟩ rfl (Nat.le_of_ble_eq_true rfl) dL_sentence_5 ⟨Nat.le_of_ble_eq_true rfl, Nat.le_of_ble_eq_true rfl⟩ ?_ ?_
  · rintro E I' L' ⟨hE, eI, eL⟩
    rw [eI, eL]
    rcases hE with ⟨eE, ha⟩ | ⟨eE, ha, hb⟩
    · subst eE
      refine ⟨13, ⟨[], ⟨0, 10, 13, 13⟩, [], rfl, (fun z hz => nomatch hz), by decide, by decide, by decide +kernel, by decide, rfl⟩, fun q9 => ?_⟩
      refine g_as (lv' := [(4, .ref q9), (0, .ref (γ.2.2 0)), (1, .int x), (2, .int y), (3, .ref (γ.2.2 10))]) dL_sentence_13 (by decide) rfl ?_
      refine g_ic (v := nI 1) dL_sentence_15 (by decide) ?_
      exact g_liret dL_sentence_16 (⟨by rw [ha]; rfl, (fun q8 => by rw [ha] at q8; exact absurd q8 (by simp)), hG, FG.refl I, fun _ _ => rfl, rfl⟩)
    · subst eE
      exact absurd hb (by decide)
  · rintro r J L' ⟨hok, er, hG1, hF1, eL⟩
    rw [er, eL]
    have ha : (pB (∃ m, LEN x m) && pB (¬ y < 0)) = true := hok
    refine g_i2l (v := ((match kfs (fun j => isS g r9 (dig n (tn x) j) (tn x)) (n ^ tn x) 0 (tn y) with | some j => nI (tdig (dig n (tn x) j) (tn x)) | none => -1)).toInt64) dL_sentence_8 (rfl) ?_
    refine g_last 10 0 (by decide) (fun _ => rfl) (by decide) (by omega) dL_sentence_9 ?_
    refine g_goto (tgt := 17) dL_sentence_10 (by decide) ?_
    refine g_ic (v := nI 0) dL_sentence_17 (by decide) ?_
    exact g_liret dL_sentence_18 (⟨by rw [ha]; rfl, (fun _ => by rw [va_us, vl_us]), hG1, hF1, (fun k hk => va_up_ne _ _ hk), rfl⟩)

set_option maxRecDepth 100000 in
set_option maxHeartbeats 4000000 in
theorem c_L_share (l : Launch) (hl0 : l.stackTraces = false) (γ : Gm) (I : IT) (L : LT) (P : PT) (g : GR) (n r9 q : Nat) (u : Nat → Nat) (hG : GW I g n r9 q u) (x : Int32) : Li l yL_share wsL_share 7 γ [.ref (γ.2.2 0), .int x, .ref (γ.2.2 11)] I L P (fun r I' L' P' => r = nI (cd2 (pB (∃ m, LEN x m)) (true)) ∧ (((pB (∃ m, LEN x m)) && (true)) = true → P' 0 = FP.f2d (shr g r9 n (tn x))) ∧ GW I' g n r9 q u ∧ FG I I' ∧ L' = L) := by
  refine Li_of (own := RL) (cc := cL_share) (maxL := 4) (by decide) rfl rfl (Nat.le_of_ble_eq_true rfl) ?_
  refine g_sub (lv' := [(0, .ref (γ.2.2 0)), (1, .int x), (2, .ref (γ.2.2 11))]) [0, 1, 2] rfl ?_
  refine g_al_n 2 dL_share_0 rfl ?_
  refine g_ic (v := nI 0) dL_share_1 (by decide) ?_
  refine g_al_n 0 dL_share_2 rfl ?_
  refine g_il_n 1 dL_share_3 rfl ?_
  refine g_xcf (As := [.int x]) (st := [.int (nI 0), .ref (γ.2.2 11)]) (d := 6) (hh := [(0, 9, 12, 13)]) 0 (by decide) rfl rfl (c_X4_share l hl0 γ I L P g n r9 q u hG x) gL_share_X4_share rfl ⟨rfl, by decide, by decide, rfl⟩ ⟨Nat.le_of_ble_eq_true rfl, Nat.le_of_ble_eq_true rfl⟩ rfl (Nat.le_of_ble_eq_true rfl) dL_share_4 ⟨Nat.le_of_ble_eq_true rfl, Nat.le_of_ble_eq_true rfl⟩ ?_ ?_
  · rintro E I' L' ⟨hE, eI, eL⟩
    rw [eI, eL]
    rcases hE with ⟨eE, ha⟩ | ⟨eE, ha, hb⟩
    · subst eE
      refine ⟨12, ⟨[], ⟨0, 9, 12, 13⟩, [], rfl, (fun z hz => nomatch hz), by decide, by decide, by decide +kernel, by decide, rfl⟩, fun q9 => ?_⟩
      refine g_as_n (lv' := [(3, .ref q9), (0, .ref (γ.2.2 0)), (1, .int x), (2, .ref (γ.2.2 11))]) dL_share_12 (by decide) rfl ?_
      refine g_ic (v := nI 1) dL_share_13 (by decide) ?_
      exact g_liret dL_share_14 (⟨by rw [ha]; rfl, (fun q8 => by rw [ha] at q8; exact absurd q8 (by simp)), hG, FG.refl I, rfl⟩)
    · subst eE
      exact absurd hb (by decide)
  · rintro r J L' ⟨hok, er, hG1, hF1, eL⟩
    rw [er, eL]
    have ha : (pB (∃ m, LEN x m)) = true := hok
    obtain ⟨ex, hs1, hs4⟩ := LEN_tn (pB_t.mp ha)
    have hnn := pow_le4 hG.1.n_le hs4
    refine g_f2d dL_share_7 (Jvm.Free.Fl.f2d_out (shr_n g (r := r9) hs1 (by omega))) ?_
    refine g_dast dL_share_8 ?_
    refine g_goto (tgt := 15) dL_share_9 (by decide) ?_
    refine g_ic (v := nI 0) dL_share_15 (by decide) ?_
    exact g_liret dL_share_16 (⟨by rw [ha]; rfl, (fun _ => if_pos rfl), hG1, hF1, rfl⟩)

set_option maxRecDepth 100000 in
set_option maxHeartbeats 4000000 in
theorem c_L_spoil (l : Launch) (hl0 : l.stackTraces = false) (γ : Gm) (I : IT) (L : LT) (P : PT) (g : GR) (n r9 q : Nat) (u : Nat → Nat) (hG : GW I g n r9 q u) (x : Int32) : Li l yL_spoil wsL_spoil 7 γ [.ref (γ.2.2 0), .int x, .ref (γ.2.2 10)] I L P (fun r I' L' P' => r = nI (cd2 (inB x q) (true)) ∧ (((inB x q) && (true)) = true → L' 10 0 = (spo g r9 u q n (tn x)).toInt64) ∧ GW I' g n r9 q u ∧ FG I I' ∧ (∀ k, k ≠ 10 → L' k = L k) ∧ P' = P) := by
  refine Li_of (own := RL) (cc := cL_spoil) (maxL := 4) (by decide) rfl rfl (Nat.le_of_ble_eq_true rfl) ?_
  refine g_sub (lv' := [(0, .ref (γ.2.2 0)), (1, .int x), (2, .ref (γ.2.2 10))]) [0, 1, 2] rfl ?_
  refine g_al_n 2 dL_spoil_0 rfl ?_
  refine g_ic (v := nI 0) dL_spoil_1 (by decide) ?_
  refine g_al_n 0 dL_spoil_2 rfl ?_
  refine g_il_n 1 dL_spoil_3 rfl ?_
  refine g_xci (As := [.int x]) (st := [.int (nI 0), .ref (γ.2.2 10)]) (d := 6) (hh := [(0, 9, 12, 21)]) 0 (by decide) rfl rfl (c_X4_spoil l hl0 γ I L P g n r9 q u hG x) gL_spoil_X4_spoil rfl ⟨rfl, by decide, by decide, rfl⟩ ⟨Nat.le_of_ble_eq_true rfl, Nat.le_of_ble_eq_true rfl⟩ rfl (Nat.le_of_ble_eq_true rfl) dL_spoil_4 ⟨Nat.le_of_ble_eq_true rfl, Nat.le_of_ble_eq_true rfl⟩ ?_ ?_
  · rintro E I' L' ⟨hE, eI, eL⟩
    rw [eI, eL]
    rcases hE with ⟨eE, ha⟩ | ⟨eE, ha, hb⟩
    · subst eE
      refine ⟨12, ⟨[], ⟨0, 9, 12, 21⟩, [], rfl, (fun z hz => nomatch hz), by decide, by decide, by decide +kernel, by decide, rfl⟩, fun q9 => ?_⟩
      refine g_as_n (lv' := [(3, .ref q9), (0, .ref (γ.2.2 0)), (1, .int x), (2, .ref (γ.2.2 10))]) dL_spoil_12 (by decide) rfl ?_
      refine g_ic (v := nI 1) dL_spoil_13 (by decide) ?_
      exact g_liret dL_spoil_14 (⟨by rw [ha]; rfl, (fun q8 => by rw [ha] at q8; exact absurd q8 (by simp)), hG, FG.refl I, fun _ _ => rfl, rfl⟩)
    · subst eE
      exact absurd hb (by decide)
  · rintro r J L' ⟨hok, er, hG1, hF1, eL⟩
    rw [er, eL]
    have ha : (inB x q) = true := hok
    refine g_i2l (v := (spo g r9 u q n (tn x)).toInt64) dL_spoil_7 (rfl) ?_
    refine g_last 10 0 (by decide) (fun _ => rfl) (by decide) (by omega) dL_spoil_8 ?_
    refine g_goto (tgt := 15) dL_spoil_9 (by decide) ?_
    refine g_ic (v := nI 0) dL_spoil_15 (by decide) ?_
    exact g_liret dL_spoil_16 (⟨by rw [ha]; rfl, (fun _ => by rw [va_us, vl_us]), hG1, hF1, (fun k hk => va_up_ne _ _ hk), rfl⟩)

set_option maxRecDepth 100000 in
set_option maxHeartbeats 4000000 in
theorem c_L_correction (l : Launch) (hl0 : l.stackTraces = false) (γ : Gm) (I : IT) (L : LT) (P : PT) (g : GR) (n r9 q : Nat) (u : Nat → Nat) (hG : GW I g n r9 q u) (x : Int32) : Li l yL_correction wsL_correction 7 γ [.ref (γ.2.2 0), .int x, .ref (γ.2.2 10)] I L P (fun r I' L' P' => r = nI (cd2 (pB (¬ x < 0)) (true)) ∧ (((pB (¬ x < 0)) && (true)) = true → L' 10 0 = (cor g r9 u q n (tn x)).toInt64) ∧ GW I' g n r9 q u ∧ FG I I' ∧ (∀ k, k ≠ 10 → L' k = L k) ∧ P' = P) := by
  refine Li_of (own := RL) (cc := cL_correction) (maxL := 4) (by decide) rfl rfl (Nat.le_of_ble_eq_true rfl) ?_
  refine g_sub (lv' := [(0, .ref (γ.2.2 0)), (1, .int x), (2, .ref (γ.2.2 10))]) [0, 1, 2] rfl ?_
  refine g_al_n 2 dL_correction_0 rfl ?_
  refine g_ic (v := nI 0) dL_correction_1 (by decide) ?_
  refine g_al_n 0 dL_correction_2 rfl ?_
  refine g_il_n 1 dL_correction_3 rfl ?_
  refine g_xci (As := [.int x]) (st := [.int (nI 0), .ref (γ.2.2 10)]) (d := 6) (hh := [(0, 9, 12, 21)]) 0 (by decide) rfl rfl (c_X4_correction l hl0 γ I L P g n r9 q u hG x) gL_correction_X4_correction rfl ⟨rfl, by decide, by decide, rfl⟩ ⟨Nat.le_of_ble_eq_true rfl, Nat.le_of_ble_eq_true rfl⟩ rfl (Nat.le_of_ble_eq_true rfl) dL_correction_4 ⟨Nat.le_of_ble_eq_true rfl, Nat.le_of_ble_eq_true rfl⟩ ?_ ?_
  · rintro E I' L' ⟨hE, eI, eL⟩
    rw [eI, eL]
    rcases hE with ⟨eE, ha⟩ | ⟨eE, ha, hb⟩
    · subst eE
      refine ⟨12, ⟨[], ⟨0, 9, 12, 21⟩, [], rfl, (fun z hz => nomatch hz), by decide, by decide, by decide +kernel, by decide, rfl⟩, fun q9 => ?_⟩
      refine g_as_n (lv' := [(3, .ref q9), (0, .ref (γ.2.2 0)), (1, .int x), (2, .ref (γ.2.2 10))]) dL_correction_12 (by decide) rfl ?_
      refine g_ic (v := nI 1) dL_correction_13 (by decide) ?_
      exact g_liret dL_correction_14 (⟨by rw [ha]; rfl, (fun q8 => by rw [ha] at q8; exact absurd q8 (by simp)), hG, FG.refl I, fun _ _ => rfl, rfl⟩)
    · subst eE
      exact absurd hb (by decide)
  · rintro r J L' ⟨hok, er, hG1, hF1, eL⟩
    rw [er, eL]
    have ha : (pB (¬ x < 0)) = true := hok
    refine g_i2l (v := (cor g r9 u q n (tn x)).toInt64) dL_correction_7 (rfl) ?_
    refine g_last 10 0 (by decide) (fun _ => rfl) (by decide) (by omega) dL_correction_8 ?_
    refine g_goto (tgt := 15) dL_correction_9 (by decide) ?_
    refine g_ic (v := nI 0) dL_correction_15 (by decide) ?_
    exact g_liret dL_correction_16 (⟨by rw [ha]; rfl, (fun _ => by rw [va_us, vl_us]), hG1, hF1, (fun k hk => va_up_ne _ _ hk), rfl⟩)
