/-! the law's wrappers, and its reading of the script -/
theorem inB_nI {a n : Nat} (h : a < n) (hn : n < 2 ^ 31) : inB (nI a) n = true := pB_of ⟨a, h, rfl⟩
def sen (g : GR) (r n m k : Nat) : Int32 := match kfs (fun j => isS g r (dig n m j) m) (n ^ m) 0 k with
  | some j => nI (tdig (dig n m j) m)
  | none => -1
theorem and_max (x : Int32) : ∃ y, y < 2 ^ 31 ∧ x &&& 2147483647 = nI y := by
  have h : x = nI x.toBitVec.toNat := by
    apply Int32.toBitVec_inj.mp
    simp [nI]
  refine ⟨x.toBitVec.toNat &&& 2147483647, Nat.lt_of_le_of_lt Nat.and_le_right (by decide), ?_⟩
  conv => lhs; rw [h, show (2147483647 : Int32) = nI 2147483647 from rfl]
  exact nI_and _ _

set_option maxRecDepth 100000 in
set_option maxHeartbeats 4000000 in
theorem c_L_word (l : Launch) (hl0 : l.stackTraces = false) (γ : Gm) (I : IT) (L : LT) (P : PT) (g : GR) (n r9 q : Nat) (u : Nat → Nat) (hG : GW I g n r9 q u) (a b c : Nat) (ha : a < 8) (hb : b < 4) (hc : c < 4) (hn : n < 9) : Lk 1 6 l yL_word wsL_word 2 γ [.ref (γ.2.2 0), .int (nI a), .int (nI b), .int (nI c)] I L P (fun r I' L' => r = nI n ∧ GW I' (gword g n a (b * 4 + c)) (n + 1) r9 q u ∧ L' = L) := by
  have hq6 := hG.2.2.1
  have hn9 := hG.1.n_le
  have hr8 := hG.1.r_le
  refine Lk_of (own := RL) (cc := cL_word) (maxL := 5) (by decide) rfl rfl (Nat.le_of_ble_eq_true rfl) ?_
  refine g_sub (lv' := [(0, .ref (γ.2.2 0)), (1, .int (nI a)), (2, .int (nI b)), (3, .int (nI c))]) [0, 1, 2, 3] rfl ?_
  refine g_al_n 0 dL_word_0 rfl ?_
  refine g_il_n 1 dL_word_1 rfl ?_
  refine g_il_n 2 dL_word_2 rfl ?_
  refine g_il_n 3 dL_word_3 rfl ?_
  refine g_xci (As := [.int (nI a), .int (nI b), .int (nI c)]) (st := []) (d := 1) (hh := [(0, 7, 8, 15), (0, 7, 13, 17)]) 0 (by decide) rfl rfl (c_X4_addWord l hl0 γ I L P g n r9 q u hG (nI a) (nI b) (nI c)) gL_word_X4_addWord rfl ⟨rfl, by decide, by decide, rfl⟩ ⟨Nat.le_of_ble_eq_true rfl, Nat.le_of_ble_eq_true rfl⟩ rfl (Nat.le_of_ble_eq_true rfl) dL_word_4 ⟨Nat.le_of_ble_eq_true rfl, Nat.le_of_ble_eq_true rfl⟩ ?_ ?_
  · rintro E I' L' ⟨hE, -, -⟩
    rcases hE with ⟨-, h⟩ | ⟨-, -, h⟩
    · exact Bool.noConfusion (h.symm.trans (by show (inB (nI a) 8 && inB (nI b) 4 && inB (nI c) 4) = true; rw [inB_nI ha (by decide), inB_nI hb (by decide), inB_nI hc (by decide)]; rfl))
    · exact Bool.noConfusion (h.symm.trans (decide_eq_true hn))
  · rintro r J L' ⟨hok, er, hG1, -, eL⟩
    rw [er, eL]
    rw [tn_nI (show a < 2 ^ 31 by omega), tn_nI (show b < 2 ^ 31 by omega), tn_nI (show c < 2 ^ 31 by omega)] at hG1
    exact g_liret dL_word_7 ⟨rfl, hG1, rfl⟩

set_option maxRecDepth 100000 in
set_option maxHeartbeats 4000000 in
theorem c_L_setWord (l : Launch) (hl0 : l.stackTraces = false) (γ : Gm) (I : IT) (L : LT) (P : PT) (g : GR) (n r9 q : Nat) (u : Nat → Nat) (hG : GW I g n r9 q u) (w a b c : Nat) (hw : w < n) (ha : a < 8) (hb : b < 4) (hc : c < 4) : Lk 1 6 l yL_setWord wsL_setWord 2 γ [.ref (γ.2.2 0), .int (nI w), .int (nI a), .int (nI b), .int (nI c)] I L P (fun r I' L' => r = nI (g 0 w) ∧ GW I' (gword g w a (b * 4 + c)) n r9 q u ∧ L' = L) := by
  have hq6 := hG.2.2.1
  have hn9 := hG.1.n_le
  have hr8 := hG.1.r_le
  refine Lk_of (own := RL) (cc := cL_setWord) (maxL := 6) (by decide) rfl rfl (Nat.le_of_ble_eq_true rfl) ?_
  refine g_sub (lv' := [(0, .ref (γ.2.2 0)), (1, .int (nI w)), (2, .int (nI a)), (3, .int (nI b)), (4, .int (nI c))]) [0, 1, 2, 3, 4] rfl ?_
  refine g_al_n 0 dL_setWord_0 rfl ?_
  refine g_il_n 1 dL_setWord_1 rfl ?_
  refine g_il_n 2 dL_setWord_2 rfl ?_
  refine g_il_n 3 dL_setWord_3 rfl ?_
  refine g_il 4 dL_setWord_4 rfl ?_
  refine g_xci (As := [.int (nI w), .int (nI a), .int (nI b), .int (nI c)]) (st := []) (d := 1) (hh := [(0, 9, 10, 23), (0, 9, 15, 15)]) 0 (by decide) rfl rfl (c_X4_setWord l hl0 γ I L P g n r9 q u hG (nI w) (nI a) (nI b) (nI c)) gL_setWord_X4_setWord rfl ⟨rfl, by decide, by decide, rfl⟩ ⟨Nat.le_of_ble_eq_true rfl, Nat.le_of_ble_eq_true rfl⟩ rfl (Nat.le_of_ble_eq_true rfl) dL_setWord_6 ⟨Nat.le_of_ble_eq_true rfl, Nat.le_of_ble_eq_true rfl⟩ ?_ ?_
  · rintro E I' L' ⟨hE, -, -⟩
    rcases hE with ⟨-, h⟩ | ⟨-, -, h⟩
    · exact Bool.noConfusion (h.symm.trans (inB_nI hw (by omega)))
    · exact Bool.noConfusion (h.symm.trans (by show (inB (nI a) 8 && inB (nI b) 4 && inB (nI c) 4) = true; rw [inB_nI ha (by decide), inB_nI hb (by decide), inB_nI hc (by decide)]; rfl))
  · rintro r J L' ⟨hok, er, hG1, -, eL⟩
    rw [er, eL]
    rw [tn_nI (show w < 2 ^ 31 by omega), tn_nI (show a < 2 ^ 31 by omega), tn_nI (show b < 2 ^ 31 by omega), tn_nI (show c < 2 ^ 31 by omega)] at hG1
    exact g_liret dL_setWord_9 ⟨by rw [tn_nI (show w < 2 ^ 31 by omega)], hG1, rfl⟩

set_option maxRecDepth 100000 in
set_option maxHeartbeats 4000000 in
theorem c_L_rule (l : Launch) (hl0 : l.stackTraces = false) (γ : Gm) (I : IT) (L : LT) (P : PT) (g : GR) (n r9 q : Nat) (u : Nat → Nat) (hG : GW I g n r9 q u) (a b c m : Nat) (ha : a < 8) (hb : b < 8) (hc : c < 8) (hm : m < 100) (hm1 : m / 10 ≤ 3) (hm2 : m % 10 ≤ 3) : Lk 1 6 l yL_rule wsL_rule 4 γ [.ref (γ.2.2 0), .int (nI a), .int (nI b), .int (nI c), .int (nI m)] I L P (fun r I' L' => r = (if r9 < 8 then nI r9 else -103) ∧ GW I' (if r9 < 8 then grule g r9 a b c m else g) n (if r9 < 8 then r9 + 1 else r9) q u ∧ L' = L) := by
  have hq6 := hG.2.2.1
  have hn9 := hG.1.n_le
  have hr8 := hG.1.r_le
  refine Lk_of (own := RL) (cc := cL_rule) (maxL := 6) (by decide) rfl rfl (Nat.le_of_ble_eq_true rfl) ?_
  refine g_sub (lv' := [(0, .ref (γ.2.2 0)), (1, .int (nI a)), (2, .int (nI b)), (3, .int (nI c)), (4, .int (nI m))]) [0, 1, 2, 3, 4] rfl ?_
  refine g_al_n 0 dL_rule_0 rfl ?_
  refine g_il_n 1 dL_rule_1 rfl ?_
  refine g_il_n 2 dL_rule_2 rfl ?_
  refine g_il_n 3 dL_rule_3 rfl ?_
  refine g_il 4 dL_rule_4 rfl ?_
  refine g_xci (As := [.int (nI a), .int (nI b), .int (nI c), .int (nI m)]) (st := []) (d := 3) (hh := [(0, 9, 10, 15), (0, 9, 15, 17)]) 0 (by decide) rfl rfl (c_X4_addRule l hl0 γ I L P g n r9 q u hG (nI a) (nI b) (nI c) (nI m)) gL_rule_X4_addRule rfl ⟨rfl, by decide, by decide, rfl⟩ ⟨Nat.le_of_ble_eq_true rfl, Nat.le_of_ble_eq_true rfl⟩ rfl (Nat.le_of_ble_eq_true rfl) dL_rule_6 ⟨Nat.le_of_ble_eq_true rfl, Nat.le_of_ble_eq_true rfl⟩ ?_ ?_
  · rintro E I' L' ⟨hE, eI, eL⟩
    rw [eI, eL]
    rcases hE with ⟨-, h⟩ | ⟨eE, -, h⟩
    · exact Bool.noConfusion (h.symm.trans (by rw [inB_nI ha (by decide), inB_nI hb (by decide), inB_nI hc (by decide), pB_of ⟨m, rfl, hm1, hm2⟩]))
    · subst eE
      have h8 : ¬ r9 < 8 := of_decide_eq_false h
      refine ⟨15, ⟨[⟨0, 9, 10, 15⟩], ⟨0, 9, 15, 17⟩, [], rfl, (fun z hz => by cases List.mem_singleton.mp hz; exact ⟨by decide, "java/lang/IllegalArgumentException", by decide +kernel, by decide⟩), by decide, by decide, by decide +kernel, by decide, rfl⟩, fun q9 => ?_⟩
      refine g_as (lv' := [(5, .ref q9), (0, .ref (γ.2.2 0)), (1, .int (nI a)), (2, .int (nI b)), (3, .int (nI c)), (4, .int (nI m))]) dL_rule_15 (by decide) rfl ?_
      refine g_bi (v := -103) dL_rule_17 (by decide) ?_
      exact g_liret dL_rule_19 ⟨by rw [if_neg h8], by rw [if_neg h8, if_neg h8]; exact hG, rfl⟩
  · rintro r J L' ⟨hok, er, hG1, -, eL⟩
    rw [er, eL]
    rw [tn_nI (show a < 2 ^ 31 by omega), tn_nI (show b < 2 ^ 31 by omega), tn_nI (show c < 2 ^ 31 by omega), tn_nI (show m < 2 ^ 31 by omega)] at hG1
    have h8 : r9 < 8 := of_decide_eq_true ((Bool.and_eq_true _ _).mp hok).2
    exact g_liret dL_rule_9 ⟨by rw [if_pos h8], by rw [if_pos h8, if_pos h8]; exact hG1, rfl⟩

set_option maxRecDepth 100000 in
set_option maxHeartbeats 4000000 in
theorem c_L_drop (l : Launch) (hl0 : l.stackTraces = false) (γ : Gm) (I : IT) (L : LT) (P : PT) (g : GR) (n r9 q : Nat) (u : Nat → Nat) (hG : GW I g n r9 q u) : Lk 1 6 l yL_drop wsL_drop 2 γ [.ref (γ.2.2 0)] I L P (fun r I' L' => r = (if 0 < r9 then nI (r9 - 1) else -103) ∧ GW I' g n (r9 - 1) q u ∧ L' = L) := by
  have hq6 := hG.2.2.1
  have hn9 := hG.1.n_le
  have hr8 := hG.1.r_le
  refine Lk_of (own := RL) (cc := cL_drop) (maxL := 2) (by decide) rfl rfl (Nat.le_of_ble_eq_true rfl) ?_
  refine g_sub (lv' := [(0, .ref (γ.2.2 0))]) [0] rfl ?_
  refine g_al_n 0 dL_drop_0 rfl ?_
  refine g_xci (As := []) (st := []) (d := 1) (hh := [(0, 4, 5, 17)]) 0 (by decide) rfl rfl (c_X4_dropRule l hl0 γ I L P g n r9 q u hG) gL_drop_X4_dropRule rfl ⟨rfl, by decide, by decide, rfl⟩ ⟨Nat.le_of_ble_eq_true rfl, Nat.le_of_ble_eq_true rfl⟩ rfl (Nat.le_of_ble_eq_true rfl) dL_drop_1 ⟨Nat.le_of_ble_eq_true rfl, Nat.le_of_ble_eq_true rfl⟩ ?_ ?_
  · rintro E I' L' ⟨hE, eI, eL⟩
    rw [eI, eL]
    rcases hE with ⟨eE, h⟩ | ⟨-, -, h⟩
    · subst eE
      have h8 : ¬ 0 < r9 := of_decide_eq_false h
      refine ⟨5, ⟨[], ⟨0, 4, 5, 17⟩, [], rfl, (fun z hz => nomatch hz), by decide, by decide, by decide +kernel, by decide, rfl⟩, fun q9 => ?_⟩
      refine g_as_n (lv' := [(1, .ref q9), (0, .ref (γ.2.2 0))]) dL_drop_5 (by decide) rfl ?_
      refine g_bi (v := -103) dL_drop_6 (by decide) ?_
      exact g_liret dL_drop_8 ⟨by rw [if_neg h8], by rw [show r9 - 1 = r9 by omega]; exact hG, rfl⟩
    · cases h
  · rintro r J L' ⟨hok, er, hG1, -, eL⟩
    rw [er, eL]
    have h8 : 0 < r9 := of_decide_eq_true ((Bool.and_eq_true _ _).mp hok).1
    exact g_liret dL_drop_4 ⟨by rw [if_pos h8], hG1, rfl⟩

set_option maxRecDepth 100000 in
set_option maxHeartbeats 4000000 in
theorem c_L_say (l : Launch) (hl0 : l.stackTraces = false) (γ : Gm) (I : IT) (L : LT) (P : PT) (g : GR) (n r9 q : Nat) (u : Nat → Nat) (hG : GW I g n r9 q u) (w : Nat) (hw : w < n) (hq : q < 6) : Lk 1 6 l yL_say wsL_say 2 γ [.ref (γ.2.2 0), .int (nI w)] I L P (fun r I' L' => r = nI (q + 1) ∧ GW I' g n r9 (q + 1) (ust u q w) ∧ L' = L) := by
  have hq6 := hG.2.2.1
  have hn9 := hG.1.n_le
  have hr8 := hG.1.r_le
  refine Lk_of (own := RL) (cc := cL_say) (maxL := 3) (by decide) rfl rfl (Nat.le_of_ble_eq_true rfl) ?_
  refine g_sub (lv' := [(0, .ref (γ.2.2 0)), (1, .int (nI w))]) [0, 1] rfl ?_
  refine g_al_n 0 dL_say_0 rfl ?_
  refine g_il_n 1 dL_say_1 rfl ?_
  refine g_xci (As := [.int (nI w)]) (st := []) (d := 1) (hh := [(0, 5, 6, 23), (0, 5, 10, 17)]) 0 (by decide) rfl rfl (c_X4_say l hl0 γ I L P g n r9 q u hG (nI w)) gL_say_X4_say rfl ⟨rfl, by decide, by decide, rfl⟩ ⟨Nat.le_of_ble_eq_true rfl, Nat.le_of_ble_eq_true rfl⟩ rfl (Nat.le_of_ble_eq_true rfl) dL_say_2 ⟨Nat.le_of_ble_eq_true rfl, Nat.le_of_ble_eq_true rfl⟩ ?_ ?_
  · rintro E I' L' ⟨hE, -, -⟩
    rcases hE with ⟨-, h⟩ | ⟨-, -, h⟩
    · exact Bool.noConfusion (h.symm.trans (inB_nI hw (by omega)))
    · exact Bool.noConfusion (h.symm.trans (decide_eq_true hq))
  · rintro r J L' ⟨hok, er, hG1, -, eL⟩
    rw [er, eL]
    rw [tn_nI (show w < 2 ^ 31 by omega)] at hG1
    exact g_liret dL_say_5 ⟨rfl, hG1, rfl⟩

set_option maxRecDepth 100000 in
set_option maxHeartbeats 4000000 in
theorem c_L_change (l : Launch) (hl0 : l.stackTraces = false) (γ : Gm) (I : IT) (L : LT) (P : PT) (g : GR) (n r9 q : Nat) (u : Nat → Nat) (hG : GW I g n r9 q u) (p w : Nat) (hp : p < q) (hw : w < n) : Lk 1 6 l yL_change wsL_change 2 γ [.ref (γ.2.2 0), .int (nI p), .int (nI w)] I L P (fun r I' L' => r = nI (u p) ∧ GW I' g n r9 q (ust u p w) ∧ L' = L) := by
  have hq6 := hG.2.2.1
  have hn9 := hG.1.n_le
  have hr8 := hG.1.r_le
  refine Lk_of (own := RL) (cc := cL_change) (maxL := 4) (by decide) rfl rfl (Nat.le_of_ble_eq_true rfl) ?_
  refine g_sub (lv' := [(0, .ref (γ.2.2 0)), (1, .int (nI p)), (2, .int (nI w))]) [0, 1, 2] rfl ?_
  refine g_al_n 0 dL_change_0 rfl ?_
  refine g_il_n 1 dL_change_1 rfl ?_
  refine g_il_n 2 dL_change_2 rfl ?_
  refine g_xci (As := [.int (nI p), .int (nI w)]) (st := []) (d := 1) (hh := [(0, 6, 7, 23)]) 0 (by decide) rfl rfl (c_X4_change l hl0 γ I L P g n r9 q u hG (nI p) (nI w)) gL_change_X4_change rfl ⟨rfl, by decide, by decide, rfl⟩ ⟨Nat.le_of_ble_eq_true rfl, Nat.le_of_ble_eq_true rfl⟩ rfl (Nat.le_of_ble_eq_true rfl) dL_change_3 ⟨Nat.le_of_ble_eq_true rfl, Nat.le_of_ble_eq_true rfl⟩ ?_ ?_
  · rintro E I' L' ⟨hE, -, -⟩
    rcases hE with ⟨-, h⟩ | ⟨-, -, h⟩
    · exact Bool.noConfusion (h.symm.trans (by rw [inB_nI hp (by omega), inB_nI hw (by omega)]))
    · exact Bool.noConfusion (h.symm.trans rfl)
  · rintro r J L' ⟨hok, er, hG1, -, eL⟩
    rw [er, eL]
    rw [tn_nI (show p < 2 ^ 31 by omega), tn_nI (show w < 2 ^ 31 by omega)] at hG1
    exact g_liret dL_change_6 ⟨by rw [tn_nI (show p < 2 ^ 31 by omega)], hG1, rfl⟩

set_option maxRecDepth 100000 in
set_option maxHeartbeats 4000000 in
theorem c_L_at (l : Launch) (hl0 : l.stackTraces = false) (γ : Gm) (I : IT) (L : LT) (P : PT) (g : GR) (n r9 q : Nat) (u : Nat → Nat) (hG : GW I g n r9 q u) (p : Nat) (hp : p < q) : Lk 1 6 l yL_at wsL_at 2 γ [.ref (γ.2.2 0), .int (nI p)] I L P (fun r I' L' => r = nI (u p) ∧ GW I' g n r9 q u ∧ L' = L) := by
  have hq6 := hG.2.2.1
  have hn9 := hG.1.n_le
  have hr8 := hG.1.r_le
  refine Lk_of (own := RL) (cc := cL_at) (maxL := 3) (by decide) rfl rfl (Nat.le_of_ble_eq_true rfl) ?_
  refine g_sub (lv' := [(0, .ref (γ.2.2 0)), (1, .int (nI p))]) [0, 1] rfl ?_
  refine g_al_n 0 dL_at_0 rfl ?_
  refine g_il_n 1 dL_at_1 rfl ?_
  refine g_xci (As := [.int (nI p)]) (st := []) (d := 1) (hh := [(0, 5, 6, 23)]) 0 (by decide) rfl rfl (c_X4_wordAt l hl0 γ I L P g n r9 q u hG (nI p)) gL_at_X4_wordAt rfl ⟨rfl, by decide, by decide, rfl⟩ ⟨Nat.le_of_ble_eq_true rfl, Nat.le_of_ble_eq_true rfl⟩ rfl (Nat.le_of_ble_eq_true rfl) dL_at_2 ⟨Nat.le_of_ble_eq_true rfl, Nat.le_of_ble_eq_true rfl⟩ ?_ ?_
  · rintro E I' L' ⟨hE, -, -⟩
    rcases hE with ⟨-, h⟩ | ⟨-, -, h⟩
    · exact Bool.noConfusion (h.symm.trans (inB_nI hp (by omega)))
    · exact Bool.noConfusion (h.symm.trans rfl)
  · rintro r J L' ⟨hok, er, hG1, -, eL⟩
    rw [er, eL]
    exact g_liret dL_at_5 ⟨by rw [tn_nI (show p < 2 ^ 31 by omega)], hG1, rfl⟩

set_option maxRecDepth 100000 in
set_option maxHeartbeats 4000000 in
theorem c_L_count (l : Launch) (hl0 : l.stackTraces = false) (γ : Gm) (I : IT) (L : LT) (P : PT) (g : GR) (n r9 q : Nat) (u : Nat → Nat) (hG : GW I g n r9 q u) (a b c : Nat) (hab : a < b) (hbq : b ≤ q) (hc : c < 8) : Lk 1 6 l yL_count wsL_count 6 γ [.ref (γ.2.2 0), .int (nI a), .int (nI b), .int (nI c)] I L P (fun r I' L' => r = nI (tld (sm (ct g r9 u a b c) 16)) ∧ GW I' g n r9 q u ∧ L' = L) := by
  have hq6 := hG.2.2.1
  have hn9 := hG.1.n_le
  have hr8 := hG.1.r_le
  refine Lk_of (own := RL) (cc := cL_count) (maxL := 5) (by decide) rfl rfl (Nat.le_of_ble_eq_true rfl) ?_
  refine g_sub (lv' := [(0, .ref (γ.2.2 0)), (1, .int (nI a)), (2, .int (nI b)), (3, .int (nI c))]) [0, 1, 2, 3] rfl ?_
  refine g_al_n 0 dL_count_0 rfl ?_
  refine g_il_n 1 dL_count_1 rfl ?_
  refine g_il_n 2 dL_count_2 rfl ?_
  refine g_il_n 3 dL_count_3 rfl ?_
  refine g_xci (As := [.int (nI a), .int (nI b), .int (nI c)]) (st := []) (d := 5) (hh := [(0, 7, 8, 23)]) 0 (by decide) rfl rfl (c_X4_readingsOf l hl0 γ I L P g n r9 q u hG (nI a) (nI b) (nI c)) gL_count_X4_readingsOf rfl ⟨rfl, by decide, by decide, rfl⟩ ⟨Nat.le_of_ble_eq_true rfl, Nat.le_of_ble_eq_true rfl⟩ rfl (Nat.le_of_ble_eq_true rfl) dL_count_4 ⟨Nat.le_of_ble_eq_true rfl, Nat.le_of_ble_eq_true rfl⟩ ?_ ?_
  · rintro E I' L' ⟨hE, -, -⟩
    rcases hE with ⟨-, h⟩ | ⟨-, -, h⟩
    · exact Bool.noConfusion (h.symm.trans (by rw [pB_of ⟨a, b, rfl, rfl, hab, hbq⟩, inB_nI hc (by decide)]))
    · exact Bool.noConfusion (h.symm.trans rfl)
  · rintro r J L' ⟨hok, er, hG1, -, eL⟩
    rw [er, eL]
    exact g_liret dL_count_7 ⟨by rw [tn_nI (show a < 2 ^ 31 by omega), tn_nI (show b < 2 ^ 31 by omega), tn_nI (show c < 2 ^ 31 by omega)], hG1, rfl⟩

set_option maxRecDepth 100000 in
set_option maxHeartbeats 4000000 in
theorem c_L_has (l : Launch) (hl0 : l.stackTraces = false) (γ : Gm) (I : IT) (L : LT) (P : PT) (g : GR) (n r9 q : Nat) (u : Nat → Nat) (hG : GW I g n r9 q u) (a b c v : Nat) (hab : a < b) (hbq : b ≤ q) (hc : c < 8) (hv : v < 100) (hv1 : v / 10 ≤ 3) (hv2 : v % 10 ≤ 3) : Lk 1 6 l yL_has wsL_has 6 γ [.ref (γ.2.2 0), .int (nI a), .int (nI b), .int (nI c), .int (nI v)] I L P (fun r I' L' => r = nI (bn (ch g r9 (lxw g u) a b c) (4 * (v / 10) + v % 10)) ∧ GW I' g n r9 q u ∧ L' = L) := by
  have hq6 := hG.2.2.1
  have hn9 := hG.1.n_le
  have hr8 := hG.1.r_le
  refine Lk_of (own := RL) (cc := cL_has) (maxL := 6) (by decide) rfl rfl (Nat.le_of_ble_eq_true rfl) ?_
  refine g_sub (lv' := [(0, .ref (γ.2.2 0)), (1, .int (nI a)), (2, .int (nI b)), (3, .int (nI c)), (4, .int (nI v))]) [0, 1, 2, 3, 4] rfl ?_
  refine g_al_n 0 dL_has_0 rfl ?_
  refine g_il_n 1 dL_has_1 rfl ?_
  refine g_il_n 2 dL_has_2 rfl ?_
  refine g_il_n 3 dL_has_3 rfl ?_
  refine g_il 4 dL_has_4 rfl ?_
  refine g_xci (As := [.int (nI a), .int (nI b), .int (nI c), .int (nI v)]) (st := []) (d := 5) (hh := [(0, 17, 18, 23), (0, 17, 23, 15)]) 0 (by decide) rfl rfl (c_X4_has l hl0 γ I L P g n r9 q u hG (nI a) (nI b) (nI c) (nI v)) gL_has_X4_has rfl ⟨rfl, by decide, by decide, rfl⟩ ⟨Nat.le_of_ble_eq_true rfl, Nat.le_of_ble_eq_true rfl⟩ rfl (Nat.le_of_ble_eq_true rfl) dL_has_6 ⟨Nat.le_of_ble_eq_true rfl, Nat.le_of_ble_eq_true rfl⟩ ?_ ?_
  · rintro E I' L' ⟨hE, -, -⟩
    rcases hE with ⟨-, h⟩ | ⟨-, -, h⟩
    · exact Bool.noConfusion (h.symm.trans (by rw [pB_of ⟨a, b, rfl, rfl, hab, hbq⟩, inB_nI hc (by decide)]))
    · exact Bool.noConfusion (h.symm.trans (pB_of ⟨v, rfl, hv1, hv2⟩))
  · rintro r J L' ⟨hok, er, hG1, -, eL⟩
    rw [er, eL]
    rw [tn_nI (show a < 2 ^ 31 by omega), tn_nI (show b < 2 ^ 31 by omega), tn_nI (show c < 2 ^ 31 by omega), tn_nI (show v < 2 ^ 31 by omega), bi_bn]
    have k17 : ∀ x, x = nI (bn (ch g r9 (lxw g u) a b c) (4 * (v / 10) + v % 10)) → G (E2 [(0, 17, 18, 23), (0, 17, 23, 15)]) l cL_has 6 wsL_has RL (some .int) (rmL 6 1 6) γ P (AE γ) (QLi γ P (fun r I' L' => r = nI (bn (ch g r9 (lxw g u) a b c) (4 * (v / 10) + v % 10)) ∧ GW I' g n r9 q u ∧ L' = L)) 1 6 17 [(0, .ref (γ.2.2 0)), (1, .int (nI a)), (2, .int (nI b)), (3, .int (nI c)), (4, .int (nI v))] [.int x] J L := fun x ex => g_liret dL_has_17 ⟨ex, hG1, rfl⟩
    have hb1 := bn_le (ch g r9 (lxw g u) a b c) (4 * (v / 10) + v % 10)
    refine gz_eq (tgt := 16) dL_has_9 (by decide) (by omega) (fun h => ?_) (fun h => ?_)
    · refine g_ic (v := nI 0) dL_has_16 (by decide) ?_
      exact k17 _ (by rw [h])
    · refine g_ic (v := nI 1) dL_has_12 (by decide) ?_
      refine g_goto (tgt := 17) dL_has_13 (by decide) ?_
      exact k17 _ (by rw [show bn (ch g r9 (lxw g u) a b c) (4 * (v / 10) + v % 10) = 1 by omega])

set_option maxRecDepth 100000 in
set_option maxHeartbeats 4000000 in
theorem c_L_sentences (l : Launch) (hl0 : l.stackTraces = false) (γ : Gm) (I : IT) (L : LT) (P : PT) (g : GR) (n r9 q : Nat) (u : Nat → Nat) (hG : GW I g n r9 q u) (m : Nat) (hm1 : 1 ≤ m) (hm4 : m ≤ 4) : Lk 1 6 l yL_sentences wsL_sentences 7 γ [.ref (γ.2.2 0), .int (nI m)] I L P (fun r I' L' => r = nI (bc (fun j => isS g r9 (dig n m j) m) (n ^ m)) ∧ GW I' g n r9 q u ∧ L' = L) := by
  have hq6 := hG.2.2.1
  have hn9 := hG.1.n_le
  have hr8 := hG.1.r_le
  refine Lk_of (own := RL) (cc := cL_sentences) (maxL := 3) (by decide) rfl rfl (Nat.le_of_ble_eq_true rfl) ?_
  refine g_sub (lv' := [(0, .ref (γ.2.2 0)), (1, .int (nI m))]) [0, 1] rfl ?_
  refine g_al_n 0 dL_sentences_0 rfl ?_
  refine g_il_n 1 dL_sentences_1 rfl ?_
  refine g_xci (As := [.int (nI m)]) (st := []) (d := 6) (hh := [(0, 5, 6, 15)]) 0 (by decide) rfl rfl (c_X4_sentences l hl0 γ I L P g n r9 q u hG (nI m)) gL_sentences_X4_sentences rfl ⟨rfl, by decide, by decide, rfl⟩ ⟨Nat.le_of_ble_eq_true rfl, Nat.le_of_ble_eq_true rfl⟩ rfl (Nat.le_of_ble_eq_true rfl) dL_sentences_2 ⟨Nat.le_of_ble_eq_true rfl, Nat.le_of_ble_eq_true rfl⟩ ?_ ?_
  · rintro E I' L' ⟨hE, -, -⟩
    rcases hE with ⟨-, h⟩ | ⟨-, -, h⟩
    · exact Bool.noConfusion (h.symm.trans (pB_of ⟨m, rfl, hm1, hm4⟩))
    · exact Bool.noConfusion (h.symm.trans rfl)
  · rintro r J L' ⟨hok, er, hG1, -, eL⟩
    rw [er, eL]
    exact g_liret dL_sentences_5 ⟨by rw [tn_nI (show m < 2 ^ 31 by omega)], hG1, rfl⟩

set_option maxRecDepth 100000 in
set_option maxHeartbeats 4000000 in
theorem c_L_sentence (l : Launch) (hl0 : l.stackTraces = false) (γ : Gm) (I : IT) (L : LT) (P : PT) (g : GR) (n r9 q : Nat) (u : Nat → Nat) (hG : GW I g n r9 q u) (m k : Nat) (hm1 : 1 ≤ m) (hm4 : m ≤ 4) (hk : k < 2 ^ 31) : Lk 1 6 l yL_sentence wsL_sentence 7 γ [.ref (γ.2.2 0), .int (nI m), .int (nI k)] I L P (fun r I' L' => r = sen g r9 n m k ∧ GW I' g n r9 q u ∧ L' = L) := by
  have hq6 := hG.2.2.1
  have hn9 := hG.1.n_le
  have hr8 := hG.1.r_le
  refine Lk_of (own := RL) (cc := cL_sentence) (maxL := 4) (by decide) rfl rfl (Nat.le_of_ble_eq_true rfl) ?_
  refine g_sub (lv' := [(0, .ref (γ.2.2 0)), (1, .int (nI m)), (2, .int (nI k))]) [0, 1, 2] rfl ?_
  refine g_al_n 0 dL_sentence_0 rfl ?_
  refine g_il_n 1 dL_sentence_1 rfl ?_
  refine g_il_n 2 dL_sentence_2 rfl ?_
  refine g_xci (As := [.int (nI m), .int (nI k)]) (st := []) (d := 6) (hh := [(0, 6, 7, 15)]) 0 (by decide) rfl rfl (c_X4_sentence l hl0 γ I L P g n r9 q u hG (nI m) (nI k)) gL_sentence_X4_sentence rfl ⟨rfl, by decide, by decide, rfl⟩ ⟨Nat.le_of_ble_eq_true rfl, Nat.le_of_ble_eq_true rfl⟩ rfl (Nat.le_of_ble_eq_true rfl) dL_sentence_3 ⟨Nat.le_of_ble_eq_true rfl, Nat.le_of_ble_eq_true rfl⟩ ?_ ?_
  · rintro E I' L' ⟨hE, -, -⟩
    rcases hE with ⟨-, h⟩ | ⟨-, -, h⟩
    · exact Bool.noConfusion (h.symm.trans (by rw [pB_of ⟨m, rfl, hm1, hm4⟩, pB_of (nI_pos hk)]))
    · exact Bool.noConfusion (h.symm.trans rfl)
  · rintro r J L' ⟨hok, er, hG1, -, eL⟩
    rw [er, eL]
    exact g_liret dL_sentence_6 ⟨by rw [tn_nI (show m < 2 ^ 31 by omega), tn_nI (show k < 2 ^ 31 by omega)]; rfl, hG1, rfl⟩

set_option maxRecDepth 100000 in
set_option maxHeartbeats 4000000 in
theorem c_L_share (l : Launch) (hl0 : l.stackTraces = false) (γ : Gm) (I : IT) (L : LT) (P : PT) (g : GR) (n r9 q : Nat) (u : Nat → Nat) (hG : GW I g n r9 q u) (m : Nat) (hm1 : 1 ≤ m) (hm4 : m ≤ 4) : Lf 1 6 l yL_share wsL_share 7 γ [.ref (γ.2.2 0), .int (nI m)] I L P (fun r I' L' => r = shr g r9 n m ∧ GW I' g n r9 q u ∧ L' = L) := by
  have hq6 := hG.2.2.1
  have hn9 := hG.1.n_le
  have hr8 := hG.1.r_le
  refine Lf_of (own := RL) (cc := cL_share) (maxL := 3) (by decide) rfl rfl (Nat.le_of_ble_eq_true rfl) ?_
  refine g_sub (lv' := [(0, .ref (γ.2.2 0)), (1, .int (nI m))]) [0, 1] rfl ?_
  refine g_al_n 0 dL_share_0 rfl ?_
  refine g_il_n 1 dL_share_1 rfl ?_
  refine g_xcf (As := [.int (nI m)]) (st := []) (d := 6) (hh := [(0, 5, 6, 15)]) 0 (by decide) rfl rfl (c_X4_share l hl0 γ I L P g n r9 q u hG (nI m)) gL_share_X4_share rfl ⟨rfl, by decide, by decide, rfl⟩ ⟨Nat.le_of_ble_eq_true rfl, Nat.le_of_ble_eq_true rfl⟩ rfl (Nat.le_of_ble_eq_true rfl) dL_share_2 ⟨Nat.le_of_ble_eq_true rfl, Nat.le_of_ble_eq_true rfl⟩ ?_ ?_
  · rintro E I' L' ⟨hE, -, -⟩
    rcases hE with ⟨-, h⟩ | ⟨-, -, h⟩
    · exact Bool.noConfusion (h.symm.trans (pB_of ⟨m, rfl, hm1, hm4⟩))
    · exact Bool.noConfusion (h.symm.trans rfl)
  · rintro r J L' ⟨hok, er, hG1, -, eL⟩
    rw [er, eL]
    exact g_lfret dL_share_5 ⟨by rw [tn_nI (show m < 2 ^ 31 by omega)], hG1, rfl⟩

set_option maxRecDepth 100000 in
set_option maxHeartbeats 4000000 in
theorem c_L_spoil (l : Launch) (hl0 : l.stackTraces = false) (γ : Gm) (I : IT) (L : LT) (P : PT) (g : GR) (n r9 q : Nat) (u : Nat → Nat) (hG : GW I g n r9 q u) (p : Nat) (hp : p < q) : Lk 1 6 l yL_spoil wsL_spoil 7 γ [.ref (γ.2.2 0), .int (nI p)] I L P (fun r I' L' => r = spo g r9 u q n p ∧ GW I' g n r9 q u ∧ L' = L) := by
  have hq6 := hG.2.2.1
  have hn9 := hG.1.n_le
  have hr8 := hG.1.r_le
  refine Lk_of (own := RL) (cc := cL_spoil) (maxL := 3) (by decide) rfl rfl (Nat.le_of_ble_eq_true rfl) ?_
  refine g_sub (lv' := [(0, .ref (γ.2.2 0)), (1, .int (nI p))]) [0, 1] rfl ?_
  refine g_al_n 0 dL_spoil_0 rfl ?_
  refine g_il_n 1 dL_spoil_1 rfl ?_
  refine g_xci (As := [.int (nI p)]) (st := []) (d := 6) (hh := [(0, 5, 6, 23)]) 0 (by decide) rfl rfl (c_X4_spoil l hl0 γ I L P g n r9 q u hG (nI p)) gL_spoil_X4_spoil rfl ⟨rfl, by decide, by decide, rfl⟩ ⟨Nat.le_of_ble_eq_true rfl, Nat.le_of_ble_eq_true rfl⟩ rfl (Nat.le_of_ble_eq_true rfl) dL_spoil_2 ⟨Nat.le_of_ble_eq_true rfl, Nat.le_of_ble_eq_true rfl⟩ ?_ ?_
  · rintro E I' L' ⟨hE, -, -⟩
    rcases hE with ⟨-, h⟩ | ⟨-, -, h⟩
    · exact Bool.noConfusion (h.symm.trans (inB_nI hp (by omega)))
    · exact Bool.noConfusion (h.symm.trans rfl)
  · rintro r J L' ⟨hok, er, hG1, -, eL⟩
    rw [er, eL]
    exact g_liret dL_spoil_5 ⟨by rw [tn_nI (show p < 2 ^ 31 by omega)], hG1, rfl⟩

set_option maxRecDepth 100000 in
set_option maxHeartbeats 4000000 in
theorem c_L_correction (l : Launch) (hl0 : l.stackTraces = false) (γ : Gm) (I : IT) (L : LT) (P : PT) (g : GR) (n r9 q : Nat) (u : Nat → Nat) (hG : GW I g n r9 q u) (k : Nat) (hk : k < 2 ^ 31) : Lk 1 6 l yL_correction wsL_correction 7 γ [.ref (γ.2.2 0), .int (nI k)] I L P (fun r I' L' => r = cor g r9 u q n k ∧ GW I' g n r9 q u ∧ L' = L) := by
  have hq6 := hG.2.2.1
  have hn9 := hG.1.n_le
  have hr8 := hG.1.r_le
  refine Lk_of (own := RL) (cc := cL_correction) (maxL := 3) (by decide) rfl rfl (Nat.le_of_ble_eq_true rfl) ?_
  refine g_sub (lv' := [(0, .ref (γ.2.2 0)), (1, .int (nI k))]) [0, 1] rfl ?_
  refine g_al_n 0 dL_correction_0 rfl ?_
  refine g_il_n 1 dL_correction_1 rfl ?_
  refine g_xci (As := [.int (nI k)]) (st := []) (d := 6) (hh := [(0, 5, 6, 23)]) 0 (by decide) rfl rfl (c_X4_correction l hl0 γ I L P g n r9 q u hG (nI k)) gL_correction_X4_correction rfl ⟨rfl, by decide, by decide, rfl⟩ ⟨Nat.le_of_ble_eq_true rfl, Nat.le_of_ble_eq_true rfl⟩ rfl (Nat.le_of_ble_eq_true rfl) dL_correction_2 ⟨Nat.le_of_ble_eq_true rfl, Nat.le_of_ble_eq_true rfl⟩ ?_ ?_
  · rintro E I' L' ⟨hE, -, -⟩
    rcases hE with ⟨-, h⟩ | ⟨-, -, h⟩
    · exact Bool.noConfusion (h.symm.trans (pB_of (nI_pos hk)))
    · exact Bool.noConfusion (h.symm.trans rfl)
  · rintro r J L' ⟨hok, er, hG1, -, eL⟩
    rw [er, eL]
    exact g_liret dL_correction_5 ⟨by rw [tn_nI (show k < 2 ^ 31 by omega)], hG1, rfl⟩

set_option maxRecDepth 100000 in
theorem c_L_cell (l : Launch) (γ : Gm) (I : IT) (L : LT) (P : PT) (g : GR) (n r9 q : Nat) (u : Nat → Nat) (hG : GW I g n r9 q u) (b Ln : Nat) (xs : Nat → Int32) (hLn : Ln ≤ 260) (k : Nat) (hk : k < 30) : Lx l yL_cell wsL_cell 0 γ b Ln xs [.ref b, .int (nI k)] I L P (fun r I' L' => (∃ y, y < 2 ^ 31 ∧ r = nI y) ∧ GW I' g n r9 q u ∧ L' = L) := by
  refine Lx_of (own := RL) (cc := cL_cell) (maxL := 2) (by decide) rfl rfl (Nat.le_of_ble_eq_true rfl) ?_
  refine g_sub (lv' := [(0, .ref b), (1, .int (nI k))]) [0, 1] rfl ?_
  have k24 : ∀ x : Int32, G (EXc γ b Ln xs) l cL_cell 2 wsL_cell RL (some .int) (rmL 0 0 0) γ P (AE γ) (QKi 0 0 γ P (fun r I' L' => (∃ y, y < 2 ^ 31 ∧ r = nI y) ∧ GW I' g n r9 q u ∧ L' = L)) 0 0 24 [(0, .ref b), (1, .int (nI k))] [.int x] I L := by
    intro x
    obtain ⟨y, hy, ey⟩ := and_max x
    refine g_ldc (v := 2147483647) (by decide +kernel) dL_cell_24 ?_
    refine g_iand (v := nI y) dL_cell_26 ey ?_
    exact g_kiret (Nat.le_refl _) (Nat.le_refl _) dL_cell_27 ⟨⟨y, hy, rfl⟩, hG, rfl⟩
  refine g_il_n 1 dL_cell_0 rfl ?_
  refine g_al_n 0 dL_cell_1 rfl ?_
  refine g_slen dL_cell_2 ?_
  refine gn_ge (tgt := 12) dL_cell_3 (by decide) (by omega) (by omega) (fun h => ?_) (fun h => ?_)
  · refine g_ldc (v := 33013) (by decide +kernel) dL_cell_12 ?_
    refine g_il_n 1 dL_cell_14 rfl ?_
    refine g_si (v := 8009) dL_cell_15 (by decide) ?_
    refine g_irem (v := nI k - nI k / 8009 * 8009) dL_cell_18 (by decide) rfl ?_
    refine g_imul (v := 33013 * (nI k - nI k / 8009 * 8009)) dL_cell_19 rfl ?_
    refine g_si (v := 3571) dL_cell_20 (by decide) ?_
    refine g_iadd (v := 33013 * (nI k - nI k / 8009 * 8009) + 3571) dL_cell_23 rfl ?_
    exact k24 _
  · refine g_al_n 0 dL_cell_6 rfl ?_
    refine g_il_n 1 dL_cell_7 rfl ?_
    refine g_sld k h (by omega) dL_cell_8 ?_
    refine g_goto (tgt := 24) dL_cell_9 (by decide) ?_
    exact k24 _
