/-! the model: calls that change words, rules, the row -/
theorem FQ.fm {I I' : IT} (h : FQ I I') : FM I I' := fun k hk => h.1 k (fun e => hk (Or.inl e)) (fun e => hk (Or.inr ⟨by omega, by omega⟩)) (fun e => hk (Or.inr ⟨by omega, by omega⟩))
theorem MI_no {k : Nat} (h : ¬ MI k) : k ≠ 8 ∧ (k < 20 ∨ 29 ≤ k) := by
  unfold MI at h
  omega
theorem FM.up {I J : IT} (h : FM I J) {k : Nat} (hk : MI k) (F : Nat → Int32) : FM I (va_up J k F) := fun j hj => by
  rw [va_up_ne _ _ (fun e => hj (by rw [e]; exact hk))]
  exact h j hj
theorem MI_8 : MI 8 := Or.inl rfl
theorem MI_r {k : Nat} (h : 20 ≤ k) (h2 : k < 29) : MI k := Or.inr ⟨h, h2⟩

theorem in_X5_addWord_5 : ∀ w ∈ wsX50, w ∈ wsX5_addWord := by decide +kernel
set_option maxRecDepth 100000 in
set_option maxHeartbeats 4000000 in
theorem c_X5_addWord (l : Launch) (γ : Gm) (I : IT) (L : LT) (P : PT) (g : GR) (n r9 q : Nat) (u : Nat → Nat) (hM : MR I g n r9 q u) (x y z : Int32) : Ci l yX5_addWord wsX5_addWord 2 γ [.ref (γ.2.2 8), .int x, .int y, .int z] I L P (fun r I' L' => ((((inB x 8 && inB y 4 && inB z 4) && decide (n < 9)) = true) → r = nI n) ∧ I' 8 4 = nI (cd2 (inB x 8 && inB y 4 && inB z 4) (decide (n < 9))) ∧ MR I' (if ((inB x 8 && inB y 4 && inB z 4) && decide (n < 9)) then gword g n (tn x) (tn y * 4 + tn z) else g) (if ((inB x 8 && inB y 4 && inB z 4) && decide (n < 9)) then n + 1 else n) r9 q u ∧ FM I I' ∧ L' = L) := by
  refine Ci_of (own := RX5) (cc := cX5_addWord) (maxL := 4) (by decide) rfl rfl (Nat.le_of_ble_eq_true rfl) ?_
  refine g_sub (lv' := [(0, .ref (γ.2.2 8)), (1, .int x), (2, .int y), (3, .int z)]) [0, 1, 2, 3] rfl ?_
  have hn9 := hM.1.n_le
  refine g_al_n 0 dX5_addWord_0 rfl ?_
  refine g_il_n 1 dX5_addWord_1 rfl ?_
  refine g_il_n 2 dX5_addWord_2 rfl ?_
  refine g_il_n 3 dX5_addWord_3 rfl ?_
  refine g_ci0 (v := bi (inB x 8 && inB y 4 && inB z 4)) (r_S (st := [.ref (γ.2.2 8)]) (As := [.int x, .int y, .int z]) (d := 1) (c_X5_areValues l γ I L P x y z) gX5_addWord_X5_areValues rfl ⟨by decide, by decide, rfl⟩ ⟨Nat.le_of_ble_eq_true rfl, Nat.le_of_ble_eq_true rfl⟩ rfl (Nat.le_of_ble_eq_true rfl) dX5_addWord_4 ⟨Nat.zero_le _, Nat.zero_le _⟩) ?_
  refine g_al_n 0 dX5_addWord_7 rfl ?_
  refine g_get 8 2 (by decide) rfl in_X5_addWord_5 rfl (by decide) (by decide +kernel) rfl rfl dX5_addWord_8 ?_
  refine g_top (v := nI n) (hM.1.cn) ?_
  refine g_pc (pc' := 11) rfl ?_
  refine g_bi (v := nI 9) dX5_addWord_11 (by decide) ?_
  refine gn_ge (tgt := 20) dX5_addWord_13 (by decide) (by omega) (by omega) (fun h0 => ?_) (fun h0 => ?_)
  · skip
    refine g_ic (v := bi false) dX5_addWord_20 (by decide) ?_
    refine g_ci (r_V (st := []) (As := [.int (bi (inB x 8 && inB y 4 && inB z 4)), .int (bi false)]) (d := 0) 8 (by decide) rfl rfl (c_X5_goes l γ I L P (inB x 8 && inB y 4 && inB z 4) (false)) gX5_addWord_X5_goes rfl ⟨rfl, by decide, by decide, rfl⟩ ⟨Nat.le_of_ble_eq_true rfl, Nat.le_of_ble_eq_true rfl⟩ rfl (Nat.le_of_ble_eq_true rfl) dX5_addWord_21 ⟨Nat.zero_le _, Nat.zero_le _⟩) ?_
    rintro rz2 J Lz2 ⟨ez2, hJ4, hJ8, hJk, eLz2⟩
    subst ez2
    rw [eLz2]
    have hJQ : FQ I J := ⟨fun k h _ _ => hJk k h, fun j hj => hJ8 j (by omega)⟩
    have hJM := hJQ.mr hM
    have hJF := hJQ.fm
    refine gb_ne (tgt := 29) dX5_addWord_24 (by decide) (fun h1 => ?_) (fun h1 => ?_)
    · skip
      exact absurd h1 (by simp)
    · skip
      have hd : decide (n < 9) = false := decide_eq_false (by omega)
      refine g_ic (v := nI 0) dX5_addWord_27 (by decide) ?_
      exact g_iret dX5_addWord_28 (⟨fun q9 => by rw [hd, Bool.and_false] at q9; exact absurd q9 (by simp), by rw [hd]; exact hJ4, by rw [hd, Bool.and_false]; exact hJM, hJF, rfl⟩)
  · skip
    refine g_ic (v := bi true) dX5_addWord_16 (by decide) ?_
    refine g_pc (pc' := 17) rfl ?_
    refine g_goto (tgt := 21) dX5_addWord_17 (by decide) ?_
    refine g_ci (r_V (st := []) (As := [.int (bi (inB x 8 && inB y 4 && inB z 4)), .int (bi true)]) (d := 0) 8 (by decide) rfl rfl (c_X5_goes l γ I L P (inB x 8 && inB y 4 && inB z 4) (true)) gX5_addWord_X5_goes rfl ⟨rfl, by decide, by decide, rfl⟩ ⟨Nat.le_of_ble_eq_true rfl, Nat.le_of_ble_eq_true rfl⟩ rfl (Nat.le_of_ble_eq_true rfl) dX5_addWord_21 ⟨Nat.zero_le _, Nat.zero_le _⟩) ?_
    rintro rz3 J Lz3 ⟨ez3, hJ4, hJ8, hJk, eLz3⟩
    subst ez3
    rw [eLz3]
    have hJQ : FQ I J := ⟨fun k h _ _ => hJk k h, fun j hj => hJ8 j (by omega)⟩
    have hJM := hJQ.mr hM
    have hJF := hJQ.fm
    refine gb_ne (tgt := 29) dX5_addWord_24 (by decide) (fun h1 => ?_) (fun h1 => ?_)
    · skip
      have hd : decide (n < 9) = true := decide_eq_true h0
      have hok : (inB x 8 && inB y 4 && inB z 4) = true := by rw [← h1, Bool.and_true]
      have hP1 := (Bool.and_eq_true _ _).mp hok
      have hP2 := (Bool.and_eq_true _ _).mp hP1.1
      obtain ⟨ex, hx8⟩ := inB_tn (by decide) hP2.1
      obtain ⟨ey, hy4⟩ := inB_tn (by decide) hP2.2
      obtain ⟨ez, hz4⟩ := inB_tn (by decide) hP1.2
      refine g_lv (lv' := [(0, .ref (γ.2.2 8)), (1, .int (nI (tn x))), (2, .int (nI (tn y))), (3, .int (nI (tn z)))]) (by rw [← ex, ← ey, ← ez]) ?_
      refine g_al_n 0 dX5_addWord_29 rfl ?_
      refine g_get (v := .ref (γ.2.2 20)) 8 0 (by decide) rfl in_X5_addWord_5 rfl (by decide) (by decide +kernel) rfl rfl dX5_addWord_30 ?_
      refine g_al_n 0 dX5_addWord_33 rfl ?_
      refine g_get 8 2 (by decide) rfl in_X5_addWord_5 rfl (by decide) (by decide +kernel) rfl rfl dX5_addWord_34 ?_
      refine g_top (v := nI n) (hJM.1.cn) ?_
      refine g_il_n 1 dX5_addWord_37 rfl ?_
      refine g_pc (pc' := 38) rfl ?_
      refine g_iast 20 n (by decide) (by decide) (show _ < 9 by omega) dX5_addWord_38 ?_
      refine g_eq (I' := va_up J 20 (upd (J 20) n (nI (tn x)))) (rfl) rfl ?_
      refine g_al_n 0 dX5_addWord_39 rfl ?_
      refine g_get (v := .ref (γ.2.2 21)) 8 1 (by decide) rfl in_X5_addWord_5 rfl (by decide) (by decide +kernel) rfl rfl dX5_addWord_40 ?_
      refine g_al_n 0 dX5_addWord_43 rfl ?_
      refine g_get 8 2 (by decide) rfl in_X5_addWord_5 rfl (by decide) (by decide +kernel) rfl rfl dX5_addWord_44 ?_
      refine g_top (v := nI n) (hJM.1.cn) ?_
      refine g_ic (v := nI 4) dX5_addWord_47 (by decide) ?_
      refine g_il_n 2 dX5_addWord_48 rfl ?_
      refine g_imul (v := nI (4 * (tn y))) dX5_addWord_49 (pk_mul _ _) ?_
      refine g_pc (pc' := 50) rfl ?_
      refine g_il_n 3 dX5_addWord_50 rfl ?_
      refine g_iadd (v := nI (tn y * 4 + tn z)) dX5_addWord_51 (by rw [nI_add, Nat.mul_comm]) ?_
      refine g_iast 21 n (by decide) (by decide) (show _ < 9 by omega) dX5_addWord_52 ?_
      refine g_eq (I' := va_up (va_up J 20 (upd (J 20) n (nI (tn x)))) 21 (upd (J 21) n (nI (tn y * 4 + tn z)))) (rfl) rfl ?_
      refine g_al_n 0 dX5_addWord_53 rfl ?_
      refine g_dup dX5_addWord_54 rfl ?_
      refine g_get 8 2 (by decide) rfl in_X5_addWord_5 rfl (by decide) (by decide +kernel) rfl rfl dX5_addWord_55 ?_
      refine g_top (v := nI n) (hJM.1.cn) ?_
      refine g_ic (v := nI 1) dX5_addWord_58 (by decide) ?_
      refine g_iadd (v := nI (n + 1)) dX5_addWord_59 (nI_add _ _) ?_
      refine g_pc (pc' := 60) rfl ?_
      refine g_put tyX5 8 2 (upd ((va_up (va_up J 20 (upd (J 20) n (nI (tn x)))) 21 (upd (J 21) n (nI (tn y * 4 + tn z)))) 8) 0 (nI (n + 1))) (by decide) rfl in_X5_addWord_5 tyX5_ok nmX5 rfl (by decide) (by decide +kernel) rfl rfl rfl rfl rfl (Nat.le_of_ble_eq_true rfl) dX5_addWord_60 rfl ?_
      refine g_eq (I' := va_up (va_up (va_up J 20 (upd (J 20) n (nI (tn x)))) 21 (upd (J 21) n (nI (tn y * 4 + tn z)))) 8 (upd (J 8) 0 (nI (n + 1)))) (rfl) rfl ?_
      refine g_al_n 0 dX5_addWord_63 rfl ?_
      refine g_get 8 2 (by decide) rfl in_X5_addWord_5 rfl (by decide) (by decide +kernel) rfl rfl dX5_addWord_64 ?_
      refine g_top (v := nI (n + 1)) (by rw [va_us, upd_s]) ?_
      refine g_ic (v := nI 1) dX5_addWord_67 (by decide) ?_
      refine g_isub (v := nI (n + 1 - 1)) dX5_addWord_68 (pk_sub (by omega)) ?_
      exact g_iret dX5_addWord_69 (⟨fun _ => rfl, by rw [hok, hd, va_us, upd_n _ _ (by decide)]; rw [hok] at hJ4; exact hJ4, by rw [hok, hd]; exact hJM.word (m := n + 1) h0 (by omega) (by omega) (fun j h5 h6 => by omega) hx8 (by omega) (by rw [va_us, upd_s]) (by rw [va_us, upd_n _ _ (by decide)]) (by rw [va_us, upd_n _ _ (by decide)]) rfl rfl (fun k h5 h6 => by rw [va_up_ne _ _ (by omega), va_up_ne _ _ (by omega), va_up_ne _ _ (by omega)]), ((hJF.up (MI_r (by decide) (by decide)) _).up (MI_r (by decide) (by decide)) _).up MI_8 _, rfl⟩)
    · skip
      have hd : decide (n < 9) = true := decide_eq_true h0
      have hok : (inB x 8 && inB y 4 && inB z 4) = false := by rw [← h1, Bool.and_true]
      refine g_ic (v := nI 0) dX5_addWord_27 (by decide) ?_
      exact g_iret dX5_addWord_28 (⟨fun q9 => by rw [hok] at q9; exact absurd q9 (by simp), by rw [hd]; exact hJ4, by rw [hok]; exact hJM, hJF, rfl⟩)

theorem in_X5_setWord_5 : ∀ w ∈ wsX50, w ∈ wsX5_setWord := by decide +kernel
set_option maxRecDepth 100000 in
set_option maxHeartbeats 4000000 in
theorem c_X5_setWord (l : Launch) (γ : Gm) (I : IT) (L : LT) (P : PT) (g : GR) (n r9 q : Nat) (u : Nat → Nat) (hM : MR I g n r9 q u) (v x y z : Int32) : Ci l yX5_setWord wsX5_setWord 2 γ [.ref (γ.2.2 8), .int v, .int x, .int y, .int z] I L P (fun r I' L' => ((((inB v n) && (inB x 8 && inB y 4 && inB z 4)) = true) → r = nI (g 0 (tn v))) ∧ I' 8 4 = nI (cd2 (inB v n) ((inB x 8 && inB y 4 && inB z 4))) ∧ MR I' (if ((inB v n) && (inB x 8 && inB y 4 && inB z 4)) then gword g (tn v) (tn x) (tn y * 4 + tn z) else g) n r9 q u ∧ FM I I' ∧ L' = L) := by
  refine Ci_of (own := RX5) (cc := cX5_setWord) (maxL := 6) (by decide) rfl rfl (Nat.le_of_ble_eq_true rfl) ?_
  refine g_sub (lv' := [(0, .ref (γ.2.2 8)), (1, .int v), (2, .int x), (3, .int y), (4, .int z)]) [0, 1, 2, 3, 4] rfl ?_
  have hn9 := hM.1.n_le
  refine g_al_n 0 dX5_setWord_0 rfl ?_
  refine g_al_n 0 dX5_setWord_1 rfl ?_
  refine g_il_n 1 dX5_setWord_2 rfl ?_
  refine g_ci0 (v := bi (inB v n)) (r_V (st := [.ref (γ.2.2 8)]) (As := [.int v]) (d := 0) 8 (by decide) rfl rfl (c_X5_isWord l γ I L P v n hM.1.cn (by omega)) gX5_setWord_X5_isWord rfl ⟨rfl, by decide, by decide, rfl⟩ ⟨Nat.le_of_ble_eq_true rfl, Nat.le_of_ble_eq_true rfl⟩ rfl (Nat.le_of_ble_eq_true rfl) dX5_setWord_3 ⟨Nat.zero_le _, Nat.zero_le _⟩) ?_
  refine g_il_n 2 dX5_setWord_6 rfl ?_
  refine g_il_n 3 dX5_setWord_7 rfl ?_
  refine g_il 4 dX5_setWord_8 rfl ?_
  refine g_pc (pc' := 10) rfl ?_
  refine g_ci0 (v := bi (inB x 8 && inB y 4 && inB z 4)) (r_S (st := [.int (bi (inB v n)), .ref (γ.2.2 8)]) (As := [.int x, .int y, .int z]) (d := 1) (c_X5_areValues l γ I L P x y z) gX5_setWord_X5_areValues rfl ⟨by decide, by decide, rfl⟩ ⟨Nat.le_of_ble_eq_true rfl, Nat.le_of_ble_eq_true rfl⟩ rfl (Nat.le_of_ble_eq_true rfl) dX5_setWord_10 ⟨Nat.zero_le _, Nat.zero_le _⟩) ?_
  refine g_ci (r_V (st := []) (As := [.int (bi (inB v n)), .int (bi (inB x 8 && inB y 4 && inB z 4))]) (d := 0) 8 (by decide) rfl rfl (c_X5_goes l γ I L P (inB v n) (inB x 8 && inB y 4 && inB z 4)) gX5_setWord_X5_goes rfl ⟨rfl, by decide, by decide, rfl⟩ ⟨Nat.le_of_ble_eq_true rfl, Nat.le_of_ble_eq_true rfl⟩ rfl (Nat.le_of_ble_eq_true rfl) dX5_setWord_13 ⟨Nat.zero_le _, Nat.zero_le _⟩) ?_
  rintro rz3 J Lz3 ⟨ez3, hJ4, hJ8, hJk, eLz3⟩
  subst ez3
  rw [eLz3]
  have hJQ : FQ I J := ⟨fun k h _ _ => hJk k h, fun j hj => hJ8 j (by omega)⟩
  have hJM := hJQ.mr hM
  have hJF := hJQ.fm
  refine gb_ne (tgt := 21) dX5_setWord_16 (by decide) (fun h1 => ?_) (fun h1 => ?_)
  · skip
    have hP0 := (Bool.and_eq_true _ _).mp h1
    have hok := hP0.2
    obtain ⟨ev, hvn⟩ := inB_tn (by omega) hP0.1
    have hP1 := (Bool.and_eq_true _ _).mp hok
    have hP2 := (Bool.and_eq_true _ _).mp hP1.1
    obtain ⟨ex, hx8⟩ := inB_tn (by decide) hP2.1
    obtain ⟨ey, hy4⟩ := inB_tn (by decide) hP2.2
    obtain ⟨ez, hz4⟩ := inB_tn (by decide) hP1.2
    refine g_lv (lv' := [(0, .ref (γ.2.2 8)), (1, .int (nI (tn v))), (2, .int (nI (tn x))), (3, .int (nI (tn y))), (4, .int (nI (tn z)))]) (by rw [← ev, ← ex, ← ey, ← ez]) ?_
    refine g_al_n 0 dX5_setWord_21 rfl ?_
    refine g_get (v := .ref (γ.2.2 20)) 8 0 (by decide) rfl in_X5_setWord_5 rfl (by decide) (by decide +kernel) rfl rfl dX5_setWord_22 ?_
    refine g_il_n 1 dX5_setWord_25 rfl ?_
    refine g_iald (v := nI (g 0 (tn v))) 20 (tn v) (by decide) (by decide) (show _ < 9 by omega) (hJM.1.cat hvn) dX5_setWord_26 ?_
    refine g_is (lv' := [(5, .int (nI (g 0 (tn v)))), (0, .ref (γ.2.2 8)), (1, .int (nI (tn v))), (2, .int (nI (tn x))), (3, .int (nI (tn y))), (4, .int (nI (tn z)))]) dX5_setWord_27 (by decide) rfl ?_
    refine g_pc (pc' := 29) rfl ?_
    refine g_al_n 1 dX5_setWord_29 rfl ?_
    refine g_get (v := .ref (γ.2.2 20)) 8 0 (by decide) rfl in_X5_setWord_5 rfl (by decide) (by decide +kernel) rfl rfl dX5_setWord_30 ?_
    refine g_il_n 2 dX5_setWord_33 rfl ?_
    refine g_il_n 3 dX5_setWord_34 rfl ?_
    refine g_iast 20 (tn v) (by decide) (by decide) (show _ < 9 by omega) dX5_setWord_35 ?_
    refine g_eq (I' := va_up J 20 (upd (J 20) (tn v) (nI (tn x)))) (rfl) rfl ?_
    refine g_al_n 1 dX5_setWord_36 rfl ?_
    refine g_get (v := .ref (γ.2.2 21)) 8 1 (by decide) rfl in_X5_setWord_5 rfl (by decide) (by decide +kernel) rfl rfl dX5_setWord_37 ?_
    refine g_il_n 2 dX5_setWord_40 rfl ?_
    refine g_pc (pc' := 41) rfl ?_
    refine g_ic (v := nI 4) dX5_setWord_41 (by decide) ?_
    refine g_il_n 4 dX5_setWord_42 rfl ?_
    refine g_imul (v := nI (4 * (tn y))) dX5_setWord_43 (pk_mul _ _) ?_
    refine g_il 5 dX5_setWord_44 rfl ?_
    refine g_iadd (v := nI (tn y * 4 + tn z)) dX5_setWord_46 (by rw [nI_add, Nat.mul_comm]) ?_
    refine g_iast 21 (tn v) (by decide) (by decide) (show _ < 9 by omega) dX5_setWord_47 ?_
    refine g_eq (I' := va_up (va_up J 20 (upd (J 20) (tn v) (nI (tn x)))) 21 (upd (J 21) (tn v) (nI (tn y * 4 + tn z)))) (rfl) rfl ?_
    refine g_il 0 dX5_setWord_48 rfl ?_
    exact g_iret dX5_setWord_50 (⟨fun _ => rfl, hJ4, by rw [h1]; exact hJM.word (m := n) hn9 (Nat.le_refl _) hvn (fun j h5 h6 => h5) hx8 (by omega) hJM.1.cn rfl rfl rfl rfl (fun k h5 h6 => by rw [va_up_ne _ _ (by omega), va_up_ne _ _ (by omega)]), (hJF.up (MI_r (by decide) (by decide)) _).up (MI_r (by decide) (by decide)) _, rfl⟩)
  · skip
    refine g_pc (pc' := 19) rfl ?_
    refine g_ic (v := nI 0) dX5_setWord_19 (by decide) ?_
    exact g_iret dX5_setWord_20 (⟨fun q9 => by rw [h1] at q9; exact absurd q9 (by simp), hJ4, by rw [h1]; exact hJM, hJF, rfl⟩)

theorem in_X5_addRule_5 : ∀ w ∈ wsX50, w ∈ wsX5_addRule := by decide +kernel
set_option maxRecDepth 100000 in
set_option maxHeartbeats 4000000 in
theorem c_X5_addRule (l : Launch) (γ : Gm) (I : IT) (L : LT) (P : PT) (g : GR) (n r9 q : Nat) (u : Nat → Nat) (hM : MR I g n r9 q u) (x y z m9 : Int32) : Ci l yX5_addRule wsX5_addRule 2 γ [.ref (γ.2.2 8), .int x, .int y, .int z, .int m9] I L P (fun r I' L' => ((((inB x 8 && inB y 8 && inB z 8 && pB (∃ m, DP m9 m)) && decide (r9 < 8)) = true) → r = nI r9) ∧ I' 8 4 = nI (cd2 (inB x 8 && inB y 8 && inB z 8 && pB (∃ m, DP m9 m)) (decide (r9 < 8))) ∧ MR I' (if ((inB x 8 && inB y 8 && inB z 8 && pB (∃ m, DP m9 m)) && decide (r9 < 8)) then grule g r9 (tn x) (tn y) (tn z) (tn m9) else g) n (if ((inB x 8 && inB y 8 && inB z 8 && pB (∃ m, DP m9 m)) && decide (r9 < 8)) then r9 + 1 else r9) q u ∧ FM I I' ∧ L' = L) := by
  refine Ci_of (own := RX5) (cc := cX5_addRule) (maxL := 6) (by decide) rfl rfl (Nat.le_of_ble_eq_true rfl) ?_
  refine g_sub (lv' := [(0, .ref (γ.2.2 8)), (1, .int x), (2, .int y), (3, .int z), (4, .int m9)]) [0, 1, 2, 3, 4] rfl ?_
  have hr8 := hM.1.r_le
  refine g_il_n 1 dX5_addRule_0 rfl ?_
  refine g_ic (v := nI 0) dX5_addRule_1 (by decide) ?_
  refine g_bi (v := nI 7) dX5_addRule_2 (by decide) ?_
  refine g_ci0 (v := bi (inB x (7 + 1))) (r_S (st := []) (As := [.int x, .int (nI 0), .int (nI 7)]) (d := 0) (c_X5_isWithin l γ I L P x 7 (by decide)) gX5_addRule_X5_isWithin rfl ⟨by decide, by decide, rfl⟩ ⟨Nat.le_of_ble_eq_true rfl, Nat.le_of_ble_eq_true rfl⟩ rfl (Nat.le_of_ble_eq_true rfl) dX5_addRule_4 ⟨Nat.zero_le _, Nat.zero_le _⟩) ?_
  refine gb_eq (tgt := 42) dX5_addRule_7 (by decide) (fun h1 => ?_) (fun h1 => ?_)
  · skip
    have hok : (inB x 8 && inB y 8 && inB z 8 && pB (∃ m, DP m9 m)) = false := by revert h1; cases inB x 8 <;> cases inB y 8 <;> cases inB z 8 <;> cases pB (∃ m, DP m9 m) <;> decide
    refine g_ic (v := bi false) dX5_addRule_42 (by decide) ?_
    refine g_is (lv' := [(5, .int (bi false)), (0, .ref (γ.2.2 8)), (1, .int x), (2, .int y), (3, .int z), (4, .int m9)]) dX5_addRule_43 (by decide) rfl ?_
    refine g_pc (pc' := 45) rfl ?_
    refine g_al_n 1 dX5_addRule_45 rfl ?_
    refine g_il 0 dX5_addRule_46 rfl ?_
    refine g_al_n 1 dX5_addRule_48 rfl ?_
    refine g_get 8 7 (by decide) rfl in_X5_addRule_5 rfl (by decide) (by decide +kernel) rfl rfl dX5_addRule_49 ?_
    refine g_top (v := nI r9) (hM.1.cr) ?_
    refine g_bi (v := nI 8) dX5_addRule_52 (by decide) ?_
    refine gn_ge (tgt := 61) dX5_addRule_54 (by decide) (by omega) (by omega) (fun h0 => ?_) (fun h0 => ?_)
    · skip
      refine g_ic (v := bi false) dX5_addRule_61 (by decide) ?_
      refine g_ci (r_V (st := []) (As := [.int (bi false), .int (bi false)]) (d := 0) 8 (by decide) rfl rfl (c_X5_goes l γ I L P (false) (false)) gX5_addRule_X5_goes rfl ⟨rfl, by decide, by decide, rfl⟩ ⟨Nat.le_of_ble_eq_true rfl, Nat.le_of_ble_eq_true rfl⟩ rfl (Nat.le_of_ble_eq_true rfl) dX5_addRule_62 ⟨Nat.zero_le _, Nat.zero_le _⟩) ?_
      rintro rz2 J Lz2 ⟨ez2, hJ4, hJ8, hJk, eLz2⟩
      subst ez2
      rw [eLz2]
      have hJQ : FQ I J := ⟨fun k h _ _ => hJk k h, fun j hj => hJ8 j (by omega)⟩
      have hJM := hJQ.mr hM
      have hJF := hJQ.fm
      refine g_pc (pc' := 65) rfl ?_
      refine gb_ne (tgt := 70) dX5_addRule_65 (by decide) (fun h9 => ?_) (fun h9 => ?_)
      · skip
        exact absurd h9 (by simp)
      · skip
        refine g_ic (v := nI 0) dX5_addRule_68 (by decide) ?_
        exact g_iret dX5_addRule_69 (⟨fun q9 => by rw [hok] at q9; exact absurd q9 (by simp), by rw [hok]; exact hJ4, by rw [hok]; exact hJM, hJF, rfl⟩)
    · skip
      refine g_ic (v := bi true) dX5_addRule_57 (by decide) ?_
      refine g_goto (tgt := 62) dX5_addRule_58 (by decide) ?_
      refine g_ci (r_V (st := []) (As := [.int (bi false), .int (bi true)]) (d := 0) 8 (by decide) rfl rfl (c_X5_goes l γ I L P (false) (true)) gX5_addRule_X5_goes rfl ⟨rfl, by decide, by decide, rfl⟩ ⟨Nat.le_of_ble_eq_true rfl, Nat.le_of_ble_eq_true rfl⟩ rfl (Nat.le_of_ble_eq_true rfl) dX5_addRule_62 ⟨Nat.zero_le _, Nat.zero_le _⟩) ?_
      rintro rz3 J Lz3 ⟨ez3, hJ4, hJ8, hJk, eLz3⟩
      subst ez3
      rw [eLz3]
      have hJQ : FQ I J := ⟨fun k h _ _ => hJk k h, fun j hj => hJ8 j (by omega)⟩
      have hJM := hJQ.mr hM
      have hJF := hJQ.fm
      refine gb_ne (tgt := 70) dX5_addRule_65 (by decide) (fun h9 => ?_) (fun h9 => ?_)
      · skip
        exact absurd h9 (by simp)
      · skip
        refine g_ic (v := nI 0) dX5_addRule_68 (by decide) ?_
        refine g_pc (pc' := 69) rfl ?_
        exact g_iret dX5_addRule_69 (⟨fun q9 => by rw [hok] at q9; exact absurd q9 (by simp), by rw [hok]; exact hJ4, by rw [hok]; exact hJM, hJF, rfl⟩)
  · skip
    refine g_il_n 2 dX5_addRule_10 rfl ?_
    refine g_ic (v := nI 0) dX5_addRule_11 (by decide) ?_
    refine g_bi (v := nI 7) dX5_addRule_12 (by decide) ?_
    refine g_ci0 (v := bi (inB y (7 + 1))) (r_S (st := []) (As := [.int y, .int (nI 0), .int (nI 7)]) (d := 0) (c_X5_isWithin l γ I L P y 7 (by decide)) gX5_addRule_X5_isWithin rfl ⟨by decide, by decide, rfl⟩ ⟨Nat.le_of_ble_eq_true rfl, Nat.le_of_ble_eq_true rfl⟩ rfl (Nat.le_of_ble_eq_true rfl) dX5_addRule_14 ⟨Nat.zero_le _, Nat.zero_le _⟩) ?_
    refine gb_eq (tgt := 42) dX5_addRule_17 (by decide) (fun h2 => ?_) (fun h2 => ?_)
    · skip
      have hok : (inB x 8 && inB y 8 && inB z 8 && pB (∃ m, DP m9 m)) = false := by revert h2; cases inB x 8 <;> cases inB y 8 <;> cases inB z 8 <;> cases pB (∃ m, DP m9 m) <;> decide
      refine g_ic (v := bi false) dX5_addRule_42 (by decide) ?_
      refine g_is (lv' := [(5, .int (bi false)), (0, .ref (γ.2.2 8)), (1, .int x), (2, .int y), (3, .int z), (4, .int m9)]) dX5_addRule_43 (by decide) rfl ?_
      refine g_pc (pc' := 45) rfl ?_
      refine g_al_n 1 dX5_addRule_45 rfl ?_
      refine g_il 0 dX5_addRule_46 rfl ?_
      refine g_al_n 1 dX5_addRule_48 rfl ?_
      refine g_get 8 7 (by decide) rfl in_X5_addRule_5 rfl (by decide) (by decide +kernel) rfl rfl dX5_addRule_49 ?_
      refine g_top (v := nI r9) (hM.1.cr) ?_
      refine g_bi (v := nI 8) dX5_addRule_52 (by decide) ?_
      refine gn_ge (tgt := 61) dX5_addRule_54 (by decide) (by omega) (by omega) (fun h0 => ?_) (fun h0 => ?_)
      · skip
        refine g_ic (v := bi false) dX5_addRule_61 (by decide) ?_
        refine g_ci (r_V (st := []) (As := [.int (bi false), .int (bi false)]) (d := 0) 8 (by decide) rfl rfl (c_X5_goes l γ I L P (false) (false)) gX5_addRule_X5_goes rfl ⟨rfl, by decide, by decide, rfl⟩ ⟨Nat.le_of_ble_eq_true rfl, Nat.le_of_ble_eq_true rfl⟩ rfl (Nat.le_of_ble_eq_true rfl) dX5_addRule_62 ⟨Nat.zero_le _, Nat.zero_le _⟩) ?_
        rintro rz5 J Lz5 ⟨ez5, hJ4, hJ8, hJk, eLz5⟩
        subst ez5
        rw [eLz5]
        have hJQ : FQ I J := ⟨fun k h _ _ => hJk k h, fun j hj => hJ8 j (by omega)⟩
        have hJM := hJQ.mr hM
        have hJF := hJQ.fm
        refine g_pc (pc' := 65) rfl ?_
        refine gb_ne (tgt := 70) dX5_addRule_65 (by decide) (fun h9 => ?_) (fun h9 => ?_)
        · skip
          exact absurd h9 (by simp)
        · skip
          refine g_ic (v := nI 0) dX5_addRule_68 (by decide) ?_
          exact g_iret dX5_addRule_69 (⟨fun q9 => by rw [hok] at q9; exact absurd q9 (by simp), by rw [hok]; exact hJ4, by rw [hok]; exact hJM, hJF, rfl⟩)
      · skip
        refine g_ic (v := bi true) dX5_addRule_57 (by decide) ?_
        refine g_goto (tgt := 62) dX5_addRule_58 (by decide) ?_
        refine g_ci (r_V (st := []) (As := [.int (bi false), .int (bi true)]) (d := 0) 8 (by decide) rfl rfl (c_X5_goes l γ I L P (false) (true)) gX5_addRule_X5_goes rfl ⟨rfl, by decide, by decide, rfl⟩ ⟨Nat.le_of_ble_eq_true rfl, Nat.le_of_ble_eq_true rfl⟩ rfl (Nat.le_of_ble_eq_true rfl) dX5_addRule_62 ⟨Nat.zero_le _, Nat.zero_le _⟩) ?_
        rintro rz6 J Lz6 ⟨ez6, hJ4, hJ8, hJk, eLz6⟩
        subst ez6
        rw [eLz6]
        have hJQ : FQ I J := ⟨fun k h _ _ => hJk k h, fun j hj => hJ8 j (by omega)⟩
        have hJM := hJQ.mr hM
        have hJF := hJQ.fm
        refine gb_ne (tgt := 70) dX5_addRule_65 (by decide) (fun h9 => ?_) (fun h9 => ?_)
        · skip
          exact absurd h9 (by simp)
        · skip
          refine g_ic (v := nI 0) dX5_addRule_68 (by decide) ?_
          refine g_pc (pc' := 69) rfl ?_
          exact g_iret dX5_addRule_69 (⟨fun q9 => by rw [hok] at q9; exact absurd q9 (by simp), by rw [hok]; exact hJ4, by rw [hok]; exact hJM, hJF, rfl⟩)
    · skip
      refine g_il_n 3 dX5_addRule_20 rfl ?_
      refine g_ic (v := nI 0) dX5_addRule_21 (by decide) ?_
      refine g_bi (v := nI 7) dX5_addRule_22 (by decide) ?_
      refine g_ci0 (v := bi (inB z (7 + 1))) (r_S (st := []) (As := [.int z, .int (nI 0), .int (nI 7)]) (d := 0) (c_X5_isWithin l γ I L P z 7 (by decide)) gX5_addRule_X5_isWithin rfl ⟨by decide, by decide, rfl⟩ ⟨Nat.le_of_ble_eq_true rfl, Nat.le_of_ble_eq_true rfl⟩ rfl (Nat.le_of_ble_eq_true rfl) dX5_addRule_24 ⟨Nat.zero_le _, Nat.zero_le _⟩) ?_
      refine gb_eq (tgt := 42) dX5_addRule_27 (by decide) (fun h3 => ?_) (fun h3 => ?_)
      · skip
        have hok : (inB x 8 && inB y 8 && inB z 8 && pB (∃ m, DP m9 m)) = false := by revert h3; cases inB x 8 <;> cases inB y 8 <;> cases inB z 8 <;> cases pB (∃ m, DP m9 m) <;> decide
        refine g_ic (v := bi false) dX5_addRule_42 (by decide) ?_
        refine g_is (lv' := [(5, .int (bi false)), (0, .ref (γ.2.2 8)), (1, .int x), (2, .int y), (3, .int z), (4, .int m9)]) dX5_addRule_43 (by decide) rfl ?_
        refine g_pc (pc' := 45) rfl ?_
        refine g_al_n 1 dX5_addRule_45 rfl ?_
        refine g_il 0 dX5_addRule_46 rfl ?_
        refine g_al_n 1 dX5_addRule_48 rfl ?_
        refine g_get 8 7 (by decide) rfl in_X5_addRule_5 rfl (by decide) (by decide +kernel) rfl rfl dX5_addRule_49 ?_
        refine g_top (v := nI r9) (hM.1.cr) ?_
        refine g_bi (v := nI 8) dX5_addRule_52 (by decide) ?_
        refine gn_ge (tgt := 61) dX5_addRule_54 (by decide) (by omega) (by omega) (fun h0 => ?_) (fun h0 => ?_)
        · skip
          refine g_ic (v := bi false) dX5_addRule_61 (by decide) ?_
          refine g_ci (r_V (st := []) (As := [.int (bi false), .int (bi false)]) (d := 0) 8 (by decide) rfl rfl (c_X5_goes l γ I L P (false) (false)) gX5_addRule_X5_goes rfl ⟨rfl, by decide, by decide, rfl⟩ ⟨Nat.le_of_ble_eq_true rfl, Nat.le_of_ble_eq_true rfl⟩ rfl (Nat.le_of_ble_eq_true rfl) dX5_addRule_62 ⟨Nat.zero_le _, Nat.zero_le _⟩) ?_
          rintro rz8 J Lz8 ⟨ez8, hJ4, hJ8, hJk, eLz8⟩
          subst ez8
          rw [eLz8]
          have hJQ : FQ I J := ⟨fun k h _ _ => hJk k h, fun j hj => hJ8 j (by omega)⟩
          have hJM := hJQ.mr hM
          have hJF := hJQ.fm
          refine g_pc (pc' := 65) rfl ?_
          refine gb_ne (tgt := 70) dX5_addRule_65 (by decide) (fun h9 => ?_) (fun h9 => ?_)
          · skip
            exact absurd h9 (by simp)
          · skip
            refine g_ic (v := nI 0) dX5_addRule_68 (by decide) ?_
            exact g_iret dX5_addRule_69 (⟨fun q9 => by rw [hok] at q9; exact absurd q9 (by simp), by rw [hok]; exact hJ4, by rw [hok]; exact hJM, hJF, rfl⟩)
        · skip
          refine g_ic (v := bi true) dX5_addRule_57 (by decide) ?_
          refine g_goto (tgt := 62) dX5_addRule_58 (by decide) ?_
          refine g_ci (r_V (st := []) (As := [.int (bi false), .int (bi true)]) (d := 0) 8 (by decide) rfl rfl (c_X5_goes l γ I L P (false) (true)) gX5_addRule_X5_goes rfl ⟨rfl, by decide, by decide, rfl⟩ ⟨Nat.le_of_ble_eq_true rfl, Nat.le_of_ble_eq_true rfl⟩ rfl (Nat.le_of_ble_eq_true rfl) dX5_addRule_62 ⟨Nat.zero_le _, Nat.zero_le _⟩) ?_
          rintro rz9 J Lz9 ⟨ez9, hJ4, hJ8, hJk, eLz9⟩
          subst ez9
          rw [eLz9]
          have hJQ : FQ I J := ⟨fun k h _ _ => hJk k h, fun j hj => hJ8 j (by omega)⟩
          have hJM := hJQ.mr hM
          have hJF := hJQ.fm
          refine gb_ne (tgt := 70) dX5_addRule_65 (by decide) (fun h9 => ?_) (fun h9 => ?_)
          · skip
            exact absurd h9 (by simp)
          · skip
            refine g_ic (v := nI 0) dX5_addRule_68 (by decide) ?_
            refine g_pc (pc' := 69) rfl ?_
            exact g_iret dX5_addRule_69 (⟨fun q9 => by rw [hok] at q9; exact absurd q9 (by simp), by rw [hok]; exact hJ4, by rw [hok]; exact hJM, hJF, rfl⟩)
      · skip
        refine g_il 4 dX5_addRule_30 rfl ?_
        refine g_ci0 (v := bi (pB (∃ m, DP m9 m))) (r_S (st := []) (As := [.int m9]) (d := 0) (c_X5_isPair l γ I L P m9) gX5_addRule_X5_isPair rfl ⟨by decide, by decide, rfl⟩ ⟨Nat.le_of_ble_eq_true rfl, Nat.le_of_ble_eq_true rfl⟩ rfl (Nat.le_of_ble_eq_true rfl) dX5_addRule_32 ⟨Nat.zero_le _, Nat.zero_le _⟩) ?_
        refine gb_eq (tgt := 42) dX5_addRule_35 (by decide) (fun h4 => ?_) (fun h4 => ?_)
        · skip
          have hok : (inB x 8 && inB y 8 && inB z 8 && pB (∃ m, DP m9 m)) = false := by revert h4; cases inB x 8 <;> cases inB y 8 <;> cases inB z 8 <;> cases pB (∃ m, DP m9 m) <;> decide
          refine g_ic (v := bi false) dX5_addRule_42 (by decide) ?_
          refine g_is (lv' := [(5, .int (bi false)), (0, .ref (γ.2.2 8)), (1, .int x), (2, .int y), (3, .int z), (4, .int m9)]) dX5_addRule_43 (by decide) rfl ?_
          refine g_al_n 1 dX5_addRule_45 rfl ?_
          refine g_il 0 dX5_addRule_46 rfl ?_
          refine g_pc (pc' := 48) rfl ?_
          refine g_al_n 1 dX5_addRule_48 rfl ?_
          refine g_get 8 7 (by decide) rfl in_X5_addRule_5 rfl (by decide) (by decide +kernel) rfl rfl dX5_addRule_49 ?_
          refine g_top (v := nI r9) (hM.1.cr) ?_
          refine g_bi (v := nI 8) dX5_addRule_52 (by decide) ?_
          refine gn_ge (tgt := 61) dX5_addRule_54 (by decide) (by omega) (by omega) (fun h0 => ?_) (fun h0 => ?_)
          · skip
            refine g_ic (v := bi false) dX5_addRule_61 (by decide) ?_
            refine g_ci (r_V (st := []) (As := [.int (bi false), .int (bi false)]) (d := 0) 8 (by decide) rfl rfl (c_X5_goes l γ I L P (false) (false)) gX5_addRule_X5_goes rfl ⟨rfl, by decide, by decide, rfl⟩ ⟨Nat.le_of_ble_eq_true rfl, Nat.le_of_ble_eq_true rfl⟩ rfl (Nat.le_of_ble_eq_true rfl) dX5_addRule_62 ⟨Nat.zero_le _, Nat.zero_le _⟩) ?_
            rintro rz11 J Lz11 ⟨ez11, hJ4, hJ8, hJk, eLz11⟩
            subst ez11
            rw [eLz11]
            have hJQ : FQ I J := ⟨fun k h _ _ => hJk k h, fun j hj => hJ8 j (by omega)⟩
            have hJM := hJQ.mr hM
            have hJF := hJQ.fm
            refine gb_ne (tgt := 70) dX5_addRule_65 (by decide) (fun h9 => ?_) (fun h9 => ?_)
            · skip
              exact absurd h9 (by simp)
            · skip
              refine g_ic (v := nI 0) dX5_addRule_68 (by decide) ?_
              refine g_pc (pc' := 69) rfl ?_
              exact g_iret dX5_addRule_69 (⟨fun q9 => by rw [hok] at q9; exact absurd q9 (by simp), by rw [hok]; exact hJ4, by rw [hok]; exact hJM, hJF, rfl⟩)
          · skip
            refine g_ic (v := bi true) dX5_addRule_57 (by decide) ?_
            refine g_goto (tgt := 62) dX5_addRule_58 (by decide) ?_
            refine g_ci (r_V (st := []) (As := [.int (bi false), .int (bi true)]) (d := 0) 8 (by decide) rfl rfl (c_X5_goes l γ I L P (false) (true)) gX5_addRule_X5_goes rfl ⟨rfl, by decide, by decide, rfl⟩ ⟨Nat.le_of_ble_eq_true rfl, Nat.le_of_ble_eq_true rfl⟩ rfl (Nat.le_of_ble_eq_true rfl) dX5_addRule_62 ⟨Nat.zero_le _, Nat.zero_le _⟩) ?_
            rintro rz12 J Lz12 ⟨ez12, hJ4, hJ8, hJk, eLz12⟩
            subst ez12
            rw [eLz12]
            have hJQ : FQ I J := ⟨fun k h _ _ => hJk k h, fun j hj => hJ8 j (by omega)⟩
            have hJM := hJQ.mr hM
            have hJF := hJQ.fm
            refine gb_ne (tgt := 70) dX5_addRule_65 (by decide) (fun h9 => ?_) (fun h9 => ?_)
            · skip
              exact absurd h9 (by simp)
            · skip
              refine g_ic (v := nI 0) dX5_addRule_68 (by decide) ?_
              exact g_iret dX5_addRule_69 (⟨fun q9 => by rw [hok] at q9; exact absurd q9 (by simp), by rw [hok]; exact hJ4, by rw [hok]; exact hJM, hJF, rfl⟩)
        · skip
          have hok : (inB x 8 && inB y 8 && inB z 8 && pB (∃ m, DP m9 m)) = true := by revert h1 h2 h3 h4; cases inB x 8 <;> cases inB y 8 <;> cases inB z 8 <;> cases pB (∃ m, DP m9 m) <;> decide
          refine g_ic (v := bi true) dX5_addRule_38 (by decide) ?_
          refine g_pc (pc' := 39) rfl ?_
          refine g_goto (tgt := 43) dX5_addRule_39 (by decide) ?_
          refine g_is (lv' := [(5, .int (bi true)), (0, .ref (γ.2.2 8)), (1, .int x), (2, .int y), (3, .int z), (4, .int m9)]) dX5_addRule_43 (by decide) rfl ?_
          refine g_al_n 1 dX5_addRule_45 rfl ?_
          refine g_il 0 dX5_addRule_46 rfl ?_
          refine g_al_n 1 dX5_addRule_48 rfl ?_
          refine g_get 8 7 (by decide) rfl in_X5_addRule_5 rfl (by decide) (by decide +kernel) rfl rfl dX5_addRule_49 ?_
          refine g_top (v := nI r9) (hM.1.cr) ?_
          refine g_bi (v := nI 8) dX5_addRule_52 (by decide) ?_
          refine gn_ge (tgt := 61) dX5_addRule_54 (by decide) (by omega) (by omega) (fun h0 => ?_) (fun h0 => ?_)
          · skip
            refine g_pc (pc' := 61) rfl ?_
            refine g_ic (v := bi false) dX5_addRule_61 (by decide) ?_
            refine g_ci (r_V (st := []) (As := [.int (bi true), .int (bi false)]) (d := 0) 8 (by decide) rfl rfl (c_X5_goes l γ I L P (true) (false)) gX5_addRule_X5_goes rfl ⟨rfl, by decide, by decide, rfl⟩ ⟨Nat.le_of_ble_eq_true rfl, Nat.le_of_ble_eq_true rfl⟩ rfl (Nat.le_of_ble_eq_true rfl) dX5_addRule_62 ⟨Nat.zero_le _, Nat.zero_le _⟩) ?_
            rintro rz13 J Lz13 ⟨ez13, hJ4, hJ8, hJk, eLz13⟩
            subst ez13
            rw [eLz13]
            have hJQ : FQ I J := ⟨fun k h _ _ => hJk k h, fun j hj => hJ8 j (by omega)⟩
            have hJM := hJQ.mr hM
            have hJF := hJQ.fm
            refine gb_ne (tgt := 70) dX5_addRule_65 (by decide) (fun h9 => ?_) (fun h9 => ?_)
            · skip
              exact absurd h9 (by simp)
            · skip
              have hd : decide (r9 < 8) = false := decide_eq_false (by omega)
              refine g_ic (v := nI 0) dX5_addRule_68 (by decide) ?_
              exact g_iret dX5_addRule_69 (⟨fun q9 => by rw [hd, Bool.and_false] at q9; exact absurd q9 (by simp), by rw [hok, hd]; exact hJ4, by rw [hd, Bool.and_false]; exact hJM, hJF, rfl⟩)
          · skip
            refine g_ic (v := bi true) dX5_addRule_57 (by decide) ?_
            refine g_goto (tgt := 62) dX5_addRule_58 (by decide) ?_
            refine g_ci (r_V (st := []) (As := [.int (bi true), .int (bi true)]) (d := 0) 8 (by decide) rfl rfl (c_X5_goes l γ I L P (true) (true)) gX5_addRule_X5_goes rfl ⟨rfl, by decide, by decide, rfl⟩ ⟨Nat.le_of_ble_eq_true rfl, Nat.le_of_ble_eq_true rfl⟩ rfl (Nat.le_of_ble_eq_true rfl) dX5_addRule_62 ⟨Nat.zero_le _, Nat.zero_le _⟩) ?_
            rintro rz14 J Lz14 ⟨ez14, hJ4, hJ8, hJk, eLz14⟩
            subst ez14
            rw [eLz14]
            have hJQ : FQ I J := ⟨fun k h _ _ => hJk k h, fun j hj => hJ8 j (by omega)⟩
            have hJM := hJQ.mr hM
            have hJF := hJQ.fm
            refine g_pc (pc' := 65) rfl ?_
            refine gb_ne (tgt := 70) dX5_addRule_65 (by decide) (fun h9 => ?_) (fun h9 => ?_)
            · skip
              have hd : decide (r9 < 8) = true := decide_eq_true h0
              have hP1 := (Bool.and_eq_true _ _).mp hok
              have hP2 := (Bool.and_eq_true _ _).mp hP1.1
              have hP3 := (Bool.and_eq_true _ _).mp hP2.1
              obtain ⟨ex, hx8⟩ := inB_tn (by decide) hP3.1
              obtain ⟨ey, hy8⟩ := inB_tn (by decide) hP3.2
              obtain ⟨ez, hz8⟩ := inB_tn (by decide) hP2.2
              obtain ⟨em, hm1, hm2⟩ := DP_tn (pB_t.mp hP1.2)
              refine g_sub (lv' := [(0, .ref (γ.2.2 8)), (1, .int x), (2, .int y), (3, .int z), (4, .int m9)]) [1, 2, 3, 4, 5] rfl ?_
              refine g_lv (lv' := [(0, .ref (γ.2.2 8)), (1, .int (nI (tn x))), (2, .int (nI (tn y))), (3, .int (nI (tn z))), (4, .int (nI (tn m9)))]) (by rw [← ex, ← ey, ← ez, ← em]) ?_
              refine g_al_n 0 dX5_addRule_70 rfl ?_
              refine g_get (v := .ref (γ.2.2 22)) 8 3 (by decide) rfl in_X5_addRule_5 rfl (by decide) (by decide +kernel) rfl rfl dX5_addRule_71 ?_
              refine g_al_n 0 dX5_addRule_74 rfl ?_
              refine g_get 8 7 (by decide) rfl in_X5_addRule_5 rfl (by decide) (by decide +kernel) rfl rfl dX5_addRule_75 ?_
              refine g_top (v := nI r9) (hJM.1.cr) ?_
              refine g_il_n 1 dX5_addRule_78 rfl ?_
              refine g_iast 22 r9 (by decide) (by decide) (show _ < 8 by omega) dX5_addRule_79 ?_
              obtain ⟨J1, wJ1⟩ : ∃ J1, J1 = va_up J 22 (upd (J 22) r9 (nI (tn x))) := ⟨_, rfl⟩
              have J1_a : J1 22 = upd (J 22) r9 (nI (tn x)) := by rw [wJ1, va_us]
              have J1_b : ∀ k, k ≠ 22 → J1 k = J k := fun k hk => by rw [wJ1, va_up_ne _ _ hk]
              refine g_eq (I' := J1) wJ1.symm rfl ?_
              refine g_al_n 0 dX5_addRule_80 rfl ?_
              refine g_pc (pc' := 81) rfl ?_
              refine g_get (v := .ref (γ.2.2 23)) 8 4 (by decide) rfl in_X5_addRule_5 rfl (by decide) (by decide +kernel) rfl rfl dX5_addRule_81 ?_
              refine g_al_n 0 dX5_addRule_84 rfl ?_
              refine g_get 8 7 (by decide) rfl in_X5_addRule_5 rfl (by decide) (by decide +kernel) rfl rfl dX5_addRule_85 ?_
              refine g_top (v := nI r9) (by rw [J1_b 8 (by decide)]; exact hJM.1.cr) ?_
              refine g_il_n 2 dX5_addRule_88 rfl ?_
              refine g_iast 23 r9 (by decide) (by decide) (show _ < 8 by omega) dX5_addRule_89 ?_
              obtain ⟨J2, wJ2⟩ : ∃ J2, J2 = va_up J1 23 (upd (J1 23) r9 (nI (tn y))) := ⟨_, rfl⟩
              have J2_a : J2 23 = upd (J1 23) r9 (nI (tn y)) := by rw [wJ2, va_us]
              have J2_b : ∀ k, k ≠ 23 → J2 k = J1 k := fun k hk => by rw [wJ2, va_up_ne _ _ hk]
              refine g_eq (I' := J2) wJ2.symm rfl ?_
              refine g_al_n 0 dX5_addRule_90 rfl ?_
              refine g_get (v := .ref (γ.2.2 24)) 8 5 (by decide) rfl in_X5_addRule_5 rfl (by decide) (by decide +kernel) rfl rfl dX5_addRule_91 ?_
              refine g_al_n 0 dX5_addRule_94 rfl ?_
              refine g_pc (pc' := 95) rfl ?_
              refine g_get 8 7 (by decide) rfl in_X5_addRule_5 rfl (by decide) (by decide +kernel) rfl rfl dX5_addRule_95 ?_
              refine g_top (v := nI r9) (by rw [J2_b 8 (by decide), J1_b 8 (by decide)]; exact hJM.1.cr) ?_
              refine g_il_n 3 dX5_addRule_98 rfl ?_
              refine g_iast 24 r9 (by decide) (by decide) (show _ < 8 by omega) dX5_addRule_99 ?_
              obtain ⟨J3, wJ3⟩ : ∃ J3, J3 = va_up J2 24 (upd (J2 24) r9 (nI (tn z))) := ⟨_, rfl⟩
              have J3_a : J3 24 = upd (J2 24) r9 (nI (tn z)) := by rw [wJ3, va_us]
              have J3_b : ∀ k, k ≠ 24 → J3 k = J2 k := fun k hk => by rw [wJ3, va_up_ne _ _ hk]
              refine g_eq (I' := J3) wJ3.symm rfl ?_
              refine g_al_n 0 dX5_addRule_100 rfl ?_
              refine g_get (v := .ref (γ.2.2 25)) 8 6 (by decide) rfl in_X5_addRule_5 rfl (by decide) (by decide +kernel) rfl rfl dX5_addRule_101 ?_
              refine g_al_n 0 dX5_addRule_104 rfl ?_
              refine g_get 8 7 (by decide) rfl in_X5_addRule_5 rfl (by decide) (by decide +kernel) rfl rfl dX5_addRule_105 ?_
              refine g_top (v := nI r9) (by rw [J3_b 8 (by decide), J2_b 8 (by decide), J1_b 8 (by decide)]; exact hJM.1.cr) ?_
              refine g_il 4 dX5_addRule_108 rfl ?_
              refine g_pc (pc' := 110) rfl ?_
              refine g_iast 25 r9 (by decide) (by decide) (show _ < 8 by omega) dX5_addRule_110 ?_
              obtain ⟨J4, wJ4⟩ : ∃ J4, J4 = va_up J3 25 (upd (J3 25) r9 (nI (tn m9))) := ⟨_, rfl⟩
              have J4_a : J4 25 = upd (J3 25) r9 (nI (tn m9)) := by rw [wJ4, va_us]
              have J4_b : ∀ k, k ≠ 25 → J4 k = J3 k := fun k hk => by rw [wJ4, va_up_ne _ _ hk]
              refine g_eq (I' := J4) wJ4.symm rfl ?_
              refine g_al_n 0 dX5_addRule_111 rfl ?_
              refine g_dup dX5_addRule_112 rfl ?_
              refine g_get 8 7 (by decide) rfl in_X5_addRule_5 rfl (by decide) (by decide +kernel) rfl rfl dX5_addRule_113 ?_
              refine g_top (v := nI r9) (by rw [J4_b 8 (by decide), J3_b 8 (by decide), J2_b 8 (by decide), J1_b 8 (by decide)]; exact hJM.1.cr) ?_
              refine g_ic (v := nI 1) dX5_addRule_116 (by decide) ?_
              refine g_iadd (v := nI (r9 + 1)) dX5_addRule_117 (nI_add _ _) ?_
              refine g_put tyX5 8 7 (upd (J4 8) 1 (nI (r9 + 1))) (by decide) rfl in_X5_addRule_5 tyX5_ok nmX5 rfl (by decide) (by decide +kernel) rfl rfl rfl rfl rfl (Nat.le_of_ble_eq_true rfl) dX5_addRule_118 rfl ?_
              obtain ⟨J5, wJ5⟩ : ∃ J5, J5 = va_up J4 8 (upd (J4 8) 1 (nI (r9 + 1))) := ⟨_, rfl⟩
              have J5_a : J5 8 = upd (J4 8) 1 (nI (r9 + 1)) := by rw [wJ5, va_us]
              have J5_b : ∀ k, k ≠ 8 → J5 k = J4 k := fun k hk => by rw [wJ5, va_up_ne _ _ hk]
              refine g_eq (I' := J5) wJ5.symm rfl ?_
              refine g_al_n 0 dX5_addRule_121 rfl ?_
              refine g_pc (pc' := 122) rfl ?_
              refine g_get 8 7 (by decide) rfl in_X5_addRule_5 rfl (by decide) (by decide +kernel) rfl rfl dX5_addRule_122 ?_
              refine g_top (v := nI (r9 + 1)) (by rw [J5_a, upd_s]) ?_
              refine g_ic (v := nI 1) dX5_addRule_125 (by decide) ?_
              have e8 : ∀ j, j ≠ 1 → J5 8 j = J 8 j := fun j hj => by rw [J5_a, upd_n _ _ hj, J4_b 8 (by decide), J3_b 8 (by decide), J2_b 8 (by decide), J1_b 8 (by decide)]
              have eo : ∀ k, k ≠ 8 → (k < 22 ∨ 25 < k) → J5 k = J k := fun k h5 h6 => by rw [J5_b k h5, J4_b k (by omega), J3_b k (by omega), J2_b k (by omega), J1_b k (by omega)]
              have e22 : J5 22 = upd (J 22) r9 (nI (tn x)) := by rw [J5_b 22 (by decide), J4_b 22 (by decide), J3_b 22 (by decide), J2_b 22 (by decide), J1_a]
              have e23 : J5 23 = upd (J 23) r9 (nI (tn y)) := by rw [J5_b 23 (by decide), J4_b 23 (by decide), J3_b 23 (by decide), J2_a, J1_b 23 (by decide)]
              have e24 : J5 24 = upd (J 24) r9 (nI (tn z)) := by rw [J5_b 24 (by decide), J4_b 24 (by decide), J3_a, J2_b 24 (by decide), J1_b 24 (by decide)]
              have e25 : J5 25 = upd (J 25) r9 (nI (tn m9)) := by rw [J5_b 25 (by decide), J4_a, J3_b 25 (by decide), J2_b 25 (by decide), J1_b 25 (by decide)]
              refine g_isub (v := nI (r9 + 1 - 1)) dX5_addRule_126 (pk_sub (by omega)) ?_
              exact g_iret dX5_addRule_127 (⟨fun _ => rfl, by rw [hok, hd, e8 4 (by decide)]; exact hJ4, by rw [hok, hd]; show MR _ (grule g r9 (tn x) (tn y) (tn z) (tn m9)) n (r9 + 1) q u; exact hJM.rule h0 hx8 hy8 hz8 hm1 hm2 (e8 0 (by decide)) (by rw [J5_a, upd_s]) (e8 2 (by decide)) e22 e23 e24 e25 (eo 20 (by decide) (by decide)) (eo 21 (by decide) (by decide)) (eo 26 (by decide) (by decide)), fun k hk => by have := MI_no hk; rw [eo k this.1 (by omega)]; exact hJF k hk, rfl⟩)
            · skip
              exact absurd h9 (by simp)

theorem in_X5_dropRule_5 : ∀ w ∈ wsX50, w ∈ wsX5_dropRule := by decide +kernel
set_option maxRecDepth 100000 in
set_option maxHeartbeats 4000000 in
theorem c_X5_dropRule (l : Launch) (γ : Gm) (I : IT) (L : LT) (P : PT) (g : GR) (n r9 q : Nat) (u : Nat → Nat) (hM : MR I g n r9 q u) : Ci l yX5_dropRule wsX5_dropRule 1 γ [.ref (γ.2.2 8)] I L P (fun r I' L' => ((((decide (0 < r9)) && true) = true) → r = nI (r9 - 1)) ∧ I' 8 4 = nI (cd2 (decide (0 < r9)) (true)) ∧ MR I' g n (if ((decide (0 < r9)) && true) then r9 - 1 else r9) q u ∧ FM I I' ∧ L' = L) := by
  refine Ci_of (own := RX5) (cc := cX5_dropRule) (maxL := 1) (by decide) rfl rfl (Nat.le_of_ble_eq_true rfl) ?_
  refine g_sub (lv' := [(0, .ref (γ.2.2 8))]) [0] rfl ?_
  have hr8 := hM.1.r_le
  refine g_al_n 0 dX5_dropRule_0 rfl ?_
  refine g_al_n 0 dX5_dropRule_1 rfl ?_
  refine g_get 8 7 (by decide) rfl in_X5_dropRule_5 rfl (by decide) (by decide +kernel) rfl rfl dX5_dropRule_2 ?_
  refine g_top (v := nI r9) (hM.1.cr) ?_
  refine gz_le (tgt := 12) dX5_dropRule_5 (by decide) (by omega) (fun h0 => ?_) (fun h0 => ?_)
  · skip
    refine g_ic (v := bi false) dX5_dropRule_12 (by decide) ?_
    refine g_ic (v := bi true) dX5_dropRule_13 (by decide) ?_
    refine g_ci (r_V (st := []) (As := [.int (bi false), .int (bi true)]) (d := 0) 8 (by decide) rfl rfl (c_X5_goes l γ I L P (false) (true)) gX5_dropRule_X5_goes rfl ⟨rfl, by decide, by decide, rfl⟩ ⟨Nat.le_of_ble_eq_true rfl, Nat.le_of_ble_eq_true rfl⟩ rfl (Nat.le_of_ble_eq_true rfl) dX5_dropRule_14 ⟨Nat.zero_le _, Nat.zero_le _⟩) ?_
    rintro rz1 J Lz1 ⟨ez1, hJ4, hJ8, hJk, eLz1⟩
    subst ez1
    rw [eLz1]
    have hJQ : FQ I J := ⟨fun k h _ _ => hJk k h, fun j hj => hJ8 j (by omega)⟩
    have hJM := hJQ.mr hM
    have hJF := hJQ.fm
    refine g_pc (pc' := 17) rfl ?_
    refine gb_ne (tgt := 22) dX5_dropRule_17 (by decide) (fun h1 => ?_) (fun h1 => ?_)
    · skip
      exact absurd h1 (by simp)
    · skip
      have hok : decide (0 < r9) = false := decide_eq_false (by omega)
      refine g_ic (v := nI 0) dX5_dropRule_20 (by decide) ?_
      exact g_iret dX5_dropRule_21 (⟨fun q9 => by rw [hok] at q9; exact absurd q9 (by simp), by rw [hok]; exact hJ4, by rw [hok]; exact hJM, hJF, rfl⟩)
  · skip
    refine g_ic (v := bi true) dX5_dropRule_8 (by decide) ?_
    refine g_goto (tgt := 13) dX5_dropRule_9 (by decide) ?_
    refine g_ic (v := bi true) dX5_dropRule_13 (by decide) ?_
    refine g_ci (r_V (st := []) (As := [.int (bi true), .int (bi true)]) (d := 0) 8 (by decide) rfl rfl (c_X5_goes l γ I L P (true) (true)) gX5_dropRule_X5_goes rfl ⟨rfl, by decide, by decide, rfl⟩ ⟨Nat.le_of_ble_eq_true rfl, Nat.le_of_ble_eq_true rfl⟩ rfl (Nat.le_of_ble_eq_true rfl) dX5_dropRule_14 ⟨Nat.zero_le _, Nat.zero_le _⟩) ?_
    rintro rz2 J Lz2 ⟨ez2, hJ4, hJ8, hJk, eLz2⟩
    subst ez2
    rw [eLz2]
    have hJQ : FQ I J := ⟨fun k h _ _ => hJk k h, fun j hj => hJ8 j (by omega)⟩
    have hJM := hJQ.mr hM
    have hJF := hJQ.fm
    refine gb_ne (tgt := 22) dX5_dropRule_17 (by decide) (fun h1 => ?_) (fun h1 => ?_)
    · skip
      have hok : decide (0 < r9) = true := decide_eq_true h0
      refine g_pc (pc' := 22) rfl ?_
      refine g_al_n 0 dX5_dropRule_22 rfl ?_
      refine g_dup dX5_dropRule_23 rfl ?_
      refine g_get 8 7 (by decide) rfl in_X5_dropRule_5 rfl (by decide) (by decide +kernel) rfl rfl dX5_dropRule_24 ?_
      refine g_top (v := nI r9) (hJM.1.cr) ?_
      refine g_ic (v := nI 1) dX5_dropRule_27 (by decide) ?_
      refine g_isub (v := nI (r9 - 1)) dX5_dropRule_28 (pk_sub (by omega)) ?_
      refine g_put tyX5 8 7 (upd (J 8) 1 (nI (r9 - 1))) (by decide) rfl in_X5_dropRule_5 tyX5_ok nmX5 rfl (by decide) (by decide +kernel) rfl rfl rfl rfl rfl (Nat.le_of_ble_eq_true rfl) dX5_dropRule_29 rfl ?_
      refine g_eq (I' := va_up J 8 (upd (J 8) 1 (nI (r9 - 1)))) (rfl) rfl ?_
      refine g_al_n 0 dX5_dropRule_32 rfl ?_
      refine g_get 8 7 (by decide) rfl in_X5_dropRule_5 rfl (by decide) (by decide +kernel) rfl rfl dX5_dropRule_33 ?_
      refine g_top (v := nI (r9 - 1)) (by rw [va_us, upd_s]) ?_
      refine g_pc (pc' := 36) rfl ?_
      exact g_iret dX5_dropRule_36 (⟨fun _ => rfl, by rw [hok, va_us, upd_n _ _ (by decide)]; exact hJ4, by rw [hok]; show MR _ g n (r9 - 1) q u; exact hJM.drop (Nat.sub_le _ _) (by rw [va_us, upd_n _ _ (by decide)]) (by rw [va_us, upd_s]) (by rw [va_us, upd_n _ _ (by decide)]) (fun k h5 h6 => va_up_ne _ _ (by omega)), hJF.up MI_8 _, rfl⟩)
    · skip
      exact absurd h1 (by simp)

theorem in_X5_say_5 : ∀ w ∈ wsX50, w ∈ wsX5_say := by decide +kernel
set_option maxRecDepth 100000 in
set_option maxHeartbeats 4000000 in
theorem c_X5_say (l : Launch) (γ : Gm) (I : IT) (L : LT) (P : PT) (g : GR) (n r9 q : Nat) (u : Nat → Nat) (hM : MR I g n r9 q u) (v : Int32) : Ci l yX5_say wsX5_say 1 γ [.ref (γ.2.2 8), .int v] I L P (fun r I' L' => ((((inB v n) && decide (q < 6)) = true) → r = nI (q + 1)) ∧ I' 8 4 = nI (cd2 (inB v n) (decide (q < 6))) ∧ MR I' g n r9 (if ((inB v n) && decide (q < 6)) then q + 1 else q) (if ((inB v n) && decide (q < 6)) then (ust u q (tn v)) else u) ∧ FM I I' ∧ L' = L) := by
  refine Ci_of (own := RX5) (cc := cX5_say) (maxL := 2) (by decide) rfl rfl (Nat.le_of_ble_eq_true rfl) ?_
  refine g_sub (lv' := [(0, .ref (γ.2.2 8)), (1, .int v)]) [0, 1] rfl ?_
  have hn9 := hM.1.n_le
  have hq6 := hM.2.2.1
  refine g_al_n 0 dX5_say_0 rfl ?_
  refine g_al_n 0 dX5_say_1 rfl ?_
  refine g_il_n 1 dX5_say_2 rfl ?_
  refine g_ci0 (v := bi (inB v n)) (r_V (st := [.ref (γ.2.2 8)]) (As := [.int v]) (d := 0) 8 (by decide) rfl rfl (c_X5_isWord l γ I L P v n hM.1.cn (by omega)) gX5_say_X5_isWord rfl ⟨rfl, by decide, by decide, rfl⟩ ⟨Nat.le_of_ble_eq_true rfl, Nat.le_of_ble_eq_true rfl⟩ rfl (Nat.le_of_ble_eq_true rfl) dX5_say_3 ⟨Nat.zero_le _, Nat.zero_le _⟩) ?_
  refine g_al_n 0 dX5_say_6 rfl ?_
  refine g_get 8 9 (by decide) rfl in_X5_say_5 rfl (by decide) (by decide +kernel) rfl rfl dX5_say_7 ?_
  refine g_top (v := nI q) (hM.2.1) ?_
  refine g_bi (v := nI 6) dX5_say_10 (by decide) ?_
  refine g_pc (pc' := 12) rfl ?_
  refine gn_ge (tgt := 19) dX5_say_12 (by decide) (by omega) (by omega) (fun h0 => ?_) (fun h0 => ?_)
  · skip
    refine g_ic (v := bi false) dX5_say_19 (by decide) ?_
    refine g_ci (r_V (st := []) (As := [.int (bi (inB v n)), .int (bi false)]) (d := 0) 8 (by decide) rfl rfl (c_X5_goes l γ I L P (inB v n) (false)) gX5_say_X5_goes rfl ⟨rfl, by decide, by decide, rfl⟩ ⟨Nat.le_of_ble_eq_true rfl, Nat.le_of_ble_eq_true rfl⟩ rfl (Nat.le_of_ble_eq_true rfl) dX5_say_20 ⟨Nat.zero_le _, Nat.zero_le _⟩) ?_
    rintro rz2 J Lz2 ⟨ez2, hJ4, hJ8, hJk, eLz2⟩
    subst ez2
    rw [eLz2]
    have hJQ : FQ I J := ⟨fun k h _ _ => hJk k h, fun j hj => hJ8 j (by omega)⟩
    have hJM := hJQ.mr hM
    have hJF := hJQ.fm
    refine gb_ne (tgt := 28) dX5_say_23 (by decide) (fun h1 => ?_) (fun h1 => ?_)
    · skip
      exact absurd h1 (by simp)
    · skip
      have hd : decide (q < 6) = false := decide_eq_false (by omega)
      refine g_ic (v := nI 0) dX5_say_26 (by decide) ?_
      exact g_iret dX5_say_27 (⟨fun q9 => by rw [hd, Bool.and_false] at q9; exact absurd q9 (by simp), by rw [hd]; exact hJ4, by rw [hd, Bool.and_false]; exact hJM, hJF, rfl⟩)
  · skip
    refine g_ic (v := bi true) dX5_say_15 (by decide) ?_
    refine g_goto (tgt := 20) dX5_say_16 (by decide) ?_
    refine g_pc (pc' := 20) rfl ?_
    refine g_ci (r_V (st := []) (As := [.int (bi (inB v n)), .int (bi true)]) (d := 0) 8 (by decide) rfl rfl (c_X5_goes l γ I L P (inB v n) (true)) gX5_say_X5_goes rfl ⟨rfl, by decide, by decide, rfl⟩ ⟨Nat.le_of_ble_eq_true rfl, Nat.le_of_ble_eq_true rfl⟩ rfl (Nat.le_of_ble_eq_true rfl) dX5_say_20 ⟨Nat.zero_le _, Nat.zero_le _⟩) ?_
    rintro rz3 J Lz3 ⟨ez3, hJ4, hJ8, hJk, eLz3⟩
    subst ez3
    rw [eLz3]
    have hJQ : FQ I J := ⟨fun k h _ _ => hJk k h, fun j hj => hJ8 j (by omega)⟩
    have hJM := hJQ.mr hM
    have hJF := hJQ.fm
    refine gb_ne (tgt := 28) dX5_say_23 (by decide) (fun h1 => ?_) (fun h1 => ?_)
    · skip
      have hd : decide (q < 6) = true := decide_eq_true h0
      have hok : inB v n = true := by rw [← h1, Bool.and_true]
      obtain ⟨ev, hvn⟩ := inB_tn (by omega) hok
      refine g_lv (lv' := [(0, .ref (γ.2.2 8)), (1, .int (nI (tn v)))]) (by rw [← ev]) ?_
      refine g_al_n 0 dX5_say_28 rfl ?_
      refine g_get (v := .ref (γ.2.2 26)) 8 8 (by decide) rfl in_X5_say_5 rfl (by decide) (by decide +kernel) rfl rfl dX5_say_29 ?_
      refine g_al_n 0 dX5_say_32 rfl ?_
      refine g_get 8 9 (by decide) rfl in_X5_say_5 rfl (by decide) (by decide +kernel) rfl rfl dX5_say_33 ?_
      refine g_top (v := nI q) (hJM.2.1) ?_
      refine g_il_n 1 dX5_say_36 rfl ?_
      refine g_iast 26 q (by decide) (by decide) (show _ < 6 by omega) dX5_say_37 ?_
      refine g_eq (I' := va_up J 26 (upd (J 26) q (nI (tn v)))) (rfl) rfl ?_
      refine g_pc (pc' := 38) rfl ?_
      refine g_al_n 0 dX5_say_38 rfl ?_
      refine g_dup dX5_say_39 rfl ?_
      refine g_get 8 9 (by decide) rfl in_X5_say_5 rfl (by decide) (by decide +kernel) rfl rfl dX5_say_40 ?_
      refine g_top (v := nI q) (hJM.2.1) ?_
      refine g_ic (v := nI 1) dX5_say_43 (by decide) ?_
      refine g_iadd (v := nI (q + 1)) dX5_say_44 (nI_add _ _) ?_
      refine g_put tyX5 8 9 (upd ((va_up J 26 (upd (J 26) q (nI (tn v)))) 8) 2 (nI (q + 1))) (by decide) rfl in_X5_say_5 tyX5_ok nmX5 rfl (by decide) (by decide +kernel) rfl rfl rfl rfl rfl (Nat.le_of_ble_eq_true rfl) dX5_say_45 rfl ?_
      refine g_eq (I' := va_up (va_up J 26 (upd (J 26) q (nI (tn v)))) 8 (upd (J 8) 2 (nI (q + 1)))) (rfl) rfl ?_
      refine g_al_n 0 dX5_say_48 rfl ?_
      refine g_get 8 9 (by decide) rfl in_X5_say_5 rfl (by decide) (by decide +kernel) rfl rfl dX5_say_49 ?_
      refine g_top (v := nI (q + 1)) (by rw [va_us, upd_s]) ?_
      refine g_pc (pc' := 52) rfl ?_
      exact g_iret dX5_say_52 (⟨fun _ => rfl, by rw [hok, hd, va_us, upd_n _ _ (by decide)]; rw [hok] at hJ4; exact hJ4, by rw [hok, hd]; show MR _ g n r9 (q + 1) (ust u q (tn v)); exact hJM.row (by omega) (by rw [va_us, upd_n _ _ (by decide)]) (by rw [va_us, upd_n _ _ (by decide)]) (by rw [va_us, upd_s]) (fun k h5 h6 => by rw [va_up_ne _ _ (by omega), va_up_ne _ _ (by omega)]) (fun p hp => by
            show upd (J 26) q (nI (tn v)) p = _ ∧ _
            by_cases e : p = q
            · subst e; rw [upd_s, ust_s]; exact ⟨rfl, hvn⟩
            · rw [upd_n _ _ e, ust_n _ _ e]; exact hJM.2.2.2 p (by omega)), (hJF.up (MI_r (by decide) (by decide)) _).up MI_8 _, rfl⟩)
    · skip
      have hd : decide (q < 6) = true := decide_eq_true h0
      have hok : inB v n = false := by rw [← h1, Bool.and_true]
      refine g_ic (v := nI 0) dX5_say_26 (by decide) ?_
      exact g_iret dX5_say_27 (⟨fun q9 => by rw [hok] at q9; exact absurd q9 (by simp), by rw [hd]; exact hJ4, by rw [hok]; exact hJM, hJF, rfl⟩)

theorem in_X5_change_5 : ∀ w ∈ wsX50, w ∈ wsX5_change := by decide +kernel
set_option maxRecDepth 100000 in
set_option maxHeartbeats 4000000 in
theorem c_X5_change (l : Launch) (γ : Gm) (I : IT) (L : LT) (P : PT) (g : GR) (n r9 q : Nat) (u : Nat → Nat) (hM : MR I g n r9 q u) (p v : Int32) : Ci l yX5_change wsX5_change 1 γ [.ref (γ.2.2 8), .int p, .int v] I L P (fun r I' L' => ((((inB p q && inB v n) && true) = true) → r = nI (u (tn p))) ∧ I' 8 4 = nI (cd2 (inB p q && inB v n) (true)) ∧ MR I' g n r9 q (if ((inB p q && inB v n) && true) then (ust u (tn p) (tn v)) else u) ∧ FM I I' ∧ L' = L) := by
  refine Ci_of (own := RX5) (cc := cX5_change) (maxL := 4) (by decide) rfl rfl (Nat.le_of_ble_eq_true rfl) ?_
  refine g_sub (lv' := [(0, .ref (γ.2.2 8)), (1, .int p), (2, .int v)]) [0, 1, 2] rfl ?_
  have hn9 := hM.1.n_le
  have hq6 := hM.2.2.1
  refine g_al_n 0 dX5_change_0 rfl ?_
  refine g_al_n 0 dX5_change_1 rfl ?_
  refine g_il_n 1 dX5_change_2 rfl ?_
  refine g_ci0 (v := bi (inB p q)) (r_V (st := [.ref (γ.2.2 8)]) (As := [.int p]) (d := 0) 8 (by decide) rfl rfl (c_X5_isPlace l γ I L P p q hM.2.1 (by omega)) gX5_change_X5_isPlace rfl ⟨rfl, by decide, by decide, rfl⟩ ⟨Nat.le_of_ble_eq_true rfl, Nat.le_of_ble_eq_true rfl⟩ rfl (Nat.le_of_ble_eq_true rfl) dX5_change_3 ⟨Nat.zero_le _, Nat.zero_le _⟩) ?_
  refine gb_eq (tgt := 21) dX5_change_6 (by decide) (fun h1 => ?_) (fun h1 => ?_)
  · skip
    have hok : (inB p q && inB v n) = false := by revert h1; cases inB p q <;> cases inB v n <;> decide
    refine g_ic (v := bi false) dX5_change_21 (by decide) ?_
    refine g_ic (v := bi true) dX5_change_22 (by decide) ?_
    refine g_pc (pc' := 23) rfl ?_
    refine g_ci (r_V (st := []) (As := [.int (bi false), .int (bi true)]) (d := 0) 8 (by decide) rfl rfl (c_X5_goes l γ I L P (false) (true)) gX5_change_X5_goes rfl ⟨rfl, by decide, by decide, rfl⟩ ⟨Nat.le_of_ble_eq_true rfl, Nat.le_of_ble_eq_true rfl⟩ rfl (Nat.le_of_ble_eq_true rfl) dX5_change_23 ⟨Nat.zero_le _, Nat.zero_le _⟩) ?_
    rintro rz2 J Lz2 ⟨ez2, hJ4, hJ8, hJk, eLz2⟩
    subst ez2
    rw [eLz2]
    have hJQ : FQ I J := ⟨fun k h _ _ => hJk k h, fun j hj => hJ8 j (by omega)⟩
    have hJM := hJQ.mr hM
    have hJF := hJQ.fm
    refine gb_ne (tgt := 31) dX5_change_26 (by decide) (fun h9 => ?_) (fun h9 => ?_)
    · skip
      exact absurd h9 (by simp)
    · skip
      refine g_ic (v := nI 0) dX5_change_29 (by decide) ?_
      exact g_iret dX5_change_30 (⟨fun q9 => by rw [hok] at q9; exact absurd q9 (by simp), by rw [hok]; exact hJ4, by rw [hok]; exact hJM, hJF, rfl⟩)
  · skip
    refine g_al_n 0 dX5_change_9 rfl ?_
    refine g_il_n 2 dX5_change_10 rfl ?_
    refine g_ci0 (v := bi (inB v n)) (r_V (st := [.ref (γ.2.2 8)]) (As := [.int v]) (d := 0) 8 (by decide) rfl rfl (c_X5_isWord l γ I L P v n hM.1.cn (by omega)) gX5_change_X5_isWord rfl ⟨rfl, by decide, by decide, rfl⟩ ⟨Nat.le_of_ble_eq_true rfl, Nat.le_of_ble_eq_true rfl⟩ rfl (Nat.le_of_ble_eq_true rfl) dX5_change_11 ⟨Nat.zero_le _, Nat.zero_le _⟩) ?_
    refine gb_eq (tgt := 21) dX5_change_14 (by decide) (fun h2 => ?_) (fun h2 => ?_)
    · skip
      have hok : (inB p q && inB v n) = false := by revert h2; cases inB p q <;> cases inB v n <;> decide
      refine g_pc (pc' := 21) rfl ?_
      refine g_ic (v := bi false) dX5_change_21 (by decide) ?_
      refine g_ic (v := bi true) dX5_change_22 (by decide) ?_
      refine g_ci (r_V (st := []) (As := [.int (bi false), .int (bi true)]) (d := 0) 8 (by decide) rfl rfl (c_X5_goes l γ I L P (false) (true)) gX5_change_X5_goes rfl ⟨rfl, by decide, by decide, rfl⟩ ⟨Nat.le_of_ble_eq_true rfl, Nat.le_of_ble_eq_true rfl⟩ rfl (Nat.le_of_ble_eq_true rfl) dX5_change_23 ⟨Nat.zero_le _, Nat.zero_le _⟩) ?_
      rintro rz4 J Lz4 ⟨ez4, hJ4, hJ8, hJk, eLz4⟩
      subst ez4
      rw [eLz4]
      have hJQ : FQ I J := ⟨fun k h _ _ => hJk k h, fun j hj => hJ8 j (by omega)⟩
      have hJM := hJQ.mr hM
      have hJF := hJQ.fm
      refine gb_ne (tgt := 31) dX5_change_26 (by decide) (fun h9 => ?_) (fun h9 => ?_)
      · skip
        exact absurd h9 (by simp)
      · skip
        refine g_ic (v := nI 0) dX5_change_29 (by decide) ?_
        exact g_iret dX5_change_30 (⟨fun q9 => by rw [hok] at q9; exact absurd q9 (by simp), by rw [hok]; exact hJ4, by rw [hok]; exact hJM, hJF, rfl⟩)
    · skip
      have hok : (inB p q && inB v n) = true := by revert h1 h2; cases inB p q <;> cases inB v n <;> decide
      refine g_ic (v := bi true) dX5_change_17 (by decide) ?_
      refine g_goto (tgt := 22) dX5_change_18 (by decide) ?_
      refine g_pc (pc' := 22) rfl ?_
      refine g_ic (v := bi true) dX5_change_22 (by decide) ?_
      refine g_ci (r_V (st := []) (As := [.int (bi true), .int (bi true)]) (d := 0) 8 (by decide) rfl rfl (c_X5_goes l γ I L P (true) (true)) gX5_change_X5_goes rfl ⟨rfl, by decide, by decide, rfl⟩ ⟨Nat.le_of_ble_eq_true rfl, Nat.le_of_ble_eq_true rfl⟩ rfl (Nat.le_of_ble_eq_true rfl) dX5_change_23 ⟨Nat.zero_le _, Nat.zero_le _⟩) ?_
      rintro rz5 J Lz5 ⟨ez5, hJ4, hJ8, hJk, eLz5⟩
      subst ez5
      rw [eLz5]
      have hJQ : FQ I J := ⟨fun k h _ _ => hJk k h, fun j hj => hJ8 j (by omega)⟩
      have hJM := hJQ.mr hM
      have hJF := hJQ.fm
      refine gb_ne (tgt := 31) dX5_change_26 (by decide) (fun h9 => ?_) (fun h9 => ?_)
      · skip
        obtain ⟨ep, hpq⟩ := inB_tn (by omega) h1
        obtain ⟨ev, hvn⟩ := inB_tn (by omega) h2
        refine g_lv (lv' := [(0, .ref (γ.2.2 8)), (1, .int (nI (tn p))), (2, .int (nI (tn v)))]) (by rw [← ep, ← ev]) ?_
        refine g_al_n 0 dX5_change_31 rfl ?_
        refine g_get (v := .ref (γ.2.2 26)) 8 8 (by decide) rfl in_X5_change_5 rfl (by decide) (by decide +kernel) rfl rfl dX5_change_32 ?_
        refine g_il_n 1 dX5_change_35 rfl ?_
        refine g_iald (v := nI (u (tn p))) 26 (tn p) (by decide) (by decide) (show _ < 6 by omega) ((hJM.2.2.2 _ hpq).1) dX5_change_36 ?_
        refine g_is_n (lv' := [(3, .int (nI (u (tn p)))), (0, .ref (γ.2.2 8)), (1, .int (nI (tn p))), (2, .int (nI (tn v)))]) dX5_change_37 (by decide) rfl ?_
        refine g_pc (pc' := 38) rfl ?_
        refine g_al_n 1 dX5_change_38 rfl ?_
        refine g_get (v := .ref (γ.2.2 26)) 8 8 (by decide) rfl in_X5_change_5 rfl (by decide) (by decide +kernel) rfl rfl dX5_change_39 ?_
        refine g_il_n 2 dX5_change_42 rfl ?_
        refine g_il_n 3 dX5_change_43 rfl ?_
        refine g_iast 26 (tn p) (by decide) (by decide) (show _ < 6 by omega) dX5_change_44 ?_
        refine g_eq (I' := va_up J 26 (upd (J 26) (tn p) (nI (tn v)))) (rfl) rfl ?_
        refine g_il_n 0 dX5_change_45 rfl ?_
        exact g_iret dX5_change_46 (⟨fun _ => rfl, by rw [hok]; exact hJ4, by rw [hok]; show MR _ g n r9 q (ust u (tn p) (tn v)); exact hJM.row hq6 rfl rfl hJM.2.1 (fun k h5 h6 => va_up_ne _ _ (by omega)) (fun j hj => by
              show upd (J 26) (tn p) (nI (tn v)) j = _ ∧ _
              by_cases e : j = tn p
              · subst e; rw [upd_s, ust_s]; exact ⟨rfl, hvn⟩
              · rw [upd_n _ _ e, ust_n _ _ e]; exact hJM.2.2.2 j hj), hJF.up (MI_r (by decide) (by decide)) _, rfl⟩)
      · skip
        exact absurd h9 (by simp)

theorem in_X5_hush_5 : ∀ w ∈ wsX50, w ∈ wsX5_hush := by decide +kernel
set_option maxRecDepth 100000 in
set_option maxHeartbeats 4000000 in
theorem c_X5_hush (l : Launch) (γ : Gm) (I : IT) (L : LT) (P : PT) (g : GR) (n r9 q : Nat) (u : Nat → Nat) (hM : MR I g n r9 q u) : Ci l yX5_hush wsX5_hush 0 γ [.ref (γ.2.2 8)] I L P (fun r I' L' => r = nI q ∧ I' 8 4 = nI 0 ∧ MR I' g n r9 0 u ∧ FM I I' ∧ L' = L) := by
  refine Ci_of (own := RX5) (cc := cX5_hush) (maxL := 2) (by decide) rfl rfl (Nat.le_of_ble_eq_true rfl) ?_
  refine g_sub (lv' := [(0, .ref (γ.2.2 8))]) [0] rfl ?_
  refine g_al_n 0 dX5_hush_0 rfl ?_
  refine g_ic (v := nI 0) dX5_hush_1 (by decide) ?_
  refine g_put tyX5 8 14 (upd (I 8) 4 (nI 0)) (by decide) rfl in_X5_hush_5 tyX5_ok nmX5 rfl (by decide) (by decide +kernel) rfl rfl rfl rfl rfl (Nat.le_of_ble_eq_true rfl) dX5_hush_2 rfl ?_
  obtain ⟨J, hJ⟩ : ∃ J, J = va_up I 8 (upd (I 8) 4 (nI 0)) := ⟨_, rfl⟩
  have hJQ : FQ I J := by rw [hJ]; exact FQ.up8 I _ (by decide)
  have hJM := hJQ.mr hM
  have hJF := hJQ.fm
  have hJ4 : J 8 4 = nI 0 := by rw [hJ, va_us, upd_s]
  refine g_eq (I' := J) hJ.symm rfl ?_
  refine g_al_n 0 dX5_hush_5 rfl ?_
  refine g_get 8 9 (by decide) rfl in_X5_hush_5 rfl (by decide) (by decide +kernel) rfl rfl dX5_hush_6 ?_
  refine g_top (v := nI q) (hJM.2.1) ?_
  refine g_is_n (lv' := [(1, .int (nI q)), (0, .ref (γ.2.2 8))]) dX5_hush_9 (by decide) rfl ?_
  refine g_al_n 1 dX5_hush_10 rfl ?_
  refine g_pc (pc' := 11) rfl ?_
  refine g_ic (v := nI 0) dX5_hush_11 (by decide) ?_
  refine g_put tyX5 8 9 (upd (J 8) 2 (nI 0)) (by decide) rfl in_X5_hush_5 tyX5_ok nmX5 rfl (by decide) (by decide +kernel) rfl rfl rfl rfl rfl (Nat.le_of_ble_eq_true rfl) dX5_hush_12 rfl ?_
  refine g_eq (I' := va_up J 8 (upd (J 8) 2 (nI 0))) (rfl) rfl ?_
  refine g_il_n 0 dX5_hush_15 rfl ?_
  exact g_iret dX5_hush_16 (⟨rfl, by rw [va_us, upd_n _ _ (by decide)]; exact hJ4, hJM.row (by decide) (by rw [va_us, upd_n _ _ (by decide)]) (by rw [va_us, upd_n _ _ (by decide)]) (by rw [va_us, upd_s]) (fun k h5 h6 => va_up_ne _ _ (by omega)) (fun p hp => by omega), hJF.up MI_8 _, rfl⟩)

theorem in_X5_said_5 : ∀ w ∈ wsX50, w ∈ wsX5_said := by decide +kernel
set_option maxRecDepth 100000 in
set_option maxHeartbeats 4000000 in
theorem c_X5_said (l : Launch) (γ : Gm) (I : IT) (L : LT) (P : PT) (g : GR) (n r9 q : Nat) (u : Nat → Nat) (hM : MR I g n r9 q u) : Ci l yX5_said wsX5_said 0 γ [.ref (γ.2.2 8)] I L P (fun r I' L' => r = nI q ∧ I' 8 4 = nI 0 ∧ FQ I I' ∧ L' = L) := by
  refine Ci_of (own := RX5) (cc := cX5_said) (maxL := 1) (by decide) rfl rfl (Nat.le_of_ble_eq_true rfl) ?_
  refine g_sub (lv' := [(0, .ref (γ.2.2 8))]) [0] rfl ?_
  refine g_al_n 0 dX5_said_0 rfl ?_
  refine g_ic (v := nI 0) dX5_said_1 (by decide) ?_
  refine g_put tyX5 8 14 (upd (I 8) 4 (nI 0)) (by decide) rfl in_X5_said_5 tyX5_ok nmX5 rfl (by decide) (by decide +kernel) rfl rfl rfl rfl rfl (Nat.le_of_ble_eq_true rfl) dX5_said_2 rfl ?_
  obtain ⟨J, hJ⟩ : ∃ J, J = va_up I 8 (upd (I 8) 4 (nI 0)) := ⟨_, rfl⟩
  have hJQ : FQ I J := by rw [hJ]; exact FQ.up8 I _ (by decide)
  have hJM := hJQ.mr hM
  have hJF := hJQ.fm
  have hJ4 : J 8 4 = nI 0 := by rw [hJ, va_us, upd_s]
  refine g_eq (I' := J) hJ.symm rfl ?_
  refine g_al_n 0 dX5_said_5 rfl ?_
  refine g_get 8 9 (by decide) rfl in_X5_said_5 rfl (by decide) (by decide +kernel) rfl rfl dX5_said_6 ?_
  refine g_top (v := nI q) (hJM.2.1) ?_
  exact g_iret dX5_said_9 (⟨rfl, hJ4, hJQ, rfl⟩)

theorem in_X5_wordAt_5 : ∀ w ∈ wsX50, w ∈ wsX5_wordAt := by decide +kernel
set_option maxRecDepth 100000 in
set_option maxHeartbeats 4000000 in
theorem c_X5_wordAt (l : Launch) (γ : Gm) (I : IT) (L : LT) (P : PT) (g : GR) (n r9 q : Nat) (u : Nat → Nat) (hM : MR I g n r9 q u) (p : Int32) : Ci l yX5_wordAt wsX5_wordAt 1 γ [.ref (γ.2.2 8), .int p] I L P (fun r I' L' => (inB p q = true → r = nI (u (tn p))) ∧ I' 8 4 = nI (cd2 (inB p q) true) ∧ FQ I I' ∧ L' = L) := by
  refine Ci_of (own := RX5) (cc := cX5_wordAt) (maxL := 2) (by decide) rfl rfl (Nat.le_of_ble_eq_true rfl) ?_
  refine g_sub (lv' := [(0, .ref (γ.2.2 8)), (1, .int p)]) [0, 1] rfl ?_
  have hq6 := hM.2.2.1
  refine g_al_n 0 dX5_wordAt_0 rfl ?_
  refine g_al_n 0 dX5_wordAt_1 rfl ?_
  refine g_il_n 1 dX5_wordAt_2 rfl ?_
  refine g_ci0 (v := bi (inB p q)) (r_V (st := [.ref (γ.2.2 8)]) (As := [.int p]) (d := 0) 8 (by decide) rfl rfl (c_X5_isPlace l γ I L P p q hM.2.1 (by omega)) gX5_wordAt_X5_isPlace rfl ⟨rfl, by decide, by decide, rfl⟩ ⟨Nat.le_of_ble_eq_true rfl, Nat.le_of_ble_eq_true rfl⟩ rfl (Nat.le_of_ble_eq_true rfl) dX5_wordAt_3 ⟨Nat.zero_le _, Nat.zero_le _⟩) ?_
  refine g_ic (v := bi true) dX5_wordAt_6 (by decide) ?_
  refine g_ci (r_V (st := []) (As := [.int (bi (inB p q)), .int (bi true)]) (d := 0) 8 (by decide) rfl rfl (c_X5_goes l γ I L P (inB p q) (true)) gX5_wordAt_X5_goes rfl ⟨rfl, by decide, by decide, rfl⟩ ⟨Nat.le_of_ble_eq_true rfl, Nat.le_of_ble_eq_true rfl⟩ rfl (Nat.le_of_ble_eq_true rfl) dX5_wordAt_7 ⟨Nat.zero_le _, Nat.zero_le _⟩) ?_
  rintro rz2 J Lz2 ⟨ez2, hJ4, hJ8, hJk, eLz2⟩
  subst ez2
  rw [eLz2]
  have hJQ : FQ I J := ⟨fun k h _ _ => hJk k h, fun j hj => hJ8 j (by omega)⟩
  have hJM := hJQ.mr hM
  have hJF := hJQ.fm
  refine gb_eq (tgt := 22) dX5_wordAt_10 (by decide) (fun h1 => ?_) (fun h1 => ?_)
  · skip
    refine g_pc (pc' := 22) rfl ?_
    refine g_ic (v := nI 0) dX5_wordAt_22 (by decide) ?_
    exact g_iret dX5_wordAt_23 (⟨fun q9 => by rw [q9] at h1; exact absurd h1 (by decide), hJ4, hJQ, rfl⟩)
  · skip
    have hok : inB p q = true := by rw [← h1, Bool.and_true]
    obtain ⟨ep, hpq⟩ := inB_tn (by omega) hok
    refine g_lv (lv' := [(0, .ref (γ.2.2 8)), (1, .int (nI (tn p)))]) (by rw [← ep]) ?_
    refine g_al_n 0 dX5_wordAt_13 rfl ?_
    refine g_get (v := .ref (γ.2.2 26)) 8 8 (by decide) rfl in_X5_wordAt_5 rfl (by decide) (by decide +kernel) rfl rfl dX5_wordAt_14 ?_
    refine g_il_n 1 dX5_wordAt_17 rfl ?_
    refine g_iald (v := nI (u (tn p))) 26 (tn p) (by decide) (by decide) (show _ < 6 by omega) ((hJM.2.2.2 _ hpq).1) dX5_wordAt_18 ?_
    refine g_goto (tgt := 23) dX5_wordAt_19 (by decide) ?_
    exact g_iret dX5_wordAt_23 (⟨fun _ => rfl, hJ4, hJQ, rfl⟩)
