/-! the model: spoiling, correcting -/
theorem dm_d {p n w : Nat} (h : w < n) : (p * n + w) / n = p := by
  rw [Nat.mul_comm, Nat.mul_add_div (by omega), Nat.div_eq_of_lt h, Nat.add_zero]
theorem dm_m {p n w : Nat} (h : w < n) : (p * n + w) % n = w := by
  rw [Nat.mul_comm, Nat.mul_add_mod, Nat.mod_eq_of_lt h]
theorem ust_lt {u : Nat → Nat} {p w n q : Nat} (h : ∀ j, j < q → u j < n) (hw : w < n) : ∀ j, j < q → ust u p w j < n := fun j hj => by
  unfold ust
  split
  · exact hw
  · exact h j hj
/-- whether one changed word, two changed words do -/
def one_ok (g : GR) (r : Nat) (u : Nat → Nat) (q n : Nat) : Prop := ∃ p w, p < q ∧ w < n ∧ isS g r (ust u p w) q = true
def two_ok (g : GR) (r : Nat) (u : Nat → Nat) (q n : Nat) : Prop := ∃ p p2 w w2, p < p2 ∧ p2 < q ∧ w < n ∧ w2 < n ∧ isS g r (ust (ust u p w) p2 w2) q = true
noncomputable def chg (g : GR) (r : Nat) (u : Nat → Nat) (q n : Nat) : Int32 := if isS g r u q then nI 0 else if pB (one_ok g r u q n) then nI 1 else if pB (two_ok g r u q n) then nI 2 else -1
def cok (g : GR) (r : Nat) (u : Nat → Nat) (q n j : Nat) : Bool := !decide (j % n = u (j / n)) && isS g r (ust u (j / n) (j % n)) q
def cor (g : GR) (r : Nat) (u : Nat → Nat) (q n k : Nat) : Int32 := match kfs (cok g r u q n) (q * n) 0 k with
  | some j => nI (10 * (j / n) + j % n)
  | none => -1
def sok (g : GR) (r : Nat) (u : Nat → Nat) (q p w : Nat) : Bool := decide (g 0 w = g 0 (u p)) && !isS g r (ust u p w) q
def spo (g : GR) (r : Nat) (u : Nat → Nat) (q n p : Nat) : Int32 := if isS g r u q then fst1 (sok g r u q p) n 0 else -1

theorem in_X5_spoil_5 : ∀ w ∈ wsX50, w ∈ wsX5_spoil := by decide +kernel
set_option maxRecDepth 100000 in
set_option maxHeartbeats 4000000 in
theorem c_X5_spoil (l : Launch) (γ : Gm) (I : IT) (L : LT) (P : PT) (g : GR) (n r9 q : Nat) (u : Nat → Nat) (hM : MR I g n r9 q u) (x : Int32) : Ci l yX5_spoil wsX5_spoil 5 γ [.ref (γ.2.2 8), .int x] I L P (fun r I' L' => (inB x q = true → r = spo g r9 u q n (tn x)) ∧ I' 8 4 = nI (cd2 (inB x q) true) ∧ FQ I I' ∧ L' = L) := by
  refine Ci_of (own := RX5) (cc := cX5_spoil) (maxL := 4) (by decide) rfl rfl (Nat.le_of_ble_eq_true rfl) ?_
  refine g_sub (lv' := [(0, .ref (γ.2.2 8)), (1, .int x)]) [0, 1] rfl ?_
  have hq6 := hM.2.2.1
  have hn9 := hM.1.n_le
  refine g_al_n 0 dX5_spoil_0 rfl ?_
  refine g_al_n 0 dX5_spoil_1 rfl ?_
  refine g_il_n 1 dX5_spoil_2 rfl ?_
  refine g_ci0 (v := bi (inB x q)) (r_V (st := [.ref (γ.2.2 8)]) (As := [.int x]) (d := 0) 8 (by decide) rfl rfl (c_X5_isPlace l γ I L P x q hM.2.1 (by omega)) gX5_spoil_X5_isPlace rfl ⟨rfl, by decide, by decide, rfl⟩ ⟨Nat.le_of_ble_eq_true rfl, Nat.le_of_ble_eq_true rfl⟩ rfl (Nat.le_of_ble_eq_true rfl) dX5_spoil_3 ⟨Nat.zero_le _, Nat.zero_le _⟩) ?_
  refine g_ic (v := bi true) dX5_spoil_6 (by decide) ?_
  refine g_ci (r_V (st := []) (As := [.int (bi (inB x q)), .int (bi true)]) (d := 0) 8 (by decide) rfl rfl (c_X5_goes l γ I L P (inB x q) (true)) gX5_spoil_X5_goes rfl ⟨rfl, by decide, by decide, rfl⟩ ⟨Nat.le_of_ble_eq_true rfl, Nat.le_of_ble_eq_true rfl⟩ rfl (Nat.le_of_ble_eq_true rfl) dX5_spoil_7 ⟨Nat.zero_le _, Nat.zero_le _⟩) ?_
  rintro rz2 J Lz2 ⟨ez2, hJ4, hJ8, hJk, eLz2⟩
  subst ez2
  rw [eLz2]
  have hJQ : FQ I J := ⟨fun k h _ _ => hJk k h, fun j hj => hJ8 j (by omega)⟩
  have hJM := hJQ.mr hM
  refine gb_ne (tgt := 15) dX5_spoil_10 (by decide) (fun h1 => ?_) (fun h1 => ?_)
  · skip
    have hok : inB x q = true := by rw [← h1, Bool.and_true]
    obtain ⟨ep, hpq⟩ := inB_tn (by omega) hok
    obtain ⟨p, eqp⟩ : ∃ p, p = tn x := ⟨_, rfl⟩
    rw [← eqp] at ep hpq
    refine g_lv (lv' := [(0, .ref (γ.2.2 8)), (1, .int (nI p))]) (by rw [← ep]) ?_
    refine g_pc (pc' := 15) rfl ?_
    refine g_al_n 0 dX5_spoil_15 rfl ?_
    refine g_cv (r_V (st := []) (As := []) (d := 0) 8 (by decide) rfl rfl (c_X5_takes2 l γ J L P g n r9 q u hJM) gX5_spoil_X5_takes rfl ⟨rfl, by decide, by decide, rfl⟩ ⟨Nat.le_of_ble_eq_true rfl, Nat.le_of_ble_eq_true rfl⟩ rfl (Nat.le_of_ble_eq_true rfl) dX5_spoil_16 ⟨Nat.zero_le _, Nat.zero_le _⟩) ?_
    rintro K Lz3 ⟨hK3, hKx, hKQ, hK4, eLz3⟩
    rw [eLz3]
    have hKM := hKQ.mr hJM
    refine g_al_n 0 dX5_spoil_19 rfl ?_
    refine g_ci (r_V (st := []) (As := []) (d := 4) 8 (by decide) rfl rfl (c_X5_isSentence2 l γ K L P g n r9 q u hKM.1 hK3 hq6 hKx (fun p hp => (hM.2.2.2 p hp).2)) gX5_spoil_X5_isSentence rfl ⟨rfl, by decide, by decide, rfl⟩ ⟨Nat.le_of_ble_eq_true rfl, Nat.le_of_ble_eq_true rfl⟩ rfl (Nat.le_of_ble_eq_true rfl) dX5_spoil_20 ⟨Nat.zero_le _, Nat.zero_le _⟩) ?_
    rintro rz4 S Lz4 ⟨ez4, hk28, eLz4⟩
    subst ez4
    rw [eLz4]
    refine gb_ne (tgt := 28) dX5_spoil_23 (by decide) (fun hS => ?_) (fun hS => ?_)
    · skip
      refine g_ic (v := (-1 : Int32)) dX5_spoil_28 (by decide) ?_
      refine g_is_n (lv' := [(2, .int (-1 : Int32)), (0, .ref (γ.2.2 8)), (1, .int (nI p))]) dX5_spoil_29 (by decide) rfl ?_
      refine g_al_n 1 dX5_spoil_30 rfl ?_
      refine g_pc (pc' := 31) rfl ?_
      refine g_get 8 2 (by decide) rfl in_X5_spoil_5 rfl (by decide) (by decide +kernel) rfl rfl dX5_spoil_31 ?_
      refine g_top (v := nI n) (by rw [hk28 8 (by decide)]; exact hKM.1.cn) ?_
      refine g_ic (v := nI 1) dX5_spoil_34 (by decide) ?_
      refine g_isub (v := dn n) dX5_spoil_35 (dn_sub1 n) ?_
      refine g_is_n (lv' := [(3, .int (dn n)), (2, .int (-1 : Int32)), (0, .ref (γ.2.2 8)), (1, .int (nI p))]) dX5_spoil_36 (by decide) rfl ?_
      have lp : ∀ (f : Nat) (T : IT) (fd : Int32) (hf : f ≤ n) (hQ : FQ J T) (h3 : T 8 3 = nI q) (hx : ∀ j, j < q → j ≠ p → T 27 j = nI (u j)) (h4 : T 8 4 = J 8 4) (hfd : fd = fst1 (sok g r9 u q p) (n - f) f), G E0 l cX5_spoil 4 wsX5_spoil RX5 (some .int) (rmd 5) γ P (AE γ) (Qi γ P (fun r I' L' => (inB x q = true → r = spo g r9 u q n (tn x)) ∧ I' 8 4 = nI (cd2 (inB x q) true) ∧ FQ I I' ∧ L' = L)) 0 0 37 [(0, .ref (γ.2.2 8)), (1, .int (nI p)), (2, .int fd), (3, .int (dn f))] [] T L := by
        intro f
        induction f with
        | zero =>
          intro T fd hf hQ h3 hx h4 hfd
          refine g_lv (lv' := [(0, .ref (γ.2.2 8)), (1, .int (nI p)), (2, .int fd), (3, .int (-1 : Int32))]) rfl ?_
          refine g_il_n 3 dX5_spoil_37 rfl ?_
          refine g_if_lt (tgt := 97) dX5_spoil_38 (by decide) (fun h5 => ?_) (fun h5 => ?_)
          · skip
            refine g_il_n 2 dX5_spoil_97 rfl ?_
            exact g_iret dX5_spoil_98 (⟨fun _ => by rw [spo, hS, hfd, ← eqp]; rfl, by rw [h4]; exact hJ4, hJQ.trans hQ, rfl⟩)
          · skip
            exact absurd (by decide) h5
        | succ f ih =>
          intro T fd hf hQ h3 hx h4 hfd
          refine g_lv (lv' := [(0, .ref (γ.2.2 8)), (1, .int (nI p)), (2, .int fd), (3, .int (nI f))]) rfl ?_
          have hTM := hQ.mr hJM
          have hfn : f < n := by omega
          have hup := (hM.2.2.2 p hpq).2
          refine g_pc (pc' := 37) rfl ?_
          refine g_il_n 3 dX5_spoil_37 rfl ?_
          refine gz_lt (tgt := 97) dX5_spoil_38 (by decide) (by omega) (fun h5 => ?_) (fun h5 => ?_)
          · skip
            exfalso; omega
          · skip
            refine g_il_n 3 dX5_spoil_41 rfl ?_
            refine g_al_n 0 dX5_spoil_42 rfl ?_
            refine g_get (v := .ref (γ.2.2 26)) 8 8 (by decide) rfl in_X5_spoil_5 rfl (by decide) (by decide +kernel) rfl rfl dX5_spoil_43 ?_
            refine g_il_n 1 dX5_spoil_46 rfl ?_
            refine g_iald (v := nI (u p)) 26 p (by decide) (by decide) (show p < 6 by omega) ((hTM.2.2.2 p hpq).1) dX5_spoil_47 ?_
            refine gn_eq (tgt := 91) dX5_spoil_48 (by decide) (by omega) (by omega) (fun h6 => ?_) (fun h6 => ?_)
            · skip
              have hc : sok g r9 u q p f = false := by rw [sok, h6, ust_id, hS]; simp
              refine g_pc (pc' := 91) rfl ?_
              refine g_inc (v := dn f) (lv' := [(3, .int (dn f)), (0, .ref (γ.2.2 8)), (1, .int (nI p)), (2, .int fd)]) 3 dX5_spoil_91 rfl (dec_1 _) (by decide) rfl ?_
              refine g_goto (tgt := 37) dX5_spoil_94 (by decide) ?_
              refine g_sub [1, 2, 3, 0] rfl ?_
              exact ih T fd (by omega) hQ h3 hx h4 (by rw [hfd]; rw [show n - f = (n - (f + 1)) + 1 by omega, fst1_s, hc]; rfl)
            · skip
              refine g_al_n 0 dX5_spoil_51 rfl ?_
              refine g_get (v := .ref (γ.2.2 20)) 8 0 (by decide) rfl in_X5_spoil_5 rfl (by decide) (by decide +kernel) rfl rfl dX5_spoil_52 ?_
              refine g_il_n 3 dX5_spoil_55 rfl ?_
              refine g_iald (v := nI (g 0 f)) 20 f (by decide) (by decide) (show _ < 9 by omega) (hTM.1.cat hfn) dX5_spoil_56 ?_
              refine g_al_n 0 dX5_spoil_57 rfl ?_
              refine g_get (v := .ref (γ.2.2 20)) 8 0 (by decide) rfl in_X5_spoil_5 rfl (by decide) (by decide +kernel) rfl rfl dX5_spoil_58 ?_
              refine g_pc (pc' := 61) rfl ?_
              refine g_al_n 0 dX5_spoil_61 rfl ?_
              refine g_get (v := .ref (γ.2.2 26)) 8 8 (by decide) rfl in_X5_spoil_5 rfl (by decide) (by decide +kernel) rfl rfl dX5_spoil_62 ?_
              refine g_il_n 1 dX5_spoil_65 rfl ?_
              refine g_iald (v := nI (u p)) 26 p (by decide) (by decide) (show p < 6 by omega) ((hTM.2.2.2 p hpq).1) dX5_spoil_66 ?_
              refine g_iald (v := nI (g 0 (u p))) 20 (u p) (by decide) (by decide) (show _ < 9 by omega) (hTM.1.cat hup) dX5_spoil_67 ?_
              refine gn_ne (tgt := 91) dX5_spoil_68 (by decide) (by have := hTM.1.cat_lt hfn; omega) (by have := hTM.1.cat_lt hup; omega) (fun h7 => ?_) (fun h7 => ?_)
              · skip
                have hc : sok g r9 u q p f = false := by rw [sok, decide_eq_false h7]; rfl
                refine g_inc (v := dn f) (lv' := [(3, .int (dn f)), (0, .ref (γ.2.2 8)), (1, .int (nI p)), (2, .int fd)]) 3 dX5_spoil_91 rfl (dec_1 _) (by decide) rfl ?_
                refine g_goto (tgt := 37) dX5_spoil_94 (by decide) ?_
                refine g_sub [1, 2, 3, 0] rfl ?_
                exact ih T fd (by omega) hQ h3 hx h4 (by rw [hfd]; rw [show n - f = (n - (f + 1)) + 1 by omega, fst1_s, hc]; rfl)
              · skip
                refine g_pc (pc' := 71) rfl ?_
                refine g_al_n 0 dX5_spoil_71 rfl ?_
                refine g_get (v := .ref (γ.2.2 27)) 8 10 (by decide) rfl in_X5_spoil_5 rfl (by decide) (by decide +kernel) rfl rfl dX5_spoil_72 ?_
                refine g_il_n 1 dX5_spoil_75 rfl ?_
                refine g_il_n 3 dX5_spoil_76 rfl ?_
                refine g_iast 27 p (by decide) (by decide) (show p < 6 by omega) dX5_spoil_77 ?_
                obtain ⟨T2, wT2⟩ : ∃ T2, T2 = va_up T 27 (upd (T 27) p (nI f)) := ⟨_, rfl⟩
                have T2_a : T2 27 = upd (T 27) p (nI f) := by rw [wT2, va_us]
                have T2_b : ∀ k, k ≠ 27 → T2 k = T k := fun k hk => by rw [wT2, va_up_ne _ _ hk]
                have T2_q : FQ T T2 := by rw [wT2]; exact FQ.up27 _ _
                refine g_eq (I' := T2) wT2.symm rfl ?_
                have hT2M := T2_q.mr hTM
                refine g_al_n 0 dX5_spoil_78 rfl ?_
                refine g_ci (r_V (st := []) (As := []) (d := 4) 8 (by decide) rfl rfl (c_X5_isSentence2 l γ T2 L P g n r9 q (ust u p f) hT2M.1 (by rw [T2_b 8 (by decide)]; exact h3) hq6 (fun j hj => by rw [T2_a]; exact if e : j = p then (by subst e; rw [upd_s, ust_s]) else (by rw [upd_n _ _ e, ust_n _ _ e]; exact hx j hj e)) (ust_lt (fun j hj => (hM.2.2.2 j hj).2) hfn)) gX5_spoil_X5_isSentence rfl ⟨rfl, by decide, by decide, rfl⟩ ⟨Nat.le_of_ble_eq_true rfl, Nat.le_of_ble_eq_true rfl⟩ rfl (Nat.le_of_ble_eq_true rfl) dX5_spoil_79 ⟨Nat.zero_le _, Nat.zero_le _⟩) ?_
                rintro rz5 T3 Lz5 ⟨ez5, hs28, eLz5⟩
                subst ez5
                rw [eLz5]
                have hQ3 : FQ J T3 := (hQ.trans T2_q).trans (FQ.k28 hs28)
                have h33 : T3 8 3 = nI q := by rw [hs28 8 (by decide), T2_b 8 (by decide)]; exact h3
                have h43 : T3 8 4 = J 8 4 := by rw [hs28 8 (by decide), T2_b 8 (by decide)]; exact h4
                have hx3 : ∀ j, j < q → j ≠ p → T3 27 j = nI (u j) := fun j hj hjp => by rw [hs28 27 (by decide), T2_a, upd_n _ _ hjp]; exact hx j hj hjp
                refine gb_eq (tgt := 89) dX5_spoil_82 (by decide) (fun hb => ?_) (fun hb => ?_)
                · skip
                  have hc : sok g r9 u q p f = true := by rw [sok, decide_eq_true h7, hb]; rfl
                  refine g_pc (pc' := 89) rfl ?_
                  refine g_il_n 3 dX5_spoil_89 rfl ?_
                  refine g_is_n (lv' := [(2, .int (nI f)), (0, .ref (γ.2.2 8)), (1, .int (nI p)), (3, .int (nI f))]) dX5_spoil_90 (by decide) rfl ?_
                  refine g_inc (v := dn f) (lv' := [(3, .int (dn f)), (2, .int (nI f)), (0, .ref (γ.2.2 8)), (1, .int (nI p))]) 3 dX5_spoil_91 rfl (dec_1 _) (by decide) rfl ?_
                  refine g_goto (tgt := 37) dX5_spoil_94 (by decide) ?_
                  refine g_sub [2, 3, 1, 0] rfl ?_
                  exact ih T3 (nI f) (by omega) hQ3 h33 hx3 h43 (by rw [show n - f = (n - (f + 1)) + 1 by omega, fst1_s, hc]; rfl)
                · skip
                  have hc : sok g r9 u q p f = false := by rw [sok, hb]; simp
                  refine g_il_n 2 dX5_spoil_85 rfl ?_
                  refine g_goto (tgt := 90) dX5_spoil_86 (by decide) ?_
                  refine g_is_n (lv' := [(2, .int fd), (0, .ref (γ.2.2 8)), (1, .int (nI p)), (3, .int (nI f))]) dX5_spoil_90 (by decide) rfl ?_
                  refine g_inc (v := dn f) (lv' := [(3, .int (dn f)), (2, .int fd), (0, .ref (γ.2.2 8)), (1, .int (nI p))]) 3 dX5_spoil_91 rfl (dec_1 _) (by decide) rfl ?_
                  refine g_pc (pc' := 94) rfl ?_
                  refine g_goto (tgt := 37) dX5_spoil_94 (by decide) ?_
                  refine g_sub [2, 3, 1, 0] rfl ?_
                  exact ih T3 fd (by omega) hQ3 h33 hx3 h43 (by rw [hfd]; rw [show n - f = (n - (f + 1)) + 1 by omega, fst1_s, hc]; rfl)
      refine g_sub [2, 3, 1, 0] rfl ?_
      exact lp n S (-1) (Nat.le_refl _) (hKQ.trans (FQ.k28 hk28)) (by rw [hk28 8 (by decide)]; exact hK3) (fun j hj _ => by rw [hk28 27 (by decide)]; exact hKx j hj) (by rw [hk28 8 (by decide), hK4]) (by rw [Nat.sub_self]; rfl)
    · skip
      refine g_ic (v := (-1 : Int32)) dX5_spoil_26 (by decide) ?_
      exact g_iret dX5_spoil_27 (⟨fun _ => by rw [spo, hS]; rfl, by rw [hk28 8 (by decide), hK4, hJ4], (hJQ.trans hKQ).trans (FQ.k28 hk28), rfl⟩)
  · skip
    refine g_ic (v := nI 0) dX5_spoil_13 (by decide) ?_
    exact g_iret dX5_spoil_14 (⟨fun q9 => by rw [q9] at h1; exact absurd h1 (by simp), hJ4, hJQ, rfl⟩)

theorem in_X5_changes_5 : ∀ w ∈ wsX50, w ∈ wsX5_changes := by decide +kernel
set_option maxRecDepth 100000 in
set_option maxHeartbeats 4000000 in
theorem c_X5_changes (l : Launch) (γ : Gm) (I : IT) (L : LT) (P : PT) (g : GR) (n r9 q : Nat) (u : Nat → Nat) (hM : MR I g n r9 q u) : Ci l yX5_changes wsX5_changes 5 γ [.ref (γ.2.2 8)] I L P (fun r I' L' => r = chg g r9 u q n ∧ I' 8 4 = nI 0 ∧ FQ I I' ∧ L' = L) := by
  refine Ci_of (own := RX5) (cc := cX5_changes) (maxL := 5) (by decide) rfl rfl (Nat.le_of_ble_eq_true rfl) ?_
  refine g_sub (lv' := [(0, .ref (γ.2.2 8))]) [0] rfl ?_
  have hq6 := hM.2.2.1
  have hn9 := hM.1.n_le
  have hnn : n * n ≤ 9 * 9 := Nat.mul_le_mul hn9 hn9
  refine g_al_n 0 dX5_changes_0 rfl ?_
  refine g_ic (v := nI 0) dX5_changes_1 (by decide) ?_
  refine g_put tyX5 8 14 (upd (I 8) 4 (nI 0)) (by decide) rfl in_X5_changes_5 tyX5_ok nmX5 rfl (by decide) (by decide +kernel) rfl rfl rfl rfl rfl (Nat.le_of_ble_eq_true rfl) dX5_changes_2 rfl ?_
  obtain ⟨J, hJ⟩ : ∃ J, J = va_up I 8 (upd (I 8) 4 (nI 0)) := ⟨_, rfl⟩
  have hJQ : FQ I J := by rw [hJ]; exact FQ.up8 I _ (by decide)
  have hJM := hJQ.mr hM
  have hJ4 : J 8 4 = nI 0 := by rw [hJ, va_us, upd_s]
  refine g_eq (I' := J) hJ.symm rfl ?_
  refine g_al_n 0 dX5_changes_5 rfl ?_
  refine g_cv (r_V (st := []) (As := []) (d := 0) 8 (by decide) rfl rfl (c_X5_takes2 l γ J L P g n r9 q u hJM) gX5_changes_X5_takes rfl ⟨rfl, by decide, by decide, rfl⟩ ⟨Nat.le_of_ble_eq_true rfl, Nat.le_of_ble_eq_true rfl⟩ rfl (Nat.le_of_ble_eq_true rfl) dX5_changes_6 ⟨Nat.zero_le _, Nat.zero_le _⟩) ?_
  rintro K Lz1 ⟨hK3, hKx, hKQ, hK4, eLz1⟩
  rw [eLz1]
  have hKM := hKQ.mr hJM
  refine g_al_n 0 dX5_changes_9 rfl ?_
  refine g_ci (r_V (st := []) (As := []) (d := 4) 8 (by decide) rfl rfl (c_X5_isSentence2 l γ K L P g n r9 q u hKM.1 hK3 hq6 hKx (fun j hj => (hM.2.2.2 j hj).2)) gX5_changes_X5_isSentence rfl ⟨rfl, by decide, by decide, rfl⟩ ⟨Nat.le_of_ble_eq_true rfl, Nat.le_of_ble_eq_true rfl⟩ rfl (Nat.le_of_ble_eq_true rfl) dX5_changes_10 ⟨Nat.zero_le _, Nat.zero_le _⟩) ?_
  rintro rz2 S Lz2 ⟨ez2, hk28, eLz2⟩
  subst ez2
  rw [eLz2]
  refine g_pc (pc' := 13) rfl ?_
  refine gb_eq (tgt := 18) dX5_changes_13 (by decide) (fun hS => ?_) (fun hS => ?_)
  · skip
    refine g_ic (v := (-1 : Int32)) dX5_changes_18 (by decide) ?_
    refine g_is_n (lv' := [(1, .int (-1 : Int32)), (0, .ref (γ.2.2 8))]) dX5_changes_19 (by decide) rfl ?_
    refine g_ic (v := nI 0) dX5_changes_20 (by decide) ?_
    refine g_is_n (lv' := [(2, .int (nI 0)), (1, .int (-1 : Int32)), (0, .ref (γ.2.2 8))]) dX5_changes_21 (by decide) rfl ?_
    refine g_lv (lv' := [(2, .int (nI 0)), (1, .int (if false then nI 1 else (-1 : Int32))), (0, .ref (γ.2.2 8))]) rfl ?_
    have lp : ∀ (z : Nat) (p : Nat) (B : Bool) (T : IT) (hp : p + z = q) (hB : B = true ↔ ∃ p9 w9, p9 < p ∧ w9 < n ∧ isS g r9 (ust u p9 w9) q = true) (hQ : FQ J T) (h4 : T 8 4 = J 8 4), G E0 l cX5_changes 5 wsX5_changes RX5 (some .int) (rmd 5) γ P (AE γ) (Qi γ P (fun r I' L' => r = chg g r9 u q n ∧ I' 8 4 = nI 0 ∧ FQ I I' ∧ L' = L)) 0 0 22 [(0, .ref (γ.2.2 8)), (1, .int (if B then nI 1 else (-1 : Int32))), (2, .int (nI p))] [] T L := by
      intro z
      induction z with
      | zero =>
        intro p B T hp hB hQ h4
        simp only [Nat.add_zero] at hp
        have hTM := hQ.mr hJM
        have hB1 : B = true ↔ one_ok g r9 u q n := hB.trans ⟨fun ⟨p9, w9, e1, e2, e3⟩ => ⟨p9, w9, by omega, e2, e3⟩, fun ⟨p9, w9, e1, e2, e3⟩ => ⟨p9, w9, by omega, e2, e3⟩⟩
        refine g_il_n 2 dX5_changes_22 rfl ?_
        refine g_al_n 0 dX5_changes_23 rfl ?_
        refine g_get 8 9 (by decide) rfl in_X5_changes_5 rfl (by decide) (by decide +kernel) rfl rfl dX5_changes_24 ?_
        refine g_top (v := nI q) (hTM.2.1) ?_
        refine g_pc (pc' := 27) rfl ?_
        refine gn_ge (tgt := 76) dX5_changes_27 (by decide) (by omega) (by omega) (fun h5 => ?_) (fun h5 => ?_)
        · skip
          by_cases hb1 : B = true
          · skip
            have hone := hB1.mp hb1
            subst hb1
            refine g_lv (lv' := [(0, .ref (γ.2.2 8)), (1, .int (nI 1)), (2, .int (nI p))]) rfl ?_
            refine g_ic (v := nI 0) dX5_changes_76 (by decide) ?_
            refine g_is_n (lv' := [(2, .int (nI 0)), (0, .ref (γ.2.2 8)), (1, .int (nI 1))]) dX5_changes_77 (by decide) rfl ?_
            refine g_il_n 0 dX5_changes_78 rfl ?_
            refine g_al_n 1 dX5_changes_79 rfl ?_
            refine g_get 8 9 (by decide) rfl in_X5_changes_5 rfl (by decide) (by decide +kernel) rfl rfl dX5_changes_80 ?_
            refine g_top (v := nI q) (hTM.2.1) ?_
            refine gn_ge (tgt := 188) dX5_changes_83 (by decide) (by omega) (by omega) (fun h7 => ?_) (fun h7 => ?_)
            · skip
              refine g_il_n 2 dX5_changes_188 rfl ?_
              refine g_pc (pc' := 189) rfl ?_
              exact g_iret dX5_changes_189 (⟨by rw [chg, hS]; rw [pB_of hone]; rfl, by rw [h4]; exact hJ4, hJQ.trans hQ, rfl⟩)
            · skip
              refine g_il_n 2 dX5_changes_86 rfl ?_
              refine gz_ge (tgt := 188) dX5_changes_87 (by decide) (by omega) (fun h8 => ?_) (fun h8 => ?_)
              · skip
                refine g_il_n 2 dX5_changes_188 rfl ?_
                exact g_iret dX5_changes_189 (⟨by rw [chg, hS]; rw [pB_of hone]; rfl, by rw [h4]; exact hJ4, hJQ.trans hQ, rfl⟩)
              · skip
                exact h8.elim
          · skip
            have hone : ¬ one_ok g r9 u q n := fun e => hb1 (hB1.mpr e)
            have hb2 : B = false := by simpa using hb1
            subst hb2
            refine g_lv (lv' := [(0, .ref (γ.2.2 8)), (1, .int (-1 : Int32)), (2, .int (nI p))]) rfl ?_
            refine g_ic (v := nI 0) dX5_changes_76 (by decide) ?_
            refine g_is_n (lv' := [(2, .int (nI 0)), (0, .ref (γ.2.2 8)), (1, .int (-1 : Int32))]) dX5_changes_77 (by decide) rfl ?_
            have lp3 : ∀ (z3 : Nat) (p : Nat) (T : IT) (hp : p + z3 = q) (hN1 : ∀ p8 p9, p8 < p → p8 < p9 → p9 < q → ∀ w9 w8, w9 < n → w8 < n → isS g r9 (ust (ust u p8 w9) p9 w8) q = false) (hQ : FQ J T) (h4 : T 8 4 = J 8 4), G E0 l cX5_changes 5 wsX5_changes RX5 (some .int) (rmd 5) γ P (AE γ) (Qi γ P (fun r I' L' => r = chg g r9 u q n ∧ I' 8 4 = nI 0 ∧ FQ I I' ∧ L' = L)) 0 0 78 [(0, .ref (γ.2.2 8)), (1, .int (-1 : Int32)), (2, .int (nI p))] [] T L := by
              intro z3
              induction z3 with
              | zero =>
                intro p T hp hN1 hQ h4
                simp only [Nat.add_zero] at hp
                have hTM := hQ.mr hJM
                have htwo : ¬ two_ok g r9 u q n := fun ⟨p8, p9, w9, w8, e1, e2, e3, e4, e5⟩ => by rw [hN1 p8 p9 (by omega) e1 e2 w9 w8 e3 e4] at e5; exact absurd e5 (by simp)
                refine g_il_n 2 dX5_changes_78 rfl ?_
                refine g_al_n 0 dX5_changes_79 rfl ?_
                refine g_get 8 9 (by decide) rfl in_X5_changes_5 rfl (by decide) (by decide +kernel) rfl rfl dX5_changes_80 ?_
                refine g_top (v := nI q) (hTM.2.1) ?_
                refine gn_ge (tgt := 188) dX5_changes_83 (by decide) (by omega) (by omega) (fun h7 => ?_) (fun h7 => ?_)
                · skip
                  refine g_il_n 1 dX5_changes_188 rfl ?_
                  refine g_pc (pc' := 189) rfl ?_
                  exact g_iret dX5_changes_189 (⟨by rw [chg, hS]; rw [pB_no hone, pB_no htwo]; rfl, by rw [h4]; exact hJ4, hJQ.trans hQ, rfl⟩)
                · skip
                  exfalso; omega
              | succ z3 ih3 =>
                intro p T hp hN1 hQ h4
                have hTM := hQ.mr hJM
                have hpq : p < q := by omega
                refine g_il_n 2 dX5_changes_78 rfl ?_
                refine g_al_n 0 dX5_changes_79 rfl ?_
                refine g_get 8 9 (by decide) rfl in_X5_changes_5 rfl (by decide) (by decide +kernel) rfl rfl dX5_changes_80 ?_
                refine g_top (v := nI q) (hTM.2.1) ?_
                refine gn_ge (tgt := 188) dX5_changes_83 (by decide) (by omega) (by omega) (fun h7 => ?_) (fun h7 => ?_)
                · skip
                  exfalso; omega
                · skip
                  refine g_il_n 1 dX5_changes_86 rfl ?_
                  refine g_if_ge (tgt := 188) dX5_changes_87 (by decide) (fun h8 => ?_) (fun h8 => ?_)
                  · skip
                    exact absurd h8 (by decide)
                  · skip
                    refine g_il_n 2 dX5_changes_90 rfl ?_
                    refine g_pc (pc' := 91) rfl ?_
                    refine g_ic (v := nI 1) dX5_changes_91 (by decide) ?_
                    refine g_iadd (v := nI (p + 1)) dX5_changes_92 (nI_add _ _) ?_
                    refine g_is_n (lv' := [(3, .int (nI (p + 1))), (0, .ref (γ.2.2 8)), (1, .int (-1 : Int32)), (2, .int (nI p))]) dX5_changes_93 (by decide) rfl ?_
                    have lp4 : ∀ (z4 : Nat) (p2 : Nat) (T : IT) (hp2 : p2 + z4 = q + (if p < q then 0 else 1)) (hpp : p < p2) (hN2 : ∀ p9, p < p9 → p9 < p2 → ∀ w9 w8, w9 < n → w8 < n → isS g r9 (ust (ust u p w9) p9 w8) q = false) (hQ : FQ J T) (h4 : T 8 4 = J 8 4), G E0 l cX5_changes 5 wsX5_changes RX5 (some .int) (rmd 5) γ P (AE γ) (Qi γ P (fun r I' L' => r = chg g r9 u q n ∧ I' 8 4 = nI 0 ∧ FQ I I' ∧ L' = L)) 0 0 94 [(0, .ref (γ.2.2 8)), (1, .int (-1 : Int32)), (2, .int (nI p)), (3, .int (nI p2))] [] T L := by
                      intro z4
                      induction z4 with
                      | zero =>
                        intro p2 T hp2 hpp hN2 hQ h4
                        rw [if_pos hpq] at hp2
                        simp only [Nat.add_zero] at hp2
                        have hTM := hQ.mr hJM
                        refine g_il_n 3 dX5_changes_94 rfl ?_
                        refine g_al_n 0 dX5_changes_95 rfl ?_
                        refine g_get 8 9 (by decide) rfl in_X5_changes_5 rfl (by decide) (by decide +kernel) rfl rfl dX5_changes_96 ?_
                        refine g_top (v := nI q) (hTM.2.1) ?_
                        refine gn_ge (tgt := 182) dX5_changes_99 (by decide) (by omega) (by omega) (fun h9 => ?_) (fun h9 => ?_)
                        · skip
                          refine g_inc (v := nI (p + 1)) (lv' := [(2, .int (nI (p + 1))), (0, .ref (γ.2.2 8)), (1, .int (-1 : Int32)), (3, .int (nI p2))]) 2 dX5_changes_182 rfl (inc_1 _) (by decide) rfl ?_
                          refine g_pc (pc' := 185) rfl ?_
                          refine g_goto (tgt := 78) dX5_changes_185 (by decide) ?_
                          refine g_sub [1, 2, 0] rfl ?_
                          exact ih3 (p + 1) T (by omega) (fun p8 p9 h9 h10 h12 w9 w8 h13 h14 => by
                            by_cases e : p8 = p
                            · subst e; exact hN2 p9 h10 (by omega) w9 w8 h13 h14
                            · exact hN1 p8 p9 (by omega) h10 h12 w9 w8 h13 h14) hQ h4
                        · skip
                          exfalso; omega
                      | succ z4 ih4 =>
                        intro p2 T hp2 hpp hN2 hQ h4
                        rw [if_pos hpq] at hp2
                        have hTM := hQ.mr hJM
                        have hp2q : p2 < q := by omega
                        refine g_il_n 3 dX5_changes_94 rfl ?_
                        refine g_al_n 0 dX5_changes_95 rfl ?_
                        refine g_get 8 9 (by decide) rfl in_X5_changes_5 rfl (by decide) (by decide +kernel) rfl rfl dX5_changes_96 ?_
                        refine g_top (v := nI q) (hTM.2.1) ?_
                        refine gn_ge (tgt := 182) dX5_changes_99 (by decide) (by omega) (by omega) (fun h9 => ?_) (fun h9 => ?_)
                        · skip
                          exfalso; omega
                        · skip
                          refine g_il_n 1 dX5_changes_102 rfl ?_
                          refine g_if_ge (tgt := 182) dX5_changes_103 (by decide) (fun h10 => ?_) (fun h10 => ?_)
                          · skip
                            exact absurd h10 (by decide)
                          · skip
                            refine g_al_n 0 dX5_changes_106 rfl ?_
                            refine g_pc (pc' := 107) rfl ?_
                            refine g_cv (r_V (st := []) (As := []) (d := 0) 8 (by decide) rfl rfl (c_X5_takes2 l γ T L P g n r9 q u hTM) gX5_changes_X5_takes rfl ⟨rfl, by decide, by decide, rfl⟩ ⟨Nat.le_of_ble_eq_true rfl, Nat.le_of_ble_eq_true rfl⟩ rfl (Nat.le_of_ble_eq_true rfl) dX5_changes_107 ⟨Nat.zero_le _, Nat.zero_le _⟩) ?_
                            rintro K2 Lz203 ⟨hK23, hK2x, hK2Q, hK24, eLz203⟩
                            rw [eLz203]
                            have hK2M := hK2Q.mr hTM
                            refine g_ic (v := nI 0) dX5_changes_110 (by decide) ?_
                            refine g_is (lv' := [(4, .int (nI 0)), (0, .ref (γ.2.2 8)), (1, .int (-1 : Int32)), (2, .int (nI p)), (3, .int (nI p2))]) dX5_changes_111 (by decide) rfl ?_
                            have lp5 : ∀ (z5 : Nat) (c : Nat) (T : IT) (hc : c + z5 = n * n) (hN3 : ∀ c9, c9 < c → isS g r9 (ust (ust u p (c9 / n)) p2 (c9 % n)) q = false) (hQ : FQ J T) (h4 : T 8 4 = J 8 4) (h3 : T 8 3 = nI q) (hx : ∀ j, j < q → j ≠ p → j ≠ p2 → T 27 j = nI (u j)), G E0 l cX5_changes 5 wsX5_changes RX5 (some .int) (rmd 5) γ P (AE γ) (Qi γ P (fun r I' L' => r = chg g r9 u q n ∧ I' 8 4 = nI 0 ∧ FQ I I' ∧ L' = L)) 0 0 113 [(0, .ref (γ.2.2 8)), (1, .int (-1 : Int32)), (2, .int (nI p)), (3, .int (nI p2)), (4, .int (nI c))] [] T L := by
                              intro z5
                              induction z5 with
                              | zero =>
                                intro c T hc hN3 hQ h4 h3 hx
                                simp only [Nat.add_zero] at hc
                                have hTM := hQ.mr hJM
                                refine g_il 4 dX5_changes_113 rfl ?_
                                refine g_al_n 0 dX5_changes_115 rfl ?_
                                refine g_get 8 2 (by decide) rfl in_X5_changes_5 rfl (by decide) (by decide +kernel) rfl rfl dX5_changes_116 ?_
                                refine g_top (v := nI n) (hTM.1.cn) ?_
                                refine g_al_n 0 dX5_changes_119 rfl ?_
                                refine g_get 8 2 (by decide) rfl in_X5_changes_5 rfl (by decide) (by decide +kernel) rfl rfl dX5_changes_120 ?_
                                refine g_top (v := nI n) (hTM.1.cn) ?_
                                refine g_pc (pc' := 123) rfl ?_
                                refine g_imul (v := nI (n * n)) dX5_changes_123 (pk_mul _ _) ?_
                                refine gn_ge (tgt := 176) dX5_changes_124 (by decide) (by omega) (by omega) (fun h11 => ?_) (fun h11 => ?_)
                                · skip
                                  refine g_inc (v := nI (p2 + 1)) (lv' := [(3, .int (nI (p2 + 1))), (0, .ref (γ.2.2 8)), (1, .int (-1 : Int32)), (2, .int (nI p)), (4, .int (nI c))]) 3 dX5_changes_176 rfl (inc_1 _) (by decide) rfl ?_
                                  refine g_goto (tgt := 94) dX5_changes_179 (by decide) ?_
                                  refine g_sub [1, 2, 3, 0] rfl ?_
                                  exact ih4 (p2 + 1) T (by rw [if_pos hpq]; omega) (by omega) (fun p9 h9 h10 w9 w8 h12 h13 => by
                                    by_cases e : p9 = p2
                                    · subst e
                                      have hlt : w9 * n + w8 < n * n := Nat.lt_of_lt_of_le (Nat.add_lt_add_left h13 _) (by rw [← Nat.succ_mul]; exact Nat.mul_le_mul_right n h12)
                                      have h14 := hN3 (w9 * n + w8) (by omega)
                                      rw [dm_d h13, dm_m h13] at h14; exact h14
                                    · exact hN2 p9 h9 (by omega) w9 w8 h12 h13) hQ h4
                                · skip
                                  exfalso; omega
                              | succ z5 ih5 =>
                                intro c T hc hN3 hQ h4 h3 hx
                                have hTM := hQ.mr hJM
                                have hcn : c < n * n := by omega
                                have hn0 : 0 < n := Nat.pos_of_ne_zero (fun e => by subst e; omega)
                                have hc1 : c / n < n := (Nat.div_lt_iff_lt_mul hn0).mpr hcn
                                have hc2 : c % n < n := Nat.mod_lt _ hn0
                                refine g_il 4 dX5_changes_113 rfl ?_
                                refine g_al_n 0 dX5_changes_115 rfl ?_
                                refine g_get 8 2 (by decide) rfl in_X5_changes_5 rfl (by decide) (by decide +kernel) rfl rfl dX5_changes_116 ?_
                                refine g_top (v := nI n) (hTM.1.cn) ?_
                                refine g_al_n 0 dX5_changes_119 rfl ?_
                                refine g_pc (pc' := 120) rfl ?_
                                refine g_get 8 2 (by decide) rfl in_X5_changes_5 rfl (by decide) (by decide +kernel) rfl rfl dX5_changes_120 ?_
                                refine g_top (v := nI n) (hTM.1.cn) ?_
                                refine g_imul (v := nI (n * n)) dX5_changes_123 (pk_mul _ _) ?_
                                refine gn_ge (tgt := 176) dX5_changes_124 (by decide) (by omega) (by omega) (fun h11 => ?_) (fun h11 => ?_)
                                · skip
                                  exfalso; omega
                                · skip
                                  refine g_il_n 1 dX5_changes_127 rfl ?_
                                  refine g_if_ge (tgt := 176) dX5_changes_128 (by decide) (fun h12 => ?_) (fun h12 => ?_)
                                  · skip
                                    exact absurd h12 (by decide)
                                  · skip
                                    refine g_al_n 0 dX5_changes_131 rfl ?_
                                    refine g_get (v := .ref (γ.2.2 27)) 8 10 (by decide) rfl in_X5_changes_5 rfl (by decide) (by decide +kernel) rfl rfl dX5_changes_132 ?_
                                    refine g_il_n 2 dX5_changes_135 rfl ?_
                                    refine g_pc (pc' := 136) rfl ?_
                                    refine g_il 4 dX5_changes_136 rfl ?_
                                    refine g_al_n 0 dX5_changes_138 rfl ?_
                                    refine g_get 8 2 (by decide) rfl in_X5_changes_5 rfl (by decide) (by decide +kernel) rfl rfl dX5_changes_139 ?_
                                    refine g_top (v := nI n) (hTM.1.cn) ?_
                                    refine g_idiv (v := nI (c / n)) dX5_changes_142 (fun e => by have := (nI_z (by omega)).mp e; omega) (pk_div (by omega) (by omega) (by omega)) ?_
                                    refine g_iast 27 p (by decide) (by decide) (show _ < 6 by omega) dX5_changes_143 ?_
                                    obtain ⟨A, wA⟩ : ∃ A, A = va_up T 27 (upd (T 27) p (nI (c / n))) := ⟨_, rfl⟩
                                    have A_a : A 27 = upd (T 27) p (nI (c / n)) := by rw [wA, va_us]
                                    have A_b : ∀ k, k ≠ 27 → A k = T k := fun k hk => by rw [wA, va_up_ne _ _ hk]
                                    have A_q : FQ T A := by rw [wA]; exact FQ.up27 _ _
                                    refine g_eq (I' := A) wA.symm rfl ?_
                                    refine g_al_n 0 dX5_changes_144 rfl ?_
                                    refine g_get (v := .ref (γ.2.2 27)) 8 10 (by decide) rfl in_X5_changes_5 rfl (by decide) (by decide +kernel) rfl rfl dX5_changes_145 ?_
                                    refine g_il_n 3 dX5_changes_148 rfl ?_
                                    refine g_pc (pc' := 149) rfl ?_
                                    refine g_il 4 dX5_changes_149 rfl ?_
                                    refine g_al_n 0 dX5_changes_151 rfl ?_
                                    refine g_get 8 2 (by decide) rfl in_X5_changes_5 rfl (by decide) (by decide +kernel) rfl rfl dX5_changes_152 ?_
                                    refine g_top (v := nI n) (by rw [A_b 8 (by decide)]; exact hTM.1.cn) ?_
                                    refine g_irem (v := nI (c % n)) dX5_changes_155 (fun e => by have := (nI_z (by omega)).mp e; omega) (pk_rem (by omega) (by omega) (by omega)) ?_
                                    refine g_iast 27 p2 (by decide) (by decide) (show _ < 6 by omega) dX5_changes_156 ?_
                                    obtain ⟨B9, wB9⟩ : ∃ B9, B9 = va_up A 27 (upd (A 27) p2 (nI (c % n))) := ⟨_, rfl⟩
                                    have B9_a : B9 27 = upd (A 27) p2 (nI (c % n)) := by rw [wB9, va_us]
                                    have B9_b : ∀ k, k ≠ 27 → B9 k = A k := fun k hk => by rw [wB9, va_up_ne _ _ hk]
                                    have B9_q : FQ A B9 := by rw [wB9]; exact FQ.up27 _ _
                                    refine g_eq (I' := B9) wB9.symm rfl ?_
                                    have hB9Q : FQ T B9 := A_q.trans B9_q
                                    have hB9M := hB9Q.mr hTM
                                    have hQ5 : FQ J B9 := hQ.trans hB9Q
                                    have hB93 : B9 8 3 = nI q := by rw [B9_b 8 (by decide), A_b 8 (by decide)]; exact h3
                                    have hB3 := hB93
                                    have hB4 : B9 8 4 = J 8 4 := by rw [B9_b 8 (by decide), A_b 8 (by decide)]; exact h4
                                    have hBx : ∀ j, j < q → j ≠ p → j ≠ p2 → B9 27 j = nI (u j) := fun j h9 h10 h11 => by rw [B9_a, upd_n _ _ h11, A_a, upd_n _ _ h10]; exact hx j h9 h10 h11
                                    refine g_al_n 0 dX5_changes_157 rfl ?_
                                    refine g_ci (r_V (st := []) (As := []) (d := 4) 8 (by decide) rfl rfl (c_X5_isSentence2 l γ B9 L P g n r9 q (ust (ust u p (c / n)) p2 (c % n)) hB9M.1 hB93 hq6 (fun j hj => by rw [B9_a, A_a]; exact if e : j = p2 then (by subst e; rw [upd_s, ust_s]) else (by rw [upd_n _ _ e, ust_n _ _ e]; exact if e2 : j = p then (by subst e2; rw [upd_s, ust_s]) else (by rw [upd_n _ _ e2, ust_n _ _ e2]; exact hx j hj e2 e))) (ust_lt (ust_lt (fun j hj => (hM.2.2.2 j hj).2) hc1) hc2)) gX5_changes_X5_isSentence rfl ⟨rfl, by decide, by decide, rfl⟩ ⟨Nat.le_of_ble_eq_true rfl, Nat.le_of_ble_eq_true rfl⟩ rfl (Nat.le_of_ble_eq_true rfl) dX5_changes_158 ⟨Nat.zero_le _, Nat.zero_le _⟩) ?_
                                    rintro rz204 S3 Lz204 ⟨ez204, hS328, eLz204⟩
                                    subst ez204
                                    rw [eLz204]
                                    refine gb_eq (tgt := 168) dX5_changes_161 (by decide) (fun hb => ?_) (fun hb => ?_)
                                    · skip
                                      refine g_pc (pc' := 168) rfl ?_
                                      refine g_ic (v := (-1 : Int32)) dX5_changes_168 (by decide) ?_
                                      refine g_is_n (lv' := [(1, .int (-1 : Int32)), (0, .ref (γ.2.2 8)), (2, .int (nI p)), (3, .int (nI p2)), (4, .int (nI c))]) dX5_changes_169 (by decide) rfl ?_
                                      refine g_inc (v := nI (c + 1)) (lv' := [(4, .int (nI (c + 1))), (1, .int (-1 : Int32)), (0, .ref (γ.2.2 8)), (2, .int (nI p)), (3, .int (nI p2))]) 4 dX5_changes_170 rfl (inc_1 _) (by decide) rfl ?_
                                      refine g_goto (tgt := 113) dX5_changes_173 (by decide) ?_
                                      refine g_sub [2, 1, 3, 4, 0] rfl ?_
                                      exact ih5 (c + 1) S3 (by omega) (fun c9 h9 => by
                                        by_cases e : c9 = c
                                        · subst e; exact hb
                                        · exact hN3 c9 (by omega)) (hQ5.trans (FQ.k28 hS328)) (by rw [hS328 8 (by decide), hB4]) (by rw [hS328 8 (by decide), hB3]) (fun j h9 h10 h11 => by rw [hS328 27 (by decide)]; exact hBx j h9 h10 h11)
                                    · skip
                                      refine g_ic (v := nI 2) dX5_changes_164 (by decide) ?_
                                      refine g_goto (tgt := 169) dX5_changes_165 (by decide) ?_
                                      refine g_is_n (lv' := [(1, .int (nI 2)), (0, .ref (γ.2.2 8)), (2, .int (nI p)), (3, .int (nI p2)), (4, .int (nI c))]) dX5_changes_169 (by decide) rfl ?_
                                      refine g_inc (v := nI (c + 1)) (lv' := [(4, .int (nI (c + 1))), (1, .int (nI 2)), (0, .ref (γ.2.2 8)), (2, .int (nI p)), (3, .int (nI p2))]) 4 dX5_changes_170 rfl (inc_1 _) (by decide) rfl ?_
                                      refine g_pc (pc' := 173) rfl ?_
                                      refine g_goto (tgt := 113) dX5_changes_173 (by decide) ?_
                                      refine g_sub [2, 1, 3, 4, 0] rfl ?_
                                      have htwo : two_ok g r9 u q n := ⟨p, p2, c / n, c % n, by omega, by omega, hc1, hc2, hb⟩
                                      have hQ6 : FQ J S3 := hQ5.trans (FQ.k28 hS328)
                                      have h46 : S3 8 4 = J 8 4 := by rw [hS328 8 (by decide), hB4]
                                      have hSM6 := hQ6.mr hJM
                                      refine g_lv (lv' := [(0, .ref (γ.2.2 8)), (1, .int (nI 2)), (2, .int (nI p)), (3, .int (nI p2)), (4, .int (nI (c + 1)))]) rfl ?_
                                      refine g_il 4 dX5_changes_113 rfl ?_
                                      refine g_al_n 0 dX5_changes_115 rfl ?_
                                      refine g_get 8 2 (by decide) rfl in_X5_changes_5 rfl (by decide) (by decide +kernel) rfl rfl dX5_changes_116 ?_
                                      refine g_top (v := nI n) (hSM6.1.cn) ?_
                                      refine g_al_n 0 dX5_changes_119 rfl ?_
                                      refine g_get 8 2 (by decide) rfl in_X5_changes_5 rfl (by decide) (by decide +kernel) rfl rfl dX5_changes_120 ?_
                                      refine g_top (v := nI n) (hSM6.1.cn) ?_
                                      refine g_imul (v := nI (n * n)) dX5_changes_123 (pk_mul _ _) ?_
                                      refine gn_ge (tgt := 176) dX5_changes_124 (by decide) (by omega) (by omega) (fun h21 => ?_) (fun h21 => ?_)
                                      · skip
                                        refine g_pc (pc' := 176) rfl ?_
                                        refine g_inc (v := nI (p2 + 1)) (lv' := [(3, .int (nI (p2 + 1))), (0, .ref (γ.2.2 8)), (1, .int (nI 2)), (2, .int (nI p)), (4, .int (nI (c + 1)))]) 3 dX5_changes_176 rfl (inc_1 _) (by decide) rfl ?_
                                        refine g_goto (tgt := 94) dX5_changes_179 (by decide) ?_
                                        refine g_il_n 0 dX5_changes_94 rfl ?_
                                        refine g_al_n 1 dX5_changes_95 rfl ?_
                                        refine g_get 8 9 (by decide) rfl in_X5_changes_5 rfl (by decide) (by decide +kernel) rfl rfl dX5_changes_96 ?_
                                        refine g_top (v := nI q) (hSM6.2.1) ?_
                                        refine gn_ge (tgt := 182) dX5_changes_99 (by decide) (by omega) (by omega) (fun h23 => ?_) (fun h23 => ?_)
                                        · skip
                                          refine g_inc (v := nI (p + 1)) (lv' := [(2, .int (nI (p + 1))), (3, .int (nI (p2 + 1))), (0, .ref (γ.2.2 8)), (1, .int (nI 2)), (4, .int (nI (c + 1)))]) 3 dX5_changes_182 rfl (inc_1 _) (by decide) rfl ?_
                                          refine g_goto (tgt := 78) dX5_changes_185 (by decide) ?_
                                          refine g_pc (pc' := 78) rfl ?_
                                          refine g_il_n 0 dX5_changes_78 rfl ?_
                                          refine g_al_n 2 dX5_changes_79 rfl ?_
                                          refine g_get 8 9 (by decide) rfl in_X5_changes_5 rfl (by decide) (by decide +kernel) rfl rfl dX5_changes_80 ?_
                                          refine g_top (v := nI q) (hSM6.2.1) ?_
                                          refine gn_ge (tgt := 188) dX5_changes_83 (by decide) (by omega) (by omega) (fun h25 => ?_) (fun h25 => ?_)
                                          · skip
                                            refine g_il_n 3 dX5_changes_188 rfl ?_
                                            exact g_iret dX5_changes_189 (⟨by rw [chg, hS]; rw [pB_no hone, pB_of htwo]; rfl, by rw [h46]; exact hJ4, hJQ.trans hQ6, rfl⟩)
                                          · skip
                                            refine g_il_n 3 dX5_changes_86 rfl ?_
                                            refine gz_ge (tgt := 188) dX5_changes_87 (by decide) (by omega) (fun h26 => ?_) (fun h26 => ?_)
                                            · skip
                                              refine g_pc (pc' := 188) rfl ?_
                                              refine g_il_n 3 dX5_changes_188 rfl ?_
                                              exact g_iret dX5_changes_189 (⟨by rw [chg, hS]; rw [pB_no hone, pB_of htwo]; rfl, by rw [h46]; exact hJ4, hJQ.trans hQ6, rfl⟩)
                                            · skip
                                              exact h26.elim
                                        · skip
                                          refine g_il_n 2 dX5_changes_102 rfl ?_
                                          refine gz_ge (tgt := 182) dX5_changes_103 (by decide) (by omega) (fun h24 => ?_) (fun h24 => ?_)
                                          · skip
                                            refine g_inc (v := nI (p + 1)) (lv' := [(2, .int (nI (p + 1))), (3, .int (nI (p2 + 1))), (0, .ref (γ.2.2 8)), (1, .int (nI 2)), (4, .int (nI (c + 1)))]) 3 dX5_changes_182 rfl (inc_1 _) (by decide) rfl ?_
                                            refine g_goto (tgt := 78) dX5_changes_185 (by decide) ?_
                                            refine g_il_n 0 dX5_changes_78 rfl ?_
                                            refine g_al_n 2 dX5_changes_79 rfl ?_
                                            refine g_pc (pc' := 80) rfl ?_
                                            refine g_get 8 9 (by decide) rfl in_X5_changes_5 rfl (by decide) (by decide +kernel) rfl rfl dX5_changes_80 ?_
                                            refine g_top (v := nI q) (hSM6.2.1) ?_
                                            refine gn_ge (tgt := 188) dX5_changes_83 (by decide) (by omega) (by omega) (fun h25 => ?_) (fun h25 => ?_)
                                            · skip
                                              refine g_il_n 3 dX5_changes_188 rfl ?_
                                              exact g_iret dX5_changes_189 (⟨by rw [chg, hS]; rw [pB_no hone, pB_of htwo]; rfl, by rw [h46]; exact hJ4, hJQ.trans hQ6, rfl⟩)
                                            · skip
                                              refine g_il_n 3 dX5_changes_86 rfl ?_
                                              refine gz_ge (tgt := 188) dX5_changes_87 (by decide) (by omega) (fun h26 => ?_) (fun h26 => ?_)
                                              · skip
                                                refine g_il_n 3 dX5_changes_188 rfl ?_
                                                exact g_iret dX5_changes_189 (⟨by rw [chg, hS]; rw [pB_no hone, pB_of htwo]; rfl, by rw [h46]; exact hJ4, hJQ.trans hQ6, rfl⟩)
                                              · skip
                                                exact h26.elim
                                          · skip
                                            exact h24.elim
                                      · skip
                                        refine g_pc (pc' := 127) rfl ?_
                                        refine g_il_n 1 dX5_changes_127 rfl ?_
                                        refine gz_ge (tgt := 176) dX5_changes_128 (by decide) (by omega) (fun h22 => ?_) (fun h22 => ?_)
                                        · skip
                                          refine g_inc (v := nI (p2 + 1)) (lv' := [(3, .int (nI (p2 + 1))), (0, .ref (γ.2.2 8)), (1, .int (nI 2)), (2, .int (nI p)), (4, .int (nI (c + 1)))]) 3 dX5_changes_176 rfl (inc_1 _) (by decide) rfl ?_
                                          refine g_goto (tgt := 94) dX5_changes_179 (by decide) ?_
                                          refine g_il_n 0 dX5_changes_94 rfl ?_
                                          refine g_al_n 1 dX5_changes_95 rfl ?_
                                          refine g_get 8 9 (by decide) rfl in_X5_changes_5 rfl (by decide) (by decide +kernel) rfl rfl dX5_changes_96 ?_
                                          refine g_top (v := nI q) (hSM6.2.1) ?_
                                          refine gn_ge (tgt := 182) dX5_changes_99 (by decide) (by omega) (by omega) (fun h23 => ?_) (fun h23 => ?_)
                                          · skip
                                            refine g_pc (pc' := 182) rfl ?_
                                            refine g_inc (v := nI (p + 1)) (lv' := [(2, .int (nI (p + 1))), (3, .int (nI (p2 + 1))), (0, .ref (γ.2.2 8)), (1, .int (nI 2)), (4, .int (nI (c + 1)))]) 3 dX5_changes_182 rfl (inc_1 _) (by decide) rfl ?_
                                            refine g_goto (tgt := 78) dX5_changes_185 (by decide) ?_
                                            refine g_il_n 0 dX5_changes_78 rfl ?_
                                            refine g_al_n 2 dX5_changes_79 rfl ?_
                                            refine g_get 8 9 (by decide) rfl in_X5_changes_5 rfl (by decide) (by decide +kernel) rfl rfl dX5_changes_80 ?_
                                            refine g_top (v := nI q) (hSM6.2.1) ?_
                                            refine gn_ge (tgt := 188) dX5_changes_83 (by decide) (by omega) (by omega) (fun h25 => ?_) (fun h25 => ?_)
                                            · skip
                                              refine g_il_n 3 dX5_changes_188 rfl ?_
                                              exact g_iret dX5_changes_189 (⟨by rw [chg, hS]; rw [pB_no hone, pB_of htwo]; rfl, by rw [h46]; exact hJ4, hJQ.trans hQ6, rfl⟩)
                                            · skip
                                              refine g_pc (pc' := 86) rfl ?_
                                              refine g_il_n 3 dX5_changes_86 rfl ?_
                                              refine gz_ge (tgt := 188) dX5_changes_87 (by decide) (by omega) (fun h26 => ?_) (fun h26 => ?_)
                                              · skip
                                                refine g_il_n 3 dX5_changes_188 rfl ?_
                                                exact g_iret dX5_changes_189 (⟨by rw [chg, hS]; rw [pB_no hone, pB_of htwo]; rfl, by rw [h46]; exact hJ4, hJQ.trans hQ6, rfl⟩)
                                              · skip
                                                exact h26.elim
                                          · skip
                                            refine g_il_n 2 dX5_changes_102 rfl ?_
                                            refine gz_ge (tgt := 182) dX5_changes_103 (by decide) (by omega) (fun h24 => ?_) (fun h24 => ?_)
                                            · skip
                                              refine g_inc (v := nI (p + 1)) (lv' := [(2, .int (nI (p + 1))), (3, .int (nI (p2 + 1))), (0, .ref (γ.2.2 8)), (1, .int (nI 2)), (4, .int (nI (c + 1)))]) 3 dX5_changes_182 rfl (inc_1 _) (by decide) rfl ?_
                                              refine g_goto (tgt := 78) dX5_changes_185 (by decide) ?_
                                              refine g_pc (pc' := 78) rfl ?_
                                              refine g_il_n 0 dX5_changes_78 rfl ?_
                                              refine g_al_n 2 dX5_changes_79 rfl ?_
                                              refine g_get 8 9 (by decide) rfl in_X5_changes_5 rfl (by decide) (by decide +kernel) rfl rfl dX5_changes_80 ?_
                                              refine g_top (v := nI q) (hSM6.2.1) ?_
                                              refine gn_ge (tgt := 188) dX5_changes_83 (by decide) (by omega) (by omega) (fun h25 => ?_) (fun h25 => ?_)
                                              · skip
                                                refine g_il_n 3 dX5_changes_188 rfl ?_
                                                exact g_iret dX5_changes_189 (⟨by rw [chg, hS]; rw [pB_no hone, pB_of htwo]; rfl, by rw [h46]; exact hJ4, hJQ.trans hQ6, rfl⟩)
                                              · skip
                                                refine g_il_n 3 dX5_changes_86 rfl ?_
                                                refine gz_ge (tgt := 188) dX5_changes_87 (by decide) (by omega) (fun h26 => ?_) (fun h26 => ?_)
                                                · skip
                                                  refine g_pc (pc' := 188) rfl ?_
                                                  refine g_il_n 3 dX5_changes_188 rfl ?_
                                                  exact g_iret dX5_changes_189 (⟨by rw [chg, hS]; rw [pB_no hone, pB_of htwo]; rfl, by rw [h46]; exact hJ4, hJQ.trans hQ6, rfl⟩)
                                                · skip
                                                  exact h26.elim
                                            · skip
                                              exact h24.elim
                                        · skip
                                          exact h22.elim
                            refine g_sub [1, 2, 3, 4, 0] rfl ?_
                            exact lp5 (n * n) 0 K2 (Nat.zero_add _) (fun c9 h9 => by omega) (hQ.trans hK2Q) (by rw [hK24, h4]) hK23 (fun j h9 _ _ => hK2x j h9)
                    refine g_sub [1, 2, 3, 0] rfl ?_
                    exact lp4 (q - (p + 1)) (p + 1) T (by rw [if_pos hpq]; omega) (by omega) (fun p9 h9 h10 => by omega) hQ h4
            refine g_sub [1, 2, 0] rfl ?_
            exact lp3 q 0 T (Nat.zero_add _) (fun p8 p9 h9 => by omega) hQ h4
        · skip
          exfalso; omega
      | succ z ih =>
        intro p B T hp hB hQ h4
        have hTM := hQ.mr hJM
        have hpq : p < q := by omega
        refine g_il_n 2 dX5_changes_22 rfl ?_
        refine g_al_n 0 dX5_changes_23 rfl ?_
        refine g_get 8 9 (by decide) rfl in_X5_changes_5 rfl (by decide) (by decide +kernel) rfl rfl dX5_changes_24 ?_
        refine g_top (v := nI q) (hTM.2.1) ?_
        refine gn_ge (tgt := 76) dX5_changes_27 (by decide) (by omega) (by omega) (fun h5 => ?_) (fun h5 => ?_)
        · skip
          exfalso; omega
        · skip
          refine g_ic (v := nI 0) dX5_changes_30 (by decide) ?_
          refine g_is_n (lv' := [(3, .int (nI 0)), (0, .ref (γ.2.2 8)), (1, .int (if B then nI 1 else (-1 : Int32))), (2, .int (nI p))]) dX5_changes_31 (by decide) rfl ?_
          have lp2 : ∀ (z2 : Nat) (w : Nat) (B : Bool) (T : IT) (hw : w + z2 = n) (hB : B = true ↔ ∃ p9 w9, (p9 < p ∨ p9 = p ∧ w9 < w) ∧ w9 < n ∧ isS g r9 (ust u p9 w9) q = true) (hQ : FQ J T) (h4 : T 8 4 = J 8 4), G E0 l cX5_changes 5 wsX5_changes RX5 (some .int) (rmd 5) γ P (AE γ) (Qi γ P (fun r I' L' => r = chg g r9 u q n ∧ I' 8 4 = nI 0 ∧ FQ I I' ∧ L' = L)) 0 0 32 [(0, .ref (γ.2.2 8)), (1, .int (if B then nI 1 else (-1 : Int32))), (2, .int (nI p)), (3, .int (nI w))] [] T L := by
            intro z2
            induction z2 with
            | zero =>
              intro w B T hw hB hQ h4
              simp only [Nat.add_zero] at hw
              have hTM := hQ.mr hJM
              refine g_il_n 3 dX5_changes_32 rfl ?_
              refine g_pc (pc' := 33) rfl ?_
              refine g_al_n 0 dX5_changes_33 rfl ?_
              refine g_get 8 2 (by decide) rfl in_X5_changes_5 rfl (by decide) (by decide +kernel) rfl rfl dX5_changes_34 ?_
              refine g_top (v := nI n) (hTM.1.cn) ?_
              refine gn_ge (tgt := 70) dX5_changes_37 (by decide) (by omega) (by omega) (fun h6 => ?_) (fun h6 => ?_)
              · skip
                refine g_inc (v := nI (p + 1)) (lv' := [(2, .int (nI (p + 1))), (0, .ref (γ.2.2 8)), (1, .int (if B then nI 1 else (-1 : Int32))), (3, .int (nI w))]) 2 dX5_changes_70 rfl (inc_1 _) (by decide) rfl ?_
                refine g_goto (tgt := 22) dX5_changes_73 (by decide) ?_
                refine g_sub [1, 2, 0] rfl ?_
                exact ih (p + 1) B T (by omega) (hB.trans ⟨fun ⟨p9, w9, e1, e2, e3⟩ => ⟨p9, w9, by omega, e2, e3⟩, fun ⟨p9, w9, e1, e2, e3⟩ => ⟨p9, w9, by omega, e2, e3⟩⟩) hQ h4
              · skip
                exfalso; omega
            | succ z2 ih2 =>
              intro w B T hw hB hQ h4
              have hTM := hQ.mr hJM
              have hwn : w < n := by omega
              refine g_il_n 3 dX5_changes_32 rfl ?_
              refine g_al_n 0 dX5_changes_33 rfl ?_
              refine g_get 8 2 (by decide) rfl in_X5_changes_5 rfl (by decide) (by decide +kernel) rfl rfl dX5_changes_34 ?_
              refine g_top (v := nI n) (hTM.1.cn) ?_
              refine g_pc (pc' := 37) rfl ?_
              refine gn_ge (tgt := 70) dX5_changes_37 (by decide) (by omega) (by omega) (fun h6 => ?_) (fun h6 => ?_)
              · skip
                exfalso; omega
              · skip
                refine g_al_n 0 dX5_changes_40 rfl ?_
                refine g_cv (r_V (st := []) (As := []) (d := 0) 8 (by decide) rfl rfl (c_X5_takes2 l γ T L P g n r9 q u hTM) gX5_changes_X5_takes rfl ⟨rfl, by decide, by decide, rfl⟩ ⟨Nat.le_of_ble_eq_true rfl, Nat.le_of_ble_eq_true rfl⟩ rfl (Nat.le_of_ble_eq_true rfl) dX5_changes_41 ⟨Nat.zero_le _, Nat.zero_le _⟩) ?_
                rintro K Lz3 ⟨hK3, hKx, hKQ, hK4, eLz3⟩
                rw [eLz3]
                have hKM := hKQ.mr hTM
                refine g_al_n 0 dX5_changes_44 rfl ?_
                refine g_get (v := .ref (γ.2.2 27)) 8 10 (by decide) rfl in_X5_changes_5 rfl (by decide) (by decide +kernel) rfl rfl dX5_changes_45 ?_
                refine g_il_n 2 dX5_changes_48 rfl ?_
                refine g_il_n 3 dX5_changes_49 rfl ?_
                refine g_iast 27 p (by decide) (by decide) (show _ < 6 by omega) dX5_changes_50 ?_
                obtain ⟨T2, wT2⟩ : ∃ T2, T2 = va_up K 27 (upd (K 27) p (nI w)) := ⟨_, rfl⟩
                have T2_a : T2 27 = upd (K 27) p (nI w) := by rw [wT2, va_us]
                have T2_b : ∀ k, k ≠ 27 → T2 k = K k := fun k hk => by rw [wT2, va_up_ne _ _ hk]
                have T2_q : FQ K T2 := by rw [wT2]; exact FQ.up27 _ _
                refine g_eq (I' := T2) wT2.symm rfl ?_
                have hT2M := T2_q.mr hKM
                have hQ2 : FQ J T2 := (hQ.trans hKQ).trans T2_q
                have hT23 : T2 8 3 = nI q := by rw [T2_b 8 (by decide)]; exact hK3
                refine g_pc (pc' := 51) rfl ?_
                refine g_al_n 0 dX5_changes_51 rfl ?_
                refine g_ci (r_V (st := []) (As := []) (d := 4) 8 (by decide) rfl rfl (c_X5_isSentence2 l γ T2 L P g n r9 q (ust u p w) hT2M.1 hT23 hq6 (fun j hj => by rw [T2_a]; exact if e : j = p then (by subst e; rw [upd_s, ust_s]) else (by rw [upd_n _ _ e, ust_n _ _ e]; exact hKx j hj)) (ust_lt (fun j hj => (hM.2.2.2 j hj).2) hwn)) gX5_changes_X5_isSentence rfl ⟨rfl, by decide, by decide, rfl⟩ ⟨Nat.le_of_ble_eq_true rfl, Nat.le_of_ble_eq_true rfl⟩ rfl (Nat.le_of_ble_eq_true rfl) dX5_changes_52 ⟨Nat.zero_le _, Nat.zero_le _⟩) ?_
                rintro rz4 T3 Lz4 ⟨ez4, hT328, eLz4⟩
                subst ez4
                rw [eLz4]
                refine gb_eq (tgt := 62) dX5_changes_55 (by decide) (fun hb => ?_) (fun hb => ?_)
                · skip
                  refine g_il_n 1 dX5_changes_62 rfl ?_
                  refine g_is_n (lv' := [(1, .int (if B then nI 1 else (-1 : Int32))), (0, .ref (γ.2.2 8)), (2, .int (nI p)), (3, .int (nI w))]) dX5_changes_63 (by decide) rfl ?_
                  refine g_inc (v := nI (w + 1)) (lv' := [(3, .int (nI (w + 1))), (1, .int (if B then nI 1 else (-1 : Int32))), (0, .ref (γ.2.2 8)), (2, .int (nI p))]) 3 dX5_changes_64 rfl (inc_1 _) (by decide) rfl ?_
                  refine g_goto (tgt := 32) dX5_changes_67 (by decide) ?_
                  refine g_sub [2, 1, 3, 0] rfl ?_
                  exact ih2 (w + 1) B T3 (by omega) (hB.trans ⟨fun ⟨p9, w9, e1, e2, e3⟩ => ⟨p9, w9, by omega, e2, e3⟩, fun ⟨p9, w9, e1, e2, e3⟩ => ⟨p9, w9, if e : p9 = p ∧ w9 = w then (by rw [e.1, e.2, hb] at e3; exact absurd e3 (by simp)) else (by omega), e2, e3⟩⟩) (hQ2.trans (FQ.k28 hT328)) (by rw [hT328 8 (by decide), T2_b 8 (by decide), hK4, h4])
                · skip
                  refine g_ic (v := nI 1) dX5_changes_58 (by decide) ?_
                  refine g_pc (pc' := 59) rfl ?_
                  refine g_goto (tgt := 63) dX5_changes_59 (by decide) ?_
                  refine g_is_n (lv' := [(1, .int (nI 1)), (0, .ref (γ.2.2 8)), (2, .int (nI p)), (3, .int (nI w))]) dX5_changes_63 (by decide) rfl ?_
                  refine g_inc (v := nI (w + 1)) (lv' := [(3, .int (nI (w + 1))), (1, .int (nI 1)), (0, .ref (γ.2.2 8)), (2, .int (nI p))]) 3 dX5_changes_64 rfl (inc_1 _) (by decide) rfl ?_
                  refine g_goto (tgt := 32) dX5_changes_67 (by decide) ?_
                  refine g_sub [2, 1, 3, 0] rfl ?_
                  exact ih2 (w + 1) true T3 (by omega) (⟨fun _ => ⟨p, w, by omega, hwn, hb⟩, fun _ => rfl⟩) (hQ2.trans (FQ.k28 hT328)) (by rw [hT328 8 (by decide), T2_b 8 (by decide), hK4, h4])
          refine g_sub [1, 2, 3, 0] rfl ?_
          exact lp2 n 0 B T (Nat.zero_add _) (hB.trans ⟨fun ⟨p9, w9, e1, e2, e3⟩ => ⟨p9, w9, by omega, e2, e3⟩, fun ⟨p9, w9, e1, e2, e3⟩ => ⟨p9, w9, by omega, e2, e3⟩⟩) hQ h4
    refine g_sub [2, 1, 0] rfl ?_
    exact lp q 0 false S (Nat.zero_add _) ⟨fun e => absurd e (by simp), fun ⟨p9, w9, e1, e2, e3⟩ => by omega⟩ (hKQ.trans (FQ.k28 hk28)) (by rw [hk28 8 (by decide), hK4])
  · skip
    refine g_ic (v := nI 0) dX5_changes_16 (by decide) ?_
    exact g_iret dX5_changes_17 (⟨by rw [chg, hS]; rfl, by rw [hk28 8 (by decide), hK4, hJ4], (hJQ.trans hKQ).trans (FQ.k28 hk28), rfl⟩)
