/-! numbers of readings -/
def wcnt (g : GR) (w c v : Nat) : Nat := if g 0 w = c ∧ g 1 w = v then 1 else 0
def ctf (g : GR) (r : Nat) (w : Nat → Nat) : Nat → Nat → Nat → Nat → Nat → Nat
  | 0, _, _, _, _ => 0
  | k + 1, len, i, c, v => if len ≤ 1 then wcnt g (w i) c v else sm (fun d => cst g r (ctf g r w k (d + 1) i) (ctf g r w k (len - 1 - d) (i + d + 1)) c v) (len - 1)
theorem cst_cong {g : GR} {r : Nat} {A A' B B' : Nat → Nat → Nat} {c v : Nat} (hA : ∀ c v, A c v = A' c v) (hB : ∀ c v, B c v = B' c v) : cst g r A B c v = cst g r A' B' c v := by
  rw [show A = A' from funext fun c => funext fun v => hA c v, show B = B' from funext fun c => funext fun v => hB c v]
theorem ctf_fuel (g : GR) (r : Nat) (w : Nat → Nat) : ∀ (k k' len : Nat), len ≤ k → len ≤ k' → 0 < len → ∀ i c v, ctf g r w k len i c v = ctf g r w k' len i c v := by
  intro k
  induction k with
  | zero => intro k' len h1 h2 h3; omega
  | succ k ih =>
    intro k' len h1 h2 h3 i c v
    obtain ⟨k', rfl⟩ : ∃ j, k' = j + 1 := ⟨k' - 1, by omega⟩
    rw [ctf, ctf]
    split
    · rfl
    · refine sm_cong (fun d hd => cst_cong (fun c v => ?_) (fun c v => ?_))
      · exact ih k' (d + 1) (by omega) (by omega) (by omega) i c v
      · exact ih k' (len - 1 - d) (by omega) (by omega) (by omega) _ c v
/-- how many readings the places i .. j-1 have as category c with the values v -/
def ct (g : GR) (r : Nat) (w : Nat → Nat) (i j c v : Nat) : Nat := ctf g r w (j - i) (j - i) i c v
theorem ct_one (g : GR) (r : Nat) (w : Nat → Nat) (i c v : Nat) : ct g r w i (i + 1) c v = wcnt g (w i) c v := by
  unfold ct
  rw [show i + 1 - i = 1 by omega]
  rfl
theorem ct_more (g : GR) (r : Nat) (w : Nat → Nat) {i j : Nat} (c v : Nat) (h : i + 1 < j) : ct g r w i j c v = sm (fun d => cst g r (ct g r w i (i + 1 + d)) (ct g r w (i + 1 + d) j) c v) (j - i - 1) := by
  unfold ct
  obtain ⟨n, hn⟩ : ∃ n, j - i = n + 2 := ⟨j - i - 2, by omega⟩
  rw [hn]
  show (if n + 2 ≤ 1 then _ else _) = _
  rw [if_neg (by omega)]
  refine sm_cong (fun d hd => cst_cong (fun c v => ?_) (fun c v => ?_))
  · rw [show i + 1 + d - i = d + 1 by omega]
    exact ctf_fuel g r w _ _ _ (by omega) (by omega) (by omega) i c v
  · rw [show j - (i + 1 + d) = n + 2 - 1 - d by omega, show i + 1 + d = i + d + 1 by omega]
    exact ctf_fuel g r w _ _ _ (by omega) (by omega) (by omega) _ c v
/-- all of them together, and how many there can be -/
def tt (M : Nat → Nat → Nat) : Nat := sm (fun c => sm (M c) 16) 8
theorem tt_part {M : Nat → Nat → Nat} {c : Nat} (hc : c < 8) : sm (M c) 16 ≤ tt M := sm_part (f := fun c => sm (M c) 16) hc
theorem tt_part2 {M : Nat → Nat → Nat} {c v : Nat} (hc : c < 8) (hv : v < 16) : M c v ≤ tt M := Nat.le_trans (sm_part hv) (tt_part hc)
theorem cj_sum (md a x : Nat) (B : Nat → Nat) (o : Nat) : sm (fun v => cj1 md a x B v o) 16 ≤ x * B o := by
  cases h : jp md a o with
  | none => rw [sm_zero (fun v _ => by simp [cj1, h])]; exact Nat.zero_le _
  | some u =>
    by_cases hu : u < 16
    · rw [sm_one hu (fun v _ hne => by simp [cj1, h, Ne.symm hne])]
      simp [cj1, h]
    · rw [sm_zero (fun v hv => by
        have : u ≠ v := by omega
        simp [cj1, h, this])]
      exact Nat.zero_le _
theorem cj2_sum (md : Nat) (A B : Nat → Nat) : sm (fun v => sm (cj2 md A B v) 16) 16 ≤ sm A 16 * sm B 16 := by
  rw [sm_comm (fun v a => cj2 md A B v a), ← sm_mulr]
  refine sm_le (fun a _ => ?_)
  show sm (fun v => sm (fun o => cj1 md a (A a) B v o) 16) 16 ≤ _
  rw [sm_comm (fun v o => cj1 md a (A a) B v o), ← sm_mul]
  exact sm_le (fun o _ => cj_sum _ _ _ _ _)
theorem cst_sum {g : GR} {r : Nat} {A B : Nat → Nat → Nat} (hr : r ≤ 8) (h3 : ∀ ρ, ρ < r → g 3 ρ < 8) (h4 : ∀ ρ, ρ < r → g 4 ρ < 8) : tt (cst g r A B) ≤ 8 * (tt A * tt B) := by
  have e : tt (cst g r A B) = sm (fun ρ => sm (fun c => sm (fun v => ctr g A B c v ρ) 16) 8) r := by
    show sm (fun c => sm (fun v => sm (fun ρ => ctr g A B c v ρ) r) 16) 8 = _
    rw [← sm_comm (fun c ρ => sm (fun v => ctr g A B c v ρ) 16)]
    exact sm_cong (fun c _ => sm_comm (fun v ρ => ctr g A B c v ρ) 16 r)
  rw [e]
  refine Nat.le_trans (sm_bound (c := tt A * tt B) (fun ρ hρ => ?_)) (Nat.mul_le_mul_right _ hr)
  refine Nat.le_trans ?_ (Nat.le_trans (cj2_sum (g 5 ρ) (A (g 3 ρ)) (B (g 4 ρ))) (Nat.mul_le_mul (tt_part (h3 ρ hρ)) (tt_part (h4 ρ hρ))))
  by_cases h2 : g 2 ρ < 8
  · rw [sm_one h2 (fun c _ hne => sm_zero (fun v _ => by simp [ctr, Ne.symm hne]))]
    exact Nat.le_of_eq (sm_cong (fun v _ => by simp [ctr]))
  · rw [sm_zero (fun c hc => sm_zero (fun v _ => by
      have : g 2 ρ ≠ c := by omega
      simp [ctr, this]))]
    exact Nat.zero_le _
def TB : Nat → Nat
  | 1 => 1
  | 2 => 8
  | 3 => 128
  | 4 => 2560
  | 5 => 57344
  | 6 => 1376256
  | _ => 0
theorem tt_sm (f : Nat → Nat → Nat → Nat) (n : Nat) : tt (fun c v => sm (fun d => f d c v) n) = sm (fun d => tt (f d)) n := by
  show sm (fun c => sm (fun v => sm (fun d => f d c v) n) 16) 8 = sm (fun d => sm (fun c => sm (fun v => f d c v) 16) 8) n
  rw [← sm_comm (fun c d => sm (fun v => f d c v) 16)]
  exact sm_cong (fun c _ => sm_comm (fun v d => f d c v) 16 n)
theorem tt_wcnt (g : GR) (w : Nat) : tt (wcnt g w) ≤ 1 := by
  by_cases h0 : g 0 w < 8
  · rw [tt, sm_one h0 (fun c _ hne => sm_zero (fun v _ => by simp [wcnt, Ne.symm hne]))]
    by_cases h1 : g 1 w < 16
    · rw [sm_one h1 (fun v _ hne => by simp [wcnt, Ne.symm hne])]
      simp [wcnt]
    · rw [sm_zero (fun v hv => by
        have : g 1 w ≠ v := by omega
        simp [wcnt, this])]
      exact Nat.zero_le _
  · rw [tt, sm_zero (fun c hc => sm_zero (fun v _ => by
      have : g 0 w ≠ c := by omega
      simp [wcnt, this]))]
    exact Nat.zero_le _
theorem ct_bound {g : GR} {r : Nat} {w : Nat → Nat} (hr : r ≤ 8) (h3 : ∀ ρ, ρ < r → g 3 ρ < 8) (h4 : ∀ ρ, ρ < r → g 4 ρ < 8) : ∀ n i j, j - i = n → i < j → n ≤ 6 → tt (ct g r w i j) ≤ TB n := by
  intro n
  induction n using Nat.strongRecOn with
  | _ n ih =>
    intro i j hn hij h6
    by_cases h1 : n = 1
    · subst h1
      obtain rfl : j = i + 1 := by omega
      rw [show ct g r w i (i + 1) = wcnt g (w i) from funext fun c => funext fun v => ct_one g r w i c v]
      exact tt_wcnt _ _
    · rw [show ct g r w i j = fun c v => sm (fun d => cst g r (ct g r w i (i + 1 + d)) (ct g r w (i + 1 + d) j) c v) (j - i - 1) from funext fun c => funext fun v => ct_more g r w c v (by omega), tt_sm]
      have step : ∀ d, d < j - i - 1 → tt (cst g r (ct g r w i (i + 1 + d)) (ct g r w (i + 1 + d) j)) ≤ 8 * (TB (d + 1) * TB (n - (d + 1))) := fun d hd =>
        Nat.le_trans (cst_sum hr h3 h4) (Nat.mul_le_mul_left 8 (Nat.mul_le_mul (ih (d + 1) (by omega) i (i + 1 + d) (by omega) (by omega) (by omega)) (ih (n - (d + 1)) (by omega) (i + 1 + d) j (by omega) (by omega) (by omega))))
      refine Nat.le_trans (sm_le step) ?_
      rw [show j - i - 1 = n - 1 by omega]
      rcases (show n = 2 ∨ n = 3 ∨ n = 4 ∨ n = 5 ∨ n = 6 by omega) with rfl | rfl | rfl | rfl | rfl <;> decide
theorem TB_le (n : Nat) : TB n ≤ 1376256 := by
  unfold TB
  split <;> decide
theorem GG.ctb {I : IT} {g : GR} {n r : Nat} (h : GG I g n r) {w : Nat → Nat} {i j : Nat} (hij : i < j) (hj : j ≤ 6) : tt (ct g r w i j) ≤ 1376256 :=
  Nat.le_trans (ct_bound h.r_le (fun ρ hρ => h.fst_lt hρ) (fun ρ hρ => h.snd_lt hρ) (j - i) i j rfl hij (by omega)) (TB_le _)
theorem HM.cong {F : Nat → Int32} {M M' : Nat → Nat → Nat} (h : HM F M) (e : ∀ c, c < 8 → ∀ v, v < 16 → M c v = M' c v) : HM F M' := fun c hc v hv => by rw [h c hc v hv, e c hc v hv]
theorem HM.put {F : Nat → Int32} {M M' : Nat → Nat → Nat} (h : HM F M) {c v x : Nat} (hv : v < 16) (hx : M' c v = x) (e : ∀ c2, c2 < 8 → ∀ v2, v2 < 16 → ¬ (c2 = c ∧ v2 = v) → M' c2 v2 = M c2 v2) : HM (upd F (c * 16 + v) (nI x)) M' := by
  intro c2 hc2 v2 hv2
  by_cases q : c2 = c ∧ v2 = v
  · obtain ⟨rfl, rfl⟩ := q
    rw [upd_s, hx]
  · rw [upd_n _ _ (by omega), h c2 hc2 v2 hv2, e c2 hc2 v2 hv2 q]

set_option maxRecDepth 100000 in
set_option maxHeartbeats 4000000 in
theorem c_J7_fill_53178 (l : Launch) (γ : Gm) (I : IT) (L : LT) (P : PT) (k : Nat) (hk : 37 ≤ k) (hk2 : k < 71) : Cv l yJ7_fill_53178 wsJ7_fill_53178 0 γ [.ref (γ.2.2 k), .int (nI 0)] I L P (fun I' L' => (∃ F : Nat → Int32, I' = va_up I k F ∧ HM F (fun _ _ => 0)) ∧ L' = L) := by
  refine Cv_of (own := RJ7) (cc := cJ7_fill_53178) (maxL := 4) (by decide) rfl rfl (Nat.le_of_ble_eq_true rfl) ?_
  refine g_sub (lv' := [(0, .ref (γ.2.2 k)), (1, .int (nI 0))]) [0, 1] rfl ?_
  refine g_ic (v := nI 0) dJ7_fill_53178_0 (by decide) ?_
  refine g_is_n (lv' := [(2, .int (nI 0)), (0, .ref (γ.2.2 k)), (1, .int (nI 0))]) dJ7_fill_53178_1 (by decide) rfl ?_
  refine g_al_n 1 dJ7_fill_53178_2 rfl ?_
  refine g_alen (k := k) (by omega) (by omega) dJ7_fill_53178_3 ?_
  refine g_top (v := nI 128) (by rw [ln_37 hk]) ?_
  refine g_is_n (lv' := [(3, .int (nI 128)), (2, .int (nI 0)), (0, .ref (γ.2.2 k)), (1, .int (nI 0))]) dJ7_fill_53178_4 (by decide) rfl ?_
  have lp : ∀ (n : Nat) (j : Nat) (F : Nat → Int32) (hj : j + n = 128) (hF : ∀ q, q < j → F q = nI 0), G E0 l cJ7_fill_53178 4 wsJ7_fill_53178 RJ7 none (rmd 0) γ P (AE γ) (Qv γ P (fun I' L' => (∃ F : Nat → Int32, I' = va_up I k F ∧ HM F (fun _ _ => 0)) ∧ L' = L)) 0 0 5 [(0, .ref (γ.2.2 k)), (1, .int (nI 0)), (2, .int (nI j)), (3, .int (nI 128))] [] (va_up I k F) L := by
    intro n
    induction n with
    | zero =>
      intro j F hj hF
      simp only [Nat.add_zero] at hj
      refine g_il_n 2 dJ7_fill_53178_5 rfl ?_
      refine g_il_n 3 dJ7_fill_53178_6 rfl ?_
      refine gn_ge (tgt := 20) dJ7_fill_53178_7 (by decide) (by omega) (by omega) (fun h1 => ?_) (fun h1 => ?_)
      · skip
        exact g_vret dJ7_fill_53178_20 (⟨⟨F, rfl, fun c hc v hv => hF _ (by omega)⟩, rfl⟩)
      · skip
        exfalso; omega
    | succ n ih =>
      intro j F hj hF
      refine g_il_n 2 dJ7_fill_53178_5 rfl ?_
      refine g_il_n 3 dJ7_fill_53178_6 rfl ?_
      refine gn_ge (tgt := 20) dJ7_fill_53178_7 (by decide) (by omega) (by omega) (fun h1 => ?_) (fun h1 => ?_)
      · skip
        exfalso; omega
      · skip
        refine g_al_n 0 dJ7_fill_53178_10 rfl ?_
        refine g_il_n 2 dJ7_fill_53178_11 rfl ?_
        refine g_il_n 1 dJ7_fill_53178_12 rfl ?_
        refine g_iast k j (by omega) (by omega) (by rw [ln_37 hk]; omega) dJ7_fill_53178_13 ?_
        refine g_eq (I' := va_up I k (upd F j (nI 0))) (va_uw _ _ _ _ _) rfl ?_
        refine g_inc (v := nI (j + 1)) (lv' := [(2, .int (nI (j + 1))), (0, .ref (γ.2.2 k)), (1, .int (nI 0)), (3, .int (nI 128))]) 2 dJ7_fill_53178_14 rfl (inc_1 _) (by decide) rfl ?_
        refine g_goto (tgt := 5) dJ7_fill_53178_17 (by decide) ?_
        refine g_sub [1, 2, 0, 3] rfl ?_
        exact ih (j + 1) (upd F j (nI 0)) (by omega) (fun q hq => by
          by_cases e : q = j
          · subst e; exact upd_s _ _ _
          · rw [upd_n _ _ e]; exact hF q (by omega))
  refine g_sub [2, 3, 1, 0] rfl ?_
  refine g_eq (I' := va_up I k (I k)) (va_id _ _).symm rfl ?_
  exact lp 128 0 _ rfl (fun q hq => by omega)

theorem in_X1_countWord_1 : ∀ w ∈ wsX10, w ∈ wsX1_countWord := by decide +kernel
set_option maxRecDepth 100000 in
set_option maxHeartbeats 4000000 in
theorem c_X1_countWord (l : Launch) (γ : Gm) (I : IT) (L : LT) (P : PT) (g : GR) (n r w k : Nat) (hG : GG I g n r) (hw : w < n) (hk : 37 ≤ k) (hk2 : k < 71) (hz : HM (I k) (fun _ _ => 0)) : Cv l yX1_countWord wsX1_countWord 0 γ [.ref (γ.2.2 1), .int (nI w), .ref (γ.2.2 k)] I L P (fun I' L' => (∃ F : Nat → Int32, I' = va_up I k F ∧ HM F (wcnt g w)) ∧ L' = L) := by
  refine Cv_of (own := RX1) (cc := cX1_countWord) (maxL := 3) (by decide) rfl rfl (Nat.le_of_ble_eq_true rfl) ?_
  refine g_sub (lv' := [(0, .ref (γ.2.2 1)), (1, .int (nI w)), (2, .ref (γ.2.2 k))]) [0, 1, 2] rfl ?_
  have hn9 := hG.n_le
  have c8 := hG.cat_lt hw
  have v16 := hG.val_lt hw
  refine g_al_n 2 dX1_countWord_0 rfl ?_
  refine g_al_n 0 dX1_countWord_1 rfl ?_
  refine g_get (v := .ref (γ.2.2 14)) 1 1 (by decide) rfl in_X1_countWord_1 rfl (by decide) (by decide +kernel) rfl rfl dX1_countWord_2 ?_
  refine g_il_n 1 dX1_countWord_5 rfl ?_
  refine g_iald (v := nI (g 0 w)) 14 w (by decide) (by decide) (show _ < 9 by omega) (hG.cat hw) dX1_countWord_6 ?_
  refine g_bi (v := nI 16) dX1_countWord_7 (by decide) ?_
  refine g_imul (v := nI ((g 0 w) * 16)) dX1_countWord_9 (pk_mul _ _) ?_
  refine g_al_n 0 dX1_countWord_10 rfl ?_
  refine g_get (v := .ref (γ.2.2 15)) 1 2 (by decide) rfl in_X1_countWord_1 rfl (by decide) (by decide +kernel) rfl rfl dX1_countWord_11 ?_
  refine g_il_n 1 dX1_countWord_14 rfl ?_
  refine g_iald (v := nI (g 1 w)) 15 w (by decide) (by decide) (show _ < 9 by omega) (hG.val hw) dX1_countWord_15 ?_
  refine g_iadd (v := nI ((g 0 w) * 16 + (g 1 w))) dX1_countWord_16 (nI_add _ _) ?_
  refine g_ic (v := nI 1) dX1_countWord_17 (by decide) ?_
  refine g_iast k ((g 0 w) * 16 + (g 1 w)) (by omega) (by omega) (by rw [ln_37 hk]; omega) dX1_countWord_18 ?_
  exact g_vret dX1_countWord_19 (⟨⟨_, rfl, hz.put v16 (by simp [wcnt]) (fun c2 _ v2 _ q => by simp only [wcnt]; rw [if_neg (fun e => q ⟨e.1.symm, e.2.symm⟩)])⟩, rfl⟩)

theorem in_X1_addJoinedWith_1 : ∀ w ∈ wsX10, w ∈ wsX1_addJoinedWith := by decide +kernel
set_option maxRecDepth 100000 in
set_option maxHeartbeats 4000000 in
theorem c_X1_addJoinedWith (l : Launch) (γ : Gm) (I : IT) (L : LT) (P : PT) (g : GR) (n r q a x k2 k3 : Nat) (B M : Nat → Nat → Nat) (hG : GG I g n r) (hq : q < r) (ha : a < 16) (hk2 : 37 ≤ k2) (hk2b : k2 < 71) (hk3 : 37 ≤ k3) (hk3b : k3 < 71) (hne : k2 ≠ k3) (hB : HM (I k2) B) (hM : HM (I k3) M) : Cv l yX1_addJoinedWith wsX1_addJoinedWith 0 γ [.ref (γ.2.2 1), .int (nI q), .int (nI a), .int (nI x), .ref (γ.2.2 k2), .ref (γ.2.2 k3)] I L P (fun I' L' => (∃ F : Nat → Int32, I' = va_up I k3 F ∧ HM F (fun c v => M c v + if g 2 q = c then sm (cj1 (g 5 q) a x (B (g 4 q)) v) 16 else 0)) ∧ L' = L) := by
  refine Cv_of (own := RX1) (cc := cX1_addJoinedWith) (maxL := 9) (by decide) rfl rfl (Nat.le_of_ble_eq_true rfl) ?_
  refine g_sub (lv' := [(0, .ref (γ.2.2 1)), (1, .int (nI q)), (2, .int (nI a)), (3, .int (nI x)), (4, .ref (γ.2.2 k2)), (5, .ref (γ.2.2 k3))]) [0, 1, 2, 3, 4, 5] rfl ?_
  have hr8 := hG.r_le
  have s8 := hG.snd_lt hq
  have m8 := hG.made_lt hq
  refine g_ic (v := nI 0) dX1_addJoinedWith_0 (by decide) ?_
  refine g_is (lv' := [(6, .int (nI 0)), (0, .ref (γ.2.2 1)), (1, .int (nI q)), (2, .int (nI a)), (3, .int (nI x)), (4, .ref (γ.2.2 k2)), (5, .ref (γ.2.2 k3))]) dX1_addJoinedWith_1 (by decide) rfl ?_
  have lp : ∀ (k : Nat) (o : Nat) (F : Nat → Int32) (ho : o + k = 16) (hF : HM F (fun c v => M c v + if g 2 q = c then sm (cj1 (g 5 q) a x (B (g 4 q)) v) o else 0)), G E0 l cX1_addJoinedWith 9 wsX1_addJoinedWith RX1 none (rmd 0) γ P (AE γ) (Qv γ P (fun I' L' => (∃ F : Nat → Int32, I' = va_up I k3 F ∧ HM F (fun c v => M c v + if g 2 q = c then sm (cj1 (g 5 q) a x (B (g 4 q)) v) 16 else 0)) ∧ L' = L)) 0 0 3 [(0, .ref (γ.2.2 1)), (1, .int (nI q)), (2, .int (nI a)), (3, .int (nI x)), (4, .ref (γ.2.2 k2)), (5, .ref (γ.2.2 k3)), (6, .int (nI o))] [] (va_up I k3 F) L := by
    intro k
    induction k with
    | zero =>
      intro o F ho hF
      simp only [Nat.add_zero] at ho
      refine g_il 6 dX1_addJoinedWith_3 rfl ?_
      refine g_bi (v := nI 16) dX1_addJoinedWith_5 (by decide) ?_
      refine gn_ge (tgt := 77) dX1_addJoinedWith_7 (by decide) (by omega) (by omega) (fun h1 => ?_) (fun h1 => ?_)
      · skip
        exact g_vret dX1_addJoinedWith_77 (⟨⟨F, rfl, by rw [← ho]; exact hF⟩, rfl⟩)
      · skip
        exfalso; omega
    | succ k ih =>
      intro o F ho hF
      have hG2 := hG.up (show k3 ≠ 1 ∧ (k3 < 14 ∨ 19 ≤ k3) ∧ (k3 < 29 ∨ 37 ≤ k3) by omega) F
      refine g_il 6 dX1_addJoinedWith_3 rfl ?_
      refine g_bi (v := nI 16) dX1_addJoinedWith_5 (by decide) ?_
      refine gn_ge (tgt := 77) dX1_addJoinedWith_7 (by decide) (by omega) (by omega) (fun h1 => ?_) (fun h1 => ?_)
      · skip
        exfalso; omega
      · skip
        refine g_al_n 0 dX1_addJoinedWith_10 rfl ?_
        refine g_get (v := .ref (γ.2.2 5)) 1 7 (by decide) rfl in_X1_addJoinedWith_1 rfl (by decide) (by decide +kernel) rfl rfl dX1_addJoinedWith_11 ?_
        refine g_il_n 1 dX1_addJoinedWith_14 rfl ?_
        refine g_aald (q := γ.2.2 (q + 29)) 5 q (by decide) rfl (by decide) (show _ < 8 by omega) (if_pos (show _ < 8 by omega)) dX1_addJoinedWith_15 ?_
        refine g_il_n 2 dX1_addJoinedWith_16 rfl ?_
        refine g_bi (v := nI 16) dX1_addJoinedWith_17 (by decide) ?_
        refine g_imul (v := nI (a * 16)) dX1_addJoinedWith_19 (pk_mul _ _) ?_
        refine g_il 6 dX1_addJoinedWith_20 rfl ?_
        refine g_iadd (v := nI (a * 16 + o)) dX1_addJoinedWith_22 (nI_add _ _) ?_
        refine g_iald (v := enc (jp (g 5 q) a o)) (q + 29) (a * 16 + o) (by omega) (by omega) (by rw [ln_29 (by omega)]; omega) (row_at (fun k hk => hG2.row hq hk) ha (by omega)) dX1_addJoinedWith_23 ?_
        refine g_is (lv' := [(7, .int (enc (jp (g 5 q) a o))), (0, .ref (γ.2.2 1)), (1, .int (nI q)), (2, .int (nI a)), (3, .int (nI x)), (4, .ref (γ.2.2 k2)), (5, .ref (γ.2.2 k3)), (6, .int (nI o))]) dX1_addJoinedWith_24 (by decide) rfl ?_
        refine g_il 0 dX1_addJoinedWith_26 rfl ?_
        refine g_ic (v := (-1 : Int32)) dX1_addJoinedWith_28 (by decide) ?_
        refine g_ic_eq (tgt := 71) dX1_addJoinedWith_29 (by decide) (fun h2 => ?_) (fun h2 => ?_)
        · skip
          have hn := enc_eq h2 (fun v hv => by have := jp_lt ha (by omega) hv; omega)
          refine g_inc (v := nI (o + 1)) (lv' := [(6, .int (nI (o + 1))), (7, .int (enc (jp (g 5 q) a o))), (0, .ref (γ.2.2 1)), (1, .int (nI q)), (2, .int (nI a)), (3, .int (nI x)), (4, .ref (γ.2.2 k2)), (5, .ref (γ.2.2 k3))]) 7 dX1_addJoinedWith_71 rfl (inc_1 _) (by decide) rfl ?_
          refine g_goto (tgt := 3) dX1_addJoinedWith_74 (by decide) ?_
          refine g_sub [2, 3, 4, 5, 6, 7, 0] rfl ?_
          exact ih (o + 1) F (by omega) (hF.cong (fun c hc v hv => by simp only [sm, cj1, hn]; simp))
        · skip
          obtain ⟨v, hv⟩ := enc_ne h2
          have hv16 := jp_lt ha (by omega) hv
          rw [show enc (jp (g 5 q) a o) = nI v by rw [hv]; rfl]
          refine g_al 5 dX1_addJoinedWith_32 rfl ?_
          refine g_al_n 1 dX1_addJoinedWith_34 rfl ?_
          refine g_get (v := .ref (γ.2.2 18)) 1 6 (by decide) rfl in_X1_addJoinedWith_1 rfl (by decide) (by decide +kernel) rfl rfl dX1_addJoinedWith_35 ?_
          refine g_il_n 2 dX1_addJoinedWith_38 rfl ?_
          refine g_iald (v := nI (g 4 q)) 18 q (by decide) (by decide) (show _ < 8 by omega) (hG2.snd hq) dX1_addJoinedWith_39 ?_
          refine g_bi (v := nI 16) dX1_addJoinedWith_40 (by decide) ?_
          refine g_imul (v := nI ((g 4 q) * 16)) dX1_addJoinedWith_42 (pk_mul _ _) ?_
          refine g_il 7 dX1_addJoinedWith_43 rfl ?_
          refine g_iadd (v := nI ((g 4 q) * 16 + o)) dX1_addJoinedWith_45 (nI_add _ _) ?_
          refine g_iald (v := nI (B (g 4 q) o)) k2 ((g 4 q) * 16 + o) (by omega) (by omega) (by rw [ln_37 hk2]; omega) (by rw [va_up_ne _ _ hne]; exact hB _ s8 _ (by omega)) dX1_addJoinedWith_46 ?_
          refine g_is (lv' := [(8, .int (nI (B (g 4 q) o))), (7, .int (nI v)), (0, .ref (γ.2.2 1)), (1, .int (nI q)), (2, .int (nI a)), (3, .int (nI x)), (4, .ref (γ.2.2 k2)), (5, .ref (γ.2.2 k3)), (6, .int (nI o))]) dX1_addJoinedWith_47 (by decide) rfl ?_
          refine g_al 7 dX1_addJoinedWith_49 rfl ?_
          refine g_al_n 2 dX1_addJoinedWith_51 rfl ?_
          refine g_get (v := .ref (γ.2.2 16)) 1 4 (by decide) rfl in_X1_addJoinedWith_1 rfl (by decide) (by decide +kernel) rfl rfl dX1_addJoinedWith_52 ?_
          refine g_il_n 3 dX1_addJoinedWith_55 rfl ?_
          refine g_iald (v := nI (g 2 q)) 16 q (by decide) (by decide) (show _ < 8 by omega) (hG2.made hq) dX1_addJoinedWith_56 ?_
          refine g_bi (v := nI 16) dX1_addJoinedWith_57 (by decide) ?_
          refine g_imul (v := nI ((g 2 q) * 16)) dX1_addJoinedWith_59 (pk_mul _ _) ?_
          refine g_il 1 dX1_addJoinedWith_60 rfl ?_
          refine g_iadd (v := nI ((g 2 q) * 16 + v)) dX1_addJoinedWith_62 (nI_add _ _) ?_
          refine g_dup2 dX1_addJoinedWith_63 rfl rfl ?_
          refine g_iald (v := nI (M (g 2 q) v + sm (cj1 (g 5 q) a x (B (g 4 q)) v) o)) k3 ((g 2 q) * 16 + v) (by omega) (by omega) (by rw [ln_37 hk3]; omega) (by rw [va_us, hF _ m8 _ hv16]; simp) dX1_addJoinedWith_64 ?_
          refine g_il_n 5 dX1_addJoinedWith_65 rfl ?_
          refine g_il 0 dX1_addJoinedWith_66 rfl ?_
          refine g_imul (v := nI (x * (B (g 4 q) o))) dX1_addJoinedWith_68 (pk_mul _ _) ?_
          refine g_iadd (v := nI (M (g 2 q) v + sm (cj1 (g 5 q) a x (B (g 4 q)) v) o + x * B (g 4 q) o)) dX1_addJoinedWith_69 (nI_add _ _) ?_
          refine g_iast k3 ((g 2 q) * 16 + v) (by omega) (by omega) (by rw [ln_37 hk3]; omega) dX1_addJoinedWith_70 ?_
          refine g_eq (I' := va_up I k3 (upd F (g 2 q * 16 + v) (nI (M (g 2 q) v + sm (cj1 (g 5 q) a x (B (g 4 q)) v) o + x * B (g 4 q) o)))) (va_uw _ _ _ _ _) rfl ?_
          refine g_inc (v := nI (o + 1)) (lv' := [(6, .int (nI (o + 1))), (8, .int (nI (B (g 4 q) o))), (7, .int (nI v)), (0, .ref (γ.2.2 1)), (1, .int (nI q)), (2, .int (nI a)), (3, .int (nI x)), (4, .ref (γ.2.2 k2)), (5, .ref (γ.2.2 k3))]) 8 dX1_addJoinedWith_71 rfl (inc_1 _) (by decide) rfl ?_
          refine g_goto (tgt := 3) dX1_addJoinedWith_74 (by decide) ?_
          refine g_sub [3, 4, 5, 6, 7, 8, 0] rfl ?_
          exact ih (o + 1) (upd F (g 2 q * 16 + v) (nI (M (g 2 q) v + sm (cj1 (g 5 q) a x (B (g 4 q)) v) o + x * B (g 4 q) o))) (by omega) (hF.put hv16 (by simp only [sm, cj1, hv]; simp; omega) (fun c2 _ v2 _ e => by
            by_cases e2 : g 2 q = c2
            · have e3 : v ≠ v2 := fun e9 => e ⟨e2.symm, e9.symm⟩
              simp only [sm, cj1, hv]; simp [e2, e3]
            · simp [e2]))
  refine g_sub [1, 2, 3, 4, 5, 6, 0] rfl ?_
  refine g_eq (I' := va_up I k3 (I k3)) (va_id _ _).symm rfl ?_
  exact lp 16 0 _ rfl (hM.cong (fun c _ v _ => by simp [sm]))

theorem in_X1_addJoined_1 : ∀ w ∈ wsX10, w ∈ wsX1_addJoined := by decide +kernel
set_option maxRecDepth 100000 in
set_option maxHeartbeats 4000000 in
theorem c_X1_addJoined (l : Launch) (γ : Gm) (I : IT) (L : LT) (P : PT) (g : GR) (n r k1 k2 k3 : Nat) (A B M : Nat → Nat → Nat) (hG : GG I g n r) (hk1 : 37 ≤ k1) (hk1b : k1 < 8 ∨ 12 ≤ k1 ∧ k1 < 20 ∨ 29 ≤ k1 ∧ k1 < 71) (hk2 : 37 ≤ k2) (hk2b : k2 < 71) (hk3 : 37 ≤ k3) (hk3b : k3 < 71) (hn1 : k1 ≠ k3) (hn2 : k2 ≠ k3) (hA : HM (I k1) A) (hA2 : ∀ c, c < 8 → ∀ v, v < 16 → A c v < 2 ^ 31) (hB : HM (I k2) B) (hM : HM (I k3) M) : Cv l yX1_addJoined wsX1_addJoined 1 γ [.ref (γ.2.2 1), .ref (γ.2.2 k1), .ref (γ.2.2 k2), .ref (γ.2.2 k3)] I L P (fun I' L' => (∃ F : Nat → Int32, I' = va_up I k3 F ∧ HM F (fun c v => M c v + cst g r A B c v)) ∧ L' = L) := by
  refine Cv_of (own := RX1) (cc := cX1_addJoined) (maxL := 7) (by decide) rfl rfl (Nat.le_of_ble_eq_true rfl) ?_
  refine g_sub (lv' := [(0, .ref (γ.2.2 1)), (1, .ref (γ.2.2 k1)), (2, .ref (γ.2.2 k2)), (3, .ref (γ.2.2 k3))]) [0, 1, 2, 3] rfl ?_
  have hr8 := hG.r_le
  refine g_ic (v := nI 0) dX1_addJoined_0 (by decide) ?_
  refine g_is (lv' := [(4, .int (nI 0)), (0, .ref (γ.2.2 1)), (1, .ref (γ.2.2 k1)), (2, .ref (γ.2.2 k2)), (3, .ref (γ.2.2 k3))]) dX1_addJoined_1 (by decide) rfl ?_
  have lp : ∀ (k : Nat) (q : Nat) (F : Nat → Int32) (hk : q + k = r) (hF : HM F (fun c v => M c v + cst g q A B c v)), G E0 l cX1_addJoined 7 wsX1_addJoined RX1 none (rmd 1) γ P (AE γ) (Qv γ P (fun I' L' => (∃ F : Nat → Int32, I' = va_up I k3 F ∧ HM F (fun c v => M c v + cst g r A B c v)) ∧ L' = L)) 0 0 3 [(0, .ref (γ.2.2 1)), (1, .ref (γ.2.2 k1)), (2, .ref (γ.2.2 k2)), (3, .ref (γ.2.2 k3)), (4, .int (nI q))] [] (va_up I k3 F) L := by
    intro k
    induction k with
    | zero =>
      intro q F hk hF
      simp only [Nat.add_zero] at hk
      refine g_il 4 dX1_addJoined_3 rfl ?_
      refine g_al_n 0 dX1_addJoined_5 rfl ?_
      refine g_get 1 3 (by decide) rfl in_X1_addJoined_1 rfl (by decide) (by decide +kernel) rfl rfl dX1_addJoined_6 ?_
      refine g_top (v := nI r) ((hG.up (by omega) F).cr) ?_
      refine gn_ge (tgt := 68) dX1_addJoined_9 (by decide) (by omega) (by omega) (fun h1 => ?_) (fun h1 => ?_)
      · skip
        exact g_vret dX1_addJoined_68 (⟨⟨F, rfl, by rw [← hk]; exact hF⟩, rfl⟩)
      · skip
        exfalso; omega
    | succ k ih =>
      intro q F hk hF
      have hq : q < r := by omega
      have f8 := hG.fst_lt hq
      refine g_il 4 dX1_addJoined_3 rfl ?_
      refine g_al_n 0 dX1_addJoined_5 rfl ?_
      refine g_get 1 3 (by decide) rfl in_X1_addJoined_1 rfl (by decide) (by decide +kernel) rfl rfl dX1_addJoined_6 ?_
      refine g_top (v := nI r) ((hG.up (by omega) F).cr) ?_
      refine gn_ge (tgt := 68) dX1_addJoined_9 (by decide) (by omega) (by omega) (fun h1 => ?_) (fun h1 => ?_)
      · skip
        exfalso; omega
      · skip
        refine g_ic (v := nI 0) dX1_addJoined_12 (by decide) ?_
        refine g_is (lv' := [(5, .int (nI 0)), (0, .ref (γ.2.2 1)), (1, .ref (γ.2.2 k1)), (2, .ref (γ.2.2 k2)), (3, .ref (γ.2.2 k3)), (4, .int (nI q))]) dX1_addJoined_13 (by decide) rfl ?_
        have lp2 : ∀ (m : Nat) (a : Nat) (F : Nat → Int32) (ha : a + m = 16) (hF : HM F (fun c v => M c v + cst g q A B c v + if g 2 q = c then sm (cj2 (g 5 q) (A (g 3 q)) (B (g 4 q)) v) a else 0)), G E0 l cX1_addJoined 7 wsX1_addJoined RX1 none (rmd 1) γ P (AE γ) (Qv γ P (fun I' L' => (∃ F : Nat → Int32, I' = va_up I k3 F ∧ HM F (fun c v => M c v + cst g r A B c v)) ∧ L' = L)) 0 0 15 [(0, .ref (γ.2.2 1)), (1, .ref (γ.2.2 k1)), (2, .ref (γ.2.2 k2)), (3, .ref (γ.2.2 k3)), (4, .int (nI q)), (5, .int (nI a))] [] (va_up I k3 F) L := by
          intro m
          induction m with
          | zero =>
            intro a F ha hF
            simp only [Nat.add_zero] at ha
            refine g_il 5 dX1_addJoined_15 rfl ?_
            refine g_bi (v := nI 16) dX1_addJoined_17 (by decide) ?_
            refine gn_ge (tgt := 62) dX1_addJoined_19 (by decide) (by omega) (by omega) (fun h3 => ?_) (fun h3 => ?_)
            · skip
              refine g_inc (v := nI (q + 1)) (lv' := [(4, .int (nI (q + 1))), (0, .ref (γ.2.2 1)), (1, .ref (γ.2.2 k1)), (2, .ref (γ.2.2 k2)), (3, .ref (γ.2.2 k3)), (5, .int (nI a))]) 4 dX1_addJoined_62 rfl (inc_1 _) (by decide) rfl ?_
              refine g_goto (tgt := 3) dX1_addJoined_65 (by decide) ?_
              refine g_sub [1, 2, 3, 4, 0] rfl ?_
              exact ih (q + 1) F (by omega) (hF.cong (fun c hc v hv => by
                rw [ha]
                show _ = M c v + (cst g q A B c v + ctr g A B c v q)
                simp only [ctr]; omega))
            · skip
              exfalso; omega
          | succ m ih2 =>
            intro a F ha hF
            have hG2 := hG.up (show k3 ≠ 1 ∧ (k3 < 14 ∨ 19 ≤ k3) ∧ (k3 < 29 ∨ 37 ≤ k3) by omega) F
            refine g_il 5 dX1_addJoined_15 rfl ?_
            refine g_bi (v := nI 16) dX1_addJoined_17 (by decide) ?_
            refine gn_ge (tgt := 62) dX1_addJoined_19 (by decide) (by omega) (by omega) (fun h3 => ?_) (fun h3 => ?_)
            · skip
              exfalso; omega
            · skip
              refine g_al_n 1 dX1_addJoined_22 rfl ?_
              refine g_al_n 0 dX1_addJoined_23 rfl ?_
              refine g_get (v := .ref (γ.2.2 17)) 1 5 (by decide) rfl in_X1_addJoined_1 rfl (by decide) (by decide +kernel) rfl rfl dX1_addJoined_24 ?_
              refine g_il 4 dX1_addJoined_27 rfl ?_
              refine g_iald (v := nI (g 3 q)) 17 q (by decide) (by decide) (show _ < 8 by omega) (hG2.fst hq) dX1_addJoined_29 ?_
              refine g_bi (v := nI 16) dX1_addJoined_30 (by decide) ?_
              refine g_imul (v := nI ((g 3 q) * 16)) dX1_addJoined_32 (pk_mul _ _) ?_
              refine g_il 5 dX1_addJoined_33 rfl ?_
              refine g_iadd (v := nI ((g 3 q) * 16 + a)) dX1_addJoined_35 (nI_add _ _) ?_
              refine g_iald (v := nI (A (g 3 q) a)) k1 ((g 3 q) * 16 + a) (by omega) (by omega) (by rw [ln_37 hk1]; omega) (by rw [va_up_ne _ _ hn1]; exact hA _ f8 _ (by omega)) dX1_addJoined_36 ?_
              refine g_is (lv' := [(6, .int (nI (A (g 3 q) a))), (0, .ref (γ.2.2 1)), (1, .ref (γ.2.2 k1)), (2, .ref (γ.2.2 k2)), (3, .ref (γ.2.2 k3)), (4, .int (nI q)), (5, .int (nI a))]) dX1_addJoined_37 (by decide) rfl ?_
              refine g_il 0 dX1_addJoined_39 rfl ?_
              refine gz_eq (tgt := 56) dX1_addJoined_41 (by decide) (hA2 _ f8 _ (by omega)) (fun h4 => ?_) (fun h4 => ?_)
              · skip
                refine g_inc (v := nI (a + 1)) (lv' := [(5, .int (nI (a + 1))), (6, .int (nI (A (g 3 q) a))), (0, .ref (γ.2.2 1)), (1, .ref (γ.2.2 k1)), (2, .ref (γ.2.2 k2)), (3, .ref (γ.2.2 k3)), (4, .int (nI q))]) 6 dX1_addJoined_56 rfl (inc_1 _) (by decide) rfl ?_
                refine g_goto (tgt := 15) dX1_addJoined_59 (by decide) ?_
                refine g_sub [2, 3, 4, 5, 6, 0] rfl ?_
                exact ih2 (a + 1) F (by omega) (hF.cong (fun c hc v hv => by
                  have e : cj2 (g 5 q) (A (g 3 q)) (B (g 4 q)) v a = 0 := sm_zero (fun o _ => by simp [cj1, h4])
                  simp only [sm, e, Nat.add_zero]))
              · skip
                refine g_al_n 1 dX1_addJoined_44 rfl ?_
                refine g_il 5 dX1_addJoined_45 rfl ?_
                refine g_il 6 dX1_addJoined_47 rfl ?_
                refine g_il 0 dX1_addJoined_49 rfl ?_
                refine g_al_n 3 dX1_addJoined_51 rfl ?_
                refine g_al_n 4 dX1_addJoined_52 rfl ?_
                refine g_cv (r_V (st := []) (As := [.int (nI q), .int (nI a), .int (nI (A (g 3 q) a)), .ref (γ.2.2 k2), .ref (γ.2.2 k3)]) (d := 0) 1 (by decide) rfl rfl (c_X1_addJoinedWith l γ (va_up I k3 F) L P g n r q a (A (g 3 q) a) k2 k3 B (fun c v => M c v + cst g q A B c v + if g 2 q = c then sm (cj2 (g 5 q) (A (g 3 q)) (B (g 4 q)) v) a else 0) hG2 hq (by omega) hk2 hk2b hk3 hk3b hn2 (by rw [va_up_ne _ _ hn2]; exact hB) (by rw [va_us]; exact hF)) gX1_addJoined_X1_addJoinedWith rfl ⟨rfl, by decide, by decide, rfl⟩ ⟨Nat.le_of_ble_eq_true rfl, Nat.le_of_ble_eq_true rfl⟩ rfl (Nat.le_of_ble_eq_true rfl) dX1_addJoined_53 ⟨Nat.zero_le _, Nat.zero_le _⟩) ?_
                rintro Iz1 Lz1 ⟨⟨F1, eIz1, hF1⟩, eLz1⟩
                rw [eIz1, eLz1, va_uu]
                refine g_inc (v := nI (a + 1)) (lv' := [(5, .int (nI (a + 1))), (6, .int (nI (A (g 3 q) a))), (0, .ref (γ.2.2 1)), (1, .ref (γ.2.2 k1)), (2, .ref (γ.2.2 k2)), (3, .ref (γ.2.2 k3)), (4, .int (nI q))]) 6 dX1_addJoined_56 rfl (inc_1 _) (by decide) rfl ?_
                refine g_goto (tgt := 15) dX1_addJoined_59 (by decide) ?_
                refine g_sub [2, 3, 4, 5, 6, 0] rfl ?_
                exact ih2 (a + 1) F1 (by omega) (hF1.cong (fun c hc v hv => by
                  by_cases e : g 2 q = c
                  · simp only [if_pos e, sm, cj2]; omega
                  · simp only [if_neg e]))
        refine g_sub [1, 2, 3, 4, 5, 0] rfl ?_
        exact lp2 16 0 F rfl (hF.cong (fun c _ v _ => by simp [sm]))
  refine g_sub [1, 2, 3, 4, 0] rfl ?_
  refine g_eq (I' := va_up I k3 (I k3)) (va_id _ _).symm rfl ?_
  exact lp r 0 _ (Nat.zero_add _) (hM.cong (fun c _ v _ => by simp [cst, sm]))
