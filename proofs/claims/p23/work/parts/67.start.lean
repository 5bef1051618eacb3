/-! from the made cells to the world by ids -/
def adS (h4 : Nat) (u4 : Nat → Nat) : Nat → Nat := fun k => if k < 29 then [h4, u4 0, u4 3, u4 4, u4 5, u4 15, u4 30, u4 40, 0, 0, 0, 0, u4 1, u4 2, u4 10, u4 11, u4 12, u4 13, u4 14, u4 20].getD k 0 else if k < 37 then u4 15 + 1 + (k - 29) else if k < 58 then u4 30 + 1 + (k - 37) else u4 40 + 1 + (k - 58)
def gS : Nat → Nat := fun j => [0, 1, 18, 20, 43, 7, 21, 44, 16, 17, 2, 3, 4, 5, 6, 19, 8, 9, 10, 11, 12, 13, 14, 15, 22, 23, 24, 25, 26, 27, 28, 29, 30, 31, 32, 33, 34, 35, 36, 37, 38, 39, 40, 41, 42, 45, 46, 47, 48, 49, 50, 51, 52, 53, 54, 55, 56, 57].getD j (j + 100)
theorem gS_inj0 : ∀ i : Nat, i < 58 → ∀ j : Nat, j < 58 → gS i = gS j → i = j := by decide +kernel
theorem gS_inj (i j : Nat) (hi : i < 58) (hj : j < 58) (e : gS i = gS j) : i = j := gS_inj0 i hi j hj e
abbrev wS (γ : Gm) (h4 : Nat) (u4 : Nat → Nat) : va_W := fin4 γ h4 u4
abbrev gmS (γ : Gm) (h4 : Nat) (u4 : Nat → Nat) : Gm := (γ.1, (γ.2.1, adS h4 u4))
theorem ad5 (h4 : Nat) (u4 : Nat → Nat) : (fun j => if j < 8 then some (adS h4 u4 (j + 29)) else none) = fun j => if j < 8 then some (u4 15 + 1 + j) else none := by
  funext j
  by_cases h : j < 8
  · rw [if_pos h, if_pos h, adS, if_neg (by omega), if_pos (by omega), Nat.add_sub_cancel]
  · rw [if_neg h, if_neg h]
theorem ad6 (h4 : Nat) (u4 : Nat → Nat) : (fun j => if j < 21 then some (adS h4 u4 (j + 37)) else none) = fun j => if j < 21 then some (u4 30 + 1 + j) else none := by
  funext j
  by_cases h : j < 21
  · rw [if_pos h, if_pos h, adS, if_neg (by omega), if_neg (by omega), if_pos (by omega), Nat.add_sub_cancel]
  · rw [if_neg h, if_neg h]
theorem ad7 (h4 : Nat) (u4 : Nat → Nat) : (fun j => if j < 13 then some (adS h4 u4 (j + 58)) else none) = fun j => if j < 13 then some (u4 40 + 1 + j) else none := by
  funext j
  by_cases h : j < 13
  · rw [if_pos h, if_pos h, adS, if_neg (by omega), if_neg (by omega), if_neg (by omega), Nat.add_sub_cancel]
  · rw [if_neg h, if_neg h]
theorem wS_at (γ : Gm) (h4 : Nat) (u4 : Nat → Nat) : ∀ j, j < 58 → (wS γ h4 u4)[gS j]? = some (adS h4 u4 (ix j), ee (gmS γ h4 u4) (fun _ _ => 0) (fun _ _ => 0) (fun _ => 0) (ix j)) := fun j hj => by
  match j, hj with
  | 0, _ => rfl
  | 1, _ => rfl
  | 2, _ => rfl
  | 3, _ => rfl
  | 4, _ => rfl
  | 5, _ => show _ = some (_, (.inl (_, _, .inr (.inr (.inr (.inr (fun j => if j < 8 then some (adS h4 u4 (j + 29)) else none))))) : va_E)); rw [ad5]; rfl
  | 6, _ => show _ = some (_, (.inl (_, _, .inr (.inr (.inr (.inr (fun j => if j < 21 then some (adS h4 u4 (j + 37)) else none))))) : va_E)); rw [ad6]; rfl
  | 7, _ => show _ = some (_, (.inl (_, _, .inr (.inr (.inr (.inr (fun j => if j < 13 then some (adS h4 u4 (j + 58)) else none))))) : va_E)); rw [ad7]; rfl
  | 8, _ => rfl
  | 9, _ => rfl
  | 10, _ => rfl
  | 11, _ => rfl
  | 12, _ => rfl
  | 13, _ => rfl
  | 14, _ => rfl
  | 15, _ => rfl
  | 16, _ => rfl
  | 17, _ => rfl
  | 18, _ => rfl
  | 19, _ => rfl
  | 20, _ => rfl
  | 21, _ => rfl
  | 22, _ => rfl
  | 23, _ => rfl
  | 24, _ => rfl
  | 25, _ => rfl
  | 26, _ => rfl
  | 27, _ => rfl
  | 28, _ => rfl
  | 29, _ => rfl
  | 30, _ => rfl
  | 31, _ => rfl
  | 32, _ => rfl
  | 33, _ => rfl
  | 34, _ => rfl
  | 35, _ => rfl
  | 36, _ => rfl
  | 37, _ => rfl
  | 38, _ => rfl
  | 39, _ => rfl
  | 40, _ => rfl
  | 41, _ => rfl
  | 42, _ => rfl
  | 43, _ => rfl
  | 44, _ => rfl
  | 45, _ => rfl
  | 46, _ => rfl
  | 47, _ => rfl
  | 48, _ => rfl
  | 49, _ => rfl
  | 50, _ => rfl
  | 51, _ => rfl
  | 52, _ => rfl
  | 53, _ => rfl
  | 54, _ => rfl
  | 55, _ => rfl
  | 56, _ => rfl
  | 57, _ => rfl
  | j + 58, h9 => exact absurd h9 (by omega)
theorem wS_P {γ : Gm} {h4 : Nat} {u4 : Nat → Nat} {H : Heap} {A : Nat → Prop} (hP : va_P γ.1 vwCl (wS γ h4 u4) H) (hD : va_D A (wS γ h4 u4)) : va_P γ.1 vwCl (wd (gmS γ h4 u4) (fun _ _ => 0) (fun _ _ => 0) (fun _ => 0)) H ∧ va_D A (wd (gmS γ h4 u4) (fun _ _ => 0) (fun _ _ => 0) (fun _ => 0)) := by
  have hg : ∀ (k : Nat) (q : Nat × va_E), (wd (gmS γ h4 u4) (fun _ _ => 0) (fun _ _ => 0) (fun _ => 0))[k]? = some q → (wS γ h4 u4)[gS k]? = some q := fun k q hq => by
    rcases Nat.lt_or_ge k 58 with h | h
    · rw [wl_at h] at hq
      cases hq
      exact wS_at γ h4 u4 k h
    · rw [wl_none h] at hq
      cases hq
  refine ⟨hP.by gS hg, hD.by gS hg (fun i j hi hj e => gS_inj i j ?_ ?_ e)⟩
  · simpa [wd, wl] using hi
  · simpa [wd, wl] using hj
theorem GW0 (g : GR) (u : Nat → Nat) : GW (fun _ _ => 0) g 0 0 0 u := ⟨⟨rfl, by omega, rfl, by omega, fun w h => absurd h (Nat.not_lt_zero _), fun w h => absurd h (Nat.not_lt_zero _)⟩, rfl, by omega, fun w h => absurd h (Nat.not_lt_zero _)⟩
set_option maxRecDepth 100000 in
set_option maxHeartbeats 4000000 in
theorem law_run (l : Launch) (hl0 : l.stackTraces = false) (γ : Gm) (b Ln : Nat) (xs : Nat → Int32) (hLn : Ln ≤ 260) (g : GR) (u : Nat → Nat) (I : IT) (L : LT) (P : PT) (cells slots : Nat) (hG : GW I g 0 0 0 u) (hc : cells + 1218 ≤ 600104) (hs : slots + 7308 ≤ 7301314) : G (ELw b Ln xs) l cL_law 16 wsL_law RL (some .boolean) room_1 γ P ALw (QLw b) cells slots 8 [(0, .ref b), (1, .ref (γ.2.2 0))] [] I L := by
  refine g_ic (v := nI 0) dL_law_8 (by decide) ?_
  refine g_is_n (lv' := [(2, .int (nI 0)), (0, .ref b), (1, .ref (γ.2.2 0))]) dL_law_9 (by decide) rfl ?_
  refine g_ic (v := nI 0) dL_law_10 (by decide) ?_
  refine g_is_n (lv' := [(3, .int (nI 0)), (2, .int (nI 0)), (0, .ref b), (1, .ref (γ.2.2 0))]) dL_law_11 (by decide) rfl ?_
  refine g_al_n 3 dL_law_12 rfl ?_
  refine g_ic (v := nI 0) dL_law_13 (by decide) ?_
  refine g_ck (mc := 18) (ms := 108) (st := []) (As := [.ref (γ.2.2 0), .int (nI 0)]) (d := 8) (c_L_reads l hl0 γ I L P g 0 0 0 u hG 0 (by decide)) gL_law_L_reads rfl ⟨by decide, by decide, rfl⟩ ⟨Nat.le_of_ble_eq_true rfl, Nat.le_of_ble_eq_true rfl⟩ rfl (Nat.le_of_ble_eq_true rfl) dL_law_14 ⟨by show _ ≤ 600104; omega, by show _ ≤ 7301314; omega⟩ ?_
  rintro r1 J1 L1 ⟨er1, hG1, eL1⟩
  rw [er1, eL1]
  refine g_pc (pc' := 17) rfl ?_
  refine g_is (lv' := [(4, .int (nI 1)), (3, .int (nI 0)), (2, .int (nI 0)), (0, .ref b), (1, .ref (γ.2.2 0))]) dL_law_17 (by decide) rfl ?_
  refine g_ic (v := nI 0) dL_law_19 (by decide) ?_
  refine g_is (lv' := [(5, .int (nI 0)), (4, .int (nI 1)), (3, .int (nI 0)), (2, .int (nI 0)), (0, .ref b), (1, .ref (γ.2.2 0))]) dL_law_20 (by decide) rfl ?_
  refine g_sub [4, 5, 3, 2, 1, 0] rfl ?_
  exact law_loop l hl0 γ b Ln xs hLn 30 0 rfl g 0 0 0 u J1 L P _ _ hG1 (by decide) (by omega) (by omega)
/-- the law's start, as the walk of the constructors sees it -/
def SOK (γ : Gm) (b Ln : Nat) (xs : Nat → Int32) (args : Array Value) (s : State) : Prop := args = #[Value.ref b] ∧ (∀ c, ELw b Ln xs s c) ∧ Fx γ (ALw s) s
def QS (γ : Gm) (b Ln : Nat) (xs : Nat → Int32) : List Frame → Array Value → State → State → Prop := fun below args s t => SOK γ b Ln xs args s → lw_Z below #[Value.ref b] s t
theorem to_loop (l : Launch) (hl0 : l.stackTraces = false) (γ : Gm) (b Ln : Nat) (xs : Nat → Int32) (hLn : Ln ≤ 260) (h4 : Nat) (u4 : Nat → Nat) (cells slots : Nat) (hc : cells + 1218 ≤ 600104) (hs : slots + 7308 ≤ 7301314) : GN l cL_law 16 wsL_law RL (some .boolean) room_1 γ ALw false (QS γ b Ln xs) cells slots 8 [(1, .ref h4), (0, .ref b)] [] (wS γ h4 u4) := by
  intro p e s m args below meth c K H locs ls hS hP hD hl
  by_cases hok : SOK γ b Ln xs args s
  · obtain ⟨ha, hX, hF⟩ := hok
    obtain ⟨hP1, hD1⟩ := wS_P hP hD
    have hr := law_run l hl0 (gmS γ h4 u4) b Ln xs hLn (fun _ _ => 0) (fun _ => 0) (fun _ _ => 0) (fun _ _ => 0) (fun _ => 0) cells slots (GW0 _ _) hc hs
    have hg : G (ELw b Ln xs) l cL_law 16 wsL_law RL (some .boolean) room_1 (gmS γ h4 u4) (fun _ => 0) ALw (QLw b) cells slots 8 [(1, .ref h4), (0, .ref b)] [] (fun _ _ => 0) (fun _ _ => 0) := g_sub [1, 0] rfl hr
    intro T hT X
    obtain ⟨t, h1, h2⟩ := hg p e s m args below meth c ⟨K.1, hF, K.2.2.1, K.2.2.2.1, K.2.2.2.2.1, hX c⟩ H locs ls hS hP1 hD1 hl T hT X
    exact ⟨t, h1, fun _ => h2 ha⟩
  · intro T hT X
    exact ⟨_, Steps.refl _, fun h => absurd h hok⟩
