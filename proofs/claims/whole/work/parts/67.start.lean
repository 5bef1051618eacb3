/-! from the made cells to the world by ids -/
def adS (h4 : Nat) (u4 : Nat → Nat) (h5 : Nat) (u5 : Nat → Nat) (a d : Nat) : Nat → Nat := fun k => if k < 29 then [h4, u4 0, u4 3, u4 4, u4 5, u4 15, u4 30, u4 40, h5, u5 9, a, d, u4 1, u4 2, u4 10, u4 11, u4 12, u4 13, u4 14, u4 20, u5 0, u5 1, u5 2, u5 3, u5 4, u5 5, u5 6, u5 7, u5 8].getD k 0 else if k < 37 then u4 15 + 1 + (k - 29) else if k < 58 then u4 30 + 1 + (k - 37) else u4 40 + 1 + (k - 58)
def gS : Nat → Nat := fun k => [0, 1, 18, 20, 43, 7, 21, 44, 58, 68, 69, 70, 16, 17, 2, 3, 4, 5, 6, 19, 59, 60, 61, 62, 63, 64, 65, 66, 67, 8, 9, 10, 11, 12, 13, 14, 15, 22, 23, 24, 25, 26, 27, 28, 29, 30, 31, 32, 33, 34, 35, 36, 37, 38, 39, 40, 41, 42, 45, 46, 47, 48, 49, 50, 51, 52, 53, 54, 55, 56, 57].getD k (k + 100)
theorem gS_inj0 : ∀ i : Nat, i < 71 → ∀ j : Nat, j < 71 → gS i = gS j → i = j := by decide +kernel
theorem gS_inj (i j : Nat) (hi : i < 71) (hj : j < 71) (e : gS i = gS j) : i = j := gS_inj0 i hi j hj e
abbrev wS (γ : Gm) (h4 : Nat) (u4 : Nat → Nat) (h5 : Nat) (u5 : Nat → Nat) (a d : Nat) : va_W := ((fin4 γ h4 u4 ++ fin5 γ h5 u5) ++ [(a, .inl (γ.2.1 2, 1, .inr (.inl (fun _ => 0))))]) ++ [(d, .inl (γ.2.1 3, 1, .inr (.inr (.inr (.inl (fun _ => 0))))))]
abbrev gmS (γ : Gm) (h4 : Nat) (u4 : Nat → Nat) (h5 : Nat) (u5 : Nat → Nat) (a d : Nat) : Gm := (γ.1, (γ.2.1, adS h4 u4 h5 u5 a d))
theorem ad5 (h4 : Nat) (u4 : Nat → Nat) (h5 : Nat) (u5 : Nat → Nat) (a d : Nat) : (fun j => if j < 8 then some (adS h4 u4 h5 u5 a d (j + 29)) else none) = fun j => if j < 8 then some (u4 15 + 1 + j) else none := by
  funext j
  by_cases h : j < 8
  · rw [if_pos h, if_pos h, adS, if_neg (by omega), if_pos (by omega), Nat.add_sub_cancel]
  · rw [if_neg h, if_neg h]
theorem ad6 (h4 : Nat) (u4 : Nat → Nat) (h5 : Nat) (u5 : Nat → Nat) (a d : Nat) : (fun j => if j < 21 then some (adS h4 u4 h5 u5 a d (j + 37)) else none) = fun j => if j < 21 then some (u4 30 + 1 + j) else none := by
  funext j
  by_cases h : j < 21
  · rw [if_pos h, if_pos h, adS, if_neg (by omega), if_neg (by omega), if_pos (by omega), Nat.add_sub_cancel]
  · rw [if_neg h, if_neg h]
theorem ad7 (h4 : Nat) (u4 : Nat → Nat) (h5 : Nat) (u5 : Nat → Nat) (a d : Nat) : (fun j => if j < 13 then some (adS h4 u4 h5 u5 a d (j + 58)) else none) = fun j => if j < 13 then some (u4 40 + 1 + j) else none := by
  funext j
  by_cases h : j < 13
  · rw [if_pos h, if_pos h, adS, if_neg (by omega), if_neg (by omega), if_neg (by omega), Nat.add_sub_cancel]
  · rw [if_neg h, if_neg h]
theorem wS_at (γ : Gm) (h4 : Nat) (u4 : Nat → Nat) (h5 : Nat) (u5 : Nat → Nat) (a d : Nat) : ∀ k, k < 71 → (wS γ h4 u4 h5 u5 a d)[gS k]? = some (adS h4 u4 h5 u5 a d k, ee (gmS γ h4 u4 h5 u5 a d) (fun _ _ => 0) (fun _ _ => 0) (fun _ => 0) k) := fun k hk => by
  match k, hk with
  | 0, _ => rfl
  | 1, _ => rfl
  | 2, _ => rfl
  | 3, _ => rfl
  | 4, _ => rfl
  | 5, _ => show _ = some (_, (.inl (_, _, .inr (.inr (.inr (.inr (fun j => if j < 8 then some (adS h4 u4 h5 u5 a d (j + 29)) else none))))) : va_E)); rw [ad5]; rfl
  | 6, _ => show _ = some (_, (.inl (_, _, .inr (.inr (.inr (.inr (fun j => if j < 21 then some (adS h4 u4 h5 u5 a d (j + 37)) else none))))) : va_E)); rw [ad6]; rfl
  | 7, _ => show _ = some (_, (.inl (_, _, .inr (.inr (.inr (.inr (fun j => if j < 13 then some (adS h4 u4 h5 u5 a d (j + 58)) else none))))) : va_E)); rw [ad7]; rfl
  | 8, _ => rfl
  | 9, _ => rfl
  | 10, _ => rfl
  | 11, _ => rfl
  | 12, _ => rfl
  | 13, _ => rfl
  | 14, _ => rfl
  | 15, _ => rfl
  | 16, _ => rfl
  | 17, _ => rfl
  | 18, _ => rfl
  | 19, _ => rfl
  | 20, _ => rfl
  | 21, _ => rfl
  | 22, _ => rfl
  | 23, _ => rfl
  | 24, _ => rfl
  | 25, _ => rfl
  | 26, _ => rfl
  | 27, _ => rfl
  | 28, _ => rfl
  | 29, _ => rfl
  | 30, _ => rfl
  | 31, _ => rfl
  | 32, _ => rfl
  | 33, _ => rfl
  | 34, _ => rfl
  | 35, _ => rfl
  | 36, _ => rfl
  | 37, _ => rfl
  | 38, _ => rfl
  | 39, _ => rfl
  | 40, _ => rfl
  | 41, _ => rfl
  | 42, _ => rfl
  | 43, _ => rfl
  | 44, _ => rfl
  | 45, _ => rfl
  | 46, _ => rfl
  | 47, _ => rfl
  | 48, _ => rfl
  | 49, _ => rfl
  | 50, _ => rfl
  | 51, _ => rfl
  | 52, _ => rfl
  | 53, _ => rfl
  | 54, _ => rfl
  | 55, _ => rfl
  | 56, _ => rfl
  | 57, _ => rfl
  | 58, _ => rfl
  | 59, _ => rfl
  | 60, _ => rfl
  | 61, _ => rfl
  | 62, _ => rfl
  | 63, _ => rfl
  | 64, _ => rfl
  | 65, _ => rfl
  | 66, _ => rfl
  | 67, _ => rfl
  | 68, _ => rfl
  | 69, _ => rfl
  | 70, _ => rfl
  | k + 71, h9 => exact absurd h9 (by omega)
theorem wS_P {γ : Gm} {h4 : Nat} {u4 : Nat → Nat} {h5 : Nat} {u5 : Nat → Nat} {a d : Nat} {H : Heap} {A : Nat → Prop} (hP : va_P γ.1 vwCl (wS γ h4 u4 h5 u5 a d) H) (hD : va_D A (wS γ h4 u4 h5 u5 a d)) : va_P γ.1 vwCl (wd (gmS γ h4 u4 h5 u5 a d) (fun _ _ => 0) (fun _ _ => 0) (fun _ => 0)) H ∧ va_D A (wd (gmS γ h4 u4 h5 u5 a d) (fun _ _ => 0) (fun _ _ => 0) (fun _ => 0)) := by
  have hg : ∀ (k : Nat) (q : Nat × va_E), (wd (gmS γ h4 u4 h5 u5 a d) (fun _ _ => 0) (fun _ _ => 0) (fun _ => 0))[k]? = some q → (wS γ h4 u4 h5 u5 a d)[gS k]? = some q := fun k q hq => by
    obtain ⟨h1, rfl⟩ := wl_of hq
    exact wS_at γ h4 u4 h5 u5 a d k h1
  refine ⟨hP.by gS hg, hD.by gS hg (fun i j hi hj e => gS_inj i j ?_ ?_ e)⟩
  · simpa [wd, wl] using hi
  · simpa [wd, wl] using hj
theorem MR0 (g : GR) (u : Nat → Nat) : MR (fun _ _ => 0) g 0 0 0 u := ⟨⟨rfl, by omega, rfl, by omega, fun w h => absurd h (Nat.not_lt_zero _), fun w h => absurd h (Nat.not_lt_zero _)⟩, rfl, by omega, fun w h => absurd h (Nat.not_lt_zero _)⟩
theorem GW0 (g : GR) (u : Nat → Nat) : GW (fun _ _ => 0) g 0 0 0 u := ⟨⟨rfl, by omega, rfl, by omega, fun w h => absurd h (Nat.not_lt_zero _), fun w h => absurd h (Nat.not_lt_zero _)⟩, rfl, by omega, fun w h => absurd h (Nat.not_lt_zero _)⟩
/-- the law's start, as the walk of the constructors sees it -/
def SOK (γ : Gm) (b Ln : Nat) (xs : Nat → Int32) (args : Array Value) (s : State) : Prop := args = #[Value.ref b] ∧ (∀ c, ELw b Ln xs s c) ∧ Fx γ (ALw s) s
def QS (γ : Gm) (b Ln : Nat) (xs : Nat → Int32) : List Frame → Array Value → State → State → Prop := fun below args s t => SOK γ b Ln xs args s → lw_Z below #[Value.ref b] s t
theorem to_loop (l : Launch) (hl0 : l.stackTraces = false) (γ : Gm) (b Ln : Nat) (xs : Nat → Int32) (hLn : Ln ≤ 2560) (h4 : Nat) (u4 : Nat → Nat) (h5 : Nat) (u5 : Nat → Nat) (a d : Nat) (cells slots : Nat) (hc : cells + 512 ≤ 601024) (hs : slots + 6 * 512 ≤ 7293034) : GN l cL_law 8 wsL_law RL (some .boolean) room_1 γ ALw false (QS γ b Ln xs) cells slots 25 [(4, .ref d), (3, .ref a), (2, .ref h5), (1, .ref h4), (0, .ref b)] [] (wS γ h4 u4 h5 u5 a d) := by
  intro p e s m args below meth c K H locs ls hS hP hD hl
  by_cases hok : SOK γ b Ln xs args s
  · obtain ⟨ha, hX, hF⟩ := hok
    obtain ⟨hP1, hD1⟩ := wS_P hP hD
    have nx := law_loop l hl0 (gmS γ h4 u4 h5 u5 a d) b Ln xs hLn 512 0 (by omega) (by omega) (fun _ _ => 0) 0 0 0 (fun _ => 0) (fun _ _ => 0) (fun _ _ => 0) (fun _ => 0) cells slots (MR0 _ _) (GW0 _ _) hc hs
    have hg : G (ELw b Ln xs) l cL_law 8 wsL_law RL (some .boolean) room_1 (gmS γ h4 u4 h5 u5 a d) (fun _ => 0) ALw (QLw b) cells slots 25 [(4, .ref d), (3, .ref a), (2, .ref h5), (1, .ref h4), (0, .ref b)] [] (fun _ _ => 0) (fun _ _ => 0) := by
      refine g_ic (v := nI 0) dL_law_25 (by decide) ?_
      refine g_is (lv' := [(5, .int (nI 0)), (4, .ref d), (3, .ref a), (2, .ref h5), (1, .ref h4), (0, .ref b)]) dL_law_26 (by decide) rfl ?_
      refine g_sub [5, 4, 3, 2, 1, 0] rfl ?_
      exact nx
    intro T hT X
    obtain ⟨t, h1, h2⟩ := hg p e s m args below meth c ⟨K.1, hF, K.2.2.1, K.2.2.2.1, K.2.2.2.2.1, hX c⟩ H locs ls hS hP1 hD1 hl T hT X
    exact ⟨t, h1, fun _ => h2 ha⟩
  · intro T hT X
    exact ⟨_, Steps.refl _, fun h => absurd h hok⟩
