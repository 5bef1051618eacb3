/-! what the calls do, in numbers: shared by the class and the model -/
def cd2 (a b : Bool) : Nat := if a then (if b then 0 else 2) else 1
def tn (x : Int32) : Nat := x.toNatClampNeg
theorem tn_nI {a : Nat} (h : a < 2 ^ 31) : tn (nI a) = a := nI_clamp h
theorem IN_tn {x : Int32} {n : Nat} (hn : n < 2 ^ 31) (h : IN x n) : x = nI (tn x) ∧ tn x < n := by
  obtain ⟨j, hj, rfl⟩ := h
  rw [tn_nI (Nat.lt_trans hj hn)]
  exact ⟨rfl, hj⟩
theorem inB_tn {x : Int32} {n : Nat} (hn : n < 2 ^ 31) (h : inB x n = true) : x = nI (tn x) ∧ tn x < n := IN_tn hn (pB_t.mp h)
/-- the grammar with a word, with a rule -/
def gword (g : GR) (w c v : Nat) : GR := fun k j => if k = 0 ∧ j = w then c else if k = 1 ∧ j = w then v else g k j
def grule (g : GR) (q a b c m : Nat) : GR := fun k j => if j = q then (if k = 2 then a else if k = 3 then b else if k = 4 then c else if k = 5 then m else g k j) else g k j
theorem gword_0 (g : GR) (w c v : Nat) : gword g w c v 0 w = c := by simp [gword]
theorem gword_1 (g : GR) (w c v : Nat) : gword g w c v 1 w = v := by simp [gword]
theorem gword_ne (g : GR) {w c v k j : Nat} (h : j ≠ w) : gword g w c v k j = g k j := by simp [gword, h]
theorem gword_r (g : GR) {w c v k j : Nat} (h : 2 ≤ k) : gword g w c v k j = g k j := by
  unfold gword
  rw [if_neg (by omega), if_neg (by omega)]
theorem grule_ne (g : GR) {q a b c m k j : Nat} (h : j ≠ q) : grule g q a b c m k j = g k j := by simp [grule, h]
theorem grule_w (g : GR) {q a b c m k j : Nat} (h : k < 2) : grule g q a b c m k j = g k j := by
  unfold grule
  split
  · rw [if_neg (by omega), if_neg (by omega), if_neg (by omega), if_neg (by omega)]
  · rfl
/-- the model's cells -/
def MI (k : Nat) : Prop := k = 8 ∨ (20 ≤ k ∧ k < 29)
def MG (I : IT) (g : GR) (n r : Nat) : Prop :=
  I 8 0 = nI n ∧ n ≤ 9 ∧ I 8 1 = nI r ∧ r ≤ 8 ∧ (∀ w, w < n → I 20 w = nI (g 0 w) ∧ g 0 w < 8 ∧ I 21 w = nI (g 1 w) ∧ g 1 w < 16) ∧
  (∀ q, q < r → I 22 q = nI (g 2 q) ∧ g 2 q < 8 ∧ I 23 q = nI (g 3 q) ∧ g 3 q < 8 ∧ I 24 q = nI (g 4 q) ∧ g 4 q < 8 ∧ I 25 q = nI (g 5 q) ∧ g 5 q / 10 ≤ 3 ∧ g 5 q % 10 ≤ 3)
section MGs
variable {I : IT} {g : GR} {n r : Nat}
theorem MG.cong {I' : IT} (h : MG I g n r) (e0 : I' 8 0 = I 8 0) (e1 : I' 8 1 = I 8 1) (e : ∀ k, 20 ≤ k → k < 26 → I' k = I k) : MG I' g n r := by
  obtain ⟨h1, h2, h3, h4, h5, h6⟩ := h
  refine ⟨by rw [e0]; exact h1, h2, by rw [e1]; exact h3, h4, fun w hw => ?_, fun q hq => ?_⟩
  · rw [e 20 (by omega) (by omega), e 21 (by omega) (by omega)]; exact h5 w hw
  · rw [e 22 (by omega) (by omega), e 23 (by omega) (by omega), e 24 (by omega) (by omega), e 25 (by omega) (by omega)]; exact h6 q hq
theorem MG.up (h : MG I g n r) {k : Nat} (hk : k ≠ 8 ∧ (k < 20 ∨ 26 ≤ k)) (F : Nat → Int32) : MG (va_up I k F) g n r :=
  h.cong (by rw [va_up_ne _ _ (by omega)]) (by rw [va_up_ne _ _ (by omega)]) (fun j _ _ => va_up_ne _ _ (by omega))
theorem MG.n_le (h : MG I g n r) : n ≤ 9 := h.2.1
theorem MG.r_le (h : MG I g n r) : r ≤ 8 := h.2.2.2.1
theorem MG.cn (h : MG I g n r) : I 8 0 = nI n := h.1
theorem MG.cr (h : MG I g n r) : I 8 1 = nI r := h.2.2.1
theorem MG.cat (h : MG I g n r) {w : Nat} (hw : w < n) : I 20 w = nI (g 0 w) := (h.2.2.2.2.1 w hw).1
theorem MG.cat_lt (h : MG I g n r) {w : Nat} (hw : w < n) : g 0 w < 8 := (h.2.2.2.2.1 w hw).2.1
theorem MG.val (h : MG I g n r) {w : Nat} (hw : w < n) : I 21 w = nI (g 1 w) := (h.2.2.2.2.1 w hw).2.2.1
theorem MG.val_lt (h : MG I g n r) {w : Nat} (hw : w < n) : g 1 w < 16 := (h.2.2.2.2.1 w hw).2.2.2
theorem MG.made (h : MG I g n r) {q : Nat} (hq : q < r) : I 22 q = nI (g 2 q) := (h.2.2.2.2.2 q hq).1
theorem MG.made_lt (h : MG I g n r) {q : Nat} (hq : q < r) : g 2 q < 8 := (h.2.2.2.2.2 q hq).2.1
theorem MG.fst (h : MG I g n r) {q : Nat} (hq : q < r) : I 23 q = nI (g 3 q) := (h.2.2.2.2.2 q hq).2.2.1
theorem MG.fst_lt (h : MG I g n r) {q : Nat} (hq : q < r) : g 3 q < 8 := (h.2.2.2.2.2 q hq).2.2.2.1
theorem MG.snd (h : MG I g n r) {q : Nat} (hq : q < r) : I 24 q = nI (g 4 q) := (h.2.2.2.2.2 q hq).2.2.2.2.1
theorem MG.snd_lt (h : MG I g n r) {q : Nat} (hq : q < r) : g 4 q < 8 := (h.2.2.2.2.2 q hq).2.2.2.2.2.1
theorem MG.md (h : MG I g n r) {q : Nat} (hq : q < r) : I 25 q = nI (g 5 q) := (h.2.2.2.2.2 q hq).2.2.2.2.2.2.1
theorem MG.md_a (h : MG I g n r) {q : Nat} (hq : q < r) : g 5 q / 10 ≤ 3 := (h.2.2.2.2.2 q hq).2.2.2.2.2.2.2.1
theorem MG.md_b (h : MG I g n r) {q : Nat} (hq : q < r) : g 5 q % 10 ≤ 3 := (h.2.2.2.2.2 q hq).2.2.2.2.2.2.2.2
end MGs
/-- the model's row of words beside: q words u -/
def MR (I : IT) (g : GR) (n r q : Nat) (u : Nat → Nat) : Prop := MG I g n r ∧ I 8 2 = nI q ∧ q ≤ 6 ∧ ∀ p, p < q → I 26 p = nI (u p) ∧ u p < n
/-- the class's -/
def GW (I : IT) (g : GR) (n r q : Nat) (u : Nat → Nat) : Prop := GG I g n r ∧ I 0 0 = nI q ∧ q ≤ 6 ∧ ∀ p, p < q → I 12 p = nI (u p) ∧ u p < n
theorem MR.cong {I I' : IT} {g : GR} {n r q : Nat} {u : Nat → Nat} (h : MR I g n r q u) (e8 : ∀ j, j < 3 → I' 8 j = I 8 j) (e : ∀ k, 20 ≤ k → k < 27 → I' k = I k) : MR I' g n r q u := by
  obtain ⟨h1, h2, h3, h4⟩ := h
  refine ⟨h1.cong (e8 0 (by omega)) (e8 1 (by omega)) (fun k h1 h2 => e k h1 (by omega)), by rw [e8 2 (by omega)]; exact h2, h3, fun p hp => by rw [e 26 (by omega) (by omega)]; exact h4 p hp⟩
theorem GW.cong {I I' : IT} {g : GR} {n r q : Nat} {u : Nat → Nat} (h : GW I g n r q u) (e : ∀ k, (k < 2 ∨ k = 12 ∨ 14 ≤ k ∧ k < 19 ∨ 29 ≤ k ∧ k < 37) → I' k = I k) : GW I' g n r q u := by
  obtain ⟨h1, h2, h3, h4⟩ := h
  refine ⟨h1.cong (fun k hk => e k (by omega)), by rw [e 0 (by omega)]; exact h2, h3, fun p hp => by rw [e 12 (by omega)]; exact h4 p hp⟩
theorem enc_lt {o : Option Nat} (h : enc o < 0) (hb : ∀ v, o = some v → v < 2 ^ 31) : o = none := by
  cases o with
  | none => rfl
  | some v => exact absurd h (nI_pos (hb v rfl))
theorem enc_nlt {o : Option Nat} (h : ¬ enc o < 0) : ∃ v, o = some v := by
  cases o with
  | none => exact absurd (by decide) h
  | some v => exact ⟨v, rfl⟩
theorem enc_ge {o : Option Nat} (h : 0 ≤ enc o) : ∃ v, o = some v := enc_nlt (Int32.not_lt.mpr h)
theorem enc_nge {o : Option Nat} (h : ¬ 0 ≤ enc o) (hb : ∀ v, o = some v → v < 2 ^ 31) : o = none := enc_lt (Int32.not_le.mp h) hb
