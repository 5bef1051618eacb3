/-! numbers of this claim, away from the machine -/
/-- an int argument is one of 0 .. n-1 -/
def IN (x : Int32) (n : Nat) : Prop := ∃ j, j < n ∧ x = nI j
noncomputable def pB (p : Prop) : Bool := @decide p (Classical.propDecidable p)
theorem pB_t {p : Prop} : pB p = true ↔ p := by unfold pB; exact @decide_eq_true_iff p (Classical.propDecidable p)
theorem pB_f {p : Prop} : pB p = false ↔ ¬ p := by unfold pB; exact @decide_eq_false_iff_not p (Classical.propDecidable p)
theorem pB_of {p : Prop} (h : p) : pB p = true := pB_t.mpr h
theorem pB_no {p : Prop} (h : ¬ p) : pB p = false := pB_f.mpr h
noncomputable def inB (x : Int32) (n : Nat) : Bool := pB (IN x n)
theorem IN_neg {x : Int32} {n : Nat} (hn : n < 2 ^ 31) (h : x < 0) : ¬ IN x n := by
  rintro ⟨j, hj, rfl⟩
  exact nI_pos (Nat.lt_trans hj hn) h
theorem IN_ge {x : Int32} {n : Nat} (hn : n < 2 ^ 31) (h : ¬ x < nI n) : ¬ IN x n := by
  rintro ⟨j, hj, rfl⟩
  exact h (nI_lt hj hn)
theorem IN_of {x : Int32} {n : Nat} (hn : n < 2 ^ 31) (h0 : ¬ x < 0) (h : x < nI n) : IN x n := by
  rcases pk_ix x hn with q | q | q
  · exact absurd q h0
  · exact absurd h (Int32.not_lt.mpr q)
  · exact q
theorem IN_nI {a n : Nat} (ha : a < 2 ^ 31) (hn : n < 2 ^ 31) : IN (nI a) n ↔ a < n := by
  constructor
  · rintro ⟨j, hj, e⟩
    rw [(nI_eq ha (Nat.lt_trans hj hn)).mp e]
    exact hj
  · intro h
    exact ⟨a, h, rfl⟩
/-- the number of a span -/
def sp (a b : Nat) : Nat := b * (b - 1) / 2 + a
theorem sp_lt {a b : Nat} (h : a < b) (hb : b ≤ 6) : sp a b < 21 := by
  unfold sp
  rcases (show b = 1 ∨ b = 2 ∨ b = 3 ∨ b = 4 ∨ b = 5 ∨ b = 6 by omega) with rfl | rfl | rfl | rfl | rfl | rfl <;> simp <;> omega
theorem sp_inj {a b a' b' : Nat} (h : a < b) (hb : b ≤ 6) (h' : a' < b') (hb' : b' ≤ 6) (e : sp a b = sp a' b') : a = a' ∧ b = b' := by
  unfold sp at e
  rcases (show b = 1 ∨ b = 2 ∨ b = 3 ∨ b = 4 ∨ b = 5 ∨ b = 6 by omega) with rfl | rfl | rfl | rfl | rfl | rfl <;>
  rcases (show b' = 1 ∨ b' = 2 ∨ b' = 3 ∨ b' = 4 ∨ b' = 5 ∨ b' = 6 by omega) with rfl | rfl | rfl | rfl | rfl | rfl <;> simp at e <;> omega
/-- f 0 or f 1 or .. f (n-1), as bits -/
def orf (f : Nat → Nat) : Nat → Nat
  | 0 => 0
  | k + 1 => orf f k ||| f k
theorem orf_bit (f : Nat → Nat) (n v : Nat) : (orf f n).testBit v = true ↔ ∃ k, k < n ∧ (f k).testBit v = true := by
  induction n with
  | zero => simp [orf]
  | succ n ih =>
    rw [orf, Nat.testBit_or, Bool.or_eq_true, ih]
    constructor
    · rintro (⟨k, h1, h2⟩ | h)
      · exact ⟨k, by omega, h2⟩
      · exact ⟨n, by omega, h⟩
    · rintro ⟨k, h1, h2⟩
      by_cases e : k = n
      · subst e; exact Or.inr h2
      · exact Or.inl ⟨k, by omega, h2⟩
theorem orf_cong {f g : Nat → Nat} {n : Nat} (h : ∀ k, k < n → f k = g k) : orf f n = orf g n := by
  induction n with
  | zero => rfl
  | succ n ih => rw [orf, orf, ih (fun k hk => h k (by omega)), h n (by omega)]
theorem orf_zero {f : Nat → Nat} {n : Nat} (h : ∀ k, k < n → f k = 0) : orf f n = 0 := by
  induction n with
  | zero => rfl
  | succ n ih => rw [orf, ih (fun k hk => h k (by omega)), h n (by omega)]; rfl
theorem orf_lt {f : Nat → Nat} {n b : Nat} (h : ∀ k, k < n → f k < 2 ^ b) : orf f n < 2 ^ b := by
  induction n with
  | zero => exact Nat.two_pow_pos b
  | succ n ih => exact Nat.or_lt_two_pow (ih (fun k hk => h k (by omega))) (h n (by omega))
theorem bits_ext {a b : Nat} (h : ∀ v, a.testBit v = true ↔ b.testBit v = true) : a = b :=
  Nat.eq_of_testBit_eq (fun v => Bool.eq_iff_iff.mpr (h v))
theorem orf_comm (f : Nat → Nat → Nat) (n m : Nat) : orf (fun i => orf (fun j => f i j) m) n = orf (fun j => orf (fun i => f i j) n) m := by
  refine bits_ext (fun v => ?_)
  simp only [orf_bit]
  constructor
  · rintro ⟨i, hi, j, hj, h⟩; exact ⟨j, hj, i, hi, h⟩
  · rintro ⟨j, hj, i, hi, h⟩; exact ⟨i, hi, j, hj, h⟩
/-- what two values make by a mode -/
def jv (m a b : Nat) : Option Nat := if m = 0 then some a else if m = 1 then some b else if m = 3 then some 0 else if a = b ∨ b = 0 then some a else if a = 0 then some b else none
/-- what two pairs of values make by the modes of a rule -/
def jp (m a b : Nat) : Option Nat := match jv (m / 10) (a / 4) (b / 4), jv (m % 10) (a % 4) (b % 4) with
  | some h, some l => some (4 * h + l)
  | _, _ => none
def enc (o : Option Nat) : Int32 := match o with
  | some v => nI v
  | none => -1
theorem jv_lt {m a b v : Nat} (ha : a < 4) (hb : b < 4) (h : jv m a b = some v) : v < 4 := by
  unfold jv at h
  repeat' split at h
  all_goals (first | (cases h; omega) | cases h)
theorem jp_lt {m a b v : Nat} (ha : a < 16) (hb : b < 16) (h : jp m a b = some v) : v < 16 := by
  unfold jp at h
  split at h
  · rename_i h1 h2
    have e1 := jv_lt (by omega) (by omega) h1
    have e2 := jv_lt (by omega) (by omega) h2
    cases h
    omega
  · cases h
def obit (o : Option Nat) : Nat := match o with
  | some v => 2 ^ v
  | none => 0
/-- the set of pairs that a rule makes of one pair a and pairs out of b; of two sets -/
def pin (md a b : Nat) (k : Nat) : Nat := if b.testBit k then obit (jp md a k) else 0
def pmo (md a b : Nat) (k : Nat) : Nat := if a.testBit k then orf (pin md k b) 16 else 0
def pmk (md a b : Nat) : Nat := orf (pmo md a b) 16
theorem pin_lt {md a b k : Nat} (ha : a < 16) (hk : k < 16) : pin md a b k < 2 ^ 16 := by
  unfold pin
  split
  · cases h : jp md a k with
    | none => exact Nat.two_pow_pos 16
    | some v => exact Nat.pow_lt_pow_right (by decide) (jp_lt ha hk h)
  · exact Nat.two_pow_pos 16
theorem pmo_lt {md a b k : Nat} (hk : k < 16) : pmo md a b k < 2 ^ 16 := by
  unfold pmo
  split
  · exact orf_lt (fun j hj => pin_lt hk hj)
  · exact Nat.two_pow_pos 16
theorem pmk_lt (md a b : Nat) : pmk md a b < 2 ^ 16 := orf_lt (fun _ hk => pmo_lt hk)
theorem pmk_0l (md b : Nat) : pmk md 0 b = 0 := orf_zero (fun k _ => by simp [pmo])
theorem pmk_0r (md a : Nat) : pmk md a 0 = 0 := orf_zero (fun k _ => by
  unfold pmo
  split
  · exact orf_zero (fun j _ => by simp [pin])
  · rfl)
/-- grammar: g 0 category, g 1 pair of values of a word; g 2 made, g 3 first, g 4 second, g 5 modes of a rule -/
abbrev GR : Type := Nat → Nat → Nat
/-- what the first r rules make as category c of the sets A (of a first part) and B (of a second) -/
def str (g : GR) (A B : Nat → Nat) (c : Nat) (ρ : Nat) : Nat := if g 2 ρ = c then pmk (g 5 ρ) (A (g 3 ρ)) (B (g 4 ρ)) else 0
def stp (g : GR) (r : Nat) (A B : Nat → Nat) (c : Nat) : Nat := orf (str g A B c) r
theorem str_lt {g : GR} {A B : Nat → Nat} {c ρ : Nat} : str g A B c ρ < 2 ^ 16 := by
  unfold str
  split
  · exact pmk_lt _ _ _
  · exact Nat.two_pow_pos 16
theorem stp_lt {g : GR} {r : Nat} {A B : Nat → Nat} {c : Nat} : stp g r A B c < 2 ^ 16 := orf_lt (fun _ _ => str_lt)
/-- the sets of the row from place i, of a length, by the first r rules, over the words' sets lx; k: depth -/
def cs (g : GR) (r : Nat) (lx : Nat → Nat → Nat) : Nat → Nat → Nat → Nat → Nat
  | 0, _, _, _ => 0
  | k + 1, len, i, c => if len ≤ 1 then lx i c else orf (fun d => stp g r (cs g r lx k (d + 1) i) (cs g r lx k (len - 1 - d) (i + d + 1)) c) (len - 1)
theorem stp_cong {g : GR} {r : Nat} {A A' B B' : Nat → Nat} {c : Nat} (hA : ∀ c, A c = A' c) (hB : ∀ c, B c = B' c) : stp g r A B c = stp g r A' B' c := by
  rw [show A = A' from funext hA, show B = B' from funext hB]
theorem cs_fuel (g : GR) (r : Nat) (lx : Nat → Nat → Nat) : ∀ (k k' len : Nat), len ≤ k → len ≤ k' → 0 < len → ∀ i c, cs g r lx k len i c = cs g r lx k' len i c := by
  intro k
  induction k with
  | zero => intro k' len h1 h2 h3; omega
  | succ k ih =>
    intro k' len h1 h2 h3 i c
    obtain ⟨k', rfl⟩ : ∃ j, k' = j + 1 := ⟨k' - 1, by omega⟩
    rw [cs, cs]
    split
    · rfl
    · refine orf_cong (fun d hd => stp_cong (fun c => ?_) (fun c => ?_))
      · exact ih k' (d + 1) (by omega) (by omega) (by omega) i c
      · exact ih k' (len - 1 - d) (by omega) (by omega) (by omega) _ c
/-- the set of pairs of values that the places i .. j-1 have as category c -/
def ch (g : GR) (r : Nat) (lx : Nat → Nat → Nat) (i j c : Nat) : Nat := cs g r lx (j - i) (j - i) i c
theorem ch_one (g : GR) (r : Nat) (lx : Nat → Nat → Nat) (i c : Nat) : ch g r lx i (i + 1) c = lx i c := by
  unfold ch
  rw [show i + 1 - i = 1 by omega]
  rfl
theorem ch_more (g : GR) (r : Nat) (lx : Nat → Nat → Nat) {i j : Nat} (c : Nat) (h : i + 1 < j) : ch g r lx i j c = orf (fun d => stp g r (ch g r lx i (i + 1 + d)) (ch g r lx (i + 1 + d) j) c) (j - i - 1) := by
  unfold ch
  obtain ⟨n, hn⟩ : ∃ n, j - i = n + 2 := ⟨j - i - 2, by omega⟩
  rw [hn]
  show (if n + 2 ≤ 1 then _ else _) = _
  rw [if_neg (by omega)]
  refine orf_cong (fun d hd => stp_cong (fun c => ?_) (fun c => ?_))
  · rw [show i + 1 + d - i = d + 1 by omega]
    exact cs_fuel g r lx _ _ _ (by omega) (by omega) (by omega) i c
  · rw [show j - (i + 1 + d) = n + 2 - 1 - d by omega, show i + 1 + d = i + d + 1 by omega]
    exact cs_fuel g r lx _ _ _ (by omega) (by omega) (by omega) _ c
theorem ch_lt {g : GR} {r : Nat} {lx : Nat → Nat → Nat} {i j c : Nat} (h : i < j) (hl : ∀ p c, lx p c < 2 ^ 16) : ch g r lx i j c < 2 ^ 16 := by
  by_cases e : j = i + 1
  · subst e; rw [ch_one]; exact hl _ _
  · rw [ch_more g r lx c (by omega)]
    exact orf_lt (fun _ _ => stp_lt)
theorem ch_lt16 {g : GR} {r : Nat} {lx : Nat → Nat → Nat} {i j c : Nat} (h : i < j) (hl : ∀ p, i ≤ p → p < j → ∀ c, lx p c < 2 ^ 16) : ch g r lx i j c < 2 ^ 16 := by
  by_cases e : j = i + 1
  · subst e; rw [ch_one]; exact hl _ (by omega) (by omega) _
  · rw [ch_more g r lx c (by omega)]
    exact orf_lt (fun _ _ => stp_lt)
/-- the sets depend on the words' sets within alone -/
theorem ch_cong {g : GR} {r : Nat} {lx lx' : Nat → Nat → Nat} : ∀ (n i j : Nat), j - i ≤ n → i < j → (∀ p, i ≤ p → p < j → ∀ c, lx p c = lx' p c) → ∀ c, ch g r lx i j c = ch g r lx' i j c := by
  intro n
  induction n with
  | zero => intro i j h1 h2; omega
  | succ n ih =>
    intro i j h1 h2 h c
    by_cases e : j = i + 1
    · subst e; rw [ch_one, ch_one]; exact h i (by omega) (by omega) c
    · rw [ch_more g r lx c (by omega), ch_more g r lx' c (by omega)]
      refine orf_cong (fun d hd => stp_cong (fun c => ?_) (fun c => ?_))
      · exact ih i (i + 1 + d) (by omega) (by omega) (fun p h1 h2 => h p h1 (by omega)) c
      · exact ih (i + 1 + d) j (by omega) (by omega) (fun p h1 h2 => h p (by omega) h2) c
/-- the sets of a word; of a row of words -/
def wset (g : GR) (w c : Nat) : Nat := if g 0 w = c then 2 ^ g 1 w else 0
def lxw (g : GR) (w : Nat → Nat) (p c : Nat) : Nat := wset g (w p) c
theorem wset_lt {g : GR} {w c : Nat} (h : g 1 w < 16) : wset g w c < 2 ^ 16 := by
  unfold wset
  split
  · exact Nat.pow_lt_pow_right (by decide) h
  · exact Nat.two_pow_pos 16
/-! bits of ints -/
theorem sl31 : ∀ n, n < 32 → ((nI n &&& 31).toBitVec.smod 32).toNat = n := by decide +kernel
theorem nI_or (a b : Nat) : nI a ||| nI b = nI (a ||| b) := by
  apply Int32.toBitVec_inj.1
  show BitVec.ofNat 32 a ||| BitVec.ofNat 32 b = BitVec.ofNat 32 (a ||| b)
  apply BitVec.eq_of_getLsbD_eq
  intro i hi
  simp [hi]
theorem nI_and (a b : Nat) : nI a &&& nI b = nI (a &&& b) := by
  apply Int32.toBitVec_inj.1
  show BitVec.ofNat 32 a &&& BitVec.ofNat 32 b = BitVec.ofNat 32 (a &&& b)
  apply BitVec.eq_of_getLsbD_eq
  intro i hi
  simp [hi]
theorem nI_and1 (a : Nat) : nI a &&& nI 1 = nI (a % 2) := by rw [nI_and, Nat.and_one_is_mod]
theorem nI_shr {a k : Nat} (ha : a < 2 ^ 31) (hk : k < 32) : nI a >>> (nI k &&& 31) = nI (a / 2 ^ k) := pk_shrN ha _ k (sl31 k hk)
theorem nI_shl {k : Nat} (hk : k < 32) : nI 1 <<< (nI k &&& 31) = nI (2 ^ k) := by
  have h : 1 * 2 ^ k < 2 ^ 32 := by rw [Nat.one_mul]; exact Nat.pow_lt_pow_right (by decide) hk
  rw [pk_shlN _ k (sl31 k hk) h, Nat.one_mul]
theorem bit_div (a k : Nat) : a / 2 ^ k % 2 = 0 ↔ a.testBit k = false := by
  rw [Nat.testBit_eq_decide_div_mod_eq, decide_eq_false_iff_not]
  generalize a / 2 ^ k = z
  omega
theorem bit_div1 (a k : Nat) : a / 2 ^ k % 2 = 1 ↔ a.testBit k = true := by
  rw [Nat.testBit_eq_decide_div_mod_eq, decide_eq_true_iff]
theorem div_lt31 {a k : Nat} (h : a < 2 ^ 31) : a / 2 ^ k < 2 ^ 31 := Nat.lt_of_le_of_lt (Nat.div_le_self _ _) h
theorem mod2_lt (a : Nat) : a % 2 < 2 ^ 31 := Nat.lt_trans (Nat.mod_lt a (by decide)) (by decide)
/-! arguments that stand for pairs of digits, lengths, spans -/
def DP (x : Int32) (m : Nat) : Prop := x = nI m ∧ m / 10 ≤ 3 ∧ m % 10 ≤ 3
theorem DP_neg {x : Int32} (h : x < 0) : ¬ ∃ m, DP x m := by
  rintro ⟨m, rfl, h1, h2⟩
  exact nI_pos (by omega) h
theorem DP_of {m : Nat} (hm : m < 2 ^ 31) : (∃ m', DP (nI m) m') ↔ m / 10 ≤ 3 ∧ m % 10 ≤ 3 := by
  constructor
  · rintro ⟨m', h, h1, h2⟩
    have := (nI_eq hm (by omega)).mp h
    subst this
    exact ⟨h1, h2⟩
  · rintro ⟨h1, h2⟩
    exact ⟨m, rfl, h1, h2⟩
/-- from and to of a part of a row of q words -/
def SPN (x y : Int32) (q a b : Nat) : Prop := x = nI a ∧ y = nI b ∧ a < b ∧ b ≤ q
theorem SPN_neg {x y : Int32} {q : Nat} (hq : q < 2 ^ 31) (h : x < 0) : ¬ ∃ a b, SPN x y q a b := by
  rintro ⟨a, b, rfl, rfl, h1, h2⟩
  exact nI_pos (by omega) h
theorem SPN_le {x y : Int32} {q : Nat} (hq : q < 2 ^ 31) (h : y ≤ x) : ¬ ∃ a b, SPN x y q a b := by
  rintro ⟨a, b, rfl, rfl, h1, h2⟩
  exact nI_ge h1 (by omega) h
theorem SPN_gt {x y : Int32} {q : Nat} (hq : q < 2 ^ 31) (h : nI q < y) : ¬ ∃ a b, SPN x y q a b := by
  rintro ⟨a, b, rfl, rfl, h1, h2⟩
  exact nI_nlt h2 hq h
theorem SPN_of {x y : Int32} {q : Nat} (hq : q < 2 ^ 31) (h0 : ¬ x < 0) (h1 : ¬ y ≤ x) (h2 : ¬ nI q < y) : ∃ a b, SPN x y q a b := by
  obtain ⟨a, ha, rfl⟩ := nI_of h0
  have hy : ¬ y < 0 := fun q => h1 (Int32.le_of_lt (Int32.lt_of_lt_of_le q (nI_pos' ha)))
  obtain ⟨b, hb, rfl⟩ := nI_of hy
  exact ⟨a, b, rfl, rfl, Nat.not_le.mp (fun q => h1 (nI_le q ha)), Nat.not_lt.mp (fun q => h2 (nI_lt q hb))⟩
theorem bi_1 {b : Bool} (h : b = true) : nI 1 = bi b := by rw [h]; rfl
theorem bi_0 {b : Bool} (h : b = false) : nI 0 = bi b := by rw [h]; rfl
theorem enc_ne {o : Option Nat} (h : ¬ enc o = -1) : ∃ v, o = some v := by
  cases o with
  | none => exact absurd rfl h
  | some v => exact ⟨v, rfl⟩
theorem nI_ne_m1 {v : Nat} (h : v < 2 ^ 31) : nI v ≠ -1 := fun e => nI_pos h (by rw [e]; decide)
theorem enc_eq {o : Option Nat} (h : enc o = -1) (hb : ∀ v, o = some v → v < 2 ^ 31) : o = none := by
  cases o with
  | none => rfl
  | some v => exact absurd h (nI_ne_m1 (hb v rfl))
/-- sums -/
def sm (f : Nat → Nat) : Nat → Nat
  | 0 => 0
  | k + 1 => sm f k + f k
theorem sm_cong {f g : Nat → Nat} {n : Nat} (h : ∀ k, k < n → f k = g k) : sm f n = sm g n := by
  induction n with
  | zero => rfl
  | succ n ih => rw [sm, sm, ih (fun k hk => h k (by omega)), h n (by omega)]
theorem sm_zero {f : Nat → Nat} {n : Nat} (h : ∀ k, k < n → f k = 0) : sm f n = 0 := by
  induction n with
  | zero => rfl
  | succ n ih => rw [sm, ih (fun k hk => h k (by omega)), h n (by omega)]
theorem sm_add (f g : Nat → Nat) (n : Nat) : sm (fun k => f k + g k) n = sm f n + sm g n := by
  induction n with
  | zero => rfl
  | succ n ih => rw [sm, sm, sm, ih]; omega
theorem sm_mul (a : Nat) (f : Nat → Nat) (n : Nat) : sm (fun k => a * f k) n = a * sm f n := by
  induction n with
  | zero => rfl
  | succ n ih => rw [sm, sm, ih, Nat.mul_add]
theorem sm_mulr (a : Nat) (f : Nat → Nat) (n : Nat) : sm (fun k => f k * a) n = sm f n * a := by
  induction n with
  | zero => simp [sm]
  | succ n ih => rw [sm, sm, ih, Nat.add_mul]
theorem sm_le {f g : Nat → Nat} {n : Nat} (h : ∀ k, k < n → f k ≤ g k) : sm f n ≤ sm g n := by
  induction n with
  | zero => exact Nat.le_refl _
  | succ n ih => rw [sm, sm]; exact Nat.add_le_add (ih (fun k hk => h k (by omega))) (h n (by omega))
theorem sm_comm (f : Nat → Nat → Nat) (n m : Nat) : sm (fun i => sm (fun j => f i j) m) n = sm (fun j => sm (fun i => f i j) n) m := by
  induction n with
  | zero => exact (sm_zero (fun _ _ => rfl)).symm
  | succ n ih => rw [sm, ih, ← sm_add]; rfl
theorem sm_one {f : Nat → Nat} {n i : Nat} (hi : i < n) (h : ∀ k, k < n → k ≠ i → f k = 0) : sm f n = f i := by
  induction n with
  | zero => omega
  | succ n ih =>
    rw [sm]
    by_cases e : i = n
    · subst e
      rw [sm_zero (fun k hk => h k (by omega) (by omega)), Nat.zero_add]
    · rw [ih (by omega) (fun k hk hne => h k (by omega) hne), h n (by omega) (Ne.symm e), Nat.add_zero]
theorem sm_const (c n : Nat) : sm (fun _ => c) n = n * c := by
  induction n with
  | zero => simp [sm]
  | succ n ih => rw [sm, ih, Nat.succ_mul]
theorem sm_bound {f : Nat → Nat} {c n : Nat} (h : ∀ k, k < n → f k ≤ c) : sm f n ≤ n * c := by
  rw [← sm_const]; exact sm_le h
theorem sm_part {f : Nat → Nat} {n i : Nat} (hi : i < n) : f i ≤ sm f n := by
  induction n with
  | zero => omega
  | succ n ih =>
    rw [sm]
    by_cases e : i = n
    · subst e; omega
    · have := ih (by omega); omega
/-- one pair a of a first part, with the numbers B of a second's pairs: how many readings with the values v -/
def cj1 (md a : Nat) (x : Nat) (B : Nat → Nat) (v o : Nat) : Nat := if jp md a o = some v then x * B o else 0
def cj2 (md : Nat) (A B : Nat → Nat) (v a : Nat) : Nat := sm (cj1 md a (A a) B v) 16
def ctr (g : GR) (A B : Nat → Nat → Nat) (c v ρ : Nat) : Nat := if g 2 ρ = c then sm (cj2 (g 5 ρ) (A (g 3 ρ)) (B (g 4 ρ)) v) 16 else 0
def cst (g : GR) (r : Nat) (A B : Nat → Nat → Nat) (c v : Nat) : Nat := sm (ctr g A B c v) r
/-- a row of numbers holds the matrix M -/
def HM (F : Nat → Int32) (M : Nat → Nat → Nat) : Prop := ∀ c, c < 8 → ∀ v, v < 16 → F (c * 16 + v) = nI (M c v)
/-- the class's grammar in the cells: n words, r rules -/
def GG (I : IT) (g : GR) (n r : Nat) : Prop :=
  I 1 0 = nI n ∧ n ≤ 9 ∧ I 1 1 = nI r ∧ r ≤ 8 ∧ (∀ w, w < n → I 14 w = nI (g 0 w) ∧ g 0 w < 8 ∧ I 15 w = nI (g 1 w) ∧ g 1 w < 16) ∧
  (∀ ρ, ρ < r → I 16 ρ = nI (g 2 ρ) ∧ g 2 ρ < 8 ∧ I 17 ρ = nI (g 3 ρ) ∧ g 3 ρ < 8 ∧ I 18 ρ = nI (g 4 ρ) ∧ g 4 ρ < 8 ∧ ∀ k, k < 256 → I (ρ + 29) k = enc (jp (g 5 ρ) (k / 16) (k % 16)))
section GGs
variable {I : IT} {g : GR} {n r : Nat}
theorem GG.cong {I' : IT} (h : GG I g n r) (e : ∀ k, (k = 1 ∨ 14 ≤ k ∧ k < 19 ∨ 29 ≤ k ∧ k < 37) → I' k = I k) : GG I' g n r := by
  obtain ⟨h1, h2, h3, h4, h5, h6⟩ := h
  refine ⟨by rw [e 1 (by omega)]; exact h1, h2, by rw [e 1 (by omega)]; exact h3, h4, fun w hw => ?_, fun ρ hρ => ?_⟩
  · rw [e 14 (by omega), e 15 (by omega)]; exact h5 w hw
  · rw [e 16 (by omega), e 17 (by omega), e 18 (by omega), e (ρ + 29) (by omega)]; exact h6 ρ hρ
theorem GG.up (h : GG I g n r) {k : Nat} (hk : k ≠ 1 ∧ (k < 14 ∨ 19 ≤ k) ∧ (k < 29 ∨ 37 ≤ k)) (F : Nat → Int32) : GG (va_up I k F) g n r :=
  h.cong (fun j hj => va_up_ne _ _ (by omega))
theorem GG.n_le (h : GG I g n r) : n ≤ 9 := h.2.1
theorem GG.r_le (h : GG I g n r) : r ≤ 8 := h.2.2.2.1
theorem GG.cn (h : GG I g n r) : I 1 0 = nI n := h.1
theorem GG.cr (h : GG I g n r) : I 1 1 = nI r := h.2.2.1
theorem GG.cat (h : GG I g n r) {w : Nat} (hw : w < n) : I 14 w = nI (g 0 w) := (h.2.2.2.2.1 w hw).1
theorem GG.cat_lt (h : GG I g n r) {w : Nat} (hw : w < n) : g 0 w < 8 := (h.2.2.2.2.1 w hw).2.1
theorem GG.val (h : GG I g n r) {w : Nat} (hw : w < n) : I 15 w = nI (g 1 w) := (h.2.2.2.2.1 w hw).2.2.1
theorem GG.val_lt (h : GG I g n r) {w : Nat} (hw : w < n) : g 1 w < 16 := (h.2.2.2.2.1 w hw).2.2.2
theorem GG.made (h : GG I g n r) {ρ : Nat} (hρ : ρ < r) : I 16 ρ = nI (g 2 ρ) := (h.2.2.2.2.2 ρ hρ).1
theorem GG.made_lt (h : GG I g n r) {ρ : Nat} (hρ : ρ < r) : g 2 ρ < 8 := (h.2.2.2.2.2 ρ hρ).2.1
theorem GG.fst (h : GG I g n r) {ρ : Nat} (hρ : ρ < r) : I 17 ρ = nI (g 3 ρ) := (h.2.2.2.2.2 ρ hρ).2.2.1
theorem GG.fst_lt (h : GG I g n r) {ρ : Nat} (hρ : ρ < r) : g 3 ρ < 8 := (h.2.2.2.2.2 ρ hρ).2.2.2.1
theorem GG.snd (h : GG I g n r) {ρ : Nat} (hρ : ρ < r) : I 18 ρ = nI (g 4 ρ) := (h.2.2.2.2.2 ρ hρ).2.2.2.2.1
theorem GG.snd_lt (h : GG I g n r) {ρ : Nat} (hρ : ρ < r) : g 4 ρ < 8 := (h.2.2.2.2.2 ρ hρ).2.2.2.2.2.1
theorem GG.row (h : GG I g n r) {ρ k : Nat} (hρ : ρ < r) (hk : k < 256) : I (ρ + 29) k = enc (jp (g 5 ρ) (k / 16) (k % 16)) := (h.2.2.2.2.2 ρ hρ).2.2.2.2.2.2 k hk
end GGs
/-- the chart of the sets is right for all parts that end at t or before -/
def CV (F : Nat → Int32) (g : GR) (r : Nat) (lx : Nat → Nat → Nat) (t : Nat) : Prop := ∀ i j, i < j → j ≤ t → ∀ c, c < 8 → F (sp i j * 8 + c) = nI (ch g r lx i j c)
theorem CV.cong {F : Nat → Int32} {g : GR} {r : Nat} {lx lx' : Nat → Nat → Nat} {t : Nat} (h : CV F g r lx t) (e : ∀ p, p < t → ∀ c, lx p c = lx' p c) : CV F g r lx' t := fun i j hij hj c hc => by
  rw [h i j hij hj c hc, ch_cong (j - i) i j (Nat.le_refl _) hij (fun p h1 h2 => e p (by omega)) c]
def LEN (x : Int32) (m : Nat) : Prop := x = nI m ∧ 1 ≤ m ∧ m ≤ 4
theorem LEN_lt {x : Int32} (h : x < nI 1) : ¬ ∃ m, LEN x m := by
  rintro ⟨m, rfl, h1, h2⟩
  exact nI_nlt h1 (by omega) h
theorem LEN_gt {x : Int32} (h : ¬ x ≤ nI 4) : ¬ ∃ m, LEN x m := by
  rintro ⟨m, rfl, h1, h2⟩
  exact h (nI_le h2 (by decide))
theorem LEN_of {x : Int32} (h1 : ¬ x < nI 1) (h2 : x ≤ nI 4) : ∃ m, LEN x m := by
  rcases pk_ix x (show (5 : Nat) < 2 ^ 31 by decide) with q | q | ⟨j, hj, rfl⟩
  · exact absurd (Int32.lt_trans q (by decide)) h1
  · exact absurd (Int32.le_trans q h2) (by decide)
  · refine ⟨j, rfl, ?_, by omega⟩
    rcases Nat.eq_zero_or_pos j with e | e
    · subst e; exact absurd (by decide) h1
    · exact e
theorem va_id {α : Type} (f : Nat → α) (k : Nat) : va_up f k (f k) = f := by
  funext j
  unfold va_up
  split
  · rename_i h; rw [h]
  · rfl
theorem upd_s (f : Nat → Int32) (k : Nat) (x : Int32) : upd f k x k = x := by simp [upd]
theorem upd_n (f : Nat → Int32) {k j : Nat} (x : Int32) (h : j ≠ k) : upd f k x j = f j := by simp [upd, h]
