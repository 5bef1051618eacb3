/-! the property's mathematics: readings and sets of values; levels; changes; sentences in order -/
theorem sm_pos {f : Nat → Nat} {n : Nat} : 0 < sm f n ↔ ∃ k, k < n ∧ 0 < f k := by
  induction n with
  | zero => exact ⟨fun h => absurd h (Nat.lt_irrefl 0), fun ⟨k, h, _⟩ => absurd h (Nat.not_lt_zero k)⟩
  | succ n ih =>
    have e : sm f (n + 1) = sm f n + f n := rfl
    rw [e]
    constructor
    · intro h
      rcases Nat.eq_zero_or_pos (f n) with q | q
      · obtain ⟨k, h1, h2⟩ := ih.mp (by omega)
        exact ⟨k, by omega, h2⟩
      · exact ⟨n, Nat.lt_succ_self n, q⟩
    · rintro ⟨k, h1, h2⟩
      rcases Nat.lt_or_ge k n with q | q
      · have := ih.mpr ⟨k, q, h2⟩
        omega
      · have : k = n := by omega
        subst this
        omega
theorem cst_pos {g : GR} {r : Nat} {A B : Nat → Nat → Nat} {A' B' : Nat → Nat} {c v : Nat} (hA : ∀ c x, 0 < A c x ↔ (A' c).testBit x = true) (hB : ∀ c x, 0 < B c x ↔ (B' c).testBit x = true) : 0 < cst g r A B c v ↔ (stp g r A' B' c).testBit v = true := by
  rw [stp_bit]
  unfold cst
  rw [sm_pos]
  constructor
  · rintro ⟨ρ, hρ, h⟩
    unfold ctr at h
    by_cases e : g 2 ρ = c
    · rw [if_pos e] at h
      obtain ⟨a, ha, h⟩ := sm_pos.mp h
      unfold cj2 at h
      obtain ⟨o, ho, h⟩ := sm_pos.mp h
      unfold cj1 at h
      by_cases e2 : jp (g 5 ρ) a o = some v
      · rw [if_pos e2] at h
        have h1 : 0 < A (g 3 ρ) a := Nat.pos_of_ne_zero (fun q => by rw [q, Nat.zero_mul] at h; exact absurd h (Nat.lt_irrefl 0))
        have h2 : 0 < B (g 4 ρ) o := Nat.pos_of_ne_zero (fun q => by rw [q, Nat.mul_zero] at h; exact absurd h (Nat.lt_irrefl 0))
        exact ⟨ρ, hρ, e, a, ha, (hA _ _).mp h1, o, ho, (hB _ _).mp h2, e2⟩
      · rw [if_neg e2] at h; exact absurd h (Nat.lt_irrefl 0)
    · rw [if_neg e] at h; exact absurd h (Nat.lt_irrefl 0)
  · rintro ⟨ρ, hρ, e, a, ha, h1, o, ho, h2, e2⟩
    refine ⟨ρ, hρ, ?_⟩
    unfold ctr
    rw [if_pos e]
    refine sm_pos.mpr ⟨a, ha, ?_⟩
    unfold cj2
    refine sm_pos.mpr ⟨o, ho, ?_⟩
    unfold cj1
    rw [if_pos e2]
    exact Nat.mul_pos ((hA _ _).mpr h1) ((hB _ _).mpr h2)
/-- a part has a reading with some values just where these values are in its set -/
theorem ct_bit (g : GR) (r : Nat) (u : Nat → Nat) : ∀ N i j, j - i ≤ N → i < j → ∀ c v, 0 < ct g r u i j c v ↔ (ch g r (lxw g u) i j c).testBit v = true := by
  intro N
  induction N with
  | zero => intro i j h1 h2; omega
  | succ N ih =>
    intro i j h1 h2 c v
    by_cases e : j = i + 1
    · subst e
      rw [ct_one, ch_one]
      show 0 < wcnt g (u i) c v ↔ (wset g (u i) c).testBit v = true
      unfold wcnt wset
      by_cases e0 : g 0 (u i) = c
      · by_cases e1 : g 1 (u i) = v
        · rw [if_pos ⟨e0, e1⟩, if_pos e0, Nat.testBit_two_pow]
          simp [e1]
        · rw [if_neg (fun q => e1 q.2), if_pos e0, Nat.testBit_two_pow]
          simp [e1]
      · rw [if_neg (fun q => e0 q.1), if_neg e0]
        simp
    · rw [ct_more g r u c v (by omega), ch_more g r _ c (by omega), sm_pos, orf_bit]
      constructor
      · rintro ⟨d, hd, h⟩
        exact ⟨d, hd, (cst_pos (fun c x => ih i (i + 1 + d) (by omega) (by omega) c x) (fun c x => ih (i + 1 + d) j (by omega) (by omega) c x)).mp h⟩
      · rintro ⟨d, hd, h⟩
        exact ⟨d, hd, (cst_pos (fun c x => ih i (i + 1 + d) (by omega) (by omega) c x) (fun c x => ih (i + 1 + d) j (by omega) (by omega) c x)).mpr h⟩
def bn (x v : Nat) : Nat := if x.testBit v then 1 else 0
theorem bn_le (x v : Nat) : bn x v ≤ 1 := by unfold bn; split <;> omega
theorem bi_bn (x v : Nat) : bi (x.testBit v) = nI (bn x v) := by
  unfold bn
  cases x.testBit v <;> rfl
theorem tld_pos {m : Nat} : 0 < tld m ↔ 0 < m := by
  unfold tld; split <;> omega
theorem tld_le (m : Nat) : tld m ≤ 1000000 := by
  unfold tld; split <;> omega
theorem tld_ge {f m : Nat} (h : f ≤ m) (h2 : f ≤ 1000000) : f ≤ tld m := by
  unfold tld; split <;> omega
/-- the values found and the readings of a part -/
theorem found_le {g : GR} {r : Nat} {u : Nat → Nat} {a b c : Nat} (hab : a < b) : sm (bn (ch g r (lxw g u) a b c)) 16 ≤ tld (sm (ct g r u a b c) 16) := by
  refine tld_ge (sm_le (fun v _ => ?_)) (Nat.le_trans (sm_bound (c := 1) (fun v _ => bn_le _ v)) (by decide))
  unfold bn
  split
  · rename_i h
    exact (ct_bit g r u (b - a) a b (Nat.le_refl _) hab c v).mpr h
  · exact Nat.zero_le _
theorem found_pos {g : GR} {r : Nat} {u : Nat → Nat} {a b c : Nat} (hab : a < b) : 0 < sm (bn (ch g r (lxw g u) a b c)) 16 ↔ 0 < tld (sm (ct g r u a b c) 16) := by
  rw [tld_pos, sm_pos, sm_pos]
  constructor
  · rintro ⟨v, hv, h⟩
    refine ⟨v, hv, (ct_bit g r u (b - a) a b (Nat.le_refl _) hab c v).mpr ?_⟩
    unfold bn at h
    by_cases q : (ch g r (lxw g u) a b c).testBit v = true
    · exact q
    · rw [if_neg q] at h; exact absurd h (Nat.lt_irrefl 0)
  · rintro ⟨v, hv, h⟩
    refine ⟨v, hv, ?_⟩
    unfold bn
    rw [if_pos ((ct_bit g r u (b - a) a b (Nat.le_refl _) hab c v).mp h)]
    exact Nat.one_pos
theorem isS_iff {g : GR} {r q : Nat} {u : Nat → Nat} : isS g r u q = true ↔ 0 < q ∧ ch g r (lxw g u) 0 q 0 ≠ 0 := by
  unfold isS; exact decide_eq_true_iff
/-- a row has a reading just where it is a sentence -/
theorem rdg_pos {g : GR} {r q : Nat} {u : Nat → Nat} (hv : ∀ p, p < q → g 1 (u p) < 16) : 0 < rdg g r u q ↔ isS g r u q = true := by
  rw [isS_iff]
  unfold rdg
  by_cases h0 : q = 0
  · rw [if_pos h0]; omega
  · rw [if_neg h0, tld_pos, sm_pos]
    have hq : 0 < q := by omega
    constructor
    · rintro ⟨v, hv9, h⟩
      exact ⟨hq, nz_bit.mpr ⟨v, (ct_bit g r u q 0 q (by omega) hq 0 v).mp h⟩⟩
    · rintro ⟨-, h⟩
      obtain ⟨v, h⟩ := nz_bit.mp h
      refine ⟨v, ?_, (ct_bit g r u q 0 q (by omega) hq 0 v).mpr h⟩
      rcases Nat.lt_or_ge v 16 with q9 | q9
      · exact q9
      · have h1 : ch g r (lxw g u) 0 q 0 < 2 ^ v := Nat.lt_of_lt_of_le (ch_lt16 hq (fun p _ hp c => wset_lt (hv p hp))) (Nat.pow_le_pow_right (by decide) q9)
        rw [Nat.testBit_lt_two_pow h1] at h
        cases h
theorem GW.val16 {I : IT} {g : GR} {n r q : Nat} {u : Nat → Nat} (hG : GW I g n r q u) : ∀ p, p < q → g 1 (u p) < 16 := fun p hp => hG.1.val_lt (hG.2.2.2 p hp).2
theorem rdg_le (g : GR) (r : Nat) (u : Nat → Nat) (q : Nat) : rdg g r u q ≤ 1000000 := by
  unfold rdg; split
  · omega
  · exact tld_le _
theorem rdg_eq {g : GR} {r q : Nat} {u : Nat → Nat} (h : 0 < q) : tld (sm (ct g r u 0 q 0) 16) = rdg g r u q := by
  unfold rdg; rw [if_neg (by omega)]
/-- more rules, more sets -/
theorem ch_mono {g : GR} {k r : Nat} (hkr : k ≤ r) {lx : Nat → Nat → Nat} : ∀ N i j, j - i ≤ N → i < j → ∀ c v, (ch g k lx i j c).testBit v = true → (ch g r lx i j c).testBit v = true := by
  intro N
  induction N with
  | zero => intro i j h1 h2; omega
  | succ N ih =>
    intro i j h1 h2 c v h
    by_cases e : j = i + 1
    · subst e
      rw [ch_one] at h ⊢; exact h
    · rw [ch_more g k lx c (by omega), orf_bit] at h
      rw [ch_more g r lx c (by omega), orf_bit]
      obtain ⟨d, hd, h⟩ := h
      refine ⟨d, hd, ?_⟩
      rw [stp_bit] at h ⊢
      obtain ⟨ρ, hρ, e2, x, hx, h3, y, hy, h4, h5⟩ := h
      exact ⟨ρ, by omega, e2, x, hx, ih _ _ (by omega) (by omega) _ _ h3, y, hy, ih _ _ (by omega) (by omega) _ _ h4, h5⟩
theorem isS_mono {g : GR} {k r q : Nat} {u : Nat → Nat} (hkr : k ≤ r) (h : isS g k u q = true) : isS g r u q = true := by
  rw [isS_iff] at h ⊢
  obtain ⟨h1, h2⟩ := h
  obtain ⟨v, hv⟩ := nz_bit.mp h2
  exact ⟨h1, nz_bit.mpr ⟨v, ch_mono hkr q 0 q (by omega) h1 0 v hv⟩⟩
theorem isS_one {g : GR} {k r : Nat} {u : Nat → Nat} : isS g k u 1 = isS g r u 1 := by
  unfold isS
  rw [show ch g k (lxw g u) 0 1 0 = ch g r (lxw g u) 0 1 0 from (ch_one g k (lxw g u) 0 0).trans (ch_one g r (lxw g u) 0 0).symm]
theorem isS_norule {g : GR} {q : Nat} {u : Nat → Nat} (h : 2 ≤ q) : isS g 0 u q = false := by
  unfold isS
  refine decide_eq_false (fun q9 => q9.2 ?_)
  rw [ch_more g 0 _ 0 (by omega)]
  exact orf_zero (fun d _ => rfl)
theorem fst1_cases (p : Nat → Bool) : ∀ m k, (fst1 p m k = -1 ∧ ∀ j, k ≤ j → j < k + m → p j = false) ∨ ∃ j, k ≤ j ∧ j < k + m ∧ p j = true ∧ fst1 p m k = nI j ∧ ∀ i, k ≤ i → i < j → p i = false := by
  intro m
  induction m with
  | zero => intro k; exact Or.inl ⟨rfl, fun j h1 h2 => by omega⟩
  | succ m ih =>
    intro k
    by_cases h : p k = true
    · exact Or.inr ⟨k, Nat.le_refl _, by omega, h, by rw [fst1_s, if_pos h], fun i h1 h2 => by omega⟩
    · rcases ih (k + 1) with ⟨e, h1⟩ | ⟨j, h1, h2, h3, e, h4⟩
      · refine Or.inl ⟨by rw [fst1_s, if_neg h]; exact e, fun j hj hj2 => ?_⟩
        rcases Nat.eq_or_lt_of_le hj with q | q
        · subst q; exact Bool.eq_false_iff.mpr h
        · exact h1 j (by omega) (by omega)
      · refine Or.inr ⟨j, by omega, by omega, h3, by rw [fst1_s, if_neg h]; exact e, fun i hi hi2 => ?_⟩
        rcases Nat.eq_or_lt_of_le hi with q | q
        · subst q; exact Bool.eq_false_iff.mpr h
        · exact h4 i (by omega) (by omega)
/-- the level -/
theorem lvl_cases {g : GR} {r q : Nat} {u : Nat → Nat} : (isS g r u q = false ∧ fst1 (fun k => isS g k u q) (r + 1) 0 = -1) ∨ (isS g r u q = true ∧ ∃ j, j ≤ r ∧ fst1 (fun k => isS g k u q) (r + 1) 0 = nI j ∧ (q = 1 → j = 0) ∧ (2 ≤ q → 0 < j)) := by
  rcases fst1_cases (fun k => isS g k u q) (r + 1) 0 with ⟨e, h⟩ | ⟨j, h1, h2, h3, e, h4⟩
  · exact Or.inl ⟨h r (Nat.zero_le _) (by omega), e⟩
  · refine Or.inr ⟨isS_mono (by omega) h3, j, by omega, e, fun hq => ?_, fun hq => Nat.pos_of_ne_zero (fun e0 => ?_)⟩
    · subst hq
      rcases Nat.eq_zero_or_pos j with q | q
      · exact q
      · have := h4 0 (Nat.zero_le _) q
        have h5 : isS g 0 u 1 = isS g j u 1 := isS_one
        have h6 : isS g 0 u 1 = false := this
        rw [← h5, h6] at h3
        cases h3
    · subst e0
      have h5 : isS g 0 u q = true := h3
      rw [isS_norule hq] at h5
      cases h5
/-! changes and corrections -/
theorem ust_back (u : Nat → Nat) (p w : Nat) : ust (ust u p w) p (u p) = u := by
  funext j
  unfold ust
  split
  · rename_i h; rw [h]
  · rfl
theorem kfs_ok {p : Nat → Bool} : ∀ {m k y j : Nat}, kfs p m k y = some j → k ≤ j ∧ j < k + m ∧ p j = true := by
  intro m
  induction m with
  | zero => intro k y j h; cases h
  | succ m ih =>
    intro k y j h
    rw [kfs_s] at h
    by_cases hp : p k = true
    · rw [if_pos hp] at h
      by_cases hy : y = 0
      · rw [if_pos hy] at h
        cases h
        exact ⟨Nat.le_refl _, by omega, hp⟩
      · rw [if_neg hy] at h
        obtain ⟨h1, h2, h3⟩ := ih h
        exact ⟨by omega, by omega, h3⟩
    · rw [if_neg hp] at h
      obtain ⟨h1, h2, h3⟩ := ih h
      exact ⟨by omega, by omega, h3⟩
theorem kfs_0 {p : Nat → Bool} : ∀ {m k : Nat}, kfs p m k 0 = none → ∀ j, k ≤ j → j < k + m → p j = false := by
  intro m
  induction m with
  | zero => intro k _ j h1 h2; omega
  | succ m ih =>
    intro k h j h1 h2
    rw [kfs_s] at h
    by_cases hp : p k = true
    · rw [if_pos hp, if_pos rfl] at h; cases h
    · rw [if_neg hp] at h
      rcases Nat.eq_or_lt_of_le h1 with q | q
      · subst q; exact Bool.eq_false_iff.mpr hp
      · exact ih h j (by omega) (by omega)
/-- how many there are from k on -/
def bcf (p : Nat → Bool) : Nat → Nat → Nat
  | 0, _ => 0
  | m + 1, k => (if p k then 1 else 0) + bcf p m (k + 1)
theorem bcf_bc (p : Nat → Bool) : ∀ m k, bc p k + bcf p m k = bc p (k + m) := by
  intro m
  induction m with
  | zero => intro k; rfl
  | succ m ih =>
    intro k
    have h1 := ih (k + 1)
    have h2 : bc p (k + 1) = bc p k + (if p k then 1 else 0) := rfl
    have h3 : bcf p (m + 1) k = (if p k then 1 else 0) + bcf p m (k + 1) := rfl
    rw [h3, show k + (m + 1) = k + 1 + m by omega, ← h1, h2]
    omega
theorem kfs_bcf (p : Nat → Bool) : ∀ m k y, (kfs p m k y = none ↔ bcf p m k ≤ y) := by
  intro m
  induction m with
  | zero => intro k y; exact ⟨fun _ => Nat.zero_le _, fun _ => rfl⟩
  | succ m ih =>
    intro k y
    have h3 : bcf p (m + 1) k = (if p k then 1 else 0) + bcf p m (k + 1) := rfl
    rw [kfs_s, h3]
    by_cases hp : p k = true
    · rw [if_pos hp, if_pos hp]
      by_cases hy : y = 0
      · rw [if_pos hy]
        exact ⟨fun h => (nomatch h), fun h => by omega⟩
      · rw [if_neg hy, ih]
        omega
    · rw [if_neg hp, if_neg hp, ih]
      omega
theorem kfs_none {p : Nat → Bool} {m y : Nat} : kfs p m 0 y = none ↔ bc p m ≤ y := by
  rw [kfs_bcf]
  have h := bcf_bc p m 0
  rw [Nat.zero_add] at h
  have h0 : bc p 0 = 0 := rfl
  rw [← h, h0, Nat.zero_add]
/-- corrections: the k-th is none, or it makes a sentence -/
theorem cor_cases (g : GR) (r : Nat) (u : Nat → Nat) (q n k : Nat) : cor g r u q n k = -1 ∨ ∃ p w, p < q ∧ w < n ∧ cor g r u q n k = nI (10 * p + w) ∧ w ≠ u p ∧ isS g r (ust u p w) q = true := by
  unfold cor
  cases h : kfs (cok g r u q n) (q * n) 0 k with
  | none => exact Or.inl rfl
  | some j =>
    obtain ⟨-, h2, h3⟩ := kfs_ok h
    rw [Nat.zero_add] at h2
    have hn : 0 < n := Nat.pos_of_ne_zero (fun e => by subst e; rw [Nat.mul_zero] at h2; omega)
    unfold cok at h3
    obtain ⟨h4, h5⟩ := (Bool.and_eq_true _ _).mp h3
    refine Or.inr ⟨j / n, j % n, Nat.div_lt_of_lt_mul (by rw [Nat.mul_comm]; exact h2), Nat.mod_lt _ hn, rfl, fun e => ?_, h5⟩
    rw [decide_eq_true e] at h4
    cases h4
theorem cor_none {g : GR} {r q n : Nat} {u : Nat → Nat} (h : cor g r u q n 0 = -1) (hb : q ≤ 6 ∧ n ≤ 9) : ∀ p w, p < q → w < n → w ≠ u p → isS g r (ust u p w) q = false := by
  intro p w hp hw hne
  unfold cor at h
  cases h9 : kfs (cok g r u q n) (q * n) 0 0 with
  | some j =>
    rw [h9] at h
    obtain ⟨-, h2, -⟩ := kfs_ok h9
    rw [Nat.zero_add] at h2
    have h3 : q * n ≤ 6 * 9 := Nat.mul_le_mul hb.1 hb.2
    have h4 : j / n ≤ j := Nat.div_le_self _ _
    have h5 : j % n ≤ j := Nat.mod_le _ _
    exact absurd h (nI_ne_m1 (by omega))
  | none =>
    have h1 : p * n + w < q * n := Nat.lt_of_lt_of_le (by rw [Nat.succ_mul]; omega : p * n + w < (p + 1) * n) (Nat.mul_le_mul_right n hp)
    have h2 := kfs_0 h9 (p * n + w) (Nat.zero_le _) (by rw [Nat.zero_add]; exact h1)
    unfold cok at h2
    rw [dm_d hw, dm_m hw, decide_eq_false hne] at h2
    simpa using h2
/-- changes and corrections tell the same -/
theorem chg_is {g : GR} {r q n : Nat} {u : Nat → Nat} (h : isS g r u q = true) : chg g r u q n = nI 0 := by
  unfold chg; rw [if_pos h]
theorem chg_cases (g : GR) (r : Nat) (u : Nat → Nat) (q n : Nat) (h : isS g r u q = false) (hb : q ≤ 6 ∧ n ≤ 9) : (chg g r u q n = nI 1 ∧ 0 < q ∧ ∃ m, m < 100 ∧ cor g r u q n 0 = nI m) ∨ ((chg g r u q n = nI 2 ∨ chg g r u q n = -1) ∧ cor g r u q n 0 = -1 ∧ (q = 0 → chg g r u q n = -1)) := by
  unfold chg
  rw [if_neg (by rw [h]; decide)]
  by_cases h1 : one_ok g r u q n
  · rw [if_pos (pB_of h1)]
    refine Or.inl ⟨rfl, ?_, ?_⟩
    · obtain ⟨p, w, hp, -⟩ := h1
      omega
    rcases cor_cases g r u q n 0 with e | ⟨p, w, hp, hw, e, -, -⟩
    · obtain ⟨p, w, hp, hw, h2⟩ := h1
      by_cases e2 : w = u p
      · subst e2
        rw [ust_id, h] at h2; cases h2
      · rw [cor_none e hb p w hp hw e2] at h2; cases h2
    · exact ⟨10 * p + w, by omega, e⟩
  · rw [if_neg (by rw [pB_no h1]; decide)]
    have hc : cor g r u q n 0 = -1 := by
      rcases cor_cases g r u q n 0 with e | ⟨p, w, hp, hw, -, -, h2⟩
      · exact e
      · exact absurd ⟨p, w, hp, hw, h2⟩ h1
    by_cases h2 : two_ok g r u q n
    · rw [if_pos (pB_of h2)]
      refine Or.inr ⟨Or.inl rfl, hc, fun e => ?_⟩
      obtain ⟨p, p2, w, w2, h3, h4, -⟩ := h2
      omega
    · rw [if_neg (by rw [pB_no h2]; decide)]
      exact Or.inr ⟨Or.inr rfl, hc, fun _ => rfl⟩
/-- a spoilt row: no sentence, and one change makes it one again -/
theorem spo_cases (g : GR) (r : Nat) (u : Nat → Nat) (q n p : Nat) (hp : p < q) (hu : u p < n) : spo g r u q n p = -1 ∨ (isS g r u q = true ∧ ∃ w, w < n ∧ spo g r u q n p = nI w ∧ w ≠ u p ∧ isS g r (ust u p w) q = false ∧ chg g r (ust u p w) q n = nI 1) := by
  unfold spo
  by_cases h : isS g r u q = true
  · rw [if_pos h]
    rcases fst1_cases (sok g r u q p) n 0 with ⟨e, -⟩ | ⟨w, -, h2, h3, e, -⟩
    · exact Or.inl e
    · rw [Nat.zero_add] at h2
      unfold sok at h3
      obtain ⟨-, h4⟩ := (Bool.and_eq_true _ _).mp h3
      have h5 : isS g r (ust u p w) q = false := by
        cases q9 : isS g r (ust u p w) q with
        | false => rfl
        | true => rw [q9] at h4; cases h4
      refine Or.inr ⟨h, w, h2, e, fun e2 => ?_, h5, ?_⟩
      · subst e2
        rw [ust_id, h] at h5; cases h5
      · unfold chg
        rw [if_neg (by rw [h5]; decide), if_pos (pB_of ⟨p, u p, hp, hu, by rw [ust_back]; exact h⟩)]
  · rw [if_neg h]
    exact Or.inl rfl
/-! sentences in order -/
theorem pow_3 (n : Nat) : n ^ 1 = n ∧ n ^ 2 = n * n ∧ n ^ 3 = n * n * n := ⟨Nat.pow_one n, by rw [Nat.pow_succ, Nat.pow_one], by rw [Nat.pow_succ, Nat.pow_succ, Nat.pow_one]⟩
theorem tdig_lt {x : Nat → Nat} (h : ∀ p, x p < 10) : ∀ m, tdig x m < 10 ^ (m + 1) ∧ 0 < tdig x m := by
  intro m
  induction m with
  | zero => exact ⟨show 9 < 10 by decide, show 0 < 9 by decide⟩
  | succ m ih =>
    have e : tdig x (m + 1) = 10 * tdig x m + x m := rfl
    have h1 := h m
    rw [e, Nat.pow_succ]
    omega
theorem tdig_d1 {x : Nat → Nat} (h : ∀ p, x p < 10) : tdig x 1 / 1 % 10 = x 0 := by
  have e : tdig x 1 = 10 * 9 + x 0 := rfl
  have := h 0
  omega
theorem tdig_d2 {x : Nat → Nat} (h : ∀ p, x p < 10) : tdig x 2 / 10 % 10 = x 0 ∧ tdig x 2 / 1 % 10 = x 1 := by
  have e : tdig x 2 = 10 * (10 * 9 + x 0) + x 1 := rfl
  have := h 0
  have := h 1
  omega
theorem tdig_d3 {x : Nat → Nat} (h : ∀ p, x p < 10) : tdig x 3 / 100 % 10 = x 0 ∧ tdig x 3 / 10 % 10 = x 1 ∧ tdig x 3 / 1 % 10 = x 2 := by
  have e : tdig x 3 = 10 * (10 * (10 * 9 + x 0) + x 1) + x 2 := rfl
  have := h 0
  have := h 1
  have := h 2
  omega
