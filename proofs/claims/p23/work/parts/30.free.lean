/-! any words at a place; the next row of digits -/
theorem nz_bit {x : Nat} : x ≠ 0 ↔ ∃ v, x.testBit v = true := by
  constructor
  · intro h
    refine Classical.byContradiction fun hn => h (Nat.eq_of_testBit_eq fun i => ?_)
    rw [Nat.zero_testBit]
    cases e : x.testBit i with
    | false => rfl
    | true => exact absurd ⟨i, e⟩ hn
  · rintro ⟨v, h⟩ e
    rw [e, Nat.zero_testBit] at h
    cases h
theorem obit_bit {o : Option Nat} {v : Nat} : (obit o).testBit v = true ↔ o = some v := by
  cases o with
  | none => simp [obit]
  | some k => simp [obit, Nat.testBit_two_pow]
theorem pmk_bit {md a b v : Nat} : (pmk md a b).testBit v = true ↔ ∃ x, x < 16 ∧ a.testBit x = true ∧ ∃ y, y < 16 ∧ b.testBit y = true ∧ jp md x y = some v := by
  unfold pmk
  rw [orf_bit]
  refine exists_congr fun x => and_congr_right fun hx => ?_
  unfold pmo
  by_cases h : a.testBit x = true
  · rw [if_pos h, orf_bit]
    refine ⟨fun ⟨y, hy, h2⟩ => ⟨h, y, hy, ?_⟩, fun ⟨_, y, hy, h2, h3⟩ => ⟨y, hy, ?_⟩⟩
    · unfold pin at h2
      by_cases hb : b.testBit y = true
      · rw [if_pos hb] at h2; exact ⟨hb, obit_bit.mp h2⟩
      · rw [if_neg hb, Nat.zero_testBit] at h2; cases h2
    · unfold pin
      rw [if_pos h2]; exact obit_bit.mpr h3
  · rw [if_neg h, Nat.zero_testBit]
    exact ⟨fun q => (nomatch q), fun ⟨q, _⟩ => absurd q h⟩
theorem stp_bit {g : GR} {r : Nat} {A B : Nat → Nat} {c v : Nat} : (stp g r A B c).testBit v = true ↔ ∃ ρ, ρ < r ∧ g 2 ρ = c ∧ ∃ x, x < 16 ∧ (A (g 3 ρ)).testBit x = true ∧ ∃ y, y < 16 ∧ (B (g 4 ρ)).testBit y = true ∧ jp (g 5 ρ) x y = some v := by
  unfold stp
  rw [orf_bit]
  refine exists_congr fun ρ => and_congr_right fun hρ => ?_
  unfold str
  by_cases h : g 2 ρ = c
  · rw [if_pos h, pmk_bit]
    exact ⟨fun q => ⟨h, q⟩, fun q => q.2⟩
  · rw [if_neg h, Nat.zero_testBit]
    exact ⟨fun q => (nomatch q), fun q => absurd q.1 h⟩
/-- the set s at place a -/
def lf1 (a : Nat) (s : Nat → Nat) (lx : Nat → Nat → Nat) : Nat → Nat → Nat := fun p c => if p = a then s c else lx p c
theorem lf1_s (a : Nat) (s : Nat → Nat) (lx : Nat → Nat → Nat) (c : Nat) : lf1 a s lx a c = s c := if_pos rfl
theorem lf1_n {a p : Nat} (s : Nat → Nat) (lx : Nat → Nat → Nat) (c : Nat) (h : p ≠ a) : lf1 a s lx p c = lx p c := if_neg h
theorem ch_free (g : GR) (r n a : Nat) (lx : Nat → Nat → Nat) : ∀ N i j, j - i ≤ N → i ≤ a → a < j → ∀ c v, (ch g r (lf1 a (wany g n) lx) i j c).testBit v = true ↔ ∃ w, w < n ∧ (ch g r (lf1 a (wset g w) lx) i j c).testBit v = true := by
  intro N
  induction N with
  | zero => intro i j h1 h2 h3; omega
  | succ N ih =>
    intro i j h1 h2 h3 c v
    by_cases e : j = i + 1
    · have ea : a = i := by omega
      subst ea e
      rw [ch_one, lf1_s, wany, orf_bit]
      refine exists_congr fun w => and_congr_right fun hw => ?_
      rw [ch_one, lf1_s]
    · have hm : i + 1 < j := by omega
      have hB : ∀ s s' i' j', i' < j' → (j' ≤ a ∨ a < i') → ∀ c, ch g r (lf1 a s lx) i' j' c = ch g r (lf1 a s' lx) i' j' c := fun s s' i' j' hij ho => ch_cong (j' - i') i' j' (Nat.le_refl _) hij (fun p p1 p2 c => by rw [lf1_n _ _ _ (by omega), lf1_n _ _ _ (by omega)])
      constructor
      · intro h
        rw [ch_more _ _ _ c hm] at h
        obtain ⟨d, hd, h⟩ := (orf_bit _ _ _).mp h
        obtain ⟨ρ, hρ, e2, x, hx, hA, y, hy, hB2, hj⟩ := stp_bit.mp h
        by_cases ha : a < i + 1 + d
        · obtain ⟨w, hw, hA'⟩ := (ih i (i + 1 + d) (by omega) h2 ha _ _).mp hA
          refine ⟨w, hw, ?_⟩
          rw [ch_more _ _ _ c hm]
          exact (orf_bit _ _ _).mpr ⟨d, hd, stp_bit.mpr ⟨ρ, hρ, e2, x, hx, hA', y, hy, by rw [← hB (wany g n) (wset g w) _ _ (by omega) (Or.inr ha)]; exact hB2, hj⟩⟩
        · obtain ⟨w, hw, hB'⟩ := (ih (i + 1 + d) j (by omega) (by omega) h3 _ _).mp hB2
          refine ⟨w, hw, ?_⟩
          rw [ch_more _ _ _ c hm]
          exact (orf_bit _ _ _).mpr ⟨d, hd, stp_bit.mpr ⟨ρ, hρ, e2, x, hx, by rw [← hB (wany g n) (wset g w) _ _ (by omega) (Or.inl (by omega))]; exact hA, y, hy, hB', hj⟩⟩
      · rintro ⟨w, hw, h⟩
        rw [ch_more _ _ _ c hm] at h
        obtain ⟨d, hd, h⟩ := (orf_bit _ _ _).mp h
        obtain ⟨ρ, hρ, e2, x, hx, hA, y, hy, hB2, hj⟩ := stp_bit.mp h
        rw [ch_more _ _ _ c hm]
        by_cases ha : a < i + 1 + d
        · exact (orf_bit _ _ _).mpr ⟨d, hd, stp_bit.mpr ⟨ρ, hρ, e2, x, hx, (ih i (i + 1 + d) (by omega) h2 ha _ _).mpr ⟨w, hw, hA⟩, y, hy, by rw [hB (wany g n) (wset g w) _ _ (by omega) (Or.inr ha)]; exact hB2, hj⟩⟩
        · exact (orf_bit _ _ _).mpr ⟨d, hd, stp_bit.mpr ⟨ρ, hρ, e2, x, hx, by rw [hB (wany g n) (wset g w) _ _ (by omega) (Or.inl (by omega))]; exact hA, y, hy, (ih (i + 1 + d) j (by omega) (by omega) h3 _ _).mpr ⟨w, hw, hB2⟩, hj⟩⟩
theorem ch_freeN {g : GR} {r n a q : Nat} {lx : Nat → Nat → Nat} (ha : a < q) : ch g r (lf1 a (wany g n) lx) 0 q 0 ≠ 0 ↔ ∃ w, w < n ∧ ch g r (lf1 a (wset g w) lx) 0 q 0 ≠ 0 := by
  rw [nz_bit]
  constructor
  · rintro ⟨v, h⟩
    obtain ⟨w, hw, h⟩ := (ch_free g r n a lx (q - 0) 0 q (Nat.le_refl _) (Nat.zero_le _) ha 0 v).mp h
    exact ⟨w, hw, nz_bit.mpr ⟨v, h⟩⟩
  · rintro ⟨w, hw, h⟩
    obtain ⟨v, h⟩ := nz_bit.mp h
    exact ⟨v, (ch_free g r n a lx (q - 0) 0 q (Nat.le_refl _) (Nat.zero_le _) ha 0 v).mpr ⟨w, hw, h⟩⟩
/-- the row's sets with any words at the places x and y -/
def lfr (g : GR) (n : Nat) (u : Nat → Nat) (x y : Int32) : Nat → Nat → Nat := fun p c => if nI p = x ∨ nI p = y then wany g n c else lxw g u p c
def isF (g : GR) (r n : Nat) (u : Nat → Nat) (x y : Int32) (q : Nat) : Bool := decide (0 < q ∧ ch g r (lfr g n u x y) 0 q 0 ≠ 0)
theorem ch_cg {g : GR} {r q : Nat} {lx lx' : Nat → Nat → Nat} (hq : 0 < q) (h : ∀ p, p < q → ∀ c, lx p c = lx' p c) : ch g r lx 0 q 0 = ch g r lx' 0 q 0 := ch_cong (q - 0) 0 q (Nat.le_refl _) hq (fun p _ h2 => h p h2) 0
theorem nI_ne1 {p : Nat} (h : p < 2 ^ 31) : nI p ≠ -1 := fun e => absurd (by rw [e]; decide : nI p < 0) (nI_pos h)
theorem nI_inj {a b : Nat} (ha : a < 2 ^ 31) (hb : b < 2 ^ 31) (h : nI a = nI b) : a = b := by rw [← nI_clamp ha, ← nI_clamp hb, h]
theorem isF_no {g : GR} {r n q : Nat} {u : Nat → Nat} (hq : q ≤ 6) : isF g r n u (-1) (-1) q = isS g r u q := by
  unfold isF isS
  by_cases h : 0 < q
  · rw [ch_cg (lx := lfr g n u (-1) (-1)) (lx' := lxw g u) h (fun p hp c => by
      unfold lfr
      exact if_neg (fun e => by
        rcases e with e | e
        · exact nI_ne1 (by omega) e
        · exact nI_ne1 (by omega) e))]
  · rw [decide_eq_false (fun e => h e.1), decide_eq_false (fun e => h e.1)]
theorem isF_one {g : GR} {r n q p : Nat} {u : Nat → Nat} (hq : q ≤ 6) (hp : p < q) : isF g r n u (nI p) (-1) q = true ↔ ∃ w, w < n ∧ isS g r (ust u p w) q = true := by
  have h0 : 0 < q := by omega
  unfold isF
  rw [decide_eq_true_iff, ch_cg (lx' := lf1 p (wany g n) (lxw g u)) h0 (fun p' hp' c => by
    unfold lfr
    by_cases e : p' = p
    · subst e; rw [if_pos (Or.inl rfl), lf1_s]
    · rw [if_neg (by
        rintro (e2 | e2)
        · exact e (nI_inj (by omega) (by omega) e2)
        · exact nI_ne1 (by omega) e2), lf1_n _ _ _ e]), ch_freeN hp]
  refine ⟨fun ⟨_, w, hw, h⟩ => ⟨w, hw, ?_⟩, fun ⟨w, hw, h⟩ => ⟨h0, w, hw, ?_⟩⟩
  · unfold isS
    refine decide_eq_true ⟨h0, ?_⟩
    rw [ch_cg (lx' := lf1 p (wset g w) (lxw g u)) h0 (fun p' hp' c => by
      unfold lxw lf1 ust
      by_cases e : p' = p
      · rw [if_pos e, if_pos e]
      · rw [if_neg e, if_neg e])]
    exact h
  · have h2 := (of_decide_eq_true h).2
    rw [ch_cg (lx' := lf1 p (wset g w) (lxw g u)) h0 (fun p' hp' c => by
      unfold lxw lf1 ust
      by_cases e : p' = p
      · rw [if_pos e, if_pos e]
      · rw [if_neg e, if_neg e])] at h2
    exact h2
theorem isF_two {g : GR} {r n q p p2 : Nat} {u : Nat → Nat} (hq : q ≤ 6) (hp : p < p2) (hp2 : p2 < q) : isF g r n u (nI p) (nI p2) q = true ↔ ∃ w w2, w < n ∧ w2 < n ∧ isS g r (ust (ust u p w) p2 w2) q = true := by
  have h0 : 0 < q := by omega
  have hE : ∀ w w2, ch g r (lf1 p (wset g w) (lf1 p2 (wset g w2) (lxw g u))) 0 q 0 = ch g r (lxw g (ust (ust u p w) p2 w2)) 0 q 0 := fun w w2 => ch_cg h0 (fun p' hp' c => by
    unfold lxw lf1 ust
    by_cases e : p' = p
    · rw [if_pos e, if_neg (by omega), if_pos e]
    · rw [if_neg e]
      by_cases e2 : p' = p2
      · rw [if_pos e2, if_pos e2]
      · rw [if_neg e2, if_neg e2, if_neg e])
  have hC : ∀ w2, ch g r (lf1 p2 (wset g w2) (lf1 p (wany g n) (lxw g u))) 0 q 0 = ch g r (lf1 p (wany g n) (lf1 p2 (wset g w2) (lxw g u))) 0 q 0 := fun w2 => ch_cg h0 (fun p' hp' c => by
    unfold lf1
    by_cases e : p' = p
    · rw [if_pos e, if_neg (by omega), if_pos e]
    · rw [if_neg e, if_neg e])
  unfold isF
  rw [decide_eq_true_iff, ch_cg (lx' := lf1 p2 (wany g n) (lf1 p (wany g n) (lxw g u))) h0 (fun p' hp' c => by
    unfold lfr lf1
    by_cases e : p' = p2
    · subst e; rw [if_pos (Or.inr rfl), if_pos rfl]
    · rw [if_neg e]
      by_cases e2 : p' = p
      · subst e2; rw [if_pos (Or.inl rfl), if_pos rfl]
      · rw [if_neg (by
          rintro (e3 | e3)
          · exact e2 (nI_inj (by omega) (by omega) e3)
          · exact e (nI_inj (by omega) (by omega) e3)), if_neg e2]), ch_freeN hp2]
  constructor
  · rintro ⟨_, w2, hw2, h⟩
    rw [hC, ch_freeN (by omega)] at h
    obtain ⟨w, hw, h⟩ := h
    rw [hE] at h
    exact ⟨w, w2, hw, hw2, decide_eq_true ⟨h0, h⟩⟩
  · rintro ⟨w, w2, hw, hw2, h⟩
    refine ⟨h0, w2, hw2, ?_⟩
    rw [hC, ch_freeN (by omega)]
    refine ⟨w, hw, ?_⟩
    rw [hE]
    exact (of_decide_eq_true h).2
/-! digits -/
theorem dg_div {k a N : Nat} (h : k + 1 = (a + 1) * N) (hN : 0 < N) : k / N = a ∧ (k + 1) / N = a + 1 := by
  refine ⟨Nat.div_eq_of_lt_le ?_ (by omega), by rw [h]; exact Nat.mul_div_cancel _ hN⟩
  rw [Nat.succ_mul] at h
  omega
theorem dg_old {n s k a f p : Nat} (hn : 0 < n) (hf : f ≤ s) (h : k + 1 = (a + 1) * n ^ (s - f)) (hp : p < f) : dig n s k p = a / n ^ (f - 1 - p) % n ∧ dig n s (k + 1) p = (a + 1) / n ^ (f - 1 - p) % n := by
  obtain ⟨h1, h2⟩ := dg_div h (Nat.pow_pos hn)
  unfold dig
  rw [show s - 1 - p = (s - f) + (f - 1 - p) by omega, Nat.pow_add, ← Nat.div_div_eq_div_mul, ← Nat.div_div_eq_div_mul, h1, h2]
  exact ⟨rfl, rfl⟩
theorem dg_zero {n s k a f p : Nat} (hn : 0 < n) (h : k + 1 = (a + 1) * n ^ (s - f)) (hp : f ≤ p) (hs : p < s) : dig n s (k + 1) p = 0 := by
  unfold dig
  rw [h, show s - f = (s - 1 - p) + ((p - f) + 1) by omega, Nat.pow_add, Nat.mul_comm (n ^ (s - 1 - p)), ← Nat.mul_assoc, Nat.mul_div_cancel _ (Nat.pow_pos hn), Nat.pow_succ, ← Nat.mul_assoc]
  exact Nat.mul_mod_left _ _
theorem dg_in {a n : Nat} (h : a % n + 1 < n) : (a + 1) / n = a / n ∧ (a + 1) % n = a % n + 1 := by
  have h1 := Nat.div_add_mod a n
  have h2 : (a + 1) / n = a / n := Nat.div_eq_of_lt_le (by rw [Nat.mul_comm]; omega) (by rw [Nat.succ_mul, Nat.mul_comm]; omega)
  have h3 := Nat.div_add_mod (a + 1) n
  rw [h2] at h3
  exact ⟨h2, by omega⟩
theorem dg_same {n a e : Nat} (h : a % n + 1 < n) : (a + 1) / n ^ (e + 1) = a / n ^ (e + 1) := by
  rw [Nat.pow_succ, Nat.mul_comm, ← Nat.div_div_eq_div_mul, ← Nat.div_div_eq_div_mul, (dg_in h).1]
theorem dg_up {n k a s f : Nat} (hf : f + 1 ≤ s) (h : k + 1 = (a + 1) * n ^ (s - (f + 1))) (hl : ¬ a % n + 1 < n) (hn : 0 < n) : ∃ b, k + 1 = (b + 1) * n ^ (s - f) := by
  have h1 := Nat.div_add_mod a n
  have h2 := Nat.mod_lt a hn
  refine ⟨a / n, ?_⟩
  rw [h, show s - f = (s - (f + 1)) + 1 by omega, Nat.pow_succ, Nat.mul_comm (n ^ _), ← Nat.mul_assoc]
  congr 1
  rw [Nat.succ_mul, Nat.mul_comm]
  omega
theorem dig_0 {n s p : Nat} : dig n s 0 p = 0 := by
  unfold dig
  rw [Nat.zero_div, Nat.zero_mod]
/-! what the class's private calls leave -/
def FC (I I' : IT) : Prop := ∀ k, k ≠ 13 → k ≠ 19 → k < 37 → I' k = I k
theorem FC.refl (I : IT) : FC I I := fun _ _ _ _ => rfl
theorem FC.trans {I J K : IT} (h : FC I J) (h2 : FC J K) : FC I K := fun k a b c => (h2 k a b c).trans (h k a b c)
theorem FC.up13 (I : IT) (F : Nat → Int32) : FC I (va_up I 13 F) := fun _ a _ _ => va_up_ne _ _ a
theorem FC.up19 (I : IT) (F : Nat → Int32) : FC I (va_up I 19 F) := fun _ _ b _ => va_up_ne _ _ b
theorem FC.gw {I I' : IT} {g : GR} {n r q : Nat} {u : Nat → Nat} (h : FC I I') (hG : GW I g n r q u) : GW I' g n r q u := hG.cong (fun k hk => h k (by omega) (by omega) (by omega))
theorem FC.gg {I I' : IT} {g : GR} {n r : Nat} (h : FC I I') (hG : GG I g n r) : GG I' g n r := hG.cong (fun k hk => h k (by omega) (by omega) (by omega))
theorem FC.mr {I I' : IT} {g : GR} {n r q : Nat} {u : Nat → Nat} (h : FC I I') (hM : MR I g n r q u) : MR I' g n r q u := hM.cong (fun j _ => by rw [h 8 (by omega) (by omega) (by omega)]) (fun k h1 h2 => h k (by omega) (by omega) (by omega))
section RowsC
variable {EX : State → Code → Prop} {l : Launch} {cc : ByteArray} {nL : Nat} {Ts : List Cond} {own : String} {ret : Option FieldType} {R : Room} {γ : Gm} {P : PT} {AF : State → Nat → Prop} {QQ : List Frame → Array Value → State → State → Prop} {cells slots : Nat} {pc : Nat} {lv : List (Nat × Value)} {st : List Value} {I : IT} {L : LT}
theorem g_copy {index q : Nat} (k0 k1 : Nat) (h0 : 12 ≤ k0) (h0' : k0 < 8 ∨ 12 ≤ k0 ∧ k0 < 20 ∨ 29 ≤ k0 ∧ k0 < 71) (h1 : 12 ≤ k1) (h1' : k1 < 8 ∨ 12 ≤ k1 ∧ k1 < 20 ∨ 29 ≤ k1 ∧ k1 < 71) (hq : q ≤ ln k0) (hq1 : q ≤ ln k1) (hl : Cond.methodLink own index arraycopyName ∈ Ts) (hn : Cond.native arraycopyName ∈ Ts) (hs : Cond.static arraycopyName ∈ Ts) (hi : Cond.initialized "java/lang/System" ∈ Ts) (hf : 1 ≤ R.frames) (hL : (st.map fun v => v.category).sum + (nativeFrameWords "java/lang/System" "arraycopy" 5 + 11) ≤ R.locals) (hd : decode cc pc = .ok (.invokestatic index, 3))
    (kk : G EX l cc nL Ts own ret R γ P AF QQ cells slots (pc + 3) lv st (va_up I k1 (va_cpy (I k0) (I k1) 0 0 q)) L) : G EX l cc nL Ts own ret R γ P AF QQ cells slots pc lv (.int (nI q) :: .int (nI 0) :: .ref (γ.2.2 k1) :: .int (nI 0) :: .ref (γ.2.2 k0) :: st) I L := by
  intro p e s m args below meth c K H locs ls hS hP hD hL2
  have hq31 : q < 2 ^ 31 := Nat.lt_of_le_of_lt hq (ln_lt k0)
  have e0 : (nI 0).toNatClampNeg = 0 := by decide
  have eq0 := nI_clamp hq31
  refine va_copyi (ws := wd γ I L P) (tys := tyl γ) K.1.1 K.1.2.1 (K.1.2.2.1.trans hL2.1.symm) K.1.2.2.2.1 (K.1.2.2.2.2 _ hl) (K.1.2.2.2.2 _ hn) (K.1.2.2.2.2 _ hs) (K.1.2.2.2.2 _ hi) K.2.1.1 hP hD hS (px k0) (px k1) 0 0 (by rw [wl_get h0', ee_int h0]) (by rw [wl_get h1', ee_int h1]) rfl rfl rfl (by decide) (by decide) (nI_pos hq31) (by rw [e0, eq0]; omega) (by rw [e0, eq0]; omega) (fun _ _ => rfl) hf hL hd (fun H1 locs1 hP hD hS => ?_)
  rw [e0, eq0, wl_set h1', ee_upI (by rw [ee_int h1, va_up_self])] at hP hD
  exact kk p e s m args below meth c K H1 locs1 ls hS hP hD hL2
end RowsC
