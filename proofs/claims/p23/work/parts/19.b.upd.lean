/-! what a call that changes the words, the rules or the row leaves -/
def FM (I I' : IT) : Prop := ∀ k, ¬ MI k → I' k = I k
def FG (I I' : IT) : Prop := ∀ k, MI k → I' k = I k
theorem grule_2 (g : GR) (q a b c m : Nat) : grule g q a b c m 2 q = a := by simp [grule]
theorem grule_3 (g : GR) (q a b c m : Nat) : grule g q a b c m 3 q = b := by simp [grule]
theorem grule_4 (g : GR) (q a b c m : Nat) : grule g q a b c m 4 q = c := by simp [grule]
theorem grule_5 (g : GR) (q a b c m : Nat) : grule g q a b c m 5 q = m := by simp [grule]
section Upd
variable {I I' : IT} {g : GR} {n r q : Nat} {u : Nat → Nat}
theorem gword_bd {w a b c : Nat} (hw : w < c) (h : ∀ j, j < n → g 0 j < 8 ∧ g 1 j < 16) (ha : a < 8) (hb : b < 16) (hc : ∀ j, j < c → j ≠ w → j < n) : ∀ j, j < c → gword g w a b 0 j < 8 ∧ gword g w a b 1 j < 16 := fun j hj => by
  by_cases e : j = w
  · subst e; rw [gword_0, gword_1]; exact ⟨ha, hb⟩
  · rw [gword_ne g e, gword_ne g e]; exact h j (hc j hj e)
theorem MR.word (h : MR I g n r q u) {w m a b : Nat} (hm : m ≤ 9) (hnm : n ≤ m) (hw : w < m) (hm2 : ∀ j, j < m → j ≠ w → j < n) (ha : a < 8) (hb : b < 16) (e0 : I' 8 0 = nI m) (e1 : I' 8 1 = I 8 1) (e2 : I' 8 2 = I 8 2) (e20 : I' 20 = upd (I 20) w (nI a)) (e21 : I' 21 = upd (I 21) w (nI b)) (e : ∀ k, 22 ≤ k → k < 27 → I' k = I k) : MR I' (gword g w a b) m r q u := by
  obtain ⟨⟨h1, h2, h3, h4, h5, h6⟩, k1, k2, k3⟩ := h
  refine ⟨⟨e0, hm, by rw [e1]; exact h3, h4, fun j hj => ?_, fun p hp => ?_⟩, by rw [e2]; exact k1, k2, fun p hp => ?_⟩
  · rw [e20, e21]
    by_cases ej : j = w
    · subst ej; rw [upd_s, upd_s, gword_0, gword_1]; exact ⟨rfl, ha, rfl, hb⟩
    · rw [upd_n _ _ ej, upd_n _ _ ej, gword_ne g ej, gword_ne g ej]; exact h5 j (hm2 j hj ej)
  · rw [e 22 (by omega) (by omega), e 23 (by omega) (by omega), e 24 (by omega) (by omega), e 25 (by omega) (by omega), gword_r g (by omega), gword_r g (by omega), gword_r g (by omega), gword_r g (by omega)]
    exact h6 p hp
  · rw [e 26 (by omega) (by omega)]
    exact ⟨(k3 p hp).1, Nat.lt_of_lt_of_le (k3 p hp).2 hnm⟩
theorem MR.rule (h : MR I g n r q u) {a b c m : Nat} (hr : r < 8) (ha : a < 8) (hb : b < 8) (hc : c < 8) (hm1 : m / 10 ≤ 3) (hm2 : m % 10 ≤ 3) (e0 : I' 8 0 = I 8 0) (e1 : I' 8 1 = nI (r + 1)) (e2 : I' 8 2 = I 8 2) (e22 : I' 22 = upd (I 22) r (nI a)) (e23 : I' 23 = upd (I 23) r (nI b)) (e24 : I' 24 = upd (I 24) r (nI c)) (e25 : I' 25 = upd (I 25) r (nI m)) (e20 : I' 20 = I 20) (e21 : I' 21 = I 21) (e26 : I' 26 = I 26) : MR I' (grule g r a b c m) n (r + 1) q u := by
  obtain ⟨⟨h1, h2, h3, h4, h5, h6⟩, k1, k2, k3⟩ := h
  refine ⟨⟨by rw [e0]; exact h1, h2, e1, hr, fun j hj => ?_, fun p hp => ?_⟩, by rw [e2]; exact k1, k2, fun p hp => by rw [e26]; exact k3 p hp⟩
  · rw [e20, e21, grule_w g (by omega), grule_w g (by omega)]; exact h5 j hj
  · rw [e22, e23, e24, e25]
    by_cases ep : p = r
    · subst ep
      rw [upd_s, upd_s, upd_s, upd_s]
      rw [grule_2, grule_3, grule_4, grule_5]
      exact ⟨rfl, ha, rfl, hb, rfl, hc, rfl, hm1, hm2⟩
    · rw [upd_n _ _ ep, upd_n _ _ ep, upd_n _ _ ep, upd_n _ _ ep, grule_ne g ep, grule_ne g ep, grule_ne g ep, grule_ne g ep]
      exact h6 p (by omega)
theorem MR.drop (h : MR I g n r q u) {r' : Nat} (hr : r' ≤ r) (e0 : I' 8 0 = I 8 0) (e1 : I' 8 1 = nI r') (e2 : I' 8 2 = I 8 2) (e : ∀ k, 20 ≤ k → k < 27 → I' k = I k) : MR I' g n r' q u := by
  obtain ⟨⟨h1, h2, h3, h4, h5, h6⟩, k1, k2, k3⟩ := h
  refine ⟨⟨by rw [e0]; exact h1, h2, e1, by omega, fun j hj => ?_, fun p hp => ?_⟩, by rw [e2]; exact k1, k2, fun p hp => by rw [e 26 (by omega) (by omega)]; exact k3 p hp⟩
  · rw [e 20 (by omega) (by omega), e 21 (by omega) (by omega)]; exact h5 j hj
  · rw [e 22 (by omega) (by omega), e 23 (by omega) (by omega), e 24 (by omega) (by omega), e 25 (by omega) (by omega)]; exact h6 p (by omega)
theorem MR.row (h : MR I g n r q u) {q' : Nat} {u' : Nat → Nat} (hq : q' ≤ 6) (e0 : I' 8 0 = I 8 0) (e1 : I' 8 1 = I 8 1) (e2 : I' 8 2 = nI q') (e : ∀ k, 20 ≤ k → k < 26 → I' k = I k) (hu : ∀ p, p < q' → I' 26 p = nI (u' p) ∧ u' p < n) : MR I' g n r q' u' :=
  ⟨h.1.cong e0 e1 e, e2, hq, hu⟩
/-- the same, of the class -/
theorem GW.word (h : GW I g n r q u) {w m a b : Nat} (hm : m ≤ 9) (hnm : n ≤ m) (hw : w < m) (hm2 : ∀ j, j < m → j ≠ w → j < n) (ha : a < 8) (hb : b < 16) (e0 : I' 1 0 = nI m) (e1 : I' 1 1 = I 1 1) (e00 : I' 0 = I 0) (e14 : I' 14 = upd (I 14) w (nI a)) (e15 : I' 15 = upd (I 15) w (nI b)) (e : ∀ k, (k = 12 ∨ 16 ≤ k ∧ k < 19 ∨ 29 ≤ k ∧ k < 37) → I' k = I k) : GW I' (gword g w a b) m r q u := by
  obtain ⟨⟨h1, h2, h3, h4, h5, h6⟩, k1, k2, k3⟩ := h
  refine ⟨⟨e0, hm, by rw [e1]; exact h3, h4, fun j hj => ?_, fun p hp => ?_⟩, by rw [e00]; exact k1, k2, fun p hp => ?_⟩
  · rw [e14, e15]
    by_cases ej : j = w
    · subst ej; rw [upd_s, upd_s, gword_0, gword_1]; exact ⟨rfl, ha, rfl, hb⟩
    · rw [upd_n _ _ ej, upd_n _ _ ej, gword_ne g ej, gword_ne g ej]; exact h5 j (hm2 j hj ej)
  · rw [e 16 (by omega), e 17 (by omega), e 18 (by omega), e (p + 29) (by omega), gword_r g (by omega), gword_r g (by omega), gword_r g (by omega), gword_r g (by omega)]
    exact h6 p hp
  · rw [e 12 (by omega)]
    exact ⟨(k3 p hp).1, Nat.lt_of_lt_of_le (k3 p hp).2 hnm⟩
theorem GW.rule (h : GW I g n r q u) {a b c m : Nat} (hr : r < 8) (ha : a < 8) (hb : b < 8) (hc : c < 8) (e0 : I' 1 0 = I 1 0) (e1 : I' 1 1 = nI (r + 1)) (e00 : I' 0 = I 0) (e16 : I' 16 = upd (I 16) r (nI a)) (e17 : I' 17 = upd (I 17) r (nI b)) (e18 : I' 18 = upd (I 18) r (nI c)) (e29 : ∀ k, k < 256 → I' (r + 29) k = enc (jp m (k / 16) (k % 16))) (e : ∀ k, (k = 12 ∨ 14 ≤ k ∧ k < 16 ∨ 29 ≤ k ∧ k < 37 ∧ k ≠ r + 29) → I' k = I k) : GW I' (grule g r a b c m) n (r + 1) q u := by
  obtain ⟨⟨h1, h2, h3, h4, h5, h6⟩, k1, k2, k3⟩ := h
  refine ⟨⟨by rw [e0]; exact h1, h2, e1, hr, fun j hj => ?_, fun p hp => ?_⟩, by rw [e00]; exact k1, k2, fun p hp => by rw [e 12 (by omega)]; exact k3 p hp⟩
  · rw [e 14 (by omega), e 15 (by omega), grule_w g (by omega), grule_w g (by omega)]; exact h5 j hj
  · rw [e16, e17, e18]
    by_cases ep : p = r
    · subst ep
      rw [upd_s, upd_s, upd_s]
      rw [grule_2, grule_3, grule_4, grule_5]
      exact ⟨rfl, ha, rfl, hb, rfl, hc, e29⟩
    · rw [upd_n _ _ ep, upd_n _ _ ep, upd_n _ _ ep, grule_ne g ep, grule_ne g ep, grule_ne g ep, grule_ne g ep, e (p + 29) (by omega)]
      exact h6 p (by omega)
theorem GW.drop (h : GW I g n r q u) {r' : Nat} (hr : r' ≤ r) (e0 : I' 1 0 = I 1 0) (e1 : I' 1 1 = nI r') (e : ∀ k, k ≠ 1 → I' k = I k) : GW I' g n r' q u := by
  obtain ⟨⟨h1, h2, h3, h4, h5, h6⟩, k1, k2, k3⟩ := h
  refine ⟨⟨by rw [e0]; exact h1, h2, e1, by omega, fun j hj => ?_, fun p hp => ?_⟩, by rw [e 0 (by omega)]; exact k1, k2, fun p hp => by rw [e 12 (by omega)]; exact k3 p hp⟩
  · rw [e 14 (by omega), e 15 (by omega)]; exact h5 j hj
  · rw [e 16 (by omega), e 17 (by omega), e 18 (by omega), e (p + 29) (by omega)]; exact h6 p (by omega)
theorem GW.row (h : GW I g n r q u) {q' : Nat} {u' : Nat → Nat} (hq : q' ≤ 6) (e0 : I' 0 0 = nI q') (e : ∀ k, k ≠ 0 → k ≠ 12 → I' k = I k) (hu : ∀ p, p < q' → I' 12 p = nI (u' p) ∧ u' p < n) : GW I' g n r q' u' :=
  ⟨h.1.cong (fun k hk => e k (by omega) (by omega)), e0, hq, hu⟩
end Upd
