section RowsL
variable {EX : State → Code → Prop} {l : Launch} {cc : ByteArray} {nL : Nat} {Ts : List Cond} {own : String} {ret : Option FieldType} {R : Room} {γ : Gm} {P : PT} {AF : State → Nat → Prop} {QQ : List Frame → Array Value → State → State → Prop} {cells slots : Nat} {pc : Nat} {lv : List (Nat × Value)} {st : List Value} {I : IT} {L : LT}
theorem g_ldc2 {index : Nat} {v : Int64} (hc : (Cond.constantLong own index v) ∈ Ts) (hd : decode cc pc = .ok (.ldc2_w index, 3)) (kk : G EX l cc nL Ts own ret R γ P AF QQ cells slots (pc + 3) lv (.long v :: st) I L) : G EX l cc nL Ts own ret R γ P AF QQ cells slots pc lv st I L :=
  fun p e s m args below meth c K H locs ls hS hP hD hl => lv_ldc2 K.1.1 K.1.2.1 K.1.2.2.2.1 (K.1.2.2.2.2 _ hc) hd (kk p e s m args below meth c K H locs ls hS hP hD hl)
theorem g_pc {pc' : Nat} (h : pc = pc') (kk : G EX l cc nL Ts own ret R γ P AF QQ cells slots pc' lv st I L) : G EX l cc nL Ts own ret R γ P AF QQ cells slots pc lv st I L := by
  subst h; exact kk
theorem g_ci0 {stk av : List Value} {v : Int32} (hr : Rn EX l cc nL Ts own ret R γ P AF cells slots pc lv stk st I L (fun sz => va_Qi (uci (fun r I' L' => r = v ∧ I' = I ∧ L' = L)) (fun u t => WP γ (AA γ sz) u.1 u.2 P t.heap) (AA γ sz)) av)
    (kk : G EX l cc nL Ts own ret R γ P AF QQ cells slots (pc + 3) lv (.int v :: st) I L) : G EX l cc nL Ts own ret R γ P AF QQ cells slots pc lv stk I L :=
  g_ci hr (fun r I' L' h => by
    obtain ⟨h1, h2, h3⟩ := h
    rw [h1, h2, h3]
    exact kk)
end RowsL
/-- longs that are compared -/
theorem lcmp_le {a b : Nat} (ha : a < 2 ^ 63) (hb : b < 2 ^ 63) : lg_cmp (lN a) (lN b) ≤ 0 ↔ a ≤ b := by
  unfold lg_cmp
  by_cases h : a ≤ b
  · have h1 : ¬ lN a > lN b := fun q => absurd ((pk_lLT hb ha).mp q) (by omega)
    rw [if_neg h1]
    split
    · exact ⟨fun _ => h, fun _ => by decide⟩
    · exact ⟨fun _ => h, fun _ => by decide⟩
  · have h1 : lN a > lN b := (pk_lLT hb ha).mpr (by omega)
    rw [if_pos h1]
    exact ⟨fun q => absurd q (by decide), fun q => absurd q h⟩
theorem vl_us (f : Nat → Int64) (k : Nat) (x : Int64) : vp_updL f k x k = x := pk_uLs
theorem vl_un (f : Nat → Int64) {k j : Nat} (x : Int64) (h : j ≠ k) : vp_updL f k x j = f j := pk_uLn h
theorem va_uwL (L : LT) (k i : Nat) (f : Nat → Int64) (x : Int64) : va_up (va_up L k f) k (vp_updL (va_up L k f k) i x) = va_up L k (vp_updL f i x) := by rw [va_uu, va_us]
theorem MG.ctb {I : IT} {g : GR} {n r : Nat} (h : MG I g n r) {w : Nat → Nat} {i j : Nat} (hij : i < j) (hj : j - i ≤ 6) : tt (ct g r w i j) ≤ 1376256 :=
  Nat.le_trans (ct_bound h.r_le (fun q hq => h.fst_lt hq) (fun q hq => h.snd_lt hq) (j - i) i j rfl hij hj) (TB_le _)
theorem ct_lt31 {g : GR} {r : Nat} {x : Nat → Nat} {i j c v : Nat} (h : tt (ct g r x i j) ≤ 1376256) (hc : c < 8) (hv : v < 16) : ct g r x i j c v < 2 ^ 31 := Nat.lt_of_le_of_lt (Nat.le_trans (tt_part2 hc hv) h) (by decide)
theorem ct_sum_le {g : GR} {r : Nat} {x : Nat → Nat} {i j c : Nat} (h : tt (ct g r x i j) ≤ 1376256) (hc : c < 8) : sm (ct g r x i j c) 16 ≤ 1376256 := Nat.le_trans (tt_part hc) h
/-- how a number of readings is told; the readings of q words u as the category 0 -/
def tld (m : Nat) : Nat := if m ≤ 1000000 then m else 1000000
def rdg (g : GR) (r : Nat) (u : Nat → Nat) (q : Nat) : Nat := if q = 0 then 0 else tld (sm (ct g r u 0 q 0) 16)
/-- q words x are a sentence by the first r rules -/
def isS (g : GR) (r : Nat) (x : Nat → Nat) (q : Nat) : Bool := decide (0 < q ∧ ch g r (lxw g x) 0 q 0 ≠ 0)
theorem isS_cong {g : GR} {r q : Nat} {x y : Nat → Nat} (h : ∀ p, p < q → x p = y p) : isS g r x q = isS g r y q := by
  unfold isS
  by_cases hq : 0 < q
  · rw [ch_cong (lx' := lxw g y) q 0 q (by omega) hq (fun p _ hp c => by show wset g (x p) c = wset g (y p) c; rw [h p hp])]
  · rw [decide_eq_false (by omega), decide_eq_false (by omega)]
/-- what a call that only looks leaves as it was -/
def FQ (I I' : IT) : Prop := (∀ k, k ≠ 8 → k ≠ 27 → k ≠ 28 → I' k = I k) ∧ ∀ j, j < 3 → I' 8 j = I 8 j
theorem FQ.refl (I : IT) : FQ I I := ⟨fun _ _ _ _ => rfl, fun _ _ => rfl⟩
theorem FQ.trans {I I' I'' : IT} (h : FQ I I') (h' : FQ I' I'') : FQ I I'' := ⟨fun k a b c => by rw [h'.1 k a b c, h.1 k a b c], fun j hj => by rw [h'.2 j hj, h.2 j hj]⟩
theorem FQ.mr {I I' : IT} {g : GR} {n r q : Nat} {u : Nat → Nat} (h : FQ I I') (hM : MR I g n r q u) : MR I' g n r q u := hM.cong h.2 (fun k h1 h2 => h.1 k (by omega) (by omega) (by omega))
theorem FQ.mg {I I' : IT} {g : GR} {n r : Nat} (h : FQ I I') (hM : MG I g n r) : MG I' g n r := hM.cong (h.2 0 (by omega)) (h.2 1 (by omega)) (fun k h1 h2 => h.1 k (by omega) (by omega) (by omega))
theorem FQ.up27 (I : IT) (F : Nat → Int32) : FQ I (va_up I 27 F) := ⟨fun k _ h _ => va_up_ne _ _ h, fun j _ => by rw [va_up_ne _ _ (by decide)]⟩
theorem FQ.up28 (I : IT) (F : Nat → Int32) : FQ I (va_up I 28 F) := ⟨fun k _ _ h => va_up_ne _ _ h, fun j _ => by rw [va_up_ne _ _ (by decide)]⟩
theorem FQ.up8 (I : IT) {j : Nat} (x : Int32) (hj : 3 ≤ j) : FQ I (va_up I 8 (upd (I 8) j x)) := ⟨fun k h _ _ => va_up_ne _ _ h, fun i hi => by rw [va_us, upd_n _ _ (by omega)]⟩
def FL (L L' : LT) : Prop := ∀ k, k ≠ 9 → L' k = L k
theorem FL.refl (L : LT) : FL L L := fun _ _ => rfl
/-! searches, in the order in which both sides make them -/
def fst1 (p : Nat → Bool) : Nat → Nat → Int32
  | 0, _ => -1
  | m + 1, k => if p k then nI k else fst1 p m (k + 1)
def kfs (p : Nat → Bool) : Nat → Nat → Nat → Option Nat
  | 0, _, _ => none
  | m + 1, k, y => if p k then (if y = 0 then some k else kfs p m (k + 1) (y - 1)) else kfs p m (k + 1) y
def bc (p : Nat → Bool) : Nat → Nat
  | 0 => 0
  | k + 1 => bc p k + (if p k then 1 else 0)
theorem bc_le (p : Nat → Bool) : ∀ k, bc p k ≤ k
  | 0 => Nat.le_refl _
  | k + 1 => by
    have := bc_le p k
    show bc p k + (if p k then 1 else 0) ≤ k + 1
    split <;> omega
/-- the word at place p of the row number m of s words out of n -/
def dig (n s m p : Nat) : Nat := m / n ^ (s - 1 - p) % n
theorem dig_lt {n s m p : Nat} (h : 0 < n) : dig n s m p < n := Nat.mod_lt _ h
def tdig (x : Nat → Nat) : Nat → Nat
  | 0 => 9
  | p + 1 => 10 * tdig x p + x p
def ust (u : Nat → Nat) (p w : Nat) : Nat → Nat := fun j => if j = p then w else u j
theorem ust_s (u : Nat → Nat) (p w : Nat) : ust u p w p = w := if_pos rfl
theorem ust_n (u : Nat → Nat) {p j : Nat} (w : Nat) (h : j ≠ p) : ust u p w j = u j := if_neg h
theorem ust_id (u : Nat → Nat) (p : Nat) : ust u p (u p) = u := by
  funext j
  unfold ust
  split
  · rename_i h; rw [h]
  · rfl
theorem SPN_tn {x y : Int32} {q : Nat} (hq : q < 2 ^ 31) (h : ∃ a b, SPN x y q a b) : x = nI (tn x) ∧ y = nI (tn y) ∧ tn x < tn y ∧ tn y ≤ q := by
  obtain ⟨a, b, rfl, rfl, h1, h2⟩ := h
  rw [tn_nI (by omega), tn_nI (by omega)]
  exact ⟨rfl, rfl, h1, h2⟩
theorem DP_tn {x : Int32} (h : ∃ m, DP x m) : x = nI (tn x) ∧ tn x / 10 ≤ 3 ∧ tn x % 10 ≤ 3 := by
  obtain ⟨m, rfl, h1, h2⟩ := h
  rw [tn_nI (by omega)]
  exact ⟨rfl, h1, h2⟩
theorem LEN_tn {x : Int32} (h : ∃ m, LEN x m) : x = nI (tn x) ∧ 1 ≤ tn x ∧ tn x ≤ 4 := by
  obtain ⟨m, rfl, h1, h2⟩ := h
  rw [tn_nI (by omega)]
  exact ⟨rfl, h1, h2⟩
theorem pow_le4 {n s : Nat} (hn : n ≤ 9) (hs : s ≤ 4) : n ^ s ≤ 6561 := Nat.le_trans (Nat.pow_le_pow_left hn s) (Nat.le_trans (Nat.pow_le_pow_right (by decide) hs) (by decide))
