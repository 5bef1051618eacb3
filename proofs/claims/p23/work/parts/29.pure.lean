/-! searches, changes, corrections, shares: pure -/
theorem pow_pos_of {n s k : Nat} (h : k < n ^ s) (hs : 0 < s) : 0 < n := by
  rcases Nat.eq_zero_or_pos n with e | e
  · subst e; rw [Nat.zero_pow hs] at h; omega
  · exact e
theorem FQ.k28 {I I' : IT} (h : ∀ k, k ≠ 28 → I' k = I k) : FQ I I' := ⟨fun k _ _ h3 => h k h3, fun j _ => by rw [h 8 (by decide)]⟩
theorem fst1_s (p : Nat → Bool) (m k : Nat) : fst1 p (m + 1) k = if p k then nI k else fst1 p m (k + 1) := rfl
theorem kfs_s (p : Nat → Bool) (m k y : Nat) : kfs p (m + 1) k y = if p k then (if y = 0 then some k else kfs p m (k + 1) (y - 1)) else kfs p m (k + 1) y := rfl
theorem dm_d {p n w : Nat} (h : w < n) : (p * n + w) / n = p := by
  rw [Nat.mul_comm, Nat.mul_add_div (by omega), Nat.div_eq_of_lt h, Nat.add_zero]
theorem dm_m {p n w : Nat} (h : w < n) : (p * n + w) % n = w := by
  rw [Nat.mul_comm, Nat.mul_add_mod, Nat.mod_eq_of_lt h]
theorem ust_lt {u : Nat → Nat} {p w n q : Nat} (h : ∀ j, j < q → u j < n) (hw : w < n) : ∀ j, j < q → ust u p w j < n := fun j hj => by
  unfold ust
  split
  · exact hw
  · exact h j hj
/-- whether one changed word, two changed words do -/
def one_ok (g : GR) (r : Nat) (u : Nat → Nat) (q n : Nat) : Prop := ∃ p w, p < q ∧ w < n ∧ isS g r (ust u p w) q = true
def two_ok (g : GR) (r : Nat) (u : Nat → Nat) (q n : Nat) : Prop := ∃ p p2 w w2, p < p2 ∧ p2 < q ∧ w < n ∧ w2 < n ∧ isS g r (ust (ust u p w) p2 w2) q = true
noncomputable def chg (g : GR) (r : Nat) (u : Nat → Nat) (q n : Nat) : Int32 := if isS g r u q then nI 0 else if pB (one_ok g r u q n) then nI 1 else if pB (two_ok g r u q n) then nI 2 else -1
def cok (g : GR) (r : Nat) (u : Nat → Nat) (q n j : Nat) : Bool := !decide (j % n = u (j / n)) && isS g r (ust u (j / n) (j % n)) q
def cor (g : GR) (r : Nat) (u : Nat → Nat) (q n k : Nat) : Int32 := match kfs (cok g r u q n) (q * n) 0 k with
  | some j => nI (10 * (j / n) + j % n)
  | none => -1
def sok (g : GR) (r : Nat) (u : Nat → Nat) (q p w : Nat) : Bool := decide (g 0 w = g 0 (u p)) && !isS g r (ust u p w) q
def spo (g : GR) (r : Nat) (u : Nat → Nat) (q n p : Nat) : Int32 := if isS g r u q then fst1 (sok g r u q p) n 0 else -1

section RowsF
variable {EX : State → Code → Prop} {l : Launch} {cc : ByteArray} {nL : Nat} {Ts : List Cond} {own : String} {ret : Option FieldType} {R : Room} {γ : Gm} {P : PT} {AF : State → Nat → Prop} {QQ : List Frame → Array Value → State → State → Prop} {cells slots : Nat} {pc : Nat} {lv : List (Nat × Value)} {st : List Value} {I : IT} {L : LT}
theorem g_fc0 (hd : decode cc pc = .ok (.fconst 0, 1)) (kk : G EX l cc nL Ts own ret R γ P AF QQ cells slots (pc + 1) lv (.float FP.fconst0 :: st) I L) : G EX l cc nL Ts own ret R γ P AF QQ cells slots pc lv st I L :=
  fun p e s m args below meth c K H locs ls hS hP hD hl => lv_fconst0 K.1.1 K.1.2.1 hd (kk p e s m args below meth c K H locs ls hS hP hD hl)
theorem g_i2f {x : Int32} (hd : decode cc pc = .ok (.i2f, 1)) (kk : G EX l cc nL Ts own ret R γ P AF QQ cells slots (pc + 1) lv (.float (FP.i2f x) :: st) I L) : G EX l cc nL Ts own ret R γ P AF QQ cells slots pc lv (.int x :: st) I L :=
  fun p e s m args below meth c K H locs ls hS hP hD hl => lv_i2f K.1.1 K.1.2.1 hd (kk p e s m args below meth c K H locs ls hS hP hD hl)
theorem g_fdiv {x y : UInt32} (hd : decode cc pc = .ok (.fdiv, 1)) (hn : vf_n32 (FP.fdiv x y)) (kk : G EX l cc nL Ts own ret R γ P AF QQ cells slots (pc + 1) lv (.float (FP.fdiv x y) :: st) I L) : G EX l cc nL Ts own ret R γ P AF QQ cells slots pc lv (.float y :: .float x :: st) I L :=
  fun p e s m args below meth c K H locs ls hS hP hD hl => lv_fdiv K.1.1 K.1.2.1 hd hn (kk p e s m args below meth c K H locs ls hS hP hD hl)
end RowsF
theorem fd_ok {a b : Int32} (h : b ≠ 0) : vf_n32 (FP.fdiv (FP.i2f a) (FP.i2f b)) := Jvm.Free.Fl.fdiv_out (Jvm.Free.Fl.i2f_fin a).noNaN (Jvm.Free.Fl.i2f_fin b) (Jvm.Free.Fl.i2f_nz h)
def shr (g : GR) (r n m : Nat) : UInt32 := if n = 0 then FP.fconst0 else FP.fdiv (FP.i2f (nI (bc (fun j => isS g r (dig n m j) m) (n ^ m)))) (FP.i2f (nI (n ^ m)))
theorem shr_n (g : GR) {r n m : Nat} (hm : 1 ≤ m) (hp : n ^ m < 2 ^ 31) : vf_n32 (shr g r n m) := by
  unfold shr
  by_cases h : n = 0
  · rw [if_pos h]; show FP.fconst0 &&& 0x7fffffff ≤ 0x7f800000; decide +kernel
  · rw [if_neg h]
    exact fd_ok (fun e => by have := (nI_z hp).mp e; exact absurd this (Nat.ne_of_gt (Nat.pow_pos (Nat.pos_of_ne_zero h))))

