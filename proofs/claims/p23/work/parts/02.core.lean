/-! words that speak of nest mates, and the texts of the exceptions -/
def nwF : List (String × Nat × String × String × String × String) := [(RX4, 59, "SentenceGym$Grammar", "words", "I", RX4), (RX2, 37, "SentenceGym$Grammar", "words", "I", RX4), (RX4, 84, "SentenceGym$Grammar", "wordCategory", "[I", RX4), (RX2, 43, "SentenceGym$Grammar", "wordCategory", "[I", RX4), (RX2, 46, "SentenceGym$Grammar", "wordPair", "[I", RX4), (RX4, 93, "SentenceGym$Grammar", "rules", "I", RX4), (RX2, 62, "SentenceGym$Grammar", "made", "[I", RX4), (RX2, 53, "SentenceGym$Grammar", "first", "[I", RX4), (RX2, 56, "SentenceGym$Grammar", "second", "[I", RX4)]
def nwM : List (String × Nat × MethodName × String) := [(RX4, 11, yX1_init, RX4), (RX4, 29, yX2_init, RX4), (RX4, 36, yX0_init, RX4), (RX4, 43, yX3_init, RX4), (RX4, 167, yX0_fill, RX4), (RX0, 16, yX4_spanOf, RX4), (RX0, 34, yX1_countWord, RX4), (RX0, 40, yX1_addJoined, RX4), (RX4, 171, yX0_countSpan, RX4), (RX0, 20, yX4_countOf, RX4), (RX4, 114, yX3_countRow, RX4), (RX3, 30, yX1_countWord, RX4), (RX3, 36, yX1_addJoined, RX4), (RX3, 20, yX4_countOf, RX4), (RX4, 129, yX2_parse, RX4), (RX2, 15, yX4_spanOf, RX4), (RX2, 59, yX1_pairsMade, RX4), (RX1, 50, yX4_hasPair, RX4), (RX4, 139, yX2_holdsSentence, RX4), (RX4, 180, yX2_putAnyWord, RX4), (RX4, 184, yX2_putWord, RX4), (RX4, 188, yX2_joinUpTo, RX4), (RX4, 71, yX1_defineWord, RX4), (RX4, 98, yX1_defineRule, RX4), (RX1, 46, yX4_pairOf, RX4), (RX4, 133, yX2_pairsOf, RX4)]
def nwS : List (String × Nat × String) := [(RX4, 54, "no such category or value"), (RX4, 64, "there are 9 words"), (RX4, 81, "no such word"), (RX4, 91, "no such category or mode"), (RX4, 96, "there are 8 rules"), (RX4, 102, "there is no rule"), (RX4, 104, "the row has 6 words"), (RX4, 106, "no such place or word"), (RX4, 108, "no such place"), (RX4, 125, "no such words or category"), (RX4, 127, "no such values"), (RX4, 145, "no such length"), (RX4, 153, "no such length or number"), (RX4, 164, "no such correction")]
def nwE : List String := ["java/lang/IllegalArgumentException", "java/lang/IllegalStateException", "java/lang/IndexOutOfBoundsException"]
def nwX : List (String × String) := [("java/lang/IllegalArgumentException", "java/lang/IllegalStateException"), ("java/lang/IllegalArgumentException", "java/lang/IndexOutOfBoundsException"), ("java/lang/IllegalStateException", "java/lang/IllegalArgumentException"), ("java/lang/IllegalStateException", "java/lang/IndexOutOfBoundsException"), ("java/lang/IndexOutOfBoundsException", "java/lang/IllegalArgumentException"), ("java/lang/IndexOutOfBoundsException", "java/lang/IllegalStateException")]
def nwD : List MethodName := [Bundle.initS "java/lang/RuntimeException", Bundle.initS "java/lang/Exception", Bundle.initS "java/lang/Throwable"]
/-! the world: cell number i lies at the address ad i and holds E i -/
abbrev Gm : Type := va_G × ((Nat → ClassId) × (Nat → Nat))
abbrev IT : Type := Nat → Nat → Int32
abbrev LT : Type := Nat → Nat → Int64
abbrev PT : Type := Nat → UInt64
/-- the ids of the cells: 0 to 7, 12 to 19, 29 to 70; the place of an id, the id of a place -/
def inW (k : Nat) : Prop := k < 8 ∨ 12 ≤ k ∧ k < 20 ∨ 29 ≤ k ∧ k < 71
def px (k : Nat) : Nat := if k < 8 then k else if k < 20 then k - 4 else k - 13
def ix (j : Nat) : Nat := if j < 8 then j else if j < 16 then j + 4 else j + 13
theorem ix_px {k : Nat} (h : k < 8 ∨ 12 ≤ k ∧ k < 20 ∨ 29 ≤ k ∧ k < 71) : ix (px k) = k ∧ px k < 58 := by
  unfold ix px
  rcases h with h | h | h
  · rw [if_pos h, if_pos h]; exact ⟨rfl, by omega⟩
  · rw [if_neg (show ¬ k < 8 by omega), if_pos (show k < 20 by omega), if_neg (by omega), if_pos (by omega)]; exact ⟨by omega, by omega⟩
  · rw [if_neg (show ¬ k < 8 by omega), if_neg (show ¬ k < 20 by omega), if_neg (by omega), if_neg (by omega)]; exact ⟨by omega, by omega⟩
theorem ix_in {j : Nat} (h : j < 58) : ix j < 8 ∨ 12 ≤ ix j ∧ ix j < 20 ∨ 29 ≤ ix j ∧ ix j < 71 := by
  unfold ix
  by_cases h1 : j < 8
  · rw [if_pos h1]; omega
  · rw [if_neg h1]
    by_cases h2 : j < 16
    · rw [if_pos h2]; omega
    · rw [if_neg h2]; omega
theorem px_ix {j : Nat} (h : j < 58) : px (ix j) = j := by
  unfold ix px
  by_cases h1 : j < 8
  · rw [if_pos h1, if_pos h1]
  · rw [if_neg h1]
    by_cases h2 : j < 16
    · rw [if_pos h2, if_neg (by omega), if_pos (by omega)]; omega
    · rw [if_neg h2, if_neg (by omega), if_neg (by omega)]; omega
def wl (ad : Nat → Nat) (E : Nat → va_E) : va_W := (List.range 58).map (fun j => (ad (ix j), E (ix j)))
theorem wl_get {i : Nat} {ad : Nat → Nat} {E : Nat → va_E} (h : i < 8 ∨ 12 ≤ i ∧ i < 20 ∨ 29 ≤ i ∧ i < 71) : (wl ad E)[px i]? = some (ad i, E i) := by
  simp [wl, (ix_px h).2, (ix_px h).1]
theorem wl_at {j : Nat} {ad : Nat → Nat} {E : Nat → va_E} (h : j < 58) : (wl ad E)[j]? = some (ad (ix j), E (ix j)) := by
  simp [wl, h]
theorem wl_none {j : Nat} {ad : Nat → Nat} {E : Nat → va_E} (h : 58 ≤ j) : (wl ad E)[j]? = none := by
  simp [wl, h]
theorem wl_of {j : Nat} {ad : Nat → Nat} {E : Nat → va_E} {q : Nat × va_E} (h : (wl ad E)[j]? = some q) : (ix j < 8 ∨ 12 ≤ ix j ∧ ix j < 20 ∨ 29 ≤ ix j ∧ ix j < 71) ∧ q = (ad (ix j), E (ix j)) := by
  rcases Nat.lt_or_ge j 58 with hk | hk
  · rw [wl_at hk] at h
    exact ⟨ix_in hk, (Option.some.inj h).symm⟩
  · rw [wl_none hk] at h
    cases h
theorem wl_set {i : Nat} {ad : Nat → Nat} {E : Nat → va_E} {e : va_E} (hi : i < 8 ∨ 12 ≤ i ∧ i < 20 ∨ 29 ≤ i ∧ i < 71) : (wl ad E).set (px i) (ad i, e) = wl ad (va_up E i e) := by
  apply List.ext_getElem?
  intro j
  rcases Nat.lt_or_ge j 58 with hj | hj
  · rw [wl_at hj]
    by_cases hij : px i = j
    · subst hij
      rw [List.getElem?_set_self (by simp [wl, hj]), (ix_px hi).1, va_up_self]
    · rw [List.getElem?_set_ne hij, wl_at hj, va_up_ne _ _ (fun q => hij (by rw [← q, px_ix hj]))]
  · rw [wl_none hj, List.getElem?_eq_none (by simp [wl, hj])]
/-- how long the int array number k is -/
def ln (k : Nat) : Nat := if k < 14 then 6 else if k < 16 then 9 else if k < 19 then 8 else if k < 20 then 168 else if k < 22 then 9 else if k < 26 then 8 else if k < 28 then 6 else if k < 29 then 336 else if k < 37 then 256 else 128
/-- what cell k holds: objects (0 gym, 1 grammar, 2 part sets, 3 count chart, 4 plain counter, 8 model), rows of rows (5, 6, 7), long arrays (9, 10), the double array 11, int arrays from 12 on; an object's ints are row k of I -/
def ee (γ : Gm) (I : IT) (L : LT) (P : PT) : Nat → va_E
  | 0 => .inr (4, [.ref (γ.2.2 1), .ref (γ.2.2 12), .int (I 0 0), .ref (γ.2.2 13), .ref (γ.2.2 2), .ref (γ.2.2 3), .ref (γ.2.2 4)])
  | 1 => .inr (1, [.int (I 1 0), .ref (γ.2.2 14), .ref (γ.2.2 15), .int (I 1 1), .ref (γ.2.2 16), .ref (γ.2.2 17), .ref (γ.2.2 18), .ref (γ.2.2 5)])
  | 2 => .inr (2, [.ref (γ.2.2 19)])
  | 3 => .inr (0, [.ref (γ.2.2 6)])
  | 4 => .inr (3, [.ref (γ.2.2 7)])
  | 5 => .inl (γ.2.1 1, 8, .inr (.inr (.inr (.inr (fun j => if j < 8 then some (γ.2.2 (j + 29)) else none)))))
  | 6 => .inl (γ.2.1 1, 21, .inr (.inr (.inr (.inr (fun j => if j < 21 then some (γ.2.2 (j + 37)) else none)))))
  | 7 => .inl (γ.2.1 1, 13, .inr (.inr (.inr (.inr (fun j => if j < 13 then some (γ.2.2 (j + 58)) else none)))))
  | 8 => .inr (5, [.ref (γ.2.2 20), .ref (γ.2.2 21), .int (I 8 0), .ref (γ.2.2 22), .ref (γ.2.2 23), .ref (γ.2.2 24), .ref (γ.2.2 25), .int (I 8 1), .ref (γ.2.2 26), .int (I 8 2), .ref (γ.2.2 27), .int (I 8 3), .ref (γ.2.2 28), .ref (γ.2.2 9), .int (I 8 4)])
  | 9 => .inl (γ.2.1 2, 5376, .inr (.inl (L 9)))
  | 10 => .inl (γ.2.1 2, 1, .inr (.inl (L 10)))
  | 11 => .inl (γ.2.1 3, 1, .inr (.inr (.inr (.inl P))))
  | k + 12 => .inl (γ.2.1 0, ln (k + 12), .inl (I (k + 12)))
theorem ee_int {γ : Gm} {I : IT} {L : LT} {P : PT} {k : Nat} (h : 12 ≤ k) : ee γ I L P k = .inl (γ.2.1 0, ln k, .inl (I k)) := by
  obtain ⟨j, rfl⟩ : ∃ j, k = j + 12 := ⟨k - 12, by omega⟩
  rfl
theorem ee_cong {γ : Gm} {I I' : IT} {L L' : LT} {P : PT} {j : Nat} (h : I j = I' j) (h2 : L j = L' j) : ee γ I L P j = ee γ I' L' P j := by
  match j, h, h2 with
  | 0, h, h2 => simp only [ee, h]
  | 1, h, h2 => simp only [ee, h]
  | 2, h, h2 => rfl
  | 3, h, h2 => rfl
  | 4, h, h2 => rfl
  | 5, h, h2 => rfl
  | 6, h, h2 => rfl
  | 7, h, h2 => rfl
  | 8, h, h2 => simp only [ee, h]
  | 9, h, h2 => simp only [ee, h2]
  | 10, h, h2 => simp only [ee, h2]
  | 11, h, h2 => rfl
  | k + 12, h, h2 => simp only [ee, h]
theorem ee_upI {γ : Gm} {I : IT} {L : LT} {P : PT} {k : Nat} {f : Nat → Int32} {e : va_E} (h : e = ee γ (va_up I k f) L P k) : va_up (ee γ I L P) k e = ee γ (va_up I k f) L P := by
  funext j
  by_cases hj : j = k
  · subst hj
    rw [va_up_self, h]
  · rw [va_up_ne _ _ hj]
    exact ee_cong (va_up_ne _ _ hj).symm rfl
theorem ee_upL {γ : Gm} {I : IT} {L : LT} {P : PT} {k : Nat} {f : Nat → Int64} {e : va_E} (h : e = ee γ I (va_up L k f) P k) : va_up (ee γ I L P) k e = ee γ I (va_up L k f) P := by
  funext j
  by_cases hj : j = k
  · subst hj
    rw [va_up_self, h]
  · rw [va_up_ne _ _ hj]
    exact ee_cong rfl (va_up_ne _ _ hj).symm
abbrev wd (γ : Gm) (I : IT) (L : LT) (P : PT) : va_W := wl γ.2.2 (ee γ I L P)
def tyl (γ : Gm) : List (ClassId × FieldType) := [(γ.2.1 0, .int), (γ.2.1 1, .array .int)]
/-- what a state says that stays: classes, nest mates, texts, the two statics that a new exception reads -/
def Fx (γ : Gm) (A : Nat → Prop) (U : State) : Prop :=
  va_K γ.1 vwCl (tyl γ) U ∧ (∀ q ∈ nwF, va_Nw (.fieldLinkNest q.1 q.2.1 q.2.2.1 q.2.2.2.1 q.2.2.2.2.1 q.2.2.2.2.2) U) ∧ (∀ q ∈ nwM, va_Nw (.methodLinkNest q.1 q.2.1 q.2.2.1 q.2.2.2) U) ∧ (∀ q ∈ nwS, ∃ a, vk_R q.1 q.2.1 q.2.2 a U) ∧ vx_Zq Bundle.tN "UNASSIGNED_STACK" Bundle.steD A U U.heap ∧ vx_Zq Bundle.tN "SUPPRESSED_SENTINEL" Bundle.listD A U U.heap ∧ (∀ x ∈ nwD, va_Nw (.declares x) U) ∧ (∀ x ∈ nwE, va_Nw (.castable x x) U) ∧ ∀ q ∈ nwX, va_Nc q.1 q.2 U
theorem Fx.warm {γ : Gm} {A B : Nat → Prop} {s U : State} (h : Fx γ A s) (hW : s.WarmedH U.vm) (hB : ∀ q, B q → A q) (hH : ∀ a : Nat, a < s.heap.size → ¬ A a → U.heap[a]? = s.heap[a]?) : Fx γ B U := by
  obtain ⟨h1, h2, h3, h4, h5, h6, h7, h8, h9⟩ := h
  refine ⟨h1.moved hW.alike, fun q hq => va_Nw.warmF hW (h2 q hq), fun q hq => va_Nw.warmM hW (h3 q hq), fun q hq => ?_, ?_, ?_, fun x hx => va_Nw.warmD hW (h7 x hx), fun x hx => va_tabs rfl (rfl : (s.setVm U.vm).vm = U.vm) (by rw [Cond.castable_setVm hW.alike]; exact h8 x hx), fun q hq => (h9 q hq).moved hW.alike⟩
  · obtain ⟨a, ha⟩ := h4 q hq
    exact ⟨a, ha.warm hW⟩
  · exact ((h5.kept hH).moved hW.alike).narrow hB
  · exact ((h6.kept hH).moved hW.alike).narrow hB
theorem Fx.calling {γ : Gm} {A : Nat → Prop} {U : State} {g : JFrame} {mk : MethodId} {a : Array Value} (h : Fx γ A U) : Fx γ A (U.calling g mk a) := by
  obtain ⟨h1, h2, h3, h4, h5, h6, h7, h8, h9⟩ := h
  have e : U.vm.Alike (U.calling g mk a).vm := Vm.Alike.refl U.vm
  refine ⟨h1.moved e, fun q hq => va_Nw.same rfl rfl (h2 q hq), fun q hq => va_Nw.same rfl rfl (h3 q hq), fun q hq => ?_, h5.moved e, h6.moved e, fun x hx => va_Nw.same rfl rfl (h7 x hx), fun x hx => va_Nw.same rfl rfl (h8 x hx), fun q hq => (h9 q hq).moved e⟩
  obtain ⟨x, hx⟩ := h4 q hq
  exact ⟨x, hx.same rfl⟩
def WP (γ : Gm) (A : Nat → Prop) (I : IT) (L : LT) (P : PT) (H : Heap) : Prop := va_P γ.1 vwCl (wd γ I L P) H ∧ va_D A (wd γ I L P)
/-- which cells a method may change: the world's, and new ones -/
def AA (γ : Gm) (sz : Nat) : Nat → Prop := fun q => (∃ i, (i < 8 ∨ 12 ≤ i ∧ i < 20 ∨ 29 ≤ i ∧ i < 71) ∧ q = γ.2.2 i) ∨ sz ≤ q
theorem AA_in {γ : Gm} {A : Nat → Prop} {I : IT} {L : LT} {P : PT} {n n0 : Nat} (hD : va_D A (wd γ I L P)) (hA : ∀ q, n0 ≤ q → A q) (hn : n0 ≤ n) : ∀ q, AA γ n q → A q := by
  intro q h
  rcases h with ⟨i, hi, rfl⟩ | h
  · exact hD.2 (px i) _ (wl_get hi)
  · exact hA q (Nat.le_trans hn h)
abbrev ST : Type := IT × LT
def uci {α : Type} (post : α → IT → LT → Prop) : α → ST → Prop := fun r u => post r u.1 u.2
def ucv (post : IT → LT → Prop) : ST → Prop := fun u => post u.1 u.2
def rmd (d : Nat) : Room := { frames := d, cells := 0, slots := 0, locals := 40 * d }
def Pre (γ : Gm) (sz : Nat) (av : List Value) (I : IT) (L : LT) (P : PT) : Array Value → State → Prop := va_Pc av (fun U => U.heap.size = sz ∧ Fx γ (AA γ sz) U ∧ WP γ (fun _ => True) I L P U.heap)
theorem Pre.blind {γ : Gm} {sz : Nat} {av : List Value} {I : IT} {L : LT} {P : PT} : FrameBlind (Pre γ sz av I L P) := fun _ _ _ _ q => ⟨q.1, q.2.1, q.2.2.1.calling, q.2.2.2⟩
/-- contracts of methods that make nothing: an int or a boolean; nothing; a float -/
abbrev Ci (l : Launch) (y : MethodName) (ws : List Cond) (d : Nat) (γ : Gm) (av : List Value) (I : IT) (L : LT) (P : PT) (post : Int32 → IT → LT → Prop) : Prop := ∀ sz, Met l y ws (rmd d) (Pre γ sz av I L P) (va_Qi (uci post) (fun u t => WP γ (AA γ sz) u.1 u.2 P t.heap) (AA γ sz)) 0 0 (AA γ sz)
abbrev Cv (l : Launch) (y : MethodName) (ws : List Cond) (d : Nat) (γ : Gm) (av : List Value) (I : IT) (L : LT) (P : PT) (post : IT → LT → Prop) : Prop := ∀ sz, Met l y ws (rmd d) (Pre γ sz av I L P) (va_Qv (ucv post) (fun u t => WP γ (AA γ sz) u.1 u.2 P t.heap) (AA γ sz)) 0 0 (AA γ sz)
abbrev Cf (l : Launch) (y : MethodName) (ws : List Cond) (d : Nat) (γ : Gm) (av : List Value) (I : IT) (L : LT) (P : PT) (post : UInt32 → IT → LT → Prop) : Prop := ∀ sz, Met l y ws (rmd d) (Pre γ sz av I L P) (va_Qf (uci post) (fun u t => WP γ (AA γ sz) u.1 u.2 P t.heap) (AA γ sz)) 0 0 (AA γ sz)
/-- what a walk has at hand -/
def Cx (EX : State → Code → Prop) (cc : ByteArray) (nL : Nat) (Ts : List Cond) (own : String) (ret : Option FieldType) (γ : Gm) (AF : State → Nat → Prop) (p : Program) (s : State) (m : MethodId) (args : Array Value) (meth : Method) (c : Code) : Prop :=
  CallFix p m c cc nL s args Ts own ∧ Fx γ (AF s) s ∧ (∀ q, s.heap.size ≤ q → AF s q) ∧ meth.sig.returnType = ret ∧ meth.locks = false ∧ EX s c
/-- from every state of this picture the machine comes to QQ -/
def G (EX : State → Code → Prop) (l : Launch) (cc : ByteArray) (nL : Nat) (Ts : List Cond) (own : String) (ret : Option FieldType) (R : Room) (γ : Gm) (P : PT) (AF : State → Nat → Prop) (QQ : List Frame → Array Value → State → State → Prop) (cells slots : Nat) (pc : Nat) (lv : List (Nat × Value)) (st : List Value) (I : IT) (L : LT) : Prop :=
  ∀ (p : Program) (e : Env) (s : State) (m : MethodId) (args : Array Value) (below : List Frame) (meth : Method) (c : Code), Cx EX cc nL Ts own ret γ AF p s m args meth c →
    ∀ (H : Heap) (locs : List Loc) (ls : Array Slot), va_S (AF s) s.heap H locs → va_P γ.1 vwCl (wd γ I L P) H → va_D (AF s) (wd γ I L P) → lv_has ls nL lv →
      W p l e R s m args below meth c H locs cells slots (QQ below args s) (F0 m pc ls st)
abbrev Qi (γ : Gm) (P : PT) (post : Int32 → IT → LT → Prop) : List Frame → Array Value → State → State → Prop := fun below args s => MQ below (va_Qi (uci post) (fun u t => WP γ (AA γ s.heap.size) u.1 u.2 P t.heap) (AA γ s.heap.size)) args s 0 0 (AA γ s.heap.size)
abbrev Qv (γ : Gm) (P : PT) (post : IT → LT → Prop) : List Frame → Array Value → State → State → Prop := fun below args s => MQ below (va_Qv (ucv post) (fun u t => WP γ (AA γ s.heap.size) u.1 u.2 P t.heap) (AA γ s.heap.size)) args s 0 0 (AA γ s.heap.size)
abbrev AE (γ : Gm) : State → Nat → Prop := fun s => AA γ s.heap.size
abbrev E0 : State → Code → Prop := fun _ _ => True
/-- a method's body, by G -/
theorem Ci_of {l : Launch} {y : MethodName} {ws ws' : List Cond} {cc : ByteArray} {maxL d : Nat} {ret : Option FieldType} {γ : Gm} {av : List Value} {I : IT} {L : LT} {P : PT} {post : Int32 → IT → LT → Prop} {own : String} (hy : plainName y.cls = true) (ho : y.cls = own) (hw : ws = .code y cc maxL ret :: ws') (hn : (lg_sl av).length ≤ maxL)
    (body : G E0 l cc maxL ws own ret (rmd d) γ P (AE γ) (Qi γ P post) 0 0 0 (lv_args 0 av) [] I L) : Ci l y ws d γ av I L P post := by
  intro sz
  subst ho
  refine Met.ofW hy hw ?_
  intro p e s m args below meth c s₁ B hml hv
  obtain ⟨rfl, hsz, hF, hP, hD⟩ := hv
  subst hsz
  rw [lg_entry_eq]
  exact body p e s m _ below meth c ⟨⟨B.exec, B.bytes, hml, findClass_of_methodNamed B.named, atoms_spec B.pre⟩, hF, fun q h => Or.inr h, B.returns, B.notSynchronized, trivial⟩ s.heap [] _ va_S.rf hP (hD.weaken (fun k q hk _ => by obtain ⟨h1, rfl⟩ := wl_of hk; exact Or.inl ⟨_, h1, rfl⟩)) (lv_entry av hn)
theorem Cv_of {l : Launch} {y : MethodName} {ws ws' : List Cond} {cc : ByteArray} {maxL d : Nat} {γ : Gm} {av : List Value} {I : IT} {L : LT} {P : PT} {post : IT → LT → Prop} {own : String} (hy : plainName y.cls = true) (ho : y.cls = own) (hw : ws = .code y cc maxL none :: ws') (hn : (lg_sl av).length ≤ maxL)
    (body : G E0 l cc maxL ws own none (rmd d) γ P (AE γ) (Qv γ P post) 0 0 0 (lv_args 0 av) [] I L) : Cv l y ws d γ av I L P post := by
  intro sz
  subst ho
  refine Met.ofW hy hw ?_
  intro p e s m args below meth c s₁ B hml hv
  obtain ⟨rfl, hsz, hF, hP, hD⟩ := hv
  subst hsz
  rw [lg_entry_eq]
  exact body p e s m _ below meth c ⟨⟨B.exec, B.bytes, hml, findClass_of_methodNamed B.named, atoms_spec B.pre⟩, hF, fun q h => Or.inr h, B.returns, B.notSynchronized, trivial⟩ s.heap [] _ va_S.rf hP (hD.weaken (fun k q hk _ => by obtain ⟨h1, rfl⟩ := wl_of hk; exact Or.inl ⟨_, h1, rfl⟩)) (lv_entry av hn)
section Rows
variable {EX : State → Code → Prop} {l : Launch} {cc : ByteArray} {nL : Nat} {Ts : List Cond} {own : String} {ret : Option FieldType} {R : Room} {γ : Gm} {P : PT} {AF : State → Nat → Prop} {QQ : List Frame → Array Value → State → State → Prop} {cells slots : Nat} {pc : Nat} {lv : List (Nat × Value)} {st : List Value} {I : IT} {L : LT}
/-- other words for the same picture -/
theorem g_sub {lv' : List (Nat × Value)} (ks : List Nat) (h : lv_pick lv ks = lv') (kk : G EX l cc nL Ts own ret R γ P AF QQ cells slots pc lv' st I L) : G EX l cc nL Ts own ret R γ P AF QQ cells slots pc lv st I L :=
  fun p e s m args below meth c K H locs ls hS hP hD hl => kk p e s m args below meth c K H locs ls hS hP hD (lv_sub hl ks h)
theorem g_eq {I' : IT} {L' : LT} (hI : I = I') (hL : L = L') (kk : G EX l cc nL Ts own ret R γ P AF QQ cells slots pc lv st I' L') : G EX l cc nL Ts own ret R γ P AF QQ cells slots pc lv st I L := by
  subst hI; subst hL; exact kk
/-! constants -/
theorem g_ic {n : Int} {v : Int32} (hd : decode cc pc = .ok (.iconst n, 1)) (hv : Int32.ofInt n = v) (kk : G EX l cc nL Ts own ret R γ P AF QQ cells slots (pc + 1) lv (.int v :: st) I L) : G EX l cc nL Ts own ret R γ P AF QQ cells slots pc lv st I L :=
  fun p e s m args below meth c K H locs ls hS hP hD hl => lv_iconst K.1.1 K.1.2.1 hd hv (kk p e s m args below meth c K H locs ls hS hP hD hl)
theorem g_bi {n : Int} {v : Int32} (hd : decode cc pc = .ok (.bipush n, 2)) (hv : (Int8.ofInt n).toInt32 = v) (kk : G EX l cc nL Ts own ret R γ P AF QQ cells slots (pc + 2) lv (.int v :: st) I L) : G EX l cc nL Ts own ret R γ P AF QQ cells slots pc lv st I L :=
  fun p e s m args below meth c K H locs ls hS hP hD hl => lv_bipush K.1.1 K.1.2.1 hd hv (kk p e s m args below meth c K H locs ls hS hP hD hl)
theorem g_si {n : Int} {v : Int32} (hd : decode cc pc = .ok (.sipush n, 3)) (hv : (Int16.ofInt n).toInt32 = v) (kk : G EX l cc nL Ts own ret R γ P AF QQ cells slots (pc + 3) lv (.int v :: st) I L) : G EX l cc nL Ts own ret R γ P AF QQ cells slots pc lv st I L :=
  fun p e s m args below meth c K H locs ls hS hP hD hl => lv_sipush K.1.1 K.1.2.1 hd hv (kk p e s m args below meth c K H locs ls hS hP hD hl)
theorem g_ldc {index : Nat} {v : Int32} (hc : (Cond.constant own index v) ∈ Ts) (hd : decode cc pc = .ok (.ldc index, 2)) (kk : G EX l cc nL Ts own ret R γ P AF QQ cells slots (pc + 2) lv (.int v :: st) I L) : G EX l cc nL Ts own ret R γ P AF QQ cells slots pc lv st I L :=
  fun p e s m args below meth c K H locs ls hS hP hD hl => lv_ldc K.1.1 K.1.2.1 K.1.2.2.2.1 (K.1.2.2.2.2 _ hc) hd (kk p e s m args below meth c K H locs ls hS hP hD hl)
theorem g_lc {n : Fin 2} {v : Int64} (hd : decode cc pc = .ok (.lconst n, 1)) (hv : Int64.ofNat (n : Nat) = v) (kk : G EX l cc nL Ts own ret R γ P AF QQ cells slots (pc + 1) lv (.long v :: st) I L) : G EX l cc nL Ts own ret R γ P AF QQ cells slots pc lv st I L :=
  fun p e s m args below meth c K H locs ls hS hP hD hl => lv_lconst K.1.1 K.1.2.1 hd hv (kk p e s m args below meth c K H locs ls hS hP hD hl)
/-! locals -/
theorem g_il_n {k : Fin 4} {x : Int32} (j : Nat) (hd : decode cc pc = .ok (.iload_n k, 1)) (hj : lv[j]? = some ((k : Nat), .int x)) (kk : G EX l cc nL Ts own ret R γ P AF QQ cells slots (pc + 1) lv (.int x :: st) I L) : G EX l cc nL Ts own ret R γ P AF QQ cells slots pc lv st I L :=
  fun p e s m args below meth c K H locs ls hS hP hD hl => lv_iload_n K.1.1 K.1.2.1 hd rfl (lv_at hl j hj) (kk p e s m args below meth c K H locs ls hS hP hD hl)
theorem g_il {i : Nat} {x : Int32} (j : Nat) (hd : decode cc pc = .ok (.iload i, 2)) (hj : lv[j]? = some (i, .int x)) (kk : G EX l cc nL Ts own ret R γ P AF QQ cells slots (pc + 2) lv (.int x :: st) I L) : G EX l cc nL Ts own ret R γ P AF QQ cells slots pc lv st I L :=
  fun p e s m args below meth c K H locs ls hS hP hD hl => lv_iload K.1.1 K.1.2.1 hd (lv_at hl j hj) (kk p e s m args below meth c K H locs ls hS hP hD hl)
theorem g_al_n {k : Fin 4} {x : Nat} (j : Nat) (hd : decode cc pc = .ok (.aload_n k, 1)) (hj : lv[j]? = some ((k : Nat), .ref x)) (kk : G EX l cc nL Ts own ret R γ P AF QQ cells slots (pc + 1) lv (.ref x :: st) I L) : G EX l cc nL Ts own ret R γ P AF QQ cells slots pc lv st I L :=
  fun p e s m args below meth c K H locs ls hS hP hD hl => lv_aload_n K.1.1 K.1.2.1 hd rfl (lv_at hl j hj) (kk p e s m args below meth c K H locs ls hS hP hD hl)
theorem g_al {i : Nat} {x : Nat} (j : Nat) (hd : decode cc pc = .ok (.aload i, 2)) (hj : lv[j]? = some (i, .ref x)) (kk : G EX l cc nL Ts own ret R γ P AF QQ cells slots (pc + 2) lv (.ref x :: st) I L) : G EX l cc nL Ts own ret R γ P AF QQ cells slots pc lv st I L :=
  fun p e s m args below meth c K H locs ls hS hP hD hl => lv_aload K.1.1 K.1.2.1 hd (lv_at hl j hj) (kk p e s m args below meth c K H locs ls hS hP hD hl)
theorem g_ll_n {k : Fin 4} {x : Int64} (j : Nat) (hd : decode cc pc = .ok (.lload_n k, 1)) (hj : lv[j]? = some ((k : Nat), .long x)) (kk : G EX l cc nL Ts own ret R γ P AF QQ cells slots (pc + 1) lv (.long x :: st) I L) : G EX l cc nL Ts own ret R γ P AF QQ cells slots pc lv st I L :=
  fun p e s m args below meth c K H locs ls hS hP hD hl => lv_lload_n K.1.1 K.1.2.1 hd rfl (lv_at hl j hj) (kk p e s m args below meth c K H locs ls hS hP hD hl)
theorem g_ll {i : Nat} {x : Int64} (j : Nat) (hd : decode cc pc = .ok (.lload i, 2)) (hj : lv[j]? = some (i, .long x)) (kk : G EX l cc nL Ts own ret R γ P AF QQ cells slots (pc + 2) lv (.long x :: st) I L) : G EX l cc nL Ts own ret R γ P AF QQ cells slots pc lv st I L :=
  fun p e s m args below meth c K H locs ls hS hP hD hl => lv_lload K.1.1 K.1.2.1 hd (lv_at hl j hj) (kk p e s m args below meth c K H locs ls hS hP hD hl)
theorem g_fl {i : Nat} {x : UInt32} (j : Nat) (hd : decode cc pc = .ok (.fload i, 2)) (hj : lv[j]? = some (i, .float x)) (kk : G EX l cc nL Ts own ret R γ P AF QQ cells slots (pc + 2) lv (.float x :: st) I L) : G EX l cc nL Ts own ret R γ P AF QQ cells slots pc lv st I L :=
  fun p e s m args below meth c K H locs ls hS hP hD hl => lv_fload K.1.1 K.1.2.1 hd (lv_at hl j hj) (kk p e s m args below meth c K H locs ls hS hP hD hl)
theorem g_is_n {k : Fin 4} {x : Int32} {lv' : List (Nat × Value)} (hd : decode cc pc = .ok (.istore_n k, 1)) (hn : (k : Nat) < nL) (hl : ((k : Nat), Value.int x) :: lv.filter (fun q => !(q.1 == (k : Nat)) && !(q.1 + 1 == (k : Nat) && q.2.category == 2)) = lv') (kk : G EX l cc nL Ts own ret R γ P AF QQ cells slots (pc + 1) lv' st I L) : G EX l cc nL Ts own ret R γ P AF QQ cells slots pc lv (.int x :: st) I L :=
  fun p e s m args below meth c K H locs ls hS hP hD hl0 => lv_istore_n K.1.1 K.1.2.1 hd rfl hl0 hn hl (fun ls' hl' => kk p e s m args below meth c K H locs ls' hS hP hD hl')
theorem g_is {i : Nat} {x : Int32} {lv' : List (Nat × Value)} (hd : decode cc pc = .ok (.istore i, 2)) (hn : i < nL) (hl : (i, Value.int x) :: lv.filter (fun q => !(q.1 == i) && !(q.1 + 1 == i && q.2.category == 2)) = lv') (kk : G EX l cc nL Ts own ret R γ P AF QQ cells slots (pc + 2) lv' st I L) : G EX l cc nL Ts own ret R γ P AF QQ cells slots pc lv (.int x :: st) I L :=
  fun p e s m args below meth c K H locs ls hS hP hD hl0 => lv_istore K.1.1 K.1.2.1 hd hl0 hn hl (fun ls' hl' => kk p e s m args below meth c K H locs ls' hS hP hD hl')
theorem g_as_n {k : Fin 4} {x : Nat} {lv' : List (Nat × Value)} (hd : decode cc pc = .ok (.astore_n k, 1)) (hn : (k : Nat) < nL) (hl : ((k : Nat), Value.ref x) :: lv.filter (fun q => !(q.1 == (k : Nat)) && !(q.1 + 1 == (k : Nat) && q.2.category == 2)) = lv') (kk : G EX l cc nL Ts own ret R γ P AF QQ cells slots (pc + 1) lv' st I L) : G EX l cc nL Ts own ret R γ P AF QQ cells slots pc lv (.ref x :: st) I L :=
  fun p e s m args below meth c K H locs ls hS hP hD hl0 => lv_astore_n K.1.1 K.1.2.1 hd rfl hl0 hn hl (fun ls' hl' => kk p e s m args below meth c K H locs ls' hS hP hD hl')
theorem g_as {i : Nat} {x : Nat} {lv' : List (Nat × Value)} (hd : decode cc pc = .ok (.astore i, 2)) (hn : i < nL) (hl : (i, Value.ref x) :: lv.filter (fun q => !(q.1 == i) && !(q.1 + 1 == i && q.2.category == 2)) = lv') (kk : G EX l cc nL Ts own ret R γ P AF QQ cells slots (pc + 2) lv' st I L) : G EX l cc nL Ts own ret R γ P AF QQ cells slots pc lv (.ref x :: st) I L :=
  fun p e s m args below meth c K H locs ls hS hP hD hl0 => lv_astore K.1.1 K.1.2.1 hd hl0 hn hl (fun ls' hl' => kk p e s m args below meth c K H locs ls' hS hP hD hl')
theorem g_ls {i : Nat} {x : Int64} {lv' : List (Nat × Value)} (hd : decode cc pc = .ok (.lstore i, 2)) (hn : i + 1 < nL) (hl : (i, Value.long x) :: lv.filter (fun q => !(q.1 == i) && (!(q.1 == i + 1) && !(q.1 + 1 == i && q.2.category == 2))) = lv') (kk : G EX l cc nL Ts own ret R γ P AF QQ cells slots (pc + 2) lv' st I L) : G EX l cc nL Ts own ret R γ P AF QQ cells slots pc lv (.long x :: st) I L :=
  fun p e s m args below meth c K H locs ls hS hP hD hl0 => lv_lstore K.1.1 K.1.2.1 hd hl0 hn hl (fun ls' hl' => kk p e s m args below meth c K H locs ls' hS hP hD hl')
theorem g_fs {i : Nat} {x : UInt32} {lv' : List (Nat × Value)} (hd : decode cc pc = .ok (.fstore i, 2)) (hn : i < nL) (hl : (i, Value.float x) :: lv.filter (fun q => !(q.1 == i) && !(q.1 + 1 == i && q.2.category == 2)) = lv') (kk : G EX l cc nL Ts own ret R γ P AF QQ cells slots (pc + 2) lv' st I L) : G EX l cc nL Ts own ret R γ P AF QQ cells slots pc lv (.float x :: st) I L :=
  fun p e s m args below meth c K H locs ls hS hP hD hl0 => lv_fstore K.1.1 K.1.2.1 hd hl0 hn hl (fun ls' hl' => kk p e s m args below meth c K H locs ls' hS hP hD hl')
theorem g_inc {i : Nat} {n : Int} {x v : Int32} {lv' : List (Nat × Value)} (k : Nat) (hd : decode cc pc = .ok (.iinc i n, 3)) (hk : lv[k]? = some (i, .int x)) (hv : x + Int32.ofInt n = v) (hn : i < nL) (hl : (i, Value.int v) :: lv.filter (fun q => !(q.1 == i) && !(q.1 + 1 == i && q.2.category == 2)) = lv') (kk : G EX l cc nL Ts own ret R γ P AF QQ cells slots (pc + 3) lv' st I L) : G EX l cc nL Ts own ret R γ P AF QQ cells slots pc lv st I L :=
  fun p e s m args below meth c K H locs ls hS hP hD hl0 => lv_iinc K.1.1 K.1.2.1 hd hl0 hk hv hn hl (fun ls' hl' => kk p e s m args below meth c K H locs ls' hS hP hD hl')
theorem g_dup {v : Value} (hd : decode cc pc = .ok (.dup, 1)) (hv : v.category = 1) (kk : G EX l cc nL Ts own ret R γ P AF QQ cells slots (pc + 1) lv (v :: v :: st) I L) : G EX l cc nL Ts own ret R γ P AF QQ cells slots pc lv (v :: st) I L :=
  fun p e s m args below meth c K H locs ls hS hP hD hl => lv_dup K.1.1 K.1.2.1 hd hv (kk p e s m args below meth c K H locs ls hS hP hD hl)
theorem g_dup2 {v w : Value} (hd : decode cc pc = .ok (.dup2, 1)) (hv : v.category = 1) (hw : w.category = 1) (kk : G EX l cc nL Ts own ret R γ P AF QQ cells slots (pc + 1) lv (v :: w :: v :: w :: st) I L) : G EX l cc nL Ts own ret R γ P AF QQ cells slots pc lv (v :: w :: st) I L :=
  fun p e s m args below meth c K H locs ls hS hP hD hl => lv_dup2_11 K.1.1 K.1.2.1 hd hv hw (kk p e s m args below meth c K H locs ls hS hP hD hl)
/-! arithmetic -/
theorem g_iadd {x y v : Int32} (hd : decode cc pc = .ok (.iadd, 1)) (hv : x + y = v) (kk : G EX l cc nL Ts own ret R γ P AF QQ cells slots (pc + 1) lv (.int v :: st) I L) : G EX l cc nL Ts own ret R γ P AF QQ cells slots pc lv (.int y :: .int x :: st) I L := by
  subst hv; exact fun p e s m args below meth c K H locs ls hS hP hD hl => lv_iadd K.1.1 K.1.2.1 hd (kk p e s m args below meth c K H locs ls hS hP hD hl)
theorem g_isub {x y v : Int32} (hd : decode cc pc = .ok (.isub, 1)) (hv : x - y = v) (kk : G EX l cc nL Ts own ret R γ P AF QQ cells slots (pc + 1) lv (.int v :: st) I L) : G EX l cc nL Ts own ret R γ P AF QQ cells slots pc lv (.int y :: .int x :: st) I L := by
  subst hv; exact fun p e s m args below meth c K H locs ls hS hP hD hl => lv_isub K.1.1 K.1.2.1 hd (kk p e s m args below meth c K H locs ls hS hP hD hl)
theorem g_imul {x y v : Int32} (hd : decode cc pc = .ok (.imul, 1)) (hv : x * y = v) (kk : G EX l cc nL Ts own ret R γ P AF QQ cells slots (pc + 1) lv (.int v :: st) I L) : G EX l cc nL Ts own ret R γ P AF QQ cells slots pc lv (.int y :: .int x :: st) I L := by
  subst hv; exact fun p e s m args below meth c K H locs ls hS hP hD hl => lv_imul K.1.1 K.1.2.1 hd (kk p e s m args below meth c K H locs ls hS hP hD hl)
theorem g_idiv {x y v : Int32} (hd : decode cc pc = .ok (.idiv, 1)) (hne : ¬ y = 0) (hv : x / y = v) (kk : G EX l cc nL Ts own ret R γ P AF QQ cells slots (pc + 1) lv (.int v :: st) I L) : G EX l cc nL Ts own ret R γ P AF QQ cells slots pc lv (.int y :: .int x :: st) I L := by
  subst hv; exact fun p e s m args below meth c K H locs ls hS hP hD hl => lv_idiv K.1.1 K.1.2.1 hd hne (kk p e s m args below meth c K H locs ls hS hP hD hl)
theorem g_irem {x y v : Int32} (hd : decode cc pc = .ok (.irem, 1)) (hne : ¬ y = 0) (hv : x - x / y * y = v) (kk : G EX l cc nL Ts own ret R γ P AF QQ cells slots (pc + 1) lv (.int v :: st) I L) : G EX l cc nL Ts own ret R γ P AF QQ cells slots pc lv (.int y :: .int x :: st) I L := by
  subst hv; exact fun p e s m args below meth c K H locs ls hS hP hD hl => lv_irem K.1.1 K.1.2.1 hd hne (kk p e s m args below meth c K H locs ls hS hP hD hl)
theorem g_iand {x y v : Int32} (hd : decode cc pc = .ok (.iand, 1)) (hv : x &&& y = v) (kk : G EX l cc nL Ts own ret R γ P AF QQ cells slots (pc + 1) lv (.int v :: st) I L) : G EX l cc nL Ts own ret R γ P AF QQ cells slots pc lv (.int y :: .int x :: st) I L := by
  subst hv; exact fun p e s m args below meth c K H locs ls hS hP hD hl => lv_iand K.1.1 K.1.2.1 hd (kk p e s m args below meth c K H locs ls hS hP hD hl)
theorem g_ior {x y v : Int32} (hd : decode cc pc = .ok (.ior, 1)) (hv : x ||| y = v) (kk : G EX l cc nL Ts own ret R γ P AF QQ cells slots (pc + 1) lv (.int v :: st) I L) : G EX l cc nL Ts own ret R γ P AF QQ cells slots pc lv (.int y :: .int x :: st) I L := by
  subst hv; exact fun p e s m args below meth c K H locs ls hS hP hD hl => lv_ior K.1.1 K.1.2.1 hd (kk p e s m args below meth c K H locs ls hS hP hD hl)
theorem g_ishl {x y v : Int32} (hd : decode cc pc = .ok (.ishl, 1)) (hv : x <<< (y &&& 31) = v) (kk : G EX l cc nL Ts own ret R γ P AF QQ cells slots (pc + 1) lv (.int v :: st) I L) : G EX l cc nL Ts own ret R γ P AF QQ cells slots pc lv (.int y :: .int x :: st) I L := by
  subst hv; exact fun p e s m args below meth c K H locs ls hS hP hD hl => lv_ishl K.1.1 K.1.2.1 hd (kk p e s m args below meth c K H locs ls hS hP hD hl)
theorem g_ishr {x y v : Int32} (hd : decode cc pc = .ok (.ishr, 1)) (hv : x >>> (y &&& 31) = v) (kk : G EX l cc nL Ts own ret R γ P AF QQ cells slots (pc + 1) lv (.int v :: st) I L) : G EX l cc nL Ts own ret R γ P AF QQ cells slots pc lv (.int y :: .int x :: st) I L := by
  subst hv; exact fun p e s m args below meth c K H locs ls hS hP hD hl => lv_ishr K.1.1 K.1.2.1 hd (kk p e s m args below meth c K H locs ls hS hP hD hl)
theorem g_ladd {x y v : Int64} (hd : decode cc pc = .ok (.ladd, 1)) (hv : x + y = v) (kk : G EX l cc nL Ts own ret R γ P AF QQ cells slots (pc + 1) lv (.long v :: st) I L) : G EX l cc nL Ts own ret R γ P AF QQ cells slots pc lv (.long y :: .long x :: st) I L := by
  subst hv; exact fun p e s m args below meth c K H locs ls hS hP hD hl => lv_ladd K.1.1 K.1.2.1 hd (kk p e s m args below meth c K H locs ls hS hP hD hl)
theorem g_lmul {x y v : Int64} (hd : decode cc pc = .ok (.lmul, 1)) (hv : x * y = v) (kk : G EX l cc nL Ts own ret R γ P AF QQ cells slots (pc + 1) lv (.long v :: st) I L) : G EX l cc nL Ts own ret R γ P AF QQ cells slots pc lv (.long y :: .long x :: st) I L := by
  subst hv; exact fun p e s m args below meth c K H locs ls hS hP hD hl => lv_lmul K.1.1 K.1.2.1 hd (kk p e s m args below meth c K H locs ls hS hP hD hl)
theorem g_lcmp {x y : Int64} {v : Int32} (hd : decode cc pc = .ok (.lcmp, 1)) (hv : lg_cmp x y = v) (kk : G EX l cc nL Ts own ret R γ P AF QQ cells slots (pc + 1) lv (.int v :: st) I L) : G EX l cc nL Ts own ret R γ P AF QQ cells slots pc lv (.long y :: .long x :: st) I L := by
  subst hv; exact fun p e s m args below meth c K H locs ls hS hP hD hl => W.lcmp K.1.1 K.1.2.1 hd (kk p e s m args below meth c K H locs ls hS hP hD hl)
theorem g_i2l {x : Int32} {v : Int64} (hd : decode cc pc = .ok (.i2l, 1)) (hv : x.toInt64 = v) (kk : G EX l cc nL Ts own ret R γ P AF QQ cells slots (pc + 1) lv (.long v :: st) I L) : G EX l cc nL Ts own ret R γ P AF QQ cells slots pc lv (.int x :: st) I L :=
  fun p e s m args below meth c K H locs ls hS hP hD hl => lv_i2l K.1.1 K.1.2.1 hd hv (kk p e s m args below meth c K H locs ls hS hP hD hl)
theorem g_l2i {x : Int64} {v : Int32} (hd : decode cc pc = .ok (.l2i, 1)) (hv : x.toInt32 = v) (kk : G EX l cc nL Ts own ret R γ P AF QQ cells slots (pc + 1) lv (.int v :: st) I L) : G EX l cc nL Ts own ret R γ P AF QQ cells slots pc lv (.long x :: st) I L :=
  fun p e s m args below meth c K H locs ls hS hP hD hl => lv_l2i K.1.1 K.1.2.1 hd hv (kk p e s m args below meth c K H locs ls hS hP hD hl)
/-- the top by another name -/
theorem g_top {x v : Int32} (hv : x = v) (kk : G EX l cc nL Ts own ret R γ P AF QQ cells slots pc lv (.int v :: st) I L) : G EX l cc nL Ts own ret R γ P AF QQ cells slots pc lv (.int x :: st) I L := by
  subst hv; exact kk
theorem g_topl {x v : Int64} (hv : x = v) (kk : G EX l cc nL Ts own ret R γ P AF QQ cells slots pc lv (.long v :: st) I L) : G EX l cc nL Ts own ret R γ P AF QQ cells slots pc lv (.long x :: st) I L := by
  subst hv; exact kk
/-! branches -/
theorem g_goto {off : Int} {tgt : Nat} (hd : decode cc pc = .ok (.goto off, 3)) (ht : (pc : Int) + off = (tgt : Int)) (kk : G EX l cc nL Ts own ret R γ P AF QQ cells slots tgt lv st I L) : G EX l cc nL Ts own ret R γ P AF QQ cells slots pc lv st I L :=
  fun p e s m args below meth c K H locs ls hS hP hD hl => lv_goto K.1.1 K.1.2.1 hd ht (kk p e s m args below meth c K H locs ls hS hP hD hl)
theorem g_if_eq {x : Int32} {off : Int} {tgt : Nat} (hd : decode cc pc = .ok (.ifCond .eq off, 3)) (ht : (pc : Int) + off = (tgt : Int)) (kt : x = 0 → G EX l cc nL Ts own ret R γ P AF QQ cells slots tgt lv st I L) (kf : ¬ x = 0 → G EX l cc nL Ts own ret R γ P AF QQ cells slots (pc + 3) lv st I L) : G EX l cc nL Ts own ret R γ P AF QQ cells slots pc lv (.int x :: st) I L :=
  fun p e s m args below meth c K H locs ls hS hP hD hl => lv_if_eq K.1.1 K.1.2.1 hd ht (fun h => kt h p e s m args below meth c K H locs ls hS hP hD hl) (fun h => kf h p e s m args below meth c K H locs ls hS hP hD hl)
theorem g_if_ne {x : Int32} {off : Int} {tgt : Nat} (hd : decode cc pc = .ok (.ifCond .ne off, 3)) (ht : (pc : Int) + off = (tgt : Int)) (kt : ¬ x = 0 → G EX l cc nL Ts own ret R γ P AF QQ cells slots tgt lv st I L) (kf : x = 0 → G EX l cc nL Ts own ret R γ P AF QQ cells slots (pc + 3) lv st I L) : G EX l cc nL Ts own ret R γ P AF QQ cells slots pc lv (.int x :: st) I L :=
  fun p e s m args below meth c K H locs ls hS hP hD hl => lv_if_ne K.1.1 K.1.2.1 hd ht (fun h => kt h p e s m args below meth c K H locs ls hS hP hD hl) (fun h => kf h p e s m args below meth c K H locs ls hS hP hD hl)
theorem g_if_lt {x : Int32} {off : Int} {tgt : Nat} (hd : decode cc pc = .ok (.ifCond .lt off, 3)) (ht : (pc : Int) + off = (tgt : Int)) (kt : x < 0 → G EX l cc nL Ts own ret R γ P AF QQ cells slots tgt lv st I L) (kf : ¬ x < 0 → G EX l cc nL Ts own ret R γ P AF QQ cells slots (pc + 3) lv st I L) : G EX l cc nL Ts own ret R γ P AF QQ cells slots pc lv (.int x :: st) I L :=
  fun p e s m args below meth c K H locs ls hS hP hD hl => lv_if_lt K.1.1 K.1.2.1 hd ht (fun h => kt h p e s m args below meth c K H locs ls hS hP hD hl) (fun h => kf h p e s m args below meth c K H locs ls hS hP hD hl)
theorem g_if_ge {x : Int32} {off : Int} {tgt : Nat} (hd : decode cc pc = .ok (.ifCond .ge off, 3)) (ht : (pc : Int) + off = (tgt : Int)) (kt : 0 ≤ x → G EX l cc nL Ts own ret R γ P AF QQ cells slots tgt lv st I L) (kf : ¬ 0 ≤ x → G EX l cc nL Ts own ret R γ P AF QQ cells slots (pc + 3) lv st I L) : G EX l cc nL Ts own ret R γ P AF QQ cells slots pc lv (.int x :: st) I L :=
  fun p e s m args below meth c K H locs ls hS hP hD hl => lv_if_ge K.1.1 K.1.2.1 hd ht (fun h => kt h p e s m args below meth c K H locs ls hS hP hD hl) (fun h => kf h p e s m args below meth c K H locs ls hS hP hD hl)
theorem g_if_le {x : Int32} {off : Int} {tgt : Nat} (hd : decode cc pc = .ok (.ifCond .le off, 3)) (ht : (pc : Int) + off = (tgt : Int)) (kt : x ≤ 0 → G EX l cc nL Ts own ret R γ P AF QQ cells slots tgt lv st I L) (kf : ¬ x ≤ 0 → G EX l cc nL Ts own ret R γ P AF QQ cells slots (pc + 3) lv st I L) : G EX l cc nL Ts own ret R γ P AF QQ cells slots pc lv (.int x :: st) I L :=
  fun p e s m args below meth c K H locs ls hS hP hD hl => lv_if_le K.1.1 K.1.2.1 hd ht (fun h => kt h p e s m args below meth c K H locs ls hS hP hD hl) (fun h => kf h p e s m args below meth c K H locs ls hS hP hD hl)
theorem g_if_gt {x : Int32} {off : Int} {tgt : Nat} (hd : decode cc pc = .ok (.ifCond .gt off, 3)) (ht : (pc : Int) + off = (tgt : Int)) (kt : 0 < x → G EX l cc nL Ts own ret R γ P AF QQ cells slots tgt lv st I L) (kf : ¬ 0 < x → G EX l cc nL Ts own ret R γ P AF QQ cells slots (pc + 3) lv st I L) : G EX l cc nL Ts own ret R γ P AF QQ cells slots pc lv (.int x :: st) I L :=
  fun p e s m args below meth c K H locs ls hS hP hD hl => lv_if_gt K.1.1 K.1.2.1 hd ht (fun h => kt h p e s m args below meth c K H locs ls hS hP hD hl) (fun h => kf h p e s m args below meth c K H locs ls hS hP hD hl)
theorem g_ic_eq {x y : Int32} {off : Int} {tgt : Nat} (hd : decode cc pc = .ok (.if_icmp .eq off, 3)) (ht : (pc : Int) + off = (tgt : Int)) (kt : x = y → G EX l cc nL Ts own ret R γ P AF QQ cells slots tgt lv st I L) (kf : ¬ x = y → G EX l cc nL Ts own ret R γ P AF QQ cells slots (pc + 3) lv st I L) : G EX l cc nL Ts own ret R γ P AF QQ cells slots pc lv (.int y :: .int x :: st) I L :=
  fun p e s m args below meth c K H locs ls hS hP hD hl => lv_icmp_eq K.1.1 K.1.2.1 hd ht (fun h => kt h p e s m args below meth c K H locs ls hS hP hD hl) (fun h => kf h p e s m args below meth c K H locs ls hS hP hD hl)
theorem g_ic_ne {x y : Int32} {off : Int} {tgt : Nat} (hd : decode cc pc = .ok (.if_icmp .ne off, 3)) (ht : (pc : Int) + off = (tgt : Int)) (kt : ¬ x = y → G EX l cc nL Ts own ret R γ P AF QQ cells slots tgt lv st I L) (kf : x = y → G EX l cc nL Ts own ret R γ P AF QQ cells slots (pc + 3) lv st I L) : G EX l cc nL Ts own ret R γ P AF QQ cells slots pc lv (.int y :: .int x :: st) I L :=
  fun p e s m args below meth c K H locs ls hS hP hD hl => lv_icmp_ne K.1.1 K.1.2.1 hd ht (fun h => kt h p e s m args below meth c K H locs ls hS hP hD hl) (fun h => kf h p e s m args below meth c K H locs ls hS hP hD hl)
theorem g_ic_lt {x y : Int32} {off : Int} {tgt : Nat} (hd : decode cc pc = .ok (.if_icmp .lt off, 3)) (ht : (pc : Int) + off = (tgt : Int)) (kt : x < y → G EX l cc nL Ts own ret R γ P AF QQ cells slots tgt lv st I L) (kf : ¬ x < y → G EX l cc nL Ts own ret R γ P AF QQ cells slots (pc + 3) lv st I L) : G EX l cc nL Ts own ret R γ P AF QQ cells slots pc lv (.int y :: .int x :: st) I L :=
  fun p e s m args below meth c K H locs ls hS hP hD hl => lv_icmp_lt K.1.1 K.1.2.1 hd ht (fun h => kt h p e s m args below meth c K H locs ls hS hP hD hl) (fun h => kf h p e s m args below meth c K H locs ls hS hP hD hl)
theorem g_ic_ge {x y : Int32} {off : Int} {tgt : Nat} (hd : decode cc pc = .ok (.if_icmp .ge off, 3)) (ht : (pc : Int) + off = (tgt : Int)) (kt : y ≤ x → G EX l cc nL Ts own ret R γ P AF QQ cells slots tgt lv st I L) (kf : ¬ y ≤ x → G EX l cc nL Ts own ret R γ P AF QQ cells slots (pc + 3) lv st I L) : G EX l cc nL Ts own ret R γ P AF QQ cells slots pc lv (.int y :: .int x :: st) I L :=
  fun p e s m args below meth c K H locs ls hS hP hD hl => lv_icmp_ge K.1.1 K.1.2.1 hd ht (fun h => kt h p e s m args below meth c K H locs ls hS hP hD hl) (fun h => kf h p e s m args below meth c K H locs ls hS hP hD hl)
theorem g_ic_gt {x y : Int32} {off : Int} {tgt : Nat} (hd : decode cc pc = .ok (.if_icmp .gt off, 3)) (ht : (pc : Int) + off = (tgt : Int)) (kt : y < x → G EX l cc nL Ts own ret R γ P AF QQ cells slots tgt lv st I L) (kf : ¬ y < x → G EX l cc nL Ts own ret R γ P AF QQ cells slots (pc + 3) lv st I L) : G EX l cc nL Ts own ret R γ P AF QQ cells slots pc lv (.int y :: .int x :: st) I L :=
  fun p e s m args below meth c K H locs ls hS hP hD hl => lv_icmp_gt K.1.1 K.1.2.1 hd ht (fun h => kt h p e s m args below meth c K H locs ls hS hP hD hl) (fun h => kf h p e s m args below meth c K H locs ls hS hP hD hl)
theorem g_ic_le {x y : Int32} {off : Int} {tgt : Nat} (hd : decode cc pc = .ok (.if_icmp .le off, 3)) (ht : (pc : Int) + off = (tgt : Int)) (kt : x ≤ y → G EX l cc nL Ts own ret R γ P AF QQ cells slots tgt lv st I L) (kf : ¬ x ≤ y → G EX l cc nL Ts own ret R γ P AF QQ cells slots (pc + 3) lv st I L) : G EX l cc nL Ts own ret R γ P AF QQ cells slots pc lv (.int y :: .int x :: st) I L :=
  fun p e s m args below meth c K H locs ls hS hP hD hl => lv_icmp_le K.1.1 K.1.2.1 hd ht (fun h => kt h p e s m args below meth c K H locs ls hS hP hD hl) (fun h => kf h p e s m args below meth c K H locs ls hS hP hD hl)
end Rows
section Rows2
variable {EX : State → Code → Prop} {l : Launch} {cc : ByteArray} {nL : Nat} {Ts : List Cond} {own : String} {ret : Option FieldType} {R : Room} {γ : Gm} {P : PT} {AF : State → Nat → Prop} {QQ : List Frame → Array Value → State → State → Prop} {cells slots : Nat} {pc : Nat} {lv : List (Nat × Value)} {st : List Value} {I : IT} {L : LT}
/-! fields -/
theorem g_get {C ref : String} {T : u_T} {N ci index : Nat} {fs : List Value} {v : Value} (k j : Nat) (hk : k < 8 ∨ 12 ≤ k ∧ k < 20 ∨ 29 ≤ k ∧ k < 71) (he : ee γ I L P k = .inr (ci, fs)) (hin : ∀ w ∈ u_ws C T N, w ∈ Ts) (hc : vwCl[ci]? = some (C, T, N)) (hj : j < N) (hlink : (Cond.fieldLink own index ref (T j).2.1 (T j).2.2.1) ∈ Ts) (hsame : ref = (T j).1) (hv : fs[j]? = some v) (hd : decode cc pc = .ok (.getfield index, 3))
    (kk : G EX l cc nL Ts own ret R γ P AF QQ cells slots (pc + 3) lv (v :: st) I L) : G EX l cc nL Ts own ret R γ P AF QQ cells slots pc lv (.ref (γ.2.2 k) :: st) I L :=
  fun p e s m args below meth c K H locs ls hS hP hD hl => va_get (ws := wd γ I L P) (tys := tyl γ) K.1.1 K.1.2.1 K.1.2.2.2.2 hin K.1.2.2.2.1 K.2.1.1 hP (px k) (by rw [wl_get hk, he]) hc j hj (K.1.2.2.2.2 _ hlink) (fun x h => by rw [hsame]; exact h) hv hd (kk p e s m args below meth c K H locs ls hS hP hD hl)
theorem g_getN {C ref host : String} {T : u_T} {N ci index : Nat} {fs : List Value} {v : Value} (k j : Nat) (hk : k < 8 ∨ 12 ≤ k ∧ k < 20 ∨ 29 ≤ k ∧ k < 71) (he : ee γ I L P k = .inr (ci, fs)) (hin : ∀ w ∈ u_ws C T N, w ∈ Ts) (hc : vwCl[ci]? = some (C, T, N)) (hj : j < N) (hlink : (own, index, ref, (T j).2.1, (T j).2.2.1, host) ∈ nwF) (hsame : ref = (T j).1) (hv : fs[j]? = some v) (hd : decode cc pc = .ok (.getfield index, 3))
    (kk : G EX l cc nL Ts own ret R γ P AF QQ cells slots (pc + 3) lv (v :: st) I L) : G EX l cc nL Ts own ret R γ P AF QQ cells slots pc lv (.ref (γ.2.2 k) :: st) I L :=
  fun p e s m args below meth c K H locs ls hS hP hD hl => va_getN (ws := wd γ I L P) (tys := tyl γ) (host := host) K.1.1 K.1.2.1 K.1.2.2.2.2 hin K.1.2.2.2.1 K.2.1.1 hP (px k) (by rw [wl_get hk, he]) hc j hj (va_Nw.use rfl (K.2.1.2.1 _ hlink)) (fun x h => by rw [hsame]; exact h) hv hd (kk p e s m args below meth c K H locs ls hS hP hD hl)
theorem g_put {C ref : String} {T : u_T} {N ci index : Nat} {fs : List Value} {v : Value} {ty : FieldType} (ty0 : Nat → FieldType) (k j : Nat) (f : Nat → Int32) (hk : k < 8 ∨ 12 ≤ k ∧ k < 20 ∨ 29 ≤ k ∧ k < 71) (he : ee γ I L P k = .inr (ci, fs)) (hin : ∀ w ∈ u_ws C T N, w ∈ Ts) (hty : ∀ k, k < N → parseFieldDescriptor (T k).2.2.1 = some (ty0 k)) (hnm : ∀ a, a < N → ∀ b, b < N → a ≠ b → (T a).2.1 ≠ (T b).2.1) (hc : vwCl[ci]? = some (C, T, N)) (hj : j < N) (hlink : (Cond.fieldLink own index ref (T j).2.1 (T j).2.2.1) ∈ Ts) (hsame : ref = (T j).1) (hfin : (T j).2.2.2 = false) (hds : parseFieldDescriptor (T j).2.2.1 = some ty) (hn : narrow ty v = v) (hfit : fits ty v = true) (hl9 : j < fs.length) (hd : decode cc pc = .ok (.putfield index, 3))
    (hE : .inr (ci, fs.set j v) = ee γ (va_up I k f) L P k)
    (kk : G EX l cc nL Ts own ret R γ P AF QQ cells slots (pc + 3) lv st (va_up I k f) L) : G EX l cc nL Ts own ret R γ P AF QQ cells slots pc lv (v :: .ref (γ.2.2 k) :: st) I L :=
  fun p e s m args below meth c K H locs ls hS hP hD hl => va_put (ws := wd γ I L P) (tys := tyl γ) (H0 := s.heap) (A := AF s) K.1.1 K.1.2.1 K.1.2.2.2.2 hin ty0 hty hnm K.1.2.2.2.1 K.2.1.1 hP hD hS (px k) (by rw [wl_get hk, he]) hc j hj (K.1.2.2.2.2 _ hlink) (fun x h => by rw [hsame]; exact h) hfin hds hn hfit hl9 hd (fun H1 locs1 hP hD hS => by
    rw [wl_set hk, ee_upI hE] at hP hD
    exact kk p e s m args below meth c K H1 locs1 ls hS hP hD hl)
theorem g_putN {C ref host : String} {T : u_T} {N ci index : Nat} {fs : List Value} {v : Value} {ty : FieldType} (ty0 : Nat → FieldType) (k j : Nat) (f : Nat → Int32) (hk : k < 8 ∨ 12 ≤ k ∧ k < 20 ∨ 29 ≤ k ∧ k < 71) (he : ee γ I L P k = .inr (ci, fs)) (hin : ∀ w ∈ u_ws C T N, w ∈ Ts) (hty : ∀ k, k < N → parseFieldDescriptor (T k).2.2.1 = some (ty0 k)) (hnm : ∀ a, a < N → ∀ b, b < N → a ≠ b → (T a).2.1 ≠ (T b).2.1) (hc : vwCl[ci]? = some (C, T, N)) (hj : j < N) (hlink : (own, index, ref, (T j).2.1, (T j).2.2.1, host) ∈ nwF) (hsame : ref = (T j).1) (hfin : (T j).2.2.2 = false) (hds : parseFieldDescriptor (T j).2.2.1 = some ty) (hn : narrow ty v = v) (hfit : fits ty v = true) (hl9 : j < fs.length) (hd : decode cc pc = .ok (.putfield index, 3))
    (hE : .inr (ci, fs.set j v) = ee γ (va_up I k f) L P k)
    (kk : G EX l cc nL Ts own ret R γ P AF QQ cells slots (pc + 3) lv st (va_up I k f) L) : G EX l cc nL Ts own ret R γ P AF QQ cells slots pc lv (v :: .ref (γ.2.2 k) :: st) I L :=
  fun p e s m args below meth c K H locs ls hS hP hD hl => va_putN (ws := wd γ I L P) (tys := tyl γ) (H0 := s.heap) (A := AF s) (host := host) K.1.1 K.1.2.1 K.1.2.2.2.2 hin ty0 hty hnm K.1.2.2.2.1 K.2.1.1 hP hD hS (px k) (by rw [wl_get hk, he]) hc j hj (va_Nw.use rfl (K.2.1.2.1 _ hlink)) (fun x h => by rw [hsame]; exact h) hfin hds hn hfit hl9 hd (fun H1 locs1 hP hD hS => by
    rw [wl_set hk, ee_upI hE] at hP hD
    exact kk p e s m args below meth c K H1 locs1 ls hS hP hD hl)
/-! arrays -/
theorem ln_lt (k : Nat) : ln k < 2 ^ 31 := by
  unfold ln
  repeat' split
  all_goals decide
theorem g_iald {v : Int32} (k i : Nat) (h12 : 12 ≤ k) (hk : k < 8 ∨ 12 ≤ k ∧ k < 20 ∨ 29 ≤ k ∧ k < 71) (hi : i < ln k) (hv : I k i = v) (hd : decode cc pc = .ok (.iaload, 1))
    (kk : G EX l cc nL Ts own ret R γ P AF QQ cells slots (pc + 1) lv (.int v :: st) I L) : G EX l cc nL Ts own ret R γ P AF QQ cells slots pc lv (.int (nI i) :: .ref (γ.2.2 k) :: st) I L := by
  intro p e s m args below meth c K H locs ls hS hP hD hl
  refine va_iald (ws := wd γ I L P) (tys := tyl γ) K.1.1 K.1.2.1 K.2.1.1 hP (px k) 0 (by rw [wl_get hk, ee_int h12]) rfl (vp_in_nI hi (ln_lt k)) hd ?_
  rw [nI_clamp (Nat.lt_trans hi (ln_lt k)), hv]
  exact kk p e s m args below meth c K H locs ls hS hP hD hl
theorem g_iast {x : Int32} (k i : Nat) (h12 : 12 ≤ k) (hk : k < 8 ∨ 12 ≤ k ∧ k < 20 ∨ 29 ≤ k ∧ k < 71) (hi : i < ln k) (hd : decode cc pc = .ok (.iastore, 1))
    (kk : G EX l cc nL Ts own ret R γ P AF QQ cells slots (pc + 1) lv st (va_up I k (upd (I k) i x)) L) : G EX l cc nL Ts own ret R γ P AF QQ cells slots pc lv (.int x :: .int (nI i) :: .ref (γ.2.2 k) :: st) I L := by
  intro p e s m args below meth c K H locs ls hS hP hD hl
  refine va_iast (ws := wd γ I L P) (tys := tyl γ) K.1.1 K.1.2.1 K.2.1.1 hP hD hS (px k) 0 (by rw [wl_get hk, ee_int h12]) rfl (vp_in_nI hi (ln_lt k)) hd (fun H1 locs1 hP hD hS => ?_)
  rw [nI_clamp (Nat.lt_trans hi (ln_lt k)), wl_set hk, ee_upI (by rw [ee_int h12, va_up_self])] at hP hD
  exact kk p e s m args below meth c K H1 locs1 ls hS hP hD hl
theorem g_aald {n q : Nat} {f : Nat → Option Nat} (k i : Nat) (hk : k < 8 ∨ 12 ≤ k ∧ k < 20 ∨ 29 ≤ k ∧ k < 71) (he : ee γ I L P k = .inl (γ.2.1 1, n, .inr (.inr (.inr (.inr f))))) (hn : n < 2 ^ 31) (hi : i < n) (hf : f i = some q) (hd : decode cc pc = .ok (.aaload, 1))
    (kk : G EX l cc nL Ts own ret R γ P AF QQ cells slots (pc + 1) lv (.ref q :: st) I L) : G EX l cc nL Ts own ret R γ P AF QQ cells slots pc lv (.int (nI i) :: .ref (γ.2.2 k) :: st) I L := by
  intro p e s m args below meth c K H locs ls hS hP hD hl
  have hin : vp_in (nI i) n := vp_in_nI hi hn
  have hlt : (nI i).toNatClampNeg < n := Nat.not_le.mp fun q => hin (Or.inr q)
  have hc := hP (px k) _ (show (wd γ I L P)[px k]? = some (γ.2.2 k, .inl (γ.2.1 1, n, .inr (.inr (.inr (.inr f))))) by rw [wl_get hk, he])
  refine W.aald (v := .ref q) (ty := .array .int) K.1.1 K.1.2.1 hc ((K.2.1.1.2 1 _ rfl).1 n (fun j => va_rf (f j))) rfl (fun q => by cases q) (by show ¬ (nI i < 0 ∨ (arrV _ _ _).slots.size ≤ _); rw [arrV_size]; exact hin) (by show (arrV _ _ _).slots[_]? = _; rw [arrV_read _ _ hlt, nI_clamp (Nat.lt_trans hi hn), hf]; rfl) rfl rfl hd ?_
  exact kk p e s m args below meth c K H locs ls hS hP hD hl
theorem g_alen {k : Nat} (h12 : 12 ≤ k) (hk : k < 8 ∨ 12 ≤ k ∧ k < 20 ∨ 29 ≤ k ∧ k < 71) (hd : decode cc pc = .ok (.arraylength, 1))
    (kk : G EX l cc nL Ts own ret R γ P AF QQ cells slots (pc + 1) lv (.int (nI (ln k)) :: st) I L) : G EX l cc nL Ts own ret R γ P AF QQ cells slots pc lv (.ref (γ.2.2 k) :: st) I L := by
  intro p e s m args below meth c K H locs ls hS hP hD hl
  exact va_alen (ws := wd γ I L P) (tys := tyl γ) (ty := .int) (x := (ln k, .inl (I k))) (v := nI (ln k)) K.1.1 K.1.2.1 K.2.1.1 hP (px k) 0 (by rw [wl_get hk, ee_int h12]) rfl rfl hd (kk p e s m args below meth c K H locs ls hS hP hD hl)
/-! calls -/
def Rn (EX : State → Code → Prop) (l : Launch) (cc : ByteArray) (nL : Nat) (Ts : List Cond) (own : String) (ret : Option FieldType) (R : Room) (γ : Gm) (P : PT) (AF : State → Nat → Prop) (cells slots : Nat) (pc : Nat) (lv : List (Nat × Value)) (stk st : List Value) (I : IT) (L : LT) (Qc : Nat → Array Value → State → Outcome → State → Prop) (av : List Value) : Prop :=
  ∀ (p : Program) (e : Env) (s : State) (m : MethodId) (args : Array Value) (below : List Frame) (meth : Method) (c : Code), Cx EX cc nL Ts own ret γ AF p s m args meth c →
    ∀ (H : Heap) (locs : List Loc) (ls : Array Slot), va_S (AF s) s.heap H locs → va_P γ.1 vwCl (wd γ I L P) H → va_D (AF s) (wd γ I L P) → lv_has ls nL lv →
      va_Run p l e R s m args below meth c H locs cells slots 0 0 (F0 m pc ls stk) st (Qc H.size av.toArray) (AA γ H.size)
theorem pre_at {p : Program} {s U : State} {m : MethodId} {args : Array Value} {meth : Method} {c : Code} {H : Heap} {locs : List Loc} {av : List Value} (K : Cx EX cc nL Ts own ret γ AF p s m args meth c) (hS : va_S (AF s) s.heap H locs) (hP : va_P γ.1 vwCl (wd γ I L P) H) (hD : va_D (AF s) (wd γ I L P)) (hU : U.heap = H) (hW : s.WarmedH U.vm) : Pre γ H.size av I L P av.toArray U :=
  ⟨rfl, by rw [hU], K.2.1.warm hW (AA_in hD K.2.2.1 hS.1) (fun a h1 h2 => by rw [hU]; exact hS.2.1 a h1 h2), by rw [hU]; exact hP, hD.weaken (fun _ _ _ _ => trivial)⟩
theorem r_V {C : String} {T : u_T} {N ci index maxL d : Nat} {fs As stk : List Value} {y : MethodName} {bytes : ByteArray} {rt : Option FieldType} {ws ws' : List Cond} {Qc : Nat → Array Value → State → Outcome → State → Prop} (k : Nat) (hk : k < 8 ∨ 12 ≤ k ∧ k < 20 ∨ 29 ≤ k ∧ k < 71) (he : ee γ I L P k = .inr (ci, fs)) (hc : vwCl[ci]? = some (C, T, N)) (hM : ∀ sz, Met l y ws (rmd d) (Pre γ sz (.ref (γ.2.2 k) :: As) I L P) (Qc sz) 0 0 (AA γ sz)) (hG : GoodIn Ts (wsV own index C y ws)) (hw : ws = .code y bytes maxL rt :: ws')
    (hy : y.cls = C ∧ y.cls ≠ "java/lang/invoke/MethodHandle" ∧ y.cls ≠ "java/lang/invoke/VarHandle" ∧ (parseMethodDescriptor y.desc).map (fun d => d.parameters.length) = some As.length) (hR : d + 1 ≤ R.frames ∧ 8 + (maxL + 11) + 40 * d ≤ R.locals) (hst : stk = As.reverse ++ .ref (γ.2.2 k) :: st) (hcat : (st.map fun v => v.category).sum ≤ 8) (hd : decode cc pc = .ok (.invokevirtual index, 3)) (hcs : cells ≤ R.cells ∧ slots ≤ R.slots) :
    Rn EX l cc nL Ts own ret R γ P AF cells slots pc lv stk st I L Qc (.ref (γ.2.2 k) :: As) := by
  intro p e s m args below meth c K H locs ls hS hP hD hl
  exact va_runV (As := As) (rest := st) K.1 (hM H.size) (cwV As.length K.1.2.2.2.2 hG hw rfl rfl hy hR) ⟨Pre.blind, va_recv K.2.1.1 hP hc (q0 := px k) (by rw [wl_get hk, he]), fun U hU hW => pre_at K hS hP hD hU hW⟩ rfl rfl hl.1 hst (lv_room hcat) hd hcs
theorem r_S {index maxL d : Nat} {As stk : List Value} {y : MethodName} {bytes : ByteArray} {rt : Option FieldType} {ws ws' : List Cond} {Qc : Nat → Array Value → State → Outcome → State → Prop} (hM : ∀ sz, Met l y ws (rmd d) (Pre γ sz As I L P) (Qc sz) 0 0 (AA γ sz)) (hG : GoodIn Ts (va_wsS own index y ws)) (hw : ws = .code y bytes maxL rt :: ws')
    (hy : y.cls ≠ "java/lang/invoke/MethodHandle" ∧ y.cls ≠ "java/lang/invoke/VarHandle" ∧ (parseMethodDescriptor y.desc).map (fun d => d.parameters.length) = some As.length) (hR : d + 1 ≤ R.frames ∧ 8 + (maxL + 11) + 40 * d ≤ R.locals) (hst : stk = As.reverse ++ st) (hcat : (st.map fun v => v.category).sum ≤ 8) (hd : decode cc pc = .ok (.invokestatic index, 3)) (hcs : cells ≤ R.cells ∧ slots ≤ R.slots) :
    Rn EX l cc nL Ts own ret R γ P AF cells slots pc lv stk st I L Qc As := by
  intro p e s m args below meth c K H locs ls hS hP hD hl
  have ok : ∀ w ∈ va_wsS own index y ws, w.before args s = true := fun w h => K.1.2.2.2.2 w (hG w h).1
  exact va_runS (As := As) (rest := st) K.1 (hM H.size) ⟨callB_of As.length K.1.2.2.2.2 (fun w h => hG w (by unfold va_wsS; exact List.mem_append_right _ h)) hw rfl rfl (ok _ (by simp [va_wsS])) (ok _ (by simp [va_wsS])) hy hR, ok _ (by simp [va_wsS])⟩ ⟨Pre.blind, fun U hU hW => pre_at K hS hP hD hU hW⟩ rfl rfl hl.1 hst (lv_room hcat) hd hcs
theorem r_VN {C host : String} {T : u_T} {N ci index maxL d : Nat} {fs As stk : List Value} {y : MethodName} {bytes : ByteArray} {rt : Option FieldType} {ws ws' : List Cond} {Qc : Nat → Array Value → State → Outcome → State → Prop} (k : Nat) (hk : k < 8 ∨ 12 ≤ k ∧ k < 20 ∨ 29 ≤ k ∧ k < 71) (he : ee γ I L P k = .inr (ci, fs)) (hc : vwCl[ci]? = some (C, T, N)) (hM : ∀ sz, Met l y ws (rmd d) (Pre γ sz (.ref (γ.2.2 k) :: As) I L P) (Qc sz) 0 0 (AA γ sz)) (hG : GoodIn Ts ws) (hw : ws = .code y bytes maxL rt :: ws') (hl9 : (own, index, y, host) ∈ nwM) (hx1 : Cond.instanceMethod y ∈ Ts) (hx2 : Cond.selects C y y ∈ Ts) (hini : Cond.initialized y.cls ∈ Ts)
    (hy : y.cls ≠ "java/lang/invoke/MethodHandle" ∧ y.cls ≠ "java/lang/invoke/VarHandle" ∧ (parseMethodDescriptor y.desc).map (fun d => d.parameters.length) = some As.length) (hR : d + 1 ≤ R.frames ∧ 8 + (maxL + 11) + 40 * d ≤ R.locals) (hst : stk = As.reverse ++ .ref (γ.2.2 k) :: st) (hcat : (st.map fun v => v.category).sum ≤ 8) (hd : decode cc pc = .ok (.invokevirtual index, 3)) (hcs : cells ≤ R.cells ∧ slots ≤ R.slots) :
    Rn EX l cc nL Ts own ret R γ P AF cells slots pc lv stk st I L Qc (.ref (γ.2.2 k) :: As) := by
  intro p e s m args below meth c K H locs ls hS hP hD hl
  exact va_runVN (As := As) (rest := st) K.1 (hM H.size) ⟨va_cnB (host := host) As.length K.1.2.2.2.2 hG hw rfl rfl (K.2.1.2.2.1 _ hl9) (K.1.2.2.2.2 _ hini) hy hR, K.1.2.2.2.2 _ hx1, K.1.2.2.2.2 _ hx2⟩ ⟨Pre.blind, va_recv K.2.1.1 hP hc (q0 := px k) (by rw [wl_get hk, he]), fun U hU hW => pre_at K hS hP hD hU hW⟩ rfl rfl hl.1 hst (lv_room hcat) hd hcs
theorem r_SN {host : String} {index maxL d : Nat} {As stk : List Value} {y : MethodName} {bytes : ByteArray} {rt : Option FieldType} {ws ws' : List Cond} {Qc : Nat → Array Value → State → Outcome → State → Prop} (hM : ∀ sz, Met l y ws (rmd d) (Pre γ sz As I L P) (Qc sz) 0 0 (AA γ sz)) (hG : GoodIn Ts ws) (hw : ws = .code y bytes maxL rt :: ws') (hl9 : (own, index, y, host) ∈ nwM) (hx1 : Cond.static y ∈ Ts) (hini : Cond.initialized y.cls ∈ Ts)
    (hy : y.cls ≠ "java/lang/invoke/MethodHandle" ∧ y.cls ≠ "java/lang/invoke/VarHandle" ∧ (parseMethodDescriptor y.desc).map (fun d => d.parameters.length) = some As.length) (hR : d + 1 ≤ R.frames ∧ 8 + (maxL + 11) + 40 * d ≤ R.locals) (hst : stk = As.reverse ++ st) (hcat : (st.map fun v => v.category).sum ≤ 8) (hd : decode cc pc = .ok (.invokestatic index, 3)) (hcs : cells ≤ R.cells ∧ slots ≤ R.slots) :
    Rn EX l cc nL Ts own ret R γ P AF cells slots pc lv stk st I L Qc As := by
  intro p e s m args below meth c K H locs ls hS hP hD hl
  exact va_runSN (As := As) (rest := st) K.1 (hM H.size) ⟨va_cnB (host := host) As.length K.1.2.2.2.2 hG hw rfl rfl (K.2.1.2.2.1 _ hl9) (K.1.2.2.2.2 _ hini) hy hR, K.1.2.2.2.2 _ hx1, trivial⟩ ⟨Pre.blind, fun U hU hW => pre_at K hS hP hD hU hW⟩ rfl rfl hl.1 hst (lv_room hcat) hd hcs
theorem g_ci {stk av : List Value} {post : Int32 → IT → LT → Prop} (hr : Rn EX l cc nL Ts own ret R γ P AF cells slots pc lv stk st I L (fun sz => va_Qi (uci post) (fun u t => WP γ (AA γ sz) u.1 u.2 P t.heap) (AA γ sz)) av)
    (kk : ∀ r I' L', post r I' L' → G EX l cc nL Ts own ret R γ P AF QQ cells slots (pc + 3) lv (.int r :: st) I' L') : G EX l cc nL Ts own ret R γ P AF QQ cells slots pc lv stk I L := by
  intro p e s m args below meth c K H locs ls hS hP hD hl
  have hAA := AA_in hD K.2.2.1 hS.1
  refine va_calli (hr p e s m args below meth c K H locs ls hS hP hD hl) hS (fun q _ h => hAA q h) hAA (fun r u t H1 locs1 ht hvm hp hB hz hk hS1 => ?_)
  obtain ⟨hP1, hD1⟩ := hB
  rw [ht] at hP1
  exact kk r u.1 u.2 hp p e s m args below meth c K H1 locs1 ls hS1 hP1 (hD1.weaken (fun _ q _ h => hAA q.1 h)) hl
theorem g_cv {stk av : List Value} {post : IT → LT → Prop} (hr : Rn EX l cc nL Ts own ret R γ P AF cells slots pc lv stk st I L (fun sz => va_Qv (ucv post) (fun u t => WP γ (AA γ sz) u.1 u.2 P t.heap) (AA γ sz)) av)
    (kk : ∀ I' L', post I' L' → G EX l cc nL Ts own ret R γ P AF QQ cells slots (pc + 3) lv st I' L') : G EX l cc nL Ts own ret R γ P AF QQ cells slots pc lv stk I L := by
  intro p e s m args below meth c K H locs ls hS hP hD hl
  have hAA := AA_in hD K.2.2.1 hS.1
  refine va_callv (hr p e s m args below meth c K H locs ls hS hP hD hl) hS (fun q _ h => hAA q h) hAA (fun u t H1 locs1 ht hvm hp hB hz hk hS1 => ?_)
  obtain ⟨hP1, hD1⟩ := hB
  rw [ht] at hP1
  exact kk u.1 u.2 hp p e s m args below meth c K H1 locs1 ls hS1 hP1 (hD1.weaken (fun _ q _ h => hAA q.1 h)) hl
theorem g_cf {stk av : List Value} {post : UInt32 → IT → LT → Prop} (hr : Rn EX l cc nL Ts own ret R γ P AF cells slots pc lv stk st I L (fun sz => va_Qf (uci post) (fun u t => WP γ (AA γ sz) u.1 u.2 P t.heap) (AA γ sz)) av)
    (kk : ∀ r I' L', post r I' L' → G EX l cc nL Ts own ret R γ P AF QQ cells slots (pc + 3) lv (.float r :: st) I' L') : G EX l cc nL Ts own ret R γ P AF QQ cells slots pc lv stk I L := by
  intro p e s m args below meth c K H locs ls hS hP hD hl
  have hAA := AA_in hD K.2.2.1 hS.1
  refine va_callf (hr p e s m args below meth c K H locs ls hS hP hD hl) hS (fun q _ h => hAA q h) hAA (fun r u t H1 locs1 ht hvm hp hB hz hk hS1 => ?_)
  obtain ⟨hP1, hD1⟩ := hB
  rw [ht] at hP1
  exact kk r u.1 u.2 hp p e s m args below meth c K H1 locs1 ls hS1 hP1 (hD1.weaken (fun _ q _ h => hAA q.1 h)) hl
/-! ends -/
theorem g_iret {post : Int32 → IT → LT → Prop} {r : Int32} (hd : decode cc pc = .ok (.ireturn, 1)) (hp : post r I L) : G EX l cc nL Ts own (some .int) R γ P (AE γ) (Qi γ P post) 0 0 pc lv [.int r] I L :=
  fun p e s m args below meth c K H locs ls hS hP hD hl => W.iret K.1.1 K.1.2.1 K.2.2.2.1 (fun t ht hW => ⟨⟨r, (I, L), rfl, hp, by show WP γ _ I L P t.heap; rw [ht]; exact ⟨hP, hD⟩⟩, hS.F ht⟩) hS.2.2 hd K.2.2.2.2.1
theorem g_zret {post : Int32 → IT → LT → Prop} {r : Int32} (hn : narrow .boolean (.int r) = .int r) (hd : decode cc pc = .ok (.ireturn, 1)) (hp : post r I L) : G EX l cc nL Ts own (some .boolean) R γ P (AE γ) (Qi γ P post) 0 0 pc lv [.int r] I L :=
  fun p e s m args below meth c K H locs ls hS hP hD hl => W.zret K.1.1 K.1.2.1 K.2.2.2.1 hn (fun t ht hW => ⟨⟨r, (I, L), rfl, hp, by show WP γ _ I L P t.heap; rw [ht]; exact ⟨hP, hD⟩⟩, hS.F ht⟩) hS.2.2 hd K.2.2.2.2.1
theorem g_vret {post : IT → LT → Prop} (hd : decode cc pc = .ok (.return_, 1)) (hp : post I L) : G EX l cc nL Ts own none R γ P (AE γ) (Qv γ P post) 0 0 pc lv [] I L :=
  fun p e s m args below meth c K H locs ls hS hP hD hl => W.vret K.1.1 K.1.2.1 K.2.2.2.1 (fun t ht hW => ⟨⟨(I, L), rfl, hp, by show WP γ _ I L P t.heap; rw [ht]; exact ⟨hP, hD⟩⟩, hS.F ht⟩) hS.2.2 hd K.2.2.2.2.1
end Rows2
/-- a boolean as an int -/
def bi (b : Bool) : Int32 := if b then 1 else 0
theorem bi_t : bi true = 1 := rfl
theorem bi_f : bi false = 0 := rfl
theorem bi_nar (b : Bool) : narrow .boolean (.int (bi b)) = .int (bi b) := by cases b <;> rfl
theorem bi_eq {b : Bool} (h : bi b = 0) : b = false := by
  cases b
  · rfl
  · exact absurd h (by decide)
theorem bi_ne {b : Bool} (h : ¬ bi b = 0) : b = true := by
  cases b
  · exact absurd rfl h
  · rfl
section Rows3
variable {EX : State → Code → Prop} {l : Launch} {cc : ByteArray} {nL : Nat} {Ts : List Cond} {own : String} {ret : Option FieldType} {R : Room} {γ : Gm} {P : PT} {AF : State → Nat → Prop} {QQ : List Frame → Array Value → State → State → Prop} {cells slots : Nat} {pc : Nat} {lv : List (Nat × Value)} {st : List Value} {I : IT} {L : LT}
/-! branches over known numbers, and over booleans -/
theorem gn_eq {a b : Nat} {off : Int} {tgt : Nat} (hd : decode cc pc = .ok (.if_icmp .eq off, 3)) (ht : (pc : Int) + off = (tgt : Int)) (ha : a < 2 ^ 31) (hb : b < 2 ^ 31) (kt : a = b → G EX l cc nL Ts own ret R γ P AF QQ cells slots tgt lv st I L) (kf : a ≠ b → G EX l cc nL Ts own ret R γ P AF QQ cells slots (pc + 3) lv st I L) : G EX l cc nL Ts own ret R γ P AF QQ cells slots pc lv (.int (nI b) :: .int (nI a) :: st) I L :=
  g_ic_eq hd ht (fun h => kt ((nI_eq ha hb).mp h)) (fun h => kf (fun q => h ((nI_eq ha hb).mpr q)))
theorem gn_ne {a b : Nat} {off : Int} {tgt : Nat} (hd : decode cc pc = .ok (.if_icmp .ne off, 3)) (ht : (pc : Int) + off = (tgt : Int)) (ha : a < 2 ^ 31) (hb : b < 2 ^ 31) (kt : a ≠ b → G EX l cc nL Ts own ret R γ P AF QQ cells slots tgt lv st I L) (kf : a = b → G EX l cc nL Ts own ret R γ P AF QQ cells slots (pc + 3) lv st I L) : G EX l cc nL Ts own ret R γ P AF QQ cells slots pc lv (.int (nI b) :: .int (nI a) :: st) I L :=
  g_ic_ne hd ht (fun h => kt (fun q => h ((nI_eq ha hb).mpr q))) (fun h => kf ((nI_eq ha hb).mp h))
theorem gn_lt {a b : Nat} {off : Int} {tgt : Nat} (hd : decode cc pc = .ok (.if_icmp .lt off, 3)) (ht : (pc : Int) + off = (tgt : Int)) (ha : a < 2 ^ 31) (hb : b < 2 ^ 31) (kt : a < b → G EX l cc nL Ts own ret R γ P AF QQ cells slots tgt lv st I L) (kf : b ≤ a → G EX l cc nL Ts own ret R γ P AF QQ cells slots (pc + 3) lv st I L) : G EX l cc nL Ts own ret R γ P AF QQ cells slots pc lv (.int (nI b) :: .int (nI a) :: st) I L :=
  g_ic_lt hd ht (fun h => kt ((nI_ltI ha hb).mp h)) (fun h => kf (Nat.not_lt.mp (fun q => h ((nI_ltI ha hb).mpr q))))
theorem gn_ge {a b : Nat} {off : Int} {tgt : Nat} (hd : decode cc pc = .ok (.if_icmp .ge off, 3)) (ht : (pc : Int) + off = (tgt : Int)) (ha : a < 2 ^ 31) (hb : b < 2 ^ 31) (kt : b ≤ a → G EX l cc nL Ts own ret R γ P AF QQ cells slots tgt lv st I L) (kf : a < b → G EX l cc nL Ts own ret R γ P AF QQ cells slots (pc + 3) lv st I L) : G EX l cc nL Ts own ret R γ P AF QQ cells slots pc lv (.int (nI b) :: .int (nI a) :: st) I L :=
  g_ic_ge hd ht (fun h => kt ((nI_leI hb ha).mp h)) (fun h => kf (Nat.not_le.mp (fun q => h ((nI_leI hb ha).mpr q))))
theorem gn_gt {a b : Nat} {off : Int} {tgt : Nat} (hd : decode cc pc = .ok (.if_icmp .gt off, 3)) (ht : (pc : Int) + off = (tgt : Int)) (ha : a < 2 ^ 31) (hb : b < 2 ^ 31) (kt : b < a → G EX l cc nL Ts own ret R γ P AF QQ cells slots tgt lv st I L) (kf : a ≤ b → G EX l cc nL Ts own ret R γ P AF QQ cells slots (pc + 3) lv st I L) : G EX l cc nL Ts own ret R γ P AF QQ cells slots pc lv (.int (nI b) :: .int (nI a) :: st) I L :=
  g_ic_gt hd ht (fun h => kt ((nI_ltI hb ha).mp h)) (fun h => kf (Nat.not_lt.mp (fun q => h ((nI_ltI hb ha).mpr q))))
theorem gn_le {a b : Nat} {off : Int} {tgt : Nat} (hd : decode cc pc = .ok (.if_icmp .le off, 3)) (ht : (pc : Int) + off = (tgt : Int)) (ha : a < 2 ^ 31) (hb : b < 2 ^ 31) (kt : a ≤ b → G EX l cc nL Ts own ret R γ P AF QQ cells slots tgt lv st I L) (kf : b < a → G EX l cc nL Ts own ret R γ P AF QQ cells slots (pc + 3) lv st I L) : G EX l cc nL Ts own ret R γ P AF QQ cells slots pc lv (.int (nI b) :: .int (nI a) :: st) I L :=
  g_ic_le hd ht (fun h => kt ((nI_leI ha hb).mp h)) (fun h => kf (Nat.not_le.mp (fun q => h ((nI_leI ha hb).mpr q))))
theorem nI_z {a : Nat} (ha : a < 2 ^ 31) : nI a = 0 ↔ a = 0 := by
  rw [← nI_0]; exact nI_eq ha (by decide)
theorem gz_eq {a : Nat} {off : Int} {tgt : Nat} (hd : decode cc pc = .ok (.ifCond .eq off, 3)) (ht : (pc : Int) + off = (tgt : Int)) (ha : a < 2 ^ 31) (kt : a = 0 → G EX l cc nL Ts own ret R γ P AF QQ cells slots tgt lv st I L) (kf : a ≠ 0 → G EX l cc nL Ts own ret R γ P AF QQ cells slots (pc + 3) lv st I L) : G EX l cc nL Ts own ret R γ P AF QQ cells slots pc lv (.int (nI a) :: st) I L :=
  g_if_eq hd ht (fun h => kt ((nI_z ha).mp h)) (fun h => kf (fun q => h ((nI_z ha).mpr q)))
theorem gz_ne {a : Nat} {off : Int} {tgt : Nat} (hd : decode cc pc = .ok (.ifCond .ne off, 3)) (ht : (pc : Int) + off = (tgt : Int)) (ha : a < 2 ^ 31) (kt : a ≠ 0 → G EX l cc nL Ts own ret R γ P AF QQ cells slots tgt lv st I L) (kf : a = 0 → G EX l cc nL Ts own ret R γ P AF QQ cells slots (pc + 3) lv st I L) : G EX l cc nL Ts own ret R γ P AF QQ cells slots pc lv (.int (nI a) :: st) I L :=
  g_if_ne hd ht (fun h => kt (fun q => h ((nI_z ha).mpr q))) (fun h => kf ((nI_z ha).mp h))
theorem gz_lt {a : Nat} {off : Int} {tgt : Nat} (hd : decode cc pc = .ok (.ifCond .lt off, 3)) (ht : (pc : Int) + off = (tgt : Int)) (ha : a < 2 ^ 31) (kt : False → G EX l cc nL Ts own ret R γ P AF QQ cells slots tgt lv st I L) (kf : True → G EX l cc nL Ts own ret R γ P AF QQ cells slots (pc + 3) lv st I L) : G EX l cc nL Ts own ret R γ P AF QQ cells slots pc lv (.int (nI a) :: st) I L :=
  g_if_lt hd ht (fun h => (nI_pos ha h).elim) (fun _ => kf trivial)
theorem gz_ge {a : Nat} {off : Int} {tgt : Nat} (hd : decode cc pc = .ok (.ifCond .ge off, 3)) (ht : (pc : Int) + off = (tgt : Int)) (ha : a < 2 ^ 31) (kt : True → G EX l cc nL Ts own ret R γ P AF QQ cells slots tgt lv st I L) (kf : False → G EX l cc nL Ts own ret R γ P AF QQ cells slots (pc + 3) lv st I L) : G EX l cc nL Ts own ret R γ P AF QQ cells slots pc lv (.int (nI a) :: st) I L :=
  g_if_ge hd ht (fun _ => kt trivial) (fun h => (h (nI_pos' ha)).elim)
theorem gz_le {a : Nat} {off : Int} {tgt : Nat} (hd : decode cc pc = .ok (.ifCond .le off, 3)) (ht : (pc : Int) + off = (tgt : Int)) (ha : a < 2 ^ 31) (kt : a = 0 → G EX l cc nL Ts own ret R γ P AF QQ cells slots tgt lv st I L) (kf : 0 < a → G EX l cc nL Ts own ret R γ P AF QQ cells slots (pc + 3) lv st I L) : G EX l cc nL Ts own ret R γ P AF QQ cells slots pc lv (.int (nI a) :: st) I L :=
  g_if_le hd ht (fun h => kt (by have h1 := (nI_leI ha (by decide : 0 < 2 ^ 31)).mp (by rw [nI_0]; exact h); omega)) (fun h => kf (Nat.pos_of_ne_zero (fun q => h (by rw [q, nI_0]; decide))))
theorem gb_eq {b : Bool} {off : Int} {tgt : Nat} (hd : decode cc pc = .ok (.ifCond .eq off, 3)) (ht : (pc : Int) + off = (tgt : Int)) (kt : b = false → G EX l cc nL Ts own ret R γ P AF QQ cells slots tgt lv st I L) (kf : b = true → G EX l cc nL Ts own ret R γ P AF QQ cells slots (pc + 3) lv st I L) : G EX l cc nL Ts own ret R γ P AF QQ cells slots pc lv (.int (bi b) :: st) I L :=
  g_if_eq hd ht (fun h => kt (bi_eq h)) (fun h => kf (bi_ne h))
theorem gb_ne {b : Bool} {off : Int} {tgt : Nat} (hd : decode cc pc = .ok (.ifCond .ne off, 3)) (ht : (pc : Int) + off = (tgt : Int)) (kt : b = true → G EX l cc nL Ts own ret R γ P AF QQ cells slots tgt lv st I L) (kf : b = false → G EX l cc nL Ts own ret R γ P AF QQ cells slots (pc + 3) lv st I L) : G EX l cc nL Ts own ret R γ P AF QQ cells slots pc lv (.int (bi b) :: st) I L :=
  g_if_ne hd ht (fun h => kt (bi_ne h)) (fun h => kf (bi_eq h))
end Rows3
theorem inc_1 (a : Nat) : nI a + Int32.ofInt 1 = nI (a + 1) := nI_1 a
/-- a counter that goes down to -1 -/
def dn : Nat → Int32
  | 0 => -1
  | k + 1 => nI k
theorem dec_1 (a : Nat) : nI a + Int32.ofInt (-1) = dn a := by
  cases a with
  | zero => rfl
  | succ k => exact pk_m1 k
theorem dn_neg : dn 0 < 0 := by decide
theorem dn_sub {a : Nat} (h : 0 < a) : nI a - 1 = nI (a - 1) := by
  obtain ⟨k, rfl⟩ : ∃ k, a = k + 1 := ⟨a - 1, by omega⟩
  exact nI_pred k
theorem dn_sub1 (a : Nat) : nI a - nI 1 = dn a := by
  cases a with
  | zero => rfl
  | succ k => exact nI_pred k
theorem dn_sub2 {a : Nat} (h : 0 < a) : nI a - nI 2 = dn (a - 1) := by
  obtain ⟨k, rfl⟩ : ∃ k, a = k + 1 := ⟨a - 1, by omega⟩
  rw [show nI 2 = nI 1 + nI 1 from rfl, ← Int32.sub_sub, show nI (k + 1) - nI 1 = nI k from nI_pred k, dn_sub1]
  rfl
section Rows4
variable {EX : State → Code → Prop} {l : Launch} {cc : ByteArray} {nL : Nat} {Ts : List Cond} {own : String} {ret : Option FieldType} {R : Room} {γ : Gm} {P : PT} {AF : State → Nat → Prop} {QQ : List Frame → Array Value → State → State → Prop} {cells slots : Nat} {pc : Nat} {lv : List (Nat × Value)} {st : List Value} {I : IT} {L : LT}
theorem g_tsIn {dflt lo hi : Int} {offs : Array Int} {len : Nat} {x : Int32} {off : Int} {tgt : Nat} (hd : decode cc pc = .ok (.tableswitch dflt lo hi offs, len)) (h1 : ¬ x.toInt < lo) (h2 : ¬ hi < x.toInt) (ho : offs[(x.toInt - lo).toNat]? = some off) (ht : (pc : Int) + off = (tgt : Int)) (kk : G EX l cc nL Ts own ret R γ P AF QQ cells slots tgt lv st I L) : G EX l cc nL Ts own ret R γ P AF QQ cells slots pc lv (.int x :: st) I L :=
  fun p e s m args below meth c K H locs ls hS hP hD hl => lv_tableIn K.1.1 K.1.2.1 hd h1 h2 ho ht (kk p e s m args below meth c K H locs ls hS hP hD hl)
theorem g_tsOut {dflt lo hi : Int} {offs : Array Int} {len : Nat} {x : Int32} {tgt : Nat} (hd : decode cc pc = .ok (.tableswitch dflt lo hi offs, len)) (h : x.toInt < lo ∨ hi < x.toInt) (ht : (pc : Int) + dflt = (tgt : Int)) (kk : G EX l cc nL Ts own ret R γ P AF QQ cells slots tgt lv st I L) : G EX l cc nL Ts own ret R γ P AF QQ cells slots pc lv (.int x :: st) I L :=
  fun p e s m args below meth c K H locs ls hS hP hD hl => lv_tableOut K.1.1 K.1.2.1 hd h ht (kk p e s m args below meth c K H locs ls hS hP hD hl)
theorem g_lv {lv' : List (Nat × Value)} (h : lv = lv') (kk : G EX l cc nL Ts own ret R γ P AF QQ cells slots pc lv' st I L) : G EX l cc nL Ts own ret R γ P AF QQ cells slots pc lv st I L := by
  subst h; exact kk
end Rows4
/-- moved spans of rows: how long a row of the three grids is -/
theorem ln_29 {i : Nat} (h : i < 8) : ln (i + 29) = 256 := by
  unfold ln
  repeat' split
  all_goals (first | rfl | omega)
theorem ln_37 {i : Nat} (h : 37 ≤ i) : ln i = 128 := by
  unfold ln
  repeat' split
  all_goals (first | rfl | omega)
theorem va_uu {α : Type} (f : Nat → α) (k : Nat) (v w : α) : va_up (va_up f k v) k w = va_up f k w := bx_uu f k v w
theorem va_us {α : Type} (f : Nat → α) (k : Nat) (v : α) : va_up f k v k = v := va_up_self f k v
/-- a store in a row that was written before -/
theorem va_uw (I : IT) (k i : Nat) (f : Nat → Int32) (x : Int32) : va_up (va_up I k f) k (upd (va_up I k f k) i x) = va_up I k (upd f i x) := by rw [va_uu, va_us]

