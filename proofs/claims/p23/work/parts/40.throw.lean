/-! calls that may throw -/
def rmx (d : Nat) : Room := { frames := d + 8, cells := 1, slots := 6, locals := 40 * (d + 8) }
def XQ (γ : Gm) (P : PT) (xp : String → IT → LT → Prop) (sz : Nat) : String → State → State → Prop := vx_X (fun _ : ST => True) (fun E u t => xp E u.1 u.2 ∧ WP γ (AA γ sz) u.1 u.2 P t.heap) (AA γ sz)
abbrev Xi (l : Launch) (y : MethodName) (ws : List Cond) (d : Nat) (γ : Gm) (av : List Value) (I : IT) (L : LT) (P : PT) (xp : String → IT → LT → Prop) (post : Int32 → IT → LT → Prop) : Prop := ∀ sz, vx_Met l y ws (rmx d) (Pre γ sz av I L P) (va_Qi (uci post) (fun u t => WP γ (AA γ sz) u.1 u.2 P t.heap) (AA γ sz)) (XQ γ P xp sz) 1 6 (AA γ sz)
abbrev Xf (l : Launch) (y : MethodName) (ws : List Cond) (d : Nat) (γ : Gm) (av : List Value) (I : IT) (L : LT) (P : PT) (xp : String → IT → LT → Prop) (post : UInt32 → IT → LT → Prop) : Prop := ∀ sz, vx_Met l y ws (rmx d) (Pre γ sz av I L P) (va_Qf (uci post) (fun u t => WP γ (AA γ sz) u.1 u.2 P t.heap) (AA γ sz)) (XQ γ P xp sz) 1 6 (AA γ sz)
abbrev QXi (γ : Gm) (P : PT) (xp : String → IT → LT → Prop) (post : Int32 → IT → LT → Prop) : List Frame → Array Value → State → State → Prop := fun below args s => vx_MQ below (va_Qi (uci post) (fun u t => WP γ (AA γ s.heap.size) u.1 u.2 P t.heap) (AA γ s.heap.size)) (XQ γ P xp s.heap.size) args s 1 6 (AA γ s.heap.size)
abbrev QXf (γ : Gm) (P : PT) (xp : String → IT → LT → Prop) (post : UInt32 → IT → LT → Prop) : List Frame → Array Value → State → State → Prop := fun below args s => vx_MQ below (va_Qf (uci post) (fun u t => WP γ (AA γ s.heap.size) u.1 u.2 P t.heap) (AA γ s.heap.size)) (XQ γ P xp s.heap.size) args s 1 6 (AA γ s.heap.size)
abbrev E1 : State → Code → Prop := fun _ c => ∀ x ∈ c.exceptionTable.toList, False
theorem Xi_of {l : Launch} {y : MethodName} {ws ws' : List Cond} {cc : ByteArray} {maxL d : Nat} {ret : Option FieldType} {γ : Gm} {av : List Value} {I : IT} {L : LT} {P : PT} {xp : String → IT → LT → Prop} {post : Int32 → IT → LT → Prop} {own : String} (hy : plainName y.cls = true) (ho : y.cls = own) (hw : ws = .code y cc maxL ret :: ws') (hn : (lg_sl av).length ≤ maxL)
    (body : G E1 l cc maxL ws own ret (rmx d) γ P (AE γ) (QXi γ P xp post) 0 0 0 (lv_args 0 av) [] I L) : Xi l y ws d γ av I L P xp post := by
  intro sz
  subst ho
  refine vx_ofW hy hw ?_
  intro p e s m args below meth c s₁ B hml ht hv
  obtain ⟨rfl, hsz, hF, hP, hD⟩ := hv
  subst hsz
  rw [lg_entry_eq]
  exact body p e s m _ below meth c ⟨⟨B.exec, B.bytes, hml, findClass_of_methodNamed B.named, atoms_spec B.pre⟩, hF, fun q h => Or.inr h, B.returns, B.notSynchronized, ht⟩ s.heap [] _ va_S.rf hP (hD.weaken (fun k q hk _ => by obtain ⟨h1, rfl⟩ := wl_of hk; exact Or.inl ⟨_, h1, rfl⟩)) (lv_entry av hn)
theorem Xf_of {l : Launch} {y : MethodName} {ws ws' : List Cond} {cc : ByteArray} {maxL d : Nat} {ret : Option FieldType} {γ : Gm} {av : List Value} {I : IT} {L : LT} {P : PT} {xp : String → IT → LT → Prop} {post : UInt32 → IT → LT → Prop} {own : String} (hy : plainName y.cls = true) (ho : y.cls = own) (hw : ws = .code y cc maxL ret :: ws') (hn : (lg_sl av).length ≤ maxL)
    (body : G E1 l cc maxL ws own ret (rmx d) γ P (AE γ) (QXf γ P xp post) 0 0 0 (lv_args 0 av) [] I L) : Xf l y ws d γ av I L P xp post := by
  intro sz
  subst ho
  refine vx_ofW hy hw ?_
  intro p e s m args below meth c s₁ B hml ht hv
  obtain ⟨rfl, hsz, hF, hP, hD⟩ := hv
  subst hsz
  rw [lg_entry_eq]
  exact body p e s m _ below meth c ⟨⟨B.exec, B.bytes, hml, findClass_of_methodNamed B.named, atoms_spec B.pre⟩, hF, fun q h => Or.inr h, B.returns, B.notSynchronized, ht⟩ s.heap [] _ va_S.rf hP (hD.weaken (fun k q hk _ => by obtain ⟨h1, rfl⟩ := wl_of hk; exact Or.inl ⟨_, h1, rfl⟩)) (lv_entry av hn)
theorem w_wide {p : Program} {l : Launch} {e : Env} {R : Room} {s : State} {m : MethodId} {args : Array Value} {below : List Frame} {meth : Method} {c : Code} {H : Heap} {locs : List Loc} {cells slots k n : Nat} {Q : State → Prop} {g : JFrame} (h1 : cells ≤ k) (h2 : slots ≤ n) (kk : W p l e R s m args below meth c H locs k n Q g) : W p l e R s m args below meth c H locs cells slots Q g := fun T hT X => kk T hT (stand_widen X h1 h2)
section RowsX
variable {EX : State → Code → Prop} {l : Launch} {cc : ByteArray} {nL : Nat} {Ts : List Cond} {own : String} {ret : Option FieldType} {R : Room} {γ : Gm} {P : PT} {xp : String → IT → LT → Prop} {pc : Nat} {lv : List (Nat × Value)} {st : List Value} {I : IT} {L : LT}
theorem g_xiret {post : Int32 → IT → LT → Prop} {r : Int32} (hd : decode cc pc = .ok (.ireturn, 1)) (hp : post r I L) : G EX l cc nL Ts own (some .int) R γ P (AE γ) (QXi γ P xp post) 0 0 pc lv [.int r] I L :=
  fun p e s m args below meth c K H locs ls hS hP hD hl => w_wide (Nat.zero_le _) (Nat.zero_le _) (vx_ret (W.iret K.1.1 K.1.2.1 K.2.2.2.1 (fun t ht hW => ⟨⟨r, (I, L), rfl, hp, by show WP γ _ I L P t.heap; rw [ht]; exact ⟨hP, hD⟩⟩, hS.F ht⟩) hS.2.2 hd K.2.2.2.2.1))
theorem g_xzret {post : Int32 → IT → LT → Prop} {r : Int32} (hn : narrow .boolean (.int r) = .int r) (hd : decode cc pc = .ok (.ireturn, 1)) (hp : post r I L) : G EX l cc nL Ts own (some .boolean) R γ P (AE γ) (QXi γ P xp post) 0 0 pc lv [.int r] I L :=
  fun p e s m args below meth c K H locs ls hS hP hD hl => w_wide (Nat.zero_le _) (Nat.zero_le _) (vx_ret (W.zret K.1.1 K.1.2.1 K.2.2.2.1 hn (fun t ht hW => ⟨⟨r, (I, L), rfl, hp, by show WP γ _ I L P t.heap; rw [ht]; exact ⟨hP, hD⟩⟩, hS.F ht⟩) hS.2.2 hd K.2.2.2.2.1))
theorem g_xfret {post : UInt32 → IT → LT → Prop} {r : UInt32} (hd : decode cc pc = .ok (.freturn, 1)) (hp : post r I L) : G EX l cc nL Ts own (some .float) R γ P (AE γ) (QXf γ P xp post) 0 0 pc lv [.float r] I L :=
  fun p e s m args below meth c K H locs ls hS hP hD hl => w_wide (Nat.zero_le _) (Nat.zero_le _) (vx_ret (W.fret K.1.1 K.1.2.1 K.2.2.2.1 (fun t ht hW => ⟨⟨r, (I, L), rfl, hp, by show WP γ _ I L P t.heap; rw [ht]; exact ⟨hP, hD⟩⟩, hS.F ht⟩) hS.2.2 hd K.2.2.2.2.1))
/-- the words of a throw, out of the method's list -/
theorem g_throw {Qc : State → Array Value → State → Outcome → State → Prop} {cls text : String} {ik is ic : Nat} (hl0 : l.stackTraces = false) (hcls : Bundle.fit cls = true)
    (hk : Cond.classLink own ik cls ∈ Ts) (hini : Cond.initialized cls ∈ Ts) (hstr : (own, is, text) ∈ nwS) (hat : ∀ w ∈ (vx_atS own ic cls ["java/lang/RuntimeException", "java/lang/Exception"]).filter goodWord, w ∈ Ts) (hnat : ∀ w ∈ (vx_atS own ic cls ["java/lang/RuntimeException", "java/lang/Exception"]).filter (fun w => !goodWord w), w ∈ nwD.map Cond.declares ++ nwE.map (fun x => Cond.castable x x))
    (hgood : ∀ w ∈ Cond.classLink own ik cls :: Cond.initialized cls :: vx_atS own ic cls ["java/lang/RuntimeException", "java/lang/Exception"], vx_ot w = true)
    (d0 : decode cc pc = .ok (.new ik, 3)) (d3 : decode cc (pc + 3) = .ok (.dup, 1)) (d4 : decode cc (pc + 4) = .ok (.ldc is, 2)) (d6 : decode cc (pc + 6) = .ok (.invokespecial ic, 3)) (d9 : decode cc (pc + 9) = .ok (.athrow, 1))
    (hf : 6 ≤ R.frames) (hL : (st.map fun v => v.category).sum + 82 ≤ R.locals) (hc : 1 ≤ R.cells) (hs : 6 ≤ R.slots) (hp : xp cls I L) :
    G E1 l cc nL Ts own ret R γ P (AE γ) (fun below args s => vx_MQ below (Qc s) (XQ γ P xp s.heap.size) args s 1 6 (AA γ s.heap.size)) 0 0 pc lv st I L := by
  intro p e s m args below meth c K H locs ls hS hP hD hL2
  obtain ⟨sa, hsa⟩ := K.2.1.2.2.2.1 _ hstr
  refine vx_throwS (A := AA γ s.heap.size) K.1.1 K.1.2.1 hl0 K.1.2.2.2.1 hcls (by decide) (K.1.2.2.2.2 _ hk) (K.1.2.2.2.2 _ hini) hsa (vx_hat (fun w hw => K.1.2.2.2.2 _ (hat w hw)) hnat (fun w hw => by
    rcases List.mem_append.mp hw with hw | hw
    · obtain ⟨x, hx, rfl⟩ := List.mem_map.mp hw; exact va_Nw.use rfl (K.2.1.2.2.2.2.2.2.1 x hx)
    · obtain ⟨x, hx, rfl⟩ := List.mem_map.mp hw; exact va_Nw.use rfl (K.2.1.2.2.2.2.2.2.2.1 x hx))) hgood K.2.1.2.2.2.2.1 K.2.1.2.2.2.2.2.1 hS (hL2.1.trans K.1.2.2.1.symm) d0 d3 d4 d6 d9 (fun x hx => (K.2.2.2.2.2 x hx).elim) hf hL (by omega) (by omega) K.2.2.2.2.1 (fun t hvm hz hk9 => ?_) hS.2.2 (Nat.le_refl _) (Nat.le_refl _)
  have hP1 : va_P γ.1 vwCl (wd γ I L P) t.heap := hP.kept (fun k q hk => hk9 q.1 (vx_lt hP hk))
  exact ⟨(I, L), trivial, ⟨hp, hP1, hD⟩, Nat.le_trans hS.1 hz, fun q h1 h2 => by rw [hk9 q (Nat.lt_of_lt_of_le h1 hS.1)]; exact hS.2.1 q h1 h2⟩
end RowsX
/-- what is thrown: e1 where a fails, e2 where b does -/
def xq (a b : Bool) (e1 e2 : String) (I : IT) (L : LT) : String → IT → LT → Prop := fun E I' L' => (E = e1 ∧ a = false ∨ E = e2 ∧ a = true ∧ b = false) ∧ I' = I ∧ L' = L
theorem FC.fg {I I' : IT} (h : FC I I') : FG I I' := fun k hk => by
  rcases hk with rfl | ⟨h1, h2⟩
  · exact h 8 (by decide) (by decide) (by decide)
  · exact h k (by omega) (by omega) (by omega)
theorem FG.refl (I : IT) : FG I I := fun _ _ => rfl
theorem FG.trans {I J K : IT} (h : FG I J) (h2 : FG J K) : FG I K := fun k hk => (h2 k hk).trans (h k hk)
theorem FG.up (I : IT) {k : Nat} (hk : k ≠ 8 ∧ (k < 20 ∨ 29 ≤ k)) (F : Nat → Int32) : FG I (va_up I k F) := fun j hj => va_up_ne _ _ (by unfold MI at hj; omega)
theorem bnot_f {a : Bool} (h : (!a) = false) : a = true := by cases a <;> simp_all
theorem bnot_t {a : Bool} (h : (!a) = true) : a = false := by cases a <;> simp_all
