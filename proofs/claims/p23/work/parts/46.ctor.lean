/-! constructors: worlds as lists -/
def Kn (γ : Gm) (U : State) : Prop := va_K γ.1 vwCl (tyl γ) U ∧ (∀ A, (Cond.arrayOver (.array .int)).before A U = true) ∧ ∀ q ∈ nwM, va_Nw (.methodLinkNest q.1 q.2.1 q.2.2.1 q.2.2.2) U
theorem Kn.warm {γ : Gm} {u U : State} (h : Kn γ u) (hW : u.WarmedH U.vm) : Kn γ U := ⟨h.1.moved hW.alike, fun A => by
  have h2 := h.2.1 A
  rw [← Cond.arrayOver_setVmC hW.alike] at h2
  exact h2, fun q hq => va_Nw.warmM hW (h.2.2 q hq)⟩
theorem Kn.calling {γ : Gm} {U : State} {g : JFrame} {mk : MethodId} {a : Array Value} (h : Kn γ U) : Kn γ (U.calling g mk a) := ⟨h.1.moved (u := U) (U := U.calling g mk a) (Vm.Alike.refl U.vm), fun A => h.2.1 A, fun q hq => va_Nw.same rfl rfl (h.2.2 q hq)⟩
def AN (h sz : Nat) : Nat → Prop := fun q => q = h ∨ sz ≤ q
def KN (cc : ByteArray) (nL : Nat) (Ts : List Cond) (own : String) (ret : Option FieldType) (γ : Gm) (AF : State → Nat → Prop) (ini : Bool) (p : Program) (s : State) (m : MethodId) (args : Array Value) (meth : Method) (c : Code) : Prop :=
  CallFix p m c cc nL s args Ts own ∧ Kn γ s ∧ (∀ q, s.heap.size ≤ q → AF s q) ∧ meth.sig.returnType = ret ∧ meth.locks = false ∧ (ini = true → meth.name = "<init>")
def GN (l : Launch) (cc : ByteArray) (nL : Nat) (Ts : List Cond) (own : String) (ret : Option FieldType) (R : Room) (γ : Gm) (AF : State → Nat → Prop) (ini : Bool) (QQ : List Frame → Array Value → State → State → Prop) (cells slots : Nat) (pc : Nat) (lv : List (Nat × Value)) (st : List Value) (w : va_W) : Prop :=
  ∀ (p : Program) (e : Env) (s : State) (m : MethodId) (args : Array Value) (below : List Frame) (meth : Method) (c : Code), KN cc nL Ts own ret γ AF ini p s m args meth c →
    ∀ (H : Heap) (locs : List Loc) (ls : Array Slot), va_S (AF s) s.heap H locs → va_P γ.1 vwCl w H → va_D (AF s) w → lv_has ls nL lv →
      W p l e R s m args below meth c H locs cells slots (QQ below args s) (F0 m pc ls st)
abbrev CtN (l : Launch) (y : MethodName) (ws : List Cond) (rm : Room) (γ : Gm) (ci : Nat) (fs0 : List Value) (fin : Nat → (Nat → Nat) → va_W) (mc ms : Nat) : Prop :=
  ∀ h sz, Met l y ws rm (va_Pc [.ref h] (fun U => U.heap.size = sz ∧ Kn γ U ∧ va_P γ.1 vwCl [(h, .inr (ci, fs0))] U.heap)) (va_Qv (fun _ : Nat → Nat => True) (fun u t => va_P γ.1 vwCl (fin h u) t.heap ∧ va_D (AN h sz) (fin h u)) (AN h sz)) mc ms (AN h sz)
abbrev QN (γ : Gm) (h : Nat) (fin : Nat → (Nat → Nat) → va_W) (mc ms : Nat) : List Frame → Array Value → State → State → Prop := fun below args s => MQ below (va_Qv (fun _ : Nat → Nat => True) (fun u t => va_P γ.1 vwCl (fin h u) t.heap ∧ va_D (AN h s.heap.size) (fin h u)) (AN h s.heap.size)) args s mc ms (AN h s.heap.size)
abbrev AFN (h : Nat) : State → Nat → Prop := fun s => AN h s.heap.size
theorem CtN_of {l : Launch} {y : MethodName} {ws ws' : List Cond} {cc : ByteArray} {maxL : Nat} {rm : Room} {γ : Gm} {ci : Nat} {fs0 : List Value} {fin : Nat → (Nat → Nat) → va_W} {mc ms : Nat} {own : String} (hy : plainName y.cls = true) (ho : y.cls = own) (hi : y.name = "<init>") (hw : ws = .code y cc maxL none :: ws') (hn : 1 ≤ maxL)
    (body : ∀ h, GN l cc maxL ws own none rm γ (AFN h) true (QN γ h fin mc ms) 0 0 0 (lv_args 0 [.ref h]) [] [(h, .inr (ci, fs0))]) : CtN l y ws rm γ ci fs0 fin mc ms := by
  intro h sz
  subst ho
  refine Met.ofW hy hw ?_
  intro p e s m args below meth c s₁ B hml hv
  obtain ⟨rfl, hsz, hK, hP⟩ := hv
  subst hsz
  rw [lg_entry_eq]
  refine body h p e s m _ below meth c ⟨⟨B.exec, B.bytes, hml, findClass_of_methodNamed B.named, atoms_spec B.pre⟩, hK, fun q h => Or.inr h, B.returns, B.notSynchronized, fun _ => (name_of_methodNamed B.named B.method).1.trans hi⟩ s.heap [] _ va_S.rf hP ⟨fun i j p q hp hq _ => ?_, fun k q hk => ?_⟩ (lv_entry [.ref h] hn)
  · have h1 := (List.getElem?_eq_some_iff.mp hp).1
    have h2 := (List.getElem?_eq_some_iff.mp hq).1
    simp only [List.length_cons, List.length_nil] at h1 h2
    omega
  · have h1 := (List.getElem?_eq_some_iff.mp hk).1
    simp only [List.length_cons, List.length_nil] at h1
    rw [show k = 0 by omega] at hk
    cases hk
    exact Or.inl rfl
theorem tys_one {γ : Gm} {cA : ClassId} {ty : FieldType} {k : Nat} {c0 : ClassId} {s : State} (hK : va_K γ.1 vwCl (tyl γ ++ [(cA, ty)]) s) (hk : (tyl γ)[k]? = some (c0, ty)) (hr : ∀ c : ClassId, va_RA s c ty → s.vm.findClass ("[" ++ ty.toString) = some c) : cA = c0 := by
  have h1 := hr _ (hK.2 2 (cA, ty) rfl).2
  have hlt := (List.getElem?_eq_some_iff.mp hk).1
  have h2 := hr _ (hK.2 k (c0, ty) (by rw [List.getElem?_append_left hlt]; exact hk)).2
  exact Option.some.inj (h1.symm.trans h2)
theorem va_join_new {D : va_G} {cl : List vw_C} {A : Nat → Prop} {wp fin : va_W} {h : Nat} {x : va_E} {H H1 : Heap} (hP : va_P D cl (wp ++ [(h, x)]) H) (hD : va_D A (wp ++ [(h, x)])) (hA : ∀ q, H.size ≤ q → A q) (hk : ∀ q : Nat, q < H.size → ¬ AN h H.size q → H1[q]? = H[q]?) (hP1 : va_P D cl fin H1) (hD1 : va_D (AN h H.size) fin) : va_P D cl (wp ++ fin) H1 ∧ va_D A (wp ++ fin) := by
  have gp : ∀ (k : Nat) (q : Nat × va_E), wp[k]? = some q → q.1 < H.size ∧ q.1 ≠ h ∧ A q.1 := fun k q hq => by
    have hl := (List.getElem?_eq_some_iff.mp hq).1
    have h1 : (wp ++ [(h, x)])[k]? = some q := by rw [List.getElem?_append_left hl]; exact hq
    have h2 : (wp ++ [(h, x)])[wp.length]? = some (h, x) := by rw [List.getElem?_append_right (Nat.le_refl _), Nat.sub_self]; rfl
    refine ⟨vx_lt hP h1, fun e => ?_, hD.2 k q h1⟩
    have := hD.1 k wp.length q (h, x) h1 h2 e
    omega
  have hh : A h := hD.2 wp.length (h, x) (by rw [List.getElem?_append_right (Nat.le_refl _), Nat.sub_self]; rfl)
  have get : ∀ (k : Nat) (q : Nat × va_E), (wp ++ fin)[k]? = some q → (k < wp.length ∧ wp[k]? = some q) ∨ (wp.length ≤ k ∧ fin[k - wp.length]? = some q) := fun k q hk => by
    rcases Nat.lt_or_ge k wp.length with h | h
    · rw [List.getElem?_append_left h] at hk; exact Or.inl ⟨h, hk⟩
    · rw [List.getElem?_append_right h] at hk; exact Or.inr ⟨h, hk⟩
  have hPp : va_P D cl wp H := fun k q hq => hP k q (by rw [List.getElem?_append_left (List.getElem?_eq_some_iff.mp hq).1]; exact hq)
  refine ⟨(hPp.kept (fun k q hq => hk q.1 (gp k q hq).1 (fun a => a.elim (gp k q hq).2.1 (fun b => absurd b (by have := (gp k q hq).1; omega))))).app hP1, fun i j p q hi hj e => ?_, fun k q hq => ?_⟩
  · rcases get i p hi with ⟨a1, a2⟩ | ⟨a1, a2⟩ <;> rcases get j q hj with ⟨b1, b2⟩ | ⟨b1, b2⟩
    · exact hD.1 i j p q (by rw [List.getElem?_append_left a1]; exact a2) (by rw [List.getElem?_append_left b1]; exact b2) e
    · have c1 := gp i p a2
      rcases hD1.2 _ q b2 with c2 | c2
      · exact absurd (e.trans c2) c1.2.1
      · omega
    · have c1 := gp j q b2
      rcases hD1.2 _ p a2 with c2 | c2
      · exact absurd (e.symm.trans c2) c1.2.1
      · omega
    · have := hD1.1 _ _ p q a2 b2 e
      omega
  · rcases get k q hq with ⟨a1, a2⟩ | ⟨a1, a2⟩
    · exact (gp k q a2).2.2
    · rcases hD1.2 _ q a2 with c2 | c2
      · rw [c2]; exact hh
      · exact hA _ c2
section RowsN
variable {l : Launch} {cc : ByteArray} {nL : Nat} {Ts : List Cond} {own : String} {ret : Option FieldType} {R : Room} {γ : Gm} {AF : State → Nat → Prop} {ini : Bool} {QQ : List Frame → Array Value → State → State → Prop} {cells slots : Nat} {pc : Nat} {lv : List (Nat × Value)} {st : List Value} {w : va_W}
theorem n_al {k : Fin 4} {r : Addr} (j : Nat) (hd : decode cc pc = .ok (.aload_n k, 1)) (hj : lv[j]? = some ((k : Nat), .ref r)) (kk : GN l cc nL Ts own ret R γ AF ini QQ cells slots (pc + 1) lv (.ref r :: st) w) : GN l cc nL Ts own ret R γ AF ini QQ cells slots pc lv st w :=
  fun p e s m args below meth c K H locs ls hS hP hD hl => lv_aload_n K.1.1 K.1.2.1 hd rfl (lv_at hl j hj) (kk p e s m args below meth c K H locs ls hS hP hD hl)
theorem n_as {k : Fin 4} {r : Addr} {lv' : List (Nat × Value)} (hd : decode cc pc = .ok (.astore_n k, 1)) (hn : (k : Nat) < nL) (hl9 : ((k : Nat), Value.ref r) :: lv.filter (fun q => !(q.1 == (k : Nat)) && !(q.1 + 1 == (k : Nat) && q.2.category == 2)) = lv') (kk : GN l cc nL Ts own ret R γ AF ini QQ cells slots (pc + 1) lv' st w) : GN l cc nL Ts own ret R γ AF ini QQ cells slots pc lv (.ref r :: st) w :=
  fun p e s m args below meth c K H locs ls hS hP hD hl => lv_astore_n K.1.1 K.1.2.1 hd rfl hl hn hl9 (fun ls' hl' => kk p e s m args below meth c K H locs ls' hS hP hD hl')
theorem n_dup {r : Addr} (hd : decode cc pc = .ok (.dup, 1)) (kk : GN l cc nL Ts own ret R γ AF ini QQ cells slots (pc + 1) lv (.ref r :: .ref r :: st) w) : GN l cc nL Ts own ret R γ AF ini QQ cells slots pc lv (.ref r :: st) w :=
  fun p e s m args below meth c K H locs ls hS hP hD hl => lv_dup K.1.1 K.1.2.1 hd rfl (kk p e s m args below meth c K H locs ls hS hP hD hl)
theorem n_obj {index : Nat} {r : Addr} (h1 : Cond.methodLink own index objectInit ∈ Ts) (h2 : Cond.instanceMethod objectInit ∈ Ts) (h3 : Cond.code objectInit ⟨#[0xb1]⟩ 1 none ∈ Ts) (hd : decode cc pc = .ok (.invokespecial index, 3)) (hf : 1 ≤ R.frames) (hL : (st.map fun v => v.category).sum + 12 ≤ R.locals) (kk : GN l cc nL Ts own ret R γ AF ini QQ cells slots (pc + 3) lv st w) : GN l cc nL Ts own ret R γ AF ini QQ cells slots pc lv (.ref r :: st) w := by
  intro p e s m args below meth c K H locs ls hS hP hD hl
  refine W.objInit K.1.1 K.1.2.1 K.1.2.2.2.1 (K.1.2.2.2.2 _ h1) (K.1.2.2.2.2 _ h2) (K.1.2.2.2.2 _ h3) rfl (hl.1.trans K.1.2.2.1.symm) rfl hd hf (show 2 * 0 + _ + 12 ≤ _ by omega) ?_
  exact kk p e s m args below meth c K H locs ls hS hP hD hl
end RowsN
