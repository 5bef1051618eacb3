/-! the law's methods: what they cost, calls that are caught, the script -/
def rmL (d mc ms : Nat) : Room := { frames := d + 8, cells := mc, slots := ms, locals := 40 * (d + 8) }
abbrev Lk (mc ms : Nat) (l : Launch) (y : MethodName) (ws : List Cond) (d : Nat) (γ : Gm) (av : List Value) (I : IT) (L : LT) (P : PT) (post : Int32 → IT → LT → Prop) : Prop := ∀ sz, Met l y ws (rmL d mc ms) (Pre γ sz av I L P) (va_Qi (uci post) (fun u t => WP γ (AA γ sz) u.1 u.2 P t.heap) (AA γ sz)) mc ms (AA γ sz)
abbrev Lf (mc ms : Nat) (l : Launch) (y : MethodName) (ws : List Cond) (d : Nat) (γ : Gm) (av : List Value) (I : IT) (L : LT) (P : PT) (post : UInt32 → IT → LT → Prop) : Prop := ∀ sz, Met l y ws (rmL d mc ms) (Pre γ sz av I L P) (va_Qf (uci post) (fun u t => WP γ (AA γ sz) u.1 u.2 P t.heap) (AA γ sz)) mc ms (AA γ sz)
abbrev QLi (γ : Gm) (P : PT) (post : Int32 → IT → LT → Prop) : List Frame → Array Value → State → State → Prop := fun below args s => vx_MQ below (va_Qi (uci post) (fun u t => WP γ (AA γ s.heap.size) u.1 u.2 P t.heap) (AA γ s.heap.size)) (fun _ _ _ => False) args s 1 6 (AA γ s.heap.size)
abbrev QLf (γ : Gm) (P : PT) (post : UInt32 → IT → LT → Prop) : List Frame → Array Value → State → State → Prop := fun below args s => vx_MQ below (va_Qf (uci post) (fun u t => WP γ (AA γ s.heap.size) u.1 u.2 P t.heap) (AA γ s.heap.size)) (fun _ _ _ => False) args s 1 6 (AA γ s.heap.size)
abbrev QKi (mc ms : Nat) (γ : Gm) (P : PT) (post : Int32 → IT → LT → Prop) : List Frame → Array Value → State → State → Prop := fun below args s => MQ below (va_Qi (uci post) (fun u t => WP γ (AA γ s.heap.size) u.1 u.2 P t.heap) (AA γ s.heap.size)) args s mc ms (AA γ s.heap.size)
abbrev E2 (hh : List (Nat × Nat × Nat × Nat)) : State → Code → Prop := fun _ c => c.exceptionTable.toList = tableOf hh
theorem met_of {l : Launch} {y : MethodName} {ws : List Cond} {rm : Room} {Pc : Array Value → State → Prop} {Qc : Array Value → State → Outcome → State → Prop} {mc ms : Nat} {free : Addr → Prop} (h : vx_Met l y ws rm Pc Qc (fun _ _ _ => False) mc ms free) : Met l y ws rm Pc Qc mc ms free := by
  intro p e ha hc hk s m args below hf happ hp hk'
  obtain ⟨n, o, h1, h2, h3, h4⟩ := h p e ha hc hk s m args below hf happ hp hk'
  refine ⟨n, o, h1, h2, h3, ?_⟩
  rcases h4 with h4 | ⟨q, -, E, ce, L, hF, -⟩
  · exact h4
  · exact hF.elim
theorem Lk_of {l : Launch} {y : MethodName} {ws ws' : List Cond} {cc : ByteArray} {maxL d : Nat} {ret : Option FieldType} {hh : List (Nat × Nat × Nat × Nat)} {γ : Gm} {av : List Value} {I : IT} {L : LT} {P : PT} {post : Int32 → IT → LT → Prop} {own : String} (hy : plainName y.cls = true) (ho : y.cls = own) (hw : ws = .codeWith y cc maxL ret hh :: ws') (hn : (lg_sl av).length ≤ maxL)
    (body : G (E2 hh) l cc maxL ws own ret (rmL d 1 6) γ P (AE γ) (QLi γ P post) 0 0 0 (lv_args 0 av) [] I L) : Lk 1 6 l y ws d γ av I L P post := by
  intro sz
  subst ho
  refine met_of (vx_ofWH hy hw ?_)
  intro p e s m args below meth c s₁ B hml hv
  obtain ⟨rfl, hsz, hF, hP, hD⟩ := hv
  subst hsz
  rw [lg_entry_eq]
  exact body p e s m _ below meth c ⟨⟨B.exec, B.bytes, hml, findClass_of_methodNamed B.named, atoms_spec B.pre⟩, hF, fun q h => Or.inr h, B.returns, B.notSynchronized, vx_table (x := y) B (atoms_spec B.pre _ (by rw [hw]; exact List.mem_cons_self))⟩ s.heap [] _ va_S.rf hP (hD.weaken (fun k q hk _ => by obtain ⟨h1, rfl⟩ := wl_of hk; exact Or.inl ⟨_, h1, rfl⟩)) (lv_entry av hn)
theorem Lf_of {l : Launch} {y : MethodName} {ws ws' : List Cond} {cc : ByteArray} {maxL d : Nat} {ret : Option FieldType} {hh : List (Nat × Nat × Nat × Nat)} {γ : Gm} {av : List Value} {I : IT} {L : LT} {P : PT} {post : UInt32 → IT → LT → Prop} {own : String} (hy : plainName y.cls = true) (ho : y.cls = own) (hw : ws = .codeWith y cc maxL ret hh :: ws') (hn : (lg_sl av).length ≤ maxL)
    (body : G (E2 hh) l cc maxL ws own ret (rmL d 1 6) γ P (AE γ) (QLf γ P post) 0 0 0 (lv_args 0 av) [] I L) : Lf 1 6 l y ws d γ av I L P post := by
  intro sz
  subst ho
  refine met_of (vx_ofWH hy hw ?_)
  intro p e s m args below meth c s₁ B hml hv
  obtain ⟨rfl, hsz, hF, hP, hD⟩ := hv
  subst hsz
  rw [lg_entry_eq]
  exact body p e s m _ below meth c ⟨⟨B.exec, B.bytes, hml, findClass_of_methodNamed B.named, atoms_spec B.pre⟩, hF, fun q h => Or.inr h, B.returns, B.notSynchronized, vx_table (x := y) B (atoms_spec B.pre _ (by rw [hw]; exact List.mem_cons_self))⟩ s.heap [] _ va_S.rf hP (hD.weaken (fun k q hk _ => by obtain ⟨h1, rfl⟩ := wl_of hk; exact Or.inl ⟨_, h1, rfl⟩)) (lv_entry av hn)
theorem Lk_ofp {mc ms : Nat} {l : Launch} {y : MethodName} {ws ws' : List Cond} {cc : ByteArray} {maxL d : Nat} {ret : Option FieldType} {γ : Gm} {av : List Value} {I : IT} {L : LT} {P : PT} {post : Int32 → IT → LT → Prop} {own : String} (hy : plainName y.cls = true) (ho : y.cls = own) (hw : ws = .code y cc maxL ret :: ws') (hn : (lg_sl av).length ≤ maxL)
    (body : G E0 l cc maxL ws own ret (rmL d mc ms) γ P (AE γ) (QKi mc ms γ P post) 0 0 0 (lv_args 0 av) [] I L) : Lk mc ms l y ws d γ av I L P post := by
  intro sz
  subst ho
  refine Met.ofW hy hw ?_
  intro p e s m args below meth c s₁ B hml hv
  obtain ⟨rfl, hsz, hF, hP, hD⟩ := hv
  subst hsz
  rw [lg_entry_eq]
  exact body p e s m _ below meth c ⟨⟨B.exec, B.bytes, hml, findClass_of_methodNamed B.named, atoms_spec B.pre⟩, hF, fun q h => Or.inr h, B.returns, B.notSynchronized, trivial⟩ s.heap [] _ va_S.rf hP (hD.weaken (fun k q hk _ => by obtain ⟨h1, rfl⟩ := wl_of hk; exact Or.inl ⟨_, h1, rfl⟩)) (lv_entry av hn)
/-- where E is caught -/
def CatchAt (own : String) (Ts : List Cond) (hh : List (Nat × Nat × Nat × Nat)) (E : String) (pc hpc : Nat) : Prop :=
  ∃ (pre : List ExceptionTableEntry) (x : ExceptionTableEntry) (suf : List ExceptionTableEntry), tableOf hh = pre ++ x :: suf ∧ (∀ z ∈ pre, z.catchType ≠ 0 ∧ ∃ nm : String, Cond.classLink own z.catchType nm ∈ Ts ∧ (E, nm) ∈ nwX) ∧ covers x pc = true ∧ x.catchType ≠ 0 ∧ Cond.classLink own x.catchType E ∈ Ts ∧ E ∈ nwE ∧ x.handlerPc = hpc
section RowsL2
variable {EX : State → Code → Prop} {l : Launch} {cc : ByteArray} {nL : Nat} {Ts : List Cond} {own : String} {ret : Option FieldType} {R : Room} {γ : Gm} {P : PT} {AF : State → Nat → Prop} {QQ : List Frame → Array Value → State → State → Prop} {cells slots : Nat} {pc : Nat} {lv : List (Nat × Value)} {st : List Value} {I : IT} {L : LT} {hh : List (Nat × Nat × Nat × Nat)}
theorem g_caught {E : String} {hpc : Nat} {xp : String → IT → LT → Prop} (hC : CatchAt own Ts hh E pc hpc) {p : Program} {e : Env} {s : State} {m : MethodId} {args : Array Value} {below : List Frame} {meth : Method} {c : Code} (K : Cx (E2 hh) cc nL Ts own ret γ AF p s m args meth c) {H : Heap} {locs : List Loc} {ls : Array Slot} {ce : Cell} {q9 : Addr} {rest : List Value} {Q : State → Prop} (hcell : H[q9]? = some ce) (hv : ce.vm = .none) (hcl : s.vm.findClass E = some ce.cls)
    (kk : W p l e R s m args below meth c H locs cells slots Q (F0 m hpc ls [.ref q9])) : vx_W p l e R s m args below meth c H locs cells slots Q (F0 m pc ls rest) q9 := by
  obtain ⟨pre, x, suf, ht, hp, hx, h0, hl, hE, rfl⟩ := hC
  refine vx_catch (own := own) (name := E) (E := E) K.1.2.2.2.1 pre x suf (K.2.2.2.2.2.trans ht) (fun z hz => ?_) hx h0 (K.1.2.2.2.2 _ hl) (va_Nw.use rfl (K.2.1.2.2.2.2.2.2.2.1 E hE)) hcell hv hcl kk
  obtain ⟨h1, nm, h2, h3⟩ := hp z hz
  exact Or.inr ⟨h1, nm, K.1.2.2.2.2 _ h2, K.2.1.2.2.2.2.2.2.2.2 _ h3⟩
theorem g_xci {C : String} {T : u_T} {N ci index maxL d : Nat} {fs As stk : List Value} {y : MethodName} {bytes : ByteArray} {rt : Option FieldType} {ws ws' : List Cond} {xp : String → IT → LT → Prop} {post : Int32 → IT → LT → Prop} (k : Nat) (hk : k < 8 ∨ 12 ≤ k ∧ k < 20 ∨ 29 ≤ k ∧ k < 71) (he : ee γ I L P k = .inr (ci, fs)) (hc : vwCl[ci]? = some (C, T, N)) (hM : Xi l y ws d γ (.ref (γ.2.2 k) :: As) I L P xp post) (hG : GoodIn Ts (wsV own index C y ws)) (hw : ws = .code y bytes maxL rt :: ws')
    (hy : y.cls = C ∧ y.cls ≠ "java/lang/invoke/MethodHandle" ∧ y.cls ≠ "java/lang/invoke/VarHandle" ∧ (parseMethodDescriptor y.desc).map (fun d => d.parameters.length) = some As.length) (hR : d + 9 ≤ R.frames ∧ 8 + (maxL + 11) + 40 * (d + 8) ≤ R.locals) (hst : stk = As.reverse ++ .ref (γ.2.2 k) :: st) (hcat : (st.map fun v => v.category).sum ≤ 8) (hd : decode cc pc = .ok (.invokevirtual index, 3)) (hcs : cells + 1 ≤ R.cells ∧ slots + 6 ≤ R.slots)
    (kx : ∀ E I' L', xp E I' L' → ∃ hpc, CatchAt own Ts hh E pc hpc ∧ ∀ q9, G (E2 hh) l cc nL Ts own ret R γ P AF QQ (cells + 1) (slots + 6) hpc lv [.ref q9] I' L')
    (kk : ∀ r I' L', post r I' L' → G (E2 hh) l cc nL Ts own ret R γ P AF QQ (cells + 1) (slots + 6) (pc + 3) lv (.int r :: st) I' L') : G (E2 hh) l cc nL Ts own ret R γ P AF QQ cells slots pc lv stk I L := by
  intro p e s m args below meth c K H locs ls hS hP hD hl
  have hAA := AA_in hD K.2.2.1 hS.1
  have hr := vx_runV (As := As) (rest := st) (g := F0 m pc ls stk) (cells := cells) (slots := slots) (e := e) (below := below) (locs := locs) (meth := meth) K.1 (hM H.size) (cwV As.length K.1.2.2.2.2 hG hw rfl rfl hy hR) ⟨Pre.blind, va_recv K.2.1.1 hP hc (q0 := px k) (by rw [wl_get hk, he]), fun U hU hW => pre_at K hS hP hD hU hW⟩ rfl rfl hl.1 hst (lv_room hcat) hd hcs
  refine vx_calli hr hS (fun q _ h => hAA q h) hAA (fun q _ h => hAA q h) (fun E ce q9 u t H1 locs1 ht hvm _ hB hz hk9 hS1 hce hcv hcl => ?_) (fun r u t H1 locs1 ht hvm hp hB hz hk9 hS1 => ?_)
  · obtain ⟨hx9, hP1, hD1⟩ := hB
    rw [ht] at hP1
    obtain ⟨hpc, hC, kq⟩ := kx E u.1 u.2 hx9
    exact g_caught (xp := xp) hC K hce hcv hcl (kq q9 p e s m args below meth c K H1 locs1 ls hS1 hP1 (hD1.weaken (fun _ q _ h => hAA q.1 h)) hl)
  · obtain ⟨hP1, hD1⟩ := hB
    rw [ht] at hP1
    exact kk r u.1 u.2 hp p e s m args below meth c K H1 locs1 ls hS1 hP1 (hD1.weaken (fun _ q _ h => hAA q.1 h)) hl
theorem g_xcf {C : String} {T : u_T} {N ci index maxL d : Nat} {fs As stk : List Value} {y : MethodName} {bytes : ByteArray} {rt : Option FieldType} {ws ws' : List Cond} {xp : String → IT → LT → Prop} {post : UInt32 → IT → LT → Prop} (k : Nat) (hk : k < 8 ∨ 12 ≤ k ∧ k < 20 ∨ 29 ≤ k ∧ k < 71) (he : ee γ I L P k = .inr (ci, fs)) (hc : vwCl[ci]? = some (C, T, N)) (hM : Xf l y ws d γ (.ref (γ.2.2 k) :: As) I L P xp post) (hG : GoodIn Ts (wsV own index C y ws)) (hw : ws = .code y bytes maxL rt :: ws')
    (hy : y.cls = C ∧ y.cls ≠ "java/lang/invoke/MethodHandle" ∧ y.cls ≠ "java/lang/invoke/VarHandle" ∧ (parseMethodDescriptor y.desc).map (fun d => d.parameters.length) = some As.length) (hR : d + 9 ≤ R.frames ∧ 8 + (maxL + 11) + 40 * (d + 8) ≤ R.locals) (hst : stk = As.reverse ++ .ref (γ.2.2 k) :: st) (hcat : (st.map fun v => v.category).sum ≤ 8) (hd : decode cc pc = .ok (.invokevirtual index, 3)) (hcs : cells + 1 ≤ R.cells ∧ slots + 6 ≤ R.slots)
    (kx : ∀ E I' L', xp E I' L' → ∃ hpc, CatchAt own Ts hh E pc hpc ∧ ∀ q9, G (E2 hh) l cc nL Ts own ret R γ P AF QQ (cells + 1) (slots + 6) hpc lv [.ref q9] I' L')
    (kk : ∀ r I' L', post r I' L' → G (E2 hh) l cc nL Ts own ret R γ P AF QQ (cells + 1) (slots + 6) (pc + 3) lv (.float r :: st) I' L') : G (E2 hh) l cc nL Ts own ret R γ P AF QQ cells slots pc lv stk I L := by
  intro p e s m args below meth c K H locs ls hS hP hD hl
  have hAA := AA_in hD K.2.2.1 hS.1
  have hr := vx_runV (As := As) (rest := st) (g := F0 m pc ls stk) (cells := cells) (slots := slots) (e := e) (below := below) (locs := locs) (meth := meth) K.1 (hM H.size) (cwV As.length K.1.2.2.2.2 hG hw rfl rfl hy hR) ⟨Pre.blind, va_recv K.2.1.1 hP hc (q0 := px k) (by rw [wl_get hk, he]), fun U hU hW => pre_at K hS hP hD hU hW⟩ rfl rfl hl.1 hst (lv_room hcat) hd hcs
  refine vx_callf hr hS (fun q _ h => hAA q h) hAA (fun q _ h => hAA q h) (fun E ce q9 u t H1 locs1 ht hvm _ hB hz hk9 hS1 hce hcv hcl => ?_) (fun r u t H1 locs1 ht hvm hp hB hz hk9 hS1 => ?_)
  · obtain ⟨hx9, hP1, hD1⟩ := hB
    rw [ht] at hP1
    obtain ⟨hpc, hC, kq⟩ := kx E u.1 u.2 hx9
    exact g_caught (xp := xp) hC K hce hcv hcl (kq q9 p e s m args below meth c K H1 locs1 ls hS1 hP1 (hD1.weaken (fun _ q _ h => hAA q.1 h)) hl)
  · obtain ⟨hP1, hD1⟩ := hB
    rw [ht] at hP1
    exact kk r u.1 u.2 hp p e s m args below meth c K H1 locs1 ls hS1 hP1 (hD1.weaken (fun _ q _ h => hAA q.1 h)) hl
/-- ends -/
theorem g_liret {post : Int32 → IT → LT → Prop} {r : Int32} (hd : decode cc pc = .ok (.ireturn, 1)) (hp : post r I L) : G EX l cc nL Ts own (some .int) R γ P (AE γ) (QLi γ P post) 1 6 pc lv [.int r] I L :=
  fun p e s m args below meth c K H locs ls hS hP hD hl => vx_ret (W.iret K.1.1 K.1.2.1 K.2.2.2.1 (fun t ht hW => ⟨⟨r, (I, L), rfl, hp, by show WP γ _ I L P t.heap; rw [ht]; exact ⟨hP, hD⟩⟩, hS.F ht⟩) hS.2.2 hd K.2.2.2.2.1)
theorem g_lfret {post : UInt32 → IT → LT → Prop} {r : UInt32} (hd : decode cc pc = .ok (.freturn, 1)) (hp : post r I L) : G EX l cc nL Ts own (some .float) R γ P (AE γ) (QLf γ P post) 1 6 pc lv [.float r] I L :=
  fun p e s m args below meth c K H locs ls hS hP hD hl => vx_ret (W.fret K.1.1 K.1.2.1 K.2.2.2.1 (fun t ht hW => ⟨⟨r, (I, L), rfl, hp, by show WP γ _ I L P t.heap; rw [ht]; exact ⟨hP, hD⟩⟩, hS.F ht⟩) hS.2.2 hd K.2.2.2.2.1)
theorem g_kzret {mc ms : Nat} {post : Int32 → IT → LT → Prop} {r : Int32} (h1 : cells ≤ mc) (h2 : slots ≤ ms) (hn : narrow .boolean (.int r) = .int r) (hd : decode cc pc = .ok (.ireturn, 1)) (hp : post r I L) : G EX l cc nL Ts own (some .boolean) R γ P (AE γ) (QKi mc ms γ P post) cells slots pc lv [.int r] I L :=
  fun p e s m args below meth c K H locs ls hS hP hD hl => w_wide h1 h2 (W.zret K.1.1 K.1.2.1 K.2.2.2.1 hn (fun t ht hW => ⟨⟨r, (I, L), rfl, hp, by show WP γ _ I L P t.heap; rw [ht]; exact ⟨hP, hD⟩⟩, hS.F ht⟩) hS.2.2 hd K.2.2.2.2.1)
theorem g_pop {v : Value} (hd : decode cc pc = .ok (.pop, 1)) (hv : v.category = 1) (kk : G EX l cc nL Ts own ret R γ P AF QQ cells slots (pc + 1) lv st I L) : G EX l cc nL Ts own ret R γ P AF QQ cells slots pc lv (v :: st) I L :=
  fun p e s m args below meth c K H locs ls hS hP hD hl => lv_pop K.1.1 K.1.2.1 hd hv (kk p e s m args below meth c K H locs ls hS hP hD hl)
theorem gz_gt {a : Nat} {off : Int} {tgt : Nat} (hd : decode cc pc = .ok (.ifCond .gt off, 3)) (ht : (pc : Int) + off = (tgt : Int)) (ha : a < 2 ^ 31) (kt : 0 < a → G EX l cc nL Ts own ret R γ P AF QQ cells slots tgt lv st I L) (kf : a = 0 → G EX l cc nL Ts own ret R γ P AF QQ cells slots (pc + 3) lv st I L) : G EX l cc nL Ts own ret R γ P AF QQ cells slots pc lv (.int (nI a) :: st) I L :=
  g_if_gt hd ht (fun h => kt (Nat.pos_of_ne_zero (fun q => by subst q; exact absurd h (by decide)))) (fun h => kf (by
    rcases Nat.eq_zero_or_pos a with q | q
    · exact q
    · exact absurd (by rw [← nI_0]; exact (nI_ltI (by decide) ha).mpr q) h))
theorem g_fcmp {x y : UInt32} {op : CmpOp} {v : Int32} (hd : decode cc pc = .ok (.fcmp op, 1)) (hv : Op.cmpValue (FP.fcmp x y) op = v) (kk : G EX l cc nL Ts own ret R γ P AF QQ cells slots (pc + 1) lv (.int v :: st) I L) : G EX l cc nL Ts own ret R γ P AF QQ cells slots pc lv (.float y :: .float x :: st) I L := by
  subst hv
  exact fun p e s m args below meth c K H locs ls hS hP hD hl => lv_fcmp K.1.1 K.1.2.1 hd (kk p e s m args below meth c K H locs ls hS hP hD hl)
/-- calls of the law's own methods -/
theorem g_cl {mc ms index maxL d : Nat} {As stk : List Value} {y : MethodName} {bytes : ByteArray} {rt : Option FieldType} {hh : List (Nat × Nat × Nat × Nat)} {ws ws' : List Cond} {post : Int32 → IT → LT → Prop} (hM : Lk mc ms l y ws d γ As I L P post) (hG : GoodIn Ts (va_wsS own index y ws)) (hw : ws = .codeWith y bytes maxL rt hh :: ws')
    (hy : y.cls ≠ "java/lang/invoke/MethodHandle" ∧ y.cls ≠ "java/lang/invoke/VarHandle" ∧ (parseMethodDescriptor y.desc).map (fun d => d.parameters.length) = some As.length) (hR : d + 9 ≤ R.frames ∧ 8 + (maxL + 11) + 40 * (d + 8) ≤ R.locals) (hst : stk = As.reverse ++ st) (hcat : (st.map fun v => v.category).sum ≤ 8) (hd : decode cc pc = .ok (.invokestatic index, 3)) (hcs : cells + mc ≤ R.cells ∧ slots + ms ≤ R.slots)
    (kk : ∀ r I' L', post r I' L' → G EX l cc nL Ts own ret R γ P AF QQ (cells + mc) (slots + ms) (pc + 3) lv (.int r :: st) I' L') : G EX l cc nL Ts own ret R γ P AF QQ cells slots pc lv stk I L := by
  intro p e s m args below meth c K H locs ls hS hP hD hl
  have hAA := AA_in hD K.2.2.1 hS.1
  have hr := vx_runSW (As := As) (rest := st) (g := F0 m pc ls stk) (cells := cells) (slots := slots) (e := e) (below := below) (locs := locs) (meth := meth) K.1 (hM H.size) (vx_cwSW As.length K.1.2.2.2.2 hG hw rfl rfl hy hR) ⟨Pre.blind, fun U hU hW => pre_at K hS hP hD hU hW⟩ rfl rfl hl.1 hst (lv_room hcat) hd hcs
  refine va_calli hr hS (fun q _ h => hAA q h) hAA (fun r u t H1 locs1 ht hvm hp hB hz hk hS1 => ?_)
  obtain ⟨hP1, hD1⟩ := hB
  rw [ht] at hP1
  exact kk r u.1 u.2 hp p e s m args below meth c K H1 locs1 ls hS1 hP1 (hD1.weaken (fun _ q _ h => hAA q.1 h)) hl
theorem g_clf {mc ms index maxL d : Nat} {As stk : List Value} {y : MethodName} {bytes : ByteArray} {rt : Option FieldType} {hh : List (Nat × Nat × Nat × Nat)} {ws ws' : List Cond} {post : UInt32 → IT → LT → Prop} (hM : Lf mc ms l y ws d γ As I L P post) (hG : GoodIn Ts (va_wsS own index y ws)) (hw : ws = .codeWith y bytes maxL rt hh :: ws')
    (hy : y.cls ≠ "java/lang/invoke/MethodHandle" ∧ y.cls ≠ "java/lang/invoke/VarHandle" ∧ (parseMethodDescriptor y.desc).map (fun d => d.parameters.length) = some As.length) (hR : d + 9 ≤ R.frames ∧ 8 + (maxL + 11) + 40 * (d + 8) ≤ R.locals) (hst : stk = As.reverse ++ st) (hcat : (st.map fun v => v.category).sum ≤ 8) (hd : decode cc pc = .ok (.invokestatic index, 3)) (hcs : cells + mc ≤ R.cells ∧ slots + ms ≤ R.slots)
    (kk : ∀ r I' L', post r I' L' → G EX l cc nL Ts own ret R γ P AF QQ (cells + mc) (slots + ms) (pc + 3) lv (.float r :: st) I' L') : G EX l cc nL Ts own ret R γ P AF QQ cells slots pc lv stk I L := by
  intro p e s m args below meth c K H locs ls hS hP hD hl
  have hAA := AA_in hD K.2.2.1 hS.1
  have hr := vx_runSW (As := As) (rest := st) (g := F0 m pc ls stk) (cells := cells) (slots := slots) (e := e) (below := below) (locs := locs) (meth := meth) K.1 (hM H.size) (vx_cwSW As.length K.1.2.2.2.2 hG hw rfl rfl hy hR) ⟨Pre.blind, fun U hU hW => pre_at K hS hP hD hU hW⟩ rfl rfl hl.1 hst (lv_room hcat) hd hcs
  refine va_callf hr hS (fun q _ h => hAA q h) hAA (fun r u t H1 locs1 ht hvm hp hB hz hk hS1 => ?_)
  obtain ⟨hP1, hD1⟩ := hB
  rw [ht] at hP1
  exact kk r u.1 u.2 hp p e s m args below meth c K H1 locs1 ls hS1 hP1 (hD1.weaken (fun _ q _ h => hAA q.1 h)) hl
theorem g_ck {mc ms index maxL d : Nat} {As stk : List Value} {y : MethodName} {bytes : ByteArray} {rt : Option FieldType} {ws ws' : List Cond} {post : Int32 → IT → LT → Prop} (hM : Lk mc ms l y ws d γ As I L P post) (hG : GoodIn Ts (va_wsS own index y ws)) (hw : ws = .code y bytes maxL rt :: ws')
    (hy : y.cls ≠ "java/lang/invoke/MethodHandle" ∧ y.cls ≠ "java/lang/invoke/VarHandle" ∧ (parseMethodDescriptor y.desc).map (fun d => d.parameters.length) = some As.length) (hR : d + 9 ≤ R.frames ∧ 8 + (maxL + 11) + 40 * (d + 8) ≤ R.locals) (hst : stk = As.reverse ++ st) (hcat : (st.map fun v => v.category).sum ≤ 8) (hd : decode cc pc = .ok (.invokestatic index, 3)) (hcs : cells + mc ≤ R.cells ∧ slots + ms ≤ R.slots)
    (kk : ∀ r I' L', post r I' L' → G EX l cc nL Ts own ret R γ P AF QQ (cells + mc) (slots + ms) (pc + 3) lv (.int r :: st) I' L') : G EX l cc nL Ts own ret R γ P AF QQ cells slots pc lv stk I L := by
  intro p e s m args below meth c K H locs ls hS hP hD hl
  have hAA := AA_in hD K.2.2.1 hS.1
  have ok : ∀ w ∈ va_wsS own index y ws, w.before args s = true := fun w h => K.1.2.2.2.2 w (hG w h).1
  have hr := va_runS (As := As) (rest := st) (g := F0 m pc ls stk) (cells := cells) (slots := slots) (e := e) (below := below) (locs := locs) (meth := meth) K.1 (hM H.size) ⟨callB_of As.length K.1.2.2.2.2 (fun w h => hG w (by unfold va_wsS; exact List.mem_append_right _ h)) hw rfl rfl (ok _ (by simp [va_wsS])) (ok _ (by simp [va_wsS])) hy hR, ok _ (by simp [va_wsS])⟩ ⟨Pre.blind, fun U hU hW => pre_at K hS hP hD hU hW⟩ rfl rfl hl.1 hst (lv_room hcat) hd hcs
  refine va_calli hr hS (fun q _ h => hAA q h) hAA (fun r u t H1 locs1 ht hvm hp hB hz hk hS1 => ?_)
  obtain ⟨hP1, hD1⟩ := hB
  rw [ht] at hP1
  exact kk r u.1 u.2 hp p e s m args below meth c K H1 locs1 ls hS1 hP1 (hD1.weaken (fun _ q _ h => hAA q.1 h)) hl
end RowsL2
/-! the script -/
def PreX (γ : Gm) (sz b Ln : Nat) (xs : Nat → Int32) (av : List Value) (I : IT) (L : LT) (P : PT) : Array Value → State → Prop := va_Pc av (fun U => (U.heap.size = sz ∧ Fx γ (AA γ sz) U ∧ WP γ (fun _ => True) I L P U.heap) ∧ va_X b Ln xs U U.heap ∧ b < sz ∧ ¬ AA γ sz b)
theorem PreX.blind {γ : Gm} {sz b Ln : Nat} {xs : Nat → Int32} {av : List Value} {I : IT} {L : LT} {P : PT} : FrameBlind (PreX γ sz b Ln xs av I L P) := fun _ _ _ _ q => ⟨q.1, ⟨q.2.1.1, q.2.1.2.1.calling, q.2.1.2.2⟩, va_X.moved (Vm.Alike.refl _) q.2.2.1, q.2.2.2⟩
abbrev Lx (l : Launch) (y : MethodName) (ws : List Cond) (d : Nat) (γ : Gm) (b Ln : Nat) (xs : Nat → Int32) (av : List Value) (I : IT) (L : LT) (P : PT) (post : Int32 → IT → LT → Prop) : Prop := ∀ sz, Met l y ws (rmL d 0 0) (PreX γ sz b Ln xs av I L P) (va_Qi (uci post) (fun u t => WP γ (AA γ sz) u.1 u.2 P t.heap) (AA γ sz)) 0 0 (AA γ sz)
abbrev EXc (γ : Gm) (b Ln : Nat) (xs : Nat → Int32) : State → Code → Prop := fun s _ => va_X b Ln xs s s.heap ∧ b < s.heap.size ∧ ¬ AA γ s.heap.size b
def ELw (b Ln : Nat) (xs : Nat → Int32) : State → Code → Prop := fun s _ => va_X b Ln xs s s.heap ∧ b < s.heap.size ∧ Ln ≤ 260
def ALw : State → Nat → Prop := fun s q => s.heap.size ≤ q
theorem Lx_of {l : Launch} {y : MethodName} {ws ws' : List Cond} {cc : ByteArray} {maxL d : Nat} {ret : Option FieldType} {γ : Gm} {b Ln : Nat} {xs : Nat → Int32} {av : List Value} {I : IT} {L : LT} {P : PT} {post : Int32 → IT → LT → Prop} {own : String} (hy : plainName y.cls = true) (ho : y.cls = own) (hw : ws = .code y cc maxL ret :: ws') (hn : (lg_sl av).length ≤ maxL)
    (body : G (EXc γ b Ln xs) l cc maxL ws own ret (rmL d 0 0) γ P (AE γ) (QKi 0 0 γ P post) 0 0 0 (lv_args 0 av) [] I L) : Lx l y ws d γ b Ln xs av I L P post := by
  intro sz
  subst ho
  refine Met.ofW hy hw ?_
  intro p e s m args below meth c s₁ B hml hv
  obtain ⟨rfl, ⟨hsz, hF, hP, hD⟩, hX⟩ := hv
  subst hsz
  rw [lg_entry_eq]
  exact body p e s m _ below meth c ⟨⟨B.exec, B.bytes, hml, findClass_of_methodNamed B.named, atoms_spec B.pre⟩, hF, fun q h => Or.inr h, B.returns, B.notSynchronized, hX⟩ s.heap [] _ va_S.rf hP (hD.weaken (fun k q hk _ => by obtain ⟨h1, rfl⟩ := wl_of hk; exact Or.inl ⟨_, h1, rfl⟩)) (lv_entry av hn)
section RowsX2
variable {EX : State → Code → Prop} {l : Launch} {cc : ByteArray} {nL : Nat} {Ts : List Cond} {own : String} {ret : Option FieldType} {R : Room} {γ : Gm} {P : PT} {AF : State → Nat → Prop} {QQ : List Frame → Array Value → State → State → Prop} {cells slots : Nat} {pc : Nat} {lv : List (Nat × Value)} {st : List Value} {I : IT} {L : LT} {hh : List (Nat × Nat × Nat × Nat)}
theorem g_sld {b Ln : Nat} {xs : Nat → Int32} (i : Nat) (hi : i < Ln) (h31 : i < 2 ^ 31) (hd : decode cc pc = .ok (.iaload, 1)) (kk : G (EXc γ b Ln xs) l cc nL Ts own ret R γ P (AE γ) QQ cells slots (pc + 1) lv (.int (xs i) :: st) I L) : G (EXc γ b Ln xs) l cc nL Ts own ret R γ P (AE γ) QQ cells slots pc lv (.int (nI i) :: .ref b :: st) I L := by
  intro p e s m args below meth c K H locs ls hS hP hD hl
  obtain ⟨hX, hb, hA⟩ := K.2.2.2.2.2
  refine va_sld K.1.1 K.1.2.1 hX hb hA hS (by
    intro q
    rcases q with q | q
    · exact nI_pos h31 q
    · rw [nI_clamp h31] at q; omega) hd ?_
  rw [nI_clamp h31]
  exact kk p e s m args below meth c K H locs ls hS hP hD hl
theorem g_slen {b Ln : Nat} {xs : Nat → Int32} (hd : decode cc pc = .ok (.arraylength, 1)) (kk : G (EXc γ b Ln xs) l cc nL Ts own ret R γ P (AE γ) QQ cells slots (pc + 1) lv (.int (nI Ln) :: st) I L) : G (EXc γ b Ln xs) l cc nL Ts own ret R γ P (AE γ) QQ cells slots pc lv (.ref b :: st) I L := by
  intro p e s m args below meth c K H locs ls hS hP hD hl
  obtain ⟨hX, hb, hA⟩ := K.2.2.2.2.2
  exact va_slen K.1.1 K.1.2.1 hX hb hA hS hd (kk p e s m args below meth c K H locs ls hS hP hD hl)
theorem g_kiret {mc ms : Nat} {post : Int32 → IT → LT → Prop} {r : Int32} (h1 : cells ≤ mc) (h2 : slots ≤ ms) (hd : decode cc pc = .ok (.ireturn, 1)) (hp : post r I L) : G EX l cc nL Ts own (some .int) R γ P (AE γ) (QKi mc ms γ P post) cells slots pc lv [.int r] I L :=
  fun p e s m args below meth c K H locs ls hS hP hD hl => w_wide h1 h2 (W.iret K.1.1 K.1.2.1 K.2.2.2.1 (fun t ht hW => ⟨⟨r, (I, L), rfl, hp, by show WP γ _ I L P t.heap; rw [ht]; exact ⟨hP, hD⟩⟩, hS.F ht⟩) hS.2.2 hd K.2.2.2.2.1)
theorem prex_at {b Ln : Nat} {xs : Nat → Int32} {p : Program} {s U : State} {m : MethodId} {args : Array Value} {meth : Method} {c : Code} {H : Heap} {locs : List Loc} {av : List Value} (K : Cx (ELw b Ln xs) cc nL Ts own ret γ ALw p s m args meth c) (hS : va_S (ALw s) s.heap H locs) (hP : va_P γ.1 vwCl (wd γ I L P) H) (hD : va_D (ALw s) (wd γ I L P)) (hU : U.heap = H) (hW : s.WarmedH U.vm) : PreX γ H.size b Ln xs av I L P av.toArray U := by
  obtain ⟨hX, hb, hL⟩ := K.2.2.2.2.2
  have q := pre_at (av := av) K hS hP hD hU hW
  refine ⟨rfl, q.2, ?_, Nat.lt_of_lt_of_le hb hS.1, ?_⟩
  · rw [hU]
    exact (hX.moved hW.alike).kept (hS.2.1 b hb (fun h => absurd hb (Nat.not_lt.mpr h)))
  · rintro (⟨i, hi, e⟩ | h)
    · have h1 : s.heap.size ≤ γ.2.2 i := hD.2 (px i) _ (wl_get hi)
      omega
    · exact absurd (Nat.lt_of_lt_of_le hb hS.1) (Nat.not_lt.mpr h)
theorem g_cx {b Ln : Nat} {xs : Nat → Int32} {index maxL d : Nat} {As stk : List Value} {y : MethodName} {bytes : ByteArray} {rt : Option FieldType} {ws ws' : List Cond} {post : Int32 → IT → LT → Prop} (hM : Lx l y ws d γ b Ln xs As I L P post) (hG : GoodIn Ts (va_wsS own index y ws)) (hw : ws = .code y bytes maxL rt :: ws')
    (hy : y.cls ≠ "java/lang/invoke/MethodHandle" ∧ y.cls ≠ "java/lang/invoke/VarHandle" ∧ (parseMethodDescriptor y.desc).map (fun d => d.parameters.length) = some As.length) (hR : d + 9 ≤ R.frames ∧ 8 + (maxL + 11) + 40 * (d + 8) ≤ R.locals) (hst : stk = As.reverse ++ st) (hcat : (st.map fun v => v.category).sum ≤ 8) (hd : decode cc pc = .ok (.invokestatic index, 3)) (hcs : cells + 0 ≤ R.cells ∧ slots + 0 ≤ R.slots)
    (kk : ∀ r I' L', post r I' L' → G (ELw b Ln xs) l cc nL Ts own ret R γ P ALw QQ cells slots (pc + 3) lv (.int r :: st) I' L') : G (ELw b Ln xs) l cc nL Ts own ret R γ P ALw QQ cells slots pc lv stk I L := by
  intro p e s m args below meth c K H locs ls hS hP hD hl
  have hAA := AA_in hD K.2.2.1 hS.1
  have ok : ∀ w ∈ va_wsS own index y ws, w.before args s = true := fun w h => K.1.2.2.2.2 w (hG w h).1
  have hr := va_runS (As := As) (rest := st) (g := F0 m pc ls stk) (cells := cells) (slots := slots) (e := e) (below := below) (locs := locs) (meth := meth) K.1 (hM H.size) ⟨callB_of As.length K.1.2.2.2.2 (fun w h => hG w (by unfold va_wsS; exact List.mem_append_right _ h)) hw rfl rfl (ok _ (by simp [va_wsS])) (ok _ (by simp [va_wsS])) hy hR, ok _ (by simp [va_wsS])⟩ ⟨PreX.blind, fun U hU hW => prex_at K hS hP hD hU hW⟩ rfl rfl hl.1 hst (lv_room hcat) hd hcs
  refine va_calli hr hS (fun q _ h => hAA q h) hAA (fun r u t H1 locs1 ht hvm hp hB hz hk hS1 => ?_)
  obtain ⟨hP1, hD1⟩ := hB
  rw [ht] at hP1
  exact kk r u.1 u.2 hp p e s m args below meth c K H1 locs1 ls hS1 hP1 (hD1.weaken (fun _ q _ h => hAA q.1 h)) hl
end RowsX2
theorem fself {x : UInt32} (h : vf_n32 x) : Op.cmpValue (FP.fcmp x x) .l = 0 := by
  have h1 : FP.cmpInt (-1) (FP.fcmp x x) = 0 := Jvm.Free.Fl.fcmp_of_noNaN32 h
  revert h1
  generalize FP.fcmp x x = o
  intro h1
  match o, h1 with
  | none, h1 => exact h1
  | some .lt, h1 => exact h1
  | some .eq, h1 => exact h1
  | some .gt, h1 => exact h1
