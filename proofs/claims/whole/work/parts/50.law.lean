/-! the law's wrappers: calls that are caught -/
def QL (γ : Gm) (post : Int32 → IT → LT → PT → Prop) (sz : Nat) : Array Value → State → Outcome → State → Prop := va_Qi (fun r (u : ST × PT) => post r u.1.1 u.1.2 u.2) (fun u t => WP γ (AA γ sz) u.1.1 u.1.2 u.2 t.heap) (AA γ sz)
abbrev Li (l : Launch) (y : MethodName) (ws : List Cond) (d : Nat) (γ : Gm) (av : List Value) (I : IT) (L : LT) (P : PT) (post : Int32 → IT → LT → PT → Prop) : Prop := ∀ sz, Met l y ws (rmx d) (Pre γ sz av I L P) (QL γ post sz) 1 6 (AA γ sz)
abbrev QLi (γ : Gm) (post : Int32 → IT → LT → PT → Prop) : List Frame → Array Value → State → State → Prop := fun below args s => vx_MQ below (QL γ post s.heap.size) (fun _ _ _ => False) args s 1 6 (AA γ s.heap.size)
abbrev E2 (hh : List (Nat × Nat × Nat × Nat)) : State → Code → Prop := fun _ c => c.exceptionTable.toList = tableOf hh
theorem met_of {l : Launch} {y : MethodName} {ws : List Cond} {rm : Room} {Pc : Array Value → State → Prop} {Qc : Array Value → State → Outcome → State → Prop} {mc ms : Nat} {free : Addr → Prop} (h : vx_Met l y ws rm Pc Qc (fun _ _ _ => False) mc ms free) : Met l y ws rm Pc Qc mc ms free := by
  intro p e ha hc hk s m args below hf happ hp hk'
  obtain ⟨n, o, h1, h2, h3, h4⟩ := h p e ha hc hk s m args below hf happ hp hk'
  refine ⟨n, o, h1, h2, h3, ?_⟩
  rcases h4 with h4 | ⟨q, -, E, ce, L, hF, -⟩
  · exact h4
  · exact hF.elim
theorem Li_of {l : Launch} {y : MethodName} {ws ws' : List Cond} {cc : ByteArray} {maxL d : Nat} {ret : Option FieldType} {hh : List (Nat × Nat × Nat × Nat)} {γ : Gm} {av : List Value} {I : IT} {L : LT} {P : PT} {post : Int32 → IT → LT → PT → Prop} {own : String} (hy : plainName y.cls = true) (ho : y.cls = own) (hw : ws = .codeWith y cc maxL ret hh :: ws') (hn : (lg_sl av).length ≤ maxL)
    (body : G (E2 hh) l cc maxL ws own ret (rmx d) γ P (AE γ) (QLi γ post) 0 0 0 (lv_args 0 av) [] I L) : Li l y ws d γ av I L P post := by
  intro sz
  subst ho
  refine met_of (vx_ofWH hy hw ?_)
  intro p e s m args below meth c s₁ B hml hv
  obtain ⟨rfl, hsz, hF, hP, hD⟩ := hv
  subst hsz
  rw [lg_entry_eq]
  exact body p e s m _ below meth c ⟨⟨B.exec, B.bytes, hml, findClass_of_methodNamed B.named, atoms_spec B.pre⟩, hF, fun q h => Or.inr h, B.returns, B.notSynchronized, vx_table (x := y) B (atoms_spec B.pre _ (by rw [hw]; exact List.mem_cons_self))⟩ s.heap [] _ va_S.rf hP (hD.weaken (fun k q hk _ => by obtain ⟨h1, rfl⟩ := wl_of hk; exact Or.inl ⟨k, h1, rfl⟩)) (lv_entry av hn)
/-- where E is caught -/
def CatchAt (own : String) (Ts : List Cond) (hh : List (Nat × Nat × Nat × Nat)) (E : String) (pc hpc : Nat) : Prop :=
  ∃ (pre : List ExceptionTableEntry) (x : ExceptionTableEntry) (suf : List ExceptionTableEntry), tableOf hh = pre ++ x :: suf ∧ (∀ z ∈ pre, z.catchType ≠ 0 ∧ ∃ nm : String, Cond.classLink own z.catchType nm ∈ Ts ∧ (E, nm) ∈ nwX) ∧ covers x pc = true ∧ x.catchType ≠ 0 ∧ Cond.classLink own x.catchType E ∈ Ts ∧ E ∈ nwE ∧ x.handlerPc = hpc
section RowsL2
variable {EX : State → Code → Prop} {l : Launch} {cc : ByteArray} {nL : Nat} {Ts : List Cond} {own : String} {ret : Option FieldType} {R : Room} {γ : Gm} {P : PT} {AF : State → Nat → Prop} {QQ : List Frame → Array Value → State → State → Prop} {cells slots : Nat} {pc : Nat} {lv : List (Nat × Value)} {st : List Value} {I : IT} {L : LT} {hh : List (Nat × Nat × Nat × Nat)}
theorem g_caught {E : String} {hpc : Nat} {xp : String → IT → LT → Prop} (hC : CatchAt own Ts hh E pc hpc) {p : Program} {e : Env} {s : State} {m : MethodId} {args : Array Value} {below : List Frame} {meth : Method} {c : Code} (K : Cx (E2 hh) cc nL Ts own ret γ AF p s m args meth c) {H : Heap} {locs : List Loc} {ls : Array Slot} {ce : Cell} {q9 : Addr} {rest : List Value} {Q : State → Prop} (hcell : H[q9]? = some ce) (hv : ce.vm = .none) (hcl : s.vm.findClass E = some ce.cls)
    (kk : W p l e R s m args below meth c H locs cells slots Q (F0 m hpc ls [.ref q9])) : vx_W p l e R s m args below meth c H locs cells slots Q (F0 m pc ls rest) q9 := by
  obtain ⟨pre, x, suf, ht, hp, hx, h0, hl, hE, rfl⟩ := hC
  refine vx_catch (own := own) (name := E) (E := E) K.1.2.2.2.1 pre x suf (K.2.2.2.2.2.trans ht) (fun z hz => ?_) hx h0 (K.1.2.2.2.2 _ hl) (va_Nw.use rfl (K.2.1.2.2.2.2.2.2.2.1 E hE)) hcell hv hcl kk
  obtain ⟨h1, nm, h2, h3⟩ := hp z hz
  exact Or.inr ⟨h1, nm, K.1.2.2.2.2 _ h2, K.2.1.2.2.2.2.2.2.2.2 _ h3⟩
theorem g_xci {C : String} {T : u_T} {N ci index maxL d : Nat} {fs As stk : List Value} {y : MethodName} {bytes : ByteArray} {rt : Option FieldType} {ws ws' : List Cond} {xp : String → IT → LT → Prop} {post : Int32 → IT → LT → Prop} (k : Nat) (hk : k < 71) (he : ee γ I L P k = .inr (ci, fs)) (hc : vwCl[ci]? = some (C, T, N)) (hM : Xi l y ws d γ (.ref (γ.2.2 k) :: As) I L P xp post) (hG : GoodIn Ts (wsV own index C y ws)) (hw : ws = .code y bytes maxL rt :: ws')
    (hy : y.cls = C ∧ y.cls ≠ "java/lang/invoke/MethodHandle" ∧ y.cls ≠ "java/lang/invoke/VarHandle" ∧ (parseMethodDescriptor y.desc).map (fun d => d.parameters.length) = some As.length) (hR : d + 9 ≤ R.frames ∧ 8 + (maxL + 11) + 40 * (d + 8) ≤ R.locals) (hst : stk = As.reverse ++ .ref (γ.2.2 k) :: st) (hcat : (st.map fun v => v.category).sum ≤ 8) (hd : decode cc pc = .ok (.invokevirtual index, 3)) (hcs : cells + 1 ≤ R.cells ∧ slots + 6 ≤ R.slots)
    (kx : ∀ E I' L', xp E I' L' → ∃ hpc, CatchAt own Ts hh E pc hpc ∧ ∀ q9, G (E2 hh) l cc nL Ts own ret R γ P AF QQ (cells + 1) (slots + 6) hpc lv [.ref q9] I' L')
    (kk : ∀ r I' L', post r I' L' → G (E2 hh) l cc nL Ts own ret R γ P AF QQ (cells + 1) (slots + 6) (pc + 3) lv (.int r :: st) I' L') : G (E2 hh) l cc nL Ts own ret R γ P AF QQ cells slots pc lv stk I L := by
  intro p e s m args below meth c K H locs ls hS hP hD hl
  have hAA := AA_in hD K.2.2.1 hS.1
  have hr := vx_runV (As := As) (rest := st) (g := F0 m pc ls stk) (cells := cells) (slots := slots) (e := e) (below := below) (locs := locs) (meth := meth) K.1 (hM H.size) (cwV As.length K.1.2.2.2.2 hG hw rfl rfl hy hR) ⟨Pre.blind, va_recv K.2.1.1 hP hc (q0 := k) (by rw [wl_get hk, he]), fun U hU hW => pre_at K hS hP hD hU hW⟩ rfl rfl hl.1 hst (lv_room hcat) hd hcs
  refine vx_calli hr hS (fun q _ h => hAA q h) hAA (fun q _ h => hAA q h) (fun E ce q9 u t H1 locs1 ht hvm _ hB hz hk9 hS1 hce hcv hcl => ?_) (fun r u t H1 locs1 ht hvm hp hB hz hk9 hS1 => ?_)
  · obtain ⟨hx9, hP1, hD1⟩ := hB
    rw [ht] at hP1
    obtain ⟨hpc, hC, kq⟩ := kx E u.1 u.2 hx9
    exact g_caught (xp := xp) hC K hce hcv hcl (kq q9 p e s m args below meth c K H1 locs1 ls hS1 hP1 (hD1.weaken (fun _ q _ h => hAA q.1 h)) hl)
  · obtain ⟨hP1, hD1⟩ := hB
    rw [ht] at hP1
    exact kk r u.1 u.2 hp p e s m args below meth c K H1 locs1 ls hS1 hP1 (hD1.weaken (fun _ q _ h => hAA q.1 h)) hl
theorem g_xcf {C : String} {T : u_T} {N ci index maxL d : Nat} {fs As stk : List Value} {y : MethodName} {bytes : ByteArray} {rt : Option FieldType} {ws ws' : List Cond} {xp : String → IT → LT → Prop} {post : UInt32 → IT → LT → Prop} (k : Nat) (hk : k < 71) (he : ee γ I L P k = .inr (ci, fs)) (hc : vwCl[ci]? = some (C, T, N)) (hM : Xf l y ws d γ (.ref (γ.2.2 k) :: As) I L P xp post) (hG : GoodIn Ts (wsV own index C y ws)) (hw : ws = .code y bytes maxL rt :: ws')
    (hy : y.cls = C ∧ y.cls ≠ "java/lang/invoke/MethodHandle" ∧ y.cls ≠ "java/lang/invoke/VarHandle" ∧ (parseMethodDescriptor y.desc).map (fun d => d.parameters.length) = some As.length) (hR : d + 9 ≤ R.frames ∧ 8 + (maxL + 11) + 40 * (d + 8) ≤ R.locals) (hst : stk = As.reverse ++ .ref (γ.2.2 k) :: st) (hcat : (st.map fun v => v.category).sum ≤ 8) (hd : decode cc pc = .ok (.invokevirtual index, 3)) (hcs : cells + 1 ≤ R.cells ∧ slots + 6 ≤ R.slots)
    (kx : ∀ E I' L', xp E I' L' → ∃ hpc, CatchAt own Ts hh E pc hpc ∧ ∀ q9, G (E2 hh) l cc nL Ts own ret R γ P AF QQ (cells + 1) (slots + 6) hpc lv [.ref q9] I' L')
    (kk : ∀ r I' L', post r I' L' → G (E2 hh) l cc nL Ts own ret R γ P AF QQ (cells + 1) (slots + 6) (pc + 3) lv (.float r :: st) I' L') : G (E2 hh) l cc nL Ts own ret R γ P AF QQ cells slots pc lv stk I L := by
  intro p e s m args below meth c K H locs ls hS hP hD hl
  have hAA := AA_in hD K.2.2.1 hS.1
  have hr := vx_runV (As := As) (rest := st) (g := F0 m pc ls stk) (cells := cells) (slots := slots) (e := e) (below := below) (locs := locs) (meth := meth) K.1 (hM H.size) (cwV As.length K.1.2.2.2.2 hG hw rfl rfl hy hR) ⟨Pre.blind, va_recv K.2.1.1 hP hc (q0 := k) (by rw [wl_get hk, he]), fun U hU hW => pre_at K hS hP hD hU hW⟩ rfl rfl hl.1 hst (lv_room hcat) hd hcs
  refine vx_callf hr hS (fun q _ h => hAA q h) hAA (fun q _ h => hAA q h) (fun E ce q9 u t H1 locs1 ht hvm _ hB hz hk9 hS1 hce hcv hcl => ?_) (fun r u t H1 locs1 ht hvm hp hB hz hk9 hS1 => ?_)
  · obtain ⟨hx9, hP1, hD1⟩ := hB
    rw [ht] at hP1
    obtain ⟨hpc, hC, kq⟩ := kx E u.1 u.2 hx9
    exact g_caught (xp := xp) hC K hce hcv hcl (kq q9 p e s m args below meth c K H1 locs1 ls hS1 hP1 (hD1.weaken (fun _ q _ h => hAA q.1 h)) hl)
  · obtain ⟨hP1, hD1⟩ := hB
    rw [ht] at hP1
    exact kk r u.1 u.2 hp p e s m args below meth c K H1 locs1 ls hS1 hP1 (hD1.weaken (fun _ q _ h => hAA q.1 h)) hl
/-- the end of a wrapper -/
theorem g_liret {post : Int32 → IT → LT → PT → Prop} {r : Int32} (hd : decode cc pc = .ok (.ireturn, 1)) (hp : post r I L P) : G EX l cc nL Ts own (some .int) R γ P (AE γ) (QLi γ post) 1 6 pc lv [.int r] I L :=
  fun p e s m args below meth c K H locs ls hS hP hD hl => vx_ret (W.iret K.1.1 K.1.2.1 K.2.2.2.1 (fun t ht hW => ⟨⟨r, ((I, L), P), rfl, hp, by show WP γ _ I L P t.heap; rw [ht]; exact ⟨hP, hD⟩⟩, hS.F ht⟩) hS.2.2 hd K.2.2.2.2.1)
theorem g_f2d {x : UInt32} (hd : decode cc pc = .ok (.f2d, 1)) (hn : vf_n64 (FP.f2d x)) (kk : G EX l cc nL Ts own ret R γ P AF QQ cells slots (pc + 1) lv (.double (FP.f2d x) :: st) I L) : G EX l cc nL Ts own ret R γ P AF QQ cells slots pc lv (.float x :: st) I L :=
  fun p e s m args below meth c K H locs ls hS hP hD hl => lv_f2d K.1.1 K.1.2.1 hd hn (kk p e s m args below meth c K H locs ls hS hP hD hl)
theorem ee_upP {γ : Gm} {I : IT} {L : LT} {P P' : PT} : va_up (ee γ I L P) 11 (.inl (γ.2.1 3, 1, .inr (.inr (.inr (.inl P'))))) = ee γ I L P' := by
  funext j
  by_cases hj : j = 11
  · subst hj
    rw [va_up_self]; rfl
  · rw [va_up_ne _ _ hj]
    match j, hj with
    | 0, _ => rfl
    | 1, _ => rfl
    | 2, _ => rfl
    | 3, _ => rfl
    | 4, _ => rfl
    | 5, _ => rfl
    | 6, _ => rfl
    | 7, _ => rfl
    | 8, _ => rfl
    | 9, _ => rfl
    | 10, _ => rfl
    | 11, h => exact absurd rfl h
    | k + 12, _ => rfl
theorem g_dast {x : UInt64} (hd : decode cc pc = .ok (.dastore, 1))
    (kk : G EX l cc nL Ts own ret R γ (vf_upd P 0 x) AF QQ cells slots (pc + 1) lv st I L) : G EX l cc nL Ts own ret R γ P AF QQ cells slots pc lv (.double x :: .int (nI 0) :: .ref (γ.2.2 11) :: st) I L := by
  intro p e s m args below meth c K H locs ls hS hP hD hl
  refine va_dast (ws := wd γ I L P) (tys := tyl γ) K.1.1 K.1.2.1 K.2.1.1 hP hD hS 11 3 (by rw [wl_get (by decide)]; rfl) rfl (vp_in_nI (by decide : 0 < 1) (by decide)) hd (fun H1 locs1 hP hD hS => ?_)
  rw [show (nI 0).toNatClampNeg = 0 by decide, wl_set, ee_upP] at hP hD
  exact kk p e s m args below meth c K H1 locs1 ls hS hP hD hl
end RowsL2
