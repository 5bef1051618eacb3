/-! constructors: making, setting, calling -/
section RowsN2
variable {l : Launch} {cc : ByteArray} {nL : Nat} {Ts : List Cond} {own : String} {ret : Option FieldType} {R : Room} {γ : Gm} {AF : State → Nat → Prop} {ini : Bool} {QQ : List Frame → Array Value → State → State → Prop} {cells slots : Nat} {pc : Nat} {lv : List (Nat × Value)} {st : List Value} {w : va_W}
theorem n_ic {i : Int} {v : Int32} (hd : decode cc pc = .ok (.iconst i, 1)) (hv : Int32.ofInt i = v) (kk : GN l cc nL Ts own ret R γ AF ini QQ cells slots (pc + 1) lv (.int v :: st) w) : GN l cc nL Ts own ret R γ AF ini QQ cells slots pc lv st w :=
  fun p e s m args below meth c K H locs ls hS hP hD hl => lv_iconst K.1.1 K.1.2.1 hd hv (kk p e s m args below meth c K H locs ls hS hP hD hl)
theorem n_bi {i : Int} {v : Int32} (hd : decode cc pc = .ok (.bipush i, 2)) (hv : (Int8.ofInt i).toInt32 = v) (kk : GN l cc nL Ts own ret R γ AF ini QQ cells slots (pc + 2) lv (.int v :: st) w) : GN l cc nL Ts own ret R γ AF ini QQ cells slots pc lv st w :=
  fun p e s m args below meth c K H locs ls hS hP hD hl => lv_bipush K.1.1 K.1.2.1 hd hv (kk p e s m args below meth c K H locs ls hS hP hD hl)
theorem n_si {i : Int} {v : Int32} (hd : decode cc pc = .ok (.sipush i, 3)) (hv : (Int16.ofInt i).toInt32 = v) (kk : GN l cc nL Ts own ret R γ AF ini QQ cells slots (pc + 3) lv (.int v :: st) w) : GN l cc nL Ts own ret R γ AF ini QQ cells slots pc lv st w :=
  fun p e s m args below meth c K H locs ls hS hP hD hl => lv_sipush K.1.1 K.1.2.1 hd hv (kk p e s m args below meth c K H locs ls hS hP hD hl)
theorem n_newi {N' : Nat} (harr : Cond.arrayClass .int ∈ Ts) (hN : N' < 2 ^ 20) (hcells : cells + 1 ≤ R.cells) (hslots : slots + N' ≤ R.slots) (hd : decode cc pc = .ok (.newarray .int, 2)) (kk : ∀ q, GN l cc nL Ts own ret R γ AF ini QQ (cells + 1) (slots + N') (pc + 2) lv (.ref q :: st) (w ++ [(q, .inl (γ.2.1 0, N', .inl (fun _ => 0)))])) : GN l cc nL Ts own ret R γ AF ini QQ cells slots pc lv (.int (nI N') :: st) w := by
  intro p e s m args below meth c K H locs ls hS hP hD hl
  refine va_newa (atype := .int) (ty := .int) (N' := N') (a0 := (N', .inl (fun _ => 0))) K.1.1 K.1.2.1 (K.1.2.2.2.2 _ harr) rfl K.2.1.1 hP hD hS K.2.2.1 (fun cA => rfl) (nI_pos (by omega)) (nI_clamp (by omega)) (by show N' * 4 ≤ _; omega) hcells hslots hd (fun q cA H1 hK1 hP1 hD1 hS1 => ?_)
  have e1 := tys_one (γ := γ) (k := 0) (c0 := γ.2.1 0) hK1 rfl (fun c h => h)
  rw [e1] at hP1 hD1
  exact kk q p e s m args below meth c K H1 locs ls hS1 hP1 hD1 hl
theorem n_mna {index n k : Nat} (hcl : Cond.classLink own index "[[I" ∈ Ts) (harr : Cond.arrayClass .int ∈ Ts) (hn : n < 2 ^ 20) (hk : k < 2 ^ 20) (hcells : cells + (1 + n) ≤ R.cells) (hslots : slots + (n + n * k) ≤ R.slots) (hd : decode cc pc = .ok (.multianewarray index 2, 4)) (kk : ∀ q, GN l cc nL Ts own ret R γ AF ini QQ (cells + 1 + n) (slots + n + n * k) (pc + 4) lv (.ref q :: st) (w ++ mna q n k (γ.2.1 1) (γ.2.1 0))) : GN l cc nL Ts own ret R γ AF ini QQ cells slots pc lv (.int (nI k) :: .int (nI n) :: st) w := by
  intro p e s m args below meth c K H locs ls hS hP hD hl
  exact w_mna (t0 := 0) (t1 := 1) (tys := tyl γ) K.1.1 K.1.2.1 K.1.2.2.2.1 (K.1.2.2.2.2 _ hcl) (K.2.1.2.1 args) (K.1.2.2.2.2 _ harr) K.2.1.1 rfl rfl hP hD hS K.2.2.1 hn hk hcells hslots hd (fun q H1 locs1 hP1 hD1 hS1 => kk q p e s m args below meth c K H1 locs1 ls hS1 hP1 hD1 hl)
theorem n_putF {C ref : String} {T : u_T} {N ci index h : Nat} {fs fs' : List Value} {tl : va_W} {v : Value} {ty : FieldType} (ty0 : Nat → FieldType) (j : Nat) (hin : ∀ w ∈ u_ws C T N, w ∈ Ts) (hty : ∀ k, k < N → parseFieldDescriptor (T k).2.2.1 = some (ty0 k)) (hnm : ∀ a, a < N → ∀ b, b < N → a ≠ b → (T a).2.1 ≠ (T b).2.1) (hc : vwCl[ci]? = some (C, T, N)) (hj : j < N) (hlink : (Cond.fieldLink own index ref (T j).2.1 (T j).2.2.1) ∈ Ts) (hsame : ref = (T j).1) (hfin : (T j).2.2.2 = true) (hdecl : (T j).1 = own) (hds : parseFieldDescriptor (T j).2.2.1 = some ty) (hn : narrow ty v = v) (hfit : fits ty v = true) (hl9 : j < fs.length) (hfs : fs.set j v = fs') (hd : decode cc pc = .ok (.putfield index, 3))
    (kk : GN l cc nL Ts own ret R γ AF true QQ cells slots (pc + 3) lv st ((h, .inr (ci, fs')) :: tl)) : GN l cc nL Ts own ret R γ AF true QQ cells slots pc lv (v :: .ref h :: st) ((h, .inr (ci, fs)) :: tl) := by
  intro p e s m args below meth c K H locs ls hS hP hD hl
  refine va_putF (tys := tyl γ) (H0 := s.heap) (A := AF s) K.1.1 K.1.2.1 K.1.2.2.2.2 hin ty0 hty hnm K.1.2.2.2.1 K.2.1.1 hP hD hS 0 rfl hc j hj (K.1.2.2.2.2 _ hlink) (fun x h => by rw [hsame]; exact h) hfin (K.2.2.2.2.2 rfl) hdecl hds hn hfit hl9 hd (fun H1 locs1 hP1 hD1 hS1 => ?_)
  rw [hfs] at hP1 hD1
  exact kk p e s m args below meth c K H1 locs1 ls hS1 hP1 hD1 hl
theorem n_put {C ref : String} {T : u_T} {N ci index h : Nat} {fs fs' : List Value} {tl : va_W} {v : Value} {ty : FieldType} (ty0 : Nat → FieldType) (j : Nat) (hin : ∀ w ∈ u_ws C T N, w ∈ Ts) (hty : ∀ k, k < N → parseFieldDescriptor (T k).2.2.1 = some (ty0 k)) (hnm : ∀ a, a < N → ∀ b, b < N → a ≠ b → (T a).2.1 ≠ (T b).2.1) (hc : vwCl[ci]? = some (C, T, N)) (hj : j < N) (hlink : (Cond.fieldLink own index ref (T j).2.1 (T j).2.2.1) ∈ Ts) (hsame : ref = (T j).1) (hfin : (T j).2.2.2 = false) (hds : parseFieldDescriptor (T j).2.2.1 = some ty) (hn : narrow ty v = v) (hfit : fits ty v = true) (hl9 : j < fs.length) (hfs : fs.set j v = fs') (hd : decode cc pc = .ok (.putfield index, 3))
    (kk : GN l cc nL Ts own ret R γ AF ini QQ cells slots (pc + 3) lv st ((h, .inr (ci, fs')) :: tl)) : GN l cc nL Ts own ret R γ AF ini QQ cells slots pc lv (v :: .ref h :: st) ((h, .inr (ci, fs)) :: tl) := by
  intro p e s m args below meth c K H locs ls hS hP hD hl
  refine va_put (tys := tyl γ) (H0 := s.heap) (A := AF s) K.1.1 K.1.2.1 K.1.2.2.2.2 hin ty0 hty hnm K.1.2.2.2.1 K.2.1.1 hP hD hS 0 rfl hc j hj (K.1.2.2.2.2 _ hlink) (fun x h => by rw [hsame]; exact h) hfin hds hn hfit hl9 hd (fun H1 locs1 hP1 hD1 hS1 => ?_)
  rw [hfs] at hP1 hD1
  exact kk p e s m args below meth c K H1 locs1 ls hS1 hP1 hD1 hl
theorem n_ret {h : Nat} {fin : Nat → (Nat → Nat) → va_W} {mc ms : Nat} (u : Nat → Nat) (hw : w = fin h u) (hd : decode cc pc = .ok (.return_, 1)) : GN l cc nL Ts own none R γ (AFN h) ini (QN γ h fin mc ms) mc ms pc lv [] w := by
  subst hw
  exact fun p e s m args below meth c K H locs ls hS hP hD hl => W.vret K.1.1 K.1.2.1 K.2.2.2.1 (fun t ht hW => ⟨⟨u, rfl, trivial, by rw [ht]; exact hP, hD⟩, hS.F ht⟩) hS.2.2 hd K.2.2.2.2.1
theorem n_new {C : String} {T : u_T} {N ci index : Nat} {fs : List Value} (ty0 : Nat → FieldType) (hin : ∀ w ∈ u_ws C T N, w ∈ Ts) (hty : ∀ k, k < N → parseFieldDescriptor (T k).2.2.1 = some (ty0 k)) (hcl : Cond.classLink own index C ∈ Ts) (hinst : Cond.instantiable C N ∈ Ts) (hini : Cond.initialized C ∈ Ts) (hc : vwCl[ci]? = some (C, T, N)) (hfs : ∀ j, j < N → defaultValue (ty0 j) = vp_V fs j) (hcells : cells + 1 ≤ R.cells) (hslots : slots + N ≤ R.slots) (hd : decode cc pc = .ok (.new index, 3))
    (kk : ∀ q, GN l cc nL Ts own ret R γ AF ini QQ (cells + 1) (slots + N) (pc + 3) lv (.ref q :: st) (w ++ [(q, .inr (ci, fs))])) : GN l cc nL Ts own ret R γ AF ini QQ cells slots pc lv st w := by
  intro p e s m args below meth c K H locs ls hS hP hD hl
  exact va_new (tys := tyl γ) K.1.1 K.1.2.1 K.1.2.2.2.2 hin ty0 hty K.1.2.2.2.1 (K.1.2.2.2.2 _ hcl) (K.1.2.2.2.2 _ hinst) (K.1.2.2.2.2 _ hini) K.2.1.1 hP hD hS K.2.2.1 hc hfs hcells hslots hd (fun q H1 hP1 hD1 hS1 => kk q p e s m args below meth c K H1 locs ls hS1 hP1 hD1 hl)
theorem n_w {w' : va_W} (h : w = w') (kk : GN l cc nL Ts own ret R γ AF ini QQ cells slots pc lv st w') : GN l cc nL Ts own ret R γ AF ini QQ cells slots pc lv st w := by subst h; exact kk
theorem n_pre {s U : State} {p : Program} {m : MethodId} {args : Array Value} {meth : Method} {c : Code} {H : Heap} {h ci : Nat} {fs0 : List Value} {wp : va_W} (K : KN cc nL Ts own ret γ AF ini p s m args meth c) (hP : va_P γ.1 vwCl (wp ++ [(h, .inr (ci, fs0))]) H) (hU : U.heap = H) (hW : s.WarmedH U.vm) : (va_Pc [.ref h] (fun U => U.heap.size = H.size ∧ Kn γ U ∧ va_P γ.1 vwCl [(h, .inr (ci, fs0))] U.heap)) (#[.ref h]) U := by
  refine ⟨rfl, by rw [hU], K.2.1.warm hW, ?_⟩
  rw [hU]
  intro k q hq
  have h1 := (List.getElem?_eq_some_iff.mp hq).1
  simp only [List.length_cons, List.length_nil] at h1
  rw [show k = 0 by omega] at hq
  cases hq
  exact hP wp.length _ (by rw [List.getElem?_append_right (Nat.le_refl _), Nat.sub_self]; rfl)
theorem n_blind {γ : Gm} {h n ci : Nat} {fs0 : List Value} : FrameBlind (va_Pc [.ref h] (fun U => U.heap.size = n ∧ Kn γ U ∧ va_P γ.1 vwCl [(h, .inr (ci, fs0))] U.heap)) := fun _ _ _ _ q => ⟨q.1, q.2.1, q.2.2.1.calling, q.2.2.2⟩
theorem n_initN {y : MethodName} {ws ws' : List Cond} {bytes : ByteArray} {rm : Room} {ci index maxL mc ms h : Nat} {fs0 : List Value} {fin : Nat → (Nat → Nat) → va_W} {wp : va_W} {host : String} (hM : CtN l y ws rm γ ci fs0 fin mc ms) (hG : GoodIn Ts ws) (hw : ws = .code y bytes maxL none :: ws') (hrc : rm.cells = mc) (hrs : rm.slots = ms) (hl9 : (own, index, y, host) ∈ nwM) (hini : Cond.initialized y.cls ∈ Ts) (hx : Cond.instanceMethod y ∈ Ts) (hn : y.name = "<init>")
    (hy : y.cls ≠ "java/lang/invoke/MethodHandle" ∧ y.cls ≠ "java/lang/invoke/VarHandle" ∧ (parseMethodDescriptor y.desc).map (fun d => d.parameters.length) = some 0) (hR : rm.frames + 1 ≤ R.frames ∧ 8 + (maxL + 11) + rm.locals ≤ R.locals) (hcat : (st.map fun v => v.category).sum ≤ 8) (hd : decode cc pc = .ok (.invokespecial index, 3)) (hcs : cells + mc ≤ R.cells ∧ slots + ms ≤ R.slots)
    (kk : ∀ u, GN l cc nL Ts own ret R γ AF ini QQ (cells + mc) (slots + ms) (pc + 3) lv st (wp ++ fin h u)) : GN l cc nL Ts own ret R γ AF ini QQ cells slots pc lv (.ref h :: st) (wp ++ [(h, .inr (ci, fs0))]) := by
  intro p e s m args below meth c K H locs ls hS hP hD hl
  have hlast : (wp ++ [(h, .inr (ci, fs0))])[wp.length]? = some (h, (.inr (ci, fs0) : va_E)) := by rw [List.getElem?_append_right (Nat.le_refl _), Nat.sub_self]; rfl
  have hAA : ∀ q, AN h H.size q → AF s q := fun q hq => hq.elim (fun e => by rw [e]; exact hD.2 _ _ hlast) (fun e => K.2.2.1 q (Nat.le_trans hS.1 e))
  refine va_callv (va_runIN (As := []) (rest := st) K.1 (hM h H.size) ⟨va_cnB (host := host) 0 K.1.2.2.2.2 hG hw hrc hrs (K.2.1.2.2 _ hl9) (K.1.2.2.2.2 _ hini) hy hR, hn, K.1.2.2.2.2 _ hx⟩ ⟨n_blind, fun U hU hW => n_pre K hP hU hW⟩ rfl rfl hl.1 rfl (lv_room hcat) hd hcs) hS (fun q _ h => hAA q h) hAA (fun u t H1 locs1 ht hvm _ hB hz1 hk1 hS1 => ?_)
  obtain ⟨hP1, hD1⟩ := hB
  rw [ht] at hP1
  obtain ⟨hP2, hD2⟩ := va_join_new hP hD (fun q hq => K.2.2.1 q (Nat.le_trans hS.1 hq)) hk1 hP1 hD1
  exact kk u p e s m args below meth c K H1 locs1 ls hS1 hP2 hD2 hl
theorem n_init {y : MethodName} {ws ws' : List Cond} {bytes : ByteArray} {rm : Room} {ci index maxL mc ms h : Nat} {fs0 : List Value} {fin : Nat → (Nat → Nat) → va_W} {wp : va_W} (hM : CtN l y ws rm γ ci fs0 fin mc ms) (hG : GoodIn Ts ws) (hw : ws = .code y bytes maxL none :: ws') (hrc : rm.cells = mc) (hrs : rm.slots = ms) (hl9 : Cond.methodLink own index y ∈ Ts) (hini : Cond.initialized y.cls ∈ Ts) (hx : Cond.instanceMethod y ∈ Ts) (hn : y.name = "<init>")
    (hy : y.cls ≠ "java/lang/invoke/MethodHandle" ∧ y.cls ≠ "java/lang/invoke/VarHandle" ∧ (parseMethodDescriptor y.desc).map (fun d => d.parameters.length) = some 0) (hR : rm.frames + 1 ≤ R.frames ∧ 8 + (maxL + 11) + rm.locals ≤ R.locals) (hcat : (st.map fun v => v.category).sum ≤ 8) (hd : decode cc pc = .ok (.invokespecial index, 3)) (hcs : cells + mc ≤ R.cells ∧ slots + ms ≤ R.slots)
    (kk : ∀ u, GN l cc nL Ts own ret R γ AF ini QQ (cells + mc) (slots + ms) (pc + 3) lv st (wp ++ fin h u)) : GN l cc nL Ts own ret R γ AF ini QQ cells slots pc lv (.ref h :: st) (wp ++ [(h, .inr (ci, fs0))]) := by
  intro p e s m args below meth c K H locs ls hS hP hD hl
  have hlast : (wp ++ [(h, .inr (ci, fs0))])[wp.length]? = some (h, (.inr (ci, fs0) : va_E)) := by rw [List.getElem?_append_right (Nat.le_refl _), Nat.sub_self]; rfl
  have hAA : ∀ q, AN h H.size q → AF s q := fun q hq => hq.elim (fun e => by rw [e]; exact hD.2 _ _ hlast) (fun e => K.2.2.1 q (Nat.le_trans hS.1 e))
  refine va_callv (va_runI (As := []) (rest := st) K.1 (hM h H.size) (cwI 0 K.1.2.2.2.2 hG hw hrc hrs (K.1.2.2.2.2 _ hini) (K.1.2.2.2.2 _ hl9) (K.1.2.2.2.2 _ hx) hn hy hR) ⟨n_blind, fun U hU hW => n_pre K hP hU hW⟩ rfl rfl hl.1 rfl (lv_room hcat) hd hcs) hS (fun q _ h => hAA q h) hAA (fun u t H1 locs1 ht hvm _ hB hz1 hk1 hS1 => ?_)
  obtain ⟨hP1, hD1⟩ := hB
  rw [ht] at hP1
  obtain ⟨hP2, hD2⟩ := va_join_new hP hD (fun q hq => K.2.2.1 q (Nat.le_trans hS.1 hq)) hk1 hP1 hD1
  exact kk u p e s m args below meth c K H1 locs1 ls hS1 hP2 hD2 hl
end RowsN2
