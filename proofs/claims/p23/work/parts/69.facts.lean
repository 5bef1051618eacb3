/-! what the start gives -/
theorem notrace {l : Launch} (h : l.flags = flags0) : l.stackTraces = false := by
  unfold Launch.stackTraces
  rw [h]
  decide +kernel
theorem arr_K {s : State} {args : Array Value} {ty : FieldType} (h : (Cond.arrayClass ty).before args s = true) : ∃ c : ClassId, ArrOfT s c ty ∧ s.vm.findClass ("[" ++ ty.toString) = some c := by
  obtain ⟨c, k, comp, h1, h2, h3⟩ := Cond.arrayClass_spec h
  exact ⟨c, fun n z => ⟨fun k h => (by cases h), k, h2, comp, h3⟩, h1⟩
theorem arr_KA {s : State} {args : Array Value} (h : (Cond.arrayOver (.array .int)).before args s = true) : ∃ c : ClassId, ArrOfT s c (.array .int) ∧ s.vm.findClass ("[" ++ (FieldType.array .int).toString) = some c := by
  obtain ⟨comp, c, k, h0, h2, h3, h1⟩ := Cond.arrayOver_specA h
  exact ⟨c, fun n z => ⟨fun k h => (by cases h), k, h2, comp, h3⟩, h1⟩
theorem start_K {s : State} {args : Array Value} (hts : ∀ w ∈ lw_tbl, w.before args s = true) : ∃ γ : Gm, va_K γ.1 vwCl (tyl γ) s := by
  obtain ⟨c0, i0, k0⟩ := u_known hts inX0 (hts (.instantiable RX0 1) (by decide +kernel))
  obtain ⟨c1, i1, k1⟩ := u_known hts inX1 (hts (.instantiable RX1 8) (by decide +kernel))
  obtain ⟨c2, i2, k2⟩ := u_known hts inX2 (hts (.instantiable RX2 1) (by decide +kernel))
  obtain ⟨c3, i3, k3⟩ := u_known hts inX3 (hts (.instantiable RX3 1) (by decide +kernel))
  obtain ⟨c4, i4, k4⟩ := u_known hts inX4 (hts (.instantiable RX4 7) (by decide +kernel))
  obtain ⟨a0, a01, a02⟩ := arr_K (hts (.arrayClass .int) (by decide +kernel))
  obtain ⟨a1, a11, a12⟩ := arr_KA (hts (.arrayOver (.array .int)) (by decide +kernel))
  refine ⟨((fun k => [c0, c1, c2, c3, c4].getD k c0, fun k => [i0, i1, i2, i3, i4].getD k i0), (fun k => [a0, a1].getD k a0, fun _ => 0)), fun c q hq => ?_, fun k q hq => ?_⟩
  · match c, hq with
    | 0, hq => cases hq; exact k0
    | 1, hq => cases hq; exact k1
    | 2, hq => cases hq; exact k2
    | 3, hq => cases hq; exact k3
    | 4, hq => cases hq; exact k4
    | c + 5, hq => cases hq
  · match k, hq with
    | 0, hq => cases hq; exact ⟨a01, a02⟩
    | 1, hq => cases hq; exact ⟨a11, a12⟩
    | k + 2, hq => cases hq
theorem tblF : ∀ q ∈ nwF, Cond.fieldLinkNest q.1 q.2.1 q.2.2.1 q.2.2.2.1 q.2.2.2.2.1 q.2.2.2.2.2 ∈ lw_tbl := by decide +kernel
theorem tblM : ∀ q ∈ nwM, Cond.methodLinkNest q.1 q.2.1 q.2.2.1 q.2.2.2 ∈ lw_tbl := by decide +kernel
theorem tblD : ∀ x ∈ nwD, Cond.declares x ∈ lw_tbl := by decide +kernel
theorem tblE : ∀ x ∈ nwE, Cond.castable x x ∈ lw_tbl := by decide +kernel
theorem tblS : ∀ q ∈ nwS, Cond.stringRef q.1 q.2.1 q.2.2 ∈ lw_tbl := by decide +kernel
theorem nar_X {s : State} {args : Array Value} (h : (Jvm.Cond.and given_1 narrow_1).before args s = true) : ∀ q ∈ nwX, va_Nc q.1 q.2 s := by
  have hs := flat_of_before _ h
  intro q hq
  simp only [nwX, List.mem_cons, List.not_mem_nil, or_false] at hq
  rcases hq with rfl | rfl | rfl | rfl | rfl | rfl <;> exact va_Nc.of (hs _ (by decide +kernel))
theorem vk_one {s : State} {args : Array Value} {own tx : String} {k : Nat} (h1 : (Cond.stringRef own k tx).before args s = true) (h2 : (Cond.exactly (.string own k) "java/lang/String").before args s = true) : ∃ a, vk_R own k tx a s := by
  obtain ⟨a, c, cA, kA, q1, -⟩ := Cond.exactly_spec (args := args) (first := s) (o := none) (s := s) (idx := []) (t := .string own k) (cls := "java/lang/String") h2
  exact ⟨a, vk_R.of h1 q1⟩
theorem nar_S {s : State} {args : Array Value} (hts : ∀ w ∈ lw_tbl, w.before args s = true) (h : (Jvm.Cond.and given_1 narrow_1).before args s = true) : ∀ q ∈ nwS, ∃ a, vk_R q.1 q.2.1 q.2.2 a s := by
  have hs := flat_of_before _ h
  intro q hq
  refine vk_one (hts _ (tblS q hq)) ?_
  simp only [nwS, List.mem_cons, List.not_mem_nil, or_false] at hq
  rcases hq with rfl | rfl | rfl | rfl | rfl | rfl | rfl | rfl | rfl | rfl | rfl | rfl | rfl | rfl <;> exact hs _ (by decide +kernel)
theorem nar_Z {s : State} {args : Array Value} (hts : ∀ w ∈ lw_tbl, w.before args s = true) (h : (Jvm.Cond.and given_1 narrow_1).before args s = true) : vx_Zq Bundle.tN "UNASSIGNED_STACK" Bundle.steD (ALw s) s s.heap ∧ vx_Zq Bundle.tN "SUPPRESSED_SENTINEL" Bundle.listD (ALw s) s s.heap := by
  have hs := flat_of_before _ h
  have hA : ∀ a : Nat, a < s.heap.size → ¬ ALw s a := fun a h1 h2 => absurd h1 (Nat.not_lt.mpr h2)
  exact ⟨vx_Zqof (hts _ (by decide +kernel)) (hts _ (by decide +kernel)) (hs _ (by decide +kernel)) hA, vx_Zqof (hts _ (by decide +kernel)) (hts _ (by decide +kernel)) (hs _ (by decide +kernel)) hA⟩
theorem start_Fx {s : State} {args : Array Value} {γ : Gm} (hK : va_K γ.1 vwCl (tyl γ) s) (hts : ∀ w ∈ lw_tbl, w.before args s = true) (h : (Jvm.Cond.and given_1 narrow_1).before args s = true) : Fx γ (ALw s) s :=
  ⟨hK, fun q hq => va_Nw.of rfl (hts _ (tblF q hq)), fun q hq => va_Nw.of rfl (hts _ (tblM q hq)), nar_S hts h, (nar_Z hts h).1, (nar_Z hts h).2, fun x hx => va_Nw.of rfl (hts _ (tblD x hx)), fun x hx => va_Nw.of rfl (hts _ (tblE x hx)), nar_X h⟩
theorem start_Kn {s : State} {args : Array Value} {γ : Gm} (hK : va_K γ.1 vwCl (tyl γ) s) (hts : ∀ w ∈ lw_tbl, w.before args s = true) : Kn γ s :=
  ⟨hK, fun A => hts (.arrayOver (.array .int)) (by decide +kernel), fun q hq => va_Nw.of rfl (hts _ (tblM q hq))⟩
theorem whole_start {p : Program} {e : Env} {s : State} {m : MethodId} {below : List Frame} {meth : Method} {c : Code} (l : Launch) (hflags : l.flags = flags0) {b L : Nat} {xs : Nat → Int32} (hL : L ≤ 260) (C0 : lw_At p s m meth c b L xs) : W p l e room_1 s m #[Value.ref b] below meth c s.heap [] 0 0 (lw_Z below #[Value.ref b] s) (entryFrame m ([Value.ref b] : List Value).toArray 16) := by
  obtain ⟨hx, hb, hr, hml, hown, hts, hX, hbl, hlocks, hgv⟩ := C0
  obtain ⟨γ, hK⟩ := start_K hts
  rw [lg_entry_eq]
  have hw := law_open l (notrace hflags) γ b L xs hL p e s m #[Value.ref b] below meth c ⟨⟨hx, hb, hml, hown, fun w hw => hts w (wsL_law_in w hw)⟩, start_Kn hK hts, fun q h => h, hr, hlocks, fun h => nomatch h⟩ s.heap [] _ va_S.rf (fun k q hq => by simp at hq) ⟨fun i j p q hi => by simp at hi, fun k q hq => by simp at hq⟩ (lv_entry [.ref b] (n := 16) (Nat.le_of_ble_eq_true rfl))
  intro T hT X
  obtain ⟨t, h1, h2⟩ := hw T hT X
  exact ⟨t, h1, h2 ⟨rfl, fun _ => ⟨hX, hbl, hL⟩, start_Fx hK hts hgv⟩⟩
