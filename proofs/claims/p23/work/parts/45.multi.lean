/-! a row for a new array of arrays of ints -/
theorem outer_slots (c : ClassId) (N h0 : Nat) : ∀ i, i ≤ N → ∀ j, j < N → (Jvm.Free.Multi.outerC c N h0 i).slots[j]? = some (if j < i then .ref (h0 + 1 + j) else .null) := by
  intro i
  induction i with
  | zero =>
    intro _ j hj
    rw [if_neg (Nat.not_lt_zero _)]
    simp [Jvm.Free.Multi.outerC, hj]
  | succ i ih =>
    intro hi j hj
    have hz := (Jvm.Free.Multi.outerC_facts c N h0 i).2.2
    show ((Jvm.Free.Multi.outerC c N h0 i).slots.setIfInBounds i _)[j]? = _
    rw [Array.getElem?_setIfInBounds]
    by_cases e : i = j
    · subst e
      rw [if_pos rfl, if_pos (by omega), if_pos (by omega)]
    · rw [if_neg e, ih (by omega) j hj]
      by_cases h : j < i
      · rw [if_pos h, if_pos (by omega)]
      · rw [if_neg h, if_neg (by omega)]
theorem outer_eq (c : ClassId) (N h0 : Nat) : Jvm.Free.Multi.outerC c N h0 N = vp_cell c (N, .inr (.inr (.inr (.inr (fun j => if j < N then some (h0 + 1 + j) else none))))) := by
  obtain ⟨h1, h2, h3⟩ := Jvm.Free.Multi.outerC_facts c N h0 N
  have hs : (Jvm.Free.Multi.outerC c N h0 N).slots = (vp_cell c (N, .inr (.inr (.inr (.inr (fun j => if j < N then some (h0 + 1 + j) else none)))))).slots := by
    apply Array.ext_getElem?
    intro j
    by_cases hj : j < N
    · rw [outer_slots c N h0 N (Nat.le_refl _) j hj, vp_cell_q, arrV_read _ _ hj]
      simp [hj, va_rf]
    · rw [Array.getElem?_eq_none (by rw [h3]; omega), Array.getElem?_eq_none (by rw [vp_cell_q, arrV_size]; omega)]
  have h4 : ∀ i, Jvm.Free.Multi.outerC c N h0 i = { cls := c, slots := (Jvm.Free.Multi.outerC c N h0 i).slots } := by
    intro i
    induction i with
    | zero => rfl
    | succ i ih =>
      show (Jvm.Free.Multi.outerC c N h0 i).setSlot i _ = { cls := c, slots := ((Jvm.Free.Multi.outerC c N h0 i).setSlot i _).slots }
      rw [ih]
      rfl
  rw [h4 N, hs]
  rfl
theorem inner_eq (c : ClassId) (M : Nat) : Jvm.Free.Multi.innerC c M (.int 0) = vp_cell c (M, .inl (fun _ => 0)) := by
  rw [vp_cell_i, ← arrV_new]
  rfl
theorem va_D_new {A : Nat → Prop} {ws nw : va_W} {H : Heap} {D : va_G} {cl : List vw_C} (hD : va_D A ws) (hP : va_P D cl ws H) (h1 : ∀ (k : Nat) (q : Nat × va_E), nw[k]? = some q → q.1 = H.size + k) (hA : ∀ q, H.size ≤ q → A q) : va_D A (ws ++ nw) := by
  have old : ∀ (k : Nat) (q : Nat × va_E), ws[k]? = some q → q.1 < H.size := fun k q hk => vx_lt hP hk
  have get : ∀ (k : Nat) (q : Nat × va_E), (ws ++ nw)[k]? = some q → (k < ws.length ∧ ws[k]? = some q) ∨ (ws.length ≤ k ∧ nw[k - ws.length]? = some q) := fun k q hk => by
    rcases Nat.lt_or_ge k ws.length with h | h
    · rw [List.getElem?_append_left h] at hk; exact Or.inl ⟨h, hk⟩
    · rw [List.getElem?_append_right h] at hk; exact Or.inr ⟨h, hk⟩
  refine ⟨fun i j p q hi hj e => ?_, fun k q hk => ?_⟩
  · rcases get i p hi with ⟨a1, a2⟩ | ⟨a1, a2⟩ <;> rcases get j q hj with ⟨b1, b2⟩ | ⟨b1, b2⟩
    · exact hD.1 i j p q a2 b2 e
    · have c1 := old i p a2; have c2 := h1 _ q b2; omega
    · have c1 := old j q b2; have c2 := h1 _ p a2; omega
    · have c1 := h1 _ p a2; have c2 := h1 _ q b2; omega
  · rcases get k q hk with ⟨a1, a2⟩ | ⟨a1, a2⟩
    · exact hD.2 k q a2
    · exact hA _ (by rw [h1 _ q a2]; omega)
def mna (q n k : Nat) (cA cI : ClassId) : va_W := (q, .inl (cA, n, .inr (.inr (.inr (.inr (fun j => if j < n then some (q + 1 + j) else none)))))) :: (List.range n).map (fun j => (q + 1 + j, .inl (cI, k, .inl (fun _ => 0))))
theorem mna_at (q n k : Nat) (cA cI : ClassId) (i : Nat) (x : Nat × va_E) (h : (mna q n k cA cI)[i]? = some x) : x.1 = q + i := by
  unfold mna at h
  cases i with
  | zero => cases h; rfl
  | succ i =>
    rw [List.getElem?_cons_succ, List.getElem?_map] at h
    cases e : (List.range n)[i]? with
    | none => rw [e] at h; cases h
    | some j =>
      rw [e] at h
      obtain ⟨hl, hj⟩ := List.getElem?_eq_some_iff.mp e
      rw [List.getElem_range] at hj
      cases h
      subst hj
      show q + 1 + i = q + (i + 1)
      omega
theorem mna_in (q n k : Nat) (cA cI : ClassId) (i : Nat) (x : Nat × va_E) (h : (mna q n k cA cI)[i]? = some x) : (x = (q, .inl (cA, n, .inr (.inr (.inr (.inr (fun j => if j < n then some (q + 1 + j) else none))))))) ∨ ∃ j, j < n ∧ x = (q + 1 + j, .inl (cI, k, .inl (fun _ => 0))) := by
  unfold mna at h
  cases i with
  | zero => cases h; exact Or.inl rfl
  | succ i =>
    rw [List.getElem?_cons_succ, List.getElem?_map] at h
    cases e : (List.range n)[i]? with
    | none => rw [e] at h; cases h
    | some j =>
      rw [e] at h
      obtain ⟨hl, hj⟩ := List.getElem?_eq_some_iff.mp e
      rw [List.getElem_range] at hj
      subst hj
      rw [List.length_range] at hl
      cases h
      exact Or.inr ⟨_, hl, rfl⟩
section Mna
variable {p : Program} {l : Launch} {e : Env} {R : Room} {s : State} {m : MethodId} {args : Array Value} {below : List Frame} {meth : Method} {c : Code} {H : Heap} {locs : List Loc} {cells slots : Nat} {Q : State → Prop} {cc : ByteArray} {pc : Nat} {ls : Array Slot} {rest : List Value} {D : va_G} {cl : List vw_C} {A : Nat → Prop} {tys : List (ClassId × FieldType)} {ws : va_W} {H0 : Heap}
theorem w_mna (hexec : p.tables.exec = Jvm.exec) (hb : c.code = cc) {own : String} {index t0 t1 n k : Nat} {cA cI : ClassId} (hown : s.vm.findClass own = some m.cls) (hcl : (Cond.classLink own index "[[I").before args s = true) (hover : (Cond.arrayOver (.array .int)).before args s = true) (harr : (Cond.arrayClass .int).before args s = true)
    (hK : va_K D cl tys s) (ht0 : tys[t0]? = some (cI, .int)) (ht1 : tys[t1]? = some (cA, .array .int)) (hP : va_P D cl ws H) (hD : va_D A ws) (hS : va_S A H0 H locs) (hA : ∀ q, H0.size ≤ q → A q) (hn : n < 2 ^ 20) (hk : k < 2 ^ 20) (hcells : cells + (1 + n) ≤ R.cells) (hslots : slots + (n + n * k) ≤ R.slots) (hd : decode cc pc = .ok (.multianewarray index 2, 4))
    (kk : ∀ (q : Nat) (H1 : Heap) (locs1 : List Loc), va_P D cl (ws ++ mna q n k cA cI) H1 → va_D A (ws ++ mna q n k cA cI) → va_S A H0 H1 locs1 → W p l e R s m args below meth c H1 locs1 (cells + 1 + n) (slots + n + n * k) Q (F0 m (pc + 4) ls (.ref q :: rest))) : W p l e R s m args below meth c H locs cells slots Q (F0 m pc ls (.int (nI k) :: .int (nI n) :: rest)) := by
  intro T hT X
  have en := nI_clamp (show n < 2 ^ 31 by omega)
  have ek := nI_clamp (show k < 2 ^ 31 by omega)
  obtain ⟨vm₁, cA1, comp, hW, hfA, hfC, hO, hI, X1, step⟩ := X.multianewarray2K hexec (own := own) (index := index) (ty := .int) (n := nI n) (k := nI k) (rest := rest) (g := F0 m pc ls (.int (nI k) :: .int (nI n) :: rest)) hown hcl hover harr rfl (by rw [hb]; exact hd) rfl (nI_pos (by omega)) (nI_pos (by omega)) (by rw [en]; omega) (by rw [ek]; show k * 4 ≤ _; omega) (by rw [ek]; omega) rfl rfl (by rw [en]; exact hcells) (by rw [en, ek]; exact hslots)
  have eA : cA1 = cA := Option.some.inj (hfA.symm.trans (hK.2 t1 _ ht1).2)
  have eI : comp = cI := Option.some.inj (hfC.symm.trans (hK.2 t0 _ ht0).2)
  subst eA eI
  rw [en, ek] at X1 step
  have hTT : (T.setVm vm₁).heap = H := hT
  obtain ⟨f1, f2, -, -⟩ := Jvm.Free.Multi.fill_facts (T.setVm vm₁) cA1 comp n k (.int 0) n
  have f3 : ∀ a, a < H.size → (Jvm.Free.Multi.fill (T.setVm vm₁) cA1 comp n k (.int 0) n).heap[a]? = H[a]? := fun a ha => by rw [Jvm.Free.Multi.fill_old (T.setVm vm₁) cA1 comp n k (.int 0) (a := a) (by rw [hTT]; exact ha) n, hTT]
  have f4 := Jvm.Free.Multi.fill_inner (T.setVm vm₁) cA1 comp n k (.int 0) n
  rw [hTT] at f1 f2 f4
  have hD1 : va_D A (ws ++ mna H.size n k cA1 comp) := va_D_new hD hP (fun i x hx => mna_at _ _ _ _ _ i x hx) (fun q hq => hA q (Nat.le_trans hS.1 hq))
  have hP1 : va_P D cl (ws ++ mna H.size n k cA1 comp) (Jvm.Free.Multi.fill (T.setVm vm₁) cA1 comp n k (.int 0) n).heap := by
    refine (hP.kept (fun i x hx => f3 x.1 (vx_lt hP hx))).app (fun i x hx => ?_)
    rcases mna_in _ _ _ _ _ i x hx with rfl | ⟨j, hj, rfl⟩
    · show (Jvm.Free.Multi.fill (T.setVm vm₁) cA1 comp n k (.int 0) n).heap[H.size]? = some (vp_cell _ _)
      rw [f2, outer_eq]
    · show (Jvm.Free.Multi.fill (T.setVm vm₁) cA1 comp n k (.int 0) n).heap[H.size + 1 + j]? = some (vp_cell _ _)
      rw [f4 j hj, inner_eq]
  have hS1 : va_S A H0 (Jvm.Free.Multi.fill (T.setVm vm₁) cA1 comp n k (.int 0) n).heap (locs ++ (List.range n).map fun j => ⟨T.heap.size, j⟩) := by
    refine ⟨Nat.le_trans hS.1 (by rw [f1]; omega), fun q h1 h2 => (f3 q (Nat.lt_of_lt_of_le h1 hS.1)).trans (hS.2.1 q h1 h2), fun z hz => ?_⟩
    rcases List.mem_append.mp hz with h | h
    · exact hS.2.2 z h
    · obtain ⟨j, -, rfl⟩ := List.mem_map.mp h
      exact hA _ (by show H0.size ≤ T.heap.size; rw [hT]; exact hS.1)
  obtain ⟨t, a1, b1⟩ := kk H.size _ _ hP1 hD1 hS1 _ rfl X1
  exact ⟨t, step t (by rw [hT]; exact a1), b1⟩
end Mna
