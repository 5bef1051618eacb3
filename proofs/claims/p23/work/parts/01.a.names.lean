-- ===== PART A: goes FIRST, ahead of the names: the tables' words, and 'selects' of the private methods out of them =====
/-- a private method of a class that the tables say can be made, by its rows of tables_1 -/
def lw_okq (q : MethodName × Nat) : Prop := (q.1.cls ≠ "java/lang/invoke/MethodHandle" ∧ q.1.cls ≠ "java/lang/invoke/VarHandle") ∧ Cond.instantiable q.1.cls q.2 ∈ tables_1 ∧ Cond.privateMethod q.1 ∈ tables_1 ∧ Cond.instanceMethod q.1 ∈ tables_1
theorem lw_p0 : lw_okq (⟨"SentenceGym", "countReadings", "(III)I"⟩, 7) := ⟨⟨by decide +kernel, by decide +kernel⟩, List.mem_of_getElem? (i := 15) (by decide +kernel), List.mem_of_getElem? (i := 132) (by decide +kernel), List.mem_of_getElem? (i := 133) (by decide +kernel)⟩
theorem lw_p1 : lw_okq (⟨"SentenceGym$CountChart", "fill", "(LSentenceGym$Grammar;[II)V"⟩, 1) := ⟨⟨by decide +kernel, by decide +kernel⟩, List.mem_of_getElem? (i := 76) (by decide +kernel), List.mem_of_getElem? (i := 136) (by decide +kernel), List.mem_of_getElem? (i := 137) (by decide +kernel)⟩
theorem lw_p2 : lw_okq (⟨"SentenceGym$CountChart", "fillSpan", "(LSentenceGym$Grammar;[III)V"⟩, 1) := ⟨⟨by decide +kernel, by decide +kernel⟩, List.mem_of_getElem? (i := 76) (by decide +kernel), List.mem_of_getElem? (i := 140) (by decide +kernel), List.mem_of_getElem? (i := 141) (by decide +kernel)⟩
theorem lw_p3 : lw_okq (⟨"SentenceGym$Grammar", "countWord", "(I[I)V"⟩, 8) := ⟨⟨by decide +kernel, by decide +kernel⟩, List.mem_of_getElem? (i := 23) (by decide +kernel), List.mem_of_getElem? (i := 150) (by decide +kernel), List.mem_of_getElem? (i := 151) (by decide +kernel)⟩
theorem lw_p4 : lw_okq (⟨"SentenceGym$Grammar", "addJoined", "([I[I[I)V"⟩, 8) := ⟨⟨by decide +kernel, by decide +kernel⟩, List.mem_of_getElem? (i := 23) (by decide +kernel), List.mem_of_getElem? (i := 154) (by decide +kernel), List.mem_of_getElem? (i := 155) (by decide +kernel)⟩
theorem lw_p5 : lw_okq (⟨"SentenceGym$Grammar", "addJoinedWith", "(III[I[I)V"⟩, 8) := ⟨⟨by decide +kernel, by decide +kernel⟩, List.mem_of_getElem? (i := 23) (by decide +kernel), List.mem_of_getElem? (i := 158) (by decide +kernel), List.mem_of_getElem? (i := 159) (by decide +kernel)⟩
theorem lw_p6 : lw_okq (⟨"SentenceGym$CountChart", "countSpan", "(III)I"⟩, 1) := ⟨⟨by decide +kernel, by decide +kernel⟩, List.mem_of_getElem? (i := 76) (by decide +kernel), List.mem_of_getElem? (i := 162) (by decide +kernel), List.mem_of_getElem? (i := 163) (by decide +kernel)⟩
theorem lw_p7 : lw_okq (⟨"java/lang/Throwable", "fillInStackTrace", "(I)Ljava/lang/Throwable;"⟩, 6) := ⟨⟨by decide +kernel, by decide +kernel⟩, List.mem_of_getElem? (i := 231) (by decide +kernel), List.mem_of_getElem? (i := 229) (by decide +kernel), List.mem_of_getElem? (i := 230) (by decide +kernel)⟩
theorem lw_p8 : lw_okq (⟨"SentenceGym$Grammar", "defineWord", "(III)V"⟩, 8) := ⟨⟨by decide +kernel, by decide +kernel⟩, List.mem_of_getElem? (i := 23) (by decide +kernel), List.mem_of_getElem? (i := 280) (by decide +kernel), List.mem_of_getElem? (i := 281) (by decide +kernel)⟩
theorem lw_p9 : lw_okq (⟨"SentenceGym$Grammar", "defineRule", "(IIIII)V"⟩, 8) := ⟨⟨by decide +kernel, by decide +kernel⟩, List.mem_of_getElem? (i := 23) (by decide +kernel), List.mem_of_getElem? (i := 320) (by decide +kernel), List.mem_of_getElem? (i := 321) (by decide +kernel)⟩
theorem lw_p10 : lw_okq (⟨"SentenceGym", "rowsOfLength", "(I)I"⟩, 7) := ⟨⟨by decide +kernel, by decide +kernel⟩, List.mem_of_getElem? (i := 15) (by decide +kernel), List.mem_of_getElem? (i := 374) (by decide +kernel), List.mem_of_getElem? (i := 375) (by decide +kernel)⟩
theorem lw_p11 : lw_okq (⟨"SentenceGym", "makeSentences", "(II)I"⟩, 7) := ⟨⟨by decide +kernel, by decide +kernel⟩, List.mem_of_getElem? (i := 15) (by decide +kernel), List.mem_of_getElem? (i := 378) (by decide +kernel), List.mem_of_getElem? (i := 379) (by decide +kernel)⟩
theorem lw_p12 : lw_okq (⟨"SentenceGym", "clearTrial", "()V"⟩, 7) := ⟨⟨by decide +kernel, by decide +kernel⟩, List.mem_of_getElem? (i := 15) (by decide +kernel), List.mem_of_getElem? (i := 382) (by decide +kernel), List.mem_of_getElem? (i := 383) (by decide +kernel)⟩
theorem lw_p13 : lw_okq (⟨"SentenceGym$PartSets", "putWord", "(LSentenceGym$Grammar;II)V"⟩, 1) := ⟨⟨by decide +kernel, by decide +kernel⟩, List.mem_of_getElem? (i := 66) (by decide +kernel), List.mem_of_getElem? (i := 386) (by decide +kernel), List.mem_of_getElem? (i := 387) (by decide +kernel)⟩
theorem lw_p14 : lw_okq (⟨"SentenceGym$PartSets", "clearSpan", "(II)V"⟩, 1) := ⟨⟨by decide +kernel, by decide +kernel⟩, List.mem_of_getElem? (i := 66) (by decide +kernel), List.mem_of_getElem? (i := 390) (by decide +kernel), List.mem_of_getElem? (i := 391) (by decide +kernel)⟩
theorem lw_p15 : lw_okq (⟨"SentenceGym$PartSets", "allowWord", "(LSentenceGym$Grammar;II)V"⟩, 1) := ⟨⟨by decide +kernel, by decide +kernel⟩, List.mem_of_getElem? (i := 66) (by decide +kernel), List.mem_of_getElem? (i := 395) (by decide +kernel), List.mem_of_getElem? (i := 396) (by decide +kernel)⟩
def lw_privs_1 : List (MethodName × Nat) := [(⟨"SentenceGym", "countReadings", "(III)I"⟩, 7), (⟨"SentenceGym$CountChart", "fill", "(LSentenceGym$Grammar;[II)V"⟩, 1), (⟨"SentenceGym$CountChart", "fillSpan", "(LSentenceGym$Grammar;[III)V"⟩, 1), (⟨"SentenceGym$Grammar", "countWord", "(I[I)V"⟩, 8), (⟨"SentenceGym$Grammar", "addJoined", "([I[I[I)V"⟩, 8), (⟨"SentenceGym$Grammar", "addJoinedWith", "(III[I[I)V"⟩, 8), (⟨"SentenceGym$CountChart", "countSpan", "(III)I"⟩, 1), (⟨"java/lang/Throwable", "fillInStackTrace", "(I)Ljava/lang/Throwable;"⟩, 6), (⟨"SentenceGym$Grammar", "defineWord", "(III)V"⟩, 8), (⟨"SentenceGym$Grammar", "defineRule", "(IIIII)V"⟩, 8), (⟨"SentenceGym", "rowsOfLength", "(I)I"⟩, 7), (⟨"SentenceGym", "makeSentences", "(II)I"⟩, 7), (⟨"SentenceGym", "clearTrial", "()V"⟩, 7), (⟨"SentenceGym$PartSets", "putWord", "(LSentenceGym$Grammar;II)V"⟩, 1), (⟨"SentenceGym$PartSets", "clearSpan", "(II)V"⟩, 1), (⟨"SentenceGym$PartSets", "allowWord", "(LSentenceGym$Grammar;II)V"⟩, 1)]
theorem lw_r1 : ∀ q ∈ lw_privs_1, lw_okq q := List.forall_mem_cons.mpr ⟨lw_p0, List.forall_mem_cons.mpr ⟨lw_p1, List.forall_mem_cons.mpr ⟨lw_p2, List.forall_mem_cons.mpr ⟨lw_p3, List.forall_mem_cons.mpr ⟨lw_p4, List.forall_mem_cons.mpr ⟨lw_p5, List.forall_mem_cons.mpr ⟨lw_p6, List.forall_mem_cons.mpr ⟨lw_p7, List.forall_mem_cons.mpr ⟨lw_p8, List.forall_mem_cons.mpr ⟨lw_p9, List.forall_mem_cons.mpr ⟨lw_p10, List.forall_mem_cons.mpr ⟨lw_p11, List.forall_mem_cons.mpr ⟨lw_p12, List.forall_mem_cons.mpr ⟨lw_p13, List.forall_mem_cons.mpr ⟨lw_p14, List.forall_mem_cons.mpr ⟨lw_p15, fun _ h => absurd h List.not_mem_nil⟩⟩⟩⟩⟩⟩⟩⟩⟩⟩⟩⟩⟩⟩⟩⟩
theorem lw_p16 : lw_okq (⟨"SentenceGym$PartSets", "joinUpTo", "(LSentenceGym$Grammar;II)V"⟩, 1) := ⟨⟨by decide +kernel, by decide +kernel⟩, List.mem_of_getElem? (i := 66) (by decide +kernel), List.mem_of_getElem? (i := 399) (by decide +kernel), List.mem_of_getElem? (i := 400) (by decide +kernel)⟩
theorem lw_p17 : lw_okq (⟨"SentenceGym$PartSets", "join", "(LSentenceGym$Grammar;IIII)V"⟩, 1) := ⟨⟨by decide +kernel, by decide +kernel⟩, List.mem_of_getElem? (i := 66) (by decide +kernel), List.mem_of_getElem? (i := 403) (by decide +kernel), List.mem_of_getElem? (i := 404) (by decide +kernel)⟩
theorem lw_p18 : lw_okq (⟨"SentenceGym$Grammar", "pairsMade", "(III)I"⟩, 8) := ⟨⟨by decide +kernel, by decide +kernel⟩, List.mem_of_getElem? (i := 23) (by decide +kernel), List.mem_of_getElem? (i := 407) (by decide +kernel), List.mem_of_getElem? (i := 408) (by decide +kernel)⟩
theorem lw_p19 : lw_okq (⟨"SentenceGym$PartSets", "holdsSentence", "(I)Z"⟩, 1) := ⟨⟨by decide +kernel, by decide +kernel⟩, List.mem_of_getElem? (i := 66) (by decide +kernel), List.mem_of_getElem? (i := 414) (by decide +kernel), List.mem_of_getElem? (i := 415) (by decide +kernel)⟩
theorem lw_p20 : lw_okq (⟨"SentenceGym$PartSets", "pairsOf", "(III)I"⟩, 1) := ⟨⟨by decide +kernel, by decide +kernel⟩, List.mem_of_getElem? (i := 66) (by decide +kernel), List.mem_of_getElem? (i := 418) (by decide +kernel), List.mem_of_getElem? (i := 419) (by decide +kernel)⟩
theorem lw_p21 : lw_okq (⟨"SentenceGym", "nextTrial", "(I)I"⟩, 7) := ⟨⟨by decide +kernel, by decide +kernel⟩, List.mem_of_getElem? (i := 15) (by decide +kernel), List.mem_of_getElem? (i := 422) (by decide +kernel), List.mem_of_getElem? (i := 423) (by decide +kernel)⟩
theorem lw_p22 : lw_okq (⟨"SentenceGym", "trialAsDigits", "(I)I"⟩, 7) := ⟨⟨by decide +kernel, by decide +kernel⟩, List.mem_of_getElem? (i := 15) (by decide +kernel), List.mem_of_getElem? (i := 434) (by decide +kernel), List.mem_of_getElem? (i := 435) (by decide +kernel)⟩
theorem lw_p23 : lw_okq (⟨"SentenceGym$PartSets", "parse", "(LSentenceGym$Grammar;[III)V"⟩, 1) := ⟨⟨by decide +kernel, by decide +kernel⟩, List.mem_of_getElem? (i := 66) (by decide +kernel), List.mem_of_getElem? (i := 453) (by decide +kernel), List.mem_of_getElem? (i := 454) (by decide +kernel)⟩
theorem lw_p24 : lw_okq (⟨"SentenceGym$PlainCounter", "countRow", "(LSentenceGym$Grammar;[III)I"⟩, 1) := ⟨⟨by decide +kernel, by decide +kernel⟩, List.mem_of_getElem? (i := 87) (by decide +kernel), List.mem_of_getElem? (i := 464) (by decide +kernel), List.mem_of_getElem? (i := 465) (by decide +kernel)⟩
theorem lw_p25 : lw_okq (⟨"SentenceGym", "isNoSpan", "(II)Z"⟩, 7) := ⟨⟨by decide +kernel, by decide +kernel⟩, List.mem_of_getElem? (i := 15) (by decide +kernel), List.mem_of_getElem? (i := 482) (by decide +kernel), List.mem_of_getElem? (i := 483) (by decide +kernel)⟩
theorem lw_p26 : lw_okq (⟨"SentenceGym", "isSentenceFreeAt", "(II)Z"⟩, 7) := ⟨⟨by decide +kernel, by decide +kernel⟩, List.mem_of_getElem? (i := 15) (by decide +kernel), List.mem_of_getElem? (i := 504) (by decide +kernel), List.mem_of_getElem? (i := 505) (by decide +kernel)⟩
theorem lw_p27 : lw_okq (⟨"SentenceGym$PartSets", "putAnyWord", "(LSentenceGym$Grammar;I)V"⟩, 1) := ⟨⟨by decide +kernel, by decide +kernel⟩, List.mem_of_getElem? (i := 66) (by decide +kernel), List.mem_of_getElem? (i := 508) (by decide +kernel), List.mem_of_getElem? (i := 509) (by decide +kernel)⟩
theorem lw_p28 : lw_okq (⟨"SentenceGym", "isSentenceWith", "(II)Z"⟩, 7) := ⟨⟨by decide +kernel, by decide +kernel⟩, List.mem_of_getElem? (i := 15) (by decide +kernel), List.mem_of_getElem? (i := 520) (by decide +kernel), List.mem_of_getElem? (i := 521) (by decide +kernel)⟩
def lw_privs_2 : List (MethodName × Nat) := [(⟨"SentenceGym$PartSets", "joinUpTo", "(LSentenceGym$Grammar;II)V"⟩, 1), (⟨"SentenceGym$PartSets", "join", "(LSentenceGym$Grammar;IIII)V"⟩, 1), (⟨"SentenceGym$Grammar", "pairsMade", "(III)I"⟩, 8), (⟨"SentenceGym$PartSets", "holdsSentence", "(I)Z"⟩, 1), (⟨"SentenceGym$PartSets", "pairsOf", "(III)I"⟩, 1), (⟨"SentenceGym", "nextTrial", "(I)I"⟩, 7), (⟨"SentenceGym", "trialAsDigits", "(I)I"⟩, 7), (⟨"SentenceGym$PartSets", "parse", "(LSentenceGym$Grammar;[III)V"⟩, 1), (⟨"SentenceGym$PlainCounter", "countRow", "(LSentenceGym$Grammar;[III)I"⟩, 1), (⟨"SentenceGym", "isNoSpan", "(II)Z"⟩, 7), (⟨"SentenceGym", "isSentenceFreeAt", "(II)Z"⟩, 7), (⟨"SentenceGym$PartSets", "putAnyWord", "(LSentenceGym$Grammar;I)V"⟩, 1), (⟨"SentenceGym", "isSentenceWith", "(II)Z"⟩, 7)]
theorem lw_r2 : ∀ q ∈ lw_privs_2, lw_okq q := List.forall_mem_cons.mpr ⟨lw_p16, List.forall_mem_cons.mpr ⟨lw_p17, List.forall_mem_cons.mpr ⟨lw_p18, List.forall_mem_cons.mpr ⟨lw_p19, List.forall_mem_cons.mpr ⟨lw_p20, List.forall_mem_cons.mpr ⟨lw_p21, List.forall_mem_cons.mpr ⟨lw_p22, List.forall_mem_cons.mpr ⟨lw_p23, List.forall_mem_cons.mpr ⟨lw_p24, List.forall_mem_cons.mpr ⟨lw_p25, List.forall_mem_cons.mpr ⟨lw_p26, List.forall_mem_cons.mpr ⟨lw_p27, List.forall_mem_cons.mpr ⟨lw_p28, fun _ h => absurd h List.not_mem_nil⟩⟩⟩⟩⟩⟩⟩⟩⟩⟩⟩⟩⟩
def lw_privs : List (MethodName × Nat) := lw_privs_1 ++ (lw_privs_2)
def lw_tbl : List Cond := k2_sels lw_privs ++ tables_1
theorem lw_privs_ok : ∀ q ∈ lw_privs, lw_okq q := by
  show ∀ q ∈ lw_privs_1 ++ (lw_privs_2), lw_okq q
  exact List.forall_mem_append.mpr ⟨lw_r1, lw_r2⟩
/-- the streams that the claim lets the run draw from -/
abbrev lw_cs : List Choice := [Jvm.Choice.named "NaN.bits"]
theorem lw_bits : nanBits ∈ lw_cs := by first | decide | exact List.mem_cons_self | simp [lw_cs, nanBits]
/-! ===== BEGIN words of one list among another's, by their places ===== -/
theorem goodIn_r {big : List Cond} (ws : List Cond) (ps : List Nat) (hp : ws = ps.filterMap (fun i => big[i]?)) (h : ws.all goodWord = true) : GoodIn big ws := by
  intro w hw
  have h1 := List.all_eq_true.mp h w hw
  rw [hp] at hw
  obtain ⟨i, -, hi⟩ := List.mem_filterMap.mp hw
  have hm : w ∈ big := by first | exact List.mem_of_getElem? hi | exact List.getElem?_mem hi
  exact ⟨hm, good_of_word h1⟩
theorem goodIn_app {big a b : List Cond} (ha : GoodIn big a) (hb : GoodIn big b) : GoodIn big (a ++ b) := fun w h => (List.mem_append.mp h).elim (ha w) (hb w)
theorem goodIn_ca {big a b : List Cond} {c : Cond} (ha : GoodIn big (c :: a)) (hb : GoodIn big b) : GoodIn big (c :: (a ++ b)) := fun w h => (List.mem_cons.mp h).elim (fun e => ha w (List.mem_cons.mpr (Or.inl e))) (fun h => (List.mem_append.mp h).elim (fun h => ha w (List.mem_cons.mpr (Or.inr h))) (hb w))
theorem goodIn_sub {big ws : List Cond} (hm : ∀ w ∈ ws, w ∈ big) (h : ws.all goodWord = true) : GoodIn big ws := fun w hw => ⟨hm w hw, good_of_word (List.all_eq_true.mp h w hw)⟩
/-! ===== END ===== -/

/-! ===== BEGIN new T[n][m]: the outer array a place, the inner ones among the pooled ===== -/
/-- f, but v at every address of l -/
def vr_up {α : Type} (f : Nat → α) (l : List Nat) (v : α) : Nat → α := fun a => if a ∈ l then v else f a
theorem vr_up_in {α : Type} {f : Nat → α} {l : List Nat} {v : α} {a : Nat} (h : a ∈ l) : vr_up f l v a = v := if_pos h
theorem vr_up_ne {α : Type} {f : Nat → α} {l : List Nat} {v : α} {a : Nat} (h : a ∉ l) : vr_up f l v a = f a := if_neg h
theorem vr_rows {L l : List Nat} {f : Nat → va_E} {e : va_E} (h : ∀ a, a ∈ l → a ∉ L) : va_pl L f ++ l.map (fun a => (a, e)) = va_pl (L ++ l) (vr_up f l e) := by
  unfold va_pl
  rw [List.map_append]
  congr 1
  · apply List.map_congr_left
    intro a ha
    rw [vr_up_ne (fun q => h a q ha)]
  · apply List.map_congr_left
    intro a ha
    rw [vr_up_in ha]
theorem vr_lay {X rows : va_W} {x : Nat × va_E} {pl : va_W} {D : va_G} {cl : List vw_C} {H : Heap} (hP : va_P D cl (((X ++ pl) ++ [x]) ++ rows) H) : va_P D cl ((X ++ [x]) ++ (pl ++ rows)) H := by
  rw [List.append_assoc (X ++ pl)] at hP
  have h := va_P.swap hP
  rw [← List.append_assoc X] at h
  have h2 := va_P.swap h
  rw [List.append_assoc (X ++ [x])] at h2
  exact h2
theorem vr_layD {X rows : va_W} {x : Nat × va_E} {pl : va_W} {A : Nat → Prop} (hD : va_D A (((X ++ pl) ++ [x]) ++ rows)) : va_D A ((X ++ [x]) ++ (pl ++ rows)) := by
  rw [List.append_assoc (X ++ pl)] at hD
  have h := va_D.swap hD
  rw [← List.append_assoc X] at h
  have h2 := va_D.swap h
  rw [List.append_assoc (X ++ [x])] at h2
  exact h2
theorem vr_outer (c : ClassId) (N h0 : Nat) : ∀ i : Nat, Jvm.Free.Multi.outerC c N h0 i = arrV c N (fun j => va_rf (if j < i then some (h0 + 1 + j) else none))
  | 0 => by
    show ({ cls := c, slots := Array.replicate N .null, vm := .none } : Cell) = _
    rw [arrV_new]
    refine congrArg (arrV c N) (funext fun j => ?_)
    simp [va_rf]
  | i + 1 => by
    show (Jvm.Free.Multi.outerC c N h0 i).setSlot i (.ref (h0 + 1 + i)) = _
    rw [vr_outer c N h0 i, arrV_store]
    refine congrArg (arrV c N) (funext fun j => ?_)
    by_cases e : j = i
    · subst e
      simp [updV, va_rf]
    · by_cases h : j < i
      · simp [updV, e, h, Nat.lt_succ_of_lt h]
      · simp [updV, e, h, show ¬ j < i + 1 by omega]
/-- what the printed row va_mna asks of the tables (its printed text names it, no printed text lays it) -/
def va_AOA (t : FieldType) (U : State) : Prop := (Cond.arrayOver (.array t)).before #[] U = true
theorem va_AOA.of {t : FieldType} {A : Array Value} {U : State} (h : (Cond.arrayOver (.array t)).before A U = true) : va_AOA t U := h
theorem va_AOA.use {t : FieldType} {A : Array Value} {U : State} (h : va_AOA t U) : (Cond.arrayOver (.array t)).before A U = true := h
section VGM
variable {p : Program} {l : Launch} {e : Env} {R : Room} {s : State} {m : MethodId} {args : Array Value} {below : List Frame} {meth : Method} {c : Code} {H : Heap} {locs : List Loc} {cells slots : Nat} {Q : State → Prop}
variable {cc : ByteArray} {pc : Nat} {ls : Array Slot} {rest : List Value} {D : va_G} {cl : List vw_C} {A : Nat → Prop} {a : Nat} {tys : List (ClassId × FieldType)} {ws : va_W} {H0 : Heap}
theorem va_mna {X : va_W} {L : List Nat} {f : Nat → va_E} {cc : ByteArray} (hexec : p.tables.exec = Jvm.exec) (hb : c.code = cc) {own : String} {index : Nat} {ty : FieldType} {cy : ClassId} (hown : s.vm.findClass own = some m.cls) (hclink : (Cond.classLink own index ("[" ++ (FieldType.array ty).toString)).before args s = true) (hover : va_AOA ty s) (harr : (Cond.arrayClass ty).before args s = true) (hcy : s.vm.findClass (FieldType.array ty).toString = some cy)
    (hK : va_K D cl tys s) (hP : va_P D cl (X ++ va_pl L f) H) (hD : va_D A (X ++ va_pl L f)) (hS : va_S A H0 H locs) (hA : ∀ q, H0.size ≤ q → A q) {n k : Int32} {N' K' : Nat} {z : vp_A} (hn : ¬ n < 0) (hk : ¬ k < 0) (hN : n.toNatClampNeg = N') (hM : k.toNatClampNeg = K')
    (hb1 : N' * 4 ≤ 536870912) (hb2 : K' * componentBytes ty ≤ 536870912) (hb3 : K' ≤ 536870912) (hdf : fits ty (defaultValue ty) = true) (hdd : (defaultValue ty).isDefault = true) (hcells : cells + (1 + N') ≤ R.cells) (hslots : slots + (N' + N' * K') ≤ R.slots) (hz : ∀ c : ClassId, Jvm.Free.Multi.innerC c K' (defaultValue ty) = vp_cell c z) (hdg : decode cc pc = .ok (.multianewarray index 2, 4))
    (kk : ∀ (q : Nat) (r : Nat → Nat) (cA : ClassId) (H1 : Heap), (∀ i j : Nat, i < N' → j < N' → r i = r j → i = j) → (∀ i : Nat, i < N' → r i ∉ L) → va_K D cl (tys ++ [(cA, .array ty)]) s →
      va_P D cl ((X ++ [(q, .inl (cA, N', .inr (.inr (.inr (.inr (fun i => if i < N' then some (r i) else none))))))]) ++ va_pl (L ++ (List.range N').map r) (vr_up f ((List.range N').map r) (.inl (cy, z)))) H1 → va_D A ((X ++ [(q, .inl (cA, N', .inr (.inr (.inr (.inr (fun i => if i < N' then some (r i) else none))))))]) ++ va_pl (L ++ (List.range N').map r) (vr_up f ((List.range N').map r) (.inl (cy, z)))) → va_S A H0 H1 locs →
      W p l e R s m args below meth c H1 locs (cells + 1 + N') (slots + N' + N' * K') Q (F0 m (pc + 4) ls (.ref q :: rest))) : W p l e R s m args below meth c H locs cells slots Q (F0 m pc ls (.int k :: .int n :: rest)) := by
  subst hN
  subst hM
  intro T hT Xs
  obtain ⟨vm₁, cA, comp, -, fA, fC, hO, -, X', step⟩ := Xs.multianewarray2F hexec hown hclink (va_AOA.use hover) harr (g := F0 m pc ls (.int k :: .int n :: rest)) rfl (by rw [hb]; exact hdg) rfl hn hk hb1 hb2 hb3 hdf hdd hcells hslots
  have ec : some cy = some comp := hcy.symm.trans fC
  cases ec
  generalize hF : Jvm.Free.Multi.fill (T.setVm vm₁) cA cy n.toNatClampNeg k.toNatClampNeg (defaultValue ty) n.toNatClampNeg = F at X' step
  have hTh : (T.setVm vm₁).heap = H := hT
  obtain ⟨f1, f2, -, -⟩ := Jvm.Free.Multi.fill_facts (T.setVm vm₁) cA cy n.toNatClampNeg k.toNatClampNeg (defaultValue ty) n.toNatClampNeg
  rw [hF, hTh] at f1 f2
  have hold : ∀ x : Nat, x < H.size → F.heap[x]? = H[x]? := fun x hx => by
    have := Jvm.Free.Multi.fill_old (T.setVm vm₁) cA cy n.toNatClampNeg k.toNatClampNeg (defaultValue ty) (a := x) (by rw [hTh]; exact hx) n.toNatClampNeg
    rw [hF, hTh] at this
    exact this
  have hrow : ∀ j : Nat, j < n.toNatClampNeg → F.heap[H.size + 1 + j]? = some (vp_cell cy z) := fun j hj => by
    have := Jvm.Free.Multi.fill_inner (T.setVm vm₁) cA cy n.toNatClampNeg k.toNatClampNeg (defaultValue ty) n.toNatClampNeg j hj
    rw [hF, hTh, hz] at this
    exact this
  have hout : Jvm.Free.Multi.outerC cA n.toNatClampNeg H.size n.toNatClampNeg = vp_cell cA (n.toNatClampNeg, .inr (.inr (.inr (.inr (fun i => if i < n.toNatClampNeg then some (H.size + 1 + i) else none))))) := by
    rw [vp_cell_q]
    exact vr_outer cA n.toNatClampNeg H.size n.toNatClampNeg
  rw [hout] at f2
  have hlt : ∀ a, a ∈ L → a < H.size := fun a ha => by
    obtain ⟨k9, hk9⟩ := va_pl_get (X := X) (f := f) ha
    exact (hP k9 _ hk9).lt
  have hnl : ∀ i : Nat, i < n.toNatClampNeg → H.size + 1 + i ∉ L := fun i _ h => by
    have := hlt _ h
    omega
  have hnm : ∀ a, a ∈ (List.range n.toNatClampNeg).map (fun i => H.size + 1 + i) → a ∉ L := fun a ha h => by
    obtain ⟨i, -, rfl⟩ := List.mem_map.mp ha
    have := hlt _ h
    omega
  have hP0 : va_P D cl (X ++ va_pl L f) F.heap := hP.kept (fun k9 x hx => hold x.1 ((hP k9 x hx).lt))
  have hP1 : va_P D cl ((X ++ va_pl L f) ++ [(H.size, .inl (cA, n.toNatClampNeg, .inr (.inr (.inr (.inr (fun i => if i < n.toNatClampNeg then some (H.size + 1 + i) else none))))))]) F.heap := hP0.app (fun k9 x hx => by
    have h0 : k9 < 1 := (List.getElem?_eq_some_iff.mp hx).1
    rw [show k9 = 0 by omega] at hx
    cases hx
    exact f2)
  have hP2 : va_P D cl (((X ++ va_pl L f) ++ [(H.size, .inl (cA, n.toNatClampNeg, .inr (.inr (.inr (.inr (fun i => if i < n.toNatClampNeg then some (H.size + 1 + i) else none))))))]) ++ ((List.range n.toNatClampNeg).map (fun i => H.size + 1 + i)).map (fun a => (a, .inl (cy, z)))) F.heap := hP1.app (fun k9 x hx => by
    obtain ⟨a, ha, rfl⟩ := List.mem_map.mp (List.mem_of_getElem? hx)
    obtain ⟨i, hi, rfl⟩ := List.mem_map.mp ha
    exact hrow i (List.mem_range.mp hi))
  have hD2 : va_D A (((X ++ va_pl L f) ++ [(H.size, .inl (cA, n.toNatClampNeg, .inr (.inr (.inr (.inr (fun i => if i < n.toNatClampNeg then some (H.size + 1 + i) else none))))))]) ++ ((List.range n.toNatClampNeg).map (fun i => H.size + 1 + i)).map (fun a => (a, .inl (cy, z)))) := by
    have hD1 := hD.push (e := .inl (cA, n.toNatClampNeg, .inr (.inr (.inr (.inr (fun i => if i < n.toNatClampNeg then some (H.size + 1 + i) else none)))))) hP rfl (hA _ hS.1)
    generalize hW1 : (X ++ va_pl L f) ++ [(H.size, .inl (cA, n.toNatClampNeg, .inr (.inr (.inr (.inr (fun i => if i < n.toNatClampNeg then some (H.size + 1 + i) else none))))))] = W1 at hD1 hP1 ⊢
    have hle : ∀ (k9 : Nat) (x : Nat × va_E), W1[k9]? = some x → x.1 ≤ H.size := fun k9 x hx => by
      rw [← hW1] at hx
      by_cases hl : k9 < (X ++ va_pl L f).length
      · rw [List.getElem?_append_left hl] at hx
        exact Nat.le_of_lt ((hP k9 x hx).lt)
      · rw [List.getElem?_append_right (by omega)] at hx
        have h0 : k9 - (X ++ va_pl L f).length < 1 := (List.getElem?_eq_some_iff.mp hx).1
        rw [show k9 - (X ++ va_pl L f).length = 0 by omega] at hx
        cases hx
        exact Nat.le_refl _
    have hr : ∀ (k9 : Nat) (x : Nat × va_E), (((List.range n.toNatClampNeg).map (fun i => H.size + 1 + i)).map (fun a => ((a, .inl (cy, z)) : Nat × va_E)))[k9]? = some x → x.1 = H.size + 1 + k9 := fun k9 x hx => by
      rw [List.getElem?_map, List.getElem?_map] at hx
      by_cases h9 : k9 < n.toNatClampNeg
      · rw [List.getElem?_range h9] at hx
        cases hx
        rfl
      · have hn0 : (List.range n.toNatClampNeg)[k9]? = none := List.getElem?_eq_none (by rw [List.length_range]; omega)
        rw [hn0] at hx
        cases hx
    refine ⟨fun i j x y hi hj hxy => ?_, fun k9 x hx => ?_⟩
    · by_cases h1 : i < W1.length <;> by_cases h2 : j < W1.length
      · rw [List.getElem?_append_left h1] at hi
        rw [List.getElem?_append_left h2] at hj
        exact hD1.1 i j x y hi hj hxy
      · rw [List.getElem?_append_left h1] at hi
        rw [List.getElem?_append_right (by omega)] at hj
        have := hle _ _ hi
        have := hr _ _ hj
        omega
      · rw [List.getElem?_append_right (by omega)] at hi
        rw [List.getElem?_append_left h2] at hj
        have := hle _ _ hj
        have := hr _ _ hi
        omega
      · rw [List.getElem?_append_right (by omega)] at hi hj
        have := hr _ _ hi
        have := hr _ _ hj
        omega
    · by_cases h1 : k9 < W1.length
      · rw [List.getElem?_append_left h1] at hx
        exact hD1.2 k9 x hx
      · rw [List.getElem?_append_right (by omega)] at hx
        have := hr _ _ hx
        exact hA _ (by have := hS.1; omega)
  have hAr : ArrOfT s cA (.array ty) := fun N9 z9 => by
    obtain ⟨-, k9, hk9, cm9, hkk9⟩ := (hO 0 0 0).1
    exact ⟨(fun q hq => by cases hq), k9, hk9, cm9, hkk9⟩
  have hK2 : va_K D cl (tys ++ [(cA, .array ty)]) s := ⟨hK.1, fun k9 x hx => by
    by_cases hl : k9 < tys.length
    · rw [List.getElem?_append_left hl] at hx
      exact hK.2 k9 x hx
    · rw [List.getElem?_append_right (by omega)] at hx
      have h0 : k9 - tys.length < 1 := (List.getElem?_eq_some_iff.mp hx).1
      rw [show k9 - tys.length = 0 by omega] at hx
      cases hx
      exact ⟨hAr, fA⟩⟩
  obtain ⟨t, a1, b1⟩ := kk H.size (fun i => H.size + 1 + i) cA F.heap (fun i j _ _ h => by have h9 : H.size + 1 + i = H.size + 1 + j := h; omega) hnl hK2 (by rw [← vr_rows hnm]; exact vr_lay hP2) (by rw [← vr_rows hnm]; exact vr_layD hD2) ⟨by rw [f1]; have := hS.1; omega, fun x h1 h2 => (hold x (Nat.lt_of_lt_of_le h1 hS.1)).trans (hS.2.1 x h1 h2), hS.2.2⟩ F rfl X'
  refine ⟨t, step t ?_, b1⟩
  have e : T.heap.size = H.size := by rw [hT]
  rw [e]
  exact a1
end VGM
/-! ===== END ===== -/

/-! ===== BEGIN exceptions that leave a method, and their catching by the caller (launches without stack traces) ===== -/
section VXA
/-! The laws vx_back, vx_callV, vx_callS, vx_callSW, vx_throw0, vx_throwS follow proofs of the library, with one case more: JvmDerived/Free/Laws.lean (Back.of_free), Shelf42/LK1.lean (callV, callS), Shelf/KitTraced.lean (throwNew0V, throwNewS). -/
/-- where a method has thrown q: the class by its name, the cell, what was written, the world -/
def vx_T (XC : String → State → State → Prop) (st : State) (q : Addr) (t : State) (mc ms : Nat) (free : Addr → Prop) : Prop :=
  ∃ (E : String) (ce : Cell) (L : List Loc), XC E st t ∧ t.heap[q]? = some ce ∧ ce.vm = .none ∧ st.vm.findClass E = some ce.cls ∧ st.WarmedH t.vm ∧ st.sameButNew ({ t with vm := st.vm } : State) L mc ms ∧ ∀ z ∈ L, free z.base
def vx_Q (Qc : Array Value → State → Outcome → State → Prop) (XC : String → State → State → Prop) (mc ms : Nat) (free : Addr → Prop) : Array Value → State → Outcome → State → Prop := fun a st o t =>
  (Qc a st o t ∧ ∃ L, FrameEnd st o t L mc ms ∧ ∀ q ∈ L, free q.base) ∨ ∃ q, o = .threw q ∧ vx_T XC st q t mc ms free
/-- a callee that returns or throws -/
def vx_Met (l : Launch) (y : MethodName) (ws : List Cond) (rm : Room) (Pc : Array Value → State → Prop) (Qc : Array Value → State → Outcome → State → Prop) (XC : String → State → State → Prop) (mc ms : Nat) (free : Addr → Prop) : Prop :=
  MetFree l y (headSpec ws rm) Pc (fun _ _ _ _ _ => True) (vx_Q Qc XC mc ms free)
def vx_Post (XC : String → State → State → Prop) (mc ms : Nat) (free : Addr → Prop) : Pt → Array Value → Addr → Pt → Prop := fun A a q B =>
  ∃ (g : JFrame) (mk : MethodId) (t : State) (L : List Loc) (E : String) (ce : Cell), B.U.heap = t.heap ∧ B.U.vm = t.vm ∧ XC E (A.U.calling g mk a) t ∧ t.heap[q]? = some ce ∧ ce.vm = .none ∧ A.U.vm.findClass E = some ce.cls ∧ B.locs = A.locs ++ L ∧ (∀ z ∈ L, free z.base) ∧ B.cells = A.cells + mc ∧ B.slots = A.slots + ms
def vx_Back (l : Launch) (R : Room) (p : Program) (e : Env) (below : List Frame) (s : State) (sargs : Array Value) (y : MethodName) (len W9 : Nat)
    (Pre : Pt → Array Value → Prop) (Post : Pt → Array Value → Option Value → Pt → Prop) (PostX : Pt → Array Value → Addr → Pt → Prop) : Prop :=
  ∀ (m : MethodId) (meth : Method) (c : Code) (A : Pt) (g : JFrame) (ig : Instr) (mk : MethodId) (a : Array Value),
    Stand p l e R s m sargs below meth c A.U A.locs A.cells A.slots → g.method = m → g.locals.size = c.maxLocals → decode c.code g.pc = .ok (ig, len) →
    2 * g.monitorRoom + (g.stack.map fun v => v.category).sum ≤ W9 → A.U.methodNamed? y = some mk → Pre A a →
    (∃ (v : Option Value) (B : Pt), Stand p l e R s m sargs below meth c B.U B.locs B.cells B.slots ∧ Post A a v B ∧
      Steps p.tables e below (doInvoke e (A.U.setTop g) [] mk a).1 (B.U.setTop { g with pc := g.pc + len, stack := v.toList ++ g.stack })) ∨
    (∃ (q : Addr) (B : Pt), Stand p l e R s m sargs below meth c B.U B.locs B.cells B.slots ∧ PostX A a q B ∧
      Steps p.tables e below (doInvoke e (A.U.setTop g) [] mk a).1 ((B.U.setTop g).pushFrame (.throwing q)))
section Payer
variable {l : Launch} {R : Room} {p : Program} {e : Env} {below : List Frame} {s : State} {sargs : Array Value} {y : MethodName} {len W9 : Nat}
theorem vx_back {ws : List Cond} {rm : Room} {Pc : Array Value → State → Prop} {Qc : Array Value → State → Outcome → State → Prop} {XC : String → State → State → Prop} {mc ms : Nat} {free : Addr → Prop} {bytes : ByteArray} {maxL : Nat} {ret : Option FieldType}
    (hM : vx_Met l y ws rm Pc Qc XC mc ms free) (hblind : FrameBlind Pc) (hrc : rm.cells = mc) (hrs : rm.slots = ms)
    (hframes : rm.frames + 1 ≤ R.frames) (hlocals : W9 + (maxL + 11) + rm.locals ≤ R.locals)
    (hws : ∀ w ∈ ws, ∀ a' U, s.WarmedH U.vm → w.before a' U = true) (hcode : Cond.code y bytes maxL ret ∈ ws) (hinit : ∀ a' U, s.WarmedH U.vm → (Cond.initialized y.cls).before a' U = true) :
    vx_Back l R p e below s sargs y len W9 (PreOf R mc ms Pc) (PostOf Qc mc ms free) (vx_Post XC mc ms free) := by
  intro m meth c A g ig mk a X hg hsize hdg hW hn hp
  have h1 : (headSpec ws rm).pre.before a A.U = true := atoms_intro fun w hw => hws w hw _ _ X.warmed
  have h2 : (Cond.code y bytes maxL ret).before a A.U = true := hws _ hcode _ _ X.warmed
  have h3 : (Cond.initialized y.cls).before a A.U = true := hinit _ _ X.warmed
  have h4 : A.cells + (headSpec ws rm).room.cells ≤ R.cells := by rw [show (headSpec ws rm).room.cells = mc from hrc]; exact hp.1
  have h5 : A.slots + (headSpec ws rm).room.slots ≤ R.slots := by rw [show (headSpec ws rm).room.slots = ms from hrs]; exact hp.2.1
  have hPc : Pc a (A.U.calling g mk a) := hblind _ _ _ _ hp.2.2
  obtain ⟨U, Ls, c0, s0⟩ := A
  dsimp only [Pt.U, Pt.locs, Pt.cells, Pt.slots] at h1 h2 h3 h4 h5 X hn hPc ⊢
  obtain ⟨methY, cY, hmY, hcY, -, hlY, -, -, -, -⟩ := Cond.code_spec hn h2
  obtain ⟨kY, hkY, -⟩ := className_of_methodNamed hn
  have hinitY : kY.init = .initialized := Cond.initialized_spec (findClass_of_methodNamed hn) hkY h3
  have h : At U g.method c below := by rw [hg]; exact X.here
  have hlocals9 : W9 + (maxL + 11) + (headSpec ws rm).room.locals ≤ R.locals := hlocals
  have happ : (headSpec ws rm).appliesLoose y e.platform (U.calling g mk a) = true :=
    Spec.appliesLoose_calling (g := g) h hdg hn hkY hinitY
      (X.room_calling (g := g) (R' := (headSpec ws rm).room) hsize hmY hcY hframes (by rw [hlY]; omega) h4 h5) h1
  obtain ⟨mid, hmid⟩ := h.above
  have hfr : (U.setTop g).frames = (.java g :: mid) ++ below := by rw [State.frames_setTop' g h.top, hmid]; rfl
  obtain ⟨o, s₂, hsteps, -, hend, hq⟩ := Steps.callFree hM p X.admits X.cas X.clock (acts := []) hfr happ hPc trivial
  have hq' : vx_Q Qc XC mc ms free a (U.calling g mk a) o s₂ := hq
  rw [State.frames_setTop' g h.top] at hend
  obtain ⟨g₀, hg0⟩ := Option.isSome_iff_exists.mp h.top
  obtain ⟨r, hr⟩ := State.topJava?_eq_some.mp hg0
  have hr' : (({ U with heap := s₂.heap, slotsUsed := s₂.slotsUsed } : State).setVm s₂.vm).frames = .java g₀ :: r := hr
  rcases hq' with ⟨hqc, L, hfe, hL⟩ | ⟨q, rfl, E, ce, L, hx, hce, hcv, hcl, hW₂, hsm, hL⟩
  · obtain ⟨⟨v, rfl⟩, hW₂, e2, q2, q3, q4, q5, q6⟩ := id hfe
    have e3 : s₂ = ({ (U.calling g mk a).setFrames s₂.frames with heap := s₂.heap, slotsUsed := s₂.slotsUsed } : State).setVm s₂.vm := by
      have : s₂ = ({ s₂ with vm := (U.calling g mk a).vm } : State).setVm s₂.vm := rfl
      rw [e2] at this
      exact this
    obtain ⟨c₂, i₂, len₂, hc₂, hd₂, hf₂⟩ := hend
    have hW' : U.WarmedH s₂.vm := hW₂
    have hcc : c₂ = c := by
      have h1 : s₂.code? g.method = U.code? g.method := by
        rw [State.code?_eq, State.code?_eq, hW'.alike.method?]
      exact Option.some.inj (hc₂.symm.trans (h1.trans h.code))
    subst hcc
    have hlen : len₂ = len := by rw [hdg] at hd₂; cases hd₂; rfl
    subst hlen
    have hs₂ : s₂ = (({ U with heap := s₂.heap, slotsUsed := s₂.slotsUsed } : State).setVm s₂.vm).setTop { g with pc := g.pc + len₂, stack := v.toList ++ g.stack } := by
      refine e3.trans ?_
      rw [hf₂, State.calling_eq h.top, State.setFrames_setFrames, State.setTop_of_frames _ hr', hr]
      rfl
    have hsame : U.sameButNew ({ U with heap := s₂.heap, slotsUsed := s₂.slotsUsed } : State) L mc ms := by
      refine ⟨?_, q2, q3, q4, q5, q6⟩
      obtain ⟨t, ht, -⟩ := State.frames_cons hr
      show ({ U with heap := s₂.heap, slotsUsed := s₂.slotsUsed } : State) = { U.setFrames U.frames with heap := s₂.heap, slotsUsed := s₂.slotsUsed }
      rw [State.setFrames_self ht]
    subst hg
    refine Or.inl ⟨v, ⟨(({ U with heap := s₂.heap, slotsUsed := s₂.slotsUsed } : State).setVm s₂.vm), Ls ++ L, c0 + mc, s0 + ms⟩,
      ⟨X.admits, X.cas, X.clock, X.frames, X.room, X.hears, X.method, X.code, (X.here.setHeapUsed s₂.heap s₂.slotsUsed).setVm hW'.alike, X.tail, State.WarmedH.trans X.warmed hW', X.limits, X.bytes, X.same.trans (hsame.setVm s.vm)⟩,
      ⟨g, mk, s₂, L, rfl, rfl, hqc, rfl, hL, rfl, rfl⟩, ?_⟩
    show Steps p.tables e below _ ((({ U with heap := s₂.heap, slotsUsed := s₂.slotsUsed } : State).setVm s₂.vm).setTop { g with pc := g.pc + len₂, stack := v.toList ++ g.stack })
    rw [← hs₂]
    exact hsteps
  · obtain ⟨e2, q2, q3, q4, q5, q6⟩ := id hsm
    have e3 : s₂ = ({ (U.calling g mk a).setFrames s₂.frames with heap := s₂.heap, slotsUsed := s₂.slotsUsed } : State).setVm s₂.vm := by
      have : s₂ = ({ s₂ with vm := (U.calling g mk a).vm } : State).setVm s₂.vm := rfl
      rw [e2] at this
      exact this
    have hf₂ : s₂.frames = .throwing q :: .java g :: U.frames.tail := hend
    have hW' : U.WarmedH s₂.vm := hW₂
    have hs₂ : s₂ = ((({ U with heap := s₂.heap, slotsUsed := s₂.slotsUsed } : State).setVm s₂.vm).setTop g).pushFrame (.throwing q) := by
      refine e3.trans ?_
      rw [hf₂, State.calling_eq h.top, State.setFrames_setFrames, State.pushFrame, State.frames_setTop _ hr', State.setTop_of_frames _ hr', State.setFrames_setFrames, hr]
      rfl
    have hsame : U.sameButNew ({ U with heap := s₂.heap, slotsUsed := s₂.slotsUsed } : State) L mc ms := by
      refine ⟨?_, q2, q3, q4, q5, q6⟩
      obtain ⟨t, ht, -⟩ := State.frames_cons hr
      show ({ U with heap := s₂.heap, slotsUsed := s₂.slotsUsed } : State) = { U.setFrames U.frames with heap := s₂.heap, slotsUsed := s₂.slotsUsed }
      rw [State.setFrames_self ht]
    subst hg
    refine Or.inr ⟨q, ⟨(({ U with heap := s₂.heap, slotsUsed := s₂.slotsUsed } : State).setVm s₂.vm), Ls ++ L, c0 + mc, s0 + ms⟩,
      ⟨X.admits, X.cas, X.clock, X.frames, X.room, X.hears, X.method, X.code, (X.here.setHeapUsed s₂.heap s₂.slotsUsed).setVm hW'.alike, X.tail, State.WarmedH.trans X.warmed hW', X.limits, X.bytes, X.same.trans (hsame.setVm s.vm)⟩,
      ⟨g, mk, s₂, L, E, ce, rfl, rfl, hx, hce, hcv, hcl, rfl, hL, rfl, rfl⟩, ?_⟩
    show Steps p.tables e below _ (((({ U with heap := s₂.heap, slotsUsed := s₂.slotsUsed } : State).setVm s₂.vm).setTop g).pushFrame (.throwing q))
    rw [← hs₂]
    exact hsteps
end Payer
section Calls
variable {p : Program} {l : Launch} {e : Env} {R : Room} {s : State} {m : MethodId} {args : Array Value} {below : List Frame} {meth : Method} {c : Code} {T : State} {locs : List Loc} {cells slots : Nat}
theorem vx_callV (X : Stand p l e R s m args below meth c T locs cells slots) (hexec : p.tables.exec = Jvm.exec) {own C : String} {index : Nat} {y : MethodName} {bytes : ByteArray} {maxL : Nat} {ret : Option FieldType}
    (hown : s.vm.findClass own = some m.cls) (hlink : (Cond.methodLink own index y).before args s = true) (hinst : (Cond.instanceMethod y).before args s = true) (hsel : (Cond.selects C y y).before args s = true)
    (hcode : (Cond.code y bytes maxL ret).before args s = true) (hy : y.cls ≠ "java/lang/invoke/MethodHandle" ∧ y.cls ≠ "java/lang/invoke/VarHandle")
    {W9 : Nat} {Pre : Pt → Array Value → Prop} {Post : Pt → Array Value → Option Value → Pt → Prop} {PostX : Pt → Array Value → Addr → Pt → Prop} (hK : vx_Back l R p e below s args y 3 W9 Pre Post PostX)
    {b : Addr} {cellB : Cell} (hcell : T.heap[b]? = some cellB) (hobj : cellB.vm.isStatics = false) (hcls : s.vm.findClass C = some cellB.cls)
    {g : JFrame} (hg : g.method = m) (hsize : g.locals.size = c.maxLocals) {argsL rest : List Value} (hlen : ∀ sig, parseMethodDescriptor y.desc = some sig → argsL.length = sig.parameters.length)
    (hstack : g.stack = argsL.reverse ++ .ref b :: rest) (hW : 2 * g.monitorRoom + (rest.map fun v => v.category).sum ≤ W9) (hdg : decode c.code g.pc = .ok (.invokevirtual index, 3))
    (hpre : ∀ vm₁, s.WarmedH vm₁ → Pre ⟨T.setVm vm₁, locs, cells, slots⟩ (Value.ref b :: argsL).toArray) :
    (∃ (v : Option Value) (vm₁ : Vm) (B : Pt), s.WarmedH vm₁ ∧ Stand p l e R s m args below meth c B.U B.locs B.cells B.slots ∧ Post ⟨T.setVm vm₁, locs, cells, slots⟩ (Value.ref b :: argsL).toArray v B ∧
      ∀ target, Steps p.tables e below (B.U.setTop { g with pc := g.pc + 3, stack := v.toList ++ rest }) target → Steps p.tables e below (T.setTop g) target) ∨
    (∃ (q : Addr) (vm₁ : Vm) (B : Pt), s.WarmedH vm₁ ∧ Stand p l e R s m args below meth c B.U B.locs B.cells B.slots ∧ PostX ⟨T.setVm vm₁, locs, cells, slots⟩ (Value.ref b :: argsL).toArray q B ∧
      Steps p.tables e below (T.setTop g) ((B.U.setTop { g with stack := rest }).pushFrame (.throwing q))) := by
  obtain ⟨mk, methM, hnamed, hmethM, hstM, habM⟩ := Cond.instanceMethod_spec hinst
  obtain ⟨methM', cM, hmethM', -, -, -, -, -, -, hsigM⟩ := Cond.code_spec hnamed hcode
  cases hmethM.symm.trans hmethM'
  obtain ⟨c2, r2, m2, q1, q2, q3, q4, kP, hkP, hkPi⟩ := Cond.selects_spec hsel
  cases hcls.symm.trans q1
  cases (State.methodFound?_of_named hnamed hy).symm.trans q2
  cases hnamed.symm.trans q3
  have hselP : selectMethod e.platform s.vm cellB.cls mk = .method mk := by rw [Launch.admits_selectMethod X.admits]; exact q4
  obtain ⟨vm₁, X₁, hstep₁⟩ := X.invokevirtual hexec hown hlink hnamed hmethM hstM hkP hkPi hy (a := b) (cell := cellB) hcell
    (fun z h => by rw [h] at hobj; cases hobj) hselP hmethM habM hkP hkPi (g := g) hg (argsL := argsL) (rest := rest) (hlen _ hsigM) hstack hdg
  rcases hK m meth c ⟨T.setVm vm₁, locs, cells, slots⟩ { g with stack := rest } (.invokevirtual index) mk (Value.ref b :: argsL).toArray X₁ hg hsize hdg hW (X₁.named hnamed) (hpre vm₁ X₁.warmed) with ⟨v, B, X', hpost, hsteps⟩ | ⟨q, B, X', hpost, hsteps⟩
  · exact Or.inl ⟨v, vm₁, B, X₁.warmed, X', hpost, fun target h => hstep₁ _ fun acts => by rw [doInvoke_state]; exact hsteps.trans h⟩
  · exact Or.inr ⟨q, vm₁, B, X₁.warmed, X', hpost, hstep₁ _ fun acts => by rw [doInvoke_state]; exact hsteps⟩
theorem vx_callS (X : Stand p l e R s m args below meth c T locs cells slots) (hexec : p.tables.exec = Jvm.exec) {own : String} {index : Nat} {y : MethodName} {bytes : ByteArray} {maxL : Nat} {ret : Option FieldType}
    (hown : s.vm.findClass own = some m.cls) (hlink : (Cond.methodLink own index y).before args s = true) (hstat : (Cond.static y).before args s = true) (hinit : (Cond.initialized y.cls).before args s = true)
    (hcode : (Cond.code y bytes maxL ret).before args s = true) (hy : y.cls ≠ "java/lang/invoke/MethodHandle" ∧ y.cls ≠ "java/lang/invoke/VarHandle")
    {W9 : Nat} {Pre : Pt → Array Value → Prop} {Post : Pt → Array Value → Option Value → Pt → Prop} {PostX : Pt → Array Value → Addr → Pt → Prop} (hK : vx_Back l R p e below s args y 3 W9 Pre Post PostX)
    {g : JFrame} (hg : g.method = m) (hsize : g.locals.size = c.maxLocals) {argsL rest : List Value} (hlen : ∀ sig, parseMethodDescriptor y.desc = some sig → argsL.length = sig.parameters.length)
    (hstack : g.stack = argsL.reverse ++ rest) (hW : 2 * g.monitorRoom + (rest.map fun v => v.category).sum ≤ W9) (hdg : decode c.code g.pc = .ok (.invokestatic index, 3))
    (hpre : ∀ vm₁, s.WarmedH vm₁ → Pre ⟨T.setVm vm₁, locs, cells, slots⟩ argsL.toArray) :
    (∃ (v : Option Value) (vm₁ : Vm) (B : Pt), s.WarmedH vm₁ ∧ Stand p l e R s m args below meth c B.U B.locs B.cells B.slots ∧ Post ⟨T.setVm vm₁, locs, cells, slots⟩ argsL.toArray v B ∧
      ∀ target, Steps p.tables e below (B.U.setTop { g with pc := g.pc + 3, stack := v.toList ++ rest }) target → Steps p.tables e below (T.setTop g) target) ∨
    (∃ (q : Addr) (vm₁ : Vm) (B : Pt), s.WarmedH vm₁ ∧ Stand p l e R s m args below meth c B.U B.locs B.cells B.slots ∧ PostX ⟨T.setVm vm₁, locs, cells, slots⟩ argsL.toArray q B ∧
      Steps p.tables e below (T.setTop g) ((B.U.setTop { g with stack := rest }).pushFrame (.throwing q))) := by
  obtain ⟨mk, hnamed⟩ := Cond.code_named hcode
  obtain ⟨methM, cM, hmethM, -, -, -, -, -, -, hsigM⟩ := Cond.code_spec hnamed hcode
  have hstatic : methM.isStatic = true := Cond.static_spec hnamed hmethM hstat
  obtain ⟨kP, hkP, -⟩ := className_of_methodNamed hnamed
  have hinitP : kP.init = .initialized := Cond.initialized_spec (findClass_of_methodNamed hnamed) hkP hinit
  obtain ⟨vm₁, X₁, hstep₁⟩ := X.invokestatic hexec hown hlink hnamed hmethM hstatic hkP hinitP hy (g := g) hg (argsL := argsL) (rest := rest) (hlen _ hsigM) hstack hdg
  rcases hK m meth c ⟨T.setVm vm₁, locs, cells, slots⟩ { g with stack := rest } (.invokestatic index) mk argsL.toArray X₁ hg hsize hdg hW (X₁.named hnamed) (hpre vm₁ X₁.warmed) with ⟨v, B, X', hpost, hsteps⟩ | ⟨q, B, X', hpost, hsteps⟩
  · exact Or.inl ⟨v, vm₁, B, X₁.warmed, X', hpost, fun target h => hstep₁ _ fun acts => by rw [doInvoke_state]; exact hsteps.trans h⟩
  · exact Or.inr ⟨q, vm₁, B, X₁.warmed, X', hpost, hstep₁ _ fun acts => by rw [doInvoke_state]; exact hsteps⟩
end Calls
theorem vx_cls {s : State} {T : State} {vm₁ : Vm} {E : String} {k : ClassId} (hW : s.WarmedH vm₁) (h : (T.setVm vm₁).vm.findClass E = some k) : s.vm.findClass E = some k := by
  have h1 : vm₁.findClass E = some k := h
  rw [hW.alike.findClass] at h1
  exact h1
/-- the method's frame g, with q thrown over it -/
def vx_W (p : Program) (l : Launch) (e : Env) (R : Room) (s : State) (m : MethodId) (args : Array Value) (below : List Frame) (meth : Method) (c : Code) (H : Heap) (locs : List Loc) (cells slots : Nat) (Q : State → Prop) (g : JFrame) (q : Addr) : Prop :=
  ∀ T : State, T.heap = H → Stand p l e R s m args below meth c T locs cells slots → ∃ t, Steps p.tables e below ((T.setTop g).pushFrame (.throwing q)) t ∧ Q t
def vx_Run (p : Program) (l : Launch) (e : Env) (R : Room) (s : State) (m : MethodId) (args : Array Value) (below : List Frame) (meth : Method) (c : Code) (H : Heap) (locs : List Loc) (cells slots mc ms : Nat) (g : JFrame) (rest : List Value) (Qa : State → Outcome → State → Prop) (XC : String → State → State → Prop) (free : Addr → Prop) : Prop :=
  ∀ T : State, T.heap = H → Stand p l e R s m args below meth c T locs cells slots →
    (∃ (v : Option Value) (st₀ t T' : State) (L : List Loc), st₀.heap = H ∧ Stand p l e R s m args below meth c T' (locs ++ L) (cells + mc) (slots + ms) ∧ (∀ q ∈ L, free q.base) ∧ T'.heap = t.heap ∧ T'.vm = t.vm ∧ Qa st₀ (.returned v) t ∧
      Goes p e below T g T' { g with pc := g.pc + 3, stack := v.toList ++ rest }) ∨
    (∃ (q : Addr) (st₀ t T' : State) (L : List Loc) (E : String) (ce : Cell), st₀.heap = H ∧ Stand p l e R s m args below meth c T' (locs ++ L) (cells + mc) (slots + ms) ∧ (∀ z ∈ L, free z.base) ∧ T'.heap = t.heap ∧ T'.vm = t.vm ∧ XC E st₀ t ∧ t.heap[q]? = some ce ∧ ce.vm = .none ∧ s.vm.findClass E = some ce.cls ∧
      Steps p.tables e below (T.setTop g) ((T'.setTop { g with stack := rest }).pushFrame (.throwing q)))
def vx_X {S : Type} (px : S → Prop) (B : String → S → State → Prop) (A : Nat → Prop) : String → State → State → Prop := fun E st t => ∃ u : S, px u ∧ B E u t ∧ va_F A st t
section Runs
variable {p : Program} {l : Launch} {e : Env} {R : Room} {s : State} {m : MethodId} {args : Array Value} {below : List Frame} {meth : Method} {c : Code} {H : Heap} {locs : List Loc} {cells slots : Nat}
variable {y : MethodName} {bytes cc : ByteArray} {maxL nL mc ms n index : Nat} {ret : Option FieldType} {ws : List Cond} {rm : Room} {Pc : Array Value → State → Prop} {Qc : Array Value → State → Outcome → State → Prop} {XC : String → State → State → Prop} {free : Addr → Prop} {Ts : List Cond} {own C : String} {b : Addr} {As rest : List Value} {g : JFrame}
theorem vx_callBack (cb : CallB R s args own index y bytes maxL ret ws rm mc ms n) (hM : vx_Met l y ws rm Pc Qc XC mc ms free) (hbl : FrameBlind Pc) : vx_Back l R p e below s args y 3 8 (PreOf R mc ms Pc) (PostOf Qc mc ms free) (vx_Post XC mc ms free) := by
  obtain ⟨hrc, hrs, hfr, hlo, hws, hcw, -, hini, -⟩ := cb
  exact vx_back (bytes := bytes) (maxL := maxL) (ret := ret) hM hbl hrc hrs hfr hlo hws hcw (fun a' U hW => word_at hW (Or.inl (by first | rfl | simp [Cond.onTables, Cond.keeps, Cond.steady])) hini)
theorem vx_runV (S : CallFix p m c cc nL s args Ts own) (hM : vx_Met l y ws rm Pc Qc XC mc ms free) (cw : CallW R s args own C index y bytes maxL ret ws rm mc ms n) (hp : PreV s H C b Pc As)
    (hg : g.method = m) (hn : As.length = n) (hsize : g.locals.size = nL) (hstack : g.stack = As.reverse ++ .ref b :: rest) (hW : 2 * g.monitorRoom + (rest.map fun v => v.category).sum ≤ 8) (hdg : decode cc g.pc = .ok (.invokevirtual index, 3)) (hf : cells + mc ≤ R.cells ∧ slots + ms ≤ R.slots) :
    vx_Run p l e R s m args below meth c H locs cells slots mc ms g rest (Qc (Value.ref b :: As).toArray) XC free := by
  have hK : vx_Back l R p e below s args y 3 8 (PreOf R mc ms Pc) (PostOf Qc mc ms free) (vx_Post XC mc ms free) := vx_callBack cw.1 hM hp.1
  obtain ⟨⟨-, -, -, -, -, -, hcode, -, hy, hlen, hl⟩, hin, hse⟩ := cw
  obtain ⟨hx, hb, hml, ho, -⟩ := S
  obtain ⟨-, ⟨cellB, hcB, hoB, hclB⟩, hPc⟩ := hp
  intro T hT X
  rcases vx_callV X hx (C := C) (bytes := bytes) (maxL := maxL) (ret := ret) ho hl hin hse hcode hy hK (by rw [hT]; exact hcB) hoB hclB hg (hsize.trans hml.symm) (argsL := As) (rest := rest) (fun sig h => hn.trans (hlen sig h)) hstack hW (by rw [hb]; exact hdg)
    (fun vm₁ hW₁ => ⟨hf.1, hf.2, hPc (T.setVm vm₁) hT hW₁⟩) with ⟨v, vm₁, ⟨U', l2, c2, s2⟩, hW₁, X', ⟨g', mk, t, L, e1, e2, hq, h1, hL, h2, h3⟩, st⟩ | ⟨q, vm₁, ⟨U', l2, c2, s2⟩, hW₁, X', ⟨g', mk, t, L, E, ce, e1, e2, hq, hce, hcv, hcl, h1, hL, h2, h3⟩, st⟩
  · dsimp only [Pt.U, Pt.locs, Pt.cells, Pt.slots] at X' e1 e2 h1 h2 h3 st
    subst h1; subst h2; subst h3
    exact Or.inl ⟨v, (T.setVm vm₁).calling g' mk (Value.ref b :: As).toArray, t, U', L, hT, X', hL, e1, e2, hq, st⟩
  · dsimp only [Pt.U, Pt.locs, Pt.cells, Pt.slots] at X' e1 e2 h1 h2 h3 st hcl
    subst h1; subst h2; subst h3
    exact Or.inr ⟨q, (T.setVm vm₁).calling g' mk (Value.ref b :: As).toArray, t, U', L, E, ce, hT, X', hL, e1, e2, hq, hce, hcv, vx_cls hW₁ hcl, st⟩
theorem vx_runS (S : CallFix p m c cc nL s args Ts own) (hM : vx_Met l y ws rm Pc Qc XC mc ms free) (cw : CallB R s args own index y bytes maxL ret ws rm mc ms n ∧ (Cond.static y).before args s = true) (hp : PreS s H Pc As)
    (hg : g.method = m) (hn : As.length = n) (hsize : g.locals.size = nL) (hstack : g.stack = As.reverse ++ rest) (hW : 2 * g.monitorRoom + (rest.map fun v => v.category).sum ≤ 8) (hdg : decode cc g.pc = .ok (.invokestatic index, 3)) (hf : cells + mc ≤ R.cells ∧ slots + ms ≤ R.slots) :
    vx_Run p l e R s m args below meth c H locs cells slots mc ms g rest (Qc As.toArray) XC free := by
  have hK : vx_Back l R p e below s args y 3 8 (PreOf R mc ms Pc) (PostOf Qc mc ms free) (vx_Post XC mc ms free) := vx_callBack cw.1 hM hp.1
  obtain ⟨⟨-, -, -, -, -, -, hcode, hini, hy, hlen, hl⟩, hstt⟩ := cw
  obtain ⟨hx, hb, hml, ho, -⟩ := S
  intro T hT X
  rcases vx_callS X hx (bytes := bytes) (maxL := maxL) (ret := ret) ho hl hstt hini hcode hy hK hg (hsize.trans hml.symm) (argsL := As) (rest := rest) (fun sig h => hn.trans (hlen sig h)) hstack hW (by rw [hb]; exact hdg)
    (fun vm₁ hW₁ => ⟨hf.1, hf.2, hp.2 (T.setVm vm₁) hT hW₁⟩) with ⟨v, vm₁, ⟨U', l2, c2, s2⟩, hW₁, X', ⟨g', mk, t, L, e1, e2, hq, h1, hL, h2, h3⟩, st⟩ | ⟨q, vm₁, ⟨U', l2, c2, s2⟩, hW₁, X', ⟨g', mk, t, L, E, ce, e1, e2, hq, hce, hcv, hcl, h1, hL, h2, h3⟩, st⟩
  · dsimp only [Pt.U, Pt.locs, Pt.cells, Pt.slots] at X' e1 e2 h1 h2 h3 st
    subst h1; subst h2; subst h3
    exact Or.inl ⟨v, (T.setVm vm₁).calling g' mk As.toArray, t, U', L, hT, X', hL, e1, e2, hq, st⟩
  · dsimp only [Pt.U, Pt.locs, Pt.cells, Pt.slots] at X' e1 e2 h1 h2 h3 st hcl
    subst h1; subst h2; subst h3
    exact Or.inr ⟨q, (T.setVm vm₁).calling g' mk As.toArray, t, U', L, E, ce, hT, X', hL, e1, e2, hq, hce, hcv, vx_cls hW₁ hcl, st⟩
end Runs
section Rows
variable {p : Program} {l : Launch} {e : Env} {R : Room} {s : State} {m : MethodId} {args : Array Value} {below : List Frame} {meth : Method} {c : Code} {H : Heap} {locs : List Loc} {cells slots : Nat} {Q : State → Prop}
variable {mc ms : Nat} {free : Addr → Prop} {A0 A1 : Nat → Prop} {H0 : Heap} {a : Array Value} {pc : Nat} {ls : Array Slot} {st0 rest : List Value}
theorem vx_keep {st₀ t T' : State} {L : List Loc} (h0 : st₀.heap = H) (e1 : T'.heap = t.heap) (hS : va_S A0 H0 H locs) (hA : ∀ q, q < H.size → A1 q → A0 q) (hf : ∀ q, free q → A0 q) (hL : ∀ q ∈ L, free q.base) (hF : va_F A1 st₀ t) :
    H.size ≤ T'.heap.size ∧ (∀ q : Nat, q < H.size → ¬ A1 q → T'.heap[q]? = H[q]?) ∧ va_S A0 H0 T'.heap (locs ++ L) := by
  obtain ⟨hz, hk⟩ := hF
  rw [h0] at hz hk
  exact ⟨by rw [e1]; exact hz, fun q h1 h2 => by rw [e1]; exact hk q h1 h2,
    ⟨Nat.le_trans hS.1 (by rw [e1]; exact hz), fun q h1 h2 => by rw [e1, hk q (Nat.lt_of_lt_of_le h1 hS.1) (fun z => h2 (hA q (Nat.lt_of_lt_of_le h1 hS.1) z))]; exact hS.2.1 q h1 h2, fun q hq => by
      rcases List.mem_append.mp hq with h | h
      · exact hS.2.2 q h
      · exact hf _ (hL q h)⟩⟩
theorem vx_calli {S SX : Type} {post : Int32 → S → Prop} {px : SX → Prop} {B : S → State → Prop} {BX : String → SX → State → Prop} {AX : Nat → Prop} (hr : vx_Run p l e R s m args below meth c H locs cells slots mc ms (F0 m pc ls st0) rest (va_Qi post B A1 a) (vx_X px BX AX) free) (hS : va_S A0 H0 H locs) (hA : ∀ q, q < H.size → A1 q → A0 q) (hf : ∀ q, free q → A0 q) (hAX : ∀ q, q < H.size → AX q → A0 q)
    (kx : ∀ (E : String) (ce : Cell) (q9 : Addr) (u : SX) (t : State) (H1 : Heap) (locs1 : List Loc), t.heap = H1 → s.vm.Alike t.vm → px u → BX E u t → H.size ≤ H1.size → (∀ q : Nat, q < H.size → ¬ AX q → H1[q]? = H[q]?) → va_S A0 H0 H1 locs1 → H1[q9]? = some ce → ce.vm = .none → s.vm.findClass E = some ce.cls → vx_W p l e R s m args below meth c H1 locs1 (cells + mc) (slots + ms) Q (F0 m pc ls rest) q9)
    (kk : ∀ (r : Int32) (u : S) (t : State) (H1 : Heap) (locs1 : List Loc), t.heap = H1 → s.vm.Alike t.vm → post r u → B u t → H.size ≤ H1.size → (∀ q : Nat, q < H.size → ¬ A1 q → H1[q]? = H[q]?) → va_S A0 H0 H1 locs1 → W p l e R s m args below meth c H1 locs1 (cells + mc) (slots + ms) Q (F0 m (pc + 3) ls (.int r :: rest))) : W p l e R s m args below meth c H locs cells slots Q (F0 m pc ls st0) := by
  intro T hT X
  rcases hr T hT X with ⟨v, st₀, t, T', L, h0, X', hL, e1, e2, ⟨⟨r, u, hv, hp, hb⟩, hF⟩, st⟩ | ⟨q, st₀, t, T', L, E, ce, h0, X', hL, e1, e2, ⟨u, hp, hb, hF⟩, hce, hcv, hcl, st⟩
  · cases hv
    obtain ⟨k1, k2, k3⟩ := vx_keep h0 e1 hS hA hf hL hF
    obtain ⟨t2, a1, b1⟩ := kk r u t T'.heap (locs ++ L) e1.symm (by rw [← e2]; exact X'.warmed.alike) hp hb k1 k2 k3 T' rfl X'
    exact ⟨t2, st t2 a1, b1⟩
  · obtain ⟨k1, k2, k3⟩ := vx_keep h0 e1 hS hAX hf hL hF
    obtain ⟨t2, a1, b1⟩ := kx E ce q u t T'.heap (locs ++ L) e1.symm (by rw [← e2]; exact X'.warmed.alike) hp hb k1 k2 k3 (by rw [e1]; exact hce) hcv hcl T' rfl X'
    exact ⟨t2, st.trans a1, b1⟩
theorem vx_calll {S SX : Type} {post : Int64 → S → Prop} {px : SX → Prop} {B : S → State → Prop} {BX : String → SX → State → Prop} {AX : Nat → Prop} (hr : vx_Run p l e R s m args below meth c H locs cells slots mc ms (F0 m pc ls st0) rest (va_Ql post B A1 a) (vx_X px BX AX) free) (hS : va_S A0 H0 H locs) (hA : ∀ q, q < H.size → A1 q → A0 q) (hf : ∀ q, free q → A0 q) (hAX : ∀ q, q < H.size → AX q → A0 q)
    (kx : ∀ (E : String) (ce : Cell) (q9 : Addr) (u : SX) (t : State) (H1 : Heap) (locs1 : List Loc), t.heap = H1 → s.vm.Alike t.vm → px u → BX E u t → H.size ≤ H1.size → (∀ q : Nat, q < H.size → ¬ AX q → H1[q]? = H[q]?) → va_S A0 H0 H1 locs1 → H1[q9]? = some ce → ce.vm = .none → s.vm.findClass E = some ce.cls → vx_W p l e R s m args below meth c H1 locs1 (cells + mc) (slots + ms) Q (F0 m pc ls rest) q9)
    (kk : ∀ (r : Int64) (u : S) (t : State) (H1 : Heap) (locs1 : List Loc), t.heap = H1 → s.vm.Alike t.vm → post r u → B u t → H.size ≤ H1.size → (∀ q : Nat, q < H.size → ¬ A1 q → H1[q]? = H[q]?) → va_S A0 H0 H1 locs1 → W p l e R s m args below meth c H1 locs1 (cells + mc) (slots + ms) Q (F0 m (pc + 3) ls (.long r :: rest))) : W p l e R s m args below meth c H locs cells slots Q (F0 m pc ls st0) := by
  intro T hT X
  rcases hr T hT X with ⟨v, st₀, t, T', L, h0, X', hL, e1, e2, ⟨⟨r, u, hv, hp, hb⟩, hF⟩, st⟩ | ⟨q, st₀, t, T', L, E, ce, h0, X', hL, e1, e2, ⟨u, hp, hb, hF⟩, hce, hcv, hcl, st⟩
  · cases hv
    obtain ⟨k1, k2, k3⟩ := vx_keep h0 e1 hS hA hf hL hF
    obtain ⟨t2, a1, b1⟩ := kk r u t T'.heap (locs ++ L) e1.symm (by rw [← e2]; exact X'.warmed.alike) hp hb k1 k2 k3 T' rfl X'
    exact ⟨t2, st t2 a1, b1⟩
  · obtain ⟨k1, k2, k3⟩ := vx_keep h0 e1 hS hAX hf hL hF
    obtain ⟨t2, a1, b1⟩ := kx E ce q u t T'.heap (locs ++ L) e1.symm (by rw [← e2]; exact X'.warmed.alike) hp hb k1 k2 k3 (by rw [e1]; exact hce) hcv hcl T' rfl X'
    exact ⟨t2, st.trans a1, b1⟩
theorem vx_callf {S SX : Type} {post : UInt32 → S → Prop} {px : SX → Prop} {B : S → State → Prop} {BX : String → SX → State → Prop} {AX : Nat → Prop} (hr : vx_Run p l e R s m args below meth c H locs cells slots mc ms (F0 m pc ls st0) rest (va_Qf post B A1 a) (vx_X px BX AX) free) (hS : va_S A0 H0 H locs) (hA : ∀ q, q < H.size → A1 q → A0 q) (hf : ∀ q, free q → A0 q) (hAX : ∀ q, q < H.size → AX q → A0 q)
    (kx : ∀ (E : String) (ce : Cell) (q9 : Addr) (u : SX) (t : State) (H1 : Heap) (locs1 : List Loc), t.heap = H1 → s.vm.Alike t.vm → px u → BX E u t → H.size ≤ H1.size → (∀ q : Nat, q < H.size → ¬ AX q → H1[q]? = H[q]?) → va_S A0 H0 H1 locs1 → H1[q9]? = some ce → ce.vm = .none → s.vm.findClass E = some ce.cls → vx_W p l e R s m args below meth c H1 locs1 (cells + mc) (slots + ms) Q (F0 m pc ls rest) q9)
    (kk : ∀ (r : UInt32) (u : S) (t : State) (H1 : Heap) (locs1 : List Loc), t.heap = H1 → s.vm.Alike t.vm → post r u → B u t → H.size ≤ H1.size → (∀ q : Nat, q < H.size → ¬ A1 q → H1[q]? = H[q]?) → va_S A0 H0 H1 locs1 → W p l e R s m args below meth c H1 locs1 (cells + mc) (slots + ms) Q (F0 m (pc + 3) ls (.float r :: rest))) : W p l e R s m args below meth c H locs cells slots Q (F0 m pc ls st0) := by
  intro T hT X
  rcases hr T hT X with ⟨v, st₀, t, T', L, h0, X', hL, e1, e2, ⟨⟨r, u, hv, hp, hb⟩, hF⟩, st⟩ | ⟨q, st₀, t, T', L, E, ce, h0, X', hL, e1, e2, ⟨u, hp, hb, hF⟩, hce, hcv, hcl, st⟩
  · cases hv
    obtain ⟨k1, k2, k3⟩ := vx_keep h0 e1 hS hA hf hL hF
    obtain ⟨t2, a1, b1⟩ := kk r u t T'.heap (locs ++ L) e1.symm (by rw [← e2]; exact X'.warmed.alike) hp hb k1 k2 k3 T' rfl X'
    exact ⟨t2, st t2 a1, b1⟩
  · obtain ⟨k1, k2, k3⟩ := vx_keep h0 e1 hS hAX hf hL hF
    obtain ⟨t2, a1, b1⟩ := kx E ce q u t T'.heap (locs ++ L) e1.symm (by rw [← e2]; exact X'.warmed.alike) hp hb k1 k2 k3 (by rw [e1]; exact hce) hcv hcl T' rfl X'
    exact ⟨t2, st.trans a1, b1⟩
theorem vx_calld {S SX : Type} {post : UInt64 → S → Prop} {px : SX → Prop} {B : S → State → Prop} {BX : String → SX → State → Prop} {AX : Nat → Prop} (hr : vx_Run p l e R s m args below meth c H locs cells slots mc ms (F0 m pc ls st0) rest (va_Qd post B A1 a) (vx_X px BX AX) free) (hS : va_S A0 H0 H locs) (hA : ∀ q, q < H.size → A1 q → A0 q) (hf : ∀ q, free q → A0 q) (hAX : ∀ q, q < H.size → AX q → A0 q)
    (kx : ∀ (E : String) (ce : Cell) (q9 : Addr) (u : SX) (t : State) (H1 : Heap) (locs1 : List Loc), t.heap = H1 → s.vm.Alike t.vm → px u → BX E u t → H.size ≤ H1.size → (∀ q : Nat, q < H.size → ¬ AX q → H1[q]? = H[q]?) → va_S A0 H0 H1 locs1 → H1[q9]? = some ce → ce.vm = .none → s.vm.findClass E = some ce.cls → vx_W p l e R s m args below meth c H1 locs1 (cells + mc) (slots + ms) Q (F0 m pc ls rest) q9)
    (kk : ∀ (r : UInt64) (u : S) (t : State) (H1 : Heap) (locs1 : List Loc), t.heap = H1 → s.vm.Alike t.vm → post r u → B u t → H.size ≤ H1.size → (∀ q : Nat, q < H.size → ¬ A1 q → H1[q]? = H[q]?) → va_S A0 H0 H1 locs1 → W p l e R s m args below meth c H1 locs1 (cells + mc) (slots + ms) Q (F0 m (pc + 3) ls (.double r :: rest))) : W p l e R s m args below meth c H locs cells slots Q (F0 m pc ls st0) := by
  intro T hT X
  rcases hr T hT X with ⟨v, st₀, t, T', L, h0, X', hL, e1, e2, ⟨⟨r, u, hv, hp, hb⟩, hF⟩, st⟩ | ⟨q, st₀, t, T', L, E, ce, h0, X', hL, e1, e2, ⟨u, hp, hb, hF⟩, hce, hcv, hcl, st⟩
  · cases hv
    obtain ⟨k1, k2, k3⟩ := vx_keep h0 e1 hS hA hf hL hF
    obtain ⟨t2, a1, b1⟩ := kk r u t T'.heap (locs ++ L) e1.symm (by rw [← e2]; exact X'.warmed.alike) hp hb k1 k2 k3 T' rfl X'
    exact ⟨t2, st t2 a1, b1⟩
  · obtain ⟨k1, k2, k3⟩ := vx_keep h0 e1 hS hAX hf hL hF
    obtain ⟨t2, a1, b1⟩ := kx E ce q u t T'.heap (locs ++ L) e1.symm (by rw [← e2]; exact X'.warmed.alike) hp hb k1 k2 k3 (by rw [e1]; exact hce) hcv hcl T' rfl X'
    exact ⟨t2, st.trans a1, b1⟩
theorem vx_callv {S SX : Type} {post : S → Prop} {px : SX → Prop} {B : S → State → Prop} {BX : String → SX → State → Prop} {AX : Nat → Prop} (hr : vx_Run p l e R s m args below meth c H locs cells slots mc ms (F0 m pc ls st0) rest (va_Qv post B A1 a) (vx_X px BX AX) free) (hS : va_S A0 H0 H locs) (hA : ∀ q, q < H.size → A1 q → A0 q) (hf : ∀ q, free q → A0 q) (hAX : ∀ q, q < H.size → AX q → A0 q)
    (kx : ∀ (E : String) (ce : Cell) (q9 : Addr) (u : SX) (t : State) (H1 : Heap) (locs1 : List Loc), t.heap = H1 → s.vm.Alike t.vm → px u → BX E u t → H.size ≤ H1.size → (∀ q : Nat, q < H.size → ¬ AX q → H1[q]? = H[q]?) → va_S A0 H0 H1 locs1 → H1[q9]? = some ce → ce.vm = .none → s.vm.findClass E = some ce.cls → vx_W p l e R s m args below meth c H1 locs1 (cells + mc) (slots + ms) Q (F0 m pc ls rest) q9)
    (kk : ∀ (u : S) (t : State) (H1 : Heap) (locs1 : List Loc), t.heap = H1 → s.vm.Alike t.vm → post u → B u t → H.size ≤ H1.size → (∀ q : Nat, q < H.size → ¬ A1 q → H1[q]? = H[q]?) → va_S A0 H0 H1 locs1 → W p l e R s m args below meth c H1 locs1 (cells + mc) (slots + ms) Q (F0 m (pc + 3) ls (rest))) : W p l e R s m args below meth c H locs cells slots Q (F0 m pc ls st0) := by
  intro T hT X
  rcases hr T hT X with ⟨v, st₀, t, T', L, h0, X', hL, e1, e2, ⟨⟨u, hv, hp, hb⟩, hF⟩, st⟩ | ⟨q, st₀, t, T', L, E, ce, h0, X', hL, e1, e2, ⟨u, hp, hb, hF⟩, hce, hcv, hcl, st⟩
  · cases hv
    obtain ⟨k1, k2, k3⟩ := vx_keep h0 e1 hS hA hf hL hF
    obtain ⟨t2, a1, b1⟩ := kk u t T'.heap (locs ++ L) e1.symm (by rw [← e2]; exact X'.warmed.alike) hp hb k1 k2 k3 T' rfl X'
    exact ⟨t2, st t2 a1, b1⟩
  · obtain ⟨k1, k2, k3⟩ := vx_keep h0 e1 hS hAX hf hL hF
    obtain ⟨t2, a1, b1⟩ := kx E ce q u t T'.heap (locs ++ L) e1.symm (by rw [← e2]; exact X'.warmed.alike) hp hb k1 k2 k3 (by rw [e1]; exact hce) hcv hcl T' rfl X'
    exact ⟨t2, st.trans a1, b1⟩
/-- caught by the row x of this method's table; the rows ahead don't take it -/
theorem vx_catch {own name : String} {E : String} {ce : Cell} {q : Addr} (hown : s.vm.findClass own = some m.cls) (pre : List ExceptionTableEntry) (x : ExceptionTableEntry) (suf : List ExceptionTableEntry) (hsplit : c.exceptionTable.toList = pre ++ x :: suf)
    (hpass : ∀ z ∈ pre, covers z pc = false ∨ (z.catchType ≠ 0 ∧ ∃ nm : String, (Cond.classLink own z.catchType nm).before args s = true ∧ va_Nc E nm s)) (hx : covers x pc = true) (h0 : x.catchType ≠ 0)
    (hlink : (Cond.classLink own x.catchType name).before args s = true) (hcast : (Cond.castable E name).before args s = true) (hcell : H[q]? = some ce) (hv : ce.vm = .none) (hcl : s.vm.findClass E = some ce.cls)
    (kk : W p l e R s m args below meth c H locs cells slots Q (F0 m x.handlerPc ls [.ref q])) : vx_W p l e R s m args below meth c H locs cells slots Q (F0 m pc ls rest) q := by
  intro T hT X
  have hpl : e.platform.magicAccessors = ({} : Platform).magicAccessors := by rw [X.admits.platform]
  obtain ⟨c3, c4, hc3, hc4, hasg⟩ := Cond.castable_spec hcast
  cases Option.some.inj (hc3.symm.trans hcl)
  obtain ⟨c5, hc5, hcl5⟩ := Cond.classLink_spec hown hlink e.platform hpl
  cases Option.some.inj (hc4.symm.trans hc5)
  obtain ⟨vm', X', st⟩ := X.thenCaughtThrough q (g := F0 m pc ls rest) rfl (Steps.refl _) (by rw [hT]; exact hcell) (by rw [hv]; rfl) (by obtain ⟨k9, h9, -⟩ := Vm.findClass_spec hcl; exact ⟨k9, h9⟩) pre x suf hsplit
    (fun z hz => by
      rcases hpass z hz with h | ⟨hz0, nm, hl1, hn1⟩
      · exact Or.inl h
      · obtain ⟨c6, hc6, hcl6⟩ := Cond.classLink_spec hown hl1 e.platform hpl
        obtain ⟨a8, b8, h1, h2, h3⟩ := hn1
        cases Option.some.inj (h1.symm.trans hcl)
        cases Option.some.inj (h2.symm.trans hc6)
        exact Or.inr ⟨hz0, _, hcl6, h3⟩) hx (Or.inr ⟨h0, c4, hcl5, hasg⟩)
  obtain ⟨t, a1, b1⟩ := kk (T.setVm vm') hT X'
  exact ⟨t, st.trans a1, b1⟩
end Rows
section Ends
variable {p : Program} {l : Launch} {e : Env} {R : Room} {s : State} {m : MethodId} {args : Array Value} {below : List Frame} {meth : Method} {c : Code} {H : Heap} {locs : List Loc} {cells slots : Nat} {Q : State → Prop}
variable {mc ms : Nat} {free : Addr → Prop} {A0 A1 : Nat → Prop} {H0 : Heap} {a : Array Value} {ls : Array Slot} {st0 rest : List Value}
variable {Qc : Array Value → State → Outcome → State → Prop} {XC : String → State → State → Prop}
/-- what a body that may throw owes at its end -/
def vx_MQ (below : List Frame) (Qc : Array Value → State → Outcome → State → Prop) (XC : String → State → State → Prop) (a : Array Value) (s : State) (mc ms : Nat) (free : Addr → Prop) : State → Prop := fun t =>
  ∃ o, t.status = .running ∧ Ended t below o ∧ vx_Q Qc XC mc ms free a s o t
theorem vx_ret {g : JFrame} {mc ms : Nat} (k : W p l e R s m args below meth c H locs cells slots (MQ below Qc args s mc ms free) g) : W p l e R s m args below meth c H locs cells slots (vx_MQ below Qc XC args s mc ms free) g := by
  intro T hT X
  obtain ⟨t, a1, o, b1, b2, b3, b4⟩ := k T hT X
  exact ⟨t, a1, o, b1, b2, Or.inl ⟨b3, b4⟩⟩
/-- not caught here: it goes on to the caller -/
theorem vx_widen {g : JFrame} {q : Addr} {k n : Nat} (h1 : cells ≤ k) (h2 : slots ≤ n) (kk : vx_W p l e R s m args below meth c H locs k n Q g q) : vx_W p l e R s m args below meth c H locs cells slots Q g q := fun T hT X => kk T hT (stand_widen X h1 h2)
theorem vx_out {pc : Nat} {E : String} {ce : Cell} {q : Addr} {mc ms : Nat} (hout : ∀ x ∈ c.exceptionTable.toList, covers x pc = false) (hlocks : meth.locks = false) (hcell : H[q]? = some ce) (hv : ce.vm = .none) (hcl : s.vm.findClass E = some ce.cls)
    (hx : ∀ t : State, t.heap = H → s.vm.Alike t.vm → XC E s t) (hf : ∀ z ∈ locs, free z.base) (hc : cells ≤ mc) (hs : slots ≤ ms) :
    vx_W p l e R s m args below meth c H locs cells slots (vx_MQ below Qc XC args s mc ms free) (F0 m pc ls rest) q := by
  intro T hT X
  obtain ⟨st1, hrun, hend, hW, hsm⟩ := X.leaveThrown q (g := F0 m pc ls rest) rfl rfl rfl hout hlocks
  have hcell9 : (T.setFrames (.throwing q :: below)).heap[q]? = some ce := by
    show T.heap[q]? = some ce
    rw [hT]; exact hcell
  exact ⟨_, st1, .threw q, hrun, hend, Or.inr ⟨q, rfl, E, ce, locs, hx _ hT hW.alike, hcell9, hv, hcl, hW, hsm.mono hc hs, hf⟩⟩
theorem vx_frame {U : State} {k n : Nat} (h : s.sameButNew ({ U with vm := s.vm } : State) locs k n) : s.heap.size ≤ U.heap.size ∧ ∀ q : Nat, q < s.heap.size → (∀ z ∈ locs, z.base ≠ q) → U.heap[q]? = s.heap[q]? := by
  obtain ⟨-, h2, -, -, -, h6⟩ := h
  refine ⟨h2, fun q hq hz => ?_⟩
  obtain ⟨c9, e1, e2, e3, e4⟩ := h6 q _ (Array.getElem?_eq_getElem hq)
  have hs : c9.slots = (s.heap[q]).slots := Array.ext_getElem? fun i => e4 i fun hm => hz _ hm rfl
  have h9 : c9 = s.heap[q] := by
    rw [hs] at e2
    exact e2
  have e5 : U.heap[q]? = some c9 := e1
  rw [e5, h9, Array.getElem?_eq_getElem hq]
/-- the words of a throw but the four that speak of the heap -/
def vx_no (w : Cond) : Bool := decide (w ≠ .isRef (.static Bundle.tN "UNASSIGNED_STACK" Bundle.steD)) && decide (w ≠ .isRef (.static Bundle.tN "SUPPRESSED_SENTINEL" Bundle.listD)) && decide (w ≠ .laysStatic Bundle.tN "UNASSIGNED_STACK" Bundle.steD) && decide (w ≠ .laysStatic Bundle.tN "SUPPRESSED_SENTINEL" Bundle.listD)
def vx_at0 (own : String) (ic : Nat) (X : String) (names : List String) : List Cond := (Bundle.ownAtoms0 own ic X names).filter vx_no
def vx_atS (own : String) (ic : Nat) (X : String) (names : List String) : List Cond := (Bundle.ownAtoms own ic X names).filter vx_no
/-- a word that the tables alone decide, or a good one -/
def vx_ot (w : Cond) : Bool := w.onTables || goodWord w
theorem vx_ot_at {args a' : Array Value} {s U : State} {w : Cond} (hW : s.WarmedH U.vm) (hvm : s.vm = U.vm) (hg : vx_ot w = true) (h : w.before args s = true) : w.before a' U = true := by
  simp only [vx_ot, Bool.or_eq_true] at hg
  rcases hg with hg | hg
  · exact va_tabs hg hvm h
  · exact word_at hW (good_of_word hg) h
/-- a list's words: the good ones out of the method's own list, the others by premises of their own -/
theorem vx_hat {args : Array Value} {s : State} {L B : List Cond} (h1 : ∀ w ∈ L.filter goodWord, w.before args s = true) (h2 : ∀ w ∈ L.filter (fun w => !goodWord w), w ∈ B) (h3 : ∀ w ∈ B, w.before args s = true) : ∀ w ∈ L, w.before args s = true := by
  intro w hw
  by_cases g : goodWord w = true
  · exact h1 w (List.mem_filter.mpr ⟨hw, g⟩)
  · refine h3 w (h2 w (List.mem_filter.mpr ⟨hw, ?_⟩))
    show (!goodWord w) = true
    cases hgw : goodWord w
    · rfl
    · exact absurd hgw g
theorem vx_c {args : Array Value} {s : State} {w : Cond} {B : List Cond} (h : w.before args s = true) (t : ∀ w ∈ B, w.before args s = true) : ∀ w' ∈ w :: B, w'.before args s = true := fun w' h' => (List.mem_cons.mp h').elim (fun e => by rw [e]; exact h) (t w')
theorem vx_n {args : Array Value} {s : State} : ∀ w ∈ ([] : List Cond), w.before args s = true := fun _ h => nomatch h
theorem vx_own {args : Array Value} {s : State} {L : List Cond} (h1 : ∀ w ∈ L.filter vx_no, w.before args s = true)
    (hU : (Cond.isRef (.static Bundle.tN "UNASSIGNED_STACK" Bundle.steD)).before args s = true) (hN : (Cond.isRef (.static Bundle.tN "SUPPRESSED_SENTINEL" Bundle.listD)).before args s = true)
    (lU : (Cond.laysStatic Bundle.tN "UNASSIGNED_STACK" Bundle.steD).before args s = true) (lN : (Cond.laysStatic Bundle.tN "SUPPRESSED_SENTINEL" Bundle.listD).before args s = true) : ∀ w ∈ L, w.before args s = true := by
  intro w hw
  by_cases e1 : w = .isRef (.static Bundle.tN "UNASSIGNED_STACK" Bundle.steD)
  · rw [e1]; exact hU
  · by_cases e2 : w = .isRef (.static Bundle.tN "SUPPRESSED_SENTINEL" Bundle.listD)
    · rw [e2]; exact hN
    · by_cases e3 : w = .laysStatic Bundle.tN "UNASSIGNED_STACK" Bundle.steD
      · rw [e3]; exact lU
      · by_cases e4 : w = .laysStatic Bundle.tN "SUPPRESSED_SENTINEL" Bundle.listD
        · rw [e4]; exact lN
        · exact h1 w (List.mem_filter.mpr ⟨hw, by unfold vx_no; rw [decide_eq_true e1, decide_eq_true e2, decide_eq_true e3, decide_eq_true e4]; rfl⟩)
/-- where a static field lies, its class's statics cell in H -/
def vx_L (C n d : String) (A : Nat → Prop) (U : State) (H : Heap) : Prop := ∃ (c : ClassId) (k : Class) (i : Nat) (f : Field) (a : Nat) (cell : Cell), U.vm.findClass C = some c ∧ U.fieldFound? C n d = some (c, k, i, f) ∧ f.isStatic = true ∧ k.statics = some a ∧ H[a]? = some cell ∧ cell.vm.isStatics = true ∧ cell.cls = c ∧ f.slot < cell.slots.size ∧ k.staticTypes[f.slot]? = some f.type ∧ ¬ A a
theorem vx_L.moved {C n d : String} {A : Nat → Prop} {u U : State} {H : Heap} (hvm : u.vm.Alike U.vm) (h : vx_L C n d A u H) : vx_L C n d A U H := by
  obtain ⟨c, k, i, f, a, cell, h1, h2, h3, h4, h5, h6, h7, h8, h9, h10⟩ := h
  obtain ⟨k', hi', he⟩ := State.fieldFound?_setVm hvm h2
  exact ⟨c, k', i, f, a, cell, by rw [hvm.findClass]; exact h1, hi', h3, by rw [he]; exact h4, h5, h6, h7, h8, by rw [he]; exact h9, h10⟩
theorem vx_L.kept {C n d : String} {A : Nat → Prop} {U : State} {H H1 : Heap} (h : vx_L C n d A U H) (hq : ∀ a : Nat, a < H.size → ¬ A a → H1[a]? = H[a]?) : vx_L C n d A U H1 := by
  obtain ⟨c, k, i, f, a, cell, h1, h2, h3, h4, h5, h6, h7, h8, h9, h10⟩ := h
  exact ⟨c, k, i, f, a, cell, h1, h2, h3, h4, by rw [hq a (Array.getElem?_eq_some_iff.mp h5).1 h10]; exact h5, h6, h7, h8, h9, h10⟩
theorem vx_L.narrow {C n d : String} {A B : Nat → Prop} {U : State} {H : Heap} (h : vx_L C n d A U H) (hAB : ∀ q, B q → A q) : vx_L C n d B U H := by
  obtain ⟨c, k, i, f, a, cell, h1, h2, h3, h4, h5, h6, h7, h8, h9, h10⟩ := h
  exact ⟨c, k, i, f, a, cell, h1, h2, h3, h4, h5, h6, h7, h8, h9, fun z => h10 (hAB _ z)⟩
theorem vx_L.word {C n d : String} {A : Nat → Prop} {s : State} {args : Array Value} (h : vx_L C n d A s s.heap) : (Cond.laysStatic C n d).before args s = true := by
  obtain ⟨c, k, i, f, a, cell, h1, h2, h3, h4, h5, h6, h7, h8, h9, -⟩ := h
  show (Cond.laysStatic C n d).holds args s none s [] = true
  exact Cond.laysStatic_of h1 h2 h3 h4 h5 h6 h7 h8 h9
/-- .. and what it holds: null or some reference -/
def vx_Zq (C n d : String) (A : Nat → Prop) (U : State) (H : Heap) : Prop := va_Zq C n d A U H ∧ vx_L C n d A U H
theorem vx_Zq.moved {C n d : String} {A : Nat → Prop} {u U : State} {H : Heap} (hvm : u.vm.Alike U.vm) (h : vx_Zq C n d A u H) : vx_Zq C n d A U H := ⟨va_Zq.moved hvm h.1, vx_L.moved hvm h.2⟩
theorem vx_Zq.kept {C n d : String} {A : Nat → Prop} {U : State} {H H1 : Heap} (h : vx_Zq C n d A U H) (hq : ∀ a : Nat, a < H.size → ¬ A a → H1[a]? = H[a]?) : vx_Zq C n d A U H1 := ⟨va_Zq.kept h.1 hq, vx_L.kept h.2 hq⟩
theorem vx_Zq.narrow {C n d : String} {A B : Nat → Prop} {U : State} {H : Heap} (h : vx_Zq C n d A U H) (hAB : ∀ q, B q → A q) : vx_Zq C n d B U H := ⟨va_Zq.narrow h.1 hAB, vx_L.narrow h.2 hAB⟩
theorem vx_Zqof {args : Array Value} {s : State} {C n d : String} {A : Nat → Prop} (hl : (Cond.laysStatic C n d).before args s = true) (hini : (Cond.initialized C).before args s = true) (h : (Cond.isRef (.static C n d)).before args s = true) (hA : ∀ a : Nat, a < s.heap.size → ¬ A a) : vx_Zq C n d A s s.heap := by
  refine ⟨va_Zqof hl hini h hA, ?_⟩
  obtain ⟨c, k, i, f, a, cell, h1, h2, h3, h4, h5, h6, h7, h8, h9⟩ := Cond.laysStatic_spec hl
  exact ⟨c, k, i, f, a, cell, h1, h2, h3, h4, h5, h6, h7, h8, h9, hA a (Array.getElem?_eq_some_iff.mp h5).1⟩
theorem vx_isRef {C n d : String} {v : Value} {A : Nat → Prop} {s : State} {args : Array Value} (h : va_Z C n d v A s s.heap) (hv : v.isRef = true) : (Cond.isRef (.static C n d)).before args s = true := by
  obtain ⟨cf, kf, fi, f, a, cell, h1, h2, h3, h4, h5, h6, h7, -⟩ := h
  have he : (Term.static C n d).eval args s none [] s = some v := by
    simp [Term.eval, State.fieldNamed?, h1, h2, h4, h5, h6, h7]
  simp only [Cond.before, Cond.holds, Cond.value, he]
  cases v <;> simp_all [Value.isRef]
theorem vx_isRefq {C n d : String} {A : Nat → Prop} {s : State} {args : Array Value} (h : va_Zq C n d A s s.heap) : (Cond.isRef (.static C n d)).before args s = true := by
  rcases h with h | ⟨t, h⟩
  · exact vx_isRef h rfl
  · exact vx_isRef h rfl
/-- the same frame, seen from here: as if the method were called anew in this heap -/
theorem vx_rebase {T : State} (X : Stand p l e R s m args below meth c T locs cells slots) {R' : Room} (hf : R'.frames ≤ R.frames) (hl : R'.locals ≤ R.locals) (hc : cells + R'.cells ≤ R.cells) (hs : slots + R'.slots ≤ R.slots) :
    Stand p l e R' ((T.setVm s.vm).setFrames (.invoking m args :: below)) m args below meth c T [] 0 0 := by
  have htop : (T.setVm s.vm).topJava?.isSome := X.here.top
  have hF : ((T.setVm s.vm).setFrames (.invoking m args :: below)).frames = .invoking m args :: below := State.frames_setFrames _ (State.cur_lt_of_top htop)
  obtain ⟨g₀, hg0⟩ := Option.isSome_iff_exists.mp htop
  obtain ⟨r, hr⟩ := State.topJava?_eq_some.mp hg0
  have hl9 : e.platform.stackLimits (T.setVm s.vm).me = e.platform.stackLimits s.me := X.limits
  have hb9 : (T.setVm s.vm).me.stackBytes = s.me.stackBytes := X.bytes
  refine ⟨X.admits, X.cas, X.clock, hF, ?_, X.hears, X.method, X.code, X.here, X.tail, X.warmed, ?_, ?_, ?_⟩
  · have h := X.room
    have hU : ((T.setVm s.vm).setFrames (.invoking m args :: below)).localsInUse = s.localsInUse := by
      rw [State.localsInUse_invoking hF (meth := meth) (c := c) X.method X.code, State.localsInUse_invoking X.frames X.method X.code]
    simp only [State.hasRoom, Bool.and_eq_true, decide_eq_true_eq] at h ⊢
    obtain ⟨⟨⟨⟨h1, h2, h3, h4, h5, h6⟩, h7⟩, h8⟩, h9⟩ := h
    rw [X.frames, List.length_cons] at h2 h3
    have q1 := X.heapSize
    have q2 := X.used
    simp only [hF, hU, List.length_cons, State.stackLimits_setFrames, State.stackBytes_setFrames, hl9, hb9]
    refine ⟨⟨⟨⟨by omega, by omega, by omega, by omega, by omega, h6⟩, ?_⟩, ?_⟩, X.book⟩
    · show T.heap.size + R'.cells ≤ e.platform.maxCells
      omega
    · show T.slotsUsed + R'.slots ≤ e.platform.maxSlots
      omega
  · rw [State.stackLimits_setFrames]; rfl
  · rw [State.stackBytes_setFrames]; rfl
  · refine ⟨?_, Nat.le_refl _, Nat.le_refl _, ?_, ?_, fun a c9 h9 => ⟨c9, h9, rfl, rfl, fun _ _ => rfl⟩⟩
    · obtain ⟨t, ht, -⟩ := State.frames_cons hr
      show T.setVm s.vm = { ((T.setVm s.vm).setFrames (.invoking m args :: below)).setFrames (T.setVm s.vm).frames with heap := T.heap, slotsUsed := T.slotsUsed }
      rw [State.setFrames_setFrames, State.setFrames_self ht]
      rfl
    · show T.slotsUsed = T.slotsUsed + ((T.heap.toList.drop T.heap.size).map (·.slots.size)).sum
      rw [List.drop_eq_nil_of_le (Nat.le_of_eq Array.length_toList)]
      rfl
    · show ((T.heap.toList.drop T.heap.size).map (·.slots.size)).sum ≤ 0
      rw [List.drop_eq_nil_of_le (Nat.le_of_eq Array.length_toList)]
      exact Nat.le_refl _
/-- 'throw new E()': new; dup; invokespecial; athrow -/
theorem vx_throw0 {cc : ByteArray} {pc : Nat} (hexec : p.tables.exec = Jvm.exec) (hb : c.code = cc) (hl : l.stackTraces = false) {own cls : String} {names : List String} {ik ic mc ms : Nat} {A : Nat → Prop}
    (hown : s.vm.findClass own = some m.cls) (hcls : Bundle.fit cls = true) (hnames : ∀ n ∈ names, Bundle.fit n = true)
    (hk : (Cond.classLink own ik cls).before args s = true) (hini : (Cond.initialized cls).before args s = true) (hat : ∀ w ∈ vx_at0 own ic cls names, w.before args s = true)
    (hgood : ∀ w ∈ Cond.classLink own ik cls :: Cond.initialized cls :: vx_at0 own ic cls names, vx_ot w = true)
    (hU : vx_Zq Bundle.tN "UNASSIGNED_STACK" Bundle.steD A s s.heap) (hN : vx_Zq Bundle.tN "SUPPRESSED_SENTINEL" Bundle.listD A s s.heap) (hS : va_S A s.heap H locs) (hsize : ls.size = c.maxLocals)
    (d0 : decode cc pc = .ok (.new ik, 3)) (d3 : decode cc (pc + 3) = .ok (.dup, 1)) (d4 : decode cc (pc + 4) = .ok (.invokespecial ic, 3)) (d7 : decode cc (pc + 7) = .ok (.athrow, 1))
    (hout : ∀ x ∈ c.exceptionTable.toList, covers x (pc + 7) = false)
    (hRframes : names.length + 3 < R.frames) (hRlocals : (rest.map fun v => v.category).sum + (13 * (names.length + 1) + 42) ≤ R.locals) (hRcells : cells + 1 ≤ R.cells) (hRslots : slots + 6 ≤ R.slots) (hlocks : meth.locks = false)
    (hx : ∀ t : State, s.vm.Alike t.vm → H.size ≤ t.heap.size → (∀ q : Nat, q < H.size → t.heap[q]? = H[q]?) → XC cls s t)
    (hf : ∀ z ∈ locs, free z.base) (hc : cells + 1 ≤ mc) (hs : slots + 6 ≤ ms) :
    W p l e R s m args below meth c H locs cells slots (vx_MQ below Qc XC args s mc ms free) (F0 m pc ls rest) := by
  intro T hT X
  have htr : e.platform.stackTraces = false := (show e.platform.stackTraces = l.stackTraces by rw [X.admits.platform]).trans hl
  have Y := vx_rebase X (R' := { frames := R.frames, locals := R.locals, cells := 1, slots := 6 }) (Nat.le_refl _) (Nat.le_refl _) hRcells hRslots
  obtain ⟨s', hA⟩ : ∃ z, z = (T.setVm s.vm).setFrames (.invoking m args :: below) := ⟨_, rfl⟩
  rw [← hA] at Y
  have hvm : s'.vm = s.vm := by rw [hA]; rfl
  have hhp : s'.heap = H := by rw [hA]; exact hT
  have hW0 : s.WarmedH s'.vm := by rw [hvm]; exact State.WarmedH.refl s
  have hat' : ∀ w ∈ vx_at0 own ic cls names, w.before args s' = true := fun w hw => vx_ot_at hW0 hvm.symm (hgood w (List.mem_cons_of_mem _ (List.mem_cons_of_mem _ hw))) (hat w hw)
  have hk' : (Cond.classLink own ik cls).before args s' = true := vx_ot_at hW0 hvm.symm (hgood _ List.mem_cons_self) hk
  have hini' : (Cond.initialized cls).before args s' = true := vx_ot_at hW0 hvm.symm (hgood _ (List.mem_cons_of_mem _ List.mem_cons_self)) hini
  have hU' : vx_Zq Bundle.tN "UNASSIGNED_STACK" Bundle.steD A s' s'.heap := by rw [hhp]; exact vx_Zq.moved hW0.alike (hU.kept hS.2.1)
  have hN' : vx_Zq Bundle.tN "SUPPRESSED_SENTINEL" Bundle.listD A s' s'.heap := by rw [hhp]; exact vx_Zq.moved hW0.alike (hN.kept hS.2.1)
  have h : ∀ w ∈ Bundle.ownAtoms0 own ic cls names, w.before args s' = true := vx_own hat' (vx_isRefq hU'.1) (vx_isRefq hN'.1) hU'.2.word hN'.2.word
  have hown' : s'.vm.findClass own = some m.cls := by rw [hvm]; exact hown
  have hins : (Cond.instantiable cls 6).before args s' = true := h _ (by simp [Bundle.ownAtoms0])
  obtain ⟨vm₁, cX, kX, hfX, hkX, -, -, X₁, st1⟩ := Y.newCold hexec (own := own) (C := cls) (index := ik) (n := 6) hown' hk' hins hini'
    (g := F0 m pc ls rest) rfl (by rw [hb]; exact d0) (Nat.le_refl _) (Nat.le_refl _)
  generalize hT1 : (T.setVm vm₁).pushCell { cls := cX, slots := kX.instanceTypes.map defaultValue, vm := .none } = T1 at X₁ st1
  have hcat : (Value.ref T.heap.size).category = 1 := rfl
  have hcellA : T1.heap[T.heap.size]? = some (freshCell cX kX) := by rw [← hT1]; exact State.heap_pushCell_size _ _
  have d3' : decode c.code (pc + 3) = .ok (.dup, 1) := by rw [hb]; exact d3
  obtain ⟨U, hsteps, hrun, hend, hW, hsame, ce, hce, hO⟩ := X₁.ctorThrow0 hexec htr (own := own) (cls := cls) (names := names) (ic := ic) hown' hcls hnames h (fun x hx => nomatch hx) hfX hkX hcellA (by rw [hhp, hT]; exact Nat.le_refl _)
    (g := { method := m, pc := pc + 4, locals := ls, stack := .ref T.heap.size :: .ref T.heap.size :: rest, locked := none }) rfl hsize rfl rfl (rest := rest) rfl
    (by rw [hb]; exact d4) (by rw [hb]; exact d7) hout hRframes (by simp only [List.map_cons, List.sum_cons, hcat]; omega) hlocks
  obtain ⟨f1, f2⟩ := vx_frame hsame
  rw [hhp] at f1 f2
  have hWs : s.WarmedH U.vm := State.WarmedH.trans hW0 hW
  have hcl : s.vm.findClass cls = some ce.cls := by
    have h9 := hO.cls
    rw [hvm] at h9
    exact h9
  have hall : s.sameButNew ({ U with vm := s.vm } : State) locs mc ms := by
    subst hA
    obtain ⟨e1, e2⟩ := hsame
    rw [State.setFrames_setFrames] at e1
    have h2 : (T.setVm s.vm).sameButNew ({ U with vm := s.vm } : State) [] (0 + 1) (0 + 6) := ⟨e1, e2⟩
    have h3 := X.same.trans h2
    rw [List.append_nil] at h3
    exact h3.mono hc hs
  refine ⟨U, ?_, .threw T.heap.size, hrun, hend, Or.inr ⟨T.heap.size, rfl, cls, ce, locs, hx U hWs.alike f1 (fun q hq => f2 q hq (fun z hz => nomatch hz)), hce, hO.vm, hcl, hWs, hall, hf⟩⟩
  refine st1 _ ?_
  show Steps p.tables e below (T1.setTop { method := m, pc := pc + 3, locals := ls, stack := .ref T.heap.size :: rest, locked := none }) _
  jvm_step X₁.here [X₁.here.top, hexec, d3', Value.category]
  exact hsteps
/-- 'throw new E("text")': new; dup; ldc; invokespecial; athrow -/
theorem vx_throwS {cc : ByteArray} {pc : Nat} (hexec : p.tables.exec = Jvm.exec) (hb : c.code = cc) (hl : l.stackTraces = false) {own cls text : String} {names : List String} {ik is ic mc ms sa : Nat} {A : Nat → Prop}
    (hown : s.vm.findClass own = some m.cls) (hcls : Bundle.fit cls = true) (hnames : ∀ n ∈ names, Bundle.fit n = true)
    (hk : (Cond.classLink own ik cls).before args s = true) (hini : (Cond.initialized cls).before args s = true) (hstr : vk_R own is text sa s) (hat : ∀ w ∈ vx_atS own ic cls names, w.before args s = true)
    (hgood : ∀ w ∈ Cond.classLink own ik cls :: Cond.initialized cls :: vx_atS own ic cls names, vx_ot w = true)
    (hU : vx_Zq Bundle.tN "UNASSIGNED_STACK" Bundle.steD A s s.heap) (hN : vx_Zq Bundle.tN "SUPPRESSED_SENTINEL" Bundle.listD A s s.heap) (hS : va_S A s.heap H locs) (hsize : ls.size = c.maxLocals)
    (d0 : decode cc pc = .ok (.new ik, 3)) (d3 : decode cc (pc + 3) = .ok (.dup, 1)) (d4 : decode cc (pc + 4) = .ok (.ldc is, 2)) (d6 : decode cc (pc + 6) = .ok (.invokespecial ic, 3)) (d9 : decode cc (pc + 9) = .ok (.athrow, 1))
    (hout : ∀ x ∈ c.exceptionTable.toList, covers x (pc + 9) = false)
    (hRframes : names.length + 3 < R.frames) (hRlocals : (rest.map fun v => v.category).sum + (13 * (names.length + 1) + 43) ≤ R.locals) (hRcells : cells + 1 ≤ R.cells) (hRslots : slots + 6 ≤ R.slots) (hlocks : meth.locks = false)
    (hx : ∀ t : State, s.vm.Alike t.vm → H.size ≤ t.heap.size → (∀ q : Nat, q < H.size → t.heap[q]? = H[q]?) → XC cls s t)
    (hf : ∀ z ∈ locs, free z.base) (hc : cells + 1 ≤ mc) (hs : slots + 6 ≤ ms) :
    W p l e R s m args below meth c H locs cells slots (vx_MQ below Qc XC args s mc ms free) (F0 m pc ls rest) := by
  intro T hT X
  have htr : e.platform.stackTraces = false := (show e.platform.stackTraces = l.stackTraces by rw [X.admits.platform]).trans hl
  have Y := vx_rebase X (R' := { frames := R.frames, locals := R.locals, cells := 1, slots := 6 }) (Nat.le_refl _) (Nat.le_refl _) hRcells hRslots
  obtain ⟨s', hA⟩ : ∃ z, z = (T.setVm s.vm).setFrames (.invoking m args :: below) := ⟨_, rfl⟩
  rw [← hA] at Y
  have hvm : s'.vm = s.vm := by rw [hA]; rfl
  have hhp : s'.heap = H := by rw [hA]; exact hT
  have hW0 : s.WarmedH s'.vm := by rw [hvm]; exact State.WarmedH.refl s
  have hat' : ∀ w ∈ vx_atS own ic cls names, w.before args s' = true := fun w hw => vx_ot_at hW0 hvm.symm (hgood w (List.mem_cons_of_mem _ (List.mem_cons_of_mem _ hw))) (hat w hw)
  have hk' : (Cond.classLink own ik cls).before args s' = true := vx_ot_at hW0 hvm.symm (hgood _ List.mem_cons_self) hk
  have hini' : (Cond.initialized cls).before args s' = true := vx_ot_at hW0 hvm.symm (hgood _ (List.mem_cons_of_mem _ List.mem_cons_self)) hini
  have hU' : vx_Zq Bundle.tN "UNASSIGNED_STACK" Bundle.steD A s' s'.heap := by rw [hhp]; exact vx_Zq.moved hW0.alike (hU.kept hS.2.1)
  have hN' : vx_Zq Bundle.tN "SUPPRESSED_SENTINEL" Bundle.listD A s' s'.heap := by rw [hhp]; exact vx_Zq.moved hW0.alike (hN.kept hS.2.1)
  have h : ∀ w ∈ Bundle.ownAtoms own ic cls names, w.before args s' = true := vx_own hat' (vx_isRefq hU'.1) (vx_isRefq hN'.1) hU'.2.word hN'.2.word
  have hown' : s'.vm.findClass own = some m.cls := by rw [hvm]; exact hown
  have hins : (Cond.instantiable cls 6).before args s' = true := h _ (by simp [Bundle.ownAtoms])
  obtain ⟨vm₁, cX, kX, hfX, hkX, -, -, X₁, st1⟩ := Y.newCold hexec (own := own) (C := cls) (index := ik) (n := 6) hown' hk' hins hini'
    (g := F0 m pc ls rest) rfl (by rw [hb]; exact d0) (Nat.le_refl _) (Nat.le_refl _)
  generalize hT1 : (T.setVm vm₁).pushCell { cls := cX, slots := kX.instanceTypes.map defaultValue, vm := .none } = T1 at X₁ st1
  have hcat : (Value.ref T.heap.size).category = 1 := rfl
  have hcellA : T1.heap[T.heap.size]? = some (freshCell cX kX) := by rw [← hT1]; exact State.heap_pushCell_size _ _
  have d3' : decode c.code (pc + 3) = .ok (.dup, 1) := by rw [hb]; exact d3
  have d4' : decode c.code (pc + 4) = .ok (.ldc is, 2) := by rw [hb]; exact d4
  have hstr' : vk_R own is text sa s' := vk_R.warm hW0 hstr
  obtain ⟨U, hsteps, hrun, hend, hW, hsame, ce, hce, hO⟩ := X₁.ctorThrowS hexec htr (own := own) (cls := cls) (names := names) (ic := ic) hown' hcls hnames h (fun x hx => nomatch hx) hfX hkX hcellA (by rw [hhp, hT]; exact Nat.le_refl _) (msg := .ref sa) rfl
    (g := { method := m, pc := pc + 6, locals := ls, stack := .ref sa :: .ref T.heap.size :: .ref T.heap.size :: rest, locked := none }) rfl hsize rfl rfl (rest := rest) rfl
    (by rw [hb]; exact d6) (by rw [hb]; exact d9) hout hRframes (by simp only [List.map_cons, List.sum_cons, hcat]; omega) hlocks
  obtain ⟨f1, f2⟩ := vx_frame hsame
  rw [hhp] at f1 f2
  have hWs : s.WarmedH U.vm := State.WarmedH.trans hW0 hW
  have hcl : s.vm.findClass cls = some ce.cls := by
    have h9 := hO.cls
    rw [hvm] at h9
    exact h9
  have hall : s.sameButNew ({ U with vm := s.vm } : State) locs mc ms := by
    subst hA
    obtain ⟨e1, e2⟩ := hsame
    rw [State.setFrames_setFrames] at e1
    have h2 : (T.setVm s.vm).sameButNew ({ U with vm := s.vm } : State) [] (0 + 1) (0 + 6) := ⟨e1, e2⟩
    have h3 := X.same.trans h2
    rw [List.append_nil] at h3
    exact h3.mono hc hs
  refine ⟨U, ?_, .threw T.heap.size, hrun, hend, Or.inr ⟨T.heap.size, rfl, cls, ce, locs, hx U hWs.alike f1 (fun q hq => f2 q hq (fun z hz => nomatch hz)), hce, hO.vm, hcl, hWs, hall, hf⟩⟩
  refine st1 _ ?_
  show Steps p.tables e below (T1.setTop { method := m, pc := pc + 3, locals := ls, stack := .ref T.heap.size :: rest, locked := none }) _
  jvm_step X₁.here [X₁.here.top, hexec, d3', Value.category]
  exact X₁.ldcString hexec (own := own) (text := text) (index := is) (a := sa) hown' hstr'.1 hstr'.2
    (g := { method := m, pc := pc + 4, locals := ls, stack := .ref T.heap.size :: .ref T.heap.size :: rest, locked := none }) rfl d4' _ hsteps
/-- 'throw new E("text")', the text by a wide index -/
theorem vx_throwSW {cc : ByteArray} {pc : Nat} (hexec : p.tables.exec = Jvm.exec) (hb : c.code = cc) (hl : l.stackTraces = false) {own cls text : String} {names : List String} {ik is ic mc ms sa : Nat} {A : Nat → Prop}
    (hown : s.vm.findClass own = some m.cls) (hcls : Bundle.fit cls = true) (hnames : ∀ n ∈ names, Bundle.fit n = true)
    (hk : (Cond.classLink own ik cls).before args s = true) (hini : (Cond.initialized cls).before args s = true) (hstr : vk_R own is text sa s) (hat : ∀ w ∈ vx_atS own ic cls names, w.before args s = true)
    (hgood : ∀ w ∈ Cond.classLink own ik cls :: Cond.initialized cls :: vx_atS own ic cls names, vx_ot w = true)
    (hU : vx_Zq Bundle.tN "UNASSIGNED_STACK" Bundle.steD A s s.heap) (hN : vx_Zq Bundle.tN "SUPPRESSED_SENTINEL" Bundle.listD A s s.heap) (hS : va_S A s.heap H locs) (hsize : ls.size = c.maxLocals)
    (d0 : decode cc pc = .ok (.new ik, 3)) (d3 : decode cc (pc + 3) = .ok (.dup, 1)) (d4 : decode cc (pc + 4) = .ok (.ldc_w is, 3)) (d7 : decode cc (pc + 7) = .ok (.invokespecial ic, 3)) (d10 : decode cc (pc + 10) = .ok (.athrow, 1))
    (hout : ∀ x ∈ c.exceptionTable.toList, covers x (pc + 10) = false)
    (hRframes : names.length + 3 < R.frames) (hRlocals : (rest.map fun v => v.category).sum + (13 * (names.length + 1) + 43) ≤ R.locals) (hRcells : cells + 1 ≤ R.cells) (hRslots : slots + 6 ≤ R.slots) (hlocks : meth.locks = false)
    (hx : ∀ t : State, s.vm.Alike t.vm → H.size ≤ t.heap.size → (∀ q : Nat, q < H.size → t.heap[q]? = H[q]?) → XC cls s t)
    (hf : ∀ z ∈ locs, free z.base) (hc : cells + 1 ≤ mc) (hs : slots + 6 ≤ ms) :
    W p l e R s m args below meth c H locs cells slots (vx_MQ below Qc XC args s mc ms free) (F0 m pc ls rest) := by
  intro T hT X
  have htr : e.platform.stackTraces = false := (show e.platform.stackTraces = l.stackTraces by rw [X.admits.platform]).trans hl
  have Y := vx_rebase X (R' := { frames := R.frames, locals := R.locals, cells := 1, slots := 6 }) (Nat.le_refl _) (Nat.le_refl _) hRcells hRslots
  obtain ⟨s', hA⟩ : ∃ z, z = (T.setVm s.vm).setFrames (.invoking m args :: below) := ⟨_, rfl⟩
  rw [← hA] at Y
  have hvm : s'.vm = s.vm := by rw [hA]; rfl
  have hhp : s'.heap = H := by rw [hA]; exact hT
  have hW0 : s.WarmedH s'.vm := by rw [hvm]; exact State.WarmedH.refl s
  have hat' : ∀ w ∈ vx_atS own ic cls names, w.before args s' = true := fun w hw => vx_ot_at hW0 hvm.symm (hgood w (List.mem_cons_of_mem _ (List.mem_cons_of_mem _ hw))) (hat w hw)
  have hk' : (Cond.classLink own ik cls).before args s' = true := vx_ot_at hW0 hvm.symm (hgood _ List.mem_cons_self) hk
  have hini' : (Cond.initialized cls).before args s' = true := vx_ot_at hW0 hvm.symm (hgood _ (List.mem_cons_of_mem _ List.mem_cons_self)) hini
  have hU' : vx_Zq Bundle.tN "UNASSIGNED_STACK" Bundle.steD A s' s'.heap := by rw [hhp]; exact vx_Zq.moved hW0.alike (hU.kept hS.2.1)
  have hN' : vx_Zq Bundle.tN "SUPPRESSED_SENTINEL" Bundle.listD A s' s'.heap := by rw [hhp]; exact vx_Zq.moved hW0.alike (hN.kept hS.2.1)
  have h : ∀ w ∈ Bundle.ownAtoms own ic cls names, w.before args s' = true := vx_own hat' (vx_isRefq hU'.1) (vx_isRefq hN'.1) hU'.2.word hN'.2.word
  have hown' : s'.vm.findClass own = some m.cls := by rw [hvm]; exact hown
  have hins : (Cond.instantiable cls 6).before args s' = true := h _ (by simp [Bundle.ownAtoms])
  obtain ⟨vm₁, cX, kX, hfX, hkX, -, -, X₁, st1⟩ := Y.newCold hexec (own := own) (C := cls) (index := ik) (n := 6) hown' hk' hins hini'
    (g := F0 m pc ls rest) rfl (by rw [hb]; exact d0) (Nat.le_refl _) (Nat.le_refl _)
  generalize hT1 : (T.setVm vm₁).pushCell { cls := cX, slots := kX.instanceTypes.map defaultValue, vm := .none } = T1 at X₁ st1
  have hcat : (Value.ref T.heap.size).category = 1 := rfl
  have hcellA : T1.heap[T.heap.size]? = some (freshCell cX kX) := by rw [← hT1]; exact State.heap_pushCell_size _ _
  have d3' : decode c.code (pc + 3) = .ok (.dup, 1) := by rw [hb]; exact d3
  have d4' : decode c.code (pc + 4) = .ok (.ldc_w is, 3) := by rw [hb]; exact d4
  have hstr' : vk_R own is text sa s' := vk_R.warm hW0 hstr
  obtain ⟨U, hsteps, hrun, hend, hW, hsame, ce, hce, hO⟩ := X₁.ctorThrowS hexec htr (own := own) (cls := cls) (names := names) (ic := ic) hown' hcls hnames h (fun x hx => nomatch hx) hfX hkX hcellA (by rw [hhp, hT]; exact Nat.le_refl _) (msg := .ref sa) rfl
    (g := { method := m, pc := pc + 7, locals := ls, stack := .ref sa :: .ref T.heap.size :: .ref T.heap.size :: rest, locked := none }) rfl hsize rfl rfl (rest := rest) rfl
    (by rw [hb]; exact d7) (by rw [hb]; exact d10) hout hRframes (by simp only [List.map_cons, List.sum_cons, hcat]; omega) hlocks
  obtain ⟨f1, f2⟩ := vx_frame hsame
  rw [hhp] at f1 f2
  have hWs : s.WarmedH U.vm := State.WarmedH.trans hW0 hW
  have hcl : s.vm.findClass cls = some ce.cls := by
    have h9 := hO.cls
    rw [hvm] at h9
    exact h9
  have hall : s.sameButNew ({ U with vm := s.vm } : State) locs mc ms := by
    subst hA
    obtain ⟨e1, e2⟩ := hsame
    rw [State.setFrames_setFrames] at e1
    have h2 : (T.setVm s.vm).sameButNew ({ U with vm := s.vm } : State) [] (0 + 1) (0 + 6) := ⟨e1, e2⟩
    have h3 := X.same.trans h2
    rw [List.append_nil] at h3
    exact h3.mono hc hs
  refine ⟨U, ?_, .threw T.heap.size, hrun, hend, Or.inr ⟨T.heap.size, rfl, cls, ce, locs, hx U hWs.alike f1 (fun q hq => f2 q hq (fun z hz => nomatch hz)), hce, hO.vm, hcl, hWs, hall, hf⟩⟩
  refine st1 _ ?_
  show Steps p.tables e below (T1.setTop { method := m, pc := pc + 3, locals := ls, stack := .ref T.heap.size :: rest, locked := none }) _
  jvm_step X₁.here [X₁.here.top, hexec, d3', Value.category]
  exact X₁.ldcStringW hexec (own := own) (text := text) (index := is) (a := sa) hown' hstr'.1 hstr'.2
    (g := { method := m, pc := pc + 4, locals := ls, stack := .ref T.heap.size :: .ref T.heap.size :: rest, locked := none }) rfl d4' _ hsteps
end Ends
section Bodies
variable {l : Launch}
theorem vx_ofW {y : MethodName} {ws ws' : List Cond} {rm : Room} {Pc : Array Value → State → Prop} {Qc : Array Value → State → Outcome → State → Prop} {XC : String → State → State → Prop} {mc ms : Nat} {free : Addr → Prop} {cc : ByteArray} {maxL : Nat} {ret : Option FieldType}
    (hy : plainName y.cls = true) (hw : ws = Cond.code y cc maxL ret :: ws')
    (body : ∀ p e s m args below meth c s₁, BodyLoose p l y (headSpec ws rm) cc maxL ret e s m args below meth c s₁ → c.maxLocals = maxL → (∀ x ∈ c.exceptionTable.toList, False) → Pc args s →
      W p l e (headSpec ws rm).room s m args below meth c s.heap [] 0 0 (vx_MQ below Qc XC args s mc ms free) (entryFrame m args maxL)) : vx_Met l y ws rm Pc Qc XC mc ms free := by
  refine MetFree.of_bodyS (code := cc) (maxLocals := maxL) (ret := ret) hy ?_ ?_
  · intro args s m h hn
    obtain ⟨meth, c, h1, h2, h3, h4, h5, h6, -, -⟩ := Cond.code_spec hn (atoms_spec (ws := ws) h _ (by rw [hw]; exact List.mem_cons_self))
    exact ⟨meth, c, h1, h2, h3, h4, h5, h6⟩
  · intro p e s m args below meth c s₁ B hml hP _
    have hh0 : s₁.heap = s.heap := by rw [B.state]; rfl
    have ht : ∀ x ∈ c.exceptionTable.toList, False := by
      obtain ⟨meth9, c9, h1, h2, -, -, -, -, h7, -⟩ := Cond.code_spec B.named (atoms_spec (ws := ws) B.pre _ (by rw [hw]; exact List.mem_cons_self))
      cases Option.some.inj (h1.symm.trans B.method)
      cases Option.some.inj (h2.symm.trans (Stand.of_body B).code)
      intro x hx
      rw [Array.isEmpty_iff.mp h7] at hx
      cases hx
    obtain ⟨t, a1, o, b1, b2, b3⟩ := body p e s m args below meth c s₁ B hml ht hP s₁ hh0 (Stand.of_body B)
    exact ⟨t, o, a1, b1, b2, b3⟩
/-- the table of a body with handlers -/
theorem vx_table {p : Program} {x y : MethodName} {S : Spec} {cc bytes : ByteArray} {maxL maxL' : Nat} {ret ret' : Option FieldType} {e : Env} {s s₁ : State} {m : MethodId} {args : Array Value} {below : List Frame} {meth : Method} {c : Code} {hh : List (Nat × Nat × Nat × Nat)}
    (B : BodyLoose p l y S cc maxL ret e s m args below meth c s₁) (h : (Cond.codeWith y bytes maxL' ret' hh).before args s = true) : c.exceptionTable.toList = tableOf hh := by
  obtain ⟨m9, meth9, c9, hn9, h1, h2, -, -, h6, -⟩ := Cond.codeWith_spec h
  cases Option.some.inj (hn9.symm.trans B.named)
  cases Option.some.inj (h1.symm.trans B.method)
  cases Option.some.inj (h2.symm.trans (Stand.of_body B).code)
  rw [← h6, table_eq]
end Bodies
end VXA
/-! ===== END ===== -/
/-! ===== BEGIN a static call of a method with an exception table ===== -/
section VXS
variable {p : Program} {l : Launch} {e : Env} {R : Room} {s : State} {m : MethodId} {args : Array Value} {below : List Frame} {meth : Method} {c : Code} {T : State} {H : Heap} {locs : List Loc} {cells slots : Nat}
abbrev vx_CSW (R : Room) (s : State) (args : Array Value) (own : String) (index : Nat) (y : MethodName) (bytes : ByteArray) (maxL : Nat) (ret : Option FieldType) (hh : List (Nat × Nat × Nat × Nat)) (ws : List Cond) (rm : Room) (mc ms n : Nat) : Prop :=
  (rm.cells = mc ∧ rm.slots = ms ∧ rm.frames + 1 ≤ R.frames ∧ 8 + (maxL + 11) + rm.locals ≤ R.locals ∧ (∀ w ∈ ws, ∀ (a' : Array Value) (U : State), s.WarmedH U.vm → w.before a' U = true) ∧ Cond.codeWith y bytes maxL ret hh ∈ ws) ∧
  (Cond.codeWith y bytes maxL ret hh).before args s = true ∧ (Cond.initialized y.cls).before args s = true ∧ (y.cls ≠ "java/lang/invoke/MethodHandle" ∧ y.cls ≠ "java/lang/invoke/VarHandle") ∧
  (∀ sig, parseMethodDescriptor y.desc = some sig → n = sig.parameters.length) ∧ (Cond.methodLink own index y).before args s = true ∧ (Cond.static y).before args s = true
theorem vx_cwSW {own : String} {index maxL mc ms : Nat} {y : MethodName} {bytes : ByteArray} {ret : Option FieldType} {hh : List (Nat × Nat × Nat × Nat)} {Ts ws ws' : List Cond} {rm : Room} (n : Nat) (ht : ∀ w ∈ Ts, w.before args s = true) (hT : GoodIn Ts (va_wsS own index y ws)) (hw : ws = Cond.codeWith y bytes maxL ret hh :: ws') (hrc : rm.cells = mc) (hrs : rm.slots = ms)
    (hd : y.cls ≠ "java/lang/invoke/MethodHandle" ∧ y.cls ≠ "java/lang/invoke/VarHandle" ∧ (parseMethodDescriptor y.desc).map (fun d => d.parameters.length) = some n) (hR : rm.frames + 1 ≤ R.frames ∧ 8 + (maxL + 11) + rm.locals ≤ R.locals) :
    vx_CSW R s args own index y bytes maxL ret hh ws rm mc ms n := by
  have ok : ∀ w ∈ va_wsS own index y ws, w.before args s = true := fun w h => ht w (hT w h).1
  have hG : GoodIn Ts ws := fun w h => hT w (by unfold va_wsS; exact List.mem_append_right _ h)
  have hc : Cond.codeWith y bytes maxL ret hh ∈ ws := by rw [hw]; exact List.mem_cons_self
  refine ⟨⟨hrc, hrs, hR.1, hR.2, pay_in ht hG, hc⟩, ht _ (hG _ hc).1, ok _ (by simp [va_wsS]), ⟨hd.1, hd.2.1⟩, fun sig h => ?_, ok _ (by simp [va_wsS]), ok _ (by simp [va_wsS])⟩
  have h2 := hd.2.2
  rw [h] at h2
  exact (Option.some.inj h2).symm
theorem vx_callSW (X : Stand p l e R s m args below meth c T locs cells slots) (hexec : p.tables.exec = Jvm.exec) {own : String} {index : Nat} {y : MethodName} {bytes : ByteArray} {maxL : Nat} {ret : Option FieldType} {hh : List (Nat × Nat × Nat × Nat)}
    (hown : s.vm.findClass own = some m.cls) (hlink : (Cond.methodLink own index y).before args s = true) (hstat : (Cond.static y).before args s = true) (hinit : (Cond.initialized y.cls).before args s = true)
    (hcode : (Cond.codeWith y bytes maxL ret hh).before args s = true) (hy : y.cls ≠ "java/lang/invoke/MethodHandle" ∧ y.cls ≠ "java/lang/invoke/VarHandle")
    {W9 : Nat} {Pre : Pt → Array Value → Prop} {Post : Pt → Array Value → Option Value → Pt → Prop} (hK : Back l R p e below s args y 3 W9 Pre Post)
    {g : JFrame} (hg : g.method = m) (hsize : g.locals.size = c.maxLocals) {argsL rest : List Value} (hlen : ∀ sig, parseMethodDescriptor y.desc = some sig → argsL.length = sig.parameters.length)
    (hstack : g.stack = argsL.reverse ++ rest) (hW : 2 * g.monitorRoom + (rest.map fun v => v.category).sum ≤ W9) (hdg : decode c.code g.pc = .ok (.invokestatic index, 3))
    (hpre : ∀ vm₁, s.WarmedH vm₁ → Pre ⟨T.setVm vm₁, locs, cells, slots⟩ argsL.toArray) :
    ∃ (v : Option Value) (vm₁ : Vm) (B : Pt), s.WarmedH vm₁ ∧ Stand p l e R s m args below meth c B.U B.locs B.cells B.slots ∧ Post ⟨T.setVm vm₁, locs, cells, slots⟩ argsL.toArray v B ∧
      ∀ target, Steps p.tables e below (B.U.setTop { g with pc := g.pc + 3, stack := v.toList ++ rest }) target → Steps p.tables e below (T.setTop g) target := by
  obtain ⟨mk, methM, cM, hnamed, hmethM, -, -, -, -, -, -, hsigM⟩ := Cond.codeWith_spec hcode
  have hstatic : methM.isStatic = true := Cond.static_spec hnamed hmethM hstat
  obtain ⟨kP, hkP, -⟩ := className_of_methodNamed hnamed
  have hinitP : kP.init = .initialized := Cond.initialized_spec (findClass_of_methodNamed hnamed) hkP hinit
  obtain ⟨vm₁, X₁, hstep₁⟩ := X.invokestatic hexec hown hlink hnamed hmethM hstatic hkP hinitP hy (g := g) hg (argsL := argsL) (rest := rest) (hlen _ hsigM) hstack hdg
  obtain ⟨v, B, X', hpost, hsteps⟩ := hK m meth c ⟨T.setVm vm₁, locs, cells, slots⟩ { g with stack := rest } (.invokestatic index) mk argsL.toArray X₁ hg hsize hdg hW (X₁.named hnamed) (hpre vm₁ X₁.warmed)
  exact ⟨v, vm₁, B, X₁.warmed, X', hpost, fun target h => hstep₁ _ fun acts => by rw [doInvoke_state]; exact hsteps.trans h⟩
theorem vx_runSW {y : MethodName} {bytes cc : ByteArray} {maxL nL mc ms n index : Nat} {ret : Option FieldType} {hh : List (Nat × Nat × Nat × Nat)} {ws : List Cond} {rm : Room} {Pc : Array Value → State → Prop} {Qc : Array Value → State → Outcome → State → Prop} {free : Addr → Prop} {Ts : List Cond} {own : String} {As rest : List Value} {g : JFrame}
    (S : CallFix p m c cc nL s args Ts own) (hM : Met l y ws rm Pc Qc mc ms free) (cw : vx_CSW R s args own index y bytes maxL ret hh ws rm mc ms n) (hp : PreS s H Pc As)
    (hg : g.method = m) (hn : As.length = n) (hsize : g.locals.size = nL) (hstack : g.stack = As.reverse ++ rest) (hW : 2 * g.monitorRoom + (rest.map fun v => v.category).sum ≤ 8) (hdg : decode cc g.pc = .ok (.invokestatic index, 3)) (hf : cells + mc ≤ R.cells ∧ slots + ms ≤ R.slots) :
    va_Run p l e R s m args below meth c H locs cells slots mc ms g rest (Qc As.toArray) (free) := by
  obtain ⟨⟨hrc, hrs, hfr, hlo, hws, hcw⟩, hcode, hini, hy, hlen, hl, hstt⟩ := cw
  have hK : Back l R p e below s args y 3 8 (PreOf R mc ms Pc) (PostOf Qc mc ms free) := va_backW (hh := hh) (bytes := bytes) (maxL := maxL) (ret := ret) hM hp.1 hrc hrs hfr hlo hws hcw (fun a' U hW => word_at hW (Or.inl (by first | rfl | simp [Cond.onTables, Cond.keeps, Cond.steady])) hini)
  obtain ⟨hx, hb, hml, ho, -⟩ := S
  intro T hT X
  obtain ⟨v, vm₁, ⟨U', l2, c2, s2⟩, hW₁, X', ⟨g', mk, t, L, e1, e2, hq, h1, hL, h2, h3⟩, st⟩ := vx_callSW X hx (hh := hh) (bytes := bytes) (maxL := maxL) (ret := ret) ho hl hstt hini hcode hy hK hg (hsize.trans hml.symm) (argsL := As) (rest := rest) (fun sig h => hn.trans (hlen sig h)) hstack hW (by rw [hb]; exact hdg)
    (fun vm₁ hW₁ => ⟨hf.1, hf.2, hp.2 (T.setVm vm₁) hT hW₁⟩)
  dsimp only [Pt.U, Pt.locs, Pt.cells, Pt.slots] at X' e1 e2 h1 h2 h3 st
  subst h1; subst h2; subst h3
  exact ⟨v, (T.setVm vm₁).calling g' mk As.toArray, t, U', L, hT, X', hL, e1, e2, hq, st⟩
/-- not caught here, past rows that name other classes: it goes on to the caller -/
theorem vx_outP {p : Program} {l : Launch} {e : Env} {R : Room} {s : State} {m : MethodId} {args : Array Value} {below : List Frame} {meth : Method} {c : Code} {H : Heap} {locs : List Loc} {cells slots : Nat} {free : Addr → Prop} {ls : Array Slot} {rest : List Value} {Qc : Array Value → State → Outcome → State → Prop} {XC : String → State → State → Prop}
    {pc : Nat} {own E : String} {ce : Cell} {q : Addr} {mc ms : Nat} (hown : s.vm.findClass own = some m.cls) (hlocks : meth.locks = false)
    (hpass : ∀ z ∈ c.exceptionTable.toList, covers z pc = false ∨ (z.catchType ≠ 0 ∧ ∃ nm : String, (Cond.classLink own z.catchType nm).before args s = true ∧ va_Nc E nm s)) (hcell : H[q]? = some ce) (hv : ce.vm = .none) (hcl : s.vm.findClass E = some ce.cls)
    (hx : ∀ t : State, t.heap = H → s.vm.Alike t.vm → XC E s t) (hf : ∀ z ∈ locs, free z.base) (hc : cells ≤ mc) (hs : slots ≤ ms) :
    vx_W p l e R s m args below meth c H locs cells slots (vx_MQ below Qc XC args s mc ms free) (F0 m pc ls rest) q := by
  intro T hT X
  have hpl : e.platform.magicAccessors = ({} : Platform).magicAccessors := by rw [X.admits.platform]
  obtain ⟨vm', hW', X', st⟩ := X.outThrough hlocks q (g := F0 m pc ls rest) rfl rfl rfl (cell := ce) (by rw [hT]; exact hcell) (by rw [hv]; rfl)
    (by obtain ⟨k9, h9, -⟩ := Vm.findClass_spec hcl; exact ⟨k9, h9⟩) (fun z hz => by
      rcases hpass z hz with h | ⟨hz0, nm, hl1, hn1⟩
      · exact Or.inl h
      · obtain ⟨c6, hc6, hcl6⟩ := Cond.classLink_spec hown hl1 e.platform hpl
        obtain ⟨a8, b8, h1, h2, h3⟩ := hn1
        cases Option.some.inj (h1.symm.trans hcl)
        cases Option.some.inj (h2.symm.trans hc6)
        exact Or.inr ⟨hz0, _, hcl6, h3⟩)
  obtain ⟨g₀, hfr⟩ := X'.frames_eq
  have hcell9 : ((T.setVm vm').setFrames (.throwing q :: below)).heap[q]? = some ce := by
    show T.heap[q]? = some ce
    rw [hT]; exact hcell
  have hend : Ended ((T.setVm vm').setFrames (.throwing q :: below)) below (.threw q) := State.frames_setFrames _ (State.cur_lt_of_frames hfr)
  refine ⟨(T.setVm vm').setFrames (.throwing q :: below), ?_, .threw q, X'.here.running, hend, Or.inr ⟨q, rfl, E, ce, locs, hx _ hT (X'.ends _).1.alike, hcell9, hv, hcl, (X'.ends _).1, (X'.ends _).2.mono hc hs, hf⟩⟩
  rw [X.pushThrowing_eq]
  exact st
/-- a thing of a world lies in the heap -/
theorem vx_lt {D : va_G} {cl : List vw_C} {ws : va_W} {H1 : Heap} (h : va_P D cl ws H1) {k : Nat} {q : Nat × va_E} (hk : ws[k]? = some q) : q.1 < H1.size := (h k q hk).lt
end VXS
/-! ===== END ===== -/
/-! ===== BEGIN methods with a table of their own: called by a name, returning or throwing ===== -/
section VXH
/-! vx_backW, vx_callVX, vx_callSX, vx_callVW, vx_runVW, vx_runVX, vx_runSX, vx_ofWH follow the same proofs as their sisters above (Free/Laws.lean, Shelf42/LK1.lean); vx_outP calls Shelf42/NT130.lean (outThrough). -/
section
variable {l : Launch} {R : Room} {p : Program} {e : Env} {below : List Frame} {s : State} {sargs : Array Value} {y : MethodName} {len W9 : Nat}
theorem vx_backW {ws : List Cond} {rm : Room} {Pc : Array Value → State → Prop} {Qc : Array Value → State → Outcome → State → Prop} {XC : String → State → State → Prop} {mc ms : Nat} {free : Addr → Prop} {bytes : ByteArray} {maxL : Nat} {ret : Option FieldType} {hh : List (Nat × Nat × Nat × Nat)}
    (hM : vx_Met l y ws rm Pc Qc XC mc ms free) (hblind : FrameBlind Pc) (hrc : rm.cells = mc) (hrs : rm.slots = ms)
    (hframes : rm.frames + 1 ≤ R.frames) (hlocals : W9 + (maxL + 11) + rm.locals ≤ R.locals)
    (hws : ∀ w ∈ ws, ∀ a' U, s.WarmedH U.vm → w.before a' U = true) (hcode : Cond.codeWith y bytes maxL ret hh ∈ ws) (hinit : ∀ a' U, s.WarmedH U.vm → (Cond.initialized y.cls).before a' U = true) :
    vx_Back l R p e below s sargs y len W9 (PreOf R mc ms Pc) (PostOf Qc mc ms free) (vx_Post XC mc ms free) := by
  intro m meth c A g ig mk a X hg hsize hdg hW hn hp
  have h1 : (headSpec ws rm).pre.before a A.U = true := atoms_intro fun w hw => hws w hw _ _ X.warmed
  have h2 : (Cond.codeWith y bytes maxL ret hh).before a A.U = true := hws _ hcode _ _ X.warmed
  have h3 : (Cond.initialized y.cls).before a A.U = true := hinit _ _ X.warmed
  have h4 : A.cells + (headSpec ws rm).room.cells ≤ R.cells := by rw [show (headSpec ws rm).room.cells = mc from hrc]; exact hp.1
  have h5 : A.slots + (headSpec ws rm).room.slots ≤ R.slots := by rw [show (headSpec ws rm).room.slots = ms from hrs]; exact hp.2.1
  have hPc : Pc a (A.U.calling g mk a) := hblind _ _ _ _ hp.2.2
  obtain ⟨U, Ls, c0, s0⟩ := A
  dsimp only [Pt.U, Pt.locs, Pt.cells, Pt.slots] at h1 h2 h3 h4 h5 X hn hPc ⊢
  obtain ⟨m9, methY, cY, hn9, hmY, hcY, -, hlY, -⟩ := Cond.codeWith_spec h2
  cases Option.some.inj (hn9.symm.trans hn)
  obtain ⟨kY, hkY, -⟩ := className_of_methodNamed hn
  have hinitY : kY.init = .initialized := Cond.initialized_spec (findClass_of_methodNamed hn) hkY h3
  have h : At U g.method c below := by rw [hg]; exact X.here
  have hlocals9 : W9 + (maxL + 11) + (headSpec ws rm).room.locals ≤ R.locals := hlocals
  have happ : (headSpec ws rm).appliesLoose y e.platform (U.calling g mk a) = true :=
    Spec.appliesLoose_calling (g := g) h hdg hn hkY hinitY
      (X.room_calling (g := g) (R' := (headSpec ws rm).room) hsize hmY hcY hframes (by rw [hlY]; omega) h4 h5) h1
  obtain ⟨mid, hmid⟩ := h.above
  have hfr : (U.setTop g).frames = (.java g :: mid) ++ below := by rw [State.frames_setTop' g h.top, hmid]; rfl
  obtain ⟨o, s₂, hsteps, -, hend, hq⟩ := Steps.callFree hM p X.admits X.cas X.clock (acts := []) hfr happ hPc trivial
  have hq' : vx_Q Qc XC mc ms free a (U.calling g mk a) o s₂ := hq
  rw [State.frames_setTop' g h.top] at hend
  obtain ⟨g₀, hg0⟩ := Option.isSome_iff_exists.mp h.top
  obtain ⟨r, hr⟩ := State.topJava?_eq_some.mp hg0
  have hr' : (({ U with heap := s₂.heap, slotsUsed := s₂.slotsUsed } : State).setVm s₂.vm).frames = .java g₀ :: r := hr
  rcases hq' with ⟨hqc, L, hfe, hL⟩ | ⟨q, rfl, E, ce, L, hx, hce, hcv, hcl, hW₂, hsm, hL⟩
  · obtain ⟨⟨v, rfl⟩, hW₂, e2, q2, q3, q4, q5, q6⟩ := id hfe
    have e3 : s₂ = ({ (U.calling g mk a).setFrames s₂.frames with heap := s₂.heap, slotsUsed := s₂.slotsUsed } : State).setVm s₂.vm := by
      have : s₂ = ({ s₂ with vm := (U.calling g mk a).vm } : State).setVm s₂.vm := rfl
      rw [e2] at this
      exact this
    obtain ⟨c₂, i₂, len₂, hc₂, hd₂, hf₂⟩ := hend
    have hW' : U.WarmedH s₂.vm := hW₂
    have hcc : c₂ = c := by
      have h1 : s₂.code? g.method = U.code? g.method := by
        rw [State.code?_eq, State.code?_eq, hW'.alike.method?]
      exact Option.some.inj (hc₂.symm.trans (h1.trans h.code))
    subst hcc
    have hlen : len₂ = len := by rw [hdg] at hd₂; cases hd₂; rfl
    subst hlen
    have hs₂ : s₂ = (({ U with heap := s₂.heap, slotsUsed := s₂.slotsUsed } : State).setVm s₂.vm).setTop { g with pc := g.pc + len₂, stack := v.toList ++ g.stack } := by
      refine e3.trans ?_
      rw [hf₂, State.calling_eq h.top, State.setFrames_setFrames, State.setTop_of_frames _ hr', hr]
      rfl
    have hsame : U.sameButNew ({ U with heap := s₂.heap, slotsUsed := s₂.slotsUsed } : State) L mc ms := by
      refine ⟨?_, q2, q3, q4, q5, q6⟩
      obtain ⟨t, ht, -⟩ := State.frames_cons hr
      show ({ U with heap := s₂.heap, slotsUsed := s₂.slotsUsed } : State) = { U.setFrames U.frames with heap := s₂.heap, slotsUsed := s₂.slotsUsed }
      rw [State.setFrames_self ht]
    subst hg
    refine Or.inl ⟨v, ⟨(({ U with heap := s₂.heap, slotsUsed := s₂.slotsUsed } : State).setVm s₂.vm), Ls ++ L, c0 + mc, s0 + ms⟩,
      ⟨X.admits, X.cas, X.clock, X.frames, X.room, X.hears, X.method, X.code, (X.here.setHeapUsed s₂.heap s₂.slotsUsed).setVm hW'.alike, X.tail, State.WarmedH.trans X.warmed hW', X.limits, X.bytes, X.same.trans (hsame.setVm s.vm)⟩,
      ⟨g, mk, s₂, L, rfl, rfl, hqc, rfl, hL, rfl, rfl⟩, ?_⟩
    show Steps p.tables e below _ ((({ U with heap := s₂.heap, slotsUsed := s₂.slotsUsed } : State).setVm s₂.vm).setTop { g with pc := g.pc + len₂, stack := v.toList ++ g.stack })
    rw [← hs₂]
    exact hsteps
  · obtain ⟨e2, q2, q3, q4, q5, q6⟩ := id hsm
    have e3 : s₂ = ({ (U.calling g mk a).setFrames s₂.frames with heap := s₂.heap, slotsUsed := s₂.slotsUsed } : State).setVm s₂.vm := by
      have : s₂ = ({ s₂ with vm := (U.calling g mk a).vm } : State).setVm s₂.vm := rfl
      rw [e2] at this
      exact this
    have hf₂ : s₂.frames = .throwing q :: .java g :: U.frames.tail := hend
    have hW' : U.WarmedH s₂.vm := hW₂
    have hs₂ : s₂ = ((({ U with heap := s₂.heap, slotsUsed := s₂.slotsUsed } : State).setVm s₂.vm).setTop g).pushFrame (.throwing q) := by
      refine e3.trans ?_
      rw [hf₂, State.calling_eq h.top, State.setFrames_setFrames, State.pushFrame, State.frames_setTop _ hr', State.setTop_of_frames _ hr', State.setFrames_setFrames, hr]
      rfl
    have hsame : U.sameButNew ({ U with heap := s₂.heap, slotsUsed := s₂.slotsUsed } : State) L mc ms := by
      refine ⟨?_, q2, q3, q4, q5, q6⟩
      obtain ⟨t, ht, -⟩ := State.frames_cons hr
      show ({ U with heap := s₂.heap, slotsUsed := s₂.slotsUsed } : State) = { U.setFrames U.frames with heap := s₂.heap, slotsUsed := s₂.slotsUsed }
      rw [State.setFrames_self ht]
    subst hg
    refine Or.inr ⟨q, ⟨(({ U with heap := s₂.heap, slotsUsed := s₂.slotsUsed } : State).setVm s₂.vm), Ls ++ L, c0 + mc, s0 + ms⟩,
      ⟨X.admits, X.cas, X.clock, X.frames, X.room, X.hears, X.method, X.code, (X.here.setHeapUsed s₂.heap s₂.slotsUsed).setVm hW'.alike, X.tail, State.WarmedH.trans X.warmed hW', X.limits, X.bytes, X.same.trans (hsame.setVm s.vm)⟩,
      ⟨g, mk, s₂, L, E, ce, rfl, rfl, hx, hce, hcv, hcl, rfl, hL, rfl, rfl⟩, ?_⟩
    show Steps p.tables e below _ (((({ U with heap := s₂.heap, slotsUsed := s₂.slotsUsed } : State).setVm s₂.vm).setTop g).pushFrame (.throwing q))
    rw [← hs₂]
    exact hsteps
end
variable {p : Program} {l : Launch} {e : Env} {R : Room} {s : State} {m : MethodId} {args : Array Value} {below : List Frame} {meth : Method} {c : Code} {T : State} {H : Heap} {locs : List Loc} {cells slots : Nat}
theorem vx_callVX (X : Stand p l e R s m args below meth c T locs cells slots) (hexec : p.tables.exec = Jvm.exec) {own C : String} {index : Nat} {y : MethodName} {bytes : ByteArray} {maxL : Nat} {ret : Option FieldType} {hh : List (Nat × Nat × Nat × Nat)}
    (hown : s.vm.findClass own = some m.cls) (hlink : (Cond.methodLink own index y).before args s = true) (hinst : (Cond.instanceMethod y).before args s = true) (hsel : (Cond.selects C y y).before args s = true)
    (hcode : (Cond.codeWith y bytes maxL ret hh).before args s = true) (hy : y.cls ≠ "java/lang/invoke/MethodHandle" ∧ y.cls ≠ "java/lang/invoke/VarHandle")
    {W9 : Nat} {Pre : Pt → Array Value → Prop} {Post : Pt → Array Value → Option Value → Pt → Prop} {PostX : Pt → Array Value → Addr → Pt → Prop} (hK : vx_Back l R p e below s args y 3 W9 Pre Post PostX)
    {b : Addr} {cellB : Cell} (hcell : T.heap[b]? = some cellB) (hobj : cellB.vm.isStatics = false) (hcls : s.vm.findClass C = some cellB.cls)
    {g : JFrame} (hg : g.method = m) (hsize : g.locals.size = c.maxLocals) {argsL rest : List Value} (hlen : ∀ sig, parseMethodDescriptor y.desc = some sig → argsL.length = sig.parameters.length)
    (hstack : g.stack = argsL.reverse ++ .ref b :: rest) (hW : 2 * g.monitorRoom + (rest.map fun v => v.category).sum ≤ W9) (hdg : decode c.code g.pc = .ok (.invokevirtual index, 3))
    (hpre : ∀ vm₁, s.WarmedH vm₁ → Pre ⟨T.setVm vm₁, locs, cells, slots⟩ (Value.ref b :: argsL).toArray) :
    (∃ (v : Option Value) (vm₁ : Vm) (B : Pt), s.WarmedH vm₁ ∧ Stand p l e R s m args below meth c B.U B.locs B.cells B.slots ∧ Post ⟨T.setVm vm₁, locs, cells, slots⟩ (Value.ref b :: argsL).toArray v B ∧
      ∀ target, Steps p.tables e below (B.U.setTop { g with pc := g.pc + 3, stack := v.toList ++ rest }) target → Steps p.tables e below (T.setTop g) target) ∨
    (∃ (q : Addr) (vm₁ : Vm) (B : Pt), s.WarmedH vm₁ ∧ Stand p l e R s m args below meth c B.U B.locs B.cells B.slots ∧ PostX ⟨T.setVm vm₁, locs, cells, slots⟩ (Value.ref b :: argsL).toArray q B ∧
      Steps p.tables e below (T.setTop g) ((B.U.setTop { g with stack := rest }).pushFrame (.throwing q))) := by
  obtain ⟨mk, methM, hnamed, hmethM, hstM, habM⟩ := Cond.instanceMethod_spec hinst
  obtain ⟨m8, methM', cM, hn8, hmethM', -, -, -, -, -, -, hsigM⟩ := Cond.codeWith_spec hcode
  cases Option.some.inj (hn8.symm.trans hnamed)
  cases hmethM.symm.trans hmethM'
  obtain ⟨c2, r2, m2, q1, q2, q3, q4, kP, hkP, hkPi⟩ := Cond.selects_spec hsel
  cases hcls.symm.trans q1
  cases (State.methodFound?_of_named hnamed hy).symm.trans q2
  cases hnamed.symm.trans q3
  have hselP : selectMethod e.platform s.vm cellB.cls mk = .method mk := by rw [Launch.admits_selectMethod X.admits]; exact q4
  obtain ⟨vm₁, X₁, hstep₁⟩ := X.invokevirtual hexec hown hlink hnamed hmethM hstM hkP hkPi hy (a := b) (cell := cellB) hcell
    (fun z h => by rw [h] at hobj; cases hobj) hselP hmethM habM hkP hkPi (g := g) hg (argsL := argsL) (rest := rest) (hlen _ hsigM) hstack hdg
  rcases hK m meth c ⟨T.setVm vm₁, locs, cells, slots⟩ { g with stack := rest } (.invokevirtual index) mk (Value.ref b :: argsL).toArray X₁ hg hsize hdg hW (X₁.named hnamed) (hpre vm₁ X₁.warmed) with ⟨v, B, X', hpost, hsteps⟩ | ⟨q, B, X', hpost, hsteps⟩
  · exact Or.inl ⟨v, vm₁, B, X₁.warmed, X', hpost, fun target h => hstep₁ _ fun acts => by rw [doInvoke_state]; exact hsteps.trans h⟩
  · exact Or.inr ⟨q, vm₁, B, X₁.warmed, X', hpost, hstep₁ _ fun acts => by rw [doInvoke_state]; exact hsteps⟩
theorem vx_callSX (X : Stand p l e R s m args below meth c T locs cells slots) (hexec : p.tables.exec = Jvm.exec) {own : String} {index : Nat} {y : MethodName} {bytes : ByteArray} {maxL : Nat} {ret : Option FieldType} {hh : List (Nat × Nat × Nat × Nat)}
    (hown : s.vm.findClass own = some m.cls) (hlink : (Cond.methodLink own index y).before args s = true) (hstat : (Cond.static y).before args s = true) (hinit : (Cond.initialized y.cls).before args s = true)
    (hcode : (Cond.codeWith y bytes maxL ret hh).before args s = true) (hy : y.cls ≠ "java/lang/invoke/MethodHandle" ∧ y.cls ≠ "java/lang/invoke/VarHandle")
    {W9 : Nat} {Pre : Pt → Array Value → Prop} {Post : Pt → Array Value → Option Value → Pt → Prop} {PostX : Pt → Array Value → Addr → Pt → Prop} (hK : vx_Back l R p e below s args y 3 W9 Pre Post PostX)
    {g : JFrame} (hg : g.method = m) (hsize : g.locals.size = c.maxLocals) {argsL rest : List Value} (hlen : ∀ sig, parseMethodDescriptor y.desc = some sig → argsL.length = sig.parameters.length)
    (hstack : g.stack = argsL.reverse ++ rest) (hW : 2 * g.monitorRoom + (rest.map fun v => v.category).sum ≤ W9) (hdg : decode c.code g.pc = .ok (.invokestatic index, 3))
    (hpre : ∀ vm₁, s.WarmedH vm₁ → Pre ⟨T.setVm vm₁, locs, cells, slots⟩ argsL.toArray) :
    (∃ (v : Option Value) (vm₁ : Vm) (B : Pt), s.WarmedH vm₁ ∧ Stand p l e R s m args below meth c B.U B.locs B.cells B.slots ∧ Post ⟨T.setVm vm₁, locs, cells, slots⟩ argsL.toArray v B ∧
      ∀ target, Steps p.tables e below (B.U.setTop { g with pc := g.pc + 3, stack := v.toList ++ rest }) target → Steps p.tables e below (T.setTop g) target) ∨
    (∃ (q : Addr) (vm₁ : Vm) (B : Pt), s.WarmedH vm₁ ∧ Stand p l e R s m args below meth c B.U B.locs B.cells B.slots ∧ PostX ⟨T.setVm vm₁, locs, cells, slots⟩ argsL.toArray q B ∧
      Steps p.tables e below (T.setTop g) ((B.U.setTop { g with stack := rest }).pushFrame (.throwing q))) := by
  obtain ⟨mk, methM, cM, hnamed, hmethM, -, -, -, -, -, -, hsigM⟩ := Cond.codeWith_spec hcode
  have hstatic : methM.isStatic = true := Cond.static_spec hnamed hmethM hstat
  obtain ⟨kP, hkP, -⟩ := className_of_methodNamed hnamed
  have hinitP : kP.init = .initialized := Cond.initialized_spec (findClass_of_methodNamed hnamed) hkP hinit
  obtain ⟨vm₁, X₁, hstep₁⟩ := X.invokestatic hexec hown hlink hnamed hmethM hstatic hkP hinitP hy (g := g) hg (argsL := argsL) (rest := rest) (hlen _ hsigM) hstack hdg
  rcases hK m meth c ⟨T.setVm vm₁, locs, cells, slots⟩ { g with stack := rest } (.invokestatic index) mk argsL.toArray X₁ hg hsize hdg hW (X₁.named hnamed) (hpre vm₁ X₁.warmed) with ⟨v, B, X', hpost, hsteps⟩ | ⟨q, B, X', hpost, hsteps⟩
  · exact Or.inl ⟨v, vm₁, B, X₁.warmed, X', hpost, fun target h => hstep₁ _ fun acts => by rw [doInvoke_state]; exact hsteps.trans h⟩
  · exact Or.inr ⟨q, vm₁, B, X₁.warmed, X', hpost, hstep₁ _ fun acts => by rw [doInvoke_state]; exact hsteps⟩
theorem vx_callVW (X : Stand p l e R s m args below meth c T locs cells slots) (hexec : p.tables.exec = Jvm.exec) {own C : String} {index : Nat} {y : MethodName} {bytes : ByteArray} {maxL : Nat} {ret : Option FieldType} {hh : List (Nat × Nat × Nat × Nat)}
    (hown : s.vm.findClass own = some m.cls) (hlink : (Cond.methodLink own index y).before args s = true) (hinst : (Cond.instanceMethod y).before args s = true) (hsel : (Cond.selects C y y).before args s = true)
    (hcode : (Cond.codeWith y bytes maxL ret hh).before args s = true) (hy : y.cls ≠ "java/lang/invoke/MethodHandle" ∧ y.cls ≠ "java/lang/invoke/VarHandle")
    {W9 : Nat} {Pre : Pt → Array Value → Prop} {Post : Pt → Array Value → Option Value → Pt → Prop} (hK : Back l R p e below s args y 3 W9 Pre Post)
    {b : Addr} {cellB : Cell} (hcell : T.heap[b]? = some cellB) (hobj : cellB.vm.isStatics = false) (hcls : s.vm.findClass C = some cellB.cls)
    {g : JFrame} (hg : g.method = m) (hsize : g.locals.size = c.maxLocals) {argsL rest : List Value} (hlen : ∀ sig, parseMethodDescriptor y.desc = some sig → argsL.length = sig.parameters.length)
    (hstack : g.stack = argsL.reverse ++ .ref b :: rest) (hW : 2 * g.monitorRoom + (rest.map fun v => v.category).sum ≤ W9) (hdg : decode c.code g.pc = .ok (.invokevirtual index, 3))
    (hpre : ∀ vm₁, s.WarmedH vm₁ → Pre ⟨T.setVm vm₁, locs, cells, slots⟩ (Value.ref b :: argsL).toArray) :
    ∃ (v : Option Value) (vm₁ : Vm) (B : Pt), s.WarmedH vm₁ ∧ Stand p l e R s m args below meth c B.U B.locs B.cells B.slots ∧ Post ⟨T.setVm vm₁, locs, cells, slots⟩ (Value.ref b :: argsL).toArray v B ∧
      ∀ target, Steps p.tables e below (B.U.setTop { g with pc := g.pc + 3, stack := v.toList ++ rest }) target → Steps p.tables e below (T.setTop g) target := by
  obtain ⟨mk, methM, hnamed, hmethM, hstM, habM⟩ := Cond.instanceMethod_spec hinst
  obtain ⟨m8, methM', cM, hn8, hmethM', -, -, -, -, -, -, hsigM⟩ := Cond.codeWith_spec hcode
  cases Option.some.inj (hn8.symm.trans hnamed)
  cases hmethM.symm.trans hmethM'
  obtain ⟨c2, r2, m2, q1, q2, q3, q4, kP, hkP, hkPi⟩ := Cond.selects_spec hsel
  cases hcls.symm.trans q1
  cases (State.methodFound?_of_named hnamed hy).symm.trans q2
  cases hnamed.symm.trans q3
  have hselP : selectMethod e.platform s.vm cellB.cls mk = .method mk := by rw [Launch.admits_selectMethod X.admits]; exact q4
  obtain ⟨vm₁, X₁, hstep₁⟩ := X.invokevirtual hexec hown hlink hnamed hmethM hstM hkP hkPi hy (a := b) (cell := cellB) hcell
    (fun z h => by rw [h] at hobj; cases hobj) hselP hmethM habM hkP hkPi (g := g) hg (argsL := argsL) (rest := rest) (hlen _ hsigM) hstack hdg
  obtain ⟨v, B, X', hpost, hsteps⟩ := hK m meth c ⟨T.setVm vm₁, locs, cells, slots⟩ { g with stack := rest } (.invokevirtual index) mk (Value.ref b :: argsL).toArray X₁ hg hsize hdg hW (X₁.named hnamed) (hpre vm₁ X₁.warmed)
  exact ⟨v, vm₁, B, X₁.warmed, X', hpost, fun target h => hstep₁ _ fun acts => by rw [doInvoke_state]; exact hsteps.trans h⟩
abbrev vx_CVW (R : Room) (s : State) (args : Array Value) (own C : String) (index : Nat) (y : MethodName) (bytes : ByteArray) (maxL : Nat) (ret : Option FieldType) (hh : List (Nat × Nat × Nat × Nat)) (ws : List Cond) (rm : Room) (mc ms n : Nat) : Prop :=
  (rm.cells = mc ∧ rm.slots = ms ∧ rm.frames + 1 ≤ R.frames ∧ 8 + (maxL + 11) + rm.locals ≤ R.locals ∧ (∀ w ∈ ws, ∀ (a' : Array Value) (U : State), s.WarmedH U.vm → w.before a' U = true) ∧ Cond.codeWith y bytes maxL ret hh ∈ ws) ∧
  (Cond.codeWith y bytes maxL ret hh).before args s = true ∧ (Cond.initialized y.cls).before args s = true ∧ (y.cls ≠ "java/lang/invoke/MethodHandle" ∧ y.cls ≠ "java/lang/invoke/VarHandle") ∧
  (∀ sig, parseMethodDescriptor y.desc = some sig → n = sig.parameters.length) ∧ (Cond.methodLink own index y).before args s = true ∧ (Cond.instanceMethod y).before args s = true ∧ (Cond.selects C y y).before args s = true
theorem vx_cwVW {own C : String} {index maxL mc ms : Nat} {y : MethodName} {bytes : ByteArray} {ret : Option FieldType} {hh : List (Nat × Nat × Nat × Nat)} {Ts ws ws' : List Cond} {rm : Room} (n : Nat) (ht : ∀ w ∈ Ts, w.before args s = true) (hT : GoodIn Ts (wsV own index C y ws)) (hw : ws = Cond.codeWith y bytes maxL ret hh :: ws') (hrc : rm.cells = mc) (hrs : rm.slots = ms)
    (hd : y.cls = C ∧ y.cls ≠ "java/lang/invoke/MethodHandle" ∧ y.cls ≠ "java/lang/invoke/VarHandle" ∧ (parseMethodDescriptor y.desc).map (fun d => d.parameters.length) = some n) (hR : rm.frames + 1 ≤ R.frames ∧ 8 + (maxL + 11) + rm.locals ≤ R.locals) :
    vx_CVW R s args own C index y bytes maxL ret hh ws rm mc ms n := by
  obtain ⟨hC, hd⟩ := hd
  subst hC
  have ok : ∀ w ∈ wsV own index y.cls y ws, w.before args s = true := fun w h => ht w (hT w h).1
  have hG : GoodIn Ts ws := fun w h => hT w (by unfold wsV; exact List.mem_append_right _ h)
  have hc : Cond.codeWith y bytes maxL ret hh ∈ ws := by rw [hw]; exact List.mem_cons_self
  refine ⟨⟨hrc, hrs, hR.1, hR.2, pay_in ht hG, hc⟩, ht _ (hG _ hc).1, ok _ (by simp [wsV]), ⟨hd.1, hd.2.1⟩, fun sig h => ?_, ok _ (by simp [wsV]), ok _ (by simp [wsV]), ok _ (by simp [wsV])⟩
  have h2 := hd.2.2
  rw [h] at h2
  exact (Option.some.inj h2).symm
theorem vx_runVW {y : MethodName} {bytes cc : ByteArray} {maxL nL mc ms n index : Nat} {ret : Option FieldType} {hh : List (Nat × Nat × Nat × Nat)} {ws : List Cond} {rm : Room} {Pc : Array Value → State → Prop} {Qc : Array Value → State → Outcome → State → Prop} {free : Addr → Prop} {Ts : List Cond} {own C : String} {b : Addr} {As rest : List Value} {g : JFrame}
    (S : CallFix p m c cc nL s args Ts own) (hM : Met l y ws rm Pc Qc mc ms free) (cw : vx_CVW R s args own C index y bytes maxL ret hh ws rm mc ms n) (hp : PreV s H C b Pc As)
    (hg : g.method = m) (hn : As.length = n) (hsize : g.locals.size = nL) (hstack : g.stack = As.reverse ++ .ref b :: rest) (hW : 2 * g.monitorRoom + (rest.map fun v => v.category).sum ≤ 8) (hdg : decode cc g.pc = .ok (.invokevirtual index, 3)) (hf : cells + mc ≤ R.cells ∧ slots + ms ≤ R.slots) :
    va_Run p l e R s m args below meth c H locs cells slots mc ms g rest (Qc (Value.ref b :: As).toArray) free := by
  obtain ⟨⟨hrc, hrs, hfr, hlo, hws, hcw⟩, hcode, hini, hy, hlen, hl, hin, hse⟩ := cw
  have hK : Back l R p e below s args y 3 8 (PreOf R mc ms Pc) (PostOf Qc mc ms free) := va_backW (hh := hh) (bytes := bytes) (maxL := maxL) (ret := ret) hM hp.1 hrc hrs hfr hlo hws hcw (fun a' U hW => word_at hW (Or.inl (by first | rfl | simp [Cond.onTables, Cond.keeps, Cond.steady])) hini)
  obtain ⟨hx, hb, hml, ho, -⟩ := S
  obtain ⟨-, ⟨cellB, hcB, hoB, hclB⟩, hPc⟩ := hp
  intro T hT X
  obtain ⟨v, vm₁, ⟨U', l2, c2, s2⟩, hW₁, X', ⟨g', mk, t, L, e1, e2, hq, h1, hL, h2, h3⟩, st⟩ := vx_callVW X hx (C := C) (hh := hh) (bytes := bytes) (maxL := maxL) (ret := ret) ho hl hin hse hcode hy hK (by rw [hT]; exact hcB) hoB hclB hg (hsize.trans hml.symm) (argsL := As) (rest := rest) (fun sig h => hn.trans (hlen sig h)) hstack hW (by rw [hb]; exact hdg)
    (fun vm₁ hW₁ => ⟨hf.1, hf.2, hPc (T.setVm vm₁) hT hW₁⟩)
  dsimp only [Pt.U, Pt.locs, Pt.cells, Pt.slots] at X' e1 e2 h1 h2 h3 st
  subst h1; subst h2; subst h3
  exact ⟨v, (T.setVm vm₁).calling g' mk (Value.ref b :: As).toArray, t, U', L, hT, X', hL, e1, e2, hq, st⟩
section
variable {y : MethodName} {bytes cc : ByteArray} {maxL nL mc ms n index : Nat} {ret : Option FieldType} {ws : List Cond} {rm : Room} {Pc : Array Value → State → Prop} {Qc : Array Value → State → Outcome → State → Prop} {XC : String → State → State → Prop} {free : Addr → Prop} {Ts : List Cond} {own C : String} {b : Addr} {As rest : List Value} {g : JFrame}
theorem vx_runVX {hh : List (Nat × Nat × Nat × Nat)} (S : CallFix p m c cc nL s args Ts own) (hM : vx_Met l y ws rm Pc Qc XC mc ms free) (cw : vx_CVW R s args own C index y bytes maxL ret hh ws rm mc ms n) (hp : PreV s H C b Pc As)
    (hg : g.method = m) (hn : As.length = n) (hsize : g.locals.size = nL) (hstack : g.stack = As.reverse ++ .ref b :: rest) (hW : 2 * g.monitorRoom + (rest.map fun v => v.category).sum ≤ 8) (hdg : decode cc g.pc = .ok (.invokevirtual index, 3)) (hf : cells + mc ≤ R.cells ∧ slots + ms ≤ R.slots) :
    vx_Run p l e R s m args below meth c H locs cells slots mc ms g rest (Qc (Value.ref b :: As).toArray) XC free := by
  obtain ⟨⟨hrc, hrs, hfr, hlo, hws, hcw⟩, hcode, hini, hy, hlen, hl, hin, hse⟩ := cw
  have hK : vx_Back l R p e below s args y 3 8 (PreOf R mc ms Pc) (PostOf Qc mc ms free) (vx_Post XC mc ms free) := vx_backW (hh := hh) (bytes := bytes) (maxL := maxL) (ret := ret) hM hp.1 hrc hrs hfr hlo hws hcw (fun a' U hW => word_at hW (Or.inl (by first | rfl | simp [Cond.onTables, Cond.keeps, Cond.steady])) hini)
  obtain ⟨hx, hb, hml, ho, -⟩ := S
  obtain ⟨-, ⟨cellB, hcB, hoB, hclB⟩, hPc⟩ := hp
  intro T hT X
  rcases vx_callVX X hx (C := C) (hh := hh) (bytes := bytes) (maxL := maxL) (ret := ret) ho hl hin hse hcode hy hK (by rw [hT]; exact hcB) hoB hclB hg (hsize.trans hml.symm) (argsL := As) (rest := rest) (fun sig h => hn.trans (hlen sig h)) hstack hW (by rw [hb]; exact hdg)
    (fun vm₁ hW₁ => ⟨hf.1, hf.2, hPc (T.setVm vm₁) hT hW₁⟩) with ⟨v, vm₁, ⟨U', l2, c2, s2⟩, hW₁, X', ⟨g', mk, t, L, e1, e2, hq, h1, hL, h2, h3⟩, st⟩ | ⟨q, vm₁, ⟨U', l2, c2, s2⟩, hW₁, X', ⟨g', mk, t, L, E, ce, e1, e2, hq, hce, hcv, hcl, h1, hL, h2, h3⟩, st⟩
  · dsimp only [Pt.U, Pt.locs, Pt.cells, Pt.slots] at X' e1 e2 h1 h2 h3 st
    subst h1; subst h2; subst h3
    exact Or.inl ⟨v, (T.setVm vm₁).calling g' mk (Value.ref b :: As).toArray, t, U', L, hT, X', hL, e1, e2, hq, st⟩
  · dsimp only [Pt.U, Pt.locs, Pt.cells, Pt.slots] at X' e1 e2 h1 h2 h3 st hcl
    subst h1; subst h2; subst h3
    exact Or.inr ⟨q, (T.setVm vm₁).calling g' mk (Value.ref b :: As).toArray, t, U', L, E, ce, hT, X', hL, e1, e2, hq, hce, hcv, vx_cls hW₁ hcl, st⟩
theorem vx_runSX {hh : List (Nat × Nat × Nat × Nat)} (S : CallFix p m c cc nL s args Ts own) (hM : vx_Met l y ws rm Pc Qc XC mc ms free) (cw : vx_CSW R s args own index y bytes maxL ret hh ws rm mc ms n) (hp : PreS s H Pc As)
    (hg : g.method = m) (hn : As.length = n) (hsize : g.locals.size = nL) (hstack : g.stack = As.reverse ++ rest) (hW : 2 * g.monitorRoom + (rest.map fun v => v.category).sum ≤ 8) (hdg : decode cc g.pc = .ok (.invokestatic index, 3)) (hf : cells + mc ≤ R.cells ∧ slots + ms ≤ R.slots) :
    vx_Run p l e R s m args below meth c H locs cells slots mc ms g rest (Qc As.toArray) XC free := by
  obtain ⟨⟨hrc, hrs, hfr, hlo, hws, hcw⟩, hcode, hini, hy, hlen, hl, hstt⟩ := cw
  have hK : vx_Back l R p e below s args y 3 8 (PreOf R mc ms Pc) (PostOf Qc mc ms free) (vx_Post XC mc ms free) := vx_backW (hh := hh) (bytes := bytes) (maxL := maxL) (ret := ret) hM hp.1 hrc hrs hfr hlo hws hcw (fun a' U hW => word_at hW (Or.inl (by first | rfl | simp [Cond.onTables, Cond.keeps, Cond.steady])) hini)
  obtain ⟨hx, hb, hml, ho, -⟩ := S
  intro T hT X
  rcases vx_callSX X hx (hh := hh) (bytes := bytes) (maxL := maxL) (ret := ret) ho hl hstt hini hcode hy hK hg (hsize.trans hml.symm) (argsL := As) (rest := rest) (fun sig h => hn.trans (hlen sig h)) hstack hW (by rw [hb]; exact hdg)
    (fun vm₁ hW₁ => ⟨hf.1, hf.2, hp.2 (T.setVm vm₁) hT hW₁⟩) with ⟨v, vm₁, ⟨U', l2, c2, s2⟩, hW₁, X', ⟨g', mk, t, L, e1, e2, hq, h1, hL, h2, h3⟩, st⟩ | ⟨q, vm₁, ⟨U', l2, c2, s2⟩, hW₁, X', ⟨g', mk, t, L, E, ce, e1, e2, hq, hce, hcv, hcl, h1, hL, h2, h3⟩, st⟩
  · dsimp only [Pt.U, Pt.locs, Pt.cells, Pt.slots] at X' e1 e2 h1 h2 h3 st
    subst h1; subst h2; subst h3
    exact Or.inl ⟨v, (T.setVm vm₁).calling g' mk As.toArray, t, U', L, hT, X', hL, e1, e2, hq, st⟩
  · dsimp only [Pt.U, Pt.locs, Pt.cells, Pt.slots] at X' e1 e2 h1 h2 h3 st hcl
    subst h1; subst h2; subst h3
    exact Or.inr ⟨q, (T.setVm vm₁).calling g' mk As.toArray, t, U', L, E, ce, hT, X', hL, e1, e2, hq, hce, hcv, vx_cls hW₁ hcl, st⟩
end
end VXH
theorem vx_ofWH {l : Launch} {y : MethodName} {ws ws' : List Cond} {rm : Room} {Pc : Array Value → State → Prop} {Qc : Array Value → State → Outcome → State → Prop} {XC : String → State → State → Prop} {mc ms : Nat} {free : Addr → Prop} {cc : ByteArray} {maxL : Nat} {ret : Option FieldType} {hh : List (Nat × Nat × Nat × Nat)}
    (hy : plainName y.cls = true) (hw : ws = Cond.codeWith y cc maxL ret hh :: ws')
    (body : ∀ p e s m args below meth c s₁, BodyLoose p l y (headSpec ws rm) cc maxL ret e s m args below meth c s₁ → c.maxLocals = maxL → Pc args s →
      W p l e (headSpec ws rm).room s m args below meth c s.heap [] 0 0 (vx_MQ below Qc XC args s mc ms free) (entryFrame m args maxL)) : vx_Met l y ws rm Pc Qc XC mc ms free := by
  refine MetFree.of_bodyS (code := cc) (maxLocals := maxL) (ret := ret) hy ?_ ?_
  · intro args s m h hn
    obtain ⟨m9, meth, c, hn9, h1, h2, h3, h4, -, h5, h6, -⟩ := Cond.codeWith_spec (atoms_spec (ws := ws) h _ (by rw [hw]; exact List.mem_cons_self))
    cases hn.symm.trans hn9
    exact ⟨meth, c, h1, h2, h3, h4, h5, h6⟩
  · intro p e s m args below meth c s₁ B hml hP _
    have hh0 : s₁.heap = s.heap := by rw [B.state]; rfl
    obtain ⟨t, a1, o, b1, b2, b3⟩ := body p e s m args below meth c s₁ B hml hP s₁ hh0 (Stand.of_body B)
    exact ⟨t, o, a1, b1, b2, b3⟩
/-! ===== END ===== -/

/-! ===== BEGIN printed: names, fields, word lists, decode rows ===== -/
def RX0 : String := "SentenceGym$CountChart"
def TX0 : u_T := fun k => match k with
  | _ => ("SentenceGym$CountChart", "counts", "[[I", true)
def tyX0 : Nat → FieldType := fun k => match k with
  | _ => .array (.array .int)
abbrev wsX00 : List Cond := u_ws RX0 TX0 1
theorem nmX0 : ∀ a, a < 1 → ∀ b, b < 1 → a ≠ b → (TX0 a).2.1 ≠ (TX0 b).2.1 := by decide +kernel
theorem tyX0_ok : ∀ k, k < 1 → parseFieldDescriptor (TX0 k).2.2.1 = some (tyX0 k) := by decide +kernel
abbrev cX0_init : ByteArray := prog_2_method_1_code
def yX0_init : MethodName := ⟨RX0, "<init>", "()V"⟩
abbrev cX0_countSpan : ByteArray := prog_2_method_2_code
def yX0_countSpan : MethodName := ⟨RX0, "countSpan", "(III)I"⟩
abbrev cX0_fill : ByteArray := prog_2_method_3_code
def yX0_fill : MethodName := ⟨RX0, "fill", "(LSentenceGym$Grammar;[II)V"⟩
abbrev cX0_fillSpan : ByteArray := prog_2_method_4_code
def yX0_fillSpan : MethodName := ⟨RX0, "fillSpan", "(LSentenceGym$Grammar;[III)V"⟩
def RX1 : String := "SentenceGym$Grammar"
def TX1 : u_T := fun k => match k with
  | 0 => ("SentenceGym$Grammar", "words", "I", false)
  | 1 => ("SentenceGym$Grammar", "wordCategory", "[I", true)
  | 2 => ("SentenceGym$Grammar", "wordPair", "[I", true)
  | 3 => ("SentenceGym$Grammar", "rules", "I", false)
  | 4 => ("SentenceGym$Grammar", "made", "[I", true)
  | 5 => ("SentenceGym$Grammar", "first", "[I", true)
  | 6 => ("SentenceGym$Grammar", "second", "[I", true)
  | _ => ("SentenceGym$Grammar", "pairMade", "[[I", true)
def tyX1 : Nat → FieldType := fun k => match k with
  | 0 => .int
  | 1 => .array .int
  | 2 => .array .int
  | 3 => .int
  | 4 => .array .int
  | 5 => .array .int
  | 6 => .array .int
  | _ => .array (.array .int)
abbrev wsX10 : List Cond := u_ws RX1 TX1 8
theorem nmX1 : ∀ a, a < 8 → ∀ b, b < 8 → a ≠ b → (TX1 a).2.1 ≠ (TX1 b).2.1 := by decide +kernel
theorem tyX1_ok : ∀ k, k < 8 → parseFieldDescriptor (TX1 k).2.2.1 = some (tyX1 k) := by decide +kernel
abbrev cX1_init : ByteArray := prog_3_method_1_code
def yX1_init : MethodName := ⟨RX1, "<init>", "()V"⟩
abbrev cX1_defineWord : ByteArray := prog_3_method_2_code
def yX1_defineWord : MethodName := ⟨RX1, "defineWord", "(III)V"⟩
abbrev cX1_defineRule : ByteArray := prog_3_method_3_code
def yX1_defineRule : MethodName := ⟨RX1, "defineRule", "(IIIII)V"⟩
abbrev cX1_joinedPair : ByteArray := prog_3_method_4_code
def yX1_joinedPair : MethodName := ⟨RX1, "joinedPair", "(III)I"⟩
abbrev cX1_joinedValue : ByteArray := prog_3_method_5_code
def yX1_joinedValue : MethodName := ⟨RX1, "joinedValue", "(III)I"⟩
abbrev cX1_pairsMade : ByteArray := prog_3_method_6_code
def yX1_pairsMade : MethodName := ⟨RX1, "pairsMade", "(III)I"⟩
abbrev cX1_countWord : ByteArray := prog_3_method_7_code
def yX1_countWord : MethodName := ⟨RX1, "countWord", "(I[I)V"⟩
abbrev cX1_addJoined : ByteArray := prog_3_method_8_code
def yX1_addJoined : MethodName := ⟨RX1, "addJoined", "([I[I[I)V"⟩
abbrev cX1_addJoinedWith : ByteArray := prog_3_method_9_code
def yX1_addJoinedWith : MethodName := ⟨RX1, "addJoinedWith", "(III[I[I)V"⟩
def RX2 : String := "SentenceGym$PartSets"
def TX2 : u_T := fun k => match k with
  | _ => ("SentenceGym$PartSets", "pairs", "[I", true)
def tyX2 : Nat → FieldType := fun k => match k with
  | _ => .array .int
abbrev wsX20 : List Cond := u_ws RX2 TX2 1
theorem nmX2 : ∀ a, a < 1 → ∀ b, b < 1 → a ≠ b → (TX2 a).2.1 ≠ (TX2 b).2.1 := by decide +kernel
theorem tyX2_ok : ∀ k, k < 1 → parseFieldDescriptor (TX2 k).2.2.1 = some (tyX2 k) := by decide +kernel
abbrev cX2_init : ByteArray := prog_4_method_1_code
def yX2_init : MethodName := ⟨RX2, "<init>", "()V"⟩
abbrev cX2_pairsOf : ByteArray := prog_4_method_2_code
def yX2_pairsOf : MethodName := ⟨RX2, "pairsOf", "(III)I"⟩
abbrev cX2_holdsSentence : ByteArray := prog_4_method_3_code
def yX2_holdsSentence : MethodName := ⟨RX2, "holdsSentence", "(I)Z"⟩
abbrev cX2_parse : ByteArray := prog_4_method_4_code
def yX2_parse : MethodName := ⟨RX2, "parse", "(LSentenceGym$Grammar;[III)V"⟩
abbrev cX2_putWord : ByteArray := prog_4_method_5_code
def yX2_putWord : MethodName := ⟨RX2, "putWord", "(LSentenceGym$Grammar;II)V"⟩
abbrev cX2_putAnyWord : ByteArray := prog_4_method_6_code
def yX2_putAnyWord : MethodName := ⟨RX2, "putAnyWord", "(LSentenceGym$Grammar;I)V"⟩
abbrev cX2_allowWord : ByteArray := prog_4_method_7_code
def yX2_allowWord : MethodName := ⟨RX2, "allowWord", "(LSentenceGym$Grammar;II)V"⟩
abbrev cX2_clearSpan : ByteArray := prog_4_method_8_code
def yX2_clearSpan : MethodName := ⟨RX2, "clearSpan", "(II)V"⟩
abbrev cX2_joinUpTo : ByteArray := prog_4_method_9_code
def yX2_joinUpTo : MethodName := ⟨RX2, "joinUpTo", "(LSentenceGym$Grammar;II)V"⟩
abbrev cX2_join : ByteArray := prog_4_method_10_code
def yX2_join : MethodName := ⟨RX2, "join", "(LSentenceGym$Grammar;IIII)V"⟩
def RX3 : String := "SentenceGym$PlainCounter"
def TX3 : u_T := fun k => match k with
  | _ => ("SentenceGym$PlainCounter", "counts", "[[I", true)
def tyX3 : Nat → FieldType := fun k => match k with
  | _ => .array (.array .int)
abbrev wsX30 : List Cond := u_ws RX3 TX3 1
theorem nmX3 : ∀ a, a < 1 → ∀ b, b < 1 → a ≠ b → (TX3 a).2.1 ≠ (TX3 b).2.1 := by decide +kernel
theorem tyX3_ok : ∀ k, k < 1 → parseFieldDescriptor (TX3 k).2.2.1 = some (tyX3 k) := by decide +kernel
abbrev cX3_init : ByteArray := prog_5_method_1_code
def yX3_init : MethodName := ⟨RX3, "<init>", "()V"⟩
abbrev cX3_countRow : ByteArray := prog_5_method_2_code
def yX3_countRow : MethodName := ⟨RX3, "countRow", "(LSentenceGym$Grammar;[III)I"⟩
abbrev cX3_count : ByteArray := prog_5_method_3_code
def yX3_count : MethodName := ⟨RX3, "count", "(LSentenceGym$Grammar;[[I[IIIII)V"⟩
def RX4 : String := "SentenceGym"
def TX4 : u_T := fun k => match k with
  | 0 => ("SentenceGym", "grammar", "LSentenceGym$Grammar;", true)
  | 1 => ("SentenceGym", "row", "[I", true)
  | 2 => ("SentenceGym", "rowLength", "I", false)
  | 3 => ("SentenceGym", "trial", "[I", true)
  | 4 => ("SentenceGym", "partSets", "LSentenceGym$PartSets;", true)
  | 5 => ("SentenceGym", "countChart", "LSentenceGym$CountChart;", true)
  | _ => ("SentenceGym", "plainCounter", "LSentenceGym$PlainCounter;", true)
def tyX4 : Nat → FieldType := fun k => match k with
  | 0 => .object "SentenceGym$Grammar"
  | 1 => .array .int
  | 2 => .int
  | 3 => .array .int
  | 4 => .object "SentenceGym$PartSets"
  | 5 => .object "SentenceGym$CountChart"
  | _ => .object "SentenceGym$PlainCounter"
abbrev wsX40 : List Cond := u_ws RX4 TX4 7
theorem nmX4 : ∀ a, a < 7 → ∀ b, b < 7 → a ≠ b → (TX4 a).2.1 ≠ (TX4 b).2.1 := by decide +kernel
theorem tyX4_ok : ∀ k, k < 7 → parseFieldDescriptor (TX4 k).2.2.1 = some (tyX4 k) := by decide +kernel
abbrev cX4_init : ByteArray := prog_1_method_1_code
def yX4_init : MethodName := ⟨RX4, "<init>", "()V"⟩
abbrev cX4_addWord : ByteArray := prog_1_method_2_code
def yX4_addWord : MethodName := ⟨RX4, "addWord", "(III)I"⟩
abbrev cX4_setWord : ByteArray := prog_1_method_3_code
def yX4_setWord : MethodName := ⟨RX4, "setWord", "(IIII)I"⟩
abbrev cX4_addRule : ByteArray := prog_1_method_4_code
def yX4_addRule : MethodName := ⟨RX4, "addRule", "(IIII)I"⟩
abbrev cX4_dropRule : ByteArray := prog_1_method_5_code
def yX4_dropRule : MethodName := ⟨RX4, "dropRule", "()I"⟩
abbrev cX4_say : ByteArray := prog_1_method_6_code
def yX4_say : MethodName := ⟨RX4, "say", "(I)I"⟩
abbrev cX4_change : ByteArray := prog_1_method_7_code
def yX4_change : MethodName := ⟨RX4, "change", "(II)I"⟩
abbrev cX4_hush : ByteArray := prog_1_method_8_code
def yX4_hush : MethodName := ⟨RX4, "hush", "()I"⟩
abbrev cX4_said : ByteArray := prog_1_method_9_code
def yX4_said : MethodName := ⟨RX4, "said", "()I"⟩
abbrev cX4_wordAt : ByteArray := prog_1_method_10_code
def yX4_wordAt : MethodName := ⟨RX4, "wordAt", "(I)I"⟩
abbrev cX4_readings : ByteArray := prog_1_method_11_code
def yX4_readings : MethodName := ⟨RX4, "readings", "()I"⟩
abbrev cX4_readingsPlainly : ByteArray := prog_1_method_12_code
def yX4_readingsPlainly : MethodName := ⟨RX4, "readingsPlainly", "()I"⟩
abbrev cX4_readingsOf : ByteArray := prog_1_method_13_code
def yX4_readingsOf : MethodName := ⟨RX4, "readingsOf", "(III)I"⟩
abbrev cX4_has : ByteArray := prog_1_method_14_code
def yX4_has : MethodName := ⟨RX4, "has", "(IIII)Z"⟩
abbrev cX4_level : ByteArray := prog_1_method_15_code
def yX4_level : MethodName := ⟨RX4, "level", "()I"⟩
abbrev cX4_sentences : ByteArray := prog_1_method_16_code
def yX4_sentences : MethodName := ⟨RX4, "sentences", "(I)I"⟩
abbrev cX4_sentence : ByteArray := prog_1_method_17_code
def yX4_sentence : MethodName := ⟨RX4, "sentence", "(II)I"⟩
abbrev cX4_share : ByteArray := prog_1_method_18_code
def yX4_share : MethodName := ⟨RX4, "share", "(I)F"⟩
abbrev cX4_spoil : ByteArray := prog_1_method_19_code
def yX4_spoil : MethodName := ⟨RX4, "spoil", "(I)I"⟩
abbrev cX4_changes : ByteArray := prog_1_method_20_code
def yX4_changes : MethodName := ⟨RX4, "changes", "()I"⟩
abbrev cX4_correction : ByteArray := prog_1_method_21_code
def yX4_correction : MethodName := ⟨RX4, "correction", "(I)I"⟩
abbrev cX4_isOutside : ByteArray := prog_1_method_22_code
def yX4_isOutside : MethodName := ⟨RX4, "isOutside", "(II)Z"⟩
abbrev cX4_isNoKind : ByteArray := prog_1_method_23_code
def yX4_isNoKind : MethodName := ⟨RX4, "isNoKind", "(III)Z"⟩
abbrev cX4_isNoDigitPair : ByteArray := prog_1_method_24_code
def yX4_isNoDigitPair : MethodName := ⟨RX4, "isNoDigitPair", "(I)Z"⟩
abbrev cX4_isNoLength : ByteArray := prog_1_method_25_code
def yX4_isNoLength : MethodName := ⟨RX4, "isNoLength", "(I)Z"⟩
abbrev cX4_isNoSpan : ByteArray := prog_1_method_26_code
def yX4_isNoSpan : MethodName := ⟨RX4, "isNoSpan", "(II)Z"⟩
abbrev cX4_pairOf : ByteArray := prog_1_method_27_code
def yX4_pairOf : MethodName := ⟨RX4, "pairOf", "(II)I"⟩
abbrev cX4_hasPair : ByteArray := prog_1_method_28_code
def yX4_hasPair : MethodName := ⟨RX4, "hasPair", "(II)Z"⟩
abbrev cX4_spanOf : ByteArray := prog_1_method_29_code
def yX4_spanOf : MethodName := ⟨RX4, "spanOf", "(II)I"⟩
abbrev cX4_told : ByteArray := prog_1_method_30_code
def yX4_told : MethodName := ⟨RX4, "told", "(I)I"⟩
abbrev cX4_countOf : ByteArray := prog_1_method_31_code
def yX4_countOf : MethodName := ⟨RX4, "countOf", "([II)I"⟩
abbrev cX4_countReadings : ByteArray := prog_1_method_32_code
def yX4_countReadings : MethodName := ⟨RX4, "countReadings", "(III)I"⟩
abbrev cX4_isSentenceWith : ByteArray := prog_1_method_33_code
def yX4_isSentenceWith : MethodName := ⟨RX4, "isSentenceWith", "(II)Z"⟩
abbrev cX4_isSentenceFreeAt : ByteArray := prog_1_method_34_code
def yX4_isSentenceFreeAt : MethodName := ⟨RX4, "isSentenceFreeAt", "(II)Z"⟩
abbrev cX4_rowsOfLength : ByteArray := prog_1_method_35_code
def yX4_rowsOfLength : MethodName := ⟨RX4, "rowsOfLength", "(I)I"⟩
abbrev cX4_makeSentences : ByteArray := prog_1_method_36_code
def yX4_makeSentences : MethodName := ⟨RX4, "makeSentences", "(II)I"⟩
abbrev cX4_clearTrial : ByteArray := prog_1_method_37_code
def yX4_clearTrial : MethodName := ⟨RX4, "clearTrial", "()V"⟩
abbrev cX4_nextTrial : ByteArray := prog_1_method_38_code
def yX4_nextTrial : MethodName := ⟨RX4, "nextTrial", "(I)I"⟩
abbrev cX4_trialAsDigits : ByteArray := prog_1_method_39_code
def yX4_trialAsDigits : MethodName := ⟨RX4, "trialAsDigits", "(I)I"⟩
def RX5 : String := "SentenceGymModel"
def TX5 : u_T := fun k => match k with
  | _ => ("", "", "", false)
def tyX5 : Nat → FieldType := fun k => match k with
  | _ => .int
abbrev wsX50 : List Cond := u_ws RX5 TX5 0
theorem nmX5 : ∀ a, a < 0 → ∀ b, b < 0 → a ≠ b → (TX5 a).2.1 ≠ (TX5 b).2.1 := by decide +kernel
theorem tyX5_ok : ∀ k, k < 0 → parseFieldDescriptor (TX5 k).2.2.1 = some (tyX5 k) := by decide +kernel
def RJx145de : String := "java/io/Serializable"
def TJx145de : u_T := fun k => match k with
  | _ => ("", "", "", false)
def tyJx145de : Nat → FieldType := fun k => match k with
  | _ => .int
abbrev wsJx145de0 : List Cond := u_ws RJx145de TJx145de 0
theorem nmJx145de : ∀ a, a < 0 → ∀ b, b < 0 → a ≠ b → (TJx145de a).2.1 ≠ (TJx145de b).2.1 := by decide +kernel
theorem tyJx145de_ok : ∀ k, k < 0 → parseFieldDescriptor (TJx145de k).2.2.1 = some (tyJx145de k) := by decide +kernel
def RJ0 : String := "java/lang/String"
def TJ0 : u_T := fun k => match k with
  | _ => ("", "", "", false)
def tyJ0 : Nat → FieldType := fun k => match k with
  | _ => .int
abbrev wsJ00 : List Cond := u_ws RJ0 TJ0 0
theorem nmJ0 : ∀ a, a < 0 → ∀ b, b < 0 → a ≠ b → (TJ0 a).2.1 ≠ (TJ0 b).2.1 := by decide +kernel
theorem tyJ0_ok : ∀ k, k < 0 → parseFieldDescriptor (TJ0 k).2.2.1 = some (tyJ0 k) := by decide +kernel
def RJ10 : String := "java/lang/System"
def TJ10 : u_T := fun k => match k with
  | _ => ("", "", "", false)
def tyJ10 : Nat → FieldType := fun k => match k with
  | _ => .int
abbrev wsJ100 : List Cond := u_ws RJ10 TJ10 0
theorem nmJ10 : ∀ a, a < 0 → ∀ b, b < 0 → a ≠ b → (TJ10 a).2.1 ≠ (TJ10 b).2.1 := by decide +kernel
theorem tyJ10_ok : ∀ k, k < 0 → parseFieldDescriptor (TJ10 k).2.2.1 = some (tyJ10 k) := by decide +kernel
def RJ7 : String := "java/util/Arrays"
def TJ7 : u_T := fun k => match k with
  | _ => ("", "", "", false)
def tyJ7 : Nat → FieldType := fun k => match k with
  | _ => .int
abbrev wsJ70 : List Cond := u_ws RJ7 TJ7 0
theorem nmJ7 : ∀ a, a < 0 → ∀ b, b < 0 → a ≠ b → (TJ7 a).2.1 ≠ (TJ7 b).2.1 := by decide +kernel
theorem tyJ7_ok : ∀ k, k < 0 → parseFieldDescriptor (TJ7 k).2.2.1 = some (tyJ7 k) := by decide +kernel
abbrev cJ7_fill_53178 : ByteArray := prog_16_method_103_code
def yJ7_fill_53178 : MethodName := ⟨RJ7, "fill", "([II)V"⟩
def RL : String := "SentenceGymLaw"
abbrev cL_cell : ByteArray := method_2_code
def yL_cell : MethodName := ⟨RL, "cell", "([II)I"⟩
abbrev cL_word : ByteArray := method_3_code
def yL_word : MethodName := ⟨RL, "word", "(LSentenceGym;III)I"⟩
abbrev cL_setWord : ByteArray := method_4_code
def yL_setWord : MethodName := ⟨RL, "setWord", "(LSentenceGym;IIII)I"⟩
abbrev cL_rule : ByteArray := method_5_code
def yL_rule : MethodName := ⟨RL, "rule", "(LSentenceGym;IIII)I"⟩
abbrev cL_drop : ByteArray := method_6_code
def yL_drop : MethodName := ⟨RL, "drop", "(LSentenceGym;)I"⟩
abbrev cL_say : ByteArray := method_7_code
def yL_say : MethodName := ⟨RL, "say", "(LSentenceGym;I)I"⟩
abbrev cL_change : ByteArray := method_8_code
def yL_change : MethodName := ⟨RL, "change", "(LSentenceGym;II)I"⟩
abbrev cL_at : ByteArray := method_9_code
def yL_at : MethodName := ⟨RL, "at", "(LSentenceGym;I)I"⟩
abbrev cL_count : ByteArray := method_10_code
def yL_count : MethodName := ⟨RL, "count", "(LSentenceGym;III)I"⟩
abbrev cL_has : ByteArray := method_11_code
def yL_has : MethodName := ⟨RL, "has", "(LSentenceGym;IIII)I"⟩
abbrev cL_sentences : ByteArray := method_12_code
def yL_sentences : MethodName := ⟨RL, "sentences", "(LSentenceGym;I)I"⟩
abbrev cL_sentence : ByteArray := method_13_code
def yL_sentence : MethodName := ⟨RL, "sentence", "(LSentenceGym;II)I"⟩
abbrev cL_share : ByteArray := method_14_code
def yL_share : MethodName := ⟨RL, "share", "(LSentenceGym;I)F"⟩
abbrev cL_spoil : ByteArray := method_15_code
def yL_spoil : MethodName := ⟨RL, "spoil", "(LSentenceGym;I)I"⟩
abbrev cL_correction : ByteArray := method_16_code
def yL_correction : MethodName := ⟨RL, "correction", "(LSentenceGym;I)I"⟩
abbrev cL_reads : ByteArray := method_17_code
def yL_reads : MethodName := ⟨RL, "reads", "(LSentenceGym;I)Z"⟩
abbrev cL_corrects : ByteArray := method_18_code
def yL_corrects : MethodName := ⟨RL, "corrects", "(LSentenceGym;I)Z"⟩
abbrev cL_law : ByteArray := code
def yL_law : MethodName := ⟨RL, "law", "([I)Z"⟩
def wsX0_init : List Cond := .code yX0_init cX0_init 1 none :: ([.methodLink RX0 3 objectInit, .instanceMethod objectInit, .code objectInit ⟨#[0xb1]⟩ 1 none, .classLink RX0 9 "[[I", .arrayClass .int, .fieldLink RX0 11 "SentenceGym$CountChart" "counts" "[[I"] ++ wsX00)
def wsX4_spanOf : List Cond := .code yX4_spanOf cX4_spanOf 2 (some .int) :: ([])
def wsX4_countOf : List Cond := .code yX4_countOf cX4_countOf 4 (some .int) :: ([])
def wsX0_countSpan : List Cond := .code yX0_countSpan cX0_countSpan 4 (some .int) :: ([.fieldLink RX0 11 "SentenceGym$CountChart" "counts" "[[I", .static yX4_spanOf, .initialized RX4, .code yX4_spanOf cX4_spanOf 2 (some .int), .static yX4_countOf, .code yX4_countOf cX4_countOf 4 (some .int)] ++ wsX00)
def wsJ7_fill_53178 : List Cond := .code yJ7_fill_53178 cJ7_fill_53178 4 none :: ([])
def wsX1_countWord : List Cond := .code yX1_countWord cX1_countWord 3 none :: ([.fieldLink RX1 15 "SentenceGym$Grammar" "wordCategory" "[I", .fieldLink RX1 19 "SentenceGym$Grammar" "wordPair" "[I"] ++ wsX10)
def wsX1_addJoinedWith : List Cond := .code yX1_addJoinedWith cX1_addJoinedWith 9 none :: ([.fieldLink RX1 36 "SentenceGym$Grammar" "pairMade" "[[I", .fieldLink RX1 31 "SentenceGym$Grammar" "second" "[I", .fieldLink RX1 25 "SentenceGym$Grammar" "made" "[I"] ++ wsX10)
def wsX1_addJoined : List Cond := .code yX1_addJoined cX1_addJoined 7 none :: ([.fieldLink RX1 22 "SentenceGym$Grammar" "rules" "I", .fieldLink RX1 28 "SentenceGym$Grammar" "first" "[I", .methodLink RX1 54 yX1_addJoinedWith, .instanceMethod yX1_addJoinedWith, .selects RX1 yX1_addJoinedWith yX1_addJoinedWith, .initialized RX1, .code yX1_addJoinedWith cX1_addJoinedWith 9 none, .fieldLink RX1 36 "SentenceGym$Grammar" "pairMade" "[[I", .fieldLink RX1 31 "SentenceGym$Grammar" "second" "[I", .fieldLink RX1 25 "SentenceGym$Grammar" "made" "[I"] ++ wsX10)
def wsX0_fillSpan_r1 : List Cond := [Cond.fieldLink RX0 11 "SentenceGym$CountChart" "counts" "[[I", Cond.static yX4_spanOf, Cond.initialized RX4, Cond.code yX4_spanOf cX4_spanOf 2 (some .int), Cond.methodLink RX0 28 yJ7_fill_53178, Cond.static yJ7_fill_53178, Cond.initialized RJ7, Cond.code yJ7_fill_53178 cJ7_fill_53178 4 none, Cond.instanceMethod yX1_countWord, Cond.initialized RX1, Cond.selects RX1 yX1_countWord yX1_countWord, Cond.code yX1_countWord cX1_countWord 3 none, Cond.fieldLink RX1 15 "SentenceGym$Grammar" "wordCategory" "[I", Cond.fieldLink RX1 19 "SentenceGym$Grammar" "wordPair" "[I", Cond.instanceMethod yX1_addJoined, Cond.selects RX1 yX1_addJoined yX1_addJoined, Cond.code yX1_addJoined cX1_addJoined 7 none, Cond.fieldLink RX1 22 "SentenceGym$Grammar" "rules" "I", Cond.fieldLink RX1 28 "SentenceGym$Grammar" "first" "[I", Cond.methodLink RX1 54 yX1_addJoinedWith, Cond.instanceMethod yX1_addJoinedWith, Cond.selects RX1 yX1_addJoinedWith yX1_addJoinedWith, Cond.code yX1_addJoinedWith cX1_addJoinedWith 9 none, Cond.fieldLink RX1 36 "SentenceGym$Grammar" "pairMade" "[[I"]
def wsX0_fillSpan_r2 : List Cond := [Cond.fieldLink RX1 31 "SentenceGym$Grammar" "second" "[I", Cond.fieldLink RX1 25 "SentenceGym$Grammar" "made" "[I"]
def wsX0_fillSpan : List Cond := .code yX0_fillSpan cX0_fillSpan 9 none :: ((wsX0_fillSpan_r1 ++ wsX0_fillSpan_r2) ++ wsX00 ++ wsX10)
def wsX0_fill_r1 : List Cond := [Cond.methodLink RX0 24 yX0_fillSpan, Cond.instanceMethod yX0_fillSpan, Cond.selects RX0 yX0_fillSpan yX0_fillSpan, Cond.initialized RX0, Cond.code yX0_fillSpan cX0_fillSpan 9 none, Cond.fieldLink RX0 11 "SentenceGym$CountChart" "counts" "[[I", Cond.static yX4_spanOf, Cond.initialized RX4, Cond.code yX4_spanOf cX4_spanOf 2 (some .int), Cond.methodLink RX0 28 yJ7_fill_53178, Cond.static yJ7_fill_53178, Cond.initialized RJ7, Cond.code yJ7_fill_53178 cJ7_fill_53178 4 none, Cond.instanceMethod yX1_countWord, Cond.initialized RX1, Cond.selects RX1 yX1_countWord yX1_countWord, Cond.code yX1_countWord cX1_countWord 3 none, Cond.fieldLink RX1 15 "SentenceGym$Grammar" "wordCategory" "[I", Cond.fieldLink RX1 19 "SentenceGym$Grammar" "wordPair" "[I", Cond.instanceMethod yX1_addJoined, Cond.selects RX1 yX1_addJoined yX1_addJoined, Cond.code yX1_addJoined cX1_addJoined 7 none, Cond.fieldLink RX1 22 "SentenceGym$Grammar" "rules" "I", Cond.fieldLink RX1 28 "SentenceGym$Grammar" "first" "[I"]
def wsX0_fill_r2 : List Cond := [Cond.methodLink RX1 54 yX1_addJoinedWith, Cond.instanceMethod yX1_addJoinedWith, Cond.selects RX1 yX1_addJoinedWith yX1_addJoinedWith, Cond.code yX1_addJoinedWith cX1_addJoinedWith 9 none, Cond.fieldLink RX1 36 "SentenceGym$Grammar" "pairMade" "[[I", Cond.fieldLink RX1 31 "SentenceGym$Grammar" "second" "[I", Cond.fieldLink RX1 25 "SentenceGym$Grammar" "made" "[I"]
def wsX0_fill : List Cond := .code yX0_fill cX0_fill 6 none :: ((wsX0_fill_r1 ++ wsX0_fill_r2) ++ wsX00 ++ wsX10)
def wsX1_init : List Cond := .code yX1_init cX1_init 1 none :: ([.methodLink RX1 3 objectInit, .instanceMethod objectInit, .code objectInit ⟨#[0xb1]⟩ 1 none, .fieldLink RX1 9 "SentenceGym$Grammar" "words" "I", .arrayClass .int, .fieldLink RX1 15 "SentenceGym$Grammar" "wordCategory" "[I", .fieldLink RX1 19 "SentenceGym$Grammar" "wordPair" "[I", .fieldLink RX1 22 "SentenceGym$Grammar" "rules" "I", .fieldLink RX1 25 "SentenceGym$Grammar" "made" "[I", .fieldLink RX1 28 "SentenceGym$Grammar" "first" "[I", .fieldLink RX1 31 "SentenceGym$Grammar" "second" "[I", .classLink RX1 34 "[[I", .fieldLink RX1 36 "SentenceGym$Grammar" "pairMade" "[[I"] ++ wsX10)
def wsX1_defineWord : List Cond := .code yX1_defineWord cX1_defineWord 4 none :: ([.fieldLink RX1 15 "SentenceGym$Grammar" "wordCategory" "[I", .fieldLink RX1 19 "SentenceGym$Grammar" "wordPair" "[I"] ++ wsX10)
def wsX1_joinedValue : List Cond := .code yX1_joinedValue cX1_joinedValue 3 (some .int) :: ([])
def wsX4_pairOf : List Cond := .code yX4_pairOf cX4_pairOf 2 (some .int) :: ([])
def wsX1_joinedPair : List Cond := .code yX1_joinedPair cX1_joinedPair 5 (some .int) :: ([.methodLink RX1 43 yX1_joinedValue, .static yX1_joinedValue, .initialized RX1, .code yX1_joinedValue cX1_joinedValue 3 (some .int), .static yX4_pairOf, .initialized RX4, .code yX4_pairOf cX4_pairOf 2 (some .int)])
def wsX1_defineRule : List Cond := .code yX1_defineRule cX1_defineRule 7 none :: ([.fieldLink RX1 25 "SentenceGym$Grammar" "made" "[I", .fieldLink RX1 28 "SentenceGym$Grammar" "first" "[I", .fieldLink RX1 31 "SentenceGym$Grammar" "second" "[I", .fieldLink RX1 36 "SentenceGym$Grammar" "pairMade" "[[I", .methodLink RX1 39 yX1_joinedPair, .static yX1_joinedPair, .initialized RX1, .code yX1_joinedPair cX1_joinedPair 5 (some .int), .methodLink RX1 43 yX1_joinedValue, .static yX1_joinedValue, .code yX1_joinedValue cX1_joinedValue 3 (some .int), .static yX4_pairOf, .initialized RX4, .code yX4_pairOf cX4_pairOf 2 (some .int)] ++ wsX10)
def wsX4_hasPair : List Cond := .code yX4_hasPair cX4_hasPair 2 (some .boolean) :: ([])
def wsX1_pairsMade : List Cond := .code yX1_pairsMade cX1_pairsMade 8 (some .int) :: ([.fieldLink RX1 36 "SentenceGym$Grammar" "pairMade" "[[I", .static yX4_hasPair, .initialized RX4, .code yX4_hasPair cX4_hasPair 2 (some .boolean)] ++ wsX10)
def wsX2_init : List Cond := .code yX2_init cX2_init 1 none :: ([.methodLink RX2 3 objectInit, .instanceMethod objectInit, .code objectInit ⟨#[0xb1]⟩ 1 none, .arrayClass .int, .fieldLink RX2 9 "SentenceGym$PartSets" "pairs" "[I"] ++ wsX20)
def wsX2_pairsOf : List Cond := .code yX2_pairsOf cX2_pairsOf 4 (some .int) :: ([.fieldLink RX2 9 "SentenceGym$PartSets" "pairs" "[I", .static yX4_spanOf, .initialized RX4, .code yX4_spanOf cX4_spanOf 2 (some .int)] ++ wsX20)
def wsX2_holdsSentence : List Cond := .code yX2_holdsSentence cX2_holdsSentence 2 (some .boolean) :: ([.methodLink RX2 19 yX2_pairsOf, .instanceMethod yX2_pairsOf, .selects RX2 yX2_pairsOf yX2_pairsOf, .initialized RX2, .code yX2_pairsOf cX2_pairsOf 4 (some .int), .fieldLink RX2 9 "SentenceGym$PartSets" "pairs" "[I", .static yX4_spanOf, .initialized RX4, .code yX4_spanOf cX4_spanOf 2 (some .int)] ++ wsX20)
def wsX2_clearSpan : List Cond := .code yX2_clearSpan cX2_clearSpan 5 none :: ([.fieldLink RX2 9 "SentenceGym$PartSets" "pairs" "[I", .static yX4_spanOf, .initialized RX4, .code yX4_spanOf cX4_spanOf 2 (some .int)] ++ wsX20)
def wsX2_allowWord : List Cond := .code yX2_allowWord cX2_allowWord 5 none :: ([.fieldLink RX2 9 "SentenceGym$PartSets" "pairs" "[I", .static yX4_spanOf, .initialized RX4, .code yX4_spanOf cX4_spanOf 2 (some .int)] ++ wsX20 ++ wsX10)
def wsX2_putWord : List Cond := .code yX2_putWord cX2_putWord 4 none :: ([.methodLink RX2 30 yX2_clearSpan, .instanceMethod yX2_clearSpan, .selects RX2 yX2_clearSpan yX2_clearSpan, .initialized RX2, .code yX2_clearSpan cX2_clearSpan 5 none, .fieldLink RX2 9 "SentenceGym$PartSets" "pairs" "[I", .static yX4_spanOf, .initialized RX4, .code yX4_spanOf cX4_spanOf 2 (some .int), .methodLink RX2 34 yX2_allowWord, .instanceMethod yX2_allowWord, .selects RX2 yX2_allowWord yX2_allowWord, .code yX2_allowWord cX2_allowWord 5 none] ++ wsX20 ++ wsX10)
def wsX2_join : List Cond := .code yX2_join cX2_join 10 none :: ([.fieldLink RX2 9 "SentenceGym$PartSets" "pairs" "[I", .instanceMethod yX1_pairsMade, .initialized RX1, .selects RX1 yX1_pairsMade yX1_pairsMade, .code yX1_pairsMade cX1_pairsMade 8 (some .int), .fieldLink RX1 36 "SentenceGym$Grammar" "pairMade" "[[I", .static yX4_hasPair, .initialized RX4, .code yX4_hasPair cX4_hasPair 2 (some .boolean)] ++ wsX20 ++ wsX10)
def wsX2_joinUpTo : List Cond := .code yX2_joinUpTo cX2_joinUpTo 9 none :: ([.methodLink RX2 30 yX2_clearSpan, .instanceMethod yX2_clearSpan, .selects RX2 yX2_clearSpan yX2_clearSpan, .initialized RX2, .code yX2_clearSpan cX2_clearSpan 5 none, .fieldLink RX2 9 "SentenceGym$PartSets" "pairs" "[I", .static yX4_spanOf, .initialized RX4, .code yX4_spanOf cX4_spanOf 2 (some .int), .methodLink RX2 49 yX2_join, .instanceMethod yX2_join, .selects RX2 yX2_join yX2_join, .code yX2_join cX2_join 10 none, .instanceMethod yX1_pairsMade, .initialized RX1, .selects RX1 yX1_pairsMade yX1_pairsMade, .code yX1_pairsMade cX1_pairsMade 8 (some .int), .fieldLink RX1 36 "SentenceGym$Grammar" "pairMade" "[[I", .static yX4_hasPair, .code yX4_hasPair cX4_hasPair 2 (some .boolean)] ++ wsX20 ++ wsX10)
def wsX2_parse_r1 : List Cond := [Cond.methodLink RX2 23 yX2_putWord, Cond.instanceMethod yX2_putWord, Cond.selects RX2 yX2_putWord yX2_putWord, Cond.initialized RX2, Cond.code yX2_putWord cX2_putWord 4 none, Cond.methodLink RX2 30 yX2_clearSpan, Cond.instanceMethod yX2_clearSpan, Cond.selects RX2 yX2_clearSpan yX2_clearSpan, Cond.code yX2_clearSpan cX2_clearSpan 5 none, Cond.fieldLink RX2 9 "SentenceGym$PartSets" "pairs" "[I", Cond.static yX4_spanOf, Cond.initialized RX4, Cond.code yX4_spanOf cX4_spanOf 2 (some .int), Cond.methodLink RX2 34 yX2_allowWord, Cond.instanceMethod yX2_allowWord, Cond.selects RX2 yX2_allowWord yX2_allowWord, Cond.code yX2_allowWord cX2_allowWord 5 none, Cond.methodLink RX2 27 yX2_joinUpTo, Cond.instanceMethod yX2_joinUpTo, Cond.selects RX2 yX2_joinUpTo yX2_joinUpTo, Cond.code yX2_joinUpTo cX2_joinUpTo 9 none, Cond.methodLink RX2 49 yX2_join, Cond.instanceMethod yX2_join, Cond.selects RX2 yX2_join yX2_join]
def wsX2_parse_r2 : List Cond := [Cond.code yX2_join cX2_join 10 none, Cond.instanceMethod yX1_pairsMade, Cond.initialized RX1, Cond.selects RX1 yX1_pairsMade yX1_pairsMade, Cond.code yX1_pairsMade cX1_pairsMade 8 (some .int), Cond.fieldLink RX1 36 "SentenceGym$Grammar" "pairMade" "[[I", Cond.static yX4_hasPair, Cond.code yX4_hasPair cX4_hasPair 2 (some .boolean)]
def wsX2_parse : List Cond := .code yX2_parse cX2_parse 6 none :: ((wsX2_parse_r1 ++ wsX2_parse_r2) ++ wsX20 ++ wsX10)
def wsX2_putAnyWord : List Cond := .code yX2_putAnyWord cX2_putAnyWord 4 none :: ([.methodLink RX2 30 yX2_clearSpan, .instanceMethod yX2_clearSpan, .selects RX2 yX2_clearSpan yX2_clearSpan, .initialized RX2, .code yX2_clearSpan cX2_clearSpan 5 none, .fieldLink RX2 9 "SentenceGym$PartSets" "pairs" "[I", .static yX4_spanOf, .initialized RX4, .code yX4_spanOf cX4_spanOf 2 (some .int), .methodLink RX2 34 yX2_allowWord, .instanceMethod yX2_allowWord, .selects RX2 yX2_allowWord yX2_allowWord, .code yX2_allowWord cX2_allowWord 5 none] ++ wsX10 ++ wsX20)
def wsX3_init : List Cond := .code yX3_init cX3_init 1 none :: ([.methodLink RX3 3 objectInit, .instanceMethod objectInit, .code objectInit ⟨#[0xb1]⟩ 1 none, .classLink RX3 9 "[[I", .arrayClass .int, .fieldLink RX3 11 "SentenceGym$PlainCounter" "counts" "[[I"] ++ wsX30)
def wsX3_count_r1 : List Cond := [Cond.methodLink RX3 24 yJ7_fill_53178, Cond.static yJ7_fill_53178, Cond.initialized RJ7, Cond.code yJ7_fill_53178 cJ7_fill_53178 4 none, Cond.instanceMethod yX1_countWord, Cond.initialized RX1, Cond.selects RX1 yX1_countWord yX1_countWord, Cond.code yX1_countWord cX1_countWord 3 none, Cond.fieldLink RX1 15 "SentenceGym$Grammar" "wordCategory" "[I", Cond.fieldLink RX1 19 "SentenceGym$Grammar" "wordPair" "[I", Cond.methodLink RX3 16 yX3_count, Cond.static yX3_count, Cond.initialized RX3, Cond.instanceMethod yX1_addJoined, Cond.selects RX1 yX1_addJoined yX1_addJoined, Cond.code yX1_addJoined cX1_addJoined 7 none, Cond.fieldLink RX1 22 "SentenceGym$Grammar" "rules" "I", Cond.fieldLink RX1 28 "SentenceGym$Grammar" "first" "[I", Cond.methodLink RX1 54 yX1_addJoinedWith, Cond.instanceMethod yX1_addJoinedWith, Cond.selects RX1 yX1_addJoinedWith yX1_addJoinedWith, Cond.code yX1_addJoinedWith cX1_addJoinedWith 9 none, Cond.fieldLink RX1 36 "SentenceGym$Grammar" "pairMade" "[[I", Cond.fieldLink RX1 31 "SentenceGym$Grammar" "second" "[I"]
def wsX3_count_r2 : List Cond := [Cond.fieldLink RX1 25 "SentenceGym$Grammar" "made" "[I"]
def wsX3_count : List Cond := .code yX3_count cX3_count 10 none :: ((wsX3_count_r1 ++ wsX3_count_r2) ++ wsX10)
def wsX3_countRow_r1 : List Cond := [Cond.fieldLink RX3 11 "SentenceGym$PlainCounter" "counts" "[[I", Cond.methodLink RX3 16 yX3_count, Cond.static yX3_count, Cond.initialized RX3, Cond.code yX3_count cX3_count 10 none, Cond.methodLink RX3 24 yJ7_fill_53178, Cond.static yJ7_fill_53178, Cond.initialized RJ7, Cond.code yJ7_fill_53178 cJ7_fill_53178 4 none, Cond.instanceMethod yX1_countWord, Cond.initialized RX1, Cond.selects RX1 yX1_countWord yX1_countWord, Cond.code yX1_countWord cX1_countWord 3 none, Cond.fieldLink RX1 15 "SentenceGym$Grammar" "wordCategory" "[I", Cond.fieldLink RX1 19 "SentenceGym$Grammar" "wordPair" "[I", Cond.instanceMethod yX1_addJoined, Cond.selects RX1 yX1_addJoined yX1_addJoined, Cond.code yX1_addJoined cX1_addJoined 7 none, Cond.fieldLink RX1 22 "SentenceGym$Grammar" "rules" "I", Cond.fieldLink RX1 28 "SentenceGym$Grammar" "first" "[I", Cond.methodLink RX1 54 yX1_addJoinedWith, Cond.instanceMethod yX1_addJoinedWith, Cond.selects RX1 yX1_addJoinedWith yX1_addJoinedWith, Cond.code yX1_addJoinedWith cX1_addJoinedWith 9 none]
def wsX3_countRow_r2 : List Cond := [Cond.fieldLink RX1 36 "SentenceGym$Grammar" "pairMade" "[[I", Cond.fieldLink RX1 31 "SentenceGym$Grammar" "second" "[I", Cond.fieldLink RX1 25 "SentenceGym$Grammar" "made" "[I", Cond.static yX4_countOf, Cond.initialized RX4, Cond.code yX4_countOf cX4_countOf 4 (some .int)]
def wsX3_countRow : List Cond := .code yX3_countRow cX3_countRow 5 (some .int) :: ((wsX3_countRow_r1 ++ wsX3_countRow_r2) ++ wsX30 ++ wsX10)
def wsX4_init_r1 : List Cond := [Cond.methodLink RX4 3 objectInit, Cond.instanceMethod objectInit, Cond.code objectInit ⟨#[0xb1]⟩ 1 none, Cond.classLink RX4 9 RX1, Cond.instantiable RX1 8, Cond.initialized RX1, Cond.fieldLink RX4 12 "SentenceGym" "grammar" "LSentenceGym$Grammar;", Cond.arrayClass .int, Cond.fieldLink RX4 16 "SentenceGym" "row" "[I", Cond.fieldLink RX4 20 "SentenceGym" "rowLength" "I", Cond.fieldLink RX4 24 "SentenceGym" "trial" "[I", Cond.classLink RX4 27 RX2, Cond.instantiable RX2 1, Cond.initialized RX2, Cond.fieldLink RX4 30 "SentenceGym" "partSets" "LSentenceGym$PartSets;", Cond.classLink RX4 34 RX0, Cond.instantiable RX0 1, Cond.initialized RX0, Cond.fieldLink RX4 37 "SentenceGym" "countChart" "LSentenceGym$CountChart;", Cond.classLink RX4 41 RX3, Cond.instantiable RX3 1, Cond.initialized RX3, Cond.fieldLink RX4 44 "SentenceGym" "plainCounter" "LSentenceGym$PlainCounter;", Cond.instanceMethod yX1_init]
def wsX4_init_r2 : List Cond := [Cond.code yX1_init cX1_init 1 none, Cond.methodLink RX1 3 objectInit, Cond.fieldLink RX1 9 "SentenceGym$Grammar" "words" "I", Cond.fieldLink RX1 15 "SentenceGym$Grammar" "wordCategory" "[I", Cond.fieldLink RX1 19 "SentenceGym$Grammar" "wordPair" "[I", Cond.fieldLink RX1 22 "SentenceGym$Grammar" "rules" "I", Cond.fieldLink RX1 25 "SentenceGym$Grammar" "made" "[I", Cond.fieldLink RX1 28 "SentenceGym$Grammar" "first" "[I", Cond.fieldLink RX1 31 "SentenceGym$Grammar" "second" "[I", Cond.classLink RX1 34 "[[I", Cond.fieldLink RX1 36 "SentenceGym$Grammar" "pairMade" "[[I", Cond.instanceMethod yX2_init, Cond.code yX2_init cX2_init 1 none, Cond.methodLink RX2 3 objectInit, Cond.fieldLink RX2 9 "SentenceGym$PartSets" "pairs" "[I", Cond.instanceMethod yX0_init, Cond.code yX0_init cX0_init 1 none, Cond.methodLink RX0 3 objectInit, Cond.classLink RX0 9 "[[I", Cond.fieldLink RX0 11 "SentenceGym$CountChart" "counts" "[[I", Cond.instanceMethod yX3_init, Cond.code yX3_init cX3_init 1 none, Cond.methodLink RX3 3 objectInit, Cond.classLink RX3 9 "[[I"]
def wsX4_init_r3 : List Cond := [Cond.fieldLink RX3 11 "SentenceGym$PlainCounter" "counts" "[[I"]
def wsX4_init : List Cond := .code yX4_init cX4_init 1 none :: ((wsX4_init_r1 ++ (wsX4_init_r2 ++ wsX4_init_r3)) ++ wsX10 ++ wsX40 ++ wsX20 ++ wsX00 ++ wsX30)
def wsX4_isOutside : List Cond := .code yX4_isOutside cX4_isOutside 2 (some .boolean) :: ([])
def wsX4_isNoKind : List Cond := .code yX4_isNoKind cX4_isNoKind 3 (some .boolean) :: ([.methodLink RX4 75 yX4_isOutside, .static yX4_isOutside, .initialized RX4, .code yX4_isOutside cX4_isOutside 2 (some .boolean)])
def wsX4_addWord : List Cond := .code yX4_addWord cX4_addWord 5 (some .int) :: ([.classLink RX4 52 "java/lang/IllegalArgumentException", .initialized "java/lang/IllegalArgumentException", .classLink RX4 62 "java/lang/IllegalStateException", .initialized "java/lang/IllegalStateException", .fieldLink RX4 12 "SentenceGym" "grammar" "LSentenceGym$Grammar;", .methodLink RX4 48 yX4_isNoKind, .static yX4_isNoKind, .initialized RX4, .code yX4_isNoKind cX4_isNoKind 3 (some .boolean), .methodLink RX4 75 yX4_isOutside, .static yX4_isOutside, .code yX4_isOutside cX4_isOutside 2 (some .boolean), .methodLink RX4 67 yX4_pairOf, .static yX4_pairOf, .code yX4_pairOf cX4_pairOf 2 (some .int), .instanceMethod yX1_defineWord, .initialized RX1, .selects RX1 yX1_defineWord yX1_defineWord, .code yX1_defineWord cX1_defineWord 4 none, .fieldLink RX1 15 "SentenceGym$Grammar" "wordCategory" "[I", .fieldLink RX1 19 "SentenceGym$Grammar" "wordPair" "[I"] ++ wsX40 ++ wsX10 ++ (vx_atS RX4 56 "java/lang/IllegalArgumentException" ["java/lang/RuntimeException", "java/lang/Exception"]).filter goodWord ++ (vx_atS RX4 66 "java/lang/IllegalStateException" ["java/lang/RuntimeException", "java/lang/Exception"]).filter goodWord)
def wsX4_setWord : List Cond := .code yX4_setWord cX4_setWord 6 (some .int) :: ([.classLink RX4 79 "java/lang/IndexOutOfBoundsException", .initialized "java/lang/IndexOutOfBoundsException", .classLink RX4 52 "java/lang/IllegalArgumentException", .initialized "java/lang/IllegalArgumentException", .fieldLink RX4 12 "SentenceGym" "grammar" "LSentenceGym$Grammar;", .methodLink RX4 75 yX4_isOutside, .static yX4_isOutside, .initialized RX4, .code yX4_isOutside cX4_isOutside 2 (some .boolean), .methodLink RX4 48 yX4_isNoKind, .static yX4_isNoKind, .code yX4_isNoKind cX4_isNoKind 3 (some .boolean), .methodLink RX4 67 yX4_pairOf, .static yX4_pairOf, .code yX4_pairOf cX4_pairOf 2 (some .int), .instanceMethod yX1_defineWord, .initialized RX1, .selects RX1 yX1_defineWord yX1_defineWord, .code yX1_defineWord cX1_defineWord 4 none, .fieldLink RX1 15 "SentenceGym$Grammar" "wordCategory" "[I", .fieldLink RX1 19 "SentenceGym$Grammar" "wordPair" "[I"] ++ wsX40 ++ wsX10 ++ (vx_atS RX4 83 "java/lang/IndexOutOfBoundsException" ["java/lang/RuntimeException", "java/lang/Exception"]).filter goodWord ++ (vx_atS RX4 56 "java/lang/IllegalArgumentException" ["java/lang/RuntimeException", "java/lang/Exception"]).filter goodWord)
def wsX4_isNoDigitPair : List Cond := .code yX4_isNoDigitPair cX4_isNoDigitPair 1 (some .boolean) :: ([])
def wsX4_addRule_r1 : List Cond := [Cond.classLink RX4 52 "java/lang/IllegalArgumentException", Cond.initialized "java/lang/IllegalArgumentException", Cond.classLink RX4 62 "java/lang/IllegalStateException", Cond.initialized "java/lang/IllegalStateException", Cond.fieldLink RX4 12 "SentenceGym" "grammar" "LSentenceGym$Grammar;", Cond.methodLink RX4 75 yX4_isOutside, Cond.static yX4_isOutside, Cond.initialized RX4, Cond.code yX4_isOutside cX4_isOutside 2 (some .boolean), Cond.methodLink RX4 87 yX4_isNoDigitPair, Cond.static yX4_isNoDigitPair, Cond.code yX4_isNoDigitPair cX4_isNoDigitPair 1 (some .boolean), Cond.instanceMethod yX1_defineRule, Cond.initialized RX1, Cond.selects RX1 yX1_defineRule yX1_defineRule, Cond.code yX1_defineRule cX1_defineRule 7 none, Cond.fieldLink RX1 25 "SentenceGym$Grammar" "made" "[I", Cond.fieldLink RX1 28 "SentenceGym$Grammar" "first" "[I", Cond.fieldLink RX1 31 "SentenceGym$Grammar" "second" "[I", Cond.fieldLink RX1 36 "SentenceGym$Grammar" "pairMade" "[[I", Cond.methodLink RX1 39 yX1_joinedPair, Cond.static yX1_joinedPair, Cond.code yX1_joinedPair cX1_joinedPair 5 (some .int), Cond.methodLink RX1 43 yX1_joinedValue]
def wsX4_addRule_r2 : List Cond := [Cond.static yX1_joinedValue, Cond.code yX1_joinedValue cX1_joinedValue 3 (some .int), Cond.static yX4_pairOf, Cond.code yX4_pairOf cX4_pairOf 2 (some .int)]
def wsX4_addRule : List Cond := .code yX4_addRule cX4_addRule 6 (some .int) :: ((wsX4_addRule_r1 ++ wsX4_addRule_r2) ++ wsX40 ++ wsX10 ++ (vx_atS RX4 56 "java/lang/IllegalArgumentException" ["java/lang/RuntimeException", "java/lang/Exception"]).filter goodWord ++ (vx_atS RX4 66 "java/lang/IllegalStateException" ["java/lang/RuntimeException", "java/lang/Exception"]).filter goodWord)
def wsX4_dropRule : List Cond := .code yX4_dropRule cX4_dropRule 1 (some .int) :: ([.classLink RX4 62 "java/lang/IllegalStateException", .initialized "java/lang/IllegalStateException", .fieldLink RX4 12 "SentenceGym" "grammar" "LSentenceGym$Grammar;"] ++ wsX40 ++ wsX10 ++ (vx_atS RX4 66 "java/lang/IllegalStateException" ["java/lang/RuntimeException", "java/lang/Exception"]).filter goodWord)
def wsX4_say : List Cond := .code yX4_say cX4_say 2 (some .int) :: ([.classLink RX4 79 "java/lang/IndexOutOfBoundsException", .initialized "java/lang/IndexOutOfBoundsException", .classLink RX4 62 "java/lang/IllegalStateException", .initialized "java/lang/IllegalStateException", .fieldLink RX4 12 "SentenceGym" "grammar" "LSentenceGym$Grammar;", .fieldLink RX4 20 "SentenceGym" "rowLength" "I", .fieldLink RX4 16 "SentenceGym" "row" "[I", .methodLink RX4 75 yX4_isOutside, .static yX4_isOutside, .initialized RX4, .code yX4_isOutside cX4_isOutside 2 (some .boolean)] ++ wsX40 ++ wsX10 ++ (vx_atS RX4 83 "java/lang/IndexOutOfBoundsException" ["java/lang/RuntimeException", "java/lang/Exception"]).filter goodWord ++ (vx_atS RX4 66 "java/lang/IllegalStateException" ["java/lang/RuntimeException", "java/lang/Exception"]).filter goodWord)
def wsX4_change : List Cond := .code yX4_change cX4_change 4 (some .int) :: ([.classLink RX4 79 "java/lang/IndexOutOfBoundsException", .initialized "java/lang/IndexOutOfBoundsException", .fieldLink RX4 20 "SentenceGym" "rowLength" "I", .fieldLink RX4 12 "SentenceGym" "grammar" "LSentenceGym$Grammar;", .fieldLink RX4 16 "SentenceGym" "row" "[I", .methodLink RX4 75 yX4_isOutside, .static yX4_isOutside, .initialized RX4, .code yX4_isOutside cX4_isOutside 2 (some .boolean)] ++ wsX40 ++ wsX10 ++ (vx_atS RX4 83 "java/lang/IndexOutOfBoundsException" ["java/lang/RuntimeException", "java/lang/Exception"]).filter goodWord)
def wsX4_hush : List Cond := .code yX4_hush cX4_hush 2 (some .int) :: ([.fieldLink RX4 20 "SentenceGym" "rowLength" "I"] ++ wsX40)
def wsX4_said : List Cond := .code yX4_said cX4_said 1 (some .int) :: ([.fieldLink RX4 20 "SentenceGym" "rowLength" "I"] ++ wsX40)
def wsX4_wordAt : List Cond := .code yX4_wordAt cX4_wordAt 2 (some .int) :: ([.classLink RX4 79 "java/lang/IndexOutOfBoundsException", .initialized "java/lang/IndexOutOfBoundsException", .fieldLink RX4 20 "SentenceGym" "rowLength" "I", .fieldLink RX4 16 "SentenceGym" "row" "[I", .methodLink RX4 75 yX4_isOutside, .static yX4_isOutside, .initialized RX4, .code yX4_isOutside cX4_isOutside 2 (some .boolean)] ++ wsX40 ++ (vx_atS RX4 83 "java/lang/IndexOutOfBoundsException" ["java/lang/RuntimeException", "java/lang/Exception"]).filter goodWord)
def wsX4_told : List Cond := .code yX4_told cX4_told 1 (some .int) :: ([.constant RX4 166 (1000000)])
def wsX4_countReadings_r1 : List Cond := [Cond.fieldLink RX4 37 "SentenceGym" "countChart" "LSentenceGym$CountChart;", Cond.fieldLink RX4 12 "SentenceGym" "grammar" "LSentenceGym$Grammar;", Cond.fieldLink RX4 16 "SentenceGym" "row" "[I", Cond.fieldLink RX4 20 "SentenceGym" "rowLength" "I", Cond.instanceMethod yX0_fill, Cond.initialized RX0, Cond.selects RX0 yX0_fill yX0_fill, Cond.code yX0_fill cX0_fill 6 none, Cond.methodLink RX0 24 yX0_fillSpan, Cond.instanceMethod yX0_fillSpan, Cond.selects RX0 yX0_fillSpan yX0_fillSpan, Cond.code yX0_fillSpan cX0_fillSpan 9 none, Cond.fieldLink RX0 11 "SentenceGym$CountChart" "counts" "[[I", Cond.static yX4_spanOf, Cond.initialized RX4, Cond.code yX4_spanOf cX4_spanOf 2 (some .int), Cond.methodLink RX0 28 yJ7_fill_53178, Cond.static yJ7_fill_53178, Cond.initialized RJ7, Cond.code yJ7_fill_53178 cJ7_fill_53178 4 none, Cond.instanceMethod yX1_countWord, Cond.initialized RX1, Cond.selects RX1 yX1_countWord yX1_countWord, Cond.code yX1_countWord cX1_countWord 3 none]
def wsX4_countReadings_r2 : List Cond := [Cond.fieldLink RX1 15 "SentenceGym$Grammar" "wordCategory" "[I", Cond.fieldLink RX1 19 "SentenceGym$Grammar" "wordPair" "[I", Cond.instanceMethod yX1_addJoined, Cond.selects RX1 yX1_addJoined yX1_addJoined, Cond.code yX1_addJoined cX1_addJoined 7 none, Cond.fieldLink RX1 22 "SentenceGym$Grammar" "rules" "I", Cond.fieldLink RX1 28 "SentenceGym$Grammar" "first" "[I", Cond.methodLink RX1 54 yX1_addJoinedWith, Cond.instanceMethod yX1_addJoinedWith, Cond.selects RX1 yX1_addJoinedWith yX1_addJoinedWith, Cond.code yX1_addJoinedWith cX1_addJoinedWith 9 none, Cond.fieldLink RX1 36 "SentenceGym$Grammar" "pairMade" "[[I", Cond.fieldLink RX1 31 "SentenceGym$Grammar" "second" "[I", Cond.fieldLink RX1 25 "SentenceGym$Grammar" "made" "[I", Cond.instanceMethod yX0_countSpan, Cond.selects RX0 yX0_countSpan yX0_countSpan, Cond.code yX0_countSpan cX0_countSpan 4 (some .int), Cond.static yX4_countOf, Cond.code yX4_countOf cX4_countOf 4 (some .int), Cond.methodLink RX4 118 yX4_told, Cond.static yX4_told, Cond.code yX4_told cX4_told 1 (some .int), Cond.constant RX4 166 (1000000)]
def wsX4_countReadings : List Cond := .code yX4_countReadings cX4_countReadings 4 (some .int) :: ((wsX4_countReadings_r1 ++ wsX4_countReadings_r2) ++ wsX40 ++ wsX00 ++ wsX10)
def wsX4_readings_r1 : List Cond := [Cond.fieldLink RX4 20 "SentenceGym" "rowLength" "I", Cond.methodLink RX4 110 yX4_countReadings, Cond.instanceMethod yX4_countReadings, Cond.selects RX4 yX4_countReadings yX4_countReadings, Cond.initialized RX4, Cond.code yX4_countReadings cX4_countReadings 4 (some .int), Cond.fieldLink RX4 37 "SentenceGym" "countChart" "LSentenceGym$CountChart;", Cond.fieldLink RX4 12 "SentenceGym" "grammar" "LSentenceGym$Grammar;", Cond.fieldLink RX4 16 "SentenceGym" "row" "[I", Cond.instanceMethod yX0_fill, Cond.initialized RX0, Cond.selects RX0 yX0_fill yX0_fill, Cond.code yX0_fill cX0_fill 6 none, Cond.methodLink RX0 24 yX0_fillSpan, Cond.instanceMethod yX0_fillSpan, Cond.selects RX0 yX0_fillSpan yX0_fillSpan, Cond.code yX0_fillSpan cX0_fillSpan 9 none, Cond.fieldLink RX0 11 "SentenceGym$CountChart" "counts" "[[I", Cond.static yX4_spanOf, Cond.code yX4_spanOf cX4_spanOf 2 (some .int), Cond.methodLink RX0 28 yJ7_fill_53178, Cond.static yJ7_fill_53178, Cond.initialized RJ7, Cond.code yJ7_fill_53178 cJ7_fill_53178 4 none]
def wsX4_readings_r2 : List Cond := [Cond.instanceMethod yX1_countWord, Cond.initialized RX1, Cond.selects RX1 yX1_countWord yX1_countWord, Cond.code yX1_countWord cX1_countWord 3 none, Cond.fieldLink RX1 15 "SentenceGym$Grammar" "wordCategory" "[I", Cond.fieldLink RX1 19 "SentenceGym$Grammar" "wordPair" "[I", Cond.instanceMethod yX1_addJoined, Cond.selects RX1 yX1_addJoined yX1_addJoined, Cond.code yX1_addJoined cX1_addJoined 7 none, Cond.fieldLink RX1 22 "SentenceGym$Grammar" "rules" "I", Cond.fieldLink RX1 28 "SentenceGym$Grammar" "first" "[I", Cond.methodLink RX1 54 yX1_addJoinedWith, Cond.instanceMethod yX1_addJoinedWith, Cond.selects RX1 yX1_addJoinedWith yX1_addJoinedWith, Cond.code yX1_addJoinedWith cX1_addJoinedWith 9 none, Cond.fieldLink RX1 36 "SentenceGym$Grammar" "pairMade" "[[I", Cond.fieldLink RX1 31 "SentenceGym$Grammar" "second" "[I", Cond.fieldLink RX1 25 "SentenceGym$Grammar" "made" "[I", Cond.instanceMethod yX0_countSpan, Cond.selects RX0 yX0_countSpan yX0_countSpan, Cond.code yX0_countSpan cX0_countSpan 4 (some .int), Cond.static yX4_countOf, Cond.code yX4_countOf cX4_countOf 4 (some .int), Cond.methodLink RX4 118 yX4_told]
def wsX4_readings_r3 : List Cond := [Cond.static yX4_told, Cond.code yX4_told cX4_told 1 (some .int), Cond.constant RX4 166 (1000000)]
def wsX4_readings : List Cond := .code yX4_readings cX4_readings 1 (some .int) :: ((wsX4_readings_r1 ++ (wsX4_readings_r2 ++ wsX4_readings_r3)) ++ wsX40 ++ wsX00 ++ wsX10)
def wsX4_readingsPlainly_r1 : List Cond := [Cond.fieldLink RX4 20 "SentenceGym" "rowLength" "I", Cond.fieldLink RX4 44 "SentenceGym" "plainCounter" "LSentenceGym$PlainCounter;", Cond.fieldLink RX4 12 "SentenceGym" "grammar" "LSentenceGym$Grammar;", Cond.fieldLink RX4 16 "SentenceGym" "row" "[I", Cond.instanceMethod yX3_countRow, Cond.initialized RX3, Cond.selects RX3 yX3_countRow yX3_countRow, Cond.code yX3_countRow cX3_countRow 5 (some .int), Cond.fieldLink RX3 11 "SentenceGym$PlainCounter" "counts" "[[I", Cond.methodLink RX3 16 yX3_count, Cond.static yX3_count, Cond.code yX3_count cX3_count 10 none, Cond.methodLink RX3 24 yJ7_fill_53178, Cond.static yJ7_fill_53178, Cond.initialized RJ7, Cond.code yJ7_fill_53178 cJ7_fill_53178 4 none, Cond.instanceMethod yX1_countWord, Cond.initialized RX1, Cond.selects RX1 yX1_countWord yX1_countWord, Cond.code yX1_countWord cX1_countWord 3 none, Cond.fieldLink RX1 15 "SentenceGym$Grammar" "wordCategory" "[I", Cond.fieldLink RX1 19 "SentenceGym$Grammar" "wordPair" "[I", Cond.instanceMethod yX1_addJoined, Cond.selects RX1 yX1_addJoined yX1_addJoined]
def wsX4_readingsPlainly_r2 : List Cond := [Cond.code yX1_addJoined cX1_addJoined 7 none, Cond.fieldLink RX1 22 "SentenceGym$Grammar" "rules" "I", Cond.fieldLink RX1 28 "SentenceGym$Grammar" "first" "[I", Cond.methodLink RX1 54 yX1_addJoinedWith, Cond.instanceMethod yX1_addJoinedWith, Cond.selects RX1 yX1_addJoinedWith yX1_addJoinedWith, Cond.code yX1_addJoinedWith cX1_addJoinedWith 9 none, Cond.fieldLink RX1 36 "SentenceGym$Grammar" "pairMade" "[[I", Cond.fieldLink RX1 31 "SentenceGym$Grammar" "second" "[I", Cond.fieldLink RX1 25 "SentenceGym$Grammar" "made" "[I", Cond.static yX4_countOf, Cond.initialized RX4, Cond.code yX4_countOf cX4_countOf 4 (some .int), Cond.methodLink RX4 118 yX4_told, Cond.static yX4_told, Cond.code yX4_told cX4_told 1 (some .int), Cond.constant RX4 166 (1000000)]
def wsX4_readingsPlainly : List Cond := .code yX4_readingsPlainly cX4_readingsPlainly 1 (some .int) :: ((wsX4_readingsPlainly_r1 ++ wsX4_readingsPlainly_r2) ++ wsX40 ++ wsX30 ++ wsX10)
def wsX4_isNoSpan : List Cond := .code yX4_isNoSpan cX4_isNoSpan 3 (some .boolean) :: ([.fieldLink RX4 20 "SentenceGym" "rowLength" "I"] ++ wsX40)
def wsX4_readingsOf_r1 : List Cond := [Cond.classLink RX4 79 "java/lang/IndexOutOfBoundsException", Cond.initialized "java/lang/IndexOutOfBoundsException", Cond.methodLink RX4 122 yX4_isNoSpan, Cond.instanceMethod yX4_isNoSpan, Cond.selects RX4 yX4_isNoSpan yX4_isNoSpan, Cond.initialized RX4, Cond.code yX4_isNoSpan cX4_isNoSpan 3 (some .boolean), Cond.fieldLink RX4 20 "SentenceGym" "rowLength" "I", Cond.methodLink RX4 75 yX4_isOutside, Cond.static yX4_isOutside, Cond.code yX4_isOutside cX4_isOutside 2 (some .boolean), Cond.methodLink RX4 110 yX4_countReadings, Cond.instanceMethod yX4_countReadings, Cond.selects RX4 yX4_countReadings yX4_countReadings, Cond.code yX4_countReadings cX4_countReadings 4 (some .int), Cond.fieldLink RX4 37 "SentenceGym" "countChart" "LSentenceGym$CountChart;", Cond.fieldLink RX4 12 "SentenceGym" "grammar" "LSentenceGym$Grammar;", Cond.fieldLink RX4 16 "SentenceGym" "row" "[I", Cond.instanceMethod yX0_fill, Cond.initialized RX0, Cond.selects RX0 yX0_fill yX0_fill, Cond.code yX0_fill cX0_fill 6 none, Cond.methodLink RX0 24 yX0_fillSpan, Cond.instanceMethod yX0_fillSpan]
def wsX4_readingsOf_r2 : List Cond := [Cond.selects RX0 yX0_fillSpan yX0_fillSpan, Cond.code yX0_fillSpan cX0_fillSpan 9 none, Cond.fieldLink RX0 11 "SentenceGym$CountChart" "counts" "[[I", Cond.static yX4_spanOf, Cond.code yX4_spanOf cX4_spanOf 2 (some .int), Cond.methodLink RX0 28 yJ7_fill_53178, Cond.static yJ7_fill_53178, Cond.initialized RJ7, Cond.code yJ7_fill_53178 cJ7_fill_53178 4 none, Cond.instanceMethod yX1_countWord, Cond.initialized RX1, Cond.selects RX1 yX1_countWord yX1_countWord, Cond.code yX1_countWord cX1_countWord 3 none, Cond.fieldLink RX1 15 "SentenceGym$Grammar" "wordCategory" "[I", Cond.fieldLink RX1 19 "SentenceGym$Grammar" "wordPair" "[I", Cond.instanceMethod yX1_addJoined, Cond.selects RX1 yX1_addJoined yX1_addJoined, Cond.code yX1_addJoined cX1_addJoined 7 none, Cond.fieldLink RX1 22 "SentenceGym$Grammar" "rules" "I", Cond.fieldLink RX1 28 "SentenceGym$Grammar" "first" "[I", Cond.methodLink RX1 54 yX1_addJoinedWith, Cond.instanceMethod yX1_addJoinedWith, Cond.selects RX1 yX1_addJoinedWith yX1_addJoinedWith, Cond.code yX1_addJoinedWith cX1_addJoinedWith 9 none]
def wsX4_readingsOf_r3 : List Cond := [Cond.fieldLink RX1 36 "SentenceGym$Grammar" "pairMade" "[[I", Cond.fieldLink RX1 31 "SentenceGym$Grammar" "second" "[I", Cond.fieldLink RX1 25 "SentenceGym$Grammar" "made" "[I", Cond.instanceMethod yX0_countSpan, Cond.selects RX0 yX0_countSpan yX0_countSpan, Cond.code yX0_countSpan cX0_countSpan 4 (some .int), Cond.static yX4_countOf, Cond.code yX4_countOf cX4_countOf 4 (some .int), Cond.methodLink RX4 118 yX4_told, Cond.static yX4_told, Cond.code yX4_told cX4_told 1 (some .int), Cond.constant RX4 166 (1000000)]
def wsX4_readingsOf : List Cond := .code yX4_readingsOf cX4_readingsOf 4 (some .int) :: ((wsX4_readingsOf_r1 ++ (wsX4_readingsOf_r2 ++ wsX4_readingsOf_r3)) ++ wsX40 ++ wsX00 ++ wsX10 ++ (vx_atS RX4 83 "java/lang/IndexOutOfBoundsException" ["java/lang/RuntimeException", "java/lang/Exception"]).filter goodWord)
def wsX4_has_r1 : List Cond := [Cond.classLink RX4 79 "java/lang/IndexOutOfBoundsException", Cond.initialized "java/lang/IndexOutOfBoundsException", Cond.classLink RX4 52 "java/lang/IllegalArgumentException", Cond.initialized "java/lang/IllegalArgumentException", Cond.fieldLink RX4 30 "SentenceGym" "partSets" "LSentenceGym$PartSets;", Cond.fieldLink RX4 12 "SentenceGym" "grammar" "LSentenceGym$Grammar;", Cond.fieldLink RX4 16 "SentenceGym" "row" "[I", Cond.fieldLink RX4 20 "SentenceGym" "rowLength" "I", Cond.methodLink RX4 122 yX4_isNoSpan, Cond.instanceMethod yX4_isNoSpan, Cond.selects RX4 yX4_isNoSpan yX4_isNoSpan, Cond.initialized RX4, Cond.code yX4_isNoSpan cX4_isNoSpan 3 (some .boolean), Cond.methodLink RX4 75 yX4_isOutside, Cond.static yX4_isOutside, Cond.code yX4_isOutside cX4_isOutside 2 (some .boolean), Cond.methodLink RX4 87 yX4_isNoDigitPair, Cond.static yX4_isNoDigitPair, Cond.code yX4_isNoDigitPair cX4_isNoDigitPair 1 (some .boolean), Cond.instanceMethod yX2_parse, Cond.initialized RX2, Cond.selects RX2 yX2_parse yX2_parse, Cond.code yX2_parse cX2_parse 6 none, Cond.methodLink RX2 23 yX2_putWord]
def wsX4_has_r2 : List Cond := [Cond.instanceMethod yX2_putWord, Cond.selects RX2 yX2_putWord yX2_putWord, Cond.code yX2_putWord cX2_putWord 4 none, Cond.methodLink RX2 30 yX2_clearSpan, Cond.instanceMethod yX2_clearSpan, Cond.selects RX2 yX2_clearSpan yX2_clearSpan, Cond.code yX2_clearSpan cX2_clearSpan 5 none, Cond.fieldLink RX2 9 "SentenceGym$PartSets" "pairs" "[I", Cond.static yX4_spanOf, Cond.code yX4_spanOf cX4_spanOf 2 (some .int), Cond.methodLink RX2 34 yX2_allowWord, Cond.instanceMethod yX2_allowWord, Cond.selects RX2 yX2_allowWord yX2_allowWord, Cond.code yX2_allowWord cX2_allowWord 5 none, Cond.methodLink RX2 27 yX2_joinUpTo, Cond.instanceMethod yX2_joinUpTo, Cond.selects RX2 yX2_joinUpTo yX2_joinUpTo, Cond.code yX2_joinUpTo cX2_joinUpTo 9 none, Cond.methodLink RX2 49 yX2_join, Cond.instanceMethod yX2_join, Cond.selects RX2 yX2_join yX2_join, Cond.code yX2_join cX2_join 10 none, Cond.instanceMethod yX1_pairsMade, Cond.initialized RX1]
def wsX4_has_r3 : List Cond := [Cond.selects RX1 yX1_pairsMade yX1_pairsMade, Cond.code yX1_pairsMade cX1_pairsMade 8 (some .int), Cond.fieldLink RX1 36 "SentenceGym$Grammar" "pairMade" "[[I", Cond.static yX4_hasPair, Cond.code yX4_hasPair cX4_hasPair 2 (some .boolean), Cond.instanceMethod yX2_pairsOf, Cond.selects RX2 yX2_pairsOf yX2_pairsOf, Cond.code yX2_pairsOf cX2_pairsOf 4 (some .int), Cond.methodLink RX4 67 yX4_pairOf, Cond.static yX4_pairOf, Cond.code yX4_pairOf cX4_pairOf 2 (some .int), Cond.methodLink RX4 136 yX4_hasPair]
def wsX4_has : List Cond := .code yX4_has cX4_has 6 (some .boolean) :: ((wsX4_has_r1 ++ (wsX4_has_r2 ++ wsX4_has_r3)) ++ wsX40 ++ wsX10 ++ wsX20 ++ (vx_atS RX4 83 "java/lang/IndexOutOfBoundsException" ["java/lang/RuntimeException", "java/lang/Exception"]).filter goodWord ++ (vx_atS RX4 56 "java/lang/IllegalArgumentException" ["java/lang/RuntimeException", "java/lang/Exception"]).filter goodWord)
def wsX4_level_r1 : List Cond := [Cond.fieldLink RX4 12 "SentenceGym" "grammar" "LSentenceGym$Grammar;", Cond.fieldLink RX4 30 "SentenceGym" "partSets" "LSentenceGym$PartSets;", Cond.fieldLink RX4 16 "SentenceGym" "row" "[I", Cond.fieldLink RX4 20 "SentenceGym" "rowLength" "I", Cond.instanceMethod yX2_parse, Cond.initialized RX2, Cond.selects RX2 yX2_parse yX2_parse, Cond.code yX2_parse cX2_parse 6 none, Cond.methodLink RX2 23 yX2_putWord, Cond.instanceMethod yX2_putWord, Cond.selects RX2 yX2_putWord yX2_putWord, Cond.code yX2_putWord cX2_putWord 4 none, Cond.methodLink RX2 30 yX2_clearSpan, Cond.instanceMethod yX2_clearSpan, Cond.selects RX2 yX2_clearSpan yX2_clearSpan, Cond.code yX2_clearSpan cX2_clearSpan 5 none, Cond.fieldLink RX2 9 "SentenceGym$PartSets" "pairs" "[I", Cond.static yX4_spanOf, Cond.initialized RX4, Cond.code yX4_spanOf cX4_spanOf 2 (some .int), Cond.methodLink RX2 34 yX2_allowWord, Cond.instanceMethod yX2_allowWord, Cond.selects RX2 yX2_allowWord yX2_allowWord, Cond.code yX2_allowWord cX2_allowWord 5 none]
def wsX4_level_r2 : List Cond := [Cond.methodLink RX2 27 yX2_joinUpTo, Cond.instanceMethod yX2_joinUpTo, Cond.selects RX2 yX2_joinUpTo yX2_joinUpTo, Cond.code yX2_joinUpTo cX2_joinUpTo 9 none, Cond.methodLink RX2 49 yX2_join, Cond.instanceMethod yX2_join, Cond.selects RX2 yX2_join yX2_join, Cond.code yX2_join cX2_join 10 none, Cond.instanceMethod yX1_pairsMade, Cond.initialized RX1, Cond.selects RX1 yX1_pairsMade yX1_pairsMade, Cond.code yX1_pairsMade cX1_pairsMade 8 (some .int), Cond.fieldLink RX1 36 "SentenceGym$Grammar" "pairMade" "[[I", Cond.static yX4_hasPair, Cond.code yX4_hasPair cX4_hasPair 2 (some .boolean), Cond.instanceMethod yX2_holdsSentence, Cond.selects RX2 yX2_holdsSentence yX2_holdsSentence, Cond.code yX2_holdsSentence cX2_holdsSentence 2 (some .boolean), Cond.methodLink RX2 19 yX2_pairsOf, Cond.instanceMethod yX2_pairsOf, Cond.selects RX2 yX2_pairsOf yX2_pairsOf, Cond.code yX2_pairsOf cX2_pairsOf 4 (some .int)]
def wsX4_level : List Cond := .code yX4_level cX4_level 2 (some .int) :: ((wsX4_level_r1 ++ wsX4_level_r2) ++ wsX40 ++ wsX10 ++ wsX20)
def wsX4_isNoLength : List Cond := .code yX4_isNoLength cX4_isNoLength 1 (some .boolean) :: ([])
def wsX4_rowsOfLength : List Cond := .code yX4_rowsOfLength cX4_rowsOfLength 4 (some .int) :: ([.fieldLink RX4 12 "SentenceGym" "grammar" "LSentenceGym$Grammar;"] ++ wsX40 ++ wsX10)
def wsX4_clearTrial : List Cond := .code yX4_clearTrial cX4_clearTrial 2 none :: ([.fieldLink RX4 24 "SentenceGym" "trial" "[I"] ++ wsX40)
def wsX4_nextTrial : List Cond := .code yX4_nextTrial cX4_nextTrial 3 (some .int) :: ([.fieldLink RX4 24 "SentenceGym" "trial" "[I", .fieldLink RX4 12 "SentenceGym" "grammar" "LSentenceGym$Grammar;"] ++ wsX40 ++ wsX10)
def wsX4_makeSentences_r1 : List Cond := [Cond.fieldLink RX4 30 "SentenceGym" "partSets" "LSentenceGym$PartSets;", Cond.fieldLink RX4 12 "SentenceGym" "grammar" "LSentenceGym$Grammar;", Cond.fieldLink RX4 24 "SentenceGym" "trial" "[I", Cond.methodLink RX4 147 yX4_rowsOfLength, Cond.instanceMethod yX4_rowsOfLength, Cond.selects RX4 yX4_rowsOfLength yX4_rowsOfLength, Cond.initialized RX4, Cond.code yX4_rowsOfLength cX4_rowsOfLength 4 (some .int), Cond.methodLink RX4 191 yX4_clearTrial, Cond.instanceMethod yX4_clearTrial, Cond.selects RX4 yX4_clearTrial yX4_clearTrial, Cond.code yX4_clearTrial cX4_clearTrial 2 none, Cond.instanceMethod yX2_putWord, Cond.initialized RX2, Cond.selects RX2 yX2_putWord yX2_putWord, Cond.code yX2_putWord cX2_putWord 4 none, Cond.methodLink RX2 30 yX2_clearSpan, Cond.instanceMethod yX2_clearSpan, Cond.selects RX2 yX2_clearSpan yX2_clearSpan, Cond.code yX2_clearSpan cX2_clearSpan 5 none, Cond.fieldLink RX2 9 "SentenceGym$PartSets" "pairs" "[I", Cond.static yX4_spanOf, Cond.code yX4_spanOf cX4_spanOf 2 (some .int), Cond.methodLink RX2 34 yX2_allowWord]
def wsX4_makeSentences_r2 : List Cond := [Cond.instanceMethod yX2_allowWord, Cond.selects RX2 yX2_allowWord yX2_allowWord, Cond.code yX2_allowWord cX2_allowWord 5 none, Cond.instanceMethod yX2_joinUpTo, Cond.selects RX2 yX2_joinUpTo yX2_joinUpTo, Cond.code yX2_joinUpTo cX2_joinUpTo 9 none, Cond.methodLink RX2 49 yX2_join, Cond.instanceMethod yX2_join, Cond.selects RX2 yX2_join yX2_join, Cond.code yX2_join cX2_join 10 none, Cond.instanceMethod yX1_pairsMade, Cond.initialized RX1, Cond.selects RX1 yX1_pairsMade yX1_pairsMade, Cond.code yX1_pairsMade cX1_pairsMade 8 (some .int), Cond.fieldLink RX1 36 "SentenceGym$Grammar" "pairMade" "[[I", Cond.static yX4_hasPair, Cond.code yX4_hasPair cX4_hasPair 2 (some .boolean), Cond.instanceMethod yX2_holdsSentence, Cond.selects RX2 yX2_holdsSentence yX2_holdsSentence, Cond.code yX2_holdsSentence cX2_holdsSentence 2 (some .boolean), Cond.methodLink RX2 19 yX2_pairsOf, Cond.instanceMethod yX2_pairsOf, Cond.selects RX2 yX2_pairsOf yX2_pairsOf, Cond.code yX2_pairsOf cX2_pairsOf 4 (some .int)]
def wsX4_makeSentences_r3 : List Cond := [Cond.methodLink RX4 194 yX4_nextTrial, Cond.instanceMethod yX4_nextTrial, Cond.selects RX4 yX4_nextTrial yX4_nextTrial, Cond.code yX4_nextTrial cX4_nextTrial 3 (some .int)]
def wsX4_makeSentences : List Cond := .code yX4_makeSentences cX4_makeSentences 8 (some .int) :: ((wsX4_makeSentences_r1 ++ (wsX4_makeSentences_r2 ++ wsX4_makeSentences_r3)) ++ wsX40 ++ wsX10 ++ wsX20)
def wsX4_sentences_r1 : List Cond := [Cond.classLink RX4 52 "java/lang/IllegalArgumentException", Cond.initialized "java/lang/IllegalArgumentException", Cond.methodLink RX4 142 yX4_isNoLength, Cond.static yX4_isNoLength, Cond.initialized RX4, Cond.code yX4_isNoLength cX4_isNoLength 1 (some .boolean), Cond.methodLink RX4 147 yX4_rowsOfLength, Cond.instanceMethod yX4_rowsOfLength, Cond.selects RX4 yX4_rowsOfLength yX4_rowsOfLength, Cond.code yX4_rowsOfLength cX4_rowsOfLength 4 (some .int), Cond.fieldLink RX4 12 "SentenceGym" "grammar" "LSentenceGym$Grammar;", Cond.methodLink RX4 150 yX4_makeSentences, Cond.instanceMethod yX4_makeSentences, Cond.selects RX4 yX4_makeSentences yX4_makeSentences, Cond.code yX4_makeSentences cX4_makeSentences 8 (some .int), Cond.fieldLink RX4 30 "SentenceGym" "partSets" "LSentenceGym$PartSets;", Cond.fieldLink RX4 24 "SentenceGym" "trial" "[I", Cond.methodLink RX4 191 yX4_clearTrial, Cond.instanceMethod yX4_clearTrial, Cond.selects RX4 yX4_clearTrial yX4_clearTrial, Cond.code yX4_clearTrial cX4_clearTrial 2 none, Cond.instanceMethod yX2_putWord, Cond.initialized RX2, Cond.selects RX2 yX2_putWord yX2_putWord]
def wsX4_sentences_r2 : List Cond := [Cond.code yX2_putWord cX2_putWord 4 none, Cond.methodLink RX2 30 yX2_clearSpan, Cond.instanceMethod yX2_clearSpan, Cond.selects RX2 yX2_clearSpan yX2_clearSpan, Cond.code yX2_clearSpan cX2_clearSpan 5 none, Cond.fieldLink RX2 9 "SentenceGym$PartSets" "pairs" "[I", Cond.static yX4_spanOf, Cond.code yX4_spanOf cX4_spanOf 2 (some .int), Cond.methodLink RX2 34 yX2_allowWord, Cond.instanceMethod yX2_allowWord, Cond.selects RX2 yX2_allowWord yX2_allowWord, Cond.code yX2_allowWord cX2_allowWord 5 none, Cond.instanceMethod yX2_joinUpTo, Cond.selects RX2 yX2_joinUpTo yX2_joinUpTo, Cond.code yX2_joinUpTo cX2_joinUpTo 9 none, Cond.methodLink RX2 49 yX2_join, Cond.instanceMethod yX2_join, Cond.selects RX2 yX2_join yX2_join, Cond.code yX2_join cX2_join 10 none, Cond.instanceMethod yX1_pairsMade, Cond.initialized RX1, Cond.selects RX1 yX1_pairsMade yX1_pairsMade, Cond.code yX1_pairsMade cX1_pairsMade 8 (some .int), Cond.fieldLink RX1 36 "SentenceGym$Grammar" "pairMade" "[[I"]
def wsX4_sentences_r3 : List Cond := [Cond.static yX4_hasPair, Cond.code yX4_hasPair cX4_hasPair 2 (some .boolean), Cond.instanceMethod yX2_holdsSentence, Cond.selects RX2 yX2_holdsSentence yX2_holdsSentence, Cond.code yX2_holdsSentence cX2_holdsSentence 2 (some .boolean), Cond.methodLink RX2 19 yX2_pairsOf, Cond.instanceMethod yX2_pairsOf, Cond.selects RX2 yX2_pairsOf yX2_pairsOf, Cond.code yX2_pairsOf cX2_pairsOf 4 (some .int), Cond.methodLink RX4 194 yX4_nextTrial, Cond.instanceMethod yX4_nextTrial, Cond.selects RX4 yX4_nextTrial yX4_nextTrial, Cond.code yX4_nextTrial cX4_nextTrial 3 (some .int)]
def wsX4_sentences : List Cond := .code yX4_sentences cX4_sentences 2 (some .int) :: ((wsX4_sentences_r1 ++ (wsX4_sentences_r2 ++ wsX4_sentences_r3)) ++ wsX40 ++ wsX10 ++ wsX20 ++ (vx_atS RX4 56 "java/lang/IllegalArgumentException" ["java/lang/RuntimeException", "java/lang/Exception"]).filter goodWord)
def wsX4_trialAsDigits : List Cond := .code yX4_trialAsDigits cX4_trialAsDigits 4 (some .int) :: ([.fieldLink RX4 24 "SentenceGym" "trial" "[I"] ++ wsX40)
def wsX4_sentence_r1 : List Cond := [Cond.classLink RX4 52 "java/lang/IllegalArgumentException", Cond.initialized "java/lang/IllegalArgumentException", Cond.methodLink RX4 142 yX4_isNoLength, Cond.static yX4_isNoLength, Cond.initialized RX4, Cond.code yX4_isNoLength cX4_isNoLength 1 (some .boolean), Cond.methodLink RX4 150 yX4_makeSentences, Cond.instanceMethod yX4_makeSentences, Cond.selects RX4 yX4_makeSentences yX4_makeSentences, Cond.code yX4_makeSentences cX4_makeSentences 8 (some .int), Cond.fieldLink RX4 30 "SentenceGym" "partSets" "LSentenceGym$PartSets;", Cond.fieldLink RX4 12 "SentenceGym" "grammar" "LSentenceGym$Grammar;", Cond.fieldLink RX4 24 "SentenceGym" "trial" "[I", Cond.methodLink RX4 147 yX4_rowsOfLength, Cond.instanceMethod yX4_rowsOfLength, Cond.selects RX4 yX4_rowsOfLength yX4_rowsOfLength, Cond.code yX4_rowsOfLength cX4_rowsOfLength 4 (some .int), Cond.methodLink RX4 191 yX4_clearTrial, Cond.instanceMethod yX4_clearTrial, Cond.selects RX4 yX4_clearTrial yX4_clearTrial, Cond.code yX4_clearTrial cX4_clearTrial 2 none, Cond.instanceMethod yX2_putWord, Cond.initialized RX2, Cond.selects RX2 yX2_putWord yX2_putWord]
def wsX4_sentence_r2 : List Cond := [Cond.code yX2_putWord cX2_putWord 4 none, Cond.methodLink RX2 30 yX2_clearSpan, Cond.instanceMethod yX2_clearSpan, Cond.selects RX2 yX2_clearSpan yX2_clearSpan, Cond.code yX2_clearSpan cX2_clearSpan 5 none, Cond.fieldLink RX2 9 "SentenceGym$PartSets" "pairs" "[I", Cond.static yX4_spanOf, Cond.code yX4_spanOf cX4_spanOf 2 (some .int), Cond.methodLink RX2 34 yX2_allowWord, Cond.instanceMethod yX2_allowWord, Cond.selects RX2 yX2_allowWord yX2_allowWord, Cond.code yX2_allowWord cX2_allowWord 5 none, Cond.instanceMethod yX2_joinUpTo, Cond.selects RX2 yX2_joinUpTo yX2_joinUpTo, Cond.code yX2_joinUpTo cX2_joinUpTo 9 none, Cond.methodLink RX2 49 yX2_join, Cond.instanceMethod yX2_join, Cond.selects RX2 yX2_join yX2_join, Cond.code yX2_join cX2_join 10 none, Cond.instanceMethod yX1_pairsMade, Cond.initialized RX1, Cond.selects RX1 yX1_pairsMade yX1_pairsMade, Cond.code yX1_pairsMade cX1_pairsMade 8 (some .int), Cond.fieldLink RX1 36 "SentenceGym$Grammar" "pairMade" "[[I"]
def wsX4_sentence_r3 : List Cond := [Cond.static yX4_hasPair, Cond.code yX4_hasPair cX4_hasPair 2 (some .boolean), Cond.instanceMethod yX2_holdsSentence, Cond.selects RX2 yX2_holdsSentence yX2_holdsSentence, Cond.code yX2_holdsSentence cX2_holdsSentence 2 (some .boolean), Cond.methodLink RX2 19 yX2_pairsOf, Cond.instanceMethod yX2_pairsOf, Cond.selects RX2 yX2_pairsOf yX2_pairsOf, Cond.code yX2_pairsOf cX2_pairsOf 4 (some .int), Cond.methodLink RX4 194 yX4_nextTrial, Cond.instanceMethod yX4_nextTrial, Cond.selects RX4 yX4_nextTrial yX4_nextTrial, Cond.code yX4_nextTrial cX4_nextTrial 3 (some .int), Cond.methodLink RX4 155 yX4_trialAsDigits, Cond.instanceMethod yX4_trialAsDigits, Cond.selects RX4 yX4_trialAsDigits yX4_trialAsDigits, Cond.code yX4_trialAsDigits cX4_trialAsDigits 4 (some .int)]
def wsX4_sentence : List Cond := .code yX4_sentence cX4_sentence 3 (some .int) :: ((wsX4_sentence_r1 ++ (wsX4_sentence_r2 ++ wsX4_sentence_r3)) ++ wsX40 ++ wsX10 ++ wsX20 ++ (vx_atS RX4 56 "java/lang/IllegalArgumentException" ["java/lang/RuntimeException", "java/lang/Exception"]).filter goodWord)
def wsX4_share_r1 : List Cond := [Cond.classLink RX4 52 "java/lang/IllegalArgumentException", Cond.initialized "java/lang/IllegalArgumentException", Cond.methodLink RX4 142 yX4_isNoLength, Cond.static yX4_isNoLength, Cond.initialized RX4, Cond.code yX4_isNoLength cX4_isNoLength 1 (some .boolean), Cond.methodLink RX4 147 yX4_rowsOfLength, Cond.instanceMethod yX4_rowsOfLength, Cond.selects RX4 yX4_rowsOfLength yX4_rowsOfLength, Cond.code yX4_rowsOfLength cX4_rowsOfLength 4 (some .int), Cond.fieldLink RX4 12 "SentenceGym" "grammar" "LSentenceGym$Grammar;", Cond.methodLink RX4 150 yX4_makeSentences, Cond.instanceMethod yX4_makeSentences, Cond.selects RX4 yX4_makeSentences yX4_makeSentences, Cond.code yX4_makeSentences cX4_makeSentences 8 (some .int), Cond.fieldLink RX4 30 "SentenceGym" "partSets" "LSentenceGym$PartSets;", Cond.fieldLink RX4 24 "SentenceGym" "trial" "[I", Cond.methodLink RX4 191 yX4_clearTrial, Cond.instanceMethod yX4_clearTrial, Cond.selects RX4 yX4_clearTrial yX4_clearTrial, Cond.code yX4_clearTrial cX4_clearTrial 2 none, Cond.instanceMethod yX2_putWord, Cond.initialized RX2, Cond.selects RX2 yX2_putWord yX2_putWord]
def wsX4_share_r2 : List Cond := [Cond.code yX2_putWord cX2_putWord 4 none, Cond.methodLink RX2 30 yX2_clearSpan, Cond.instanceMethod yX2_clearSpan, Cond.selects RX2 yX2_clearSpan yX2_clearSpan, Cond.code yX2_clearSpan cX2_clearSpan 5 none, Cond.fieldLink RX2 9 "SentenceGym$PartSets" "pairs" "[I", Cond.static yX4_spanOf, Cond.code yX4_spanOf cX4_spanOf 2 (some .int), Cond.methodLink RX2 34 yX2_allowWord, Cond.instanceMethod yX2_allowWord, Cond.selects RX2 yX2_allowWord yX2_allowWord, Cond.code yX2_allowWord cX2_allowWord 5 none, Cond.instanceMethod yX2_joinUpTo, Cond.selects RX2 yX2_joinUpTo yX2_joinUpTo, Cond.code yX2_joinUpTo cX2_joinUpTo 9 none, Cond.methodLink RX2 49 yX2_join, Cond.instanceMethod yX2_join, Cond.selects RX2 yX2_join yX2_join, Cond.code yX2_join cX2_join 10 none, Cond.instanceMethod yX1_pairsMade, Cond.initialized RX1, Cond.selects RX1 yX1_pairsMade yX1_pairsMade, Cond.code yX1_pairsMade cX1_pairsMade 8 (some .int), Cond.fieldLink RX1 36 "SentenceGym$Grammar" "pairMade" "[[I"]
def wsX4_share_r3 : List Cond := [Cond.static yX4_hasPair, Cond.code yX4_hasPair cX4_hasPair 2 (some .boolean), Cond.instanceMethod yX2_holdsSentence, Cond.selects RX2 yX2_holdsSentence yX2_holdsSentence, Cond.code yX2_holdsSentence cX2_holdsSentence 2 (some .boolean), Cond.methodLink RX2 19 yX2_pairsOf, Cond.instanceMethod yX2_pairsOf, Cond.selects RX2 yX2_pairsOf yX2_pairsOf, Cond.code yX2_pairsOf cX2_pairsOf 4 (some .int), Cond.methodLink RX4 194 yX4_nextTrial, Cond.instanceMethod yX4_nextTrial, Cond.selects RX4 yX4_nextTrial yX4_nextTrial, Cond.code yX4_nextTrial cX4_nextTrial 3 (some .int)]
def wsX4_share : List Cond := .code yX4_share cX4_share 3 (some .float) :: ((wsX4_share_r1 ++ (wsX4_share_r2 ++ wsX4_share_r3)) ++ wsX40 ++ wsX10 ++ wsX20 ++ (vx_atS RX4 56 "java/lang/IllegalArgumentException" ["java/lang/RuntimeException", "java/lang/Exception"]).filter goodWord)
def wsX4_isSentenceFreeAt_r1 : List Cond := [Cond.fieldLink RX4 20 "SentenceGym" "rowLength" "I", Cond.fieldLink RX4 30 "SentenceGym" "partSets" "LSentenceGym$PartSets;", Cond.fieldLink RX4 12 "SentenceGym" "grammar" "LSentenceGym$Grammar;", Cond.fieldLink RX4 16 "SentenceGym" "row" "[I", Cond.instanceMethod yX2_putAnyWord, Cond.initialized RX2, Cond.selects RX2 yX2_putAnyWord yX2_putAnyWord, Cond.code yX2_putAnyWord cX2_putAnyWord 4 none, Cond.methodLink RX2 30 yX2_clearSpan, Cond.instanceMethod yX2_clearSpan, Cond.selects RX2 yX2_clearSpan yX2_clearSpan, Cond.code yX2_clearSpan cX2_clearSpan 5 none, Cond.fieldLink RX2 9 "SentenceGym$PartSets" "pairs" "[I", Cond.static yX4_spanOf, Cond.initialized RX4, Cond.code yX4_spanOf cX4_spanOf 2 (some .int), Cond.methodLink RX2 34 yX2_allowWord, Cond.instanceMethod yX2_allowWord, Cond.selects RX2 yX2_allowWord yX2_allowWord, Cond.code yX2_allowWord cX2_allowWord 5 none, Cond.instanceMethod yX2_putWord, Cond.selects RX2 yX2_putWord yX2_putWord, Cond.code yX2_putWord cX2_putWord 4 none, Cond.instanceMethod yX2_joinUpTo]
def wsX4_isSentenceFreeAt_r2 : List Cond := [Cond.selects RX2 yX2_joinUpTo yX2_joinUpTo, Cond.code yX2_joinUpTo cX2_joinUpTo 9 none, Cond.methodLink RX2 49 yX2_join, Cond.instanceMethod yX2_join, Cond.selects RX2 yX2_join yX2_join, Cond.code yX2_join cX2_join 10 none, Cond.instanceMethod yX1_pairsMade, Cond.initialized RX1, Cond.selects RX1 yX1_pairsMade yX1_pairsMade, Cond.code yX1_pairsMade cX1_pairsMade 8 (some .int), Cond.fieldLink RX1 36 "SentenceGym$Grammar" "pairMade" "[[I", Cond.static yX4_hasPair, Cond.code yX4_hasPair cX4_hasPair 2 (some .boolean), Cond.instanceMethod yX2_holdsSentence, Cond.selects RX2 yX2_holdsSentence yX2_holdsSentence, Cond.code yX2_holdsSentence cX2_holdsSentence 2 (some .boolean), Cond.methodLink RX2 19 yX2_pairsOf, Cond.instanceMethod yX2_pairsOf, Cond.selects RX2 yX2_pairsOf yX2_pairsOf, Cond.code yX2_pairsOf cX2_pairsOf 4 (some .int)]
def wsX4_isSentenceFreeAt : List Cond := .code yX4_isSentenceFreeAt cX4_isSentenceFreeAt 4 (some .boolean) :: ((wsX4_isSentenceFreeAt_r1 ++ wsX4_isSentenceFreeAt_r2) ++ wsX40 ++ wsX10 ++ wsX20)
def wsX4_isSentenceWith_r1 : List Cond := [Cond.fieldLink RX4 16 "SentenceGym" "row" "[I", Cond.fieldLink RX4 24 "SentenceGym" "trial" "[I", Cond.fieldLink RX4 20 "SentenceGym" "rowLength" "I", Cond.methodLink RX4 174 arraycopyName, Cond.native arraycopyName, Cond.static arraycopyName, Cond.initialized "java/lang/System", Cond.fieldLink RX4 30 "SentenceGym" "partSets" "LSentenceGym$PartSets;", Cond.fieldLink RX4 12 "SentenceGym" "grammar" "LSentenceGym$Grammar;", Cond.instanceMethod yX2_parse, Cond.initialized RX2, Cond.selects RX2 yX2_parse yX2_parse, Cond.code yX2_parse cX2_parse 6 none, Cond.methodLink RX2 23 yX2_putWord, Cond.instanceMethod yX2_putWord, Cond.selects RX2 yX2_putWord yX2_putWord, Cond.code yX2_putWord cX2_putWord 4 none, Cond.methodLink RX2 30 yX2_clearSpan, Cond.instanceMethod yX2_clearSpan, Cond.selects RX2 yX2_clearSpan yX2_clearSpan, Cond.code yX2_clearSpan cX2_clearSpan 5 none, Cond.fieldLink RX2 9 "SentenceGym$PartSets" "pairs" "[I", Cond.static yX4_spanOf, Cond.initialized RX4]
def wsX4_isSentenceWith_r2 : List Cond := [Cond.code yX4_spanOf cX4_spanOf 2 (some .int), Cond.methodLink RX2 34 yX2_allowWord, Cond.instanceMethod yX2_allowWord, Cond.selects RX2 yX2_allowWord yX2_allowWord, Cond.code yX2_allowWord cX2_allowWord 5 none, Cond.methodLink RX2 27 yX2_joinUpTo, Cond.instanceMethod yX2_joinUpTo, Cond.selects RX2 yX2_joinUpTo yX2_joinUpTo, Cond.code yX2_joinUpTo cX2_joinUpTo 9 none, Cond.methodLink RX2 49 yX2_join, Cond.instanceMethod yX2_join, Cond.selects RX2 yX2_join yX2_join, Cond.code yX2_join cX2_join 10 none, Cond.instanceMethod yX1_pairsMade, Cond.initialized RX1, Cond.selects RX1 yX1_pairsMade yX1_pairsMade, Cond.code yX1_pairsMade cX1_pairsMade 8 (some .int), Cond.fieldLink RX1 36 "SentenceGym$Grammar" "pairMade" "[[I", Cond.static yX4_hasPair, Cond.code yX4_hasPair cX4_hasPair 2 (some .boolean), Cond.instanceMethod yX2_holdsSentence, Cond.selects RX2 yX2_holdsSentence yX2_holdsSentence, Cond.code yX2_holdsSentence cX2_holdsSentence 2 (some .boolean), Cond.methodLink RX2 19 yX2_pairsOf]
def wsX4_isSentenceWith_r3 : List Cond := [Cond.instanceMethod yX2_pairsOf, Cond.selects RX2 yX2_pairsOf yX2_pairsOf, Cond.code yX2_pairsOf cX2_pairsOf 4 (some .int)]
def wsX4_isSentenceWith : List Cond := .code yX4_isSentenceWith cX4_isSentenceWith 3 (some .boolean) :: ((wsX4_isSentenceWith_r1 ++ (wsX4_isSentenceWith_r2 ++ wsX4_isSentenceWith_r3)) ++ wsX40 ++ wsX10 ++ wsX20)
def wsX4_spoil_r1 : List Cond := [Cond.classLink RX4 79 "java/lang/IndexOutOfBoundsException", Cond.initialized "java/lang/IndexOutOfBoundsException", Cond.fieldLink RX4 20 "SentenceGym" "rowLength" "I", Cond.fieldLink RX4 12 "SentenceGym" "grammar" "LSentenceGym$Grammar;", Cond.fieldLink RX4 16 "SentenceGym" "row" "[I", Cond.methodLink RX4 75 yX4_isOutside, Cond.static yX4_isOutside, Cond.initialized RX4, Cond.code yX4_isOutside cX4_isOutside 2 (some .boolean), Cond.methodLink RX4 158 yX4_isSentenceFreeAt, Cond.instanceMethod yX4_isSentenceFreeAt, Cond.selects RX4 yX4_isSentenceFreeAt yX4_isSentenceFreeAt, Cond.code yX4_isSentenceFreeAt cX4_isSentenceFreeAt 4 (some .boolean), Cond.fieldLink RX4 30 "SentenceGym" "partSets" "LSentenceGym$PartSets;", Cond.instanceMethod yX2_putAnyWord, Cond.initialized RX2, Cond.selects RX2 yX2_putAnyWord yX2_putAnyWord, Cond.code yX2_putAnyWord cX2_putAnyWord 4 none, Cond.methodLink RX2 30 yX2_clearSpan, Cond.instanceMethod yX2_clearSpan, Cond.selects RX2 yX2_clearSpan yX2_clearSpan, Cond.code yX2_clearSpan cX2_clearSpan 5 none, Cond.fieldLink RX2 9 "SentenceGym$PartSets" "pairs" "[I", Cond.static yX4_spanOf]
def wsX4_spoil_r2 : List Cond := [Cond.code yX4_spanOf cX4_spanOf 2 (some .int), Cond.methodLink RX2 34 yX2_allowWord, Cond.instanceMethod yX2_allowWord, Cond.selects RX2 yX2_allowWord yX2_allowWord, Cond.code yX2_allowWord cX2_allowWord 5 none, Cond.instanceMethod yX2_putWord, Cond.selects RX2 yX2_putWord yX2_putWord, Cond.code yX2_putWord cX2_putWord 4 none, Cond.instanceMethod yX2_joinUpTo, Cond.selects RX2 yX2_joinUpTo yX2_joinUpTo, Cond.code yX2_joinUpTo cX2_joinUpTo 9 none, Cond.methodLink RX2 49 yX2_join, Cond.instanceMethod yX2_join, Cond.selects RX2 yX2_join yX2_join, Cond.code yX2_join cX2_join 10 none, Cond.instanceMethod yX1_pairsMade, Cond.initialized RX1, Cond.selects RX1 yX1_pairsMade yX1_pairsMade, Cond.code yX1_pairsMade cX1_pairsMade 8 (some .int), Cond.fieldLink RX1 36 "SentenceGym$Grammar" "pairMade" "[[I", Cond.static yX4_hasPair, Cond.code yX4_hasPair cX4_hasPair 2 (some .boolean), Cond.instanceMethod yX2_holdsSentence, Cond.selects RX2 yX2_holdsSentence yX2_holdsSentence]
def wsX4_spoil_r3 : List Cond := [Cond.code yX2_holdsSentence cX2_holdsSentence 2 (some .boolean), Cond.methodLink RX2 19 yX2_pairsOf, Cond.instanceMethod yX2_pairsOf, Cond.selects RX2 yX2_pairsOf yX2_pairsOf, Cond.code yX2_pairsOf cX2_pairsOf 4 (some .int), Cond.methodLink RX4 161 yX4_isSentenceWith, Cond.instanceMethod yX4_isSentenceWith, Cond.selects RX4 yX4_isSentenceWith yX4_isSentenceWith, Cond.code yX4_isSentenceWith cX4_isSentenceWith 3 (some .boolean), Cond.fieldLink RX4 24 "SentenceGym" "trial" "[I", Cond.methodLink RX4 174 arraycopyName, Cond.native arraycopyName, Cond.static arraycopyName, Cond.initialized "java/lang/System", Cond.instanceMethod yX2_parse, Cond.selects RX2 yX2_parse yX2_parse, Cond.code yX2_parse cX2_parse 6 none, Cond.methodLink RX2 23 yX2_putWord, Cond.methodLink RX2 27 yX2_joinUpTo]
def wsX4_spoil : List Cond := .code yX4_spoil cX4_spoil 4 (some .int) :: ((wsX4_spoil_r1 ++ (wsX4_spoil_r2 ++ wsX4_spoil_r3)) ++ wsX40 ++ wsX10 ++ wsX20 ++ (vx_atS RX4 83 "java/lang/IndexOutOfBoundsException" ["java/lang/RuntimeException", "java/lang/Exception"]).filter goodWord)
def wsX4_changes_r1 : List Cond := [Cond.fieldLink RX4 20 "SentenceGym" "rowLength" "I", Cond.methodLink RX4 158 yX4_isSentenceFreeAt, Cond.instanceMethod yX4_isSentenceFreeAt, Cond.selects RX4 yX4_isSentenceFreeAt yX4_isSentenceFreeAt, Cond.initialized RX4, Cond.code yX4_isSentenceFreeAt cX4_isSentenceFreeAt 4 (some .boolean), Cond.fieldLink RX4 30 "SentenceGym" "partSets" "LSentenceGym$PartSets;", Cond.fieldLink RX4 12 "SentenceGym" "grammar" "LSentenceGym$Grammar;", Cond.fieldLink RX4 16 "SentenceGym" "row" "[I", Cond.instanceMethod yX2_putAnyWord, Cond.initialized RX2, Cond.selects RX2 yX2_putAnyWord yX2_putAnyWord, Cond.code yX2_putAnyWord cX2_putAnyWord 4 none, Cond.methodLink RX2 30 yX2_clearSpan, Cond.instanceMethod yX2_clearSpan, Cond.selects RX2 yX2_clearSpan yX2_clearSpan, Cond.code yX2_clearSpan cX2_clearSpan 5 none, Cond.fieldLink RX2 9 "SentenceGym$PartSets" "pairs" "[I", Cond.static yX4_spanOf, Cond.code yX4_spanOf cX4_spanOf 2 (some .int), Cond.methodLink RX2 34 yX2_allowWord, Cond.instanceMethod yX2_allowWord, Cond.selects RX2 yX2_allowWord yX2_allowWord, Cond.code yX2_allowWord cX2_allowWord 5 none]
def wsX4_changes_r2 : List Cond := [Cond.instanceMethod yX2_putWord, Cond.selects RX2 yX2_putWord yX2_putWord, Cond.code yX2_putWord cX2_putWord 4 none, Cond.instanceMethod yX2_joinUpTo, Cond.selects RX2 yX2_joinUpTo yX2_joinUpTo, Cond.code yX2_joinUpTo cX2_joinUpTo 9 none, Cond.methodLink RX2 49 yX2_join, Cond.instanceMethod yX2_join, Cond.selects RX2 yX2_join yX2_join, Cond.code yX2_join cX2_join 10 none, Cond.instanceMethod yX1_pairsMade, Cond.initialized RX1, Cond.selects RX1 yX1_pairsMade yX1_pairsMade, Cond.code yX1_pairsMade cX1_pairsMade 8 (some .int), Cond.fieldLink RX1 36 "SentenceGym$Grammar" "pairMade" "[[I", Cond.static yX4_hasPair, Cond.code yX4_hasPair cX4_hasPair 2 (some .boolean), Cond.instanceMethod yX2_holdsSentence, Cond.selects RX2 yX2_holdsSentence yX2_holdsSentence, Cond.code yX2_holdsSentence cX2_holdsSentence 2 (some .boolean), Cond.methodLink RX2 19 yX2_pairsOf, Cond.instanceMethod yX2_pairsOf, Cond.selects RX2 yX2_pairsOf yX2_pairsOf, Cond.code yX2_pairsOf cX2_pairsOf 4 (some .int)]
def wsX4_changes : List Cond := .code yX4_changes cX4_changes 3 (some .int) :: ((wsX4_changes_r1 ++ wsX4_changes_r2) ++ wsX40 ++ wsX10 ++ wsX20)
def wsX4_correction_r1 : List Cond := [Cond.classLink RX4 79 "java/lang/IndexOutOfBoundsException", Cond.initialized "java/lang/IndexOutOfBoundsException", Cond.fieldLink RX4 20 "SentenceGym" "rowLength" "I", Cond.fieldLink RX4 12 "SentenceGym" "grammar" "LSentenceGym$Grammar;", Cond.fieldLink RX4 16 "SentenceGym" "row" "[I", Cond.methodLink RX4 161 yX4_isSentenceWith, Cond.instanceMethod yX4_isSentenceWith, Cond.selects RX4 yX4_isSentenceWith yX4_isSentenceWith, Cond.initialized RX4, Cond.code yX4_isSentenceWith cX4_isSentenceWith 3 (some .boolean), Cond.fieldLink RX4 24 "SentenceGym" "trial" "[I", Cond.methodLink RX4 174 arraycopyName, Cond.native arraycopyName, Cond.static arraycopyName, Cond.initialized "java/lang/System", Cond.fieldLink RX4 30 "SentenceGym" "partSets" "LSentenceGym$PartSets;", Cond.instanceMethod yX2_parse, Cond.initialized RX2, Cond.selects RX2 yX2_parse yX2_parse, Cond.code yX2_parse cX2_parse 6 none, Cond.methodLink RX2 23 yX2_putWord, Cond.instanceMethod yX2_putWord, Cond.selects RX2 yX2_putWord yX2_putWord, Cond.code yX2_putWord cX2_putWord 4 none]
def wsX4_correction_r2 : List Cond := [Cond.methodLink RX2 30 yX2_clearSpan, Cond.instanceMethod yX2_clearSpan, Cond.selects RX2 yX2_clearSpan yX2_clearSpan, Cond.code yX2_clearSpan cX2_clearSpan 5 none, Cond.fieldLink RX2 9 "SentenceGym$PartSets" "pairs" "[I", Cond.static yX4_spanOf, Cond.code yX4_spanOf cX4_spanOf 2 (some .int), Cond.methodLink RX2 34 yX2_allowWord, Cond.instanceMethod yX2_allowWord, Cond.selects RX2 yX2_allowWord yX2_allowWord, Cond.code yX2_allowWord cX2_allowWord 5 none, Cond.methodLink RX2 27 yX2_joinUpTo, Cond.instanceMethod yX2_joinUpTo, Cond.selects RX2 yX2_joinUpTo yX2_joinUpTo, Cond.code yX2_joinUpTo cX2_joinUpTo 9 none, Cond.methodLink RX2 49 yX2_join, Cond.instanceMethod yX2_join, Cond.selects RX2 yX2_join yX2_join, Cond.code yX2_join cX2_join 10 none, Cond.instanceMethod yX1_pairsMade, Cond.initialized RX1, Cond.selects RX1 yX1_pairsMade yX1_pairsMade, Cond.code yX1_pairsMade cX1_pairsMade 8 (some .int), Cond.fieldLink RX1 36 "SentenceGym$Grammar" "pairMade" "[[I"]
def wsX4_correction_r3 : List Cond := [Cond.static yX4_hasPair, Cond.code yX4_hasPair cX4_hasPair 2 (some .boolean), Cond.instanceMethod yX2_holdsSentence, Cond.selects RX2 yX2_holdsSentence yX2_holdsSentence, Cond.code yX2_holdsSentence cX2_holdsSentence 2 (some .boolean), Cond.methodLink RX2 19 yX2_pairsOf, Cond.instanceMethod yX2_pairsOf, Cond.selects RX2 yX2_pairsOf yX2_pairsOf, Cond.code yX2_pairsOf cX2_pairsOf 4 (some .int)]
def wsX4_correction : List Cond := .code yX4_correction cX4_correction 5 (some .int) :: ((wsX4_correction_r1 ++ (wsX4_correction_r2 ++ wsX4_correction_r3)) ++ wsX40 ++ wsX10 ++ wsX20 ++ (vx_atS RX4 83 "java/lang/IndexOutOfBoundsException" ["java/lang/RuntimeException", "java/lang/Exception"]).filter goodWord)
def wsL_cell : List Cond := .code yL_cell cL_cell 2 (some .int) :: ([.constant RL 7 (33013), .constant RL 8 (2147483647)])
def wsL_word_r1 : List Cond := [Cond.classLink RL 15 "java/lang/IllegalArgumentException", Cond.classLink RL 17 "java/lang/IllegalStateException", Cond.methodLink RL 9 yX4_addWord, Cond.instanceMethod yX4_addWord, Cond.selects RX4 yX4_addWord yX4_addWord, Cond.initialized RX4, Cond.code yX4_addWord cX4_addWord 5 (some .int), Cond.classLink RX4 52 "java/lang/IllegalArgumentException", Cond.initialized "java/lang/IllegalArgumentException", Cond.classLink RX4 62 "java/lang/IllegalStateException", Cond.initialized "java/lang/IllegalStateException", Cond.fieldLink RX4 12 "SentenceGym" "grammar" "LSentenceGym$Grammar;", Cond.methodLink RX4 48 yX4_isNoKind, Cond.static yX4_isNoKind, Cond.code yX4_isNoKind cX4_isNoKind 3 (some .boolean), Cond.methodLink RX4 75 yX4_isOutside, Cond.static yX4_isOutside, Cond.code yX4_isOutside cX4_isOutside 2 (some .boolean), Cond.methodLink RX4 67 yX4_pairOf, Cond.static yX4_pairOf, Cond.code yX4_pairOf cX4_pairOf 2 (some .int), Cond.instanceMethod yX1_defineWord, Cond.initialized RX1, Cond.selects RX1 yX1_defineWord yX1_defineWord]
def wsL_word_r2 : List Cond := [Cond.code yX1_defineWord cX1_defineWord 4 none, Cond.fieldLink RX1 15 "SentenceGym$Grammar" "wordCategory" "[I", Cond.fieldLink RX1 19 "SentenceGym$Grammar" "wordPair" "[I"]
def wsL_word : List Cond := .codeWith yL_word cL_word 5 (some .int) [(0, 7, 8, 15), (0, 7, 13, 17)] :: ((wsL_word_r1 ++ wsL_word_r2) ++ wsX40 ++ wsX10 ++ (vx_atS RX4 56 "java/lang/IllegalArgumentException" ["java/lang/RuntimeException", "java/lang/Exception"]).filter goodWord ++ (vx_atS RX4 66 "java/lang/IllegalStateException" ["java/lang/RuntimeException", "java/lang/Exception"]).filter goodWord)
def wsL_setWord_r1 : List Cond := [Cond.classLink RL 23 "java/lang/IndexOutOfBoundsException", Cond.classLink RL 15 "java/lang/IllegalArgumentException", Cond.methodLink RL 19 yX4_setWord, Cond.instanceMethod yX4_setWord, Cond.selects RX4 yX4_setWord yX4_setWord, Cond.initialized RX4, Cond.code yX4_setWord cX4_setWord 6 (some .int), Cond.classLink RX4 79 "java/lang/IndexOutOfBoundsException", Cond.initialized "java/lang/IndexOutOfBoundsException", Cond.classLink RX4 52 "java/lang/IllegalArgumentException", Cond.initialized "java/lang/IllegalArgumentException", Cond.fieldLink RX4 12 "SentenceGym" "grammar" "LSentenceGym$Grammar;", Cond.methodLink RX4 75 yX4_isOutside, Cond.static yX4_isOutside, Cond.code yX4_isOutside cX4_isOutside 2 (some .boolean), Cond.methodLink RX4 48 yX4_isNoKind, Cond.static yX4_isNoKind, Cond.code yX4_isNoKind cX4_isNoKind 3 (some .boolean), Cond.methodLink RX4 67 yX4_pairOf, Cond.static yX4_pairOf, Cond.code yX4_pairOf cX4_pairOf 2 (some .int), Cond.instanceMethod yX1_defineWord, Cond.initialized RX1, Cond.selects RX1 yX1_defineWord yX1_defineWord]
def wsL_setWord_r2 : List Cond := [Cond.code yX1_defineWord cX1_defineWord 4 none, Cond.fieldLink RX1 15 "SentenceGym$Grammar" "wordCategory" "[I", Cond.fieldLink RX1 19 "SentenceGym$Grammar" "wordPair" "[I"]
def wsL_setWord : List Cond := .codeWith yL_setWord cL_setWord 6 (some .int) [(0, 9, 10, 23), (0, 9, 15, 15)] :: ((wsL_setWord_r1 ++ wsL_setWord_r2) ++ wsX40 ++ wsX10 ++ (vx_atS RX4 83 "java/lang/IndexOutOfBoundsException" ["java/lang/RuntimeException", "java/lang/Exception"]).filter goodWord ++ (vx_atS RX4 56 "java/lang/IllegalArgumentException" ["java/lang/RuntimeException", "java/lang/Exception"]).filter goodWord)
def wsL_rule_r1 : List Cond := [Cond.classLink RL 15 "java/lang/IllegalArgumentException", Cond.classLink RL 17 "java/lang/IllegalStateException", Cond.methodLink RL 25 yX4_addRule, Cond.instanceMethod yX4_addRule, Cond.selects RX4 yX4_addRule yX4_addRule, Cond.initialized RX4, Cond.code yX4_addRule cX4_addRule 6 (some .int), Cond.classLink RX4 52 "java/lang/IllegalArgumentException", Cond.initialized "java/lang/IllegalArgumentException", Cond.classLink RX4 62 "java/lang/IllegalStateException", Cond.initialized "java/lang/IllegalStateException", Cond.fieldLink RX4 12 "SentenceGym" "grammar" "LSentenceGym$Grammar;", Cond.methodLink RX4 75 yX4_isOutside, Cond.static yX4_isOutside, Cond.code yX4_isOutside cX4_isOutside 2 (some .boolean), Cond.methodLink RX4 87 yX4_isNoDigitPair, Cond.static yX4_isNoDigitPair, Cond.code yX4_isNoDigitPair cX4_isNoDigitPair 1 (some .boolean), Cond.instanceMethod yX1_defineRule, Cond.initialized RX1, Cond.selects RX1 yX1_defineRule yX1_defineRule, Cond.code yX1_defineRule cX1_defineRule 7 none, Cond.fieldLink RX1 25 "SentenceGym$Grammar" "made" "[I", Cond.fieldLink RX1 28 "SentenceGym$Grammar" "first" "[I"]
def wsL_rule_r2 : List Cond := [Cond.fieldLink RX1 31 "SentenceGym$Grammar" "second" "[I", Cond.fieldLink RX1 36 "SentenceGym$Grammar" "pairMade" "[[I", Cond.methodLink RX1 39 yX1_joinedPair, Cond.static yX1_joinedPair, Cond.code yX1_joinedPair cX1_joinedPair 5 (some .int), Cond.methodLink RX1 43 yX1_joinedValue, Cond.static yX1_joinedValue, Cond.code yX1_joinedValue cX1_joinedValue 3 (some .int), Cond.static yX4_pairOf, Cond.code yX4_pairOf cX4_pairOf 2 (some .int)]
def wsL_rule : List Cond := .codeWith yL_rule cL_rule 6 (some .int) [(0, 9, 10, 15), (0, 9, 15, 17)] :: ((wsL_rule_r1 ++ wsL_rule_r2) ++ wsX40 ++ wsX10 ++ (vx_atS RX4 56 "java/lang/IllegalArgumentException" ["java/lang/RuntimeException", "java/lang/Exception"]).filter goodWord ++ (vx_atS RX4 66 "java/lang/IllegalStateException" ["java/lang/RuntimeException", "java/lang/Exception"]).filter goodWord)
def wsL_drop : List Cond := .codeWith yL_drop cL_drop 2 (some .int) [(0, 4, 5, 17)] :: ([.classLink RL 17 "java/lang/IllegalStateException", .methodLink RL 28 yX4_dropRule, .instanceMethod yX4_dropRule, .selects RX4 yX4_dropRule yX4_dropRule, .initialized RX4, .code yX4_dropRule cX4_dropRule 1 (some .int), .classLink RX4 62 "java/lang/IllegalStateException", .initialized "java/lang/IllegalStateException", .fieldLink RX4 12 "SentenceGym" "grammar" "LSentenceGym$Grammar;"] ++ wsX40 ++ wsX10 ++ (vx_atS RX4 66 "java/lang/IllegalStateException" ["java/lang/RuntimeException", "java/lang/Exception"]).filter goodWord)
def wsL_say : List Cond := .codeWith yL_say cL_say 3 (some .int) [(0, 5, 6, 23), (0, 5, 10, 17)] :: ([.classLink RL 23 "java/lang/IndexOutOfBoundsException", .classLink RL 17 "java/lang/IllegalStateException", .methodLink RL 32 yX4_say, .instanceMethod yX4_say, .selects RX4 yX4_say yX4_say, .initialized RX4, .code yX4_say cX4_say 2 (some .int), .classLink RX4 79 "java/lang/IndexOutOfBoundsException", .initialized "java/lang/IndexOutOfBoundsException", .classLink RX4 62 "java/lang/IllegalStateException", .initialized "java/lang/IllegalStateException", .fieldLink RX4 12 "SentenceGym" "grammar" "LSentenceGym$Grammar;", .fieldLink RX4 20 "SentenceGym" "rowLength" "I", .fieldLink RX4 16 "SentenceGym" "row" "[I", .methodLink RX4 75 yX4_isOutside, .static yX4_isOutside, .code yX4_isOutside cX4_isOutside 2 (some .boolean)] ++ wsX40 ++ wsX10 ++ (vx_atS RX4 83 "java/lang/IndexOutOfBoundsException" ["java/lang/RuntimeException", "java/lang/Exception"]).filter goodWord ++ (vx_atS RX4 66 "java/lang/IllegalStateException" ["java/lang/RuntimeException", "java/lang/Exception"]).filter goodWord)
def wsL_change : List Cond := .codeWith yL_change cL_change 4 (some .int) [(0, 6, 7, 23)] :: ([.classLink RL 23 "java/lang/IndexOutOfBoundsException", .methodLink RL 36 yX4_change, .instanceMethod yX4_change, .selects RX4 yX4_change yX4_change, .initialized RX4, .code yX4_change cX4_change 4 (some .int), .classLink RX4 79 "java/lang/IndexOutOfBoundsException", .initialized "java/lang/IndexOutOfBoundsException", .fieldLink RX4 20 "SentenceGym" "rowLength" "I", .fieldLink RX4 12 "SentenceGym" "grammar" "LSentenceGym$Grammar;", .fieldLink RX4 16 "SentenceGym" "row" "[I", .methodLink RX4 75 yX4_isOutside, .static yX4_isOutside, .code yX4_isOutside cX4_isOutside 2 (some .boolean)] ++ wsX40 ++ wsX10 ++ (vx_atS RX4 83 "java/lang/IndexOutOfBoundsException" ["java/lang/RuntimeException", "java/lang/Exception"]).filter goodWord)
def wsL_at : List Cond := .codeWith yL_at cL_at 3 (some .int) [(0, 5, 6, 23)] :: ([.classLink RL 23 "java/lang/IndexOutOfBoundsException", .methodLink RL 40 yX4_wordAt, .instanceMethod yX4_wordAt, .selects RX4 yX4_wordAt yX4_wordAt, .initialized RX4, .code yX4_wordAt cX4_wordAt 2 (some .int), .classLink RX4 79 "java/lang/IndexOutOfBoundsException", .initialized "java/lang/IndexOutOfBoundsException", .fieldLink RX4 20 "SentenceGym" "rowLength" "I", .fieldLink RX4 16 "SentenceGym" "row" "[I", .methodLink RX4 75 yX4_isOutside, .static yX4_isOutside, .code yX4_isOutside cX4_isOutside 2 (some .boolean)] ++ wsX40 ++ (vx_atS RX4 83 "java/lang/IndexOutOfBoundsException" ["java/lang/RuntimeException", "java/lang/Exception"]).filter goodWord)
def wsL_count_r1 : List Cond := [Cond.classLink RL 23 "java/lang/IndexOutOfBoundsException", Cond.methodLink RL 43 yX4_readingsOf, Cond.instanceMethod yX4_readingsOf, Cond.selects RX4 yX4_readingsOf yX4_readingsOf, Cond.initialized RX4, Cond.code yX4_readingsOf cX4_readingsOf 4 (some .int), Cond.classLink RX4 79 "java/lang/IndexOutOfBoundsException", Cond.initialized "java/lang/IndexOutOfBoundsException", Cond.methodLink RX4 122 yX4_isNoSpan, Cond.instanceMethod yX4_isNoSpan, Cond.selects RX4 yX4_isNoSpan yX4_isNoSpan, Cond.code yX4_isNoSpan cX4_isNoSpan 3 (some .boolean), Cond.fieldLink RX4 20 "SentenceGym" "rowLength" "I", Cond.methodLink RX4 75 yX4_isOutside, Cond.static yX4_isOutside, Cond.code yX4_isOutside cX4_isOutside 2 (some .boolean), Cond.methodLink RX4 110 yX4_countReadings, Cond.instanceMethod yX4_countReadings, Cond.selects RX4 yX4_countReadings yX4_countReadings, Cond.code yX4_countReadings cX4_countReadings 4 (some .int), Cond.fieldLink RX4 37 "SentenceGym" "countChart" "LSentenceGym$CountChart;", Cond.fieldLink RX4 12 "SentenceGym" "grammar" "LSentenceGym$Grammar;", Cond.fieldLink RX4 16 "SentenceGym" "row" "[I", Cond.instanceMethod yX0_fill]
def wsL_count_r2 : List Cond := [Cond.initialized RX0, Cond.selects RX0 yX0_fill yX0_fill, Cond.code yX0_fill cX0_fill 6 none, Cond.methodLink RX0 24 yX0_fillSpan, Cond.instanceMethod yX0_fillSpan, Cond.selects RX0 yX0_fillSpan yX0_fillSpan, Cond.code yX0_fillSpan cX0_fillSpan 9 none, Cond.fieldLink RX0 11 "SentenceGym$CountChart" "counts" "[[I", Cond.static yX4_spanOf, Cond.code yX4_spanOf cX4_spanOf 2 (some .int), Cond.methodLink RX0 28 yJ7_fill_53178, Cond.static yJ7_fill_53178, Cond.initialized RJ7, Cond.code yJ7_fill_53178 cJ7_fill_53178 4 none, Cond.instanceMethod yX1_countWord, Cond.initialized RX1, Cond.selects RX1 yX1_countWord yX1_countWord, Cond.code yX1_countWord cX1_countWord 3 none, Cond.fieldLink RX1 15 "SentenceGym$Grammar" "wordCategory" "[I", Cond.fieldLink RX1 19 "SentenceGym$Grammar" "wordPair" "[I", Cond.instanceMethod yX1_addJoined, Cond.selects RX1 yX1_addJoined yX1_addJoined, Cond.code yX1_addJoined cX1_addJoined 7 none, Cond.fieldLink RX1 22 "SentenceGym$Grammar" "rules" "I"]
def wsL_count_r3 : List Cond := [Cond.fieldLink RX1 28 "SentenceGym$Grammar" "first" "[I", Cond.methodLink RX1 54 yX1_addJoinedWith, Cond.instanceMethod yX1_addJoinedWith, Cond.selects RX1 yX1_addJoinedWith yX1_addJoinedWith, Cond.code yX1_addJoinedWith cX1_addJoinedWith 9 none, Cond.fieldLink RX1 36 "SentenceGym$Grammar" "pairMade" "[[I", Cond.fieldLink RX1 31 "SentenceGym$Grammar" "second" "[I", Cond.fieldLink RX1 25 "SentenceGym$Grammar" "made" "[I", Cond.instanceMethod yX0_countSpan, Cond.selects RX0 yX0_countSpan yX0_countSpan, Cond.code yX0_countSpan cX0_countSpan 4 (some .int), Cond.static yX4_countOf, Cond.code yX4_countOf cX4_countOf 4 (some .int), Cond.methodLink RX4 118 yX4_told, Cond.static yX4_told, Cond.code yX4_told cX4_told 1 (some .int), Cond.constant RX4 166 (1000000)]
def wsL_count : List Cond := .codeWith yL_count cL_count 5 (some .int) [(0, 7, 8, 23)] :: ((wsL_count_r1 ++ (wsL_count_r2 ++ wsL_count_r3)) ++ wsX40 ++ wsX00 ++ wsX10 ++ (vx_atS RX4 83 "java/lang/IndexOutOfBoundsException" ["java/lang/RuntimeException", "java/lang/Exception"]).filter goodWord)
def wsL_has_r1 : List Cond := [Cond.classLink RL 23 "java/lang/IndexOutOfBoundsException", Cond.classLink RL 15 "java/lang/IllegalArgumentException", Cond.methodLink RL 46 yX4_has, Cond.instanceMethod yX4_has, Cond.selects RX4 yX4_has yX4_has, Cond.initialized RX4, Cond.code yX4_has cX4_has 6 (some .boolean), Cond.classLink RX4 79 "java/lang/IndexOutOfBoundsException", Cond.initialized "java/lang/IndexOutOfBoundsException", Cond.classLink RX4 52 "java/lang/IllegalArgumentException", Cond.initialized "java/lang/IllegalArgumentException", Cond.fieldLink RX4 30 "SentenceGym" "partSets" "LSentenceGym$PartSets;", Cond.fieldLink RX4 12 "SentenceGym" "grammar" "LSentenceGym$Grammar;", Cond.fieldLink RX4 16 "SentenceGym" "row" "[I", Cond.fieldLink RX4 20 "SentenceGym" "rowLength" "I", Cond.methodLink RX4 122 yX4_isNoSpan, Cond.instanceMethod yX4_isNoSpan, Cond.selects RX4 yX4_isNoSpan yX4_isNoSpan, Cond.code yX4_isNoSpan cX4_isNoSpan 3 (some .boolean), Cond.methodLink RX4 75 yX4_isOutside, Cond.static yX4_isOutside, Cond.code yX4_isOutside cX4_isOutside 2 (some .boolean), Cond.methodLink RX4 87 yX4_isNoDigitPair, Cond.static yX4_isNoDigitPair]
def wsL_has_r2 : List Cond := [Cond.code yX4_isNoDigitPair cX4_isNoDigitPair 1 (some .boolean), Cond.instanceMethod yX2_parse, Cond.initialized RX2, Cond.selects RX2 yX2_parse yX2_parse, Cond.code yX2_parse cX2_parse 6 none, Cond.methodLink RX2 23 yX2_putWord, Cond.instanceMethod yX2_putWord, Cond.selects RX2 yX2_putWord yX2_putWord, Cond.code yX2_putWord cX2_putWord 4 none, Cond.methodLink RX2 30 yX2_clearSpan, Cond.instanceMethod yX2_clearSpan, Cond.selects RX2 yX2_clearSpan yX2_clearSpan, Cond.code yX2_clearSpan cX2_clearSpan 5 none, Cond.fieldLink RX2 9 "SentenceGym$PartSets" "pairs" "[I", Cond.static yX4_spanOf, Cond.code yX4_spanOf cX4_spanOf 2 (some .int), Cond.methodLink RX2 34 yX2_allowWord, Cond.instanceMethod yX2_allowWord, Cond.selects RX2 yX2_allowWord yX2_allowWord, Cond.code yX2_allowWord cX2_allowWord 5 none, Cond.methodLink RX2 27 yX2_joinUpTo, Cond.instanceMethod yX2_joinUpTo, Cond.selects RX2 yX2_joinUpTo yX2_joinUpTo, Cond.code yX2_joinUpTo cX2_joinUpTo 9 none]
def wsL_has_r3 : List Cond := [Cond.methodLink RX2 49 yX2_join, Cond.instanceMethod yX2_join, Cond.selects RX2 yX2_join yX2_join, Cond.code yX2_join cX2_join 10 none, Cond.instanceMethod yX1_pairsMade, Cond.initialized RX1, Cond.selects RX1 yX1_pairsMade yX1_pairsMade, Cond.code yX1_pairsMade cX1_pairsMade 8 (some .int), Cond.fieldLink RX1 36 "SentenceGym$Grammar" "pairMade" "[[I", Cond.static yX4_hasPair, Cond.code yX4_hasPair cX4_hasPair 2 (some .boolean), Cond.instanceMethod yX2_pairsOf, Cond.selects RX2 yX2_pairsOf yX2_pairsOf, Cond.code yX2_pairsOf cX2_pairsOf 4 (some .int), Cond.methodLink RX4 67 yX4_pairOf, Cond.static yX4_pairOf, Cond.code yX4_pairOf cX4_pairOf 2 (some .int), Cond.methodLink RX4 136 yX4_hasPair]
def wsL_has : List Cond := .codeWith yL_has cL_has 6 (some .int) [(0, 17, 18, 23), (0, 17, 23, 15)] :: ((wsL_has_r1 ++ (wsL_has_r2 ++ wsL_has_r3)) ++ wsX40 ++ wsX10 ++ wsX20 ++ (vx_atS RX4 83 "java/lang/IndexOutOfBoundsException" ["java/lang/RuntimeException", "java/lang/Exception"]).filter goodWord ++ (vx_atS RX4 56 "java/lang/IllegalArgumentException" ["java/lang/RuntimeException", "java/lang/Exception"]).filter goodWord)
def wsL_sentences_r1 : List Cond := [Cond.classLink RL 15 "java/lang/IllegalArgumentException", Cond.methodLink RL 50 yX4_sentences, Cond.instanceMethod yX4_sentences, Cond.selects RX4 yX4_sentences yX4_sentences, Cond.initialized RX4, Cond.code yX4_sentences cX4_sentences 2 (some .int), Cond.classLink RX4 52 "java/lang/IllegalArgumentException", Cond.initialized "java/lang/IllegalArgumentException", Cond.methodLink RX4 142 yX4_isNoLength, Cond.static yX4_isNoLength, Cond.code yX4_isNoLength cX4_isNoLength 1 (some .boolean), Cond.methodLink RX4 147 yX4_rowsOfLength, Cond.instanceMethod yX4_rowsOfLength, Cond.selects RX4 yX4_rowsOfLength yX4_rowsOfLength, Cond.code yX4_rowsOfLength cX4_rowsOfLength 4 (some .int), Cond.fieldLink RX4 12 "SentenceGym" "grammar" "LSentenceGym$Grammar;", Cond.methodLink RX4 150 yX4_makeSentences, Cond.instanceMethod yX4_makeSentences, Cond.selects RX4 yX4_makeSentences yX4_makeSentences, Cond.code yX4_makeSentences cX4_makeSentences 8 (some .int), Cond.fieldLink RX4 30 "SentenceGym" "partSets" "LSentenceGym$PartSets;", Cond.fieldLink RX4 24 "SentenceGym" "trial" "[I", Cond.methodLink RX4 191 yX4_clearTrial, Cond.instanceMethod yX4_clearTrial]
def wsL_sentences_r2 : List Cond := [Cond.selects RX4 yX4_clearTrial yX4_clearTrial, Cond.code yX4_clearTrial cX4_clearTrial 2 none, Cond.instanceMethod yX2_putWord, Cond.initialized RX2, Cond.selects RX2 yX2_putWord yX2_putWord, Cond.code yX2_putWord cX2_putWord 4 none, Cond.methodLink RX2 30 yX2_clearSpan, Cond.instanceMethod yX2_clearSpan, Cond.selects RX2 yX2_clearSpan yX2_clearSpan, Cond.code yX2_clearSpan cX2_clearSpan 5 none, Cond.fieldLink RX2 9 "SentenceGym$PartSets" "pairs" "[I", Cond.static yX4_spanOf, Cond.code yX4_spanOf cX4_spanOf 2 (some .int), Cond.methodLink RX2 34 yX2_allowWord, Cond.instanceMethod yX2_allowWord, Cond.selects RX2 yX2_allowWord yX2_allowWord, Cond.code yX2_allowWord cX2_allowWord 5 none, Cond.instanceMethod yX2_joinUpTo, Cond.selects RX2 yX2_joinUpTo yX2_joinUpTo, Cond.code yX2_joinUpTo cX2_joinUpTo 9 none, Cond.methodLink RX2 49 yX2_join, Cond.instanceMethod yX2_join, Cond.selects RX2 yX2_join yX2_join, Cond.code yX2_join cX2_join 10 none]
def wsL_sentences_r3 : List Cond := [Cond.instanceMethod yX1_pairsMade, Cond.initialized RX1, Cond.selects RX1 yX1_pairsMade yX1_pairsMade, Cond.code yX1_pairsMade cX1_pairsMade 8 (some .int), Cond.fieldLink RX1 36 "SentenceGym$Grammar" "pairMade" "[[I", Cond.static yX4_hasPair, Cond.code yX4_hasPair cX4_hasPair 2 (some .boolean), Cond.instanceMethod yX2_holdsSentence, Cond.selects RX2 yX2_holdsSentence yX2_holdsSentence, Cond.code yX2_holdsSentence cX2_holdsSentence 2 (some .boolean), Cond.methodLink RX2 19 yX2_pairsOf, Cond.instanceMethod yX2_pairsOf, Cond.selects RX2 yX2_pairsOf yX2_pairsOf, Cond.code yX2_pairsOf cX2_pairsOf 4 (some .int), Cond.methodLink RX4 194 yX4_nextTrial, Cond.instanceMethod yX4_nextTrial, Cond.selects RX4 yX4_nextTrial yX4_nextTrial, Cond.code yX4_nextTrial cX4_nextTrial 3 (some .int)]
def wsL_sentences : List Cond := .codeWith yL_sentences cL_sentences 3 (some .int) [(0, 5, 6, 15)] :: ((wsL_sentences_r1 ++ (wsL_sentences_r2 ++ wsL_sentences_r3)) ++ wsX40 ++ wsX10 ++ wsX20 ++ (vx_atS RX4 56 "java/lang/IllegalArgumentException" ["java/lang/RuntimeException", "java/lang/Exception"]).filter goodWord)
def wsL_sentence_r1 : List Cond := [Cond.classLink RL 15 "java/lang/IllegalArgumentException", Cond.methodLink RL 53 yX4_sentence, Cond.instanceMethod yX4_sentence, Cond.selects RX4 yX4_sentence yX4_sentence, Cond.initialized RX4, Cond.code yX4_sentence cX4_sentence 3 (some .int), Cond.classLink RX4 52 "java/lang/IllegalArgumentException", Cond.initialized "java/lang/IllegalArgumentException", Cond.methodLink RX4 142 yX4_isNoLength, Cond.static yX4_isNoLength, Cond.code yX4_isNoLength cX4_isNoLength 1 (some .boolean), Cond.methodLink RX4 150 yX4_makeSentences, Cond.instanceMethod yX4_makeSentences, Cond.selects RX4 yX4_makeSentences yX4_makeSentences, Cond.code yX4_makeSentences cX4_makeSentences 8 (some .int), Cond.fieldLink RX4 30 "SentenceGym" "partSets" "LSentenceGym$PartSets;", Cond.fieldLink RX4 12 "SentenceGym" "grammar" "LSentenceGym$Grammar;", Cond.fieldLink RX4 24 "SentenceGym" "trial" "[I", Cond.methodLink RX4 147 yX4_rowsOfLength, Cond.instanceMethod yX4_rowsOfLength, Cond.selects RX4 yX4_rowsOfLength yX4_rowsOfLength, Cond.code yX4_rowsOfLength cX4_rowsOfLength 4 (some .int), Cond.methodLink RX4 191 yX4_clearTrial, Cond.instanceMethod yX4_clearTrial]
def wsL_sentence_r2 : List Cond := [Cond.selects RX4 yX4_clearTrial yX4_clearTrial, Cond.code yX4_clearTrial cX4_clearTrial 2 none, Cond.instanceMethod yX2_putWord, Cond.initialized RX2, Cond.selects RX2 yX2_putWord yX2_putWord, Cond.code yX2_putWord cX2_putWord 4 none, Cond.methodLink RX2 30 yX2_clearSpan, Cond.instanceMethod yX2_clearSpan, Cond.selects RX2 yX2_clearSpan yX2_clearSpan, Cond.code yX2_clearSpan cX2_clearSpan 5 none, Cond.fieldLink RX2 9 "SentenceGym$PartSets" "pairs" "[I", Cond.static yX4_spanOf, Cond.code yX4_spanOf cX4_spanOf 2 (some .int), Cond.methodLink RX2 34 yX2_allowWord, Cond.instanceMethod yX2_allowWord, Cond.selects RX2 yX2_allowWord yX2_allowWord, Cond.code yX2_allowWord cX2_allowWord 5 none, Cond.instanceMethod yX2_joinUpTo, Cond.selects RX2 yX2_joinUpTo yX2_joinUpTo, Cond.code yX2_joinUpTo cX2_joinUpTo 9 none, Cond.methodLink RX2 49 yX2_join, Cond.instanceMethod yX2_join, Cond.selects RX2 yX2_join yX2_join, Cond.code yX2_join cX2_join 10 none]
def wsL_sentence_r3 : List Cond := [Cond.instanceMethod yX1_pairsMade, Cond.initialized RX1, Cond.selects RX1 yX1_pairsMade yX1_pairsMade, Cond.code yX1_pairsMade cX1_pairsMade 8 (some .int), Cond.fieldLink RX1 36 "SentenceGym$Grammar" "pairMade" "[[I", Cond.static yX4_hasPair, Cond.code yX4_hasPair cX4_hasPair 2 (some .boolean), Cond.instanceMethod yX2_holdsSentence, Cond.selects RX2 yX2_holdsSentence yX2_holdsSentence, Cond.code yX2_holdsSentence cX2_holdsSentence 2 (some .boolean), Cond.methodLink RX2 19 yX2_pairsOf, Cond.instanceMethod yX2_pairsOf, Cond.selects RX2 yX2_pairsOf yX2_pairsOf, Cond.code yX2_pairsOf cX2_pairsOf 4 (some .int), Cond.methodLink RX4 194 yX4_nextTrial, Cond.instanceMethod yX4_nextTrial, Cond.selects RX4 yX4_nextTrial yX4_nextTrial, Cond.code yX4_nextTrial cX4_nextTrial 3 (some .int), Cond.methodLink RX4 155 yX4_trialAsDigits, Cond.instanceMethod yX4_trialAsDigits, Cond.selects RX4 yX4_trialAsDigits yX4_trialAsDigits, Cond.code yX4_trialAsDigits cX4_trialAsDigits 4 (some .int)]
def wsL_sentence : List Cond := .codeWith yL_sentence cL_sentence 4 (some .int) [(0, 6, 7, 15)] :: ((wsL_sentence_r1 ++ (wsL_sentence_r2 ++ wsL_sentence_r3)) ++ wsX40 ++ wsX10 ++ wsX20 ++ (vx_atS RX4 56 "java/lang/IllegalArgumentException" ["java/lang/RuntimeException", "java/lang/Exception"]).filter goodWord)
def wsL_share_r1 : List Cond := [Cond.classLink RL 15 "java/lang/IllegalArgumentException", Cond.constantFloat RL 60 (3268149248), Cond.methodLink RL 56 yX4_share, Cond.instanceMethod yX4_share, Cond.selects RX4 yX4_share yX4_share, Cond.initialized RX4, Cond.code yX4_share cX4_share 3 (some .float), Cond.classLink RX4 52 "java/lang/IllegalArgumentException", Cond.initialized "java/lang/IllegalArgumentException", Cond.methodLink RX4 142 yX4_isNoLength, Cond.static yX4_isNoLength, Cond.code yX4_isNoLength cX4_isNoLength 1 (some .boolean), Cond.methodLink RX4 147 yX4_rowsOfLength, Cond.instanceMethod yX4_rowsOfLength, Cond.selects RX4 yX4_rowsOfLength yX4_rowsOfLength, Cond.code yX4_rowsOfLength cX4_rowsOfLength 4 (some .int), Cond.fieldLink RX4 12 "SentenceGym" "grammar" "LSentenceGym$Grammar;", Cond.methodLink RX4 150 yX4_makeSentences, Cond.instanceMethod yX4_makeSentences, Cond.selects RX4 yX4_makeSentences yX4_makeSentences, Cond.code yX4_makeSentences cX4_makeSentences 8 (some .int), Cond.fieldLink RX4 30 "SentenceGym" "partSets" "LSentenceGym$PartSets;", Cond.fieldLink RX4 24 "SentenceGym" "trial" "[I", Cond.methodLink RX4 191 yX4_clearTrial]
def wsL_share_r2 : List Cond := [Cond.instanceMethod yX4_clearTrial, Cond.selects RX4 yX4_clearTrial yX4_clearTrial, Cond.code yX4_clearTrial cX4_clearTrial 2 none, Cond.instanceMethod yX2_putWord, Cond.initialized RX2, Cond.selects RX2 yX2_putWord yX2_putWord, Cond.code yX2_putWord cX2_putWord 4 none, Cond.methodLink RX2 30 yX2_clearSpan, Cond.instanceMethod yX2_clearSpan, Cond.selects RX2 yX2_clearSpan yX2_clearSpan, Cond.code yX2_clearSpan cX2_clearSpan 5 none, Cond.fieldLink RX2 9 "SentenceGym$PartSets" "pairs" "[I", Cond.static yX4_spanOf, Cond.code yX4_spanOf cX4_spanOf 2 (some .int), Cond.methodLink RX2 34 yX2_allowWord, Cond.instanceMethod yX2_allowWord, Cond.selects RX2 yX2_allowWord yX2_allowWord, Cond.code yX2_allowWord cX2_allowWord 5 none, Cond.instanceMethod yX2_joinUpTo, Cond.selects RX2 yX2_joinUpTo yX2_joinUpTo, Cond.code yX2_joinUpTo cX2_joinUpTo 9 none, Cond.methodLink RX2 49 yX2_join, Cond.instanceMethod yX2_join, Cond.selects RX2 yX2_join yX2_join]
def wsL_share_r3 : List Cond := [Cond.code yX2_join cX2_join 10 none, Cond.instanceMethod yX1_pairsMade, Cond.initialized RX1, Cond.selects RX1 yX1_pairsMade yX1_pairsMade, Cond.code yX1_pairsMade cX1_pairsMade 8 (some .int), Cond.fieldLink RX1 36 "SentenceGym$Grammar" "pairMade" "[[I", Cond.static yX4_hasPair, Cond.code yX4_hasPair cX4_hasPair 2 (some .boolean), Cond.instanceMethod yX2_holdsSentence, Cond.selects RX2 yX2_holdsSentence yX2_holdsSentence, Cond.code yX2_holdsSentence cX2_holdsSentence 2 (some .boolean), Cond.methodLink RX2 19 yX2_pairsOf, Cond.instanceMethod yX2_pairsOf, Cond.selects RX2 yX2_pairsOf yX2_pairsOf, Cond.code yX2_pairsOf cX2_pairsOf 4 (some .int), Cond.methodLink RX4 194 yX4_nextTrial, Cond.instanceMethod yX4_nextTrial, Cond.selects RX4 yX4_nextTrial yX4_nextTrial, Cond.code yX4_nextTrial cX4_nextTrial 3 (some .int)]
def wsL_share : List Cond := .codeWith yL_share cL_share 3 (some .float) [(0, 5, 6, 15)] :: ((wsL_share_r1 ++ (wsL_share_r2 ++ wsL_share_r3)) ++ wsX40 ++ wsX10 ++ wsX20 ++ (vx_atS RX4 56 "java/lang/IllegalArgumentException" ["java/lang/RuntimeException", "java/lang/Exception"]).filter goodWord)
def wsL_spoil_r1 : List Cond := [Cond.classLink RL 23 "java/lang/IndexOutOfBoundsException", Cond.methodLink RL 61 yX4_spoil, Cond.instanceMethod yX4_spoil, Cond.selects RX4 yX4_spoil yX4_spoil, Cond.initialized RX4, Cond.code yX4_spoil cX4_spoil 4 (some .int), Cond.classLink RX4 79 "java/lang/IndexOutOfBoundsException", Cond.initialized "java/lang/IndexOutOfBoundsException", Cond.fieldLink RX4 20 "SentenceGym" "rowLength" "I", Cond.fieldLink RX4 12 "SentenceGym" "grammar" "LSentenceGym$Grammar;", Cond.fieldLink RX4 16 "SentenceGym" "row" "[I", Cond.methodLink RX4 75 yX4_isOutside, Cond.static yX4_isOutside, Cond.code yX4_isOutside cX4_isOutside 2 (some .boolean), Cond.methodLink RX4 158 yX4_isSentenceFreeAt, Cond.instanceMethod yX4_isSentenceFreeAt, Cond.selects RX4 yX4_isSentenceFreeAt yX4_isSentenceFreeAt, Cond.code yX4_isSentenceFreeAt cX4_isSentenceFreeAt 4 (some .boolean), Cond.fieldLink RX4 30 "SentenceGym" "partSets" "LSentenceGym$PartSets;", Cond.instanceMethod yX2_putAnyWord, Cond.initialized RX2, Cond.selects RX2 yX2_putAnyWord yX2_putAnyWord, Cond.code yX2_putAnyWord cX2_putAnyWord 4 none, Cond.methodLink RX2 30 yX2_clearSpan]
def wsL_spoil_r2 : List Cond := [Cond.instanceMethod yX2_clearSpan, Cond.selects RX2 yX2_clearSpan yX2_clearSpan, Cond.code yX2_clearSpan cX2_clearSpan 5 none, Cond.fieldLink RX2 9 "SentenceGym$PartSets" "pairs" "[I", Cond.static yX4_spanOf, Cond.code yX4_spanOf cX4_spanOf 2 (some .int), Cond.methodLink RX2 34 yX2_allowWord, Cond.instanceMethod yX2_allowWord, Cond.selects RX2 yX2_allowWord yX2_allowWord, Cond.code yX2_allowWord cX2_allowWord 5 none, Cond.instanceMethod yX2_putWord, Cond.selects RX2 yX2_putWord yX2_putWord, Cond.code yX2_putWord cX2_putWord 4 none, Cond.instanceMethod yX2_joinUpTo, Cond.selects RX2 yX2_joinUpTo yX2_joinUpTo, Cond.code yX2_joinUpTo cX2_joinUpTo 9 none, Cond.methodLink RX2 49 yX2_join, Cond.instanceMethod yX2_join, Cond.selects RX2 yX2_join yX2_join, Cond.code yX2_join cX2_join 10 none, Cond.instanceMethod yX1_pairsMade, Cond.initialized RX1, Cond.selects RX1 yX1_pairsMade yX1_pairsMade, Cond.code yX1_pairsMade cX1_pairsMade 8 (some .int)]
def wsL_spoil_r3 : List Cond := [Cond.fieldLink RX1 36 "SentenceGym$Grammar" "pairMade" "[[I", Cond.static yX4_hasPair, Cond.code yX4_hasPair cX4_hasPair 2 (some .boolean), Cond.instanceMethod yX2_holdsSentence, Cond.selects RX2 yX2_holdsSentence yX2_holdsSentence, Cond.code yX2_holdsSentence cX2_holdsSentence 2 (some .boolean), Cond.methodLink RX2 19 yX2_pairsOf, Cond.instanceMethod yX2_pairsOf, Cond.selects RX2 yX2_pairsOf yX2_pairsOf, Cond.code yX2_pairsOf cX2_pairsOf 4 (some .int), Cond.methodLink RX4 161 yX4_isSentenceWith, Cond.instanceMethod yX4_isSentenceWith, Cond.selects RX4 yX4_isSentenceWith yX4_isSentenceWith, Cond.code yX4_isSentenceWith cX4_isSentenceWith 3 (some .boolean), Cond.fieldLink RX4 24 "SentenceGym" "trial" "[I", Cond.methodLink RX4 174 arraycopyName, Cond.native arraycopyName, Cond.static arraycopyName, Cond.initialized "java/lang/System", Cond.instanceMethod yX2_parse, Cond.selects RX2 yX2_parse yX2_parse, Cond.code yX2_parse cX2_parse 6 none, Cond.methodLink RX2 23 yX2_putWord, Cond.methodLink RX2 27 yX2_joinUpTo]
def wsL_spoil : List Cond := .codeWith yL_spoil cL_spoil 3 (some .int) [(0, 5, 6, 23)] :: ((wsL_spoil_r1 ++ (wsL_spoil_r2 ++ wsL_spoil_r3)) ++ wsX40 ++ wsX10 ++ wsX20 ++ (vx_atS RX4 83 "java/lang/IndexOutOfBoundsException" ["java/lang/RuntimeException", "java/lang/Exception"]).filter goodWord)
def wsL_correction_r1 : List Cond := [Cond.classLink RL 23 "java/lang/IndexOutOfBoundsException", Cond.methodLink RL 64 yX4_correction, Cond.instanceMethod yX4_correction, Cond.selects RX4 yX4_correction yX4_correction, Cond.initialized RX4, Cond.code yX4_correction cX4_correction 5 (some .int), Cond.classLink RX4 79 "java/lang/IndexOutOfBoundsException", Cond.initialized "java/lang/IndexOutOfBoundsException", Cond.fieldLink RX4 20 "SentenceGym" "rowLength" "I", Cond.fieldLink RX4 12 "SentenceGym" "grammar" "LSentenceGym$Grammar;", Cond.fieldLink RX4 16 "SentenceGym" "row" "[I", Cond.methodLink RX4 161 yX4_isSentenceWith, Cond.instanceMethod yX4_isSentenceWith, Cond.selects RX4 yX4_isSentenceWith yX4_isSentenceWith, Cond.code yX4_isSentenceWith cX4_isSentenceWith 3 (some .boolean), Cond.fieldLink RX4 24 "SentenceGym" "trial" "[I", Cond.methodLink RX4 174 arraycopyName, Cond.native arraycopyName, Cond.static arraycopyName, Cond.initialized "java/lang/System", Cond.fieldLink RX4 30 "SentenceGym" "partSets" "LSentenceGym$PartSets;", Cond.instanceMethod yX2_parse, Cond.initialized RX2, Cond.selects RX2 yX2_parse yX2_parse]
def wsL_correction_r2 : List Cond := [Cond.code yX2_parse cX2_parse 6 none, Cond.methodLink RX2 23 yX2_putWord, Cond.instanceMethod yX2_putWord, Cond.selects RX2 yX2_putWord yX2_putWord, Cond.code yX2_putWord cX2_putWord 4 none, Cond.methodLink RX2 30 yX2_clearSpan, Cond.instanceMethod yX2_clearSpan, Cond.selects RX2 yX2_clearSpan yX2_clearSpan, Cond.code yX2_clearSpan cX2_clearSpan 5 none, Cond.fieldLink RX2 9 "SentenceGym$PartSets" "pairs" "[I", Cond.static yX4_spanOf, Cond.code yX4_spanOf cX4_spanOf 2 (some .int), Cond.methodLink RX2 34 yX2_allowWord, Cond.instanceMethod yX2_allowWord, Cond.selects RX2 yX2_allowWord yX2_allowWord, Cond.code yX2_allowWord cX2_allowWord 5 none, Cond.methodLink RX2 27 yX2_joinUpTo, Cond.instanceMethod yX2_joinUpTo, Cond.selects RX2 yX2_joinUpTo yX2_joinUpTo, Cond.code yX2_joinUpTo cX2_joinUpTo 9 none, Cond.methodLink RX2 49 yX2_join, Cond.instanceMethod yX2_join, Cond.selects RX2 yX2_join yX2_join, Cond.code yX2_join cX2_join 10 none]
def wsL_correction_r3 : List Cond := [Cond.instanceMethod yX1_pairsMade, Cond.initialized RX1, Cond.selects RX1 yX1_pairsMade yX1_pairsMade, Cond.code yX1_pairsMade cX1_pairsMade 8 (some .int), Cond.fieldLink RX1 36 "SentenceGym$Grammar" "pairMade" "[[I", Cond.static yX4_hasPair, Cond.code yX4_hasPair cX4_hasPair 2 (some .boolean), Cond.instanceMethod yX2_holdsSentence, Cond.selects RX2 yX2_holdsSentence yX2_holdsSentence, Cond.code yX2_holdsSentence cX2_holdsSentence 2 (some .boolean), Cond.methodLink RX2 19 yX2_pairsOf, Cond.instanceMethod yX2_pairsOf, Cond.selects RX2 yX2_pairsOf yX2_pairsOf, Cond.code yX2_pairsOf cX2_pairsOf 4 (some .int)]
def wsL_correction : List Cond := .codeWith yL_correction cL_correction 3 (some .int) [(0, 5, 6, 23)] :: ((wsL_correction_r1 ++ (wsL_correction_r2 ++ wsL_correction_r3)) ++ wsX40 ++ wsX10 ++ wsX20 ++ (vx_atS RX4 83 "java/lang/IndexOutOfBoundsException" ["java/lang/RuntimeException", "java/lang/Exception"]).filter goodWord)
def wsL_reads_r1 : List Cond := [Cond.constant RL 76 (1000000), Cond.methodLink RL 67 yX4_said, Cond.instanceMethod yX4_said, Cond.selects RX4 yX4_said yX4_said, Cond.initialized RX4, Cond.code yX4_said cX4_said 1 (some .int), Cond.fieldLink RX4 20 "SentenceGym" "rowLength" "I", Cond.methodLink RL 70 yX4_readings, Cond.instanceMethod yX4_readings, Cond.selects RX4 yX4_readings yX4_readings, Cond.code yX4_readings cX4_readings 1 (some .int), Cond.methodLink RX4 110 yX4_countReadings, Cond.instanceMethod yX4_countReadings, Cond.selects RX4 yX4_countReadings yX4_countReadings, Cond.code yX4_countReadings cX4_countReadings 4 (some .int), Cond.fieldLink RX4 37 "SentenceGym" "countChart" "LSentenceGym$CountChart;", Cond.fieldLink RX4 12 "SentenceGym" "grammar" "LSentenceGym$Grammar;", Cond.fieldLink RX4 16 "SentenceGym" "row" "[I", Cond.instanceMethod yX0_fill, Cond.initialized RX0, Cond.selects RX0 yX0_fill yX0_fill, Cond.code yX0_fill cX0_fill 6 none, Cond.methodLink RX0 24 yX0_fillSpan, Cond.instanceMethod yX0_fillSpan]
def wsL_reads_r2 : List Cond := [Cond.selects RX0 yX0_fillSpan yX0_fillSpan, Cond.code yX0_fillSpan cX0_fillSpan 9 none, Cond.fieldLink RX0 11 "SentenceGym$CountChart" "counts" "[[I", Cond.static yX4_spanOf, Cond.code yX4_spanOf cX4_spanOf 2 (some .int), Cond.methodLink RX0 28 yJ7_fill_53178, Cond.static yJ7_fill_53178, Cond.initialized RJ7, Cond.code yJ7_fill_53178 cJ7_fill_53178 4 none, Cond.instanceMethod yX1_countWord, Cond.initialized RX1, Cond.selects RX1 yX1_countWord yX1_countWord, Cond.code yX1_countWord cX1_countWord 3 none, Cond.fieldLink RX1 15 "SentenceGym$Grammar" "wordCategory" "[I", Cond.fieldLink RX1 19 "SentenceGym$Grammar" "wordPair" "[I", Cond.instanceMethod yX1_addJoined, Cond.selects RX1 yX1_addJoined yX1_addJoined, Cond.code yX1_addJoined cX1_addJoined 7 none, Cond.fieldLink RX1 22 "SentenceGym$Grammar" "rules" "I", Cond.fieldLink RX1 28 "SentenceGym$Grammar" "first" "[I", Cond.methodLink RX1 54 yX1_addJoinedWith, Cond.instanceMethod yX1_addJoinedWith, Cond.selects RX1 yX1_addJoinedWith yX1_addJoinedWith, Cond.code yX1_addJoinedWith cX1_addJoinedWith 9 none]
def wsL_reads_r3 : List Cond := [Cond.fieldLink RX1 36 "SentenceGym$Grammar" "pairMade" "[[I", Cond.fieldLink RX1 31 "SentenceGym$Grammar" "second" "[I", Cond.fieldLink RX1 25 "SentenceGym$Grammar" "made" "[I", Cond.instanceMethod yX0_countSpan, Cond.selects RX0 yX0_countSpan yX0_countSpan, Cond.code yX0_countSpan cX0_countSpan 4 (some .int), Cond.static yX4_countOf, Cond.code yX4_countOf cX4_countOf 4 (some .int), Cond.methodLink RX4 118 yX4_told, Cond.static yX4_told, Cond.code yX4_told cX4_told 1 (some .int), Cond.constant RX4 166 (1000000), Cond.methodLink RL 73 yX4_level, Cond.instanceMethod yX4_level, Cond.selects RX4 yX4_level yX4_level, Cond.code yX4_level cX4_level 2 (some .int), Cond.fieldLink RX4 30 "SentenceGym" "partSets" "LSentenceGym$PartSets;", Cond.instanceMethod yX2_parse, Cond.initialized RX2, Cond.selects RX2 yX2_parse yX2_parse, Cond.code yX2_parse cX2_parse 6 none, Cond.methodLink RX2 23 yX2_putWord, Cond.instanceMethod yX2_putWord, Cond.selects RX2 yX2_putWord yX2_putWord]
def wsL_reads_r4 : List Cond := [Cond.code yX2_putWord cX2_putWord 4 none, Cond.methodLink RX2 30 yX2_clearSpan, Cond.instanceMethod yX2_clearSpan, Cond.selects RX2 yX2_clearSpan yX2_clearSpan, Cond.code yX2_clearSpan cX2_clearSpan 5 none, Cond.fieldLink RX2 9 "SentenceGym$PartSets" "pairs" "[I", Cond.methodLink RX2 34 yX2_allowWord, Cond.instanceMethod yX2_allowWord, Cond.selects RX2 yX2_allowWord yX2_allowWord, Cond.code yX2_allowWord cX2_allowWord 5 none, Cond.methodLink RX2 27 yX2_joinUpTo, Cond.instanceMethod yX2_joinUpTo, Cond.selects RX2 yX2_joinUpTo yX2_joinUpTo, Cond.code yX2_joinUpTo cX2_joinUpTo 9 none, Cond.methodLink RX2 49 yX2_join, Cond.instanceMethod yX2_join, Cond.selects RX2 yX2_join yX2_join, Cond.code yX2_join cX2_join 10 none, Cond.instanceMethod yX1_pairsMade, Cond.selects RX1 yX1_pairsMade yX1_pairsMade, Cond.code yX1_pairsMade cX1_pairsMade 8 (some .int), Cond.static yX4_hasPair, Cond.code yX4_hasPair cX4_hasPair 2 (some .boolean), Cond.instanceMethod yX2_holdsSentence]
def wsL_reads_r5 : List Cond := [Cond.selects RX2 yX2_holdsSentence yX2_holdsSentence, Cond.code yX2_holdsSentence cX2_holdsSentence 2 (some .boolean), Cond.methodLink RX2 19 yX2_pairsOf, Cond.instanceMethod yX2_pairsOf, Cond.selects RX2 yX2_pairsOf yX2_pairsOf, Cond.code yX2_pairsOf cX2_pairsOf 4 (some .int), Cond.methodLink RL 77 yX4_readingsPlainly, Cond.instanceMethod yX4_readingsPlainly, Cond.selects RX4 yX4_readingsPlainly yX4_readingsPlainly, Cond.code yX4_readingsPlainly cX4_readingsPlainly 1 (some .int), Cond.fieldLink RX4 44 "SentenceGym" "plainCounter" "LSentenceGym$PlainCounter;", Cond.instanceMethod yX3_countRow, Cond.initialized RX3, Cond.selects RX3 yX3_countRow yX3_countRow, Cond.code yX3_countRow cX3_countRow 5 (some .int), Cond.fieldLink RX3 11 "SentenceGym$PlainCounter" "counts" "[[I", Cond.methodLink RX3 16 yX3_count, Cond.static yX3_count, Cond.code yX3_count cX3_count 10 none, Cond.methodLink RX3 24 yJ7_fill_53178, Cond.methodLink RL 80 yL_count, Cond.static yL_count, Cond.initialized RL, Cond.codeWith yL_count cL_count 5 (some .int) [(0, 7, 8, 23)]]
def wsL_reads_r6 : List Cond := [Cond.classLink RL 23 "java/lang/IndexOutOfBoundsException", Cond.methodLink RL 43 yX4_readingsOf, Cond.instanceMethod yX4_readingsOf, Cond.selects RX4 yX4_readingsOf yX4_readingsOf, Cond.code yX4_readingsOf cX4_readingsOf 4 (some .int), Cond.classLink RX4 79 "java/lang/IndexOutOfBoundsException", Cond.initialized "java/lang/IndexOutOfBoundsException", Cond.methodLink RX4 122 yX4_isNoSpan, Cond.instanceMethod yX4_isNoSpan, Cond.selects RX4 yX4_isNoSpan yX4_isNoSpan, Cond.code yX4_isNoSpan cX4_isNoSpan 3 (some .boolean), Cond.methodLink RX4 75 yX4_isOutside, Cond.static yX4_isOutside, Cond.code yX4_isOutside cX4_isOutside 2 (some .boolean), Cond.methodLink RL 86 yL_has, Cond.static yL_has, Cond.codeWith yL_has cL_has 6 (some .int) [(0, 17, 18, 23), (0, 17, 23, 15)], Cond.classLink RL 15 "java/lang/IllegalArgumentException", Cond.methodLink RL 46 yX4_has, Cond.instanceMethod yX4_has, Cond.selects RX4 yX4_has yX4_has, Cond.code yX4_has cX4_has 6 (some .boolean), Cond.classLink RX4 52 "java/lang/IllegalArgumentException", Cond.initialized "java/lang/IllegalArgumentException"]
def wsL_reads_r7 : List Cond := [Cond.methodLink RX4 87 yX4_isNoDigitPair, Cond.static yX4_isNoDigitPair, Cond.code yX4_isNoDigitPair cX4_isNoDigitPair 1 (some .boolean), Cond.methodLink RX4 67 yX4_pairOf, Cond.static yX4_pairOf, Cond.code yX4_pairOf cX4_pairOf 2 (some .int), Cond.methodLink RX4 136 yX4_hasPair]
def wsL_reads : List Cond := .code yL_reads cL_reads 12 (some .boolean) :: ((wsL_reads_r1 ++ (wsL_reads_r2 ++ (wsL_reads_r3 ++ (wsL_reads_r4 ++ (wsL_reads_r5 ++ (wsL_reads_r6 ++ wsL_reads_r7)))))) ++ wsX40 ++ wsX00 ++ wsX10 ++ wsX20 ++ wsX30 ++ (vx_atS RX4 83 "java/lang/IndexOutOfBoundsException" ["java/lang/RuntimeException", "java/lang/Exception"]).filter goodWord ++ (vx_atS RX4 56 "java/lang/IllegalArgumentException" ["java/lang/RuntimeException", "java/lang/Exception"]).filter goodWord)
def wsL_corrects_r1 : List Cond := [Cond.methodLink RL 67 yX4_said, Cond.instanceMethod yX4_said, Cond.selects RX4 yX4_said yX4_said, Cond.initialized RX4, Cond.code yX4_said cX4_said 1 (some .int), Cond.fieldLink RX4 20 "SentenceGym" "rowLength" "I", Cond.methodLink RL 89 yX4_changes, Cond.instanceMethod yX4_changes, Cond.selects RX4 yX4_changes yX4_changes, Cond.code yX4_changes cX4_changes 3 (some .int), Cond.methodLink RX4 158 yX4_isSentenceFreeAt, Cond.instanceMethod yX4_isSentenceFreeAt, Cond.selects RX4 yX4_isSentenceFreeAt yX4_isSentenceFreeAt, Cond.code yX4_isSentenceFreeAt cX4_isSentenceFreeAt 4 (some .boolean), Cond.fieldLink RX4 30 "SentenceGym" "partSets" "LSentenceGym$PartSets;", Cond.fieldLink RX4 12 "SentenceGym" "grammar" "LSentenceGym$Grammar;", Cond.fieldLink RX4 16 "SentenceGym" "row" "[I", Cond.instanceMethod yX2_putAnyWord, Cond.initialized RX2, Cond.selects RX2 yX2_putAnyWord yX2_putAnyWord, Cond.code yX2_putAnyWord cX2_putAnyWord 4 none, Cond.methodLink RX2 30 yX2_clearSpan, Cond.instanceMethod yX2_clearSpan, Cond.selects RX2 yX2_clearSpan yX2_clearSpan]
def wsL_corrects_r2 : List Cond := [Cond.code yX2_clearSpan cX2_clearSpan 5 none, Cond.fieldLink RX2 9 "SentenceGym$PartSets" "pairs" "[I", Cond.static yX4_spanOf, Cond.code yX4_spanOf cX4_spanOf 2 (some .int), Cond.methodLink RX2 34 yX2_allowWord, Cond.instanceMethod yX2_allowWord, Cond.selects RX2 yX2_allowWord yX2_allowWord, Cond.code yX2_allowWord cX2_allowWord 5 none, Cond.instanceMethod yX2_putWord, Cond.selects RX2 yX2_putWord yX2_putWord, Cond.code yX2_putWord cX2_putWord 4 none, Cond.instanceMethod yX2_joinUpTo, Cond.selects RX2 yX2_joinUpTo yX2_joinUpTo, Cond.code yX2_joinUpTo cX2_joinUpTo 9 none, Cond.methodLink RX2 49 yX2_join, Cond.instanceMethod yX2_join, Cond.selects RX2 yX2_join yX2_join, Cond.code yX2_join cX2_join 10 none, Cond.instanceMethod yX1_pairsMade, Cond.initialized RX1, Cond.selects RX1 yX1_pairsMade yX1_pairsMade, Cond.code yX1_pairsMade cX1_pairsMade 8 (some .int), Cond.fieldLink RX1 36 "SentenceGym$Grammar" "pairMade" "[[I", Cond.static yX4_hasPair]
def wsL_corrects_r3 : List Cond := [Cond.code yX4_hasPair cX4_hasPair 2 (some .boolean), Cond.instanceMethod yX2_holdsSentence, Cond.selects RX2 yX2_holdsSentence yX2_holdsSentence, Cond.code yX2_holdsSentence cX2_holdsSentence 2 (some .boolean), Cond.methodLink RX2 19 yX2_pairsOf, Cond.instanceMethod yX2_pairsOf, Cond.selects RX2 yX2_pairsOf yX2_pairsOf, Cond.code yX2_pairsOf cX2_pairsOf 4 (some .int), Cond.methodLink RL 70 yX4_readings, Cond.instanceMethod yX4_readings, Cond.selects RX4 yX4_readings yX4_readings, Cond.code yX4_readings cX4_readings 1 (some .int), Cond.methodLink RX4 110 yX4_countReadings, Cond.instanceMethod yX4_countReadings, Cond.selects RX4 yX4_countReadings yX4_countReadings, Cond.code yX4_countReadings cX4_countReadings 4 (some .int), Cond.fieldLink RX4 37 "SentenceGym" "countChart" "LSentenceGym$CountChart;", Cond.instanceMethod yX0_fill, Cond.initialized RX0, Cond.selects RX0 yX0_fill yX0_fill, Cond.code yX0_fill cX0_fill 6 none, Cond.methodLink RX0 24 yX0_fillSpan, Cond.instanceMethod yX0_fillSpan, Cond.selects RX0 yX0_fillSpan yX0_fillSpan]
def wsL_corrects_r4 : List Cond := [Cond.code yX0_fillSpan cX0_fillSpan 9 none, Cond.fieldLink RX0 11 "SentenceGym$CountChart" "counts" "[[I", Cond.methodLink RX0 28 yJ7_fill_53178, Cond.static yJ7_fill_53178, Cond.initialized RJ7, Cond.code yJ7_fill_53178 cJ7_fill_53178 4 none, Cond.instanceMethod yX1_countWord, Cond.selects RX1 yX1_countWord yX1_countWord, Cond.code yX1_countWord cX1_countWord 3 none, Cond.fieldLink RX1 15 "SentenceGym$Grammar" "wordCategory" "[I", Cond.fieldLink RX1 19 "SentenceGym$Grammar" "wordPair" "[I", Cond.instanceMethod yX1_addJoined, Cond.selects RX1 yX1_addJoined yX1_addJoined, Cond.code yX1_addJoined cX1_addJoined 7 none, Cond.fieldLink RX1 22 "SentenceGym$Grammar" "rules" "I", Cond.fieldLink RX1 28 "SentenceGym$Grammar" "first" "[I", Cond.methodLink RX1 54 yX1_addJoinedWith, Cond.instanceMethod yX1_addJoinedWith, Cond.selects RX1 yX1_addJoinedWith yX1_addJoinedWith, Cond.code yX1_addJoinedWith cX1_addJoinedWith 9 none, Cond.fieldLink RX1 31 "SentenceGym$Grammar" "second" "[I", Cond.fieldLink RX1 25 "SentenceGym$Grammar" "made" "[I", Cond.instanceMethod yX0_countSpan, Cond.selects RX0 yX0_countSpan yX0_countSpan]
def wsL_corrects_r5 : List Cond := [Cond.code yX0_countSpan cX0_countSpan 4 (some .int), Cond.static yX4_countOf, Cond.code yX4_countOf cX4_countOf 4 (some .int), Cond.methodLink RX4 118 yX4_told, Cond.static yX4_told, Cond.code yX4_told cX4_told 1 (some .int), Cond.constant RX4 166 (1000000), Cond.methodLink RL 92 yL_correction, Cond.static yL_correction, Cond.initialized RL, Cond.codeWith yL_correction cL_correction 3 (some .int) [(0, 5, 6, 23)], Cond.classLink RL 23 "java/lang/IndexOutOfBoundsException", Cond.methodLink RL 64 yX4_correction, Cond.instanceMethod yX4_correction, Cond.selects RX4 yX4_correction yX4_correction, Cond.code yX4_correction cX4_correction 5 (some .int), Cond.classLink RX4 79 "java/lang/IndexOutOfBoundsException", Cond.initialized "java/lang/IndexOutOfBoundsException", Cond.methodLink RX4 161 yX4_isSentenceWith, Cond.instanceMethod yX4_isSentenceWith, Cond.selects RX4 yX4_isSentenceWith yX4_isSentenceWith, Cond.code yX4_isSentenceWith cX4_isSentenceWith 3 (some .boolean), Cond.fieldLink RX4 24 "SentenceGym" "trial" "[I", Cond.methodLink RX4 174 arraycopyName]
def wsL_corrects_r6 : List Cond := [Cond.native arraycopyName, Cond.static arraycopyName, Cond.initialized "java/lang/System", Cond.instanceMethod yX2_parse, Cond.selects RX2 yX2_parse yX2_parse, Cond.code yX2_parse cX2_parse 6 none, Cond.methodLink RX2 23 yX2_putWord, Cond.methodLink RX2 27 yX2_joinUpTo, Cond.methodLink RL 95 yL_change, Cond.static yL_change, Cond.codeWith yL_change cL_change 4 (some .int) [(0, 6, 7, 23)], Cond.methodLink RL 36 yX4_change, Cond.instanceMethod yX4_change, Cond.selects RX4 yX4_change yX4_change, Cond.code yX4_change cX4_change 4 (some .int), Cond.methodLink RX4 75 yX4_isOutside, Cond.static yX4_isOutside, Cond.code yX4_isOutside cX4_isOutside 2 (some .boolean), Cond.methodLink RL 98 yL_spoil, Cond.static yL_spoil, Cond.codeWith yL_spoil cL_spoil 3 (some .int) [(0, 5, 6, 23)], Cond.methodLink RL 61 yX4_spoil, Cond.instanceMethod yX4_spoil, Cond.selects RX4 yX4_spoil yX4_spoil]
def wsL_corrects_r7 : List Cond := [Cond.code yX4_spoil cX4_spoil 4 (some .int), Cond.methodLink RL 100 yL_at, Cond.static yL_at, Cond.codeWith yL_at cL_at 3 (some .int) [(0, 5, 6, 23)], Cond.methodLink RL 40 yX4_wordAt, Cond.instanceMethod yX4_wordAt, Cond.selects RX4 yX4_wordAt yX4_wordAt, Cond.code yX4_wordAt cX4_wordAt 2 (some .int)]
def wsL_corrects : List Cond := .code yL_corrects cL_corrects 11 (some .boolean) :: ((wsL_corrects_r1 ++ (wsL_corrects_r2 ++ (wsL_corrects_r3 ++ (wsL_corrects_r4 ++ (wsL_corrects_r5 ++ (wsL_corrects_r6 ++ wsL_corrects_r7)))))) ++ wsX40 ++ wsX10 ++ wsX20 ++ wsX00 ++ (vx_atS RX4 83 "java/lang/IndexOutOfBoundsException" ["java/lang/RuntimeException", "java/lang/Exception"]).filter goodWord)
def wsL_law0_r1 : List Cond := [Cond.classLink RL 10 RX4, Cond.instantiable RX4 7, Cond.initialized RX4, Cond.methodLink RL 103 yX4_init, Cond.instanceMethod yX4_init, Cond.code yX4_init cX4_init 1 none, Cond.methodLink RX4 3 objectInit, Cond.instanceMethod objectInit, Cond.code objectInit ⟨#[0xb1]⟩ 1 none, Cond.classLink RX4 9 RX1, Cond.instantiable RX1 8, Cond.initialized RX1, Cond.fieldLink RX4 12 "SentenceGym" "grammar" "LSentenceGym$Grammar;", Cond.arrayClass .int, Cond.fieldLink RX4 16 "SentenceGym" "row" "[I", Cond.fieldLink RX4 20 "SentenceGym" "rowLength" "I", Cond.fieldLink RX4 24 "SentenceGym" "trial" "[I", Cond.classLink RX4 27 RX2, Cond.instantiable RX2 1, Cond.initialized RX2, Cond.fieldLink RX4 30 "SentenceGym" "partSets" "LSentenceGym$PartSets;", Cond.classLink RX4 34 RX0, Cond.instantiable RX0 1, Cond.initialized RX0]
def wsL_law0_r2 : List Cond := [Cond.fieldLink RX4 37 "SentenceGym" "countChart" "LSentenceGym$CountChart;", Cond.classLink RX4 41 RX3, Cond.instantiable RX3 1, Cond.initialized RX3, Cond.fieldLink RX4 44 "SentenceGym" "plainCounter" "LSentenceGym$PlainCounter;", Cond.instanceMethod yX1_init, Cond.code yX1_init cX1_init 1 none, Cond.methodLink RX1 3 objectInit, Cond.fieldLink RX1 9 "SentenceGym$Grammar" "words" "I", Cond.fieldLink RX1 15 "SentenceGym$Grammar" "wordCategory" "[I", Cond.fieldLink RX1 19 "SentenceGym$Grammar" "wordPair" "[I", Cond.fieldLink RX1 22 "SentenceGym$Grammar" "rules" "I", Cond.fieldLink RX1 25 "SentenceGym$Grammar" "made" "[I", Cond.fieldLink RX1 28 "SentenceGym$Grammar" "first" "[I", Cond.fieldLink RX1 31 "SentenceGym$Grammar" "second" "[I", Cond.classLink RX1 34 "[[I", Cond.fieldLink RX1 36 "SentenceGym$Grammar" "pairMade" "[[I", Cond.instanceMethod yX2_init, Cond.code yX2_init cX2_init 1 none, Cond.methodLink RX2 3 objectInit, Cond.fieldLink RX2 9 "SentenceGym$PartSets" "pairs" "[I", Cond.instanceMethod yX0_init, Cond.code yX0_init cX0_init 1 none, Cond.methodLink RX0 3 objectInit]
def wsL_law0_r3 : List Cond := [Cond.classLink RX0 9 "[[I", Cond.fieldLink RX0 11 "SentenceGym$CountChart" "counts" "[[I", Cond.instanceMethod yX3_init, Cond.code yX3_init cX3_init 1 none, Cond.methodLink RX3 3 objectInit, Cond.classLink RX3 9 "[[I", Cond.fieldLink RX3 11 "SentenceGym$PlainCounter" "counts" "[[I", Cond.methodLink RL 104 yL_reads, Cond.static yL_reads, Cond.initialized RL, Cond.code yL_reads cL_reads 12 (some .boolean), Cond.constant RL 76 (1000000), Cond.methodLink RL 67 yX4_said, Cond.instanceMethod yX4_said, Cond.selects RX4 yX4_said yX4_said, Cond.code yX4_said cX4_said 1 (some .int), Cond.methodLink RL 70 yX4_readings, Cond.instanceMethod yX4_readings, Cond.selects RX4 yX4_readings yX4_readings, Cond.code yX4_readings cX4_readings 1 (some .int), Cond.methodLink RX4 110 yX4_countReadings, Cond.instanceMethod yX4_countReadings, Cond.selects RX4 yX4_countReadings yX4_countReadings, Cond.code yX4_countReadings cX4_countReadings 4 (some .int)]
def wsL_law0_r4 : List Cond := [Cond.instanceMethod yX0_fill, Cond.selects RX0 yX0_fill yX0_fill, Cond.code yX0_fill cX0_fill 6 none, Cond.methodLink RX0 24 yX0_fillSpan, Cond.instanceMethod yX0_fillSpan, Cond.selects RX0 yX0_fillSpan yX0_fillSpan, Cond.code yX0_fillSpan cX0_fillSpan 9 none, Cond.static yX4_spanOf, Cond.code yX4_spanOf cX4_spanOf 2 (some .int), Cond.methodLink RX0 28 yJ7_fill_53178, Cond.static yJ7_fill_53178, Cond.initialized RJ7, Cond.code yJ7_fill_53178 cJ7_fill_53178 4 none, Cond.instanceMethod yX1_countWord, Cond.selects RX1 yX1_countWord yX1_countWord, Cond.code yX1_countWord cX1_countWord 3 none, Cond.instanceMethod yX1_addJoined, Cond.selects RX1 yX1_addJoined yX1_addJoined, Cond.code yX1_addJoined cX1_addJoined 7 none, Cond.methodLink RX1 54 yX1_addJoinedWith, Cond.instanceMethod yX1_addJoinedWith, Cond.selects RX1 yX1_addJoinedWith yX1_addJoinedWith, Cond.code yX1_addJoinedWith cX1_addJoinedWith 9 none, Cond.instanceMethod yX0_countSpan]
def wsL_law0_r5 : List Cond := [Cond.selects RX0 yX0_countSpan yX0_countSpan, Cond.code yX0_countSpan cX0_countSpan 4 (some .int), Cond.static yX4_countOf, Cond.code yX4_countOf cX4_countOf 4 (some .int), Cond.methodLink RX4 118 yX4_told, Cond.static yX4_told, Cond.code yX4_told cX4_told 1 (some .int), Cond.constant RX4 166 (1000000), Cond.methodLink RL 73 yX4_level, Cond.instanceMethod yX4_level, Cond.selects RX4 yX4_level yX4_level, Cond.code yX4_level cX4_level 2 (some .int), Cond.instanceMethod yX2_parse, Cond.selects RX2 yX2_parse yX2_parse, Cond.code yX2_parse cX2_parse 6 none, Cond.methodLink RX2 23 yX2_putWord, Cond.instanceMethod yX2_putWord, Cond.selects RX2 yX2_putWord yX2_putWord, Cond.code yX2_putWord cX2_putWord 4 none, Cond.methodLink RX2 30 yX2_clearSpan, Cond.instanceMethod yX2_clearSpan, Cond.selects RX2 yX2_clearSpan yX2_clearSpan, Cond.code yX2_clearSpan cX2_clearSpan 5 none, Cond.methodLink RX2 34 yX2_allowWord]
def wsL_law0_r6 : List Cond := [Cond.instanceMethod yX2_allowWord, Cond.selects RX2 yX2_allowWord yX2_allowWord, Cond.code yX2_allowWord cX2_allowWord 5 none, Cond.methodLink RX2 27 yX2_joinUpTo, Cond.instanceMethod yX2_joinUpTo, Cond.selects RX2 yX2_joinUpTo yX2_joinUpTo, Cond.code yX2_joinUpTo cX2_joinUpTo 9 none, Cond.methodLink RX2 49 yX2_join, Cond.instanceMethod yX2_join, Cond.selects RX2 yX2_join yX2_join, Cond.code yX2_join cX2_join 10 none, Cond.instanceMethod yX1_pairsMade, Cond.selects RX1 yX1_pairsMade yX1_pairsMade, Cond.code yX1_pairsMade cX1_pairsMade 8 (some .int), Cond.static yX4_hasPair, Cond.code yX4_hasPair cX4_hasPair 2 (some .boolean), Cond.instanceMethod yX2_holdsSentence, Cond.selects RX2 yX2_holdsSentence yX2_holdsSentence, Cond.code yX2_holdsSentence cX2_holdsSentence 2 (some .boolean), Cond.methodLink RX2 19 yX2_pairsOf, Cond.instanceMethod yX2_pairsOf, Cond.selects RX2 yX2_pairsOf yX2_pairsOf, Cond.code yX2_pairsOf cX2_pairsOf 4 (some .int), Cond.methodLink RL 77 yX4_readingsPlainly]
def wsL_law0_r7 : List Cond := [Cond.instanceMethod yX4_readingsPlainly, Cond.selects RX4 yX4_readingsPlainly yX4_readingsPlainly, Cond.code yX4_readingsPlainly cX4_readingsPlainly 1 (some .int), Cond.instanceMethod yX3_countRow, Cond.selects RX3 yX3_countRow yX3_countRow, Cond.code yX3_countRow cX3_countRow 5 (some .int), Cond.methodLink RX3 16 yX3_count, Cond.static yX3_count, Cond.code yX3_count cX3_count 10 none, Cond.methodLink RX3 24 yJ7_fill_53178, Cond.methodLink RL 80 yL_count, Cond.static yL_count, Cond.codeWith yL_count cL_count 5 (some .int) [(0, 7, 8, 23)], Cond.classLink RL 23 "java/lang/IndexOutOfBoundsException", Cond.methodLink RL 43 yX4_readingsOf, Cond.instanceMethod yX4_readingsOf, Cond.selects RX4 yX4_readingsOf yX4_readingsOf, Cond.code yX4_readingsOf cX4_readingsOf 4 (some .int), Cond.classLink RX4 79 "java/lang/IndexOutOfBoundsException", Cond.initialized "java/lang/IndexOutOfBoundsException", Cond.methodLink RX4 122 yX4_isNoSpan, Cond.instanceMethod yX4_isNoSpan, Cond.selects RX4 yX4_isNoSpan yX4_isNoSpan, Cond.code yX4_isNoSpan cX4_isNoSpan 3 (some .boolean)]
def wsL_law0_r8 : List Cond := [Cond.methodLink RX4 75 yX4_isOutside, Cond.static yX4_isOutside, Cond.code yX4_isOutside cX4_isOutside 2 (some .boolean), Cond.methodLink RL 86 yL_has, Cond.static yL_has, Cond.codeWith yL_has cL_has 6 (some .int) [(0, 17, 18, 23), (0, 17, 23, 15)], Cond.classLink RL 15 "java/lang/IllegalArgumentException", Cond.methodLink RL 46 yX4_has, Cond.instanceMethod yX4_has, Cond.selects RX4 yX4_has yX4_has, Cond.code yX4_has cX4_has 6 (some .boolean), Cond.classLink RX4 52 "java/lang/IllegalArgumentException", Cond.initialized "java/lang/IllegalArgumentException", Cond.methodLink RX4 87 yX4_isNoDigitPair, Cond.static yX4_isNoDigitPair, Cond.code yX4_isNoDigitPair cX4_isNoDigitPair 1 (some .boolean), Cond.methodLink RX4 67 yX4_pairOf, Cond.static yX4_pairOf, Cond.code yX4_pairOf cX4_pairOf 2 (some .int), Cond.methodLink RX4 136 yX4_hasPair, Cond.methodLink RL 108 yL_cell, Cond.static yL_cell, Cond.code yL_cell cL_cell 2 (some .int), Cond.constant RL 7 (33013)]
def wsL_law0_r9 : List Cond := [Cond.constant RL 8 (2147483647), Cond.methodLink RL 112 yL_word, Cond.static yL_word, Cond.codeWith yL_word cL_word 5 (some .int) [(0, 7, 8, 15), (0, 7, 13, 17)], Cond.classLink RL 17 "java/lang/IllegalStateException", Cond.methodLink RL 9 yX4_addWord, Cond.instanceMethod yX4_addWord, Cond.selects RX4 yX4_addWord yX4_addWord, Cond.code yX4_addWord cX4_addWord 5 (some .int), Cond.classLink RX4 62 "java/lang/IllegalStateException", Cond.initialized "java/lang/IllegalStateException", Cond.methodLink RX4 48 yX4_isNoKind, Cond.static yX4_isNoKind, Cond.code yX4_isNoKind cX4_isNoKind 3 (some .boolean), Cond.instanceMethod yX1_defineWord, Cond.selects RX1 yX1_defineWord yX1_defineWord, Cond.code yX1_defineWord cX1_defineWord 4 none, Cond.methodLink RL 115 yL_rule, Cond.static yL_rule, Cond.codeWith yL_rule cL_rule 6 (some .int) [(0, 9, 10, 15), (0, 9, 15, 17)], Cond.methodLink RL 25 yX4_addRule, Cond.instanceMethod yX4_addRule, Cond.selects RX4 yX4_addRule yX4_addRule, Cond.code yX4_addRule cX4_addRule 6 (some .int)]
def wsL_law0_r10 : List Cond := [Cond.instanceMethod yX1_defineRule, Cond.selects RX1 yX1_defineRule yX1_defineRule, Cond.code yX1_defineRule cX1_defineRule 7 none, Cond.methodLink RX1 39 yX1_joinedPair, Cond.static yX1_joinedPair, Cond.code yX1_joinedPair cX1_joinedPair 5 (some .int), Cond.methodLink RX1 43 yX1_joinedValue, Cond.static yX1_joinedValue, Cond.code yX1_joinedValue cX1_joinedValue 3 (some .int), Cond.methodLink RL 118 yL_drop, Cond.static yL_drop, Cond.codeWith yL_drop cL_drop 2 (some .int) [(0, 4, 5, 17)], Cond.methodLink RL 28 yX4_dropRule, Cond.instanceMethod yX4_dropRule, Cond.selects RX4 yX4_dropRule yX4_dropRule, Cond.code yX4_dropRule cX4_dropRule 1 (some .int), Cond.methodLink RL 122 yL_setWord, Cond.static yL_setWord, Cond.codeWith yL_setWord cL_setWord 6 (some .int) [(0, 9, 10, 23), (0, 9, 15, 15)], Cond.methodLink RL 19 yX4_setWord, Cond.instanceMethod yX4_setWord, Cond.selects RX4 yX4_setWord yX4_setWord, Cond.code yX4_setWord cX4_setWord 6 (some .int), Cond.methodLink RL 124 yL_say]
def wsL_law0_r11 : List Cond := [Cond.static yL_say, Cond.codeWith yL_say cL_say 3 (some .int) [(0, 5, 6, 23), (0, 5, 10, 17)], Cond.methodLink RL 32 yX4_say, Cond.instanceMethod yX4_say, Cond.selects RX4 yX4_say yX4_say, Cond.code yX4_say cX4_say 2 (some .int), Cond.methodLink RL 100 yL_at, Cond.static yL_at, Cond.codeWith yL_at cL_at 3 (some .int) [(0, 5, 6, 23)], Cond.methodLink RL 40 yX4_wordAt, Cond.instanceMethod yX4_wordAt, Cond.selects RX4 yX4_wordAt yX4_wordAt, Cond.code yX4_wordAt cX4_wordAt 2 (some .int), Cond.methodLink RL 95 yL_change, Cond.static yL_change, Cond.codeWith yL_change cL_change 4 (some .int) [(0, 6, 7, 23)], Cond.methodLink RL 36 yX4_change, Cond.instanceMethod yX4_change, Cond.selects RX4 yX4_change yX4_change, Cond.code yX4_change cX4_change 4 (some .int), Cond.methodLink RL 126 yX4_hush, Cond.instanceMethod yX4_hush, Cond.selects RX4 yX4_hush yX4_hush, Cond.code yX4_hush cX4_hush 2 (some .int)]
def wsL_law0_r12 : List Cond := [Cond.methodLink RL 129 yL_sentences, Cond.static yL_sentences, Cond.codeWith yL_sentences cL_sentences 3 (some .int) [(0, 5, 6, 15)], Cond.methodLink RL 50 yX4_sentences, Cond.instanceMethod yX4_sentences, Cond.selects RX4 yX4_sentences yX4_sentences, Cond.code yX4_sentences cX4_sentences 2 (some .int), Cond.methodLink RX4 142 yX4_isNoLength, Cond.static yX4_isNoLength, Cond.code yX4_isNoLength cX4_isNoLength 1 (some .boolean), Cond.methodLink RX4 147 yX4_rowsOfLength, Cond.instanceMethod yX4_rowsOfLength, Cond.selects RX4 yX4_rowsOfLength yX4_rowsOfLength, Cond.code yX4_rowsOfLength cX4_rowsOfLength 4 (some .int), Cond.methodLink RX4 150 yX4_makeSentences, Cond.instanceMethod yX4_makeSentences, Cond.selects RX4 yX4_makeSentences yX4_makeSentences, Cond.code yX4_makeSentences cX4_makeSentences 8 (some .int), Cond.methodLink RX4 191 yX4_clearTrial, Cond.instanceMethod yX4_clearTrial, Cond.selects RX4 yX4_clearTrial yX4_clearTrial, Cond.code yX4_clearTrial cX4_clearTrial 2 none, Cond.methodLink RX4 194 yX4_nextTrial, Cond.instanceMethod yX4_nextTrial]
def wsL_law0_r13 : List Cond := [Cond.selects RX4 yX4_nextTrial yX4_nextTrial, Cond.code yX4_nextTrial cX4_nextTrial 3 (some .int), Cond.methodLink RL 131 yL_sentence, Cond.static yL_sentence, Cond.codeWith yL_sentence cL_sentence 4 (some .int) [(0, 6, 7, 15)], Cond.methodLink RL 53 yX4_sentence, Cond.instanceMethod yX4_sentence, Cond.selects RX4 yX4_sentence yX4_sentence, Cond.code yX4_sentence cX4_sentence 3 (some .int), Cond.methodLink RX4 155 yX4_trialAsDigits, Cond.instanceMethod yX4_trialAsDigits, Cond.selects RX4 yX4_trialAsDigits yX4_trialAsDigits, Cond.code yX4_trialAsDigits cX4_trialAsDigits 4 (some .int), Cond.methodLink RL 133 yL_share, Cond.static yL_share, Cond.codeWith yL_share cL_share 3 (some .float) [(0, 5, 6, 15)], Cond.constantFloat RL 60 (3268149248), Cond.methodLink RL 56 yX4_share, Cond.instanceMethod yX4_share, Cond.selects RX4 yX4_share yX4_share, Cond.code yX4_share cX4_share 3 (some .float), Cond.methodLink RL 136 yL_corrects, Cond.static yL_corrects, Cond.code yL_corrects cL_corrects 11 (some .boolean)]
def wsL_law0_r14 : List Cond := [Cond.methodLink RL 89 yX4_changes, Cond.instanceMethod yX4_changes, Cond.selects RX4 yX4_changes yX4_changes, Cond.code yX4_changes cX4_changes 3 (some .int), Cond.methodLink RX4 158 yX4_isSentenceFreeAt, Cond.instanceMethod yX4_isSentenceFreeAt, Cond.selects RX4 yX4_isSentenceFreeAt yX4_isSentenceFreeAt, Cond.code yX4_isSentenceFreeAt cX4_isSentenceFreeAt 4 (some .boolean), Cond.instanceMethod yX2_putAnyWord, Cond.selects RX2 yX2_putAnyWord yX2_putAnyWord, Cond.code yX2_putAnyWord cX2_putAnyWord 4 none, Cond.methodLink RL 92 yL_correction, Cond.static yL_correction, Cond.codeWith yL_correction cL_correction 3 (some .int) [(0, 5, 6, 23)], Cond.methodLink RL 64 yX4_correction, Cond.instanceMethod yX4_correction, Cond.selects RX4 yX4_correction yX4_correction, Cond.code yX4_correction cX4_correction 5 (some .int), Cond.methodLink RX4 161 yX4_isSentenceWith, Cond.instanceMethod yX4_isSentenceWith, Cond.selects RX4 yX4_isSentenceWith yX4_isSentenceWith, Cond.code yX4_isSentenceWith cX4_isSentenceWith 3 (some .boolean), Cond.methodLink RX4 174 arraycopyName, Cond.native arraycopyName]
def wsL_law0_r15 : List Cond := [Cond.static arraycopyName, Cond.initialized "java/lang/System", Cond.methodLink RL 98 yL_spoil, Cond.static yL_spoil, Cond.codeWith yL_spoil cL_spoil 3 (some .int) [(0, 5, 6, 23)], Cond.methodLink RL 61 yX4_spoil, Cond.instanceMethod yX4_spoil, Cond.selects RX4 yX4_spoil yX4_spoil, Cond.code yX4_spoil cX4_spoil 4 (some .int)]
def wsL_law0 : List Cond := (wsL_law0_r1 ++ (wsL_law0_r2 ++ (wsL_law0_r3 ++ (wsL_law0_r4 ++ (wsL_law0_r5 ++ (wsL_law0_r6 ++ (wsL_law0_r7 ++ (wsL_law0_r8 ++ (wsL_law0_r9 ++ (wsL_law0_r10 ++ (wsL_law0_r11 ++ (wsL_law0_r12 ++ (wsL_law0_r13 ++ (wsL_law0_r14 ++ wsL_law0_r15)))))))))))))) ++ wsX40 ++ wsX10 ++ wsX20 ++ wsX00 ++ wsX30 ++ ([] : List Cond)
def wsL_law : List Cond := wsL_law0 ++ (vx_atS RX4 83 "java/lang/IndexOutOfBoundsException" ["java/lang/RuntimeException", "java/lang/Exception"]).filter goodWord ++ (vx_atS RX4 56 "java/lang/IllegalArgumentException" ["java/lang/RuntimeException", "java/lang/Exception"]).filter goodWord ++ (vx_atS RX4 66 "java/lang/IllegalStateException" ["java/lang/RuntimeException", "java/lang/Exception"]).filter goodWord
theorem inlX0 : ∀ w ∈ wsX00, w ∈ wsL_law := fun _ h => List.mem_append_left _ (List.mem_append_left _ (List.mem_append_left _ (List.mem_append_left _ (List.mem_append_left _ (List.mem_append_right _ h)))))
theorem inlX1 : ∀ w ∈ wsX10, w ∈ wsL_law := fun _ h => List.mem_append_left _ (List.mem_append_left _ (List.mem_append_left _ (List.mem_append_left _ (List.mem_append_left _ (List.mem_append_left _ (List.mem_append_left _ (List.mem_append_right _ h)))))))
theorem inlX2 : ∀ w ∈ wsX20, w ∈ wsL_law := fun _ h => List.mem_append_left _ (List.mem_append_left _ (List.mem_append_left _ (List.mem_append_left _ (List.mem_append_left _ (List.mem_append_left _ (List.mem_append_right _ h))))))
theorem inlX3 : ∀ w ∈ wsX30, w ∈ wsL_law := fun _ h => List.mem_append_left _ (List.mem_append_left _ (List.mem_append_left _ (List.mem_append_left _ (List.mem_append_right _ h))))
theorem inlX4 : ∀ w ∈ wsX40, w ∈ wsL_law := fun _ h => List.mem_append_left _ (List.mem_append_left _ (List.mem_append_left _ (List.mem_append_left _ (List.mem_append_left _ (List.mem_append_left _ (List.mem_append_left _ (List.mem_append_left _ (List.mem_append_right _ h))))))))
theorem inJx145de : ∀ w ∈ wsJx145de0, w ∈ lw_tbl := by decide +kernel
theorem inJ0 : ∀ w ∈ wsJ00, w ∈ lw_tbl := by decide +kernel
theorem inJ10 : ∀ w ∈ wsJ100, w ∈ lw_tbl := by decide +kernel
theorem inJ7 : ∀ w ∈ wsJ70, w ∈ lw_tbl := by decide +kernel
theorem dX0_init_0 : decode cX0_init 0 = .ok (.aload_n 0, 1) := by decide +kernel
theorem dX0_init_1 : decode cX0_init 1 = .ok (.invokespecial 3, 3) := by decide +kernel
theorem dX0_init_4 : decode cX0_init 4 = .ok (.aload_n 0, 1) := by decide +kernel
theorem dX0_init_5 : decode cX0_init 5 = .ok (.bipush 21, 2) := by decide +kernel
theorem dX0_init_7 : decode cX0_init 7 = .ok (.sipush 128, 3) := by decide +kernel
theorem dX0_init_10 : decode cX0_init 10 = .ok (.multianewarray 9 2, 4) := by decide +kernel
theorem dX0_init_14 : decode cX0_init 14 = .ok (.putfield 11, 3) := by decide +kernel
theorem dX0_init_17 : decode cX0_init 17 = .ok (.return_, 1) := by decide +kernel
set_option maxRecDepth 20000 in
theorem ggX0_countSpan_X4_spanOf : GoodIn wsX0_countSpan wsX4_spanOf := goodIn_r _ [4] (by decide +kernel) (by decide +kernel)
set_option maxRecDepth 20000 in
theorem gX0_countSpan_X4_spanOf_n16 : GoodIn wsX0_countSpan (wsX4_spanOf) := ggX0_countSpan_X4_spanOf
set_option maxRecDepth 20000 in
theorem ggX0_countSpan_X4_countOf : GoodIn wsX0_countSpan wsX4_countOf := goodIn_r _ [6] (by decide +kernel) (by decide +kernel)
set_option maxRecDepth 20000 in
theorem gX0_countSpan_X4_countOf_n20 : GoodIn wsX0_countSpan (wsX4_countOf) := ggX0_countSpan_X4_countOf
theorem dX0_countSpan_0 : decode cX0_countSpan 0 = .ok (.aload_n 0, 1) := by decide +kernel
theorem dX0_countSpan_1 : decode cX0_countSpan 1 = .ok (.getfield 11, 3) := by decide +kernel
theorem dX0_countSpan_4 : decode cX0_countSpan 4 = .ok (.iload_n 1, 1) := by decide +kernel
theorem dX0_countSpan_5 : decode cX0_countSpan 5 = .ok (.iload_n 2, 1) := by decide +kernel
theorem dX0_countSpan_6 : decode cX0_countSpan 6 = .ok (.invokestatic 16, 3) := by decide +kernel
theorem dX0_countSpan_9 : decode cX0_countSpan 9 = .ok (.aaload, 1) := by decide +kernel
theorem dX0_countSpan_10 : decode cX0_countSpan 10 = .ok (.iload_n 3, 1) := by decide +kernel
theorem dX0_countSpan_11 : decode cX0_countSpan 11 = .ok (.invokestatic 20, 3) := by decide +kernel
theorem dX0_countSpan_14 : decode cX0_countSpan 14 = .ok (.ireturn, 1) := by decide +kernel
set_option maxRecDepth 20000 in
theorem ggX0_fill_X0_fillSpan : GoodIn wsX0_fill wsX0_fillSpan := goodIn_r _ [5, 6, 7, 8, 9, 10, 11, 12, 13, 14, 15, 16, 17, 18, 19, 20, 21, 22, 23, 24, 25, 26, 27, 28, 29, 30, 31, 32, 33, 34, 35, 36, 37, 38, 39, 40] (by decide +kernel) (by decide +kernel)
set_option maxRecDepth 20000 in
theorem gX0_fill_X0_fillSpan : GoodIn wsX0_fill (wsV RX0 24 RX0 yX0_fillSpan wsX0_fillSpan) := goodIn_app (goodIn_of _ (by decide +kernel)) ggX0_fill_X0_fillSpan
theorem dX0_fill_0 : decode cX0_fill 0 = .ok (.iconst 1, 1) := by decide +kernel
theorem dX0_fill_1 : decode cX0_fill 1 = .ok (.istore 4, 2) := by decide +kernel
theorem dX0_fill_3 : decode cX0_fill 3 = .ok (.iload 4, 2) := by decide +kernel
theorem dX0_fill_5 : decode cX0_fill 5 = .ok (.iload_n 3, 1) := by decide +kernel
theorem dX0_fill_6 : decode cX0_fill 6 = .ok (.if_icmp .gt 36, 3) := by decide +kernel
theorem dX0_fill_9 : decode cX0_fill 9 = .ok (.iload 4, 2) := by decide +kernel
theorem dX0_fill_11 : decode cX0_fill 11 = .ok (.iconst 1, 1) := by decide +kernel
theorem dX0_fill_12 : decode cX0_fill 12 = .ok (.isub, 1) := by decide +kernel
theorem dX0_fill_13 : decode cX0_fill 13 = .ok (.istore 5, 2) := by decide +kernel
theorem dX0_fill_15 : decode cX0_fill 15 = .ok (.iload 5, 2) := by decide +kernel
theorem dX0_fill_17 : decode cX0_fill 17 = .ok (.ifCond .lt 19, 3) := by decide +kernel
theorem dX0_fill_20 : decode cX0_fill 20 = .ok (.aload_n 0, 1) := by decide +kernel
theorem dX0_fill_21 : decode cX0_fill 21 = .ok (.aload_n 1, 1) := by decide +kernel
theorem dX0_fill_22 : decode cX0_fill 22 = .ok (.aload_n 2, 1) := by decide +kernel
theorem dX0_fill_23 : decode cX0_fill 23 = .ok (.iload 5, 2) := by decide +kernel
theorem dX0_fill_25 : decode cX0_fill 25 = .ok (.iload 4, 2) := by decide +kernel
theorem dX0_fill_27 : decode cX0_fill 27 = .ok (.invokevirtual 24, 3) := by decide +kernel
theorem dX0_fill_30 : decode cX0_fill 30 = .ok (.iinc 5 (-1), 3) := by decide +kernel
theorem dX0_fill_33 : decode cX0_fill 33 = .ok (.goto (-18), 3) := by decide +kernel
theorem dX0_fill_36 : decode cX0_fill 36 = .ok (.iinc 4 1, 3) := by decide +kernel
theorem dX0_fill_39 : decode cX0_fill 39 = .ok (.goto (-36), 3) := by decide +kernel
theorem dX0_fill_42 : decode cX0_fill 42 = .ok (.return_, 1) := by decide +kernel
set_option maxRecDepth 20000 in
theorem ggX0_fillSpan_X4_spanOf : GoodIn wsX0_fillSpan wsX4_spanOf := goodIn_r _ [4] (by decide +kernel) (by decide +kernel)
set_option maxRecDepth 20000 in
theorem gX0_fillSpan_X4_spanOf_n16 : GoodIn wsX0_fillSpan (wsX4_spanOf) := ggX0_fillSpan_X4_spanOf
set_option maxRecDepth 20000 in
theorem ggX0_fillSpan_J7_fill_53178 : GoodIn wsX0_fillSpan wsJ7_fill_53178 := goodIn_r _ [8] (by decide +kernel) (by decide +kernel)
set_option maxRecDepth 20000 in
theorem gX0_fillSpan_J7_fill_53178 : GoodIn wsX0_fillSpan (va_wsS RX0 28 yJ7_fill_53178 wsJ7_fill_53178) := goodIn_app (goodIn_of _ (by decide +kernel)) ggX0_fillSpan_J7_fill_53178
set_option maxRecDepth 20000 in
theorem ggX0_fillSpan_X1_countWord : GoodIn wsX0_fillSpan wsX1_countWord := goodIn_r _ [12, 13, 14, 28, 29, 30, 31, 32, 33, 34, 35] (by decide +kernel) (by decide +kernel)
set_option maxRecDepth 20000 in
theorem gX0_fillSpan_X1_countWord_n34 : GoodIn wsX0_fillSpan (wsX1_countWord) := ggX0_fillSpan_X1_countWord
set_option maxRecDepth 20000 in
theorem ggX0_fillSpan_X1_addJoined : GoodIn wsX0_fillSpan wsX1_addJoined := goodIn_r _ [17, 18, 19, 20, 21, 22, 10, 23, 24, 25, 26, 28, 29, 30, 31, 32, 33, 34, 35] (by decide +kernel) (by decide +kernel)
set_option maxRecDepth 20000 in
theorem gX0_fillSpan_X1_addJoined_n40 : GoodIn wsX0_fillSpan (wsX1_addJoined) := ggX0_fillSpan_X1_addJoined
theorem dX0_fillSpan_0 : decode cX0_fillSpan 0 = .ok (.aload_n 0, 1) := by decide +kernel
theorem dX0_fillSpan_1 : decode cX0_fillSpan 1 = .ok (.getfield 11, 3) := by decide +kernel
theorem dX0_fillSpan_4 : decode cX0_fillSpan 4 = .ok (.iload_n 3, 1) := by decide +kernel
theorem dX0_fillSpan_5 : decode cX0_fillSpan 5 = .ok (.iload 4, 2) := by decide +kernel
theorem dX0_fillSpan_7 : decode cX0_fillSpan 7 = .ok (.invokestatic 16, 3) := by decide +kernel
theorem dX0_fillSpan_10 : decode cX0_fillSpan 10 = .ok (.aaload, 1) := by decide +kernel
theorem dX0_fillSpan_11 : decode cX0_fillSpan 11 = .ok (.astore 5, 2) := by decide +kernel
theorem dX0_fillSpan_13 : decode cX0_fillSpan 13 = .ok (.aload 5, 2) := by decide +kernel
theorem dX0_fillSpan_15 : decode cX0_fillSpan 15 = .ok (.iconst 0, 1) := by decide +kernel
theorem dX0_fillSpan_16 : decode cX0_fillSpan 16 = .ok (.invokestatic 28, 3) := by decide +kernel
theorem dX0_fillSpan_19 : decode cX0_fillSpan 19 = .ok (.iload 4, 2) := by decide +kernel
theorem dX0_fillSpan_21 : decode cX0_fillSpan 21 = .ok (.iload_n 3, 1) := by decide +kernel
theorem dX0_fillSpan_22 : decode cX0_fillSpan 22 = .ok (.iconst 1, 1) := by decide +kernel
theorem dX0_fillSpan_23 : decode cX0_fillSpan 23 = .ok (.iadd, 1) := by decide +kernel
theorem dX0_fillSpan_24 : decode cX0_fillSpan 24 = .ok (.if_icmp .ne 12, 3) := by decide +kernel
theorem dX0_fillSpan_27 : decode cX0_fillSpan 27 = .ok (.aload_n 1, 1) := by decide +kernel
theorem dX0_fillSpan_28 : decode cX0_fillSpan 28 = .ok (.aload_n 2, 1) := by decide +kernel
theorem dX0_fillSpan_29 : decode cX0_fillSpan 29 = .ok (.iload_n 3, 1) := by decide +kernel
theorem dX0_fillSpan_30 : decode cX0_fillSpan 30 = .ok (.iaload, 1) := by decide +kernel
theorem dX0_fillSpan_31 : decode cX0_fillSpan 31 = .ok (.aload 5, 2) := by decide +kernel
theorem dX0_fillSpan_33 : decode cX0_fillSpan 33 = .ok (.invokevirtual 34, 3) := by decide +kernel
theorem dX0_fillSpan_36 : decode cX0_fillSpan 36 = .ok (.iload_n 3, 1) := by decide +kernel
theorem dX0_fillSpan_37 : decode cX0_fillSpan 37 = .ok (.iconst 1, 1) := by decide +kernel
theorem dX0_fillSpan_38 : decode cX0_fillSpan 38 = .ok (.iadd, 1) := by decide +kernel
theorem dX0_fillSpan_39 : decode cX0_fillSpan 39 = .ok (.istore 6, 2) := by decide +kernel
theorem dX0_fillSpan_41 : decode cX0_fillSpan 41 = .ok (.iload 6, 2) := by decide +kernel
theorem dX0_fillSpan_43 : decode cX0_fillSpan 43 = .ok (.iload 4, 2) := by decide +kernel
theorem dX0_fillSpan_45 : decode cX0_fillSpan 45 = .ok (.if_icmp .ge 46, 3) := by decide +kernel
theorem dX0_fillSpan_48 : decode cX0_fillSpan 48 = .ok (.aload_n 0, 1) := by decide +kernel
theorem dX0_fillSpan_49 : decode cX0_fillSpan 49 = .ok (.getfield 11, 3) := by decide +kernel
theorem dX0_fillSpan_52 : decode cX0_fillSpan 52 = .ok (.iload_n 3, 1) := by decide +kernel
theorem dX0_fillSpan_53 : decode cX0_fillSpan 53 = .ok (.iload 6, 2) := by decide +kernel
theorem dX0_fillSpan_55 : decode cX0_fillSpan 55 = .ok (.invokestatic 16, 3) := by decide +kernel
theorem dX0_fillSpan_58 : decode cX0_fillSpan 58 = .ok (.aaload, 1) := by decide +kernel
theorem dX0_fillSpan_59 : decode cX0_fillSpan 59 = .ok (.astore 7, 2) := by decide +kernel
theorem dX0_fillSpan_61 : decode cX0_fillSpan 61 = .ok (.aload_n 0, 1) := by decide +kernel
theorem dX0_fillSpan_62 : decode cX0_fillSpan 62 = .ok (.getfield 11, 3) := by decide +kernel
theorem dX0_fillSpan_65 : decode cX0_fillSpan 65 = .ok (.iload 6, 2) := by decide +kernel
theorem dX0_fillSpan_67 : decode cX0_fillSpan 67 = .ok (.iload 4, 2) := by decide +kernel
theorem dX0_fillSpan_69 : decode cX0_fillSpan 69 = .ok (.invokestatic 16, 3) := by decide +kernel
theorem dX0_fillSpan_72 : decode cX0_fillSpan 72 = .ok (.aaload, 1) := by decide +kernel
theorem dX0_fillSpan_73 : decode cX0_fillSpan 73 = .ok (.astore 8, 2) := by decide +kernel
theorem dX0_fillSpan_75 : decode cX0_fillSpan 75 = .ok (.aload_n 1, 1) := by decide +kernel
theorem dX0_fillSpan_76 : decode cX0_fillSpan 76 = .ok (.aload 7, 2) := by decide +kernel
theorem dX0_fillSpan_78 : decode cX0_fillSpan 78 = .ok (.aload 8, 2) := by decide +kernel
theorem dX0_fillSpan_80 : decode cX0_fillSpan 80 = .ok (.aload 5, 2) := by decide +kernel
theorem dX0_fillSpan_82 : decode cX0_fillSpan 82 = .ok (.invokevirtual 40, 3) := by decide +kernel
theorem dX0_fillSpan_85 : decode cX0_fillSpan 85 = .ok (.iinc 6 1, 3) := by decide +kernel
theorem dX0_fillSpan_88 : decode cX0_fillSpan 88 = .ok (.goto (-47), 3) := by decide +kernel
theorem dX0_fillSpan_91 : decode cX0_fillSpan 91 = .ok (.return_, 1) := by decide +kernel
theorem dX1_init_0 : decode cX1_init 0 = .ok (.aload_n 0, 1) := by decide +kernel
theorem dX1_init_1 : decode cX1_init 1 = .ok (.invokespecial 3, 3) := by decide +kernel
theorem dX1_init_4 : decode cX1_init 4 = .ok (.aload_n 0, 1) := by decide +kernel
theorem dX1_init_5 : decode cX1_init 5 = .ok (.iconst 0, 1) := by decide +kernel
theorem dX1_init_6 : decode cX1_init 6 = .ok (.putfield 9, 3) := by decide +kernel
theorem dX1_init_9 : decode cX1_init 9 = .ok (.aload_n 0, 1) := by decide +kernel
theorem dX1_init_10 : decode cX1_init 10 = .ok (.bipush 9, 2) := by decide +kernel
theorem dX1_init_12 : decode cX1_init 12 = .ok (.newarray .int, 2) := by decide +kernel
theorem dX1_init_14 : decode cX1_init 14 = .ok (.putfield 15, 3) := by decide +kernel
theorem dX1_init_17 : decode cX1_init 17 = .ok (.aload_n 0, 1) := by decide +kernel
theorem dX1_init_18 : decode cX1_init 18 = .ok (.bipush 9, 2) := by decide +kernel
theorem dX1_init_20 : decode cX1_init 20 = .ok (.newarray .int, 2) := by decide +kernel
theorem dX1_init_22 : decode cX1_init 22 = .ok (.putfield 19, 3) := by decide +kernel
theorem dX1_init_25 : decode cX1_init 25 = .ok (.aload_n 0, 1) := by decide +kernel
theorem dX1_init_26 : decode cX1_init 26 = .ok (.iconst 0, 1) := by decide +kernel
theorem dX1_init_27 : decode cX1_init 27 = .ok (.putfield 22, 3) := by decide +kernel
theorem dX1_init_30 : decode cX1_init 30 = .ok (.aload_n 0, 1) := by decide +kernel
theorem dX1_init_31 : decode cX1_init 31 = .ok (.bipush 8, 2) := by decide +kernel
theorem dX1_init_33 : decode cX1_init 33 = .ok (.newarray .int, 2) := by decide +kernel
theorem dX1_init_35 : decode cX1_init 35 = .ok (.putfield 25, 3) := by decide +kernel
theorem dX1_init_38 : decode cX1_init 38 = .ok (.aload_n 0, 1) := by decide +kernel
theorem dX1_init_39 : decode cX1_init 39 = .ok (.bipush 8, 2) := by decide +kernel
theorem dX1_init_41 : decode cX1_init 41 = .ok (.newarray .int, 2) := by decide +kernel
theorem dX1_init_43 : decode cX1_init 43 = .ok (.putfield 28, 3) := by decide +kernel
theorem dX1_init_46 : decode cX1_init 46 = .ok (.aload_n 0, 1) := by decide +kernel
theorem dX1_init_47 : decode cX1_init 47 = .ok (.bipush 8, 2) := by decide +kernel
theorem dX1_init_49 : decode cX1_init 49 = .ok (.newarray .int, 2) := by decide +kernel
theorem dX1_init_51 : decode cX1_init 51 = .ok (.putfield 31, 3) := by decide +kernel
theorem dX1_init_54 : decode cX1_init 54 = .ok (.aload_n 0, 1) := by decide +kernel
theorem dX1_init_55 : decode cX1_init 55 = .ok (.bipush 8, 2) := by decide +kernel
theorem dX1_init_57 : decode cX1_init 57 = .ok (.sipush 256, 3) := by decide +kernel
theorem dX1_init_60 : decode cX1_init 60 = .ok (.multianewarray 34 2, 4) := by decide +kernel
theorem dX1_init_64 : decode cX1_init 64 = .ok (.putfield 36, 3) := by decide +kernel
theorem dX1_init_67 : decode cX1_init 67 = .ok (.return_, 1) := by decide +kernel
theorem dX1_defineWord_0 : decode cX1_defineWord 0 = .ok (.aload_n 0, 1) := by decide +kernel
theorem dX1_defineWord_1 : decode cX1_defineWord 1 = .ok (.getfield 15, 3) := by decide +kernel
theorem dX1_defineWord_4 : decode cX1_defineWord 4 = .ok (.iload_n 1, 1) := by decide +kernel
theorem dX1_defineWord_5 : decode cX1_defineWord 5 = .ok (.iload_n 2, 1) := by decide +kernel
theorem dX1_defineWord_6 : decode cX1_defineWord 6 = .ok (.iastore, 1) := by decide +kernel
theorem dX1_defineWord_7 : decode cX1_defineWord 7 = .ok (.aload_n 0, 1) := by decide +kernel
theorem dX1_defineWord_8 : decode cX1_defineWord 8 = .ok (.getfield 19, 3) := by decide +kernel
theorem dX1_defineWord_11 : decode cX1_defineWord 11 = .ok (.iload_n 1, 1) := by decide +kernel
theorem dX1_defineWord_12 : decode cX1_defineWord 12 = .ok (.iload_n 3, 1) := by decide +kernel
theorem dX1_defineWord_13 : decode cX1_defineWord 13 = .ok (.iastore, 1) := by decide +kernel
theorem dX1_defineWord_14 : decode cX1_defineWord 14 = .ok (.return_, 1) := by decide +kernel
set_option maxRecDepth 20000 in
theorem ggX1_defineRule_X1_joinedPair : GoodIn wsX1_defineRule wsX1_joinedPair := goodIn_r _ [8, 9, 10, 7, 11, 12, 13, 14] (by decide +kernel) (by decide +kernel)
set_option maxRecDepth 20000 in
theorem gX1_defineRule_X1_joinedPair : GoodIn wsX1_defineRule (va_wsS RX1 39 yX1_joinedPair wsX1_joinedPair) := goodIn_app (goodIn_of _ (by decide +kernel)) ggX1_defineRule_X1_joinedPair
theorem dX1_defineRule_0 : decode cX1_defineRule 0 = .ok (.aload_n 0, 1) := by decide +kernel
theorem dX1_defineRule_1 : decode cX1_defineRule 1 = .ok (.getfield 25, 3) := by decide +kernel
theorem dX1_defineRule_4 : decode cX1_defineRule 4 = .ok (.iload_n 1, 1) := by decide +kernel
theorem dX1_defineRule_5 : decode cX1_defineRule 5 = .ok (.iload_n 2, 1) := by decide +kernel
theorem dX1_defineRule_6 : decode cX1_defineRule 6 = .ok (.iastore, 1) := by decide +kernel
theorem dX1_defineRule_7 : decode cX1_defineRule 7 = .ok (.aload_n 0, 1) := by decide +kernel
theorem dX1_defineRule_8 : decode cX1_defineRule 8 = .ok (.getfield 28, 3) := by decide +kernel
theorem dX1_defineRule_11 : decode cX1_defineRule 11 = .ok (.iload_n 1, 1) := by decide +kernel
theorem dX1_defineRule_12 : decode cX1_defineRule 12 = .ok (.iload_n 3, 1) := by decide +kernel
theorem dX1_defineRule_13 : decode cX1_defineRule 13 = .ok (.iastore, 1) := by decide +kernel
theorem dX1_defineRule_14 : decode cX1_defineRule 14 = .ok (.aload_n 0, 1) := by decide +kernel
theorem dX1_defineRule_15 : decode cX1_defineRule 15 = .ok (.getfield 31, 3) := by decide +kernel
theorem dX1_defineRule_18 : decode cX1_defineRule 18 = .ok (.iload_n 1, 1) := by decide +kernel
theorem dX1_defineRule_19 : decode cX1_defineRule 19 = .ok (.iload 4, 2) := by decide +kernel
theorem dX1_defineRule_21 : decode cX1_defineRule 21 = .ok (.iastore, 1) := by decide +kernel
theorem dX1_defineRule_22 : decode cX1_defineRule 22 = .ok (.iconst 0, 1) := by decide +kernel
theorem dX1_defineRule_23 : decode cX1_defineRule 23 = .ok (.istore 6, 2) := by decide +kernel
theorem dX1_defineRule_25 : decode cX1_defineRule 25 = .ok (.iload 6, 2) := by decide +kernel
theorem dX1_defineRule_27 : decode cX1_defineRule 27 = .ok (.sipush 256, 3) := by decide +kernel
theorem dX1_defineRule_30 : decode cX1_defineRule 30 = .ok (.if_icmp .ge 33, 3) := by decide +kernel
theorem dX1_defineRule_33 : decode cX1_defineRule 33 = .ok (.aload_n 0, 1) := by decide +kernel
theorem dX1_defineRule_34 : decode cX1_defineRule 34 = .ok (.getfield 36, 3) := by decide +kernel
theorem dX1_defineRule_37 : decode cX1_defineRule 37 = .ok (.iload_n 1, 1) := by decide +kernel
theorem dX1_defineRule_38 : decode cX1_defineRule 38 = .ok (.aaload, 1) := by decide +kernel
theorem dX1_defineRule_39 : decode cX1_defineRule 39 = .ok (.iload 6, 2) := by decide +kernel
theorem dX1_defineRule_41 : decode cX1_defineRule 41 = .ok (.iload 5, 2) := by decide +kernel
theorem dX1_defineRule_43 : decode cX1_defineRule 43 = .ok (.iload 6, 2) := by decide +kernel
theorem dX1_defineRule_45 : decode cX1_defineRule 45 = .ok (.bipush 16, 2) := by decide +kernel
theorem dX1_defineRule_47 : decode cX1_defineRule 47 = .ok (.idiv, 1) := by decide +kernel
theorem dX1_defineRule_48 : decode cX1_defineRule 48 = .ok (.iload 6, 2) := by decide +kernel
theorem dX1_defineRule_50 : decode cX1_defineRule 50 = .ok (.bipush 16, 2) := by decide +kernel
theorem dX1_defineRule_52 : decode cX1_defineRule 52 = .ok (.irem, 1) := by decide +kernel
theorem dX1_defineRule_53 : decode cX1_defineRule 53 = .ok (.invokestatic 39, 3) := by decide +kernel
theorem dX1_defineRule_56 : decode cX1_defineRule 56 = .ok (.iastore, 1) := by decide +kernel
theorem dX1_defineRule_57 : decode cX1_defineRule 57 = .ok (.iinc 6 1, 3) := by decide +kernel
theorem dX1_defineRule_60 : decode cX1_defineRule 60 = .ok (.goto (-35), 3) := by decide +kernel
theorem dX1_defineRule_63 : decode cX1_defineRule 63 = .ok (.return_, 1) := by decide +kernel
set_option maxRecDepth 20000 in
theorem ggX1_joinedPair_X1_joinedValue : GoodIn wsX1_joinedPair wsX1_joinedValue := goodIn_r _ [4] (by decide +kernel) (by decide +kernel)
set_option maxRecDepth 20000 in
theorem gX1_joinedPair_X1_joinedValue : GoodIn wsX1_joinedPair (va_wsS RX1 43 yX1_joinedValue wsX1_joinedValue) := goodIn_app (goodIn_of _ (by decide +kernel)) ggX1_joinedPair_X1_joinedValue
set_option maxRecDepth 20000 in
theorem ggX1_joinedPair_X4_pairOf : GoodIn wsX1_joinedPair wsX4_pairOf := goodIn_r _ [7] (by decide +kernel) (by decide +kernel)
set_option maxRecDepth 20000 in
theorem gX1_joinedPair_X4_pairOf_n46 : GoodIn wsX1_joinedPair (wsX4_pairOf) := ggX1_joinedPair_X4_pairOf
theorem dX1_joinedPair_0 : decode cX1_joinedPair 0 = .ok (.iload_n 0, 1) := by decide +kernel
theorem dX1_joinedPair_1 : decode cX1_joinedPair 1 = .ok (.bipush 10, 2) := by decide +kernel
theorem dX1_joinedPair_3 : decode cX1_joinedPair 3 = .ok (.idiv, 1) := by decide +kernel
theorem dX1_joinedPair_4 : decode cX1_joinedPair 4 = .ok (.iload_n 1, 1) := by decide +kernel
theorem dX1_joinedPair_5 : decode cX1_joinedPair 5 = .ok (.iconst 4, 1) := by decide +kernel
theorem dX1_joinedPair_6 : decode cX1_joinedPair 6 = .ok (.idiv, 1) := by decide +kernel
theorem dX1_joinedPair_7 : decode cX1_joinedPair 7 = .ok (.iload_n 2, 1) := by decide +kernel
theorem dX1_joinedPair_8 : decode cX1_joinedPair 8 = .ok (.iconst 4, 1) := by decide +kernel
theorem dX1_joinedPair_9 : decode cX1_joinedPair 9 = .ok (.idiv, 1) := by decide +kernel
theorem dX1_joinedPair_10 : decode cX1_joinedPair 10 = .ok (.invokestatic 43, 3) := by decide +kernel
theorem dX1_joinedPair_13 : decode cX1_joinedPair 13 = .ok (.istore_n 3, 1) := by decide +kernel
theorem dX1_joinedPair_14 : decode cX1_joinedPair 14 = .ok (.iload_n 0, 1) := by decide +kernel
theorem dX1_joinedPair_15 : decode cX1_joinedPair 15 = .ok (.bipush 10, 2) := by decide +kernel
theorem dX1_joinedPair_17 : decode cX1_joinedPair 17 = .ok (.irem, 1) := by decide +kernel
theorem dX1_joinedPair_18 : decode cX1_joinedPair 18 = .ok (.iload_n 1, 1) := by decide +kernel
theorem dX1_joinedPair_19 : decode cX1_joinedPair 19 = .ok (.iconst 4, 1) := by decide +kernel
theorem dX1_joinedPair_20 : decode cX1_joinedPair 20 = .ok (.irem, 1) := by decide +kernel
theorem dX1_joinedPair_21 : decode cX1_joinedPair 21 = .ok (.iload_n 2, 1) := by decide +kernel
theorem dX1_joinedPair_22 : decode cX1_joinedPair 22 = .ok (.iconst 4, 1) := by decide +kernel
theorem dX1_joinedPair_23 : decode cX1_joinedPair 23 = .ok (.irem, 1) := by decide +kernel
theorem dX1_joinedPair_24 : decode cX1_joinedPair 24 = .ok (.invokestatic 43, 3) := by decide +kernel
theorem dX1_joinedPair_27 : decode cX1_joinedPair 27 = .ok (.istore 4, 2) := by decide +kernel
theorem dX1_joinedPair_29 : decode cX1_joinedPair 29 = .ok (.iload_n 3, 1) := by decide +kernel
theorem dX1_joinedPair_30 : decode cX1_joinedPair 30 = .ok (.iconst (-1), 1) := by decide +kernel
theorem dX1_joinedPair_31 : decode cX1_joinedPair 31 = .ok (.if_icmp .eq 9, 3) := by decide +kernel
theorem dX1_joinedPair_34 : decode cX1_joinedPair 34 = .ok (.iload 4, 2) := by decide +kernel
theorem dX1_joinedPair_36 : decode cX1_joinedPair 36 = .ok (.iconst (-1), 1) := by decide +kernel
theorem dX1_joinedPair_37 : decode cX1_joinedPair 37 = .ok (.if_icmp .ne 7, 3) := by decide +kernel
theorem dX1_joinedPair_40 : decode cX1_joinedPair 40 = .ok (.iconst (-1), 1) := by decide +kernel
theorem dX1_joinedPair_41 : decode cX1_joinedPair 41 = .ok (.goto 9, 3) := by decide +kernel
theorem dX1_joinedPair_44 : decode cX1_joinedPair 44 = .ok (.iload_n 3, 1) := by decide +kernel
theorem dX1_joinedPair_45 : decode cX1_joinedPair 45 = .ok (.iload 4, 2) := by decide +kernel
theorem dX1_joinedPair_47 : decode cX1_joinedPair 47 = .ok (.invokestatic 46, 3) := by decide +kernel
theorem dX1_joinedPair_50 : decode cX1_joinedPair 50 = .ok (.ireturn, 1) := by decide +kernel
theorem dX1_joinedValue_0 : decode cX1_joinedValue 0 = .ok (.iload_n 0, 1) := by decide +kernel
theorem dX1_joinedValue_1 : decode cX1_joinedValue 1 = .ok (.tableswitch 52 0 2 #[27, 29, 31], 27) := by decide +kernel
theorem dX1_joinedValue_28 : decode cX1_joinedValue 28 = .ok (.iload_n 1, 1) := by decide +kernel
theorem dX1_joinedValue_29 : decode cX1_joinedValue 29 = .ok (.ireturn, 1) := by decide +kernel
theorem dX1_joinedValue_30 : decode cX1_joinedValue 30 = .ok (.iload_n 2, 1) := by decide +kernel
theorem dX1_joinedValue_31 : decode cX1_joinedValue 31 = .ok (.ireturn, 1) := by decide +kernel
theorem dX1_joinedValue_32 : decode cX1_joinedValue 32 = .ok (.iload_n 1, 1) := by decide +kernel
theorem dX1_joinedValue_33 : decode cX1_joinedValue 33 = .ok (.iload_n 2, 1) := by decide +kernel
theorem dX1_joinedValue_34 : decode cX1_joinedValue 34 = .ok (.if_icmp .eq 7, 3) := by decide +kernel
theorem dX1_joinedValue_37 : decode cX1_joinedValue 37 = .ok (.iload_n 2, 1) := by decide +kernel
theorem dX1_joinedValue_38 : decode cX1_joinedValue 38 = .ok (.ifCond .ne 5, 3) := by decide +kernel
theorem dX1_joinedValue_41 : decode cX1_joinedValue 41 = .ok (.iload_n 1, 1) := by decide +kernel
theorem dX1_joinedValue_42 : decode cX1_joinedValue 42 = .ok (.ireturn, 1) := by decide +kernel
theorem dX1_joinedValue_43 : decode cX1_joinedValue 43 = .ok (.iload_n 1, 1) := by decide +kernel
theorem dX1_joinedValue_44 : decode cX1_joinedValue 44 = .ok (.ifCond .ne 7, 3) := by decide +kernel
theorem dX1_joinedValue_47 : decode cX1_joinedValue 47 = .ok (.iload_n 2, 1) := by decide +kernel
theorem dX1_joinedValue_48 : decode cX1_joinedValue 48 = .ok (.goto 4, 3) := by decide +kernel
theorem dX1_joinedValue_51 : decode cX1_joinedValue 51 = .ok (.iconst (-1), 1) := by decide +kernel
theorem dX1_joinedValue_52 : decode cX1_joinedValue 52 = .ok (.ireturn, 1) := by decide +kernel
theorem dX1_joinedValue_53 : decode cX1_joinedValue 53 = .ok (.iconst 0, 1) := by decide +kernel
theorem dX1_joinedValue_54 : decode cX1_joinedValue 54 = .ok (.ireturn, 1) := by decide +kernel
set_option maxRecDepth 20000 in
theorem ggX1_pairsMade_X4_hasPair : GoodIn wsX1_pairsMade wsX4_hasPair := goodIn_r _ [4] (by decide +kernel) (by decide +kernel)
set_option maxRecDepth 20000 in
theorem gX1_pairsMade_X4_hasPair_n50 : GoodIn wsX1_pairsMade (wsX4_hasPair) := ggX1_pairsMade_X4_hasPair
theorem dX1_pairsMade_0 : decode cX1_pairsMade 0 = .ok (.iconst 0, 1) := by decide +kernel
theorem dX1_pairsMade_1 : decode cX1_pairsMade 1 = .ok (.istore 4, 2) := by decide +kernel
theorem dX1_pairsMade_3 : decode cX1_pairsMade 3 = .ok (.iconst 0, 1) := by decide +kernel
theorem dX1_pairsMade_4 : decode cX1_pairsMade 4 = .ok (.istore 5, 2) := by decide +kernel
theorem dX1_pairsMade_6 : decode cX1_pairsMade 6 = .ok (.iload 5, 2) := by decide +kernel
theorem dX1_pairsMade_8 : decode cX1_pairsMade 8 = .ok (.bipush 16, 2) := by decide +kernel
theorem dX1_pairsMade_10 : decode cX1_pairsMade 10 = .ok (.if_icmp .ge 78, 3) := by decide +kernel
theorem dX1_pairsMade_13 : decode cX1_pairsMade 13 = .ok (.iload_n 2, 1) := by decide +kernel
theorem dX1_pairsMade_14 : decode cX1_pairsMade 14 = .ok (.iload 5, 2) := by decide +kernel
theorem dX1_pairsMade_16 : decode cX1_pairsMade 16 = .ok (.invokestatic 50, 3) := by decide +kernel
theorem dX1_pairsMade_19 : decode cX1_pairsMade 19 = .ok (.ifCond .ne 6, 3) := by decide +kernel
theorem dX1_pairsMade_22 : decode cX1_pairsMade 22 = .ok (.goto 60, 3) := by decide +kernel
theorem dX1_pairsMade_25 : decode cX1_pairsMade 25 = .ok (.iconst 0, 1) := by decide +kernel
theorem dX1_pairsMade_26 : decode cX1_pairsMade 26 = .ok (.istore 6, 2) := by decide +kernel
theorem dX1_pairsMade_28 : decode cX1_pairsMade 28 = .ok (.iload 6, 2) := by decide +kernel
theorem dX1_pairsMade_30 : decode cX1_pairsMade 30 = .ok (.bipush 16, 2) := by decide +kernel
theorem dX1_pairsMade_32 : decode cX1_pairsMade 32 = .ok (.if_icmp .ge 50, 3) := by decide +kernel
theorem dX1_pairsMade_35 : decode cX1_pairsMade 35 = .ok (.aload_n 0, 1) := by decide +kernel
theorem dX1_pairsMade_36 : decode cX1_pairsMade 36 = .ok (.getfield 36, 3) := by decide +kernel
theorem dX1_pairsMade_39 : decode cX1_pairsMade 39 = .ok (.iload_n 1, 1) := by decide +kernel
theorem dX1_pairsMade_40 : decode cX1_pairsMade 40 = .ok (.aaload, 1) := by decide +kernel
theorem dX1_pairsMade_41 : decode cX1_pairsMade 41 = .ok (.iload 5, 2) := by decide +kernel
theorem dX1_pairsMade_43 : decode cX1_pairsMade 43 = .ok (.bipush 16, 2) := by decide +kernel
theorem dX1_pairsMade_45 : decode cX1_pairsMade 45 = .ok (.imul, 1) := by decide +kernel
theorem dX1_pairsMade_46 : decode cX1_pairsMade 46 = .ok (.iload 6, 2) := by decide +kernel
theorem dX1_pairsMade_48 : decode cX1_pairsMade 48 = .ok (.iadd, 1) := by decide +kernel
theorem dX1_pairsMade_49 : decode cX1_pairsMade 49 = .ok (.iaload, 1) := by decide +kernel
theorem dX1_pairsMade_50 : decode cX1_pairsMade 50 = .ok (.istore 7, 2) := by decide +kernel
theorem dX1_pairsMade_52 : decode cX1_pairsMade 52 = .ok (.iload 7, 2) := by decide +kernel
theorem dX1_pairsMade_54 : decode cX1_pairsMade 54 = .ok (.iconst (-1), 1) := by decide +kernel
theorem dX1_pairsMade_55 : decode cX1_pairsMade 55 = .ok (.if_icmp .eq 21, 3) := by decide +kernel
theorem dX1_pairsMade_58 : decode cX1_pairsMade 58 = .ok (.iload_n 3, 1) := by decide +kernel
theorem dX1_pairsMade_59 : decode cX1_pairsMade 59 = .ok (.iload 6, 2) := by decide +kernel
theorem dX1_pairsMade_61 : decode cX1_pairsMade 61 = .ok (.invokestatic 50, 3) := by decide +kernel
theorem dX1_pairsMade_64 : decode cX1_pairsMade 64 = .ok (.ifCond .eq 12, 3) := by decide +kernel
theorem dX1_pairsMade_67 : decode cX1_pairsMade 67 = .ok (.iload 4, 2) := by decide +kernel
theorem dX1_pairsMade_69 : decode cX1_pairsMade 69 = .ok (.iconst 1, 1) := by decide +kernel
theorem dX1_pairsMade_70 : decode cX1_pairsMade 70 = .ok (.iload 7, 2) := by decide +kernel
theorem dX1_pairsMade_72 : decode cX1_pairsMade 72 = .ok (.ishl, 1) := by decide +kernel
theorem dX1_pairsMade_73 : decode cX1_pairsMade 73 = .ok (.ior, 1) := by decide +kernel
theorem dX1_pairsMade_74 : decode cX1_pairsMade 74 = .ok (.istore 4, 2) := by decide +kernel
theorem dX1_pairsMade_76 : decode cX1_pairsMade 76 = .ok (.iinc 6 1, 3) := by decide +kernel
theorem dX1_pairsMade_79 : decode cX1_pairsMade 79 = .ok (.goto (-51), 3) := by decide +kernel
theorem dX1_pairsMade_82 : decode cX1_pairsMade 82 = .ok (.iinc 5 1, 3) := by decide +kernel
theorem dX1_pairsMade_85 : decode cX1_pairsMade 85 = .ok (.goto (-79), 3) := by decide +kernel
theorem dX1_pairsMade_88 : decode cX1_pairsMade 88 = .ok (.iload 4, 2) := by decide +kernel
theorem dX1_pairsMade_90 : decode cX1_pairsMade 90 = .ok (.ireturn, 1) := by decide +kernel
theorem dX1_countWord_0 : decode cX1_countWord 0 = .ok (.aload_n 2, 1) := by decide +kernel
theorem dX1_countWord_1 : decode cX1_countWord 1 = .ok (.aload_n 0, 1) := by decide +kernel
theorem dX1_countWord_2 : decode cX1_countWord 2 = .ok (.getfield 15, 3) := by decide +kernel
theorem dX1_countWord_5 : decode cX1_countWord 5 = .ok (.iload_n 1, 1) := by decide +kernel
theorem dX1_countWord_6 : decode cX1_countWord 6 = .ok (.iaload, 1) := by decide +kernel
theorem dX1_countWord_7 : decode cX1_countWord 7 = .ok (.bipush 16, 2) := by decide +kernel
theorem dX1_countWord_9 : decode cX1_countWord 9 = .ok (.imul, 1) := by decide +kernel
theorem dX1_countWord_10 : decode cX1_countWord 10 = .ok (.aload_n 0, 1) := by decide +kernel
theorem dX1_countWord_11 : decode cX1_countWord 11 = .ok (.getfield 19, 3) := by decide +kernel
theorem dX1_countWord_14 : decode cX1_countWord 14 = .ok (.iload_n 1, 1) := by decide +kernel
theorem dX1_countWord_15 : decode cX1_countWord 15 = .ok (.iaload, 1) := by decide +kernel
theorem dX1_countWord_16 : decode cX1_countWord 16 = .ok (.iadd, 1) := by decide +kernel
theorem dX1_countWord_17 : decode cX1_countWord 17 = .ok (.iconst 1, 1) := by decide +kernel
theorem dX1_countWord_18 : decode cX1_countWord 18 = .ok (.iastore, 1) := by decide +kernel
theorem dX1_countWord_19 : decode cX1_countWord 19 = .ok (.return_, 1) := by decide +kernel
set_option maxRecDepth 20000 in
theorem ggX1_addJoined_X1_addJoinedWith : GoodIn wsX1_addJoined wsX1_addJoinedWith := goodIn_r _ [7, 8, 9, 10, 11, 12, 13, 14, 15, 16, 17, 18] (by decide +kernel) (by decide +kernel)
set_option maxRecDepth 20000 in
theorem gX1_addJoined_X1_addJoinedWith : GoodIn wsX1_addJoined (wsV RX1 54 RX1 yX1_addJoinedWith wsX1_addJoinedWith) := goodIn_app (goodIn_of _ (by decide +kernel)) ggX1_addJoined_X1_addJoinedWith
theorem dX1_addJoined_0 : decode cX1_addJoined 0 = .ok (.iconst 0, 1) := by decide +kernel
theorem dX1_addJoined_1 : decode cX1_addJoined 1 = .ok (.istore 4, 2) := by decide +kernel
theorem dX1_addJoined_3 : decode cX1_addJoined 3 = .ok (.iload 4, 2) := by decide +kernel
theorem dX1_addJoined_5 : decode cX1_addJoined 5 = .ok (.aload_n 0, 1) := by decide +kernel
theorem dX1_addJoined_6 : decode cX1_addJoined 6 = .ok (.getfield 22, 3) := by decide +kernel
theorem dX1_addJoined_9 : decode cX1_addJoined 9 = .ok (.if_icmp .ge 59, 3) := by decide +kernel
theorem dX1_addJoined_12 : decode cX1_addJoined 12 = .ok (.iconst 0, 1) := by decide +kernel
theorem dX1_addJoined_13 : decode cX1_addJoined 13 = .ok (.istore 5, 2) := by decide +kernel
theorem dX1_addJoined_15 : decode cX1_addJoined 15 = .ok (.iload 5, 2) := by decide +kernel
theorem dX1_addJoined_17 : decode cX1_addJoined 17 = .ok (.bipush 16, 2) := by decide +kernel
theorem dX1_addJoined_19 : decode cX1_addJoined 19 = .ok (.if_icmp .ge 43, 3) := by decide +kernel
theorem dX1_addJoined_22 : decode cX1_addJoined 22 = .ok (.aload_n 1, 1) := by decide +kernel
theorem dX1_addJoined_23 : decode cX1_addJoined 23 = .ok (.aload_n 0, 1) := by decide +kernel
theorem dX1_addJoined_24 : decode cX1_addJoined 24 = .ok (.getfield 28, 3) := by decide +kernel
theorem dX1_addJoined_27 : decode cX1_addJoined 27 = .ok (.iload 4, 2) := by decide +kernel
theorem dX1_addJoined_29 : decode cX1_addJoined 29 = .ok (.iaload, 1) := by decide +kernel
theorem dX1_addJoined_30 : decode cX1_addJoined 30 = .ok (.bipush 16, 2) := by decide +kernel
theorem dX1_addJoined_32 : decode cX1_addJoined 32 = .ok (.imul, 1) := by decide +kernel
theorem dX1_addJoined_33 : decode cX1_addJoined 33 = .ok (.iload 5, 2) := by decide +kernel
theorem dX1_addJoined_35 : decode cX1_addJoined 35 = .ok (.iadd, 1) := by decide +kernel
theorem dX1_addJoined_36 : decode cX1_addJoined 36 = .ok (.iaload, 1) := by decide +kernel
theorem dX1_addJoined_37 : decode cX1_addJoined 37 = .ok (.istore 6, 2) := by decide +kernel
theorem dX1_addJoined_39 : decode cX1_addJoined 39 = .ok (.iload 6, 2) := by decide +kernel
theorem dX1_addJoined_41 : decode cX1_addJoined 41 = .ok (.ifCond .eq 15, 3) := by decide +kernel
theorem dX1_addJoined_44 : decode cX1_addJoined 44 = .ok (.aload_n 0, 1) := by decide +kernel
theorem dX1_addJoined_45 : decode cX1_addJoined 45 = .ok (.iload 4, 2) := by decide +kernel
theorem dX1_addJoined_47 : decode cX1_addJoined 47 = .ok (.iload 5, 2) := by decide +kernel
theorem dX1_addJoined_49 : decode cX1_addJoined 49 = .ok (.iload 6, 2) := by decide +kernel
theorem dX1_addJoined_51 : decode cX1_addJoined 51 = .ok (.aload_n 2, 1) := by decide +kernel
theorem dX1_addJoined_52 : decode cX1_addJoined 52 = .ok (.aload_n 3, 1) := by decide +kernel
theorem dX1_addJoined_53 : decode cX1_addJoined 53 = .ok (.invokevirtual 54, 3) := by decide +kernel
theorem dX1_addJoined_56 : decode cX1_addJoined 56 = .ok (.iinc 5 1, 3) := by decide +kernel
theorem dX1_addJoined_59 : decode cX1_addJoined 59 = .ok (.goto (-44), 3) := by decide +kernel
theorem dX1_addJoined_62 : decode cX1_addJoined 62 = .ok (.iinc 4 1, 3) := by decide +kernel
theorem dX1_addJoined_65 : decode cX1_addJoined 65 = .ok (.goto (-62), 3) := by decide +kernel
theorem dX1_addJoined_68 : decode cX1_addJoined 68 = .ok (.return_, 1) := by decide +kernel
theorem dX1_addJoinedWith_0 : decode cX1_addJoinedWith 0 = .ok (.iconst 0, 1) := by decide +kernel
theorem dX1_addJoinedWith_1 : decode cX1_addJoinedWith 1 = .ok (.istore 6, 2) := by decide +kernel
theorem dX1_addJoinedWith_3 : decode cX1_addJoinedWith 3 = .ok (.iload 6, 2) := by decide +kernel
theorem dX1_addJoinedWith_5 : decode cX1_addJoinedWith 5 = .ok (.bipush 16, 2) := by decide +kernel
theorem dX1_addJoinedWith_7 : decode cX1_addJoinedWith 7 = .ok (.if_icmp .ge 70, 3) := by decide +kernel
theorem dX1_addJoinedWith_10 : decode cX1_addJoinedWith 10 = .ok (.aload_n 0, 1) := by decide +kernel
theorem dX1_addJoinedWith_11 : decode cX1_addJoinedWith 11 = .ok (.getfield 36, 3) := by decide +kernel
theorem dX1_addJoinedWith_14 : decode cX1_addJoinedWith 14 = .ok (.iload_n 1, 1) := by decide +kernel
theorem dX1_addJoinedWith_15 : decode cX1_addJoinedWith 15 = .ok (.aaload, 1) := by decide +kernel
theorem dX1_addJoinedWith_16 : decode cX1_addJoinedWith 16 = .ok (.iload_n 2, 1) := by decide +kernel
theorem dX1_addJoinedWith_17 : decode cX1_addJoinedWith 17 = .ok (.bipush 16, 2) := by decide +kernel
theorem dX1_addJoinedWith_19 : decode cX1_addJoinedWith 19 = .ok (.imul, 1) := by decide +kernel
theorem dX1_addJoinedWith_20 : decode cX1_addJoinedWith 20 = .ok (.iload 6, 2) := by decide +kernel
theorem dX1_addJoinedWith_22 : decode cX1_addJoinedWith 22 = .ok (.iadd, 1) := by decide +kernel
theorem dX1_addJoinedWith_23 : decode cX1_addJoinedWith 23 = .ok (.iaload, 1) := by decide +kernel
theorem dX1_addJoinedWith_24 : decode cX1_addJoinedWith 24 = .ok (.istore 7, 2) := by decide +kernel
theorem dX1_addJoinedWith_26 : decode cX1_addJoinedWith 26 = .ok (.iload 7, 2) := by decide +kernel
theorem dX1_addJoinedWith_28 : decode cX1_addJoinedWith 28 = .ok (.iconst (-1), 1) := by decide +kernel
theorem dX1_addJoinedWith_29 : decode cX1_addJoinedWith 29 = .ok (.if_icmp .eq 42, 3) := by decide +kernel
theorem dX1_addJoinedWith_32 : decode cX1_addJoinedWith 32 = .ok (.aload 4, 2) := by decide +kernel
theorem dX1_addJoinedWith_34 : decode cX1_addJoinedWith 34 = .ok (.aload_n 0, 1) := by decide +kernel
theorem dX1_addJoinedWith_35 : decode cX1_addJoinedWith 35 = .ok (.getfield 31, 3) := by decide +kernel
theorem dX1_addJoinedWith_38 : decode cX1_addJoinedWith 38 = .ok (.iload_n 1, 1) := by decide +kernel
theorem dX1_addJoinedWith_39 : decode cX1_addJoinedWith 39 = .ok (.iaload, 1) := by decide +kernel
theorem dX1_addJoinedWith_40 : decode cX1_addJoinedWith 40 = .ok (.bipush 16, 2) := by decide +kernel
theorem dX1_addJoinedWith_42 : decode cX1_addJoinedWith 42 = .ok (.imul, 1) := by decide +kernel
theorem dX1_addJoinedWith_43 : decode cX1_addJoinedWith 43 = .ok (.iload 6, 2) := by decide +kernel
theorem dX1_addJoinedWith_45 : decode cX1_addJoinedWith 45 = .ok (.iadd, 1) := by decide +kernel
theorem dX1_addJoinedWith_46 : decode cX1_addJoinedWith 46 = .ok (.iaload, 1) := by decide +kernel
theorem dX1_addJoinedWith_47 : decode cX1_addJoinedWith 47 = .ok (.istore 8, 2) := by decide +kernel
theorem dX1_addJoinedWith_49 : decode cX1_addJoinedWith 49 = .ok (.aload 5, 2) := by decide +kernel
theorem dX1_addJoinedWith_51 : decode cX1_addJoinedWith 51 = .ok (.aload_n 0, 1) := by decide +kernel
theorem dX1_addJoinedWith_52 : decode cX1_addJoinedWith 52 = .ok (.getfield 25, 3) := by decide +kernel
theorem dX1_addJoinedWith_55 : decode cX1_addJoinedWith 55 = .ok (.iload_n 1, 1) := by decide +kernel
theorem dX1_addJoinedWith_56 : decode cX1_addJoinedWith 56 = .ok (.iaload, 1) := by decide +kernel
theorem dX1_addJoinedWith_57 : decode cX1_addJoinedWith 57 = .ok (.bipush 16, 2) := by decide +kernel
theorem dX1_addJoinedWith_59 : decode cX1_addJoinedWith 59 = .ok (.imul, 1) := by decide +kernel
theorem dX1_addJoinedWith_60 : decode cX1_addJoinedWith 60 = .ok (.iload 7, 2) := by decide +kernel
theorem dX1_addJoinedWith_62 : decode cX1_addJoinedWith 62 = .ok (.iadd, 1) := by decide +kernel
theorem dX1_addJoinedWith_63 : decode cX1_addJoinedWith 63 = .ok (.dup2, 1) := by decide +kernel
theorem dX1_addJoinedWith_64 : decode cX1_addJoinedWith 64 = .ok (.iaload, 1) := by decide +kernel
theorem dX1_addJoinedWith_65 : decode cX1_addJoinedWith 65 = .ok (.iload_n 3, 1) := by decide +kernel
theorem dX1_addJoinedWith_66 : decode cX1_addJoinedWith 66 = .ok (.iload 8, 2) := by decide +kernel
theorem dX1_addJoinedWith_68 : decode cX1_addJoinedWith 68 = .ok (.imul, 1) := by decide +kernel
theorem dX1_addJoinedWith_69 : decode cX1_addJoinedWith 69 = .ok (.iadd, 1) := by decide +kernel
theorem dX1_addJoinedWith_70 : decode cX1_addJoinedWith 70 = .ok (.iastore, 1) := by decide +kernel
theorem dX1_addJoinedWith_71 : decode cX1_addJoinedWith 71 = .ok (.iinc 6 1, 3) := by decide +kernel
theorem dX1_addJoinedWith_74 : decode cX1_addJoinedWith 74 = .ok (.goto (-71), 3) := by decide +kernel
theorem dX1_addJoinedWith_77 : decode cX1_addJoinedWith 77 = .ok (.return_, 1) := by decide +kernel
theorem dX2_init_0 : decode cX2_init 0 = .ok (.aload_n 0, 1) := by decide +kernel
theorem dX2_init_1 : decode cX2_init 1 = .ok (.invokespecial 3, 3) := by decide +kernel
theorem dX2_init_4 : decode cX2_init 4 = .ok (.aload_n 0, 1) := by decide +kernel
theorem dX2_init_5 : decode cX2_init 5 = .ok (.sipush 168, 3) := by decide +kernel
theorem dX2_init_8 : decode cX2_init 8 = .ok (.newarray .int, 2) := by decide +kernel
theorem dX2_init_10 : decode cX2_init 10 = .ok (.putfield 9, 3) := by decide +kernel
theorem dX2_init_13 : decode cX2_init 13 = .ok (.return_, 1) := by decide +kernel
set_option maxRecDepth 20000 in
theorem ggX2_pairsOf_X4_spanOf : GoodIn wsX2_pairsOf wsX4_spanOf := goodIn_r _ [4] (by decide +kernel) (by decide +kernel)
set_option maxRecDepth 20000 in
theorem gX2_pairsOf_X4_spanOf_n15 : GoodIn wsX2_pairsOf (wsX4_spanOf) := ggX2_pairsOf_X4_spanOf
theorem dX2_pairsOf_0 : decode cX2_pairsOf 0 = .ok (.aload_n 0, 1) := by decide +kernel
theorem dX2_pairsOf_1 : decode cX2_pairsOf 1 = .ok (.getfield 9, 3) := by decide +kernel
theorem dX2_pairsOf_4 : decode cX2_pairsOf 4 = .ok (.iload_n 1, 1) := by decide +kernel
theorem dX2_pairsOf_5 : decode cX2_pairsOf 5 = .ok (.iload_n 2, 1) := by decide +kernel
theorem dX2_pairsOf_6 : decode cX2_pairsOf 6 = .ok (.invokestatic 15, 3) := by decide +kernel
theorem dX2_pairsOf_9 : decode cX2_pairsOf 9 = .ok (.bipush 8, 2) := by decide +kernel
theorem dX2_pairsOf_11 : decode cX2_pairsOf 11 = .ok (.imul, 1) := by decide +kernel
theorem dX2_pairsOf_12 : decode cX2_pairsOf 12 = .ok (.iload_n 3, 1) := by decide +kernel
theorem dX2_pairsOf_13 : decode cX2_pairsOf 13 = .ok (.iadd, 1) := by decide +kernel
theorem dX2_pairsOf_14 : decode cX2_pairsOf 14 = .ok (.iaload, 1) := by decide +kernel
theorem dX2_pairsOf_15 : decode cX2_pairsOf 15 = .ok (.ireturn, 1) := by decide +kernel
set_option maxRecDepth 20000 in
theorem ggX2_holdsSentence_X2_pairsOf : GoodIn wsX2_holdsSentence wsX2_pairsOf := goodIn_r _ [5, 6, 7, 8, 9, 10] (by decide +kernel) (by decide +kernel)
set_option maxRecDepth 20000 in
theorem gX2_holdsSentence_X2_pairsOf : GoodIn wsX2_holdsSentence (wsV RX2 19 RX2 yX2_pairsOf wsX2_pairsOf) := goodIn_app (goodIn_of _ (by decide +kernel)) ggX2_holdsSentence_X2_pairsOf
theorem dX2_holdsSentence_0 : decode cX2_holdsSentence 0 = .ok (.iload_n 1, 1) := by decide +kernel
theorem dX2_holdsSentence_1 : decode cX2_holdsSentence 1 = .ok (.ifCond .le 17, 3) := by decide +kernel
theorem dX2_holdsSentence_4 : decode cX2_holdsSentence 4 = .ok (.aload_n 0, 1) := by decide +kernel
theorem dX2_holdsSentence_5 : decode cX2_holdsSentence 5 = .ok (.iconst 0, 1) := by decide +kernel
theorem dX2_holdsSentence_6 : decode cX2_holdsSentence 6 = .ok (.iload_n 1, 1) := by decide +kernel
theorem dX2_holdsSentence_7 : decode cX2_holdsSentence 7 = .ok (.iconst 0, 1) := by decide +kernel
theorem dX2_holdsSentence_8 : decode cX2_holdsSentence 8 = .ok (.invokevirtual 19, 3) := by decide +kernel
theorem dX2_holdsSentence_11 : decode cX2_holdsSentence 11 = .ok (.ifCond .eq 7, 3) := by decide +kernel
theorem dX2_holdsSentence_14 : decode cX2_holdsSentence 14 = .ok (.iconst 1, 1) := by decide +kernel
theorem dX2_holdsSentence_15 : decode cX2_holdsSentence 15 = .ok (.goto 4, 3) := by decide +kernel
theorem dX2_holdsSentence_18 : decode cX2_holdsSentence 18 = .ok (.iconst 0, 1) := by decide +kernel
theorem dX2_holdsSentence_19 : decode cX2_holdsSentence 19 = .ok (.ireturn, 1) := by decide +kernel
set_option maxRecDepth 20000 in
theorem ggX2_parse_X2_putWord : GoodIn wsX2_parse wsX2_putWord := goodIn_r _ [5, 6, 7, 8, 4, 9, 10, 11, 12, 13, 14, 15, 16, 17, 33, 34, 35, 36, 37, 38, 39, 40, 41] (by decide +kernel) (by decide +kernel)
set_option maxRecDepth 20000 in
theorem gX2_parse_X2_putWord : GoodIn wsX2_parse (wsV RX2 23 RX2 yX2_putWord wsX2_putWord) := goodIn_app (goodIn_of _ (by decide +kernel)) ggX2_parse_X2_putWord
set_option maxRecDepth 20000 in
theorem ggX2_parse_X2_joinUpTo : GoodIn wsX2_parse wsX2_joinUpTo := goodIn_r _ [21, 6, 7, 8, 4, 9, 10, 11, 12, 13, 22, 23, 24, 25, 26, 27, 28, 29, 30, 31, 32, 33, 34, 35, 36, 37, 38, 39, 40, 41] (by decide +kernel) (by decide +kernel)
set_option maxRecDepth 20000 in
theorem gX2_parse_X2_joinUpTo : GoodIn wsX2_parse (wsV RX2 27 RX2 yX2_joinUpTo wsX2_joinUpTo) := goodIn_app (goodIn_of _ (by decide +kernel)) ggX2_parse_X2_joinUpTo
theorem dX2_parse_0 : decode cX2_parse 0 = .ok (.iconst 0, 1) := by decide +kernel
theorem dX2_parse_1 : decode cX2_parse 1 = .ok (.istore 5, 2) := by decide +kernel
theorem dX2_parse_3 : decode cX2_parse 3 = .ok (.iload 5, 2) := by decide +kernel
theorem dX2_parse_5 : decode cX2_parse 5 = .ok (.iload_n 3, 1) := by decide +kernel
theorem dX2_parse_6 : decode cX2_parse 6 = .ok (.if_icmp .ge 31, 3) := by decide +kernel
theorem dX2_parse_9 : decode cX2_parse 9 = .ok (.aload_n 0, 1) := by decide +kernel
theorem dX2_parse_10 : decode cX2_parse 10 = .ok (.aload_n 1, 1) := by decide +kernel
theorem dX2_parse_11 : decode cX2_parse 11 = .ok (.iload 5, 2) := by decide +kernel
theorem dX2_parse_13 : decode cX2_parse 13 = .ok (.aload_n 2, 1) := by decide +kernel
theorem dX2_parse_14 : decode cX2_parse 14 = .ok (.iload 5, 2) := by decide +kernel
theorem dX2_parse_16 : decode cX2_parse 16 = .ok (.iaload, 1) := by decide +kernel
theorem dX2_parse_17 : decode cX2_parse 17 = .ok (.invokevirtual 23, 3) := by decide +kernel
theorem dX2_parse_20 : decode cX2_parse 20 = .ok (.aload_n 0, 1) := by decide +kernel
theorem dX2_parse_21 : decode cX2_parse 21 = .ok (.aload_n 1, 1) := by decide +kernel
theorem dX2_parse_22 : decode cX2_parse 22 = .ok (.iload 5, 2) := by decide +kernel
theorem dX2_parse_24 : decode cX2_parse 24 = .ok (.iconst 1, 1) := by decide +kernel
theorem dX2_parse_25 : decode cX2_parse 25 = .ok (.iadd, 1) := by decide +kernel
theorem dX2_parse_26 : decode cX2_parse 26 = .ok (.iload 4, 2) := by decide +kernel
theorem dX2_parse_28 : decode cX2_parse 28 = .ok (.invokevirtual 27, 3) := by decide +kernel
theorem dX2_parse_31 : decode cX2_parse 31 = .ok (.iinc 5 1, 3) := by decide +kernel
theorem dX2_parse_34 : decode cX2_parse 34 = .ok (.goto (-31), 3) := by decide +kernel
theorem dX2_parse_37 : decode cX2_parse 37 = .ok (.return_, 1) := by decide +kernel
set_option maxRecDepth 20000 in
theorem ggX2_putWord_X2_clearSpan : GoodIn wsX2_putWord wsX2_clearSpan := goodIn_r _ [5, 6, 7, 8, 9, 14] (by decide +kernel) (by decide +kernel)
set_option maxRecDepth 20000 in
theorem gX2_putWord_X2_clearSpan : GoodIn wsX2_putWord (wsV RX2 30 RX2 yX2_clearSpan wsX2_clearSpan) := goodIn_app (goodIn_of _ (by decide +kernel)) ggX2_putWord_X2_clearSpan
set_option maxRecDepth 20000 in
theorem ggX2_putWord_X2_allowWord : GoodIn wsX2_putWord wsX2_allowWord := goodIn_r _ [13, 6, 7, 8, 9, 14, 15, 16, 17, 18, 19, 20, 21, 22] (by decide +kernel) (by decide +kernel)
set_option maxRecDepth 20000 in
theorem gX2_putWord_X2_allowWord : GoodIn wsX2_putWord (wsV RX2 34 RX2 yX2_allowWord wsX2_allowWord) := goodIn_app (goodIn_of _ (by decide +kernel)) ggX2_putWord_X2_allowWord
theorem dX2_putWord_0 : decode cX2_putWord 0 = .ok (.aload_n 0, 1) := by decide +kernel
theorem dX2_putWord_1 : decode cX2_putWord 1 = .ok (.iload_n 2, 1) := by decide +kernel
theorem dX2_putWord_2 : decode cX2_putWord 2 = .ok (.iload_n 2, 1) := by decide +kernel
theorem dX2_putWord_3 : decode cX2_putWord 3 = .ok (.iconst 1, 1) := by decide +kernel
theorem dX2_putWord_4 : decode cX2_putWord 4 = .ok (.iadd, 1) := by decide +kernel
theorem dX2_putWord_5 : decode cX2_putWord 5 = .ok (.invokevirtual 30, 3) := by decide +kernel
theorem dX2_putWord_8 : decode cX2_putWord 8 = .ok (.aload_n 0, 1) := by decide +kernel
theorem dX2_putWord_9 : decode cX2_putWord 9 = .ok (.aload_n 1, 1) := by decide +kernel
theorem dX2_putWord_10 : decode cX2_putWord 10 = .ok (.iload_n 2, 1) := by decide +kernel
theorem dX2_putWord_11 : decode cX2_putWord 11 = .ok (.iload_n 3, 1) := by decide +kernel
theorem dX2_putWord_12 : decode cX2_putWord 12 = .ok (.invokevirtual 34, 3) := by decide +kernel
theorem dX2_putWord_15 : decode cX2_putWord 15 = .ok (.return_, 1) := by decide +kernel
set_option maxRecDepth 20000 in
theorem ggX2_putAnyWord_X2_clearSpan : GoodIn wsX2_putAnyWord wsX2_clearSpan := goodIn_r _ [5, 6, 7, 8, 9, 22] (by decide +kernel) (by decide +kernel)
set_option maxRecDepth 20000 in
theorem gX2_putAnyWord_X2_clearSpan : GoodIn wsX2_putAnyWord (wsV RX2 30 RX2 yX2_clearSpan wsX2_clearSpan) := goodIn_app (goodIn_of _ (by decide +kernel)) ggX2_putAnyWord_X2_clearSpan
set_option maxRecDepth 20000 in
theorem ggX2_putAnyWord_X2_allowWord : GoodIn wsX2_putAnyWord wsX2_allowWord := goodIn_r _ [13, 6, 7, 8, 9, 22, 14, 15, 16, 17, 18, 19, 20, 21] (by decide +kernel) (by decide +kernel)
set_option maxRecDepth 20000 in
theorem gX2_putAnyWord_X2_allowWord : GoodIn wsX2_putAnyWord (wsV RX2 34 RX2 yX2_allowWord wsX2_allowWord) := goodIn_app (goodIn_of _ (by decide +kernel)) ggX2_putAnyWord_X2_allowWord
theorem dX2_putAnyWord_0 : decode cX2_putAnyWord 0 = .ok (.aload_n 0, 1) := by decide +kernel
theorem dX2_putAnyWord_1 : decode cX2_putAnyWord 1 = .ok (.iload_n 2, 1) := by decide +kernel
theorem dX2_putAnyWord_2 : decode cX2_putAnyWord 2 = .ok (.iload_n 2, 1) := by decide +kernel
theorem dX2_putAnyWord_3 : decode cX2_putAnyWord 3 = .ok (.iconst 1, 1) := by decide +kernel
theorem dX2_putAnyWord_4 : decode cX2_putAnyWord 4 = .ok (.iadd, 1) := by decide +kernel
theorem dX2_putAnyWord_5 : decode cX2_putAnyWord 5 = .ok (.invokevirtual 30, 3) := by decide +kernel
theorem dX2_putAnyWord_8 : decode cX2_putAnyWord 8 = .ok (.iconst 0, 1) := by decide +kernel
theorem dX2_putAnyWord_9 : decode cX2_putAnyWord 9 = .ok (.istore_n 3, 1) := by decide +kernel
theorem dX2_putAnyWord_10 : decode cX2_putAnyWord 10 = .ok (.iload_n 3, 1) := by decide +kernel
theorem dX2_putAnyWord_11 : decode cX2_putAnyWord 11 = .ok (.aload_n 1, 1) := by decide +kernel
theorem dX2_putAnyWord_12 : decode cX2_putAnyWord 12 = .ok (.getfield 37, 3) := by decide +kernel
theorem dX2_putAnyWord_15 : decode cX2_putAnyWord 15 = .ok (.if_icmp .ge 16, 3) := by decide +kernel
theorem dX2_putAnyWord_18 : decode cX2_putAnyWord 18 = .ok (.aload_n 0, 1) := by decide +kernel
theorem dX2_putAnyWord_19 : decode cX2_putAnyWord 19 = .ok (.aload_n 1, 1) := by decide +kernel
theorem dX2_putAnyWord_20 : decode cX2_putAnyWord 20 = .ok (.iload_n 2, 1) := by decide +kernel
theorem dX2_putAnyWord_21 : decode cX2_putAnyWord 21 = .ok (.iload_n 3, 1) := by decide +kernel
theorem dX2_putAnyWord_22 : decode cX2_putAnyWord 22 = .ok (.invokevirtual 34, 3) := by decide +kernel
theorem dX2_putAnyWord_25 : decode cX2_putAnyWord 25 = .ok (.iinc 3 1, 3) := by decide +kernel
theorem dX2_putAnyWord_28 : decode cX2_putAnyWord 28 = .ok (.goto (-18), 3) := by decide +kernel
theorem dX2_putAnyWord_31 : decode cX2_putAnyWord 31 = .ok (.return_, 1) := by decide +kernel
set_option maxRecDepth 20000 in
theorem ggX2_allowWord_X4_spanOf : GoodIn wsX2_allowWord wsX4_spanOf := goodIn_r _ [4] (by decide +kernel) (by decide +kernel)
set_option maxRecDepth 20000 in
theorem gX2_allowWord_X4_spanOf_n15 : GoodIn wsX2_allowWord (wsX4_spanOf) := ggX2_allowWord_X4_spanOf
theorem dX2_allowWord_0 : decode cX2_allowWord 0 = .ok (.iload_n 2, 1) := by decide +kernel
theorem dX2_allowWord_1 : decode cX2_allowWord 1 = .ok (.iload_n 2, 1) := by decide +kernel
theorem dX2_allowWord_2 : decode cX2_allowWord 2 = .ok (.iconst 1, 1) := by decide +kernel
theorem dX2_allowWord_3 : decode cX2_allowWord 3 = .ok (.iadd, 1) := by decide +kernel
theorem dX2_allowWord_4 : decode cX2_allowWord 4 = .ok (.invokestatic 15, 3) := by decide +kernel
theorem dX2_allowWord_7 : decode cX2_allowWord 7 = .ok (.istore 4, 2) := by decide +kernel
theorem dX2_allowWord_9 : decode cX2_allowWord 9 = .ok (.aload_n 0, 1) := by decide +kernel
theorem dX2_allowWord_10 : decode cX2_allowWord 10 = .ok (.getfield 9, 3) := by decide +kernel
theorem dX2_allowWord_13 : decode cX2_allowWord 13 = .ok (.iload 4, 2) := by decide +kernel
theorem dX2_allowWord_15 : decode cX2_allowWord 15 = .ok (.bipush 8, 2) := by decide +kernel
theorem dX2_allowWord_17 : decode cX2_allowWord 17 = .ok (.imul, 1) := by decide +kernel
theorem dX2_allowWord_18 : decode cX2_allowWord 18 = .ok (.aload_n 1, 1) := by decide +kernel
theorem dX2_allowWord_19 : decode cX2_allowWord 19 = .ok (.getfield 43, 3) := by decide +kernel
theorem dX2_allowWord_22 : decode cX2_allowWord 22 = .ok (.iload_n 3, 1) := by decide +kernel
theorem dX2_allowWord_23 : decode cX2_allowWord 23 = .ok (.iaload, 1) := by decide +kernel
theorem dX2_allowWord_24 : decode cX2_allowWord 24 = .ok (.iadd, 1) := by decide +kernel
theorem dX2_allowWord_25 : decode cX2_allowWord 25 = .ok (.dup2, 1) := by decide +kernel
theorem dX2_allowWord_26 : decode cX2_allowWord 26 = .ok (.iaload, 1) := by decide +kernel
theorem dX2_allowWord_27 : decode cX2_allowWord 27 = .ok (.iconst 1, 1) := by decide +kernel
theorem dX2_allowWord_28 : decode cX2_allowWord 28 = .ok (.aload_n 1, 1) := by decide +kernel
theorem dX2_allowWord_29 : decode cX2_allowWord 29 = .ok (.getfield 46, 3) := by decide +kernel
theorem dX2_allowWord_32 : decode cX2_allowWord 32 = .ok (.iload_n 3, 1) := by decide +kernel
theorem dX2_allowWord_33 : decode cX2_allowWord 33 = .ok (.iaload, 1) := by decide +kernel
theorem dX2_allowWord_34 : decode cX2_allowWord 34 = .ok (.ishl, 1) := by decide +kernel
theorem dX2_allowWord_35 : decode cX2_allowWord 35 = .ok (.ior, 1) := by decide +kernel
theorem dX2_allowWord_36 : decode cX2_allowWord 36 = .ok (.iastore, 1) := by decide +kernel
theorem dX2_allowWord_37 : decode cX2_allowWord 37 = .ok (.return_, 1) := by decide +kernel
set_option maxRecDepth 20000 in
theorem ggX2_clearSpan_X4_spanOf : GoodIn wsX2_clearSpan wsX4_spanOf := goodIn_r _ [4] (by decide +kernel) (by decide +kernel)
set_option maxRecDepth 20000 in
theorem gX2_clearSpan_X4_spanOf_n15 : GoodIn wsX2_clearSpan (wsX4_spanOf) := ggX2_clearSpan_X4_spanOf
theorem dX2_clearSpan_0 : decode cX2_clearSpan 0 = .ok (.iload_n 1, 1) := by decide +kernel
theorem dX2_clearSpan_1 : decode cX2_clearSpan 1 = .ok (.iload_n 2, 1) := by decide +kernel
theorem dX2_clearSpan_2 : decode cX2_clearSpan 2 = .ok (.invokestatic 15, 3) := by decide +kernel
theorem dX2_clearSpan_5 : decode cX2_clearSpan 5 = .ok (.bipush 8, 2) := by decide +kernel
theorem dX2_clearSpan_7 : decode cX2_clearSpan 7 = .ok (.imul, 1) := by decide +kernel
theorem dX2_clearSpan_8 : decode cX2_clearSpan 8 = .ok (.istore_n 3, 1) := by decide +kernel
theorem dX2_clearSpan_9 : decode cX2_clearSpan 9 = .ok (.iconst 0, 1) := by decide +kernel
theorem dX2_clearSpan_10 : decode cX2_clearSpan 10 = .ok (.istore 4, 2) := by decide +kernel
theorem dX2_clearSpan_12 : decode cX2_clearSpan 12 = .ok (.iload 4, 2) := by decide +kernel
theorem dX2_clearSpan_14 : decode cX2_clearSpan 14 = .ok (.bipush 8, 2) := by decide +kernel
theorem dX2_clearSpan_16 : decode cX2_clearSpan 16 = .ok (.if_icmp .ge 19, 3) := by decide +kernel
theorem dX2_clearSpan_19 : decode cX2_clearSpan 19 = .ok (.aload_n 0, 1) := by decide +kernel
theorem dX2_clearSpan_20 : decode cX2_clearSpan 20 = .ok (.getfield 9, 3) := by decide +kernel
theorem dX2_clearSpan_23 : decode cX2_clearSpan 23 = .ok (.iload_n 3, 1) := by decide +kernel
theorem dX2_clearSpan_24 : decode cX2_clearSpan 24 = .ok (.iload 4, 2) := by decide +kernel
theorem dX2_clearSpan_26 : decode cX2_clearSpan 26 = .ok (.iadd, 1) := by decide +kernel
theorem dX2_clearSpan_27 : decode cX2_clearSpan 27 = .ok (.iconst 0, 1) := by decide +kernel
theorem dX2_clearSpan_28 : decode cX2_clearSpan 28 = .ok (.iastore, 1) := by decide +kernel
theorem dX2_clearSpan_29 : decode cX2_clearSpan 29 = .ok (.iinc 4 1, 3) := by decide +kernel
theorem dX2_clearSpan_32 : decode cX2_clearSpan 32 = .ok (.goto (-20), 3) := by decide +kernel
theorem dX2_clearSpan_35 : decode cX2_clearSpan 35 = .ok (.return_, 1) := by decide +kernel
set_option maxRecDepth 20000 in
theorem ggX2_joinUpTo_X2_clearSpan : GoodIn wsX2_joinUpTo wsX2_clearSpan := goodIn_r _ [5, 6, 7, 8, 9, 21] (by decide +kernel) (by decide +kernel)
set_option maxRecDepth 20000 in
theorem gX2_joinUpTo_X2_clearSpan : GoodIn wsX2_joinUpTo (wsV RX2 30 RX2 yX2_clearSpan wsX2_clearSpan) := goodIn_app (goodIn_of _ (by decide +kernel)) ggX2_joinUpTo_X2_clearSpan
set_option maxRecDepth 20000 in
theorem ggX2_joinUpTo_X4_spanOf : GoodIn wsX2_joinUpTo wsX4_spanOf := goodIn_r _ [9] (by decide +kernel) (by decide +kernel)
set_option maxRecDepth 20000 in
theorem gX2_joinUpTo_X4_spanOf_n15 : GoodIn wsX2_joinUpTo (wsX4_spanOf) := ggX2_joinUpTo_X4_spanOf
set_option maxRecDepth 20000 in
theorem ggX2_joinUpTo_X2_join : GoodIn wsX2_joinUpTo wsX2_join := goodIn_r _ [13, 6, 14, 15, 16, 17, 18, 19, 8, 20, 21, 22, 23, 24, 25, 26, 27, 28, 29] (by decide +kernel) (by decide +kernel)
set_option maxRecDepth 20000 in
theorem gX2_joinUpTo_X2_join : GoodIn wsX2_joinUpTo (wsV RX2 49 RX2 yX2_join wsX2_join) := goodIn_app (goodIn_of _ (by decide +kernel)) ggX2_joinUpTo_X2_join
theorem dX2_joinUpTo_0 : decode cX2_joinUpTo 0 = .ok (.iload_n 2, 1) := by decide +kernel
theorem dX2_joinUpTo_1 : decode cX2_joinUpTo 1 = .ok (.iconst 2, 1) := by decide +kernel
theorem dX2_joinUpTo_2 : decode cX2_joinUpTo 2 = .ok (.isub, 1) := by decide +kernel
theorem dX2_joinUpTo_3 : decode cX2_joinUpTo 3 = .ok (.istore 4, 2) := by decide +kernel
theorem dX2_joinUpTo_5 : decode cX2_joinUpTo 5 = .ok (.iload 4, 2) := by decide +kernel
theorem dX2_joinUpTo_7 : decode cX2_joinUpTo 7 = .ok (.ifCond .lt 80, 3) := by decide +kernel
theorem dX2_joinUpTo_10 : decode cX2_joinUpTo 10 = .ok (.aload_n 0, 1) := by decide +kernel
theorem dX2_joinUpTo_11 : decode cX2_joinUpTo 11 = .ok (.iload 4, 2) := by decide +kernel
theorem dX2_joinUpTo_13 : decode cX2_joinUpTo 13 = .ok (.iload_n 2, 1) := by decide +kernel
theorem dX2_joinUpTo_14 : decode cX2_joinUpTo 14 = .ok (.invokevirtual 30, 3) := by decide +kernel
theorem dX2_joinUpTo_17 : decode cX2_joinUpTo 17 = .ok (.iload 4, 2) := by decide +kernel
theorem dX2_joinUpTo_19 : decode cX2_joinUpTo 19 = .ok (.iload_n 2, 1) := by decide +kernel
theorem dX2_joinUpTo_20 : decode cX2_joinUpTo 20 = .ok (.invokestatic 15, 3) := by decide +kernel
theorem dX2_joinUpTo_23 : decode cX2_joinUpTo 23 = .ok (.bipush 8, 2) := by decide +kernel
theorem dX2_joinUpTo_25 : decode cX2_joinUpTo 25 = .ok (.imul, 1) := by decide +kernel
theorem dX2_joinUpTo_26 : decode cX2_joinUpTo 26 = .ok (.istore 5, 2) := by decide +kernel
theorem dX2_joinUpTo_28 : decode cX2_joinUpTo 28 = .ok (.iload 4, 2) := by decide +kernel
theorem dX2_joinUpTo_30 : decode cX2_joinUpTo 30 = .ok (.iconst 1, 1) := by decide +kernel
theorem dX2_joinUpTo_31 : decode cX2_joinUpTo 31 = .ok (.iadd, 1) := by decide +kernel
theorem dX2_joinUpTo_32 : decode cX2_joinUpTo 32 = .ok (.istore 6, 2) := by decide +kernel
theorem dX2_joinUpTo_34 : decode cX2_joinUpTo 34 = .ok (.iload 6, 2) := by decide +kernel
theorem dX2_joinUpTo_36 : decode cX2_joinUpTo 36 = .ok (.iload_n 2, 1) := by decide +kernel
theorem dX2_joinUpTo_37 : decode cX2_joinUpTo 37 = .ok (.if_icmp .ge 44, 3) := by decide +kernel
theorem dX2_joinUpTo_40 : decode cX2_joinUpTo 40 = .ok (.iload 4, 2) := by decide +kernel
theorem dX2_joinUpTo_42 : decode cX2_joinUpTo 42 = .ok (.iload 6, 2) := by decide +kernel
theorem dX2_joinUpTo_44 : decode cX2_joinUpTo 44 = .ok (.invokestatic 15, 3) := by decide +kernel
theorem dX2_joinUpTo_47 : decode cX2_joinUpTo 47 = .ok (.bipush 8, 2) := by decide +kernel
theorem dX2_joinUpTo_49 : decode cX2_joinUpTo 49 = .ok (.imul, 1) := by decide +kernel
theorem dX2_joinUpTo_50 : decode cX2_joinUpTo 50 = .ok (.istore 7, 2) := by decide +kernel
theorem dX2_joinUpTo_52 : decode cX2_joinUpTo 52 = .ok (.iload 6, 2) := by decide +kernel
theorem dX2_joinUpTo_54 : decode cX2_joinUpTo 54 = .ok (.iload_n 2, 1) := by decide +kernel
theorem dX2_joinUpTo_55 : decode cX2_joinUpTo 55 = .ok (.invokestatic 15, 3) := by decide +kernel
theorem dX2_joinUpTo_58 : decode cX2_joinUpTo 58 = .ok (.bipush 8, 2) := by decide +kernel
theorem dX2_joinUpTo_60 : decode cX2_joinUpTo 60 = .ok (.imul, 1) := by decide +kernel
theorem dX2_joinUpTo_61 : decode cX2_joinUpTo 61 = .ok (.istore 8, 2) := by decide +kernel
theorem dX2_joinUpTo_63 : decode cX2_joinUpTo 63 = .ok (.aload_n 0, 1) := by decide +kernel
theorem dX2_joinUpTo_64 : decode cX2_joinUpTo 64 = .ok (.aload_n 1, 1) := by decide +kernel
theorem dX2_joinUpTo_65 : decode cX2_joinUpTo 65 = .ok (.iload_n 3, 1) := by decide +kernel
theorem dX2_joinUpTo_66 : decode cX2_joinUpTo 66 = .ok (.iload 7, 2) := by decide +kernel
theorem dX2_joinUpTo_68 : decode cX2_joinUpTo 68 = .ok (.iload 8, 2) := by decide +kernel
theorem dX2_joinUpTo_70 : decode cX2_joinUpTo 70 = .ok (.iload 5, 2) := by decide +kernel
theorem dX2_joinUpTo_72 : decode cX2_joinUpTo 72 = .ok (.invokevirtual 49, 3) := by decide +kernel
theorem dX2_joinUpTo_75 : decode cX2_joinUpTo 75 = .ok (.iinc 6 1, 3) := by decide +kernel
theorem dX2_joinUpTo_78 : decode cX2_joinUpTo 78 = .ok (.goto (-44), 3) := by decide +kernel
theorem dX2_joinUpTo_81 : decode cX2_joinUpTo 81 = .ok (.iinc 4 (-1), 3) := by decide +kernel
theorem dX2_joinUpTo_84 : decode cX2_joinUpTo 84 = .ok (.goto (-79), 3) := by decide +kernel
theorem dX2_joinUpTo_87 : decode cX2_joinUpTo 87 = .ok (.return_, 1) := by decide +kernel
set_option maxRecDepth 20000 in
theorem ggX2_join_X1_pairsMade : GoodIn wsX2_join wsX1_pairsMade := goodIn_r _ [5, 6, 7, 8, 9, 11, 12, 13, 14, 15, 16, 17, 18] (by decide +kernel) (by decide +kernel)
set_option maxRecDepth 20000 in
theorem gX2_join_X1_pairsMade_n59 : GoodIn wsX2_join (wsX1_pairsMade) := ggX2_join_X1_pairsMade
theorem dX2_join_0 : decode cX2_join 0 = .ok (.iconst 0, 1) := by decide +kernel
theorem dX2_join_1 : decode cX2_join 1 = .ok (.istore 6, 2) := by decide +kernel
theorem dX2_join_3 : decode cX2_join 3 = .ok (.iload 6, 2) := by decide +kernel
theorem dX2_join_5 : decode cX2_join 5 = .ok (.iload_n 2, 1) := by decide +kernel
theorem dX2_join_6 : decode cX2_join 6 = .ok (.if_icmp .ge 84, 3) := by decide +kernel
theorem dX2_join_9 : decode cX2_join 9 = .ok (.aload_n 0, 1) := by decide +kernel
theorem dX2_join_10 : decode cX2_join 10 = .ok (.getfield 9, 3) := by decide +kernel
theorem dX2_join_13 : decode cX2_join 13 = .ok (.iload_n 3, 1) := by decide +kernel
theorem dX2_join_14 : decode cX2_join 14 = .ok (.aload_n 1, 1) := by decide +kernel
theorem dX2_join_15 : decode cX2_join 15 = .ok (.getfield 53, 3) := by decide +kernel
theorem dX2_join_18 : decode cX2_join 18 = .ok (.iload 6, 2) := by decide +kernel
theorem dX2_join_20 : decode cX2_join 20 = .ok (.iaload, 1) := by decide +kernel
theorem dX2_join_21 : decode cX2_join 21 = .ok (.iadd, 1) := by decide +kernel
theorem dX2_join_22 : decode cX2_join 22 = .ok (.iaload, 1) := by decide +kernel
theorem dX2_join_23 : decode cX2_join 23 = .ok (.istore 7, 2) := by decide +kernel
theorem dX2_join_25 : decode cX2_join 25 = .ok (.aload_n 0, 1) := by decide +kernel
theorem dX2_join_26 : decode cX2_join 26 = .ok (.getfield 9, 3) := by decide +kernel
theorem dX2_join_29 : decode cX2_join 29 = .ok (.iload 4, 2) := by decide +kernel
theorem dX2_join_31 : decode cX2_join 31 = .ok (.aload_n 1, 1) := by decide +kernel
theorem dX2_join_32 : decode cX2_join 32 = .ok (.getfield 56, 3) := by decide +kernel
theorem dX2_join_35 : decode cX2_join 35 = .ok (.iload 6, 2) := by decide +kernel
theorem dX2_join_37 : decode cX2_join 37 = .ok (.iaload, 1) := by decide +kernel
theorem dX2_join_38 : decode cX2_join 38 = .ok (.iadd, 1) := by decide +kernel
theorem dX2_join_39 : decode cX2_join 39 = .ok (.iaload, 1) := by decide +kernel
theorem dX2_join_40 : decode cX2_join 40 = .ok (.istore 8, 2) := by decide +kernel
theorem dX2_join_42 : decode cX2_join 42 = .ok (.iload 7, 2) := by decide +kernel
theorem dX2_join_44 : decode cX2_join 44 = .ok (.ifCond .eq 40, 3) := by decide +kernel
theorem dX2_join_47 : decode cX2_join 47 = .ok (.iload 8, 2) := by decide +kernel
theorem dX2_join_49 : decode cX2_join 49 = .ok (.ifCond .eq 35, 3) := by decide +kernel
theorem dX2_join_52 : decode cX2_join 52 = .ok (.aload_n 1, 1) := by decide +kernel
theorem dX2_join_53 : decode cX2_join 53 = .ok (.iload 6, 2) := by decide +kernel
theorem dX2_join_55 : decode cX2_join 55 = .ok (.iload 7, 2) := by decide +kernel
theorem dX2_join_57 : decode cX2_join 57 = .ok (.iload 8, 2) := by decide +kernel
theorem dX2_join_59 : decode cX2_join 59 = .ok (.invokevirtual 59, 3) := by decide +kernel
theorem dX2_join_62 : decode cX2_join 62 = .ok (.istore 9, 2) := by decide +kernel
theorem dX2_join_64 : decode cX2_join 64 = .ok (.aload_n 0, 1) := by decide +kernel
theorem dX2_join_65 : decode cX2_join 65 = .ok (.getfield 9, 3) := by decide +kernel
theorem dX2_join_68 : decode cX2_join 68 = .ok (.iload 5, 2) := by decide +kernel
theorem dX2_join_70 : decode cX2_join 70 = .ok (.aload_n 1, 1) := by decide +kernel
theorem dX2_join_71 : decode cX2_join 71 = .ok (.getfield 62, 3) := by decide +kernel
theorem dX2_join_74 : decode cX2_join 74 = .ok (.iload 6, 2) := by decide +kernel
theorem dX2_join_76 : decode cX2_join 76 = .ok (.iaload, 1) := by decide +kernel
theorem dX2_join_77 : decode cX2_join 77 = .ok (.iadd, 1) := by decide +kernel
theorem dX2_join_78 : decode cX2_join 78 = .ok (.dup2, 1) := by decide +kernel
theorem dX2_join_79 : decode cX2_join 79 = .ok (.iaload, 1) := by decide +kernel
theorem dX2_join_80 : decode cX2_join 80 = .ok (.iload 9, 2) := by decide +kernel
theorem dX2_join_82 : decode cX2_join 82 = .ok (.ior, 1) := by decide +kernel
theorem dX2_join_83 : decode cX2_join 83 = .ok (.iastore, 1) := by decide +kernel
theorem dX2_join_84 : decode cX2_join 84 = .ok (.iinc 6 1, 3) := by decide +kernel
theorem dX2_join_87 : decode cX2_join 87 = .ok (.goto (-84), 3) := by decide +kernel
theorem dX2_join_90 : decode cX2_join 90 = .ok (.return_, 1) := by decide +kernel
theorem dX3_init_0 : decode cX3_init 0 = .ok (.aload_n 0, 1) := by decide +kernel
theorem dX3_init_1 : decode cX3_init 1 = .ok (.invokespecial 3, 3) := by decide +kernel
theorem dX3_init_4 : decode cX3_init 4 = .ok (.aload_n 0, 1) := by decide +kernel
theorem dX3_init_5 : decode cX3_init 5 = .ok (.bipush 13, 2) := by decide +kernel
theorem dX3_init_7 : decode cX3_init 7 = .ok (.sipush 128, 3) := by decide +kernel
theorem dX3_init_10 : decode cX3_init 10 = .ok (.multianewarray 9 2, 4) := by decide +kernel
theorem dX3_init_14 : decode cX3_init 14 = .ok (.putfield 11, 3) := by decide +kernel
theorem dX3_init_17 : decode cX3_init 17 = .ok (.return_, 1) := by decide +kernel
set_option maxRecDepth 20000 in
theorem ggX3_countRow_X3_count : GoodIn wsX3_countRow wsX3_count := goodIn_r _ [5, 6, 7, 8, 9, 10, 11, 12, 13, 14, 15, 2, 3, 4, 16, 17, 18, 19, 20, 21, 22, 23, 24, 25, 26, 27, 32, 33, 34, 35, 36, 37, 38, 39] (by decide +kernel) (by decide +kernel)
set_option maxRecDepth 20000 in
theorem gX3_countRow_X3_count : GoodIn wsX3_countRow (va_wsS RX3 16 yX3_count wsX3_count) := goodIn_app (goodIn_of _ (by decide +kernel)) ggX3_countRow_X3_count
set_option maxRecDepth 20000 in
theorem ggX3_countRow_X4_countOf : GoodIn wsX3_countRow wsX4_countOf := goodIn_r _ [30] (by decide +kernel) (by decide +kernel)
set_option maxRecDepth 20000 in
theorem gX3_countRow_X4_countOf_n20 : GoodIn wsX3_countRow (wsX4_countOf) := ggX3_countRow_X4_countOf
theorem dX3_countRow_0 : decode cX3_countRow 0 = .ok (.aload_n 1, 1) := by decide +kernel
theorem dX3_countRow_1 : decode cX3_countRow 1 = .ok (.aload_n 0, 1) := by decide +kernel
theorem dX3_countRow_2 : decode cX3_countRow 2 = .ok (.getfield 11, 3) := by decide +kernel
theorem dX3_countRow_5 : decode cX3_countRow 5 = .ok (.aload_n 2, 1) := by decide +kernel
theorem dX3_countRow_6 : decode cX3_countRow 6 = .ok (.iconst 0, 1) := by decide +kernel
theorem dX3_countRow_7 : decode cX3_countRow 7 = .ok (.iload_n 3, 1) := by decide +kernel
theorem dX3_countRow_8 : decode cX3_countRow 8 = .ok (.iconst 0, 1) := by decide +kernel
theorem dX3_countRow_9 : decode cX3_countRow 9 = .ok (.iconst 0, 1) := by decide +kernel
theorem dX3_countRow_10 : decode cX3_countRow 10 = .ok (.invokestatic 16, 3) := by decide +kernel
theorem dX3_countRow_13 : decode cX3_countRow 13 = .ok (.aload_n 0, 1) := by decide +kernel
theorem dX3_countRow_14 : decode cX3_countRow 14 = .ok (.getfield 11, 3) := by decide +kernel
theorem dX3_countRow_17 : decode cX3_countRow 17 = .ok (.iconst 0, 1) := by decide +kernel
theorem dX3_countRow_18 : decode cX3_countRow 18 = .ok (.aaload, 1) := by decide +kernel
theorem dX3_countRow_19 : decode cX3_countRow 19 = .ok (.iload 4, 2) := by decide +kernel
theorem dX3_countRow_21 : decode cX3_countRow 21 = .ok (.invokestatic 20, 3) := by decide +kernel
theorem dX3_countRow_24 : decode cX3_countRow 24 = .ok (.ireturn, 1) := by decide +kernel
set_option maxRecDepth 20000 in
theorem ggX3_count_J7_fill_53178 : GoodIn wsX3_count wsJ7_fill_53178 := goodIn_r _ [4] (by decide +kernel) (by decide +kernel)
set_option maxRecDepth 20000 in
theorem gX3_count_J7_fill_53178 : GoodIn wsX3_count (va_wsS RX3 24 yJ7_fill_53178 wsJ7_fill_53178) := goodIn_app (goodIn_of _ (by decide +kernel)) ggX3_count_J7_fill_53178
set_option maxRecDepth 20000 in
theorem ggX3_count_X1_countWord : GoodIn wsX3_count wsX1_countWord := goodIn_r _ [8, 9, 10, 26, 27, 28, 29, 30, 31, 32, 33] (by decide +kernel) (by decide +kernel)
set_option maxRecDepth 20000 in
theorem gX3_count_X1_countWord_n30 : GoodIn wsX3_count (wsX1_countWord) := ggX3_count_X1_countWord
set_option maxRecDepth 20000 in
theorem ggX3_count_X3_count : GoodIn wsX3_count wsX3_count := goodIn_r _ [0, 1, 2, 3, 4, 5, 6, 7, 8, 9, 10, 11, 12, 13, 14, 15, 16, 17, 18, 19, 20, 21, 22, 23, 24, 25, 26, 27, 28, 29, 30, 31, 32, 33] (by decide +kernel) (by decide +kernel)
set_option maxRecDepth 20000 in
theorem gX3_count_X3_count : GoodIn wsX3_count (va_wsS RX3 16 yX3_count wsX3_count) := goodIn_app (goodIn_of _ (by decide +kernel)) ggX3_count_X3_count
set_option maxRecDepth 20000 in
theorem ggX3_count_X1_addJoined : GoodIn wsX3_count wsX1_addJoined := goodIn_r _ [16, 17, 18, 19, 20, 21, 6, 22, 23, 24, 25, 26, 27, 28, 29, 30, 31, 32, 33] (by decide +kernel) (by decide +kernel)
set_option maxRecDepth 20000 in
theorem gX3_count_X1_addJoined_n36 : GoodIn wsX3_count (wsX1_addJoined) := ggX3_count_X1_addJoined
theorem dX3_count_0 : decode cX3_count 0 = .ok (.aload_n 1, 1) := by decide +kernel
theorem dX3_count_1 : decode cX3_count 1 = .ok (.iload 6, 2) := by decide +kernel
theorem dX3_count_3 : decode cX3_count 3 = .ok (.aaload, 1) := by decide +kernel
theorem dX3_count_4 : decode cX3_count 4 = .ok (.iconst 0, 1) := by decide +kernel
theorem dX3_count_5 : decode cX3_count 5 = .ok (.invokestatic 24, 3) := by decide +kernel
theorem dX3_count_8 : decode cX3_count 8 = .ok (.iload 5, 2) := by decide +kernel
theorem dX3_count_10 : decode cX3_count 10 = .ok (.bipush 6, 2) := by decide +kernel
theorem dX3_count_12 : decode cX3_count 12 = .ok (.if_icmp .lt 4, 3) := by decide +kernel
theorem dX3_count_15 : decode cX3_count 15 = .ok (.return_, 1) := by decide +kernel
theorem dX3_count_16 : decode cX3_count 16 = .ok (.iload 4, 2) := by decide +kernel
theorem dX3_count_18 : decode cX3_count 18 = .ok (.iload_n 3, 1) := by decide +kernel
theorem dX3_count_19 : decode cX3_count 19 = .ok (.iconst 1, 1) := by decide +kernel
theorem dX3_count_20 : decode cX3_count 20 = .ok (.iadd, 1) := by decide +kernel
theorem dX3_count_21 : decode cX3_count 21 = .ok (.if_icmp .ne 14, 3) := by decide +kernel
theorem dX3_count_24 : decode cX3_count 24 = .ok (.aload_n 0, 1) := by decide +kernel
theorem dX3_count_25 : decode cX3_count 25 = .ok (.aload_n 2, 1) := by decide +kernel
theorem dX3_count_26 : decode cX3_count 26 = .ok (.iload_n 3, 1) := by decide +kernel
theorem dX3_count_27 : decode cX3_count 27 = .ok (.iaload, 1) := by decide +kernel
theorem dX3_count_28 : decode cX3_count 28 = .ok (.aload_n 1, 1) := by decide +kernel
theorem dX3_count_29 : decode cX3_count 29 = .ok (.iload 6, 2) := by decide +kernel
theorem dX3_count_31 : decode cX3_count 31 = .ok (.aaload, 1) := by decide +kernel
theorem dX3_count_32 : decode cX3_count 32 = .ok (.invokevirtual 30, 3) := by decide +kernel
theorem dX3_count_35 : decode cX3_count 35 = .ok (.iconst 2, 1) := by decide +kernel
theorem dX3_count_36 : decode cX3_count 36 = .ok (.iload 5, 2) := by decide +kernel
theorem dX3_count_38 : decode cX3_count 38 = .ok (.imul, 1) := by decide +kernel
theorem dX3_count_39 : decode cX3_count 39 = .ok (.iconst 1, 1) := by decide +kernel
theorem dX3_count_40 : decode cX3_count 40 = .ok (.iadd, 1) := by decide +kernel
theorem dX3_count_41 : decode cX3_count 41 = .ok (.istore 7, 2) := by decide +kernel
theorem dX3_count_43 : decode cX3_count 43 = .ok (.iload 7, 2) := by decide +kernel
theorem dX3_count_45 : decode cX3_count 45 = .ok (.iconst 1, 1) := by decide +kernel
theorem dX3_count_46 : decode cX3_count 46 = .ok (.iadd, 1) := by decide +kernel
theorem dX3_count_47 : decode cX3_count 47 = .ok (.istore 8, 2) := by decide +kernel
theorem dX3_count_49 : decode cX3_count 49 = .ok (.iload_n 3, 1) := by decide +kernel
theorem dX3_count_50 : decode cX3_count 50 = .ok (.iconst 1, 1) := by decide +kernel
theorem dX3_count_51 : decode cX3_count 51 = .ok (.iadd, 1) := by decide +kernel
theorem dX3_count_52 : decode cX3_count 52 = .ok (.istore 9, 2) := by decide +kernel
theorem dX3_count_54 : decode cX3_count 54 = .ok (.iload 9, 2) := by decide +kernel
theorem dX3_count_56 : decode cX3_count 56 = .ok (.iload 4, 2) := by decide +kernel
theorem dX3_count_58 : decode cX3_count 58 = .ok (.if_icmp .ge 56, 3) := by decide +kernel
theorem dX3_count_61 : decode cX3_count 61 = .ok (.aload_n 0, 1) := by decide +kernel
theorem dX3_count_62 : decode cX3_count 62 = .ok (.aload_n 1, 1) := by decide +kernel
theorem dX3_count_63 : decode cX3_count 63 = .ok (.aload_n 2, 1) := by decide +kernel
theorem dX3_count_64 : decode cX3_count 64 = .ok (.iload_n 3, 1) := by decide +kernel
theorem dX3_count_65 : decode cX3_count 65 = .ok (.iload 9, 2) := by decide +kernel
theorem dX3_count_67 : decode cX3_count 67 = .ok (.iload 5, 2) := by decide +kernel
theorem dX3_count_69 : decode cX3_count 69 = .ok (.iconst 1, 1) := by decide +kernel
theorem dX3_count_70 : decode cX3_count 70 = .ok (.iadd, 1) := by decide +kernel
theorem dX3_count_71 : decode cX3_count 71 = .ok (.iload 7, 2) := by decide +kernel
theorem dX3_count_73 : decode cX3_count 73 = .ok (.invokestatic 16, 3) := by decide +kernel
theorem dX3_count_76 : decode cX3_count 76 = .ok (.aload_n 0, 1) := by decide +kernel
theorem dX3_count_77 : decode cX3_count 77 = .ok (.aload_n 1, 1) := by decide +kernel
theorem dX3_count_78 : decode cX3_count 78 = .ok (.aload_n 2, 1) := by decide +kernel
theorem dX3_count_79 : decode cX3_count 79 = .ok (.iload 9, 2) := by decide +kernel
theorem dX3_count_81 : decode cX3_count 81 = .ok (.iload 4, 2) := by decide +kernel
theorem dX3_count_83 : decode cX3_count 83 = .ok (.iload 5, 2) := by decide +kernel
theorem dX3_count_85 : decode cX3_count 85 = .ok (.iconst 1, 1) := by decide +kernel
theorem dX3_count_86 : decode cX3_count 86 = .ok (.iadd, 1) := by decide +kernel
theorem dX3_count_87 : decode cX3_count 87 = .ok (.iload 8, 2) := by decide +kernel
theorem dX3_count_89 : decode cX3_count 89 = .ok (.invokestatic 16, 3) := by decide +kernel
theorem dX3_count_92 : decode cX3_count 92 = .ok (.aload_n 0, 1) := by decide +kernel
theorem dX3_count_93 : decode cX3_count 93 = .ok (.aload_n 1, 1) := by decide +kernel
theorem dX3_count_94 : decode cX3_count 94 = .ok (.iload 7, 2) := by decide +kernel
theorem dX3_count_96 : decode cX3_count 96 = .ok (.aaload, 1) := by decide +kernel
theorem dX3_count_97 : decode cX3_count 97 = .ok (.aload_n 1, 1) := by decide +kernel
theorem dX3_count_98 : decode cX3_count 98 = .ok (.iload 8, 2) := by decide +kernel
theorem dX3_count_100 : decode cX3_count 100 = .ok (.aaload, 1) := by decide +kernel
theorem dX3_count_101 : decode cX3_count 101 = .ok (.aload_n 1, 1) := by decide +kernel
theorem dX3_count_102 : decode cX3_count 102 = .ok (.iload 6, 2) := by decide +kernel
theorem dX3_count_104 : decode cX3_count 104 = .ok (.aaload, 1) := by decide +kernel
theorem dX3_count_105 : decode cX3_count 105 = .ok (.invokevirtual 36, 3) := by decide +kernel
theorem dX3_count_108 : decode cX3_count 108 = .ok (.iinc 9 1, 3) := by decide +kernel
theorem dX3_count_111 : decode cX3_count 111 = .ok (.goto (-57), 3) := by decide +kernel
theorem dX3_count_114 : decode cX3_count 114 = .ok (.return_, 1) := by decide +kernel
set_option maxRecDepth 20000 in
theorem ggX4_init_X1_init : GoodIn wsX4_init wsX1_init := goodIn_r _ [25, 26, 2, 3, 27, 8, 28, 29, 30, 31, 32, 33, 34, 35, 50, 51, 52, 53, 54, 55, 56, 57] (by decide +kernel) (by decide +kernel)
set_option maxRecDepth 20000 in
theorem gX4_init_X1_init_n11 : GoodIn wsX4_init (wsX1_init) := ggX4_init_X1_init
set_option maxRecDepth 20000 in
theorem ggX4_init_X2_init : GoodIn wsX4_init wsX2_init := goodIn_r _ [37, 38, 2, 3, 8, 39, 65] (by decide +kernel) (by decide +kernel)
set_option maxRecDepth 20000 in
theorem gX4_init_X2_init_n29 : GoodIn wsX4_init (wsX2_init) := ggX4_init_X2_init
set_option maxRecDepth 20000 in
theorem ggX4_init_X0_init : GoodIn wsX4_init wsX0_init := goodIn_r _ [41, 42, 2, 3, 43, 8, 44, 66] (by decide +kernel) (by decide +kernel)
set_option maxRecDepth 20000 in
theorem gX4_init_X0_init_n36 : GoodIn wsX4_init (wsX0_init) := ggX4_init_X0_init
set_option maxRecDepth 20000 in
theorem ggX4_init_X3_init : GoodIn wsX4_init wsX3_init := goodIn_r _ [46, 47, 2, 3, 48, 8, 49, 67] (by decide +kernel) (by decide +kernel)
set_option maxRecDepth 20000 in
theorem gX4_init_X3_init_n43 : GoodIn wsX4_init (wsX3_init) := ggX4_init_X3_init
abbrev vwCl : List vw_C := [(RX0, TX0, 1), (RX1, TX1, 8), (RX2, TX2, 1), (RX3, TX3, 1), (RX4, TX4, 7)]
