/-! rows of the law's own body -/
theorem inc_n (a k : Nat) : nI a + Int32.ofInt (k : Int) = nI (a + k) := nI_add a k
theorem cd2_lt (a b : Bool) : cd2 a b < 2 ^ 31 := by cases a <;> cases b <;> decide
theorem cd2_ok {a b : Bool} (h : cd2 a b = 0) : (a && b) = true := by revert h; cases a <;> cases b <;> decide
theorem lg_self (x : Int64) : lg_cmp x x = 0 := by
  unfold lg_cmp
  have h : ¬ x > x := fun h => absurd h (Int64.lt_irrefl)
  rw [if_neg h]
  simp
theorem FG.mr {I I' : IT} {g : GR} {n r q : Nat} {u : Nat → Nat} (h : FG I I') (hM : MR I g n r q u) : MR I' g n r q u := hM.cong (fun j _ => by rw [h 8 (Or.inl rfl)]) (fun k h1 h2 => h k (Or.inr ⟨h1, by omega⟩))
theorem FM.gw {I I' : IT} {g : GR} {n r q : Nat} {u : Nat → Nat} (h : FM I I') (hG : GW I g n r q u) : GW I' g n r q u := hG.cong (fun k hk => h k (MI_dec (by omega)))
def ELw (b Ln : Nat) (xs : Nat → Int32) : State → Code → Prop := fun s _ => va_X b Ln xs s s.heap ∧ b < s.heap.size ∧ Ln ≤ 2560
def ALw : State → Nat → Prop := fun s q => s.heap.size ≤ q
section RowsLaw
variable {EX : State → Code → Prop} {l : Launch} {cc : ByteArray} {nL : Nat} {Ts : List Cond} {own : String} {ret : Option FieldType} {R : Room} {γ : Gm} {P : PT} {AF : State → Nat → Prop} {QQ : List Frame → Array Value → State → State → Prop} {cells slots : Nat} {pc : Nat} {lv : List (Nat × Value)} {st : List Value} {I : IT} {L : LT} {b Ln : Nat} {xs : Nat → Int32}
theorem g_sld (i : Nat) (hi : i < Ln) (hd : decode cc pc = .ok (.iaload, 1)) (kk : G (ELw b Ln xs) l cc nL Ts own ret R γ P ALw QQ cells slots (pc + 1) lv (.int (xs i) :: st) I L) : G (ELw b Ln xs) l cc nL Ts own ret R γ P ALw QQ cells slots pc lv (.int (nI i) :: .ref b :: st) I L := by
  intro p e s m args below meth c K H locs ls hS hP hD hl
  obtain ⟨hX, hb, hL⟩ := K.2.2.2.2.2
  refine va_sld K.1.1 K.1.2.1 hX hb (show ¬ s.heap.size ≤ b by omega) hS (vp_in_nI hi (by omega)) hd ?_
  rw [nI_clamp (show i < 2 ^ 31 by omega)]
  exact kk p e s m args below meth c K H locs ls hS hP hD hl
theorem g_slen (hd : decode cc pc = .ok (.arraylength, 1)) (kk : G (ELw b Ln xs) l cc nL Ts own ret R γ P ALw QQ cells slots (pc + 1) lv (.int (nI Ln) :: st) I L) : G (ELw b Ln xs) l cc nL Ts own ret R γ P ALw QQ cells slots pc lv (.ref b :: st) I L := by
  intro p e s m args below meth c K H locs ls hS hP hD hl
  obtain ⟨hX, hb, hL⟩ := K.2.2.2.2.2
  exact va_slen K.1.1 K.1.2.1 hX hb (show ¬ s.heap.size ≤ b by omega) hS hd (kk p e s m args below meth c K H locs ls hS hP hD hl)
theorem g_cl {index maxL d : Nat} {As stk : List Value} {y : MethodName} {bytes : ByteArray} {rt : Option FieldType} {hh : List (Nat × Nat × Nat × Nat)} {ws ws' : List Cond} {post : Int32 → IT → LT → PT → Prop} (hM : Li l y ws d γ As I L P post) (hG : GoodIn Ts (va_wsS own index y ws)) (hw : ws = .codeWith y bytes maxL rt hh :: ws')
    (hy : y.cls ≠ "java/lang/invoke/MethodHandle" ∧ y.cls ≠ "java/lang/invoke/VarHandle" ∧ (parseMethodDescriptor y.desc).map (fun d => d.parameters.length) = some As.length) (hR : d + 9 ≤ R.frames ∧ 8 + (maxL + 11) + 40 * (d + 8) ≤ R.locals) (hst : stk = As.reverse ++ st) (hcat : (st.map fun v => v.category).sum ≤ 8) (hd : decode cc pc = .ok (.invokestatic index, 3)) (hcs : cells + 1 ≤ R.cells ∧ slots + 6 ≤ R.slots)
    (kk : ∀ r I' L' P', post r I' L' P' → G EX l cc nL Ts own ret R γ P' AF QQ (cells + 1) (slots + 6) (pc + 3) lv (.int r :: st) I' L') : G EX l cc nL Ts own ret R γ P AF QQ cells slots pc lv stk I L := by
  intro p e s m args below meth c K H locs ls hS hP hD hl
  have hAA := AA_in hD K.2.2.1 hS.1
  have hr := vx_runSW (As := As) (rest := st) (g := F0 m pc ls stk) (cells := cells) (slots := slots) (e := e) (below := below) (locs := locs) (meth := meth) K.1 (hM H.size) (vx_cwSW As.length K.1.2.2.2.2 hG hw rfl rfl hy hR) ⟨Pre.blind, fun U hU hW => pre_at K hS hP hD hU hW⟩ rfl rfl hl.1 hst (lv_room hcat) hd hcs
  refine va_calli hr hS (fun q _ h => hAA q h) hAA (fun r u t H1 locs1 ht hvm hp hB hz hk hS1 => ?_)
  obtain ⟨hP1, hD1⟩ := hB
  rw [ht] at hP1
  exact kk r u.1.1 u.1.2 u.2 hp p e s m args below meth c K H1 locs1 ls hS1 hP1 (hD1.weaken (fun _ q _ h => hAA q.1 h)) hl
theorem g_dald {v : UInt64} (hd : decode cc pc = .ok (.daload, 1)) (hv : P 0 = v) (kk : G EX l cc nL Ts own ret R γ P AF QQ cells slots (pc + 1) lv (.double v :: st) I L) : G EX l cc nL Ts own ret R γ P AF QQ cells slots pc lv (.int (nI 0) :: .ref (γ.2.2 11) :: st) I L := by
  intro p e s m args below meth c K H locs ls hS hP hD hl
  refine va_dald (ws := wd γ I L P) (tys := tyl γ) K.1.1 K.1.2.1 K.2.1.1 hP 11 3 (by rw [wl_get (by decide)]; rfl) rfl (vp_in_nI (by decide : 0 < 1) (by decide)) hd ?_
  rw [show (nI 0).toNatClampNeg = 0 by decide, hv]
  exact kk p e s m args below meth c K H locs ls hS hP hD hl
theorem g_dcmp {x y : UInt64} {op : CmpOp} {v : Int32} (hd : decode cc pc = .ok (.dcmp op, 1)) (hv : Op.cmpValue (FP.dcmp x y) op = v) (kk : G EX l cc nL Ts own ret R γ P AF QQ cells slots (pc + 1) lv (.int v :: st) I L) : G EX l cc nL Ts own ret R γ P AF QQ cells slots pc lv (.double y :: .double x :: st) I L := by
  subst hv
  exact fun p e s m args below meth c K H locs ls hS hP hD hl => lv_dcmp K.1.1 K.1.2.1 hd (kk p e s m args below meth c K H locs ls hS hP hD hl)
theorem g_topf {w v : UInt32} (h : w = v) (kk : G EX l cc nL Ts own ret R γ P AF QQ cells slots pc lv (.float v :: st) I L) : G EX l cc nL Ts own ret R γ P AF QQ cells slots pc lv (.float w :: st) I L := by subst h; exact kk
theorem g_P {P' : PT} (h : P = P') (kk : G EX l cc nL Ts own ret R γ P' AF QQ cells slots pc lv st I L) : G EX l cc nL Ts own ret R γ P AF QQ cells slots pc lv st I L := by subst h; exact kk
end RowsLaw
theorem dself {x : UInt64} (h : vf_n64 x) : Op.cmpValue (FP.dcmp x x) .l = 0 := by
  have h1 : FP.cmpInt (-1) (FP.dcmp x x) = 0 := Jvm.Free.Fl.dcmp_of_noNaN64 h
  revert h1
  generalize FP.dcmp x x = o
  intro h1
  match o, h1 with
  | none, h1 => exact h1
  | some .lt, h1 => exact h1
  | some .eq, h1 => exact h1
  | some .gt, h1 => exact h1
