/-! floats; the model: correcting, the share -/
abbrev Qf (γ : Gm) (P : PT) (post : UInt32 → IT → LT → Prop) : List Frame → Array Value → State → State → Prop := fun below args s => MQ below (va_Qf (uci post) (fun u t => WP γ (AA γ s.heap.size) u.1 u.2 P t.heap) (AA γ s.heap.size)) args s 0 0 (AA γ s.heap.size)
theorem Cf_of {l : Launch} {y : MethodName} {ws ws' : List Cond} {cc : ByteArray} {maxL d : Nat} {ret : Option FieldType} {γ : Gm} {av : List Value} {I : IT} {L : LT} {P : PT} {post : UInt32 → IT → LT → Prop} {own : String} (hy : plainName y.cls = true) (ho : y.cls = own) (hw : ws = .code y cc maxL ret :: ws') (hn : (lg_sl av).length ≤ maxL)
    (body : G E0 l cc maxL ws own ret (rmd d) γ P (AE γ) (Qf γ P post) 0 0 0 (lv_args 0 av) [] I L) : Cf l y ws d γ av I L P post := by
  intro sz
  subst ho
  refine Met.ofW hy hw ?_
  intro p e s m args below meth c s₁ B hml hv
  obtain ⟨rfl, hsz, hF, hP, hD⟩ := hv
  subst hsz
  rw [lg_entry_eq]
  exact body p e s m _ below meth c ⟨⟨B.exec, B.bytes, hml, findClass_of_methodNamed B.named, atoms_spec B.pre⟩, hF, fun q h => Or.inr h, B.returns, B.notSynchronized, trivial⟩ s.heap [] _ va_S.rf hP (hD.weaken (fun k q hk _ => by obtain ⟨h1, rfl⟩ := wl_of hk; exact Or.inl ⟨k, h1, rfl⟩)) (lv_entry av hn)
section RowsF
variable {EX : State → Code → Prop} {l : Launch} {cc : ByteArray} {nL : Nat} {Ts : List Cond} {own : String} {ret : Option FieldType} {R : Room} {γ : Gm} {P : PT} {AF : State → Nat → Prop} {QQ : List Frame → Array Value → State → State → Prop} {cells slots : Nat} {pc : Nat} {lv : List (Nat × Value)} {st : List Value} {I : IT} {L : LT}
theorem g_fc0 (hd : decode cc pc = .ok (.fconst 0, 1)) (kk : G EX l cc nL Ts own ret R γ P AF QQ cells slots (pc + 1) lv (.float FP.fconst0 :: st) I L) : G EX l cc nL Ts own ret R γ P AF QQ cells slots pc lv st I L :=
  fun p e s m args below meth c K H locs ls hS hP hD hl => lv_fconst0 K.1.1 K.1.2.1 hd (kk p e s m args below meth c K H locs ls hS hP hD hl)
theorem g_i2f {x : Int32} (hd : decode cc pc = .ok (.i2f, 1)) (kk : G EX l cc nL Ts own ret R γ P AF QQ cells slots (pc + 1) lv (.float (FP.i2f x) :: st) I L) : G EX l cc nL Ts own ret R γ P AF QQ cells slots pc lv (.int x :: st) I L :=
  fun p e s m args below meth c K H locs ls hS hP hD hl => lv_i2f K.1.1 K.1.2.1 hd (kk p e s m args below meth c K H locs ls hS hP hD hl)
theorem g_fdiv {x y : UInt32} (hd : decode cc pc = .ok (.fdiv, 1)) (hn : vf_n32 (FP.fdiv x y)) (kk : G EX l cc nL Ts own ret R γ P AF QQ cells slots (pc + 1) lv (.float (FP.fdiv x y) :: st) I L) : G EX l cc nL Ts own ret R γ P AF QQ cells slots pc lv (.float y :: .float x :: st) I L :=
  fun p e s m args below meth c K H locs ls hS hP hD hl => lv_fdiv K.1.1 K.1.2.1 hd hn (kk p e s m args below meth c K H locs ls hS hP hD hl)
theorem g_fret {post : UInt32 → IT → LT → Prop} {r : UInt32} (hd : decode cc pc = .ok (.freturn, 1)) (hp : post r I L) : G EX l cc nL Ts own (some .float) R γ P (AE γ) (Qf γ P post) 0 0 pc lv [.float r] I L :=
  fun p e s m args below meth c K H locs ls hS hP hD hl => W.fret K.1.1 K.1.2.1 K.2.2.2.1 (fun t ht hW => ⟨⟨r, (I, L), rfl, hp, by show WP γ _ I L P t.heap; rw [ht]; exact ⟨hP, hD⟩⟩, hS.F ht⟩) hS.2.2 hd K.2.2.2.2.1
end RowsF
theorem fd_ok {a b : Int32} (h : b ≠ 0) : vf_n32 (FP.fdiv (FP.i2f a) (FP.i2f b)) := Jvm.Free.Fl.fdiv_out (Jvm.Free.Fl.i2f_fin a).noNaN (Jvm.Free.Fl.i2f_fin b) (Jvm.Free.Fl.i2f_nz h)
def shr (g : GR) (r n m : Nat) : UInt32 := if n = 0 then FP.fconst0 else FP.fdiv (FP.i2f (nI (bc (fun j => isS g r (dig n m j) m) (n ^ m)))) (FP.i2f (nI (n ^ m)))
theorem shr_n (g : GR) {r n m : Nat} (hm : 1 ≤ m) (hp : n ^ m < 2 ^ 31) : vf_n32 (shr g r n m) := by
  unfold shr
  by_cases h : n = 0
  · rw [if_pos h]; show FP.fconst0 &&& 0x7fffffff ≤ 0x7f800000; decide +kernel
  · rw [if_neg h]
    exact fd_ok (fun e => by have := (nI_z hp).mp e; exact absurd this (Nat.ne_of_gt (Nat.pow_pos (Nat.pos_of_ne_zero h))))

theorem in_X5_correction_5 : ∀ w ∈ wsX50, w ∈ wsX5_correction := by decide +kernel
set_option maxRecDepth 100000 in
set_option maxHeartbeats 4000000 in
theorem c_X5_correction (l : Launch) (γ : Gm) (I : IT) (L : LT) (P : PT) (g : GR) (n r9 q : Nat) (u : Nat → Nat) (hM : MR I g n r9 q u) (x : Int32) : Ci l yX5_correction wsX5_correction 5 γ [.ref (γ.2.2 8), .int x] I L P (fun r I' L' => (pB (¬ x < 0) = true → r = cor g r9 u q n (tn x)) ∧ I' 8 4 = nI (cd2 (pB (¬ x < 0)) true) ∧ FQ I I' ∧ L' = L) := by
  refine Ci_of (own := RX5) (cc := cX5_correction) (maxL := 7) (by decide) rfl rfl (Nat.le_of_ble_eq_true rfl) ?_
  refine g_sub (lv' := [(0, .ref (γ.2.2 8)), (1, .int x)]) [0, 1] rfl ?_
  refine g_al_n 0 dX5_correction_0 rfl ?_
  refine g_il_n 1 dX5_correction_1 rfl ?_
  refine g_if_lt (tgt := 9) dX5_correction_2 (by decide) (fun h2 => ?_) (fun h2 => ?_)
  · skip
    have hok : pB (¬ x < 0) = false := pB_no (fun q9 => q9 h2)
    refine g_ic (v := bi false) dX5_correction_9 (by decide) ?_
    refine g_ic (v := bi true) dX5_correction_10 (by decide) ?_
    refine g_ci (r_V (st := []) (As := [.int (bi false), .int (bi true)]) (d := 0) 8 (by decide) rfl rfl (c_X5_goes l γ I L P (false) (true)) gX5_correction_X5_goes rfl ⟨rfl, by decide, by decide, rfl⟩ ⟨Nat.le_of_ble_eq_true rfl, Nat.le_of_ble_eq_true rfl⟩ rfl (Nat.le_of_ble_eq_true rfl) dX5_correction_11 ⟨Nat.zero_le _, Nat.zero_le _⟩) ?_
    rintro rz1 J Lz1 ⟨ez1, hJ4, hJ8, hJk, eLz1⟩
    subst ez1
    rw [eLz1]
    have hJQ : FQ I J := ⟨fun k h _ _ => hJk k h, fun j hj => hJ8 j (by omega)⟩
    have hJM := hJQ.mr hM
    refine gb_ne (tgt := 19) dX5_correction_14 (by decide) (fun h9 => ?_) (fun h9 => ?_)
    · skip
      exact absurd h9 (by simp)
    · skip
      refine g_pc (pc' := 17) rfl ?_
      refine g_ic (v := nI 0) dX5_correction_17 (by decide) ?_
      exact g_iret dX5_correction_18 (⟨fun q9 => by rw [hok] at q9; exact absurd q9 (by simp), by rw [hok]; exact hJ4, hJQ, rfl⟩)
  · skip
    have hok : pB (¬ x < 0) = true := pB_of h2
    refine g_ic (v := bi true) dX5_correction_5 (by decide) ?_
    refine g_goto (tgt := 10) dX5_correction_6 (by decide) ?_
    refine g_ic (v := bi true) dX5_correction_10 (by decide) ?_
    refine g_ci (r_V (st := []) (As := [.int (bi true), .int (bi true)]) (d := 0) 8 (by decide) rfl rfl (c_X5_goes l γ I L P (true) (true)) gX5_correction_X5_goes rfl ⟨rfl, by decide, by decide, rfl⟩ ⟨Nat.le_of_ble_eq_true rfl, Nat.le_of_ble_eq_true rfl⟩ rfl (Nat.le_of_ble_eq_true rfl) dX5_correction_11 ⟨Nat.zero_le _, Nat.zero_le _⟩) ?_
    rintro rz2 J Lz2 ⟨ez2, hJ4, hJ8, hJk, eLz2⟩
    subst ez2
    rw [eLz2]
    have hJQ : FQ I J := ⟨fun k h _ _ => hJk k h, fun j hj => hJ8 j (by omega)⟩
    have hJM := hJQ.mr hM
    refine gb_ne (tgt := 19) dX5_correction_14 (by decide) (fun h9 => ?_) (fun h9 => ?_)
    · skip
      obtain ⟨X, hX, ex⟩ := nI_of h2
      have eX : tn x = X := by rw [ex]; exact tn_nI hX
      refine g_lv (lv' := [(0, .ref (γ.2.2 8)), (1, .int (nI X))]) (by rw [← ex]) ?_
      have hn9 := hM.1.n_le
      have hq6 := hM.2.2.1
      refine g_il_n 1 dX5_correction_19 rfl ?_
      refine g_pc (pc' := 20) rfl ?_
      refine g_is_n (lv' := [(2, .int (nI X)), (0, .ref (γ.2.2 8)), (1, .int (nI X))]) dX5_correction_20 (by decide) rfl ?_
      refine g_ic (v := (-1 : Int32)) dX5_correction_21 (by decide) ?_
      refine g_is_n (lv' := [(3, .int (-1 : Int32)), (2, .int (nI X)), (0, .ref (γ.2.2 8)), (1, .int (nI X))]) dX5_correction_22 (by decide) rfl ?_
      refine g_ic (v := nI 0) dX5_correction_23 (by decide) ?_
      refine g_is (lv' := [(4, .int (nI 0)), (3, .int (-1 : Int32)), (2, .int (nI X)), (0, .ref (γ.2.2 8)), (1, .int (nI X))]) dX5_correction_24 (by decide) rfl ?_
      have lpB : ∀ (z9 : Nat) (p : Nat) (V : Nat) (T : IT) (hp : p + z9 = q) (hV : nI V = cor g r9 u q n X) (hV2 : V < 2 ^ 31) (hQ : FQ J T) (h4 : T 8 4 = J 8 4), G E0 l cX5_correction 7 wsX5_correction RX5 (some .int) (rmd 5) γ P (AE γ) (Qi γ P (fun r I' L' => (pB (¬ x < 0) = true → r = cor g r9 u q n (tn x)) ∧ I' 8 4 = nI (cd2 (pB (¬ x < 0)) true) ∧ FQ I I' ∧ L' = L)) 0 0 26 [(0, .ref (γ.2.2 8)), (2, .int (-1 : Int32)), (3, .int (nI V)), (4, .int (nI p))] [] T L := by
        intro z9
        induction z9 with
        | zero =>
          intro p V T hp hV hV2 hQ h4
          simp only [Nat.add_zero] at hp
          have hTM := hQ.mr hJM
          refine g_il 3 dX5_correction_26 rfl ?_
          refine g_al_n 0 dX5_correction_28 rfl ?_
          refine g_get 8 9 (by decide) rfl in_X5_correction_5 rfl (by decide) (by decide +kernel) rfl rfl dX5_correction_29 ?_
          refine g_top (v := nI q) (hTM.2.1) ?_
          refine g_pc (pc' := 32) rfl ?_
          refine gn_ge (tgt := 137) dX5_correction_32 (by decide) (by omega) (by omega) (fun h5 => ?_) (fun h5 => ?_)
          · skip
            refine g_il_n 2 dX5_correction_137 rfl ?_
            exact g_iret dX5_correction_138 (⟨fun _ => by rw [eX]; exact hV, by rw [h4, hok]; exact hJ4, hJQ.trans hQ, rfl⟩)
          · skip
            exfalso; omega
        | succ z9 ihB =>
          intro p V T hp hV hV2 hQ h4
          have hTM := hQ.mr hJM
          have hpq : p < q := by omega
          refine g_il 3 dX5_correction_26 rfl ?_
          refine g_al_n 0 dX5_correction_28 rfl ?_
          refine g_get 8 9 (by decide) rfl in_X5_correction_5 rfl (by decide) (by decide +kernel) rfl rfl dX5_correction_29 ?_
          refine g_top (v := nI q) (hTM.2.1) ?_
          refine gn_ge (tgt := 137) dX5_correction_32 (by decide) (by omega) (by omega) (fun h5 => ?_) (fun h5 => ?_)
          · skip
            exfalso; omega
          · skip
            refine g_al_n 0 dX5_correction_35 rfl ?_
            refine g_pc (pc' := 36) rfl ?_
            refine g_cv (r_V (st := []) (As := []) (d := 0) 8 (by decide) rfl rfl (c_X5_takes2 l γ T L P g n r9 q u hTM) gX5_correction_X5_takes rfl ⟨rfl, by decide, by decide, rfl⟩ ⟨Nat.le_of_ble_eq_true rfl, Nat.le_of_ble_eq_true rfl⟩ rfl (Nat.le_of_ble_eq_true rfl) dX5_correction_36 ⟨Nat.zero_le _, Nat.zero_le _⟩) ?_
            rintro K Lz3 ⟨hK3, hKx, hKQ, hK4, eLz3⟩
            rw [eLz3]
            have hKM := hKQ.mr hTM
            refine g_ic (v := nI 0) dX5_correction_39 (by decide) ?_
            refine g_is (lv' := [(5, .int (nI 0)), (0, .ref (γ.2.2 8)), (2, .int (-1 : Int32)), (3, .int (nI V)), (4, .int (nI p))]) dX5_correction_40 (by decide) rfl ?_
            refine g_il 0 dX5_correction_42 rfl ?_
            refine g_al_n 1 dX5_correction_44 rfl ?_
            refine g_get 8 2 (by decide) rfl in_X5_correction_5 rfl (by decide) (by decide +kernel) rfl rfl dX5_correction_45 ?_
            refine g_top (v := nI n) (hKM.1.cn) ?_
            refine gn_ge (tgt := 131) dX5_correction_48 (by decide) (by omega) (by omega) (fun h6 => ?_) (fun h6 => ?_)
            · skip
              refine g_inc (v := nI (p + 1)) (lv' := [(4, .int (nI (p + 1))), (5, .int (nI 0)), (0, .ref (γ.2.2 8)), (2, .int (-1 : Int32)), (3, .int (nI V))]) 4 dX5_correction_131 rfl (inc_1 _) (by decide) rfl ?_
              refine g_pc (pc' := 134) rfl ?_
              refine g_goto (tgt := 26) dX5_correction_134 (by decide) ?_
              refine g_sub [2, 3, 4, 0] rfl ?_
              exact ihB (p + 1) V K (by omega) hV hV2 (hQ.trans hKQ) (by rw [hK4, h4])
            · skip
              refine g_il_n 3 dX5_correction_51 rfl ?_
              refine gz_ge (tgt := 131) dX5_correction_52 (by decide) (by omega) (fun h7 => ?_) (fun h7 => ?_)
              · skip
                refine g_inc (v := nI (p + 1)) (lv' := [(4, .int (nI (p + 1))), (5, .int (nI 0)), (0, .ref (γ.2.2 8)), (2, .int (-1 : Int32)), (3, .int (nI V))]) 4 dX5_correction_131 rfl (inc_1 _) (by decide) rfl ?_
                refine g_goto (tgt := 26) dX5_correction_134 (by decide) ?_
                refine g_sub [2, 3, 4, 0] rfl ?_
                exact ihB (p + 1) V K (by omega) hV hV2 (hQ.trans hKQ) (by rw [hK4, h4])
              · skip
                exact h7.elim
      have lp : ∀ (z : Nat) (p : Nat) (M : Nat) (T : IT) (hp : p + z = q) (hkf : kfs (cok g r9 u q n) (z * n) (p * n) M = kfs (cok g r9 u q n) (q * n) 0 X) (hMl : M < 2 ^ 31) (hQ : FQ J T) (h4 : T 8 4 = J 8 4), G E0 l cX5_correction 7 wsX5_correction RX5 (some .int) (rmd 5) γ P (AE γ) (Qi γ P (fun r I' L' => (pB (¬ x < 0) = true → r = cor g r9 u q n (tn x)) ∧ I' 8 4 = nI (cd2 (pB (¬ x < 0)) true) ∧ FQ I I' ∧ L' = L)) 0 0 26 [(0, .ref (γ.2.2 8)), (2, .int (nI M)), (3, .int (-1 : Int32)), (4, .int (nI p))] [] T L := by
        intro z
        induction z with
        | zero =>
          intro p M T hp hkf hMl hQ h4
          simp only [Nat.add_zero] at hp
          rw [Nat.zero_mul] at hkf
          have hTM := hQ.mr hJM
          refine g_il 3 dX5_correction_26 rfl ?_
          refine g_al_n 0 dX5_correction_28 rfl ?_
          refine g_get 8 9 (by decide) rfl in_X5_correction_5 rfl (by decide) (by decide +kernel) rfl rfl dX5_correction_29 ?_
          refine g_top (v := nI q) (hTM.2.1) ?_
          refine g_pc (pc' := 32) rfl ?_
          refine gn_ge (tgt := 137) dX5_correction_32 (by decide) (by omega) (by omega) (fun h5 => ?_) (fun h5 => ?_)
          · skip
            refine g_il_n 2 dX5_correction_137 rfl ?_
            exact g_iret dX5_correction_138 (⟨fun _ => by rw [eX, cor, ← hkf]; rfl, by rw [h4, hok]; exact hJ4, hJQ.trans hQ, rfl⟩)
          · skip
            exfalso; omega
        | succ z ih =>
          intro p M T hp hkf hMl hQ h4
          have hTM := hQ.mr hJM
          have hpq : p < q := by omega
          refine g_il 3 dX5_correction_26 rfl ?_
          refine g_al_n 0 dX5_correction_28 rfl ?_
          refine g_get 8 9 (by decide) rfl in_X5_correction_5 rfl (by decide) (by decide +kernel) rfl rfl dX5_correction_29 ?_
          refine g_top (v := nI q) (hTM.2.1) ?_
          refine gn_ge (tgt := 137) dX5_correction_32 (by decide) (by omega) (by omega) (fun h5 => ?_) (fun h5 => ?_)
          · skip
            exfalso; omega
          · skip
            refine g_al_n 0 dX5_correction_35 rfl ?_
            refine g_pc (pc' := 36) rfl ?_
            refine g_cv (r_V (st := []) (As := []) (d := 0) 8 (by decide) rfl rfl (c_X5_takes2 l γ T L P g n r9 q u hTM) gX5_correction_X5_takes rfl ⟨rfl, by decide, by decide, rfl⟩ ⟨Nat.le_of_ble_eq_true rfl, Nat.le_of_ble_eq_true rfl⟩ rfl (Nat.le_of_ble_eq_true rfl) dX5_correction_36 ⟨Nat.zero_le _, Nat.zero_le _⟩) ?_
            rintro K Lz4 ⟨hK3, hKx, hKQ, hK4, eLz4⟩
            rw [eLz4]
            have hKM := hKQ.mr hTM
            refine g_ic (v := nI 0) dX5_correction_39 (by decide) ?_
            refine g_is (lv' := [(5, .int (nI 0)), (0, .ref (γ.2.2 8)), (2, .int (nI M)), (3, .int (-1 : Int32)), (4, .int (nI p))]) dX5_correction_40 (by decide) rfl ?_
            have lp2 : ∀ (z2 : Nat) (w : Nat) (M : Nat) (T : IT) (hw : w + z2 = n) (hkf : kfs (cok g r9 u q n) (z * n + z2) (p * n + w) M = kfs (cok g r9 u q n) (q * n) 0 X) (hMl : M < 2 ^ 31) (hQ : FQ J T) (h4 : T 8 4 = J 8 4) (h3 : T 8 3 = nI q) (hx : ∀ j, j < q → j ≠ p → T 27 j = nI (u j)), G E0 l cX5_correction 7 wsX5_correction RX5 (some .int) (rmd 5) γ P (AE γ) (Qi γ P (fun r I' L' => (pB (¬ x < 0) = true → r = cor g r9 u q n (tn x)) ∧ I' 8 4 = nI (cd2 (pB (¬ x < 0)) true) ∧ FQ I I' ∧ L' = L)) 0 0 42 [(0, .ref (γ.2.2 8)), (2, .int (nI M)), (3, .int (-1 : Int32)), (4, .int (nI p)), (5, .int (nI w))] [] T L := by
              intro z2
              induction z2 with
              | zero =>
                intro w M T hw hkf hMl hQ h4 h3 hx
                simp only [Nat.add_zero] at hw
                have hTM := hQ.mr hJM
                refine g_il 4 dX5_correction_42 rfl ?_
                refine g_al_n 0 dX5_correction_44 rfl ?_
                refine g_get 8 2 (by decide) rfl in_X5_correction_5 rfl (by decide) (by decide +kernel) rfl rfl dX5_correction_45 ?_
                refine g_top (v := nI n) (hTM.1.cn) ?_
                refine gn_ge (tgt := 131) dX5_correction_48 (by decide) (by omega) (by omega) (fun h6 => ?_) (fun h6 => ?_)
                · skip
                  refine g_inc (v := nI (p + 1)) (lv' := [(4, .int (nI (p + 1))), (0, .ref (γ.2.2 8)), (2, .int (nI M)), (3, .int (-1 : Int32)), (5, .int (nI w))]) 3 dX5_correction_131 rfl (inc_1 _) (by decide) rfl ?_
                  refine g_pc (pc' := 134) rfl ?_
                  refine g_goto (tgt := 26) dX5_correction_134 (by decide) ?_
                  refine g_sub [1, 2, 3, 0] rfl ?_
                  exact ih (p + 1) M T (by omega) (by rw [← hkf, hw, Nat.succ_mul]; rfl) hMl hQ h4
                · skip
                  exfalso; omega
              | succ z2 ih2 =>
                intro w M T hw hkf hMl hQ h4 h3 hx
                have hTM := hQ.mr hJM
                have hwn : w < n := by omega
                have hck : cok g r9 u q n (p * n + w) = (!decide (w = u p) && isS g r9 (ust u p w) q) := by rw [cok, dm_d hwn, dm_m hwn]
                refine g_il 4 dX5_correction_42 rfl ?_
                refine g_al_n 0 dX5_correction_44 rfl ?_
                refine g_get 8 2 (by decide) rfl in_X5_correction_5 rfl (by decide) (by decide +kernel) rfl rfl dX5_correction_45 ?_
                refine g_top (v := nI n) (hTM.1.cn) ?_
                refine gn_ge (tgt := 131) dX5_correction_48 (by decide) (by omega) (by omega) (fun h6 => ?_) (fun h6 => ?_)
                · skip
                  exfalso; omega
                · skip
                  refine g_il_n 2 dX5_correction_51 rfl ?_
                  refine g_if_ge (tgt := 131) dX5_correction_52 (by decide) (fun h7 => ?_) (fun h7 => ?_)
                  · skip
                    exact absurd h7 (by decide)
                  · skip
                    refine g_al_n 0 dX5_correction_55 rfl ?_
                    refine g_pc (pc' := 56) rfl ?_
                    refine g_get (v := .ref (γ.2.2 27)) 8 10 (by decide) rfl in_X5_correction_5 rfl (by decide) (by decide +kernel) rfl rfl dX5_correction_56 ?_
                    refine g_il 3 dX5_correction_59 rfl ?_
                    refine g_il 4 dX5_correction_61 rfl ?_
                    refine g_iast 27 p (by decide) (by decide) (show _ < 6 by omega) dX5_correction_63 ?_
                    obtain ⟨T2, wT2⟩ : ∃ T2, T2 = va_up T 27 (upd (T 27) p (nI w)) := ⟨_, rfl⟩
                    have T2_a : T2 27 = upd (T 27) p (nI w) := by rw [wT2, va_us]
                    have T2_b : ∀ k, k ≠ 27 → T2 k = T k := fun k hk => by rw [wT2, va_up_ne _ _ hk]
                    have T2_q : FQ T T2 := by rw [wT2]; exact FQ.up27 _ _
                    refine g_eq (I' := T2) wT2.symm rfl ?_
                    have hT2M := T2_q.mr hTM
                    refine g_il 4 dX5_correction_64 rfl ?_
                    refine g_al_n 0 dX5_correction_66 rfl ?_
                    refine g_get (v := .ref (γ.2.2 26)) 8 8 (by decide) rfl in_X5_correction_5 rfl (by decide) (by decide +kernel) rfl rfl dX5_correction_67 ?_
                    refine g_il 3 dX5_correction_70 rfl ?_
                    refine g_pc (pc' := 72) rfl ?_
                    refine g_iald (v := nI (u p)) 26 p (by decide) (by decide) (show p < 6 by omega) ((hT2M.2.2.2 p hpq).1) dX5_correction_72 ?_
                    refine gn_eq (tgt := 87) dX5_correction_73 (by decide) (by omega) (by have := (hM.2.2.2 p hpq).2; omega) (fun h8 => ?_) (fun h8 => ?_)
                    · skip
                      have hc : cok g r9 u q n (p * n + w) = false := by rw [hck, decide_eq_true h8]; rfl
                      refine g_ic (v := bi false) dX5_correction_87 (by decide) ?_
                      refine g_is (lv' := [(6, .int (bi false)), (0, .ref (γ.2.2 8)), (2, .int (nI M)), (3, .int (-1 : Int32)), (4, .int (nI p)), (5, .int (nI w))]) dX5_correction_88 (by decide) rfl ?_
                      refine g_il 0 dX5_correction_90 rfl ?_
                      refine gb_eq (tgt := 110) dX5_correction_92 (by decide) (fun h10 => ?_) (fun h10 => ?_)
                      · skip
                        refine g_ic (v := (-1 : Int32)) dX5_correction_110 (by decide) ?_
                        refine g_is_n (lv' := [(3, .int (-1 : Int32)), (6, .int (bi false)), (0, .ref (γ.2.2 8)), (2, .int (nI M)), (4, .int (nI p)), (5, .int (nI w))]) dX5_correction_111 (by decide) rfl ?_
                        refine g_pc (pc' := 112) rfl ?_
                        refine g_il_n 3 dX5_correction_112 rfl ?_
                        refine g_il 1 dX5_correction_113 rfl ?_
                        refine gb_eq (tgt := 122) dX5_correction_115 (by decide) (fun h12 => ?_) (fun h12 => ?_)
                        · skip
                          refine g_ic (v := nI 0) dX5_correction_122 (by decide) ?_
                          refine g_isub (v := nI (M - 0)) dX5_correction_123 (pk_sub (by omega)) ?_
                          refine g_is_n (lv' := [(2, .int (nI (M - 0))), (3, .int (-1 : Int32)), (6, .int (bi false)), (0, .ref (γ.2.2 8)), (4, .int (nI p)), (5, .int (nI w))]) dX5_correction_124 (by decide) rfl ?_
                          refine g_inc (v := nI (w + 1)) (lv' := [(5, .int (nI (w + 1))), (2, .int (nI (M - 0))), (3, .int (-1 : Int32)), (6, .int (bi false)), (0, .ref (γ.2.2 8)), (4, .int (nI p))]) 5 dX5_correction_125 rfl (inc_1 _) (by decide) rfl ?_
                          refine g_goto (tgt := 42) dX5_correction_128 (by decide) ?_
                          refine g_sub [4, 1, 2, 5, 0] rfl ?_
                          exact ih2 (w + 1) (M - 0) T2 (by omega) (by rw [← hkf, show z * n + (z2 + 1) = (z * n + z2) + 1 from rfl, kfs_s, hc]; rfl) (by omega) (hQ.trans T2_q) (by rw [T2_b 8 (by decide)]; exact h4) (by rw [T2_b 8 (by decide)]; exact h3) (fun j h9 h10 => by rw [T2_a, upd_n _ _ h10]; exact hx j h9 h10)
                        · skip
                          exact absurd h12 (by simp)
                      · skip
                        exact absurd h10 (by simp)
                    · skip
                      refine g_pc (pc' := 76) rfl ?_
                      refine g_al_n 0 dX5_correction_76 rfl ?_
                      refine g_ci (r_V (st := []) (As := []) (d := 4) 8 (by decide) rfl rfl (c_X5_isSentence2 l γ T2 L P g n r9 q (ust u p w) hT2M.1 (by rw [T2_b 8 (by decide)]; exact h3) hq6 (fun j hj => by rw [T2_a]; exact if e : j = p then (by subst e; rw [upd_s, ust_s]) else (by rw [upd_n _ _ e, ust_n _ _ e]; exact hx j hj e)) (ust_lt (fun j hj => (hM.2.2.2 j hj).2) hwn)) gX5_correction_X5_isSentence rfl ⟨rfl, by decide, by decide, rfl⟩ ⟨Nat.le_of_ble_eq_true rfl, Nat.le_of_ble_eq_true rfl⟩ rfl (Nat.le_of_ble_eq_true rfl) dX5_correction_77 ⟨Nat.zero_le _, Nat.zero_le _⟩) ?_
                      rintro rz5 T3 Lz5 ⟨ez5, hs28, eLz5⟩
                      subst ez5
                      rw [eLz5]
                      have hQ3 : FQ J T3 := (hQ.trans T2_q).trans (FQ.k28 hs28)
                      have h43 : T3 8 4 = J 8 4 := by rw [hs28 8 (by decide), T2_b 8 (by decide)]; exact h4
                      have hT3M := hQ3.mr hJM
                      refine gb_eq (tgt := 87) dX5_correction_80 (by decide) (fun hb => ?_) (fun hb => ?_)
                      · skip
                        have hc : cok g r9 u q n (p * n + w) = false := by rw [hck, hb]; simp
                        refine g_ic (v := bi false) dX5_correction_87 (by decide) ?_
                        refine g_is (lv' := [(6, .int (bi false)), (0, .ref (γ.2.2 8)), (2, .int (nI M)), (3, .int (-1 : Int32)), (4, .int (nI p)), (5, .int (nI w))]) dX5_correction_88 (by decide) rfl ?_
                        refine g_il 0 dX5_correction_90 rfl ?_
                        refine gb_eq (tgt := 110) dX5_correction_92 (by decide) (fun h10 => ?_) (fun h10 => ?_)
                        · skip
                          refine g_ic (v := (-1 : Int32)) dX5_correction_110 (by decide) ?_
                          refine g_pc (pc' := 111) rfl ?_
                          refine g_is_n (lv' := [(3, .int (-1 : Int32)), (6, .int (bi false)), (0, .ref (γ.2.2 8)), (2, .int (nI M)), (4, .int (nI p)), (5, .int (nI w))]) dX5_correction_111 (by decide) rfl ?_
                          refine g_il_n 3 dX5_correction_112 rfl ?_
                          refine g_il 1 dX5_correction_113 rfl ?_
                          refine gb_eq (tgt := 122) dX5_correction_115 (by decide) (fun h12 => ?_) (fun h12 => ?_)
                          · skip
                            refine g_ic (v := nI 0) dX5_correction_122 (by decide) ?_
                            refine g_isub (v := nI (M - 0)) dX5_correction_123 (pk_sub (by omega)) ?_
                            refine g_is_n (lv' := [(2, .int (nI (M - 0))), (3, .int (-1 : Int32)), (6, .int (bi false)), (0, .ref (γ.2.2 8)), (4, .int (nI p)), (5, .int (nI w))]) dX5_correction_124 (by decide) rfl ?_
                            refine g_inc (v := nI (w + 1)) (lv' := [(5, .int (nI (w + 1))), (2, .int (nI (M - 0))), (3, .int (-1 : Int32)), (6, .int (bi false)), (0, .ref (γ.2.2 8)), (4, .int (nI p))]) 5 dX5_correction_125 rfl (inc_1 _) (by decide) rfl ?_
                            refine g_pc (pc' := 128) rfl ?_
                            refine g_goto (tgt := 42) dX5_correction_128 (by decide) ?_
                            refine g_sub [4, 1, 2, 5, 0] rfl ?_
                            exact ih2 (w + 1) (M - 0) T3 (by omega) (by rw [← hkf, show z * n + (z2 + 1) = (z * n + z2) + 1 from rfl, kfs_s, hc]; rfl) (by omega) hQ3 h43 (by rw [hs28 8 (by decide), T2_b 8 (by decide)]; exact h3) (fun j h9 h10 => by rw [hs28 27 (by decide), T2_a, upd_n _ _ h10]; exact hx j h9 h10)
                          · skip
                            exact absurd h12 (by simp)
                        · skip
                          exact absurd h10 (by simp)
                      · skip
                        have hc : cok g r9 u q n (p * n + w) = true := by rw [hck, decide_eq_false h8, hb]; rfl
                        refine g_ic (v := bi true) dX5_correction_83 (by decide) ?_
                        refine g_goto (tgt := 88) dX5_correction_84 (by decide) ?_
                        refine g_is (lv' := [(6, .int (bi true)), (0, .ref (γ.2.2 8)), (2, .int (nI M)), (3, .int (-1 : Int32)), (4, .int (nI p)), (5, .int (nI w))]) dX5_correction_88 (by decide) rfl ?_
                        refine g_il 0 dX5_correction_90 rfl ?_
                        refine gb_eq (tgt := 110) dX5_correction_92 (by decide) (fun h10 => ?_) (fun h10 => ?_)
                        · skip
                          exact absurd h10 (by simp)
                        · skip
                          refine g_il_n 2 dX5_correction_95 rfl ?_
                          refine gz_ne (tgt := 110) dX5_correction_96 (by decide) (by omega) (fun h11 => ?_) (fun h11 => ?_)
                          · skip
                            refine g_pc (pc' := 110) rfl ?_
                            refine g_ic (v := (-1 : Int32)) dX5_correction_110 (by decide) ?_
                            refine g_is_n (lv' := [(3, .int (-1 : Int32)), (6, .int (bi true)), (0, .ref (γ.2.2 8)), (2, .int (nI M)), (4, .int (nI p)), (5, .int (nI w))]) dX5_correction_111 (by decide) rfl ?_
                            refine g_il_n 3 dX5_correction_112 rfl ?_
                            refine g_il 1 dX5_correction_113 rfl ?_
                            refine gb_eq (tgt := 122) dX5_correction_115 (by decide) (fun h12 => ?_) (fun h12 => ?_)
                            · skip
                              exact absurd h12 (by simp)
                            · skip
                              refine g_ic (v := nI 1) dX5_correction_118 (by decide) ?_
                              refine g_goto (tgt := 123) dX5_correction_119 (by decide) ?_
                              refine g_isub (v := nI (M - 1)) dX5_correction_123 (pk_sub (by omega)) ?_
                              refine g_pc (pc' := 124) rfl ?_
                              refine g_is_n (lv' := [(2, .int (nI (M - 1))), (3, .int (-1 : Int32)), (6, .int (bi true)), (0, .ref (γ.2.2 8)), (4, .int (nI p)), (5, .int (nI w))]) dX5_correction_124 (by decide) rfl ?_
                              refine g_inc (v := nI (w + 1)) (lv' := [(5, .int (nI (w + 1))), (2, .int (nI (M - 1))), (3, .int (-1 : Int32)), (6, .int (bi true)), (0, .ref (γ.2.2 8)), (4, .int (nI p))]) 5 dX5_correction_125 rfl (inc_1 _) (by decide) rfl ?_
                              refine g_goto (tgt := 42) dX5_correction_128 (by decide) ?_
                              refine g_sub [4, 1, 2, 5, 0] rfl ?_
                              exact ih2 (w + 1) (M - 1) T3 (by omega) (by rw [← hkf, show z * n + (z2 + 1) = (z * n + z2) + 1 from rfl, kfs_s, hc, if_pos rfl, if_neg h11]; rfl) (by omega) hQ3 h43 (by rw [hs28 8 (by decide), T2_b 8 (by decide)]; exact h3) (fun j h9 h10 => by rw [hs28 27 (by decide), T2_a, upd_n _ _ h10]; exact hx j h9 h10)
                          · skip
                            refine g_bi (v := nI 10) dX5_correction_99 (by decide) ?_
                            refine g_il 4 dX5_correction_101 rfl ?_
                            refine g_imul (v := nI (10 * p)) dX5_correction_103 (pk_mul _ _) ?_
                            refine g_il 5 dX5_correction_104 rfl ?_
                            refine g_iadd (v := nI (10 * p + w)) dX5_correction_106 (nI_add _ _) ?_
                            refine g_pc (pc' := 107) rfl ?_
                            refine g_goto (tgt := 111) dX5_correction_107 (by decide) ?_
                            refine g_is_n (lv' := [(3, .int (nI (10 * p + w))), (6, .int (bi true)), (0, .ref (γ.2.2 8)), (2, .int (nI M)), (4, .int (nI p)), (5, .int (nI w))]) dX5_correction_111 (by decide) rfl ?_
                            refine g_il_n 3 dX5_correction_112 rfl ?_
                            refine g_il 1 dX5_correction_113 rfl ?_
                            refine gb_eq (tgt := 122) dX5_correction_115 (by decide) (fun h12 => ?_) (fun h12 => ?_)
                            · skip
                              exact absurd h12 (by simp)
                            · skip
                              refine g_ic (v := nI 1) dX5_correction_118 (by decide) ?_
                              refine g_goto (tgt := 123) dX5_correction_119 (by decide) ?_
                              refine g_isub (v := (-1 : Int32)) dX5_correction_123 (by rw [h11]; rfl) ?_
                              refine g_pc (pc' := 124) rfl ?_
                              refine g_is_n (lv' := [(2, .int (-1 : Int32)), (3, .int (nI (10 * p + w))), (6, .int (bi true)), (0, .ref (γ.2.2 8)), (4, .int (nI p)), (5, .int (nI w))]) dX5_correction_124 (by decide) rfl ?_
                              refine g_inc (v := nI (w + 1)) (lv' := [(5, .int (nI (w + 1))), (2, .int (-1 : Int32)), (3, .int (nI (10 * p + w))), (6, .int (bi true)), (0, .ref (γ.2.2 8)), (4, .int (nI p))]) 5 dX5_correction_125 rfl (inc_1 _) (by decide) rfl ?_
                              refine g_goto (tgt := 42) dX5_correction_128 (by decide) ?_
                              refine g_sub [4, 1, 2, 5, 0] rfl ?_
                              have hcr : nI (10 * p + w) = cor g r9 u q n X := by rw [cor, ← hkf, show z * n + (z2 + 1) = (z * n + z2) + 1 from rfl, kfs_s, hc, if_pos rfl, if_pos h11]; show _ = nI (10 * ((p * n + w) / n) + (p * n + w) % n); rw [dm_d hwn, dm_m hwn]
                              refine g_lv (lv' := [(0, .ref (γ.2.2 8)), (2, .int (-1 : Int32)), (3, .int (nI (10 * p + w))), (4, .int (nI p)), (5, .int (nI (w + 1)))]) rfl ?_
                              refine g_il 4 dX5_correction_42 rfl ?_
                              refine g_al_n 0 dX5_correction_44 rfl ?_
                              refine g_get 8 2 (by decide) rfl in_X5_correction_5 rfl (by decide) (by decide +kernel) rfl rfl dX5_correction_45 ?_
                              refine g_top (v := nI n) (hT3M.1.cn) ?_
                              refine gn_ge (tgt := 131) dX5_correction_48 (by decide) (by omega) (by omega) (fun h13 => ?_) (fun h13 => ?_)
                              · skip
                                refine g_inc (v := nI (p + 1)) (lv' := [(4, .int (nI (p + 1))), (0, .ref (γ.2.2 8)), (2, .int (-1 : Int32)), (3, .int (nI (10 * p + w))), (5, .int (nI (w + 1)))]) 3 dX5_correction_131 rfl (inc_1 _) (by decide) rfl ?_
                                refine g_goto (tgt := 26) dX5_correction_134 (by decide) ?_
                                refine g_sub [1, 2, 3, 0] rfl ?_
                                exact lpB z (p + 1) (10 * p + w) T3 (by omega) hcr (by omega) hQ3 h43
                              · skip
                                refine g_il_n 2 dX5_correction_51 rfl ?_
                                refine g_pc (pc' := 52) rfl ?_
                                refine gz_ge (tgt := 131) dX5_correction_52 (by decide) (by omega) (fun h14 => ?_) (fun h14 => ?_)
                                · skip
                                  refine g_inc (v := nI (p + 1)) (lv' := [(4, .int (nI (p + 1))), (0, .ref (γ.2.2 8)), (2, .int (-1 : Int32)), (3, .int (nI (10 * p + w))), (5, .int (nI (w + 1)))]) 3 dX5_correction_131 rfl (inc_1 _) (by decide) rfl ?_
                                  refine g_goto (tgt := 26) dX5_correction_134 (by decide) ?_
                                  refine g_sub [1, 2, 3, 0] rfl ?_
                                  exact lpB z (p + 1) (10 * p + w) T3 (by omega) hcr (by omega) hQ3 h43
                                · skip
                                  exact h14.elim
            refine g_sub [1, 2, 3, 4, 0] rfl ?_
            exact lp2 n 0 M K (Nat.zero_add _) (by rw [← hkf, Nat.succ_mul]; rfl) hMl (hQ.trans hKQ) (by rw [hK4, h4]) hK3 (fun j h9 _ => hKx j h9)
      refine g_sub [3, 2, 1, 0] rfl ?_
      exact lp q 0 X J (Nat.zero_add _) (by rw [Nat.zero_mul]) hX (FQ.refl J) rfl
    · skip
      exact absurd h9 (by simp)

theorem in_X5_share_5 : ∀ w ∈ wsX50, w ∈ wsX5_share := by decide +kernel
set_option maxRecDepth 100000 in
set_option maxHeartbeats 4000000 in
theorem c_X5_share (l : Launch) (γ : Gm) (I : IT) (L : LT) (P : PT) (g : GR) (n r9 q : Nat) (u : Nat → Nat) (hM : MR I g n r9 q u) (x : Int32) : Cf l yX5_share wsX5_share 6 γ [.ref (γ.2.2 8), .int x] I L P (fun r I' L' => (pB (∃ m, LEN x m) = true → r = shr g r9 n (tn x)) ∧ I' 8 4 = nI (cd2 (pB (∃ m, LEN x m)) true) ∧ FQ I I' ∧ L' = L) := by
  refine Cf_of (own := RX5) (cc := cX5_share) (maxL := 2) (by decide) rfl rfl (Nat.le_of_ble_eq_true rfl) ?_
  refine g_sub (lv' := [(0, .ref (γ.2.2 8)), (1, .int x)]) [0, 1] rfl ?_
  refine g_al_n 0 dX5_share_0 rfl ?_
  refine g_il_n 1 dX5_share_1 rfl ?_
  refine g_ci0 (v := bi (pB (∃ m, LEN x m))) (r_S (st := [.ref (γ.2.2 8)]) (As := [.int x]) (d := 0) (c_X5_isShort l γ I L P x) gX5_share_X5_isShort rfl ⟨by decide, by decide, rfl⟩ ⟨Nat.le_of_ble_eq_true rfl, Nat.le_of_ble_eq_true rfl⟩ rfl (Nat.le_of_ble_eq_true rfl) dX5_share_2 ⟨Nat.zero_le _, Nat.zero_le _⟩) ?_
  refine g_ic (v := bi true) dX5_share_5 (by decide) ?_
  refine g_ci (r_V (st := []) (As := [.int (bi (pB (∃ m, LEN x m))), .int (bi true)]) (d := 0) 8 (by decide) rfl rfl (c_X5_goes l γ I L P (pB (∃ m, LEN x m)) (true)) gX5_share_X5_goes rfl ⟨rfl, by decide, by decide, rfl⟩ ⟨Nat.le_of_ble_eq_true rfl, Nat.le_of_ble_eq_true rfl⟩ rfl (Nat.le_of_ble_eq_true rfl) dX5_share_6 ⟨Nat.zero_le _, Nat.zero_le _⟩) ?_
  rintro rz2 J Lz2 ⟨ez2, hJ4, hJ8, hJk, eLz2⟩
  subst ez2
  rw [eLz2]
  have hJQ : FQ I J := ⟨fun k h _ _ => hJk k h, fun j hj => hJ8 j (by omega)⟩
  have hJM := hJQ.mr hM
  refine gb_ne (tgt := 14) dX5_share_9 (by decide) (fun h1 => ?_) (fun h1 => ?_)
  · skip
    have hok : pB (∃ m, LEN x m) = true := by rw [← h1, Bool.and_true]
    obtain ⟨ex, hs1, hs4⟩ := LEN_tn (pB_t.mp hok)
    have hn9 := hM.1.n_le
    obtain ⟨s, es⟩ : ∃ s, s = tn x := ⟨_, rfl⟩
    rw [← es] at ex hs1 hs4
    have hpow := pow_le4 hn9 hs4
    refine g_lv (lv' := [(0, .ref (γ.2.2 8)), (1, .int (nI s))]) (by rw [← ex]) ?_
    refine g_al_n 0 dX5_share_14 rfl ?_
    refine g_pc (pc' := 15) rfl ?_
    refine g_get 8 2 (by decide) rfl in_X5_share_5 rfl (by decide) (by decide +kernel) rfl rfl dX5_share_15 ?_
    refine g_top (v := nI n) (hJM.1.cn) ?_
    refine gz_ne (tgt := 25) dX5_share_18 (by decide) (by omega) (fun h3 => ?_) (fun h3 => ?_)
    · skip
      have hz : nI (n ^ s) ≠ 0 := fun e => absurd ((nI_z (by omega)).mp e) (Nat.ne_of_gt (Nat.pow_pos (Nat.pos_of_ne_zero h3)))
      refine g_al_n 0 dX5_share_25 rfl ?_
      refine g_il_n 1 dX5_share_26 rfl ?_
      refine g_ci (r_V (st := []) (As := [.int (nI s)]) (d := 5) 8 (by decide) rfl rfl (c_X5_sentencesOf l γ J L P g n r9 q u hJM s hs1 hs4) gX5_share_X5_sentencesOf rfl ⟨rfl, by decide, by decide, rfl⟩ ⟨Nat.le_of_ble_eq_true rfl, Nat.le_of_ble_eq_true rfl⟩ rfl (Nat.le_of_ble_eq_true rfl) dX5_share_27 ⟨Nat.zero_le _, Nat.zero_le _⟩) ?_
      rintro rz3 K Lz3 ⟨ez3, hKQ, hK4, eLz3⟩
      subst ez3
      rw [eLz3]
      have hKM := hKQ.mr hJM
      refine g_i2f dX5_share_30 ?_
      refine g_al_n 0 dX5_share_31 rfl ?_
      refine g_il_n 1 dX5_share_32 rfl ?_
      refine g_pc (pc' := 33) rfl ?_
      refine g_ci0 (v := nI (n ^ s)) (r_V (st := [.float (FP.i2f (nI (bc (fun j => isS g r9 (dig n s j) s) (n ^ s))))]) (As := [.int (nI s)]) (d := 0) 8 (by decide) rfl rfl (c_X5_rows l γ K L P n s hKM.1.cn (by omega)) gX5_share_X5_rows rfl ⟨rfl, by decide, by decide, rfl⟩ ⟨Nat.le_of_ble_eq_true rfl, Nat.le_of_ble_eq_true rfl⟩ rfl (Nat.le_of_ble_eq_true rfl) dX5_share_33 ⟨Nat.zero_le _, Nat.zero_le _⟩) ?_
      refine g_i2f dX5_share_36 ?_
      refine g_fdiv dX5_share_37 (fd_ok hz) ?_
      exact g_fret dX5_share_38 (⟨fun _ => by rw [← es, shr, if_neg h3], by rw [hK4]; exact hJ4, hJQ.trans hKQ, rfl⟩)
    · skip
      refine g_fc0 dX5_share_21 ?_
      refine g_goto (tgt := 38) dX5_share_22 (by decide) ?_
      exact g_fret dX5_share_38 (⟨fun _ => by rw [← es, shr, if_pos h3], hJ4, hJQ, rfl⟩)
  · skip
    refine g_fc0 dX5_share_12 ?_
    refine g_pc (pc' := 13) rfl ?_
    exact g_fret dX5_share_13 (⟨fun q9 => by rw [q9] at h1; exact absurd h1 (by simp), hJ4, hJQ, rfl⟩)
