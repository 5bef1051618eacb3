/-! the law's body -/
def QLw (b : Nat) : List Frame → Array Value → State → State → Prop := fun below args s t => args = #[Value.ref b] → lw_Z below #[Value.ref b] s t
theorem g_lawend {l : Launch} {γ : Gm} {P : PT} {b Ln : Nat} {xs : Nat → Int32} {cells slots pc : Nat} {lv : List (Nat × Value)} {I : IT} {L : LT} (hc : cells ≤ 600104) (hs : slots ≤ 7301314) (hd : decode cL_law pc = .ok (.ireturn, 1)) : G (ELw b Ln xs) l cL_law 16 wsL_law RL (some .boolean) room_1 γ P ALw (QLw b) cells slots pc lv [.int 1] I L := by
  intro p e s m args below meth c K H locs ls hS hP hD hl
  by_cases ha : args = #[Value.ref b]
  · subst ha
    refine va_forget (fun q hq => hS.2.2 q hq) ?_
    refine W.widen (k := 600104) (n := 7301314) hc hs ?_
    intro T hT X
    obtain ⟨t, h1, h2⟩ := lw_ret (d0 := s.drawn) (Drawn.sameBut.refl s.drawn lw_cs) K.1.1 K.1.2.1 K.2.2.2.1 K.2.2.2.2.1 (b := b) (l := l) hd (below := below) (ls := ls) (H := H) T hT X
    exact ⟨t, h1, fun _ => h2⟩
  · intro T hT X
    exact ⟨_, Steps.refl _, fun h => absurd h ha⟩
theorem m10 {x y : Nat} (hx : x < 4) (hy : y < 4) : 10 * x + y < 100 ∧ (10 * x + y) / 10 ≤ 3 ∧ (10 * x + y) % 10 ≤ 3 := by omega
theorem sen_none {g : GR} {r n m k : Nat} (h : bc (fun j => isS g r (dig n m j) m) (n ^ m) ≤ k) : sen g r n m k = -1 := by
  unfold sen
  rw [kfs_none.mpr h]
theorem sen_some {g : GR} {r n m : Nat} (h : 0 < bc (fun j => isS g r (dig n m j) m) (n ^ m)) : ∃ j, sen g r n m (bc (fun j => isS g r (dig n m j) m) (n ^ m) - 1) = nI (tdig (dig n m j) m) ∧ isS g r (dig n m j) m = true := by
  unfold sen
  cases h9 : kfs (fun j => isS g r (dig n m j) m) (n ^ m) 0 (bc (fun j => isS g r (dig n m j) m) (n ^ m) - 1) with
  | none =>
    have := kfs_none.mp h9
    omega
  | some j => exact ⟨j, rfl, (kfs_ok h9).2.2⟩
theorem shr_eq {g : GR} {r n m M A : Nat} (hn : 0 < n) (hM : bc (fun j => isS g r (dig n m j) m) (n ^ m) = M) (hA : n ^ m = A) : shr g r n m = FP.fdiv (FP.i2f (nI M)) (FP.i2f (nI A)) := by
  unfold shr
  rw [if_neg (by omega), hM, hA]
/-- on to the next int; on to the looks behind a call -/
abbrev N22 (l : Launch) (γ : Gm) (b Ln : Nat) (xs : Nat → Int32) (i N : Nat) : Prop := ∀ (g : GR) (n r9 q : Nat) (u : Nat → Nat) (I : IT) (L : LT) (P : PT) (cells slots : Nat), GW I g n r9 q u → n ≤ 5 → cells + 40 * N ≤ 600104 → slots + 240 * N ≤ 7301314 → G (ELw b Ln xs) l cL_law 16 wsL_law RL (some .boolean) room_1 γ P ALw (QLw b) cells slots 22 [(0, .ref b), (1, .ref (γ.2.2 0)), (2, .int (nI n)), (3, .int (nI r9)), (4, .int (nI 1)), (5, .int (nI i))] [] I L
abbrev N685 (l : Launch) (γ : Gm) (b Ln : Nat) (xs : Nat → Int32) (i N z : Nat) : Prop := ∀ (g : GR) (n r9 q : Nat) (u : Nat → Nat) (I : IT) (L : LT) (P : PT) (cells slots : Nat), GW I g n r9 q u → n ≤ 5 → cells + 30 + 40 * N ≤ 600104 → slots + 180 + 240 * N ≤ 7301314 → G (ELw b Ln xs) l cL_law 16 wsL_law RL (some .boolean) room_1 γ P ALw (QLw b) cells slots 685 [(0, .ref b), (1, .ref (γ.2.2 0)), (2, .int (nI n)), (3, .int (nI r9)), (4, .int (nI 1)), (5, .int (nI i)), (7, .int (nI z))] [] I L

set_option maxRecDepth 100000 in
set_option maxHeartbeats 4000000 in
theorem k_tail (l : Launch) (hl0 : l.stackTraces = false) (γ : Gm) (b Ln : Nat) (xs : Nat → Int32) (i N z : Nat) (hi : i < 30) (hz : z < 2 ^ 27) (nx : N22 l γ b Ln xs (i + 1) N) : N685 l γ b Ln xs i N z := by
  intro g n r9 q u I L P cells slots hG hn5 hc hs
  have hq6 := hG.2.2.1
  have hr8 := hG.1.r_le
  refine g_il 4 dL_law_685 rfl ?_
  refine gz_eq (tgt := 719) dL_law_687 (by decide) (by omega) (fun h_1 => ?_) (fun h_1 => ?_)
  · skip
    exfalso; omega
  · skip
    refine g_al_n 1 dL_law_690 rfl ?_
    refine g_il 6 dL_law_691 rfl ?_
    refine g_ck (mc := 18) (ms := 108) (st := []) (As := [.ref (γ.2.2 0), .int (nI z)]) (d := 8) (c_L_reads l hl0 γ I L P g n r9 q u hG z (by omega)) gL_law_L_reads rfl ⟨by decide, by decide, rfl⟩ ⟨Nat.le_of_ble_eq_true rfl, Nat.le_of_ble_eq_true rfl⟩ rfl (Nat.le_of_ble_eq_true rfl) dL_law_693 ⟨by show _ ≤ 600104; omega, by show _ ≤ 7301314; omega⟩ ?_
    rintro r1 J1 L1 ⟨er1, hG1, eL1⟩
    rw [er1, eL1]
    refine gz_eq (tgt := 719) dL_law_696 (by decide) (by omega) (fun h_2 => ?_) (fun h_2 => ?_)
    · skip
      exfalso; omega
    · skip
      refine g_il 5 dL_law_699 rfl ?_
      refine g_pc (pc' := 701) rfl ?_
      refine g_ic (v := nI 3) dL_law_701 (by decide) ?_
      refine g_irem (v := nI (i % 3)) dL_law_702 (by decide) (pk_rem (by omega) (by omega) (by omega)) ?_
      refine gz_gt (tgt := 715) dL_law_703 (by decide) (by omega) (fun h3 => ?_) (fun h3 => ?_)
      · skip
        refine g_ic (v := nI 1) dL_law_715 (by decide) ?_
        refine g_goto (tgt := 720) dL_law_716 (by decide) ?_
        refine g_is (lv' := [(4, .int (nI 1)), (0, .ref b), (1, .ref (γ.2.2 0)), (2, .int (nI n)), (3, .int (nI r9)), (5, .int (nI i)), (7, .int (nI z))]) dL_law_720 (by decide) rfl ?_
        refine g_inc (v := nI (i + 1)) (lv' := [(5, .int (nI (i + 1))), (4, .int (nI 1)), (0, .ref b), (1, .ref (γ.2.2 0)), (2, .int (nI n)), (3, .int (nI r9)), (7, .int (nI z))]) 5 dL_law_722 rfl (inc_1 _) (by decide) rfl ?_
        refine g_goto (tgt := 22) dL_law_725 (by decide) ?_
        refine g_sub [2, 3, 4, 5, 1, 0] rfl ?_
        exact nx g n r9 q u J1 L P _ _ hG1 hn5 (by omega) (by omega)
      · skip
        refine g_pc (pc' := 706) rfl ?_
        refine g_al_n 1 dL_law_706 rfl ?_
        refine g_il 6 dL_law_707 rfl ?_
        refine g_ck (mc := 8) (ms := 48) (st := []) (As := [.ref (γ.2.2 0), .int (nI z)]) (d := 8) (c_L_corrects l hl0 γ J1 L P g n r9 q u hG1 z (by omega)) gL_law_L_corrects rfl ⟨by decide, by decide, rfl⟩ ⟨Nat.le_of_ble_eq_true rfl, Nat.le_of_ble_eq_true rfl⟩ rfl (Nat.le_of_ble_eq_true rfl) dL_law_709 ⟨by show _ ≤ 600104; omega, by show _ ≤ 7301314; omega⟩ ?_
        rintro r2 J2 L2 ⟨er2, hG2, eL2⟩
        rw [er2, eL2]
        refine gz_eq (tgt := 719) dL_law_712 (by decide) (by omega) (fun h_3 => ?_) (fun h_3 => ?_)
        · skip
          exfalso; omega
        · skip
          refine g_ic (v := nI 1) dL_law_715 (by decide) ?_
          refine g_goto (tgt := 720) dL_law_716 (by decide) ?_
          refine g_is (lv' := [(4, .int (nI 1)), (0, .ref b), (1, .ref (γ.2.2 0)), (2, .int (nI n)), (3, .int (nI r9)), (5, .int (nI i)), (7, .int (nI z))]) dL_law_720 (by decide) rfl ?_
          refine g_inc (v := nI (i + 1)) (lv' := [(5, .int (nI (i + 1))), (4, .int (nI 1)), (0, .ref b), (1, .ref (γ.2.2 0)), (2, .int (nI n)), (3, .int (nI r9)), (7, .int (nI z))]) 5 dL_law_722 rfl (inc_1 _) (by decide) rfl ?_
          refine g_pc (pc' := 725) rfl ?_
          refine g_goto (tgt := 22) dL_law_725 (by decide) ?_
          refine g_sub [2, 3, 4, 5, 1, 0] rfl ?_
          exact nx g n r9 q u J2 L P _ _ hG2 hn5 (by omega) (by omega)

set_option maxRecDepth 100000 in
set_option maxHeartbeats 4000000 in
theorem k_word (l : Launch) (hl0 : l.stackTraces = false) (γ : Gm) (b Ln : Nat) (xs : Nat → Int32) (i N z : Nat) (hi : i < 30) (hz : z < 2 ^ 27) (k685 : N685 l γ b Ln xs i N z) (g : GR) (n r9 q : Nat) (u : Nat → Nat) (I : IT) (L : LT) (P : PT) (cells slots : Nat) (hG : GW I g n r9 q u) (hn5 : n ≤ 5) (hc : cells + 40 + 40 * N ≤ 600104) (hs : slots + 240 + 240 * N ≤ 7301314) (hn : n < 5) : G (ELw b Ln xs) l cL_law 16 wsL_law RL (some .boolean) room_1 γ P ALw (QLw b) cells slots 77 [(0, .ref b), (1, .ref (γ.2.2 0)), (2, .int (nI n)), (3, .int (nI r9)), (4, .int (nI 1)), (5, .int (nI i)), (7, .int (nI z)), (9, .int (nI q))] [] I L := by
  have hq6 := hG.2.2.1
  have hr8 := hG.1.r_le
  refine g_al_n 1 dL_law_77 rfl ?_
  refine g_il 6 dL_law_78 rfl ?_
  refine g_ic (v := nI 3) dL_law_80 (by decide) ?_
  refine g_irem (v := nI (z % 3)) dL_law_81 (by decide) (pk_rem (by omega) (by omega) (by omega)) ?_
  refine g_il 6 dL_law_82 rfl ?_
  refine g_ic (v := nI 3) dL_law_84 (by decide) ?_
  refine g_idiv (v := nI (z / 3)) dL_law_85 (by decide) (pk_div (by omega) (by omega) (by omega)) ?_
  refine g_pc (pc' := 86) rfl ?_
  refine g_ic (v := nI 4) dL_law_86 (by decide) ?_
  refine g_irem (v := nI ((z / 3) % 4)) dL_law_87 (by decide) (pk_rem (by omega) (by omega) (by omega)) ?_
  refine g_il 6 dL_law_88 rfl ?_
  refine g_bi (v := nI 12) dL_law_90 (by decide) ?_
  refine g_idiv (v := nI (z / 12)) dL_law_92 (by decide) (pk_div (by omega) (by omega) (by omega)) ?_
  refine g_ic (v := nI 4) dL_law_93 (by decide) ?_
  refine g_irem (v := nI ((z / 12) % 4)) dL_law_94 (by decide) (pk_rem (by omega) (by omega) (by omega)) ?_
  refine g_cl (mc := 1) (ms := 6) (st := []) (As := [.ref (γ.2.2 0), .int (nI (z % 3)), .int (nI ((z / 3) % 4)), .int (nI ((z / 12) % 4))]) (d := 2) (c_L_word l hl0 γ I L P g n r9 q u hG (z % 3) (z / 3 % 4) (z / 12 % 4) (by omega) (by omega) (by omega) (by omega)) gL_law_L_word rfl ⟨by decide, by decide, rfl⟩ ⟨Nat.le_of_ble_eq_true rfl, Nat.le_of_ble_eq_true rfl⟩ rfl (Nat.le_of_ble_eq_true rfl) dL_law_95 ⟨by show _ ≤ 600104; omega, by show _ ≤ 7301314; omega⟩ ?_
  rintro r1 J1 L1 ⟨er1, hG1, eL1⟩
  rw [er1, eL1]
  refine g_pc (pc' := 98) rfl ?_
  refine g_il_n 2 dL_law_98 rfl ?_
  refine gn_ne (tgt := 106) dL_law_99 (by decide) (by omega) (by omega) (fun h_1 => ?_) (fun h_1 => ?_)
  · skip
    exfalso; omega
  · skip
    refine g_ic (v := nI 1) dL_law_102 (by decide) ?_
    refine g_goto (tgt := 107) dL_law_103 (by decide) ?_
    refine g_is (lv' := [(4, .int (nI 1)), (0, .ref b), (1, .ref (γ.2.2 0)), (2, .int (nI n)), (3, .int (nI r9)), (5, .int (nI i)), (7, .int (nI z)), (9, .int (nI q))]) dL_law_107 (by decide) rfl ?_
    refine g_inc (v := nI (n + 1)) (lv' := [(2, .int (nI (n + 1))), (4, .int (nI 1)), (0, .ref b), (1, .ref (γ.2.2 0)), (3, .int (nI r9)), (5, .int (nI i)), (7, .int (nI z)), (9, .int (nI q))]) 3 dL_law_109 rfl (inc_1 _) (by decide) rfl ?_
    refine g_goto (tgt := 685) dL_law_112 (by decide) ?_
    refine g_sub [2, 3, 0, 4, 1, 5, 6] rfl ?_
    exact k685 _ _ _ _ _ J1 L P _ _ hG1 (by omega) (by omega) (by omega)

set_option maxRecDepth 100000 in
set_option maxHeartbeats 4000000 in
theorem k_rule (l : Launch) (hl0 : l.stackTraces = false) (γ : Gm) (b Ln : Nat) (xs : Nat → Int32) (i N z : Nat) (hi : i < 30) (hz : z < 2 ^ 27) (k685 : N685 l γ b Ln xs i N z) (g : GR) (n r9 q : Nat) (u : Nat → Nat) (I : IT) (L : LT) (P : PT) (cells slots : Nat) (hG : GW I g n r9 q u) (hn5 : n ≤ 5) (hc : cells + 40 + 40 * N ≤ 600104) (hs : slots + 240 + 240 * N ≤ 7301314)  : G (ELw b Ln xs) l cL_law 16 wsL_law RL (some .boolean) room_1 γ P ALw (QLw b) cells slots 122 [(0, .ref b), (1, .ref (γ.2.2 0)), (2, .int (nI n)), (3, .int (nI r9)), (4, .int (nI 1)), (5, .int (nI i)), (7, .int (nI z)), (9, .int (nI q))] [] I L := by
  have hq6 := hG.2.2.1
  have hr8 := hG.1.r_le
  have hx4 : z / 27 % 4 < 4 := by omega
  have hy4 : z / 108 % 4 < 4 := by omega
  refine g_al_n 1 dL_law_122 rfl ?_
  refine g_il 6 dL_law_123 rfl ?_
  refine g_ic (v := nI 3) dL_law_125 (by decide) ?_
  refine g_irem (v := nI (z % 3)) dL_law_126 (by decide) (pk_rem (by omega) (by omega) (by omega)) ?_
  refine g_il 6 dL_law_127 rfl ?_
  refine g_ic (v := nI 3) dL_law_129 (by decide) ?_
  refine g_idiv (v := nI (z / 3)) dL_law_130 (by decide) (pk_div (by omega) (by omega) (by omega)) ?_
  refine g_pc (pc' := 131) rfl ?_
  refine g_ic (v := nI 3) dL_law_131 (by decide) ?_
  refine g_irem (v := nI ((z / 3) % 3)) dL_law_132 (by decide) (pk_rem (by omega) (by omega) (by omega)) ?_
  refine g_il 6 dL_law_133 rfl ?_
  refine g_bi (v := nI 9) dL_law_135 (by decide) ?_
  refine g_idiv (v := nI (z / 9)) dL_law_137 (by decide) (pk_div (by omega) (by omega) (by omega)) ?_
  refine g_ic (v := nI 3) dL_law_138 (by decide) ?_
  refine g_irem (v := nI ((z / 9) % 3)) dL_law_139 (by decide) (pk_rem (by omega) (by omega) (by omega)) ?_
  refine g_bi (v := nI 10) dL_law_140 (by decide) ?_
  refine g_pc (pc' := 142) rfl ?_
  refine g_il 6 dL_law_142 rfl ?_
  refine g_bi (v := nI 27) dL_law_144 (by decide) ?_
  refine g_idiv (v := nI (z / 27)) dL_law_146 (by decide) (pk_div (by omega) (by omega) (by omega)) ?_
  refine g_ic (v := nI 4) dL_law_147 (by decide) ?_
  refine g_irem (v := nI ((z / 27) % 4)) dL_law_148 (by decide) (pk_rem (by omega) (by omega) (by omega)) ?_
  refine g_imul (v := nI (10 * ((z / 27) % 4))) dL_law_149 (pk_mul _ _) ?_
  refine g_il 6 dL_law_150 rfl ?_
  refine g_bi (v := nI 108) dL_law_152 (by decide) ?_
  refine g_pc (pc' := 154) rfl ?_
  refine g_idiv (v := nI (z / 108)) dL_law_154 (by decide) (pk_div (by omega) (by omega) (by omega)) ?_
  refine g_ic (v := nI 4) dL_law_155 (by decide) ?_
  refine g_irem (v := nI ((z / 108) % 4)) dL_law_156 (by decide) (pk_rem (by omega) (by omega) (by omega)) ?_
  refine g_iadd (v := nI (10 * ((z / 27) % 4) + ((z / 108) % 4))) dL_law_157 (nI_add _ _) ?_
  refine g_cl (mc := 1) (ms := 6) (st := []) (As := [.ref (γ.2.2 0), .int (nI (z % 3)), .int (nI ((z / 3) % 3)), .int (nI ((z / 9) % 3)), .int (nI (10 * ((z / 27) % 4) + ((z / 108) % 4)))]) (d := 4) (c_L_rule l hl0 γ I L P g n r9 q u hG (z % 3) (z / 3 % 3) (z / 9 % 3) (10 * (z / 27 % 4) + z / 108 % 4) (by omega) (by omega) (by omega) (m10 hx4 hy4).1 (m10 hx4 hy4).2.1 (m10 hx4 hy4).2.2) gL_law_L_rule rfl ⟨by decide, by decide, rfl⟩ ⟨Nat.le_of_ble_eq_true rfl, Nat.le_of_ble_eq_true rfl⟩ rfl (Nat.le_of_ble_eq_true rfl) dL_law_158 ⟨by show _ ≤ 600104; omega, by show _ ≤ 7301314; omega⟩ ?_
  rintro r1 J1 L1 ⟨er1, hG1, eL1⟩
  rw [er1, eL1]
  by_cases h8 : r9 < 8
  · rw [if_pos h8, if_pos h8] at hG1
    rw [if_pos h8]
    refine g_il_n 3 dL_law_161 rfl ?_
    refine g_bi (v := nI 8) dL_law_162 (by decide) ?_
    refine gn_ge (tgt := 171) dL_law_164 (by decide) (by omega) (by omega) (fun h_1 => ?_) (fun h_1 => ?_)
    · skip
      exfalso; omega
    · skip
      refine g_il_n 3 dL_law_167 rfl ?_
      refine g_goto (tgt := 173) dL_law_168 (by decide) ?_
      refine gn_ne (tgt := 180) dL_law_173 (by decide) (by omega) (by omega) (fun h_2 => ?_) (fun h_2 => ?_)
      · skip
        exfalso; omega
      · skip
        refine g_ic (v := nI 1) dL_law_176 (by decide) ?_
        refine g_pc (pc' := 177) rfl ?_
        refine g_goto (tgt := 181) dL_law_177 (by decide) ?_
        refine g_is (lv' := [(4, .int (nI 1)), (0, .ref b), (1, .ref (γ.2.2 0)), (2, .int (nI n)), (3, .int (nI r9)), (5, .int (nI i)), (7, .int (nI z)), (9, .int (nI q))]) dL_law_181 (by decide) rfl ?_
        refine g_il_n 4 dL_law_183 rfl ?_
        refine g_il_n 4 dL_law_184 rfl ?_
        refine g_bi (v := nI 8) dL_law_185 (by decide) ?_
        refine gn_ge (tgt := 194) dL_law_187 (by decide) (by omega) (by omega) (fun h_3 => ?_) (fun h_3 => ?_)
        · skip
          exfalso; omega
        · skip
          refine g_ic (v := nI 1) dL_law_190 (by decide) ?_
          refine g_goto (tgt := 195) dL_law_191 (by decide) ?_
          refine g_pc (pc' := 195) rfl ?_
          refine g_iadd (v := nI (r9 + 1)) dL_law_195 (nI_add _ _) ?_
          refine g_is_n (lv' := [(3, .int (nI (r9 + 1))), (4, .int (nI 1)), (0, .ref b), (1, .ref (γ.2.2 0)), (2, .int (nI n)), (5, .int (nI i)), (7, .int (nI z)), (9, .int (nI q))]) dL_law_196 (by decide) rfl ?_
          refine g_goto (tgt := 685) dL_law_197 (by decide) ?_
          refine g_sub [2, 3, 4, 0, 1, 5, 6] rfl ?_
          exact k685 _ _ _ _ _ J1 L P _ _ hG1 (by omega) (by omega) (by omega)
  · rw [if_neg h8, if_neg h8] at hG1
    rw [if_neg h8]
    refine g_il_n 3 dL_law_161 rfl ?_
    refine g_bi (v := nI 8) dL_law_162 (by decide) ?_
    refine gn_ge (tgt := 171) dL_law_164 (by decide) (by omega) (by omega) (fun h_1 => ?_) (fun h_1 => ?_)
    · skip
      refine g_bi (v := (-103 : Int32)) dL_law_171 (by decide) ?_
      refine g_ic_ne (tgt := 180) dL_law_173 (by decide) (fun h_2 => ?_) (fun h_2 => ?_)
      · skip
        exact absurd rfl h_2
      · skip
        refine g_ic (v := nI 1) dL_law_176 (by decide) ?_
        refine g_goto (tgt := 181) dL_law_177 (by decide) ?_
        refine g_pc (pc' := 181) rfl ?_
        refine g_is (lv' := [(4, .int (nI 1)), (0, .ref b), (1, .ref (γ.2.2 0)), (2, .int (nI n)), (3, .int (nI r9)), (5, .int (nI i)), (7, .int (nI z)), (9, .int (nI q))]) dL_law_181 (by decide) rfl ?_
        refine g_il_n 4 dL_law_183 rfl ?_
        refine g_il_n 4 dL_law_184 rfl ?_
        refine g_bi (v := nI 8) dL_law_185 (by decide) ?_
        refine gn_ge (tgt := 194) dL_law_187 (by decide) (by omega) (by omega) (fun h_3 => ?_) (fun h_3 => ?_)
        · skip
          refine g_ic (v := nI 0) dL_law_194 (by decide) ?_
          refine g_iadd (v := nI r9) dL_law_195 (nI_add _ _) ?_
          refine g_is_n (lv' := [(3, .int (nI r9)), (4, .int (nI 1)), (0, .ref b), (1, .ref (γ.2.2 0)), (2, .int (nI n)), (5, .int (nI i)), (7, .int (nI z)), (9, .int (nI q))]) dL_law_196 (by decide) rfl ?_
          refine g_pc (pc' := 197) rfl ?_
          refine g_goto (tgt := 685) dL_law_197 (by decide) ?_
          refine g_sub [2, 3, 4, 0, 1, 5, 6] rfl ?_
          exact k685 _ _ _ _ _ J1 L P _ _ hG1 (by omega) (by omega) (by omega)
        · skip
          exfalso; omega
    · skip
      exfalso; omega

set_option maxRecDepth 100000 in
set_option maxHeartbeats 4000000 in
theorem k_drop (l : Launch) (hl0 : l.stackTraces = false) (γ : Gm) (b Ln : Nat) (xs : Nat → Int32) (i N z : Nat) (hi : i < 30) (hz : z < 2 ^ 27) (k685 : N685 l γ b Ln xs i N z) (g : GR) (n r9 q : Nat) (u : Nat → Nat) (I : IT) (L : LT) (P : PT) (cells slots : Nat) (hG : GW I g n r9 q u) (hn5 : n ≤ 5) (hc : cells + 40 + 40 * N ≤ 600104) (hs : slots + 240 + 240 * N ≤ 7301314)  : G (ELw b Ln xs) l cL_law 16 wsL_law RL (some .boolean) room_1 γ P ALw (QLw b) cells slots 207 [(0, .ref b), (1, .ref (γ.2.2 0)), (2, .int (nI n)), (3, .int (nI r9)), (4, .int (nI 1)), (5, .int (nI i)), (7, .int (nI z)), (9, .int (nI q))] [] I L := by
  have hq6 := hG.2.2.1
  have hr8 := hG.1.r_le
  refine g_al_n 1 dL_law_207 rfl ?_
  refine g_cl (mc := 1) (ms := 6) (st := []) (As := [.ref (γ.2.2 0)]) (d := 2) (c_L_drop l hl0 γ I L P g n r9 q u hG) gL_law_L_drop rfl ⟨by decide, by decide, rfl⟩ ⟨Nat.le_of_ble_eq_true rfl, Nat.le_of_ble_eq_true rfl⟩ rfl (Nat.le_of_ble_eq_true rfl) dL_law_208 ⟨by show _ ≤ 600104; omega, by show _ ≤ 7301314; omega⟩ ?_
  rintro r1 J1 L1 ⟨er1, hG1, eL1⟩
  rw [er1, eL1]
  by_cases h8 : 0 < r9
  · rw [if_pos h8]
    refine g_il_n 3 dL_law_211 rfl ?_
    refine gz_ne (tgt := 220) dL_law_212 (by decide) (by omega) (fun h_1 => ?_) (fun h_1 => ?_)
    · skip
      refine g_il_n 3 dL_law_220 rfl ?_
      refine g_ic (v := nI 1) dL_law_221 (by decide) ?_
      refine g_isub (v := nI (r9 - 1)) dL_law_222 (pk_sub (by omega)) ?_
      refine gn_ne (tgt := 230) dL_law_223 (by decide) (by omega) (by omega) (fun h_2 => ?_) (fun h_2 => ?_)
      · skip
        exfalso; omega
      · skip
        refine g_ic (v := nI 1) dL_law_226 (by decide) ?_
        refine g_pc (pc' := 227) rfl ?_
        refine g_goto (tgt := 231) dL_law_227 (by decide) ?_
        refine g_is (lv' := [(4, .int (nI 1)), (0, .ref b), (1, .ref (γ.2.2 0)), (2, .int (nI n)), (3, .int (nI r9)), (5, .int (nI i)), (7, .int (nI z)), (9, .int (nI q))]) dL_law_231 (by decide) rfl ?_
        refine g_il_n 4 dL_law_233 rfl ?_
        refine g_il_n 4 dL_law_234 rfl ?_
        refine gz_ne (tgt := 242) dL_law_235 (by decide) (by omega) (fun h_3 => ?_) (fun h_3 => ?_)
        · skip
          refine g_ic (v := nI 1) dL_law_242 (by decide) ?_
          refine g_isub (v := nI (r9 - 1)) dL_law_243 ((pk_sub (by omega)).trans (congrArg nI (by omega))) ?_
          refine g_is_n (lv' := [(3, .int (nI (r9 - 1))), (4, .int (nI 1)), (0, .ref b), (1, .ref (γ.2.2 0)), (2, .int (nI n)), (5, .int (nI i)), (7, .int (nI z)), (9, .int (nI q))]) dL_law_244 (by decide) rfl ?_
          refine g_pc (pc' := 245) rfl ?_
          refine g_goto (tgt := 685) dL_law_245 (by decide) ?_
          refine g_sub [2, 3, 4, 0, 1, 5, 6] rfl ?_
          exact k685 _ _ _ _ _ J1 L P _ _ hG1 (by omega) (by omega) (by omega)
        · skip
          exfalso; omega
    · skip
      exfalso; omega
  · rw [if_neg h8]
    refine g_il_n 3 dL_law_211 rfl ?_
    refine gz_ne (tgt := 220) dL_law_212 (by decide) (by omega) (fun h_1 => ?_) (fun h_1 => ?_)
    · skip
      exfalso; omega
    · skip
      refine g_bi (v := (-103 : Int32)) dL_law_215 (by decide) ?_
      refine g_goto (tgt := 223) dL_law_217 (by decide) ?_
      refine g_ic_ne (tgt := 230) dL_law_223 (by decide) (fun h_2 => ?_) (fun h_2 => ?_)
      · skip
        exact absurd rfl h_2
      · skip
        refine g_ic (v := nI 1) dL_law_226 (by decide) ?_
        refine g_goto (tgt := 231) dL_law_227 (by decide) ?_
        refine g_pc (pc' := 231) rfl ?_
        refine g_is (lv' := [(4, .int (nI 1)), (0, .ref b), (1, .ref (γ.2.2 0)), (2, .int (nI n)), (3, .int (nI r9)), (5, .int (nI i)), (7, .int (nI z)), (9, .int (nI q))]) dL_law_231 (by decide) rfl ?_
        refine g_il_n 4 dL_law_233 rfl ?_
        refine g_il_n 4 dL_law_234 rfl ?_
        refine gz_ne (tgt := 242) dL_law_235 (by decide) (by omega) (fun h_3 => ?_) (fun h_3 => ?_)
        · skip
          exfalso; omega
        · skip
          refine g_ic (v := nI 0) dL_law_238 (by decide) ?_
          refine g_goto (tgt := 243) dL_law_239 (by decide) ?_
          refine g_isub (v := nI (r9 - 1)) dL_law_243 ((pk_sub (by omega)).trans (congrArg nI (by omega))) ?_
          refine g_is_n (lv' := [(3, .int (nI (r9 - 1))), (4, .int (nI 1)), (0, .ref b), (1, .ref (γ.2.2 0)), (2, .int (nI n)), (5, .int (nI i)), (7, .int (nI z)), (9, .int (nI q))]) dL_law_244 (by decide) rfl ?_
          refine g_pc (pc' := 245) rfl ?_
          refine g_goto (tgt := 685) dL_law_245 (by decide) ?_
          refine g_sub [2, 3, 4, 0, 1, 5, 6] rfl ?_
          exact k685 _ _ _ _ _ J1 L P _ _ hG1 (by omega) (by omega) (by omega)

set_option maxRecDepth 100000 in
set_option maxHeartbeats 4000000 in
theorem k_setWord (l : Launch) (hl0 : l.stackTraces = false) (γ : Gm) (b Ln : Nat) (xs : Nat → Int32) (i N z : Nat) (hi : i < 30) (hz : z < 2 ^ 27) (k685 : N685 l γ b Ln xs i N z) (g : GR) (n r9 q : Nat) (u : Nat → Nat) (I : IT) (L : LT) (P : PT) (cells slots : Nat) (hG : GW I g n r9 q u) (hn5 : n ≤ 5) (hc : cells + 40 + 40 * N ≤ 600104) (hs : slots + 240 + 240 * N ≤ 7301314) (hn0 : 0 < n) : G (ELw b Ln xs) l cL_law 16 wsL_law RL (some .boolean) room_1 γ P ALw (QLw b) cells slots 255 [(0, .ref b), (1, .ref (γ.2.2 0)), (2, .int (nI n)), (3, .int (nI r9)), (4, .int (nI 1)), (5, .int (nI i)), (7, .int (nI z)), (9, .int (nI q))] [] I L := by
  have hq6 := hG.2.2.1
  have hr8 := hG.1.r_le
  have hzn := Nat.mod_lt z hn0
  have hcat := hG.1.cat_lt hzn
  refine g_al_n 1 dL_law_255 rfl ?_
  refine g_il 6 dL_law_256 rfl ?_
  refine g_il_n 2 dL_law_258 rfl ?_
  refine g_irem (v := nI (z % n)) dL_law_259 (nI_nz (by omega) (by omega)) (pk_rem (by omega) (by omega) (by omega)) ?_
  refine g_il 6 dL_law_260 rfl ?_
  refine g_ic (v := nI 5) dL_law_262 (by decide) ?_
  refine g_idiv (v := nI (z / 5)) dL_law_263 (by decide) (pk_div (by omega) (by omega) (by omega)) ?_
  refine g_pc (pc' := 264) rfl ?_
  refine g_ic (v := nI 3) dL_law_264 (by decide) ?_
  refine g_irem (v := nI ((z / 5) % 3)) dL_law_265 (by decide) (pk_rem (by omega) (by omega) (by omega)) ?_
  refine g_il 6 dL_law_266 rfl ?_
  refine g_bi (v := nI 15) dL_law_268 (by decide) ?_
  refine g_idiv (v := nI (z / 15)) dL_law_270 (by decide) (pk_div (by omega) (by omega) (by omega)) ?_
  refine g_ic (v := nI 4) dL_law_271 (by decide) ?_
  refine g_irem (v := nI ((z / 15) % 4)) dL_law_272 (by decide) (pk_rem (by omega) (by omega) (by omega)) ?_
  refine g_il 6 dL_law_273 rfl ?_
  refine g_pc (pc' := 275) rfl ?_
  refine g_bi (v := nI 60) dL_law_275 (by decide) ?_
  refine g_idiv (v := nI (z / 60)) dL_law_277 (by decide) (pk_div (by omega) (by omega) (by omega)) ?_
  refine g_ic (v := nI 4) dL_law_278 (by decide) ?_
  refine g_irem (v := nI ((z / 60) % 4)) dL_law_279 (by decide) (pk_rem (by omega) (by omega) (by omega)) ?_
  refine g_cl (mc := 1) (ms := 6) (st := []) (As := [.ref (γ.2.2 0), .int (nI (z % n)), .int (nI ((z / 5) % 3)), .int (nI ((z / 15) % 4)), .int (nI ((z / 60) % 4))]) (d := 2) (c_L_setWord l hl0 γ I L P g n r9 q u hG (z % n) (z / 5 % 3) (z / 15 % 4) (z / 60 % 4) hzn (by omega) (by omega) (by omega)) gL_law_L_setWord rfl ⟨by decide, by decide, rfl⟩ ⟨Nat.le_of_ble_eq_true rfl, Nat.le_of_ble_eq_true rfl⟩ rfl (Nat.le_of_ble_eq_true rfl) dL_law_280 ⟨by show _ ≤ 600104; omega, by show _ ≤ 7301314; omega⟩ ?_
  rintro r1 J1 L1 ⟨er1, hG1, eL1⟩
  rw [er1, eL1]
  refine gz_lt (tgt := 290) dL_law_283 (by decide) (by omega) (fun h_1 => ?_) (fun h_1 => ?_)
  · skip
    exact h_1.elim
  · skip
    refine g_ic (v := nI 1) dL_law_286 (by decide) ?_
    refine g_goto (tgt := 291) dL_law_287 (by decide) ?_
    refine g_pc (pc' := 291) rfl ?_
    refine g_is (lv' := [(4, .int (nI 1)), (0, .ref b), (1, .ref (γ.2.2 0)), (2, .int (nI n)), (3, .int (nI r9)), (5, .int (nI i)), (7, .int (nI z)), (9, .int (nI q))]) dL_law_291 (by decide) rfl ?_
    refine g_goto (tgt := 685) dL_law_293 (by decide) ?_
    refine g_sub [1, 2, 3, 4, 0, 5, 6] rfl ?_
    exact k685 _ _ _ _ _ J1 L P _ _ hG1 (by omega) (by omega) (by omega)

set_option maxRecDepth 100000 in
set_option maxHeartbeats 4000000 in
theorem k_say (l : Launch) (hl0 : l.stackTraces = false) (γ : Gm) (b Ln : Nat) (xs : Nat → Int32) (i N z : Nat) (hi : i < 30) (hz : z < 2 ^ 27) (k685 : N685 l γ b Ln xs i N z) (g : GR) (n r9 q : Nat) (u : Nat → Nat) (I : IT) (L : LT) (P : PT) (cells slots : Nat) (hG : GW I g n r9 q u) (hn5 : n ≤ 5) (hc : cells + 40 + 40 * N ≤ 600104) (hs : slots + 240 + 240 * N ≤ 7301314) (hn0 : 0 < n) (hq5 : q < 5) : G (ELw b Ln xs) l cL_law 16 wsL_law RL (some .boolean) room_1 γ P ALw (QLw b) cells slots 309 [(0, .ref b), (1, .ref (γ.2.2 0)), (2, .int (nI n)), (3, .int (nI r9)), (4, .int (nI 1)), (5, .int (nI i)), (7, .int (nI z)), (9, .int (nI q))] [] I L := by
  have hq6 := hG.2.2.1
  have hr8 := hG.1.r_le
  have hzn := Nat.mod_lt z hn0
  refine g_al_n 1 dL_law_309 rfl ?_
  refine g_il 6 dL_law_310 rfl ?_
  refine g_il_n 2 dL_law_312 rfl ?_
  refine g_irem (v := nI (z % n)) dL_law_313 (nI_nz (by omega) (by omega)) (pk_rem (by omega) (by omega) (by omega)) ?_
  refine g_cl (mc := 1) (ms := 6) (st := []) (As := [.ref (γ.2.2 0), .int (nI (z % n))]) (d := 2) (c_L_say l hl0 γ I L P g n r9 q u hG (z % n) hzn (by omega)) gL_law_L_say rfl ⟨by decide, by decide, rfl⟩ ⟨Nat.le_of_ble_eq_true rfl, Nat.le_of_ble_eq_true rfl⟩ rfl (Nat.le_of_ble_eq_true rfl) dL_law_314 ⟨by show _ ≤ 600104; omega, by show _ ≤ 7301314; omega⟩ ?_
  rintro r1 J1 L1 ⟨er1, hG1, eL1⟩
  rw [er1, eL1]
  refine g_il 7 dL_law_317 rfl ?_
  refine g_ic (v := nI 1) dL_law_319 (by decide) ?_
  refine g_pc (pc' := 320) rfl ?_
  refine g_iadd (v := nI (q + 1)) dL_law_320 (nI_add _ _) ?_
  refine gn_ne (tgt := 341) dL_law_321 (by decide) (by omega) (by omega) (fun h_1 => ?_) (fun h_1 => ?_)
  · skip
    exfalso; omega
  · skip
    refine g_al_n 1 dL_law_324 rfl ?_
    refine g_il 7 dL_law_325 rfl ?_
    refine g_cl (mc := 1) (ms := 6) (st := []) (As := [.ref (γ.2.2 0), .int (nI q)]) (d := 2) (c_L_at l hl0 γ J1 L P g n r9 (q + 1) (ust u q (z % n)) hG1 q (by omega)) gL_law_L_at rfl ⟨by decide, by decide, rfl⟩ ⟨Nat.le_of_ble_eq_true rfl, Nat.le_of_ble_eq_true rfl⟩ rfl (Nat.le_of_ble_eq_true rfl) dL_law_327 ⟨by show _ ≤ 600104; omega, by show _ ≤ 7301314; omega⟩ ?_
    rintro r2 J2 L2 ⟨er2, hG2, eL2⟩
    rw [er2, ust_s, eL2]
    refine g_il 6 dL_law_330 rfl ?_
    refine g_il_n 2 dL_law_332 rfl ?_
    refine g_irem (v := nI (z % n)) dL_law_333 (nI_nz (by omega) (by omega)) (pk_rem (by omega) (by omega) (by omega)) ?_
    refine g_pc (pc' := 334) rfl ?_
    refine gn_ne (tgt := 341) dL_law_334 (by decide) (by omega) (by omega) (fun h_2 => ?_) (fun h_2 => ?_)
    · skip
      exfalso; omega
    · skip
      refine g_ic (v := nI 1) dL_law_337 (by decide) ?_
      refine g_goto (tgt := 342) dL_law_338 (by decide) ?_
      refine g_is (lv' := [(4, .int (nI 1)), (0, .ref b), (1, .ref (γ.2.2 0)), (2, .int (nI n)), (3, .int (nI r9)), (5, .int (nI i)), (7, .int (nI z)), (9, .int (nI q))]) dL_law_342 (by decide) rfl ?_
      refine g_goto (tgt := 685) dL_law_344 (by decide) ?_
      refine g_sub [1, 2, 3, 4, 0, 5, 6] rfl ?_
      exact k685 _ _ _ _ _ J2 L P _ _ hG2 (by omega) (by omega) (by omega)

set_option maxRecDepth 100000 in
set_option maxHeartbeats 4000000 in
theorem k_change (l : Launch) (hl0 : l.stackTraces = false) (γ : Gm) (b Ln : Nat) (xs : Nat → Int32) (i N z : Nat) (hi : i < 30) (hz : z < 2 ^ 27) (k685 : N685 l γ b Ln xs i N z) (g : GR) (n r9 q : Nat) (u : Nat → Nat) (I : IT) (L : LT) (P : PT) (cells slots : Nat) (hG : GW I g n r9 q u) (hn5 : n ≤ 5) (hc : cells + 40 + 40 * N ≤ 600104) (hs : slots + 240 + 240 * N ≤ 7301314) (hn0 : 0 < n) (hq0 : 0 < q) : G (ELw b Ln xs) l cL_law 16 wsL_law RL (some .boolean) room_1 γ P ALw (QLw b) cells slots 359 [(0, .ref b), (1, .ref (γ.2.2 0)), (2, .int (nI n)), (3, .int (nI r9)), (4, .int (nI 1)), (5, .int (nI i)), (7, .int (nI z)), (9, .int (nI q))] [] I L := by
  have hq6 := hG.2.2.1
  have hr8 := hG.1.r_le
  have hzq := Nat.mod_lt z hq0
  have hzn := Nat.mod_lt (z / 5) hn0
  have huz := (hG.2.2.2 (z % q) hzq).2
  refine g_al_n 1 dL_law_359 rfl ?_
  refine g_il 6 dL_law_360 rfl ?_
  refine g_il 7 dL_law_362 rfl ?_
  refine g_irem (v := nI (z % q)) dL_law_364 (nI_nz (by omega) (by omega)) (pk_rem (by omega) (by omega) (by omega)) ?_
  refine g_cl (mc := 1) (ms := 6) (st := []) (As := [.ref (γ.2.2 0), .int (nI (z % q))]) (d := 2) (c_L_at l hl0 γ I L P g n r9 q u hG (z % q) hzq) gL_law_L_at rfl ⟨by decide, by decide, rfl⟩ ⟨Nat.le_of_ble_eq_true rfl, Nat.le_of_ble_eq_true rfl⟩ rfl (Nat.le_of_ble_eq_true rfl) dL_law_365 ⟨by show _ ≤ 600104; omega, by show _ ≤ 7301314; omega⟩ ?_
  rintro r1 J1 L1 ⟨er1, hG1, eL1⟩
  rw [er1, eL1]
  refine g_is (lv' := [(10, .int (nI (u (z % q)))), (0, .ref b), (1, .ref (γ.2.2 0)), (2, .int (nI n)), (3, .int (nI r9)), (4, .int (nI 1)), (5, .int (nI i)), (7, .int (nI z)), (9, .int (nI q))]) dL_law_368 (by decide) rfl ?_
  refine g_al_n 2 dL_law_370 rfl ?_
  refine g_pc (pc' := 371) rfl ?_
  refine g_il 7 dL_law_371 rfl ?_
  refine g_il 8 dL_law_373 rfl ?_
  refine g_irem (v := nI (z % q)) dL_law_375 (nI_nz (by omega) (by omega)) (pk_rem (by omega) (by omega) (by omega)) ?_
  refine g_il 7 dL_law_376 rfl ?_
  refine g_ic (v := nI 5) dL_law_378 (by decide) ?_
  refine g_idiv (v := nI (z / 5)) dL_law_379 (by decide) (pk_div (by omega) (by omega) (by omega)) ?_
  refine g_il_n 3 dL_law_380 rfl ?_
  refine g_irem (v := nI (z / 5 % n)) dL_law_381 (nI_nz (by omega) (by omega)) (pk_rem (by omega) (by omega) (by omega)) ?_
  refine g_pc (pc' := 382) rfl ?_
  refine g_cl (mc := 1) (ms := 6) (st := []) (As := [.ref (γ.2.2 0), .int (nI (z % q)), .int (nI (z / 5 % n))]) (d := 2) (c_L_change l hl0 γ J1 L P g n r9 q u hG1 (z % q) (z / 5 % n) hzq hzn) gL_law_L_change rfl ⟨by decide, by decide, rfl⟩ ⟨Nat.le_of_ble_eq_true rfl, Nat.le_of_ble_eq_true rfl⟩ rfl (Nat.le_of_ble_eq_true rfl) dL_law_382 ⟨by show _ ≤ 600104; omega, by show _ ≤ 7301314; omega⟩ ?_
  rintro r2 J2 L2 ⟨er2, hG2, eL2⟩
  rw [er2, eL2]
  refine g_il 0 dL_law_385 rfl ?_
  refine gn_ne (tgt := 394) dL_law_387 (by decide) (by omega) (by omega) (fun h_1 => ?_) (fun h_1 => ?_)
  · skip
    exfalso; omega
  · skip
    refine g_ic (v := nI 1) dL_law_390 (by decide) ?_
    refine g_goto (tgt := 395) dL_law_391 (by decide) ?_
    refine g_is (lv' := [(4, .int (nI 1)), (10, .int (nI (u (z % q)))), (0, .ref b), (1, .ref (γ.2.2 0)), (2, .int (nI n)), (3, .int (nI r9)), (5, .int (nI i)), (7, .int (nI z)), (9, .int (nI q))]) dL_law_395 (by decide) rfl ?_
    refine g_goto (tgt := 685) dL_law_397 (by decide) ?_
    refine g_sub [2, 3, 4, 5, 0, 6, 7] rfl ?_
    exact k685 _ _ _ _ _ J2 L P _ _ hG2 (by omega) (by omega) (by omega)

set_option maxRecDepth 100000 in
set_option maxHeartbeats 4000000 in
theorem k_hush (l : Launch) (hl0 : l.stackTraces = false) (γ : Gm) (b Ln : Nat) (xs : Nat → Int32) (i N z : Nat) (hi : i < 30) (hz : z < 2 ^ 27) (k685 : N685 l γ b Ln xs i N z) (g : GR) (n r9 q : Nat) (u : Nat → Nat) (I : IT) (L : LT) (P : PT) (cells slots : Nat) (hG : GW I g n r9 q u) (hn5 : n ≤ 5) (hc : cells + 40 + 40 * N ≤ 600104) (hs : slots + 240 + 240 * N ≤ 7301314)  : G (ELw b Ln xs) l cL_law 16 wsL_law RL (some .boolean) room_1 γ P ALw (QLw b) cells slots 407 [(0, .ref b), (1, .ref (γ.2.2 0)), (2, .int (nI n)), (3, .int (nI r9)), (4, .int (nI 1)), (5, .int (nI i)), (7, .int (nI z)), (9, .int (nI q))] [] I L := by
  have hq6 := hG.2.2.1
  have hr8 := hG.1.r_le
  refine g_al_n 1 dL_law_407 rfl ?_
  refine g_ci (r_V (st := []) (As := []) (d := 0) 0 (by decide) rfl rfl (c_X4_hush l γ I L P g n r9 q u hG) gL_law_X4_hush rfl ⟨rfl, by decide, by decide, rfl⟩ ⟨Nat.le_of_ble_eq_true rfl, Nat.le_of_ble_eq_true rfl⟩ rfl (Nat.le_of_ble_eq_true rfl) dL_law_408 ⟨by show _ ≤ 600104; omega, by show _ ≤ 7301314; omega⟩) ?_
  rintro r1 J1 L1 ⟨er1, hG1, -, eL1⟩
  rw [er1, eL1]
  refine g_il 7 dL_law_411 rfl ?_
  refine gn_ne (tgt := 427) dL_law_413 (by decide) (by omega) (by omega) (fun h_1 => ?_) (fun h_1 => ?_)
  · skip
    exfalso; omega
  · skip
    refine g_al_n 1 dL_law_416 rfl ?_
    refine g_ci (r_V (st := []) (As := []) (d := 0) 0 (by decide) rfl rfl (c_X4_said l γ J1 L P g n r9 0 u hG1) gL_law_X4_said rfl ⟨rfl, by decide, by decide, rfl⟩ ⟨Nat.le_of_ble_eq_true rfl, Nat.le_of_ble_eq_true rfl⟩ rfl (Nat.le_of_ble_eq_true rfl) dL_law_417 ⟨by show _ ≤ 600104; omega, by show _ ≤ 7301314; omega⟩) ?_
    rintro r2 J2 L2 ⟨er2, hG2, -, eL2⟩
    rw [er2, eL2]
    refine gz_ne (tgt := 427) dL_law_420 (by decide) (by omega) (fun h_2 => ?_) (fun h_2 => ?_)
    · skip
      exfalso; omega
    · skip
      refine g_pc (pc' := 423) rfl ?_
      refine g_ic (v := nI 1) dL_law_423 (by decide) ?_
      refine g_goto (tgt := 428) dL_law_424 (by decide) ?_
      refine g_is (lv' := [(4, .int (nI 1)), (0, .ref b), (1, .ref (γ.2.2 0)), (2, .int (nI n)), (3, .int (nI r9)), (5, .int (nI i)), (7, .int (nI z)), (9, .int (nI q))]) dL_law_428 (by decide) rfl ?_
      refine g_goto (tgt := 685) dL_law_430 (by decide) ?_
      refine g_sub [1, 2, 3, 4, 0, 5, 6] rfl ?_
      exact k685 _ _ _ _ _ J2 L P _ _ hG2 (by omega) (by omega) (by omega)

set_option maxRecDepth 100000 in
set_option maxHeartbeats 4000000 in
theorem k_sent1 (l : Launch) (hl0 : l.stackTraces = false) (γ : Gm) (b Ln : Nat) (xs : Nat → Int32) (i N z : Nat) (hi : i < 30) (hz : z < 2 ^ 27) (k685 : N685 l γ b Ln xs i N z) (g : GR) (n r9 q : Nat) (u : Nat → Nat) (I : IT) (L : LT) (P : PT) (cells slots : Nat) (hG : GW I g n r9 q u) (hn5 : n ≤ 5) (hc : cells + 40 + 40 * N ≤ 600104) (hs : slots + 240 + 240 * N ≤ 7301314) (hn0 : 0 < n) : G (ELw b Ln xs) l cL_law 16 wsL_law RL (some .boolean) room_1 γ P ALw (QLw b) cells slots 441 [(0, .ref b), (1, .ref (γ.2.2 0)), (2, .int (nI n)), (3, .int (nI r9)), (4, .int (nI 1)), (5, .int (nI i)), (7, .int (nI z)), (9, .int (nI q)), (10, .int (nI 1))] [] I L := by
  have hq6 := hG.2.2.1
  have hr8 := hG.1.r_le
  have hA : n ^ 1 = n := (pow_3 n).1
  have hA0 : 0 < n := by rw [← hA]; exact Nat.pow_pos hn0
  have hA125 : n ≤ 125 := by rw [← hA]; exact Nat.le_trans (Nat.pow_le_pow_left hn5 1) (by decide)
  obtain ⟨Mn, hMn⟩ : ∃ Mn, Mn = bc (fun j => isS g r9 (dig n 1 j) 1) (n ^ 1) := ⟨_, rfl⟩
  have hMA : Mn ≤ n := Nat.le_trans (Nat.le_of_eq hMn) (Nat.le_trans (bc_le _ _) (Nat.le_of_eq hA))
  refine g_al_n 1 dL_law_441 rfl ?_
  refine g_il 8 dL_law_442 rfl ?_
  refine g_cl (mc := 1) (ms := 6) (st := []) (As := [.ref (γ.2.2 0), .int (nI 1)]) (d := 7) (c_L_sentences l hl0 γ I L P g n r9 q u hG 1 (by decide) (by decide)) gL_law_L_sentences rfl ⟨by decide, by decide, rfl⟩ ⟨Nat.le_of_ble_eq_true rfl, Nat.le_of_ble_eq_true rfl⟩ rfl (Nat.le_of_ble_eq_true rfl) dL_law_444 ⟨by show _ ≤ 600104; omega, by show _ ≤ 7301314; omega⟩ ?_
  rintro r1 J1 L1 ⟨er1, hG1, eL1⟩
  rw [er1, ← hMn, eL1]
  rcases Nat.eq_zero_or_pos Mn with e0 | e0
  · skip
    rw [e0]
    refine g_is (lv' := [(11, .int (nI 0)), (0, .ref b), (1, .ref (γ.2.2 0)), (2, .int (nI n)), (3, .int (nI r9)), (4, .int (nI 1)), (5, .int (nI i)), (7, .int (nI z)), (9, .int (nI q)), (10, .int (nI 1))]) dL_law_447 (by decide) rfl ?_
    refine g_il 9 dL_law_449 rfl ?_
    refine g_ic (v := nI 1) dL_law_451 (by decide) ?_
    refine gn_ne (tgt := 459) dL_law_452 (by decide) (by omega) (by omega) (fun h_1 => ?_) (fun h_1 => ?_)
    · skip
      exfalso; omega
    · skip
      refine g_il_n 3 dL_law_455 rfl ?_
      refine g_goto (tgt := 476) dL_law_456 (by decide) ?_
      refine g_is (lv' := [(12, .int (nI n)), (11, .int (nI 0)), (0, .ref b), (1, .ref (γ.2.2 0)), (2, .int (nI n)), (3, .int (nI r9)), (4, .int (nI 1)), (5, .int (nI i)), (7, .int (nI z)), (9, .int (nI q)), (10, .int (nI 1))]) dL_law_476 (by decide) rfl ?_
      refine g_pc (pc' := 478) rfl ?_
      refine g_al_n 3 dL_law_478 rfl ?_
      refine g_il 10 dL_law_479 rfl ?_
      refine g_il 1 dL_law_481 rfl ?_
      refine g_ic (v := nI 1) dL_law_483 (by decide) ?_
      refine g_isub (v := (-1 : Int32)) dL_law_484 (by decide) ?_
      refine g_if_ge (tgt := 492) dL_law_485 (by decide) (fun h_2 => ?_) (fun h_2 => ?_)
      · skip
        exact absurd h_2 (by decide)
      · skip
        refine g_ic (v := nI 0) dL_law_488 (by decide) ?_
        refine g_goto (tgt := 496) dL_law_489 (by decide) ?_
        refine g_pc (pc' := 496) rfl ?_
        refine g_cl (mc := 1) (ms := 6) (st := []) (As := [.ref (γ.2.2 0), .int (nI 1), .int (nI 0)]) (d := 7) (c_L_sentence l hl0 γ J1 L P g n r9 q u hG1 1 0 (by decide) (by decide) (by decide)) gL_law_L_sentence rfl ⟨by decide, by decide, rfl⟩ ⟨Nat.le_of_ble_eq_true rfl, Nat.le_of_ble_eq_true rfl⟩ rfl (Nat.le_of_ble_eq_true rfl) dL_law_496 ⟨by show _ ≤ 600104; omega, by show _ ≤ 7301314; omega⟩ ?_
        rintro r11 J11 L11 ⟨er11, hG11, eL11⟩
        rw [er11, sen_none (show bc (fun j => isS g r9 (dig n 1 j) 1) (n ^ 1) ≤ 0 by omega), eL11]
        refine g_is (lv' := [(13, .int (-1 : Int32)), (12, .int (nI n)), (11, .int (nI 0)), (0, .ref b), (1, .ref (γ.2.2 0)), (2, .int (nI n)), (3, .int (nI r9)), (4, .int (nI 1)), (5, .int (nI i)), (7, .int (nI z)), (9, .int (nI q)), (10, .int (nI 1))]) dL_law_499 (by decide) rfl ?_
        refine g_il 2 dL_law_501 rfl ?_
        refine gz_lt (tgt := 569) dL_law_503 (by decide) (by omega) (fun h_3 => ?_) (fun h_3 => ?_)
        · skip
          exact h_3.elim
        · skip
          refine g_il 2 dL_law_506 rfl ?_
          refine g_il 1 dL_law_508 rfl ?_
          refine gn_gt (tgt := 569) dL_law_510 (by decide) (by omega) (by omega) (fun h_4 => ?_) (fun h_4 => ?_)
          · skip
            exfalso; omega
          · skip
            refine g_al_n 4 dL_law_513 rfl ?_
            refine g_pc (pc' := 514) rfl ?_
            refine g_il 11 dL_law_514 rfl ?_
            refine g_clf (mc := 1) (ms := 6) (st := []) (As := [.ref (γ.2.2 0), .int (nI 1)]) (d := 7) (c_L_share l hl0 γ J11 L P g n r9 q u hG11 1 (by decide) (by decide)) gL_law_L_share rfl ⟨by decide, by decide, rfl⟩ ⟨Nat.le_of_ble_eq_true rfl, Nat.le_of_ble_eq_true rfl⟩ rfl (Nat.le_of_ble_eq_true rfl) dL_law_516 ⟨by show _ ≤ 600104; omega, by show _ ≤ 7301314; omega⟩ ?_
            rintro r12 J12 L12 ⟨er12, hG12, eL12⟩
            rw [er12, shr_eq hn0 (hMn.symm.trans e0) hA, eL12]
            refine g_il 2 dL_law_519 rfl ?_
            refine g_i2f dL_law_521 ?_
            refine g_il 1 dL_law_522 rfl ?_
            refine g_i2f dL_law_524 ?_
            refine g_fdiv dL_law_525 (fd_ok (nI_nz (by omega) (by omega))) ?_
            refine g_fcmp (v := nI 0) dL_law_526 ((fself (fd_ok (nI_nz (by omega) (by omega)))).trans nI_0.symm) ?_
            refine g_pc (pc' := 527) rfl ?_
            refine gz_ne (tgt := 569) dL_law_527 (by decide) (by omega) (fun h_5 => ?_) (fun h_5 => ?_)
            · skip
              exfalso; omega
            · skip
              refine g_al_n 4 dL_law_530 rfl ?_
              refine g_il 11 dL_law_531 rfl ?_
              refine g_il 2 dL_law_533 rfl ?_
              refine g_cl (mc := 1) (ms := 6) (st := []) (As := [.ref (γ.2.2 0), .int (nI 1), .int (nI 0)]) (d := 7) (c_L_sentence l hl0 γ J12 L P g n r9 q u hG12 1 0 (by decide) (by decide) (by omega)) gL_law_L_sentence rfl ⟨by decide, by decide, rfl⟩ ⟨Nat.le_of_ble_eq_true rfl, Nat.le_of_ble_eq_true rfl⟩ rfl (Nat.le_of_ble_eq_true rfl) dL_law_535 ⟨by show _ ≤ 600104; omega, by show _ ≤ 7301314; omega⟩ ?_
              rintro r13 J13 L13 ⟨er13, hG13, eL13⟩
              rw [er13, sen_none (show bc (fun j => isS g r9 (dig n 1 j) 1) (n ^ 1) ≤ 0 by omega), eL13]
              refine g_ic (v := (-1 : Int32)) dL_law_538 (by decide) ?_
              refine g_ic_ne (tgt := 569) dL_law_539 (by decide) (fun h_6 => ?_) (fun h_6 => ?_)
              · skip
                exact absurd rfl h_6
              · skip
                refine g_il 2 dL_law_542 rfl ?_
                refine g_pc (pc' := 544) rfl ?_
                refine gz_le (tgt := 551) dL_law_544 (by decide) (by omega) (fun h_7 => ?_) (fun h_7 => ?_)
                · skip
                  refine g_ic (v := nI 0) dL_law_551 (by decide) ?_
                  refine g_il 0 dL_law_552 rfl ?_
                  refine g_if_le (tgt := 561) dL_law_554 (by decide) (fun h_8 => ?_) (fun h_8 => ?_)
                  · skip
                    refine g_ic (v := nI 0) dL_law_561 (by decide) ?_
                    refine gn_ne (tgt := 569) dL_law_562 (by decide) (by omega) (by omega) (fun h_9 => ?_) (fun h_9 => ?_)
                    · skip
                      exfalso; omega
                    · skip
                      refine g_ic (v := nI 1) dL_law_565 (by decide) ?_
                      refine g_goto (tgt := 570) dL_law_566 (by decide) ?_
                      refine g_pc (pc' := 570) rfl ?_
                      refine g_is (lv' := [(4, .int (nI 1)), (13, .int (-1 : Int32)), (12, .int (nI n)), (11, .int (nI 0)), (0, .ref b), (1, .ref (γ.2.2 0)), (2, .int (nI n)), (3, .int (nI r9)), (5, .int (nI i)), (7, .int (nI z)), (9, .int (nI q)), (10, .int (nI 1))]) dL_law_570 (by decide) rfl ?_
                      refine g_il 0 dL_law_572 rfl ?_
                      refine gz_eq (tgt := 685) dL_law_574 (by decide) (by omega) (fun h_10 => ?_) (fun h_10 => ?_)
                      · skip
                        exfalso; omega
                      · skip
                        refine g_il 3 dL_law_577 rfl ?_
                        refine gz_le (tgt := 685) dL_law_579 (by decide) (by omega) (fun h_11 => ?_) (fun h_11 => ?_)
                        · skip
                          refine g_sub [4, 5, 6, 7, 0, 8, 9] rfl ?_
                          exact k685 _ _ _ _ _ J13 L P _ _ hG13 (by omega) (by omega) (by omega)
                        · skip
                          exfalso; omega
                  · skip
                    exact absurd (by decide) h_8
                · skip
                  exfalso; omega
  · skip
    obtain ⟨j, esn, hsn⟩ := sen_some (g := g) (r := r9) (n := n) (m := 1) (by omega)
    rw [← hMn] at esn
    have hx10 : ∀ p, dig n 1 j p < 10 := fun p => Nat.lt_of_lt_of_le (dig_lt hn0) (by omega)
    have htl := tdig_lt hx10 1
    have htd := tdig_d1 hx10
    obtain ⟨T, eT⟩ : ∃ T, T = tdig (dig n 1 j) 1 := ⟨_, rfl⟩
    rw [← eT] at esn htl htd
    refine g_is (lv' := [(11, .int (nI Mn)), (0, .ref b), (1, .ref (γ.2.2 0)), (2, .int (nI n)), (3, .int (nI r9)), (4, .int (nI 1)), (5, .int (nI i)), (7, .int (nI z)), (9, .int (nI q)), (10, .int (nI 1))]) dL_law_447 (by decide) rfl ?_
    refine g_il 9 dL_law_449 rfl ?_
    refine g_ic (v := nI 1) dL_law_451 (by decide) ?_
    refine gn_ne (tgt := 459) dL_law_452 (by decide) (by omega) (by omega) (fun h_1 => ?_) (fun h_1 => ?_)
    · skip
      exfalso; omega
    · skip
      refine g_il_n 3 dL_law_455 rfl ?_
      refine g_goto (tgt := 476) dL_law_456 (by decide) ?_
      refine g_is (lv' := [(12, .int (nI n)), (11, .int (nI Mn)), (0, .ref b), (1, .ref (γ.2.2 0)), (2, .int (nI n)), (3, .int (nI r9)), (4, .int (nI 1)), (5, .int (nI i)), (7, .int (nI z)), (9, .int (nI q)), (10, .int (nI 1))]) dL_law_476 (by decide) rfl ?_
      refine g_pc (pc' := 478) rfl ?_
      refine g_al_n 3 dL_law_478 rfl ?_
      refine g_il 10 dL_law_479 rfl ?_
      refine g_il 1 dL_law_481 rfl ?_
      refine g_ic (v := nI 1) dL_law_483 (by decide) ?_
      refine g_isub (v := nI (Mn - 1)) dL_law_484 (pk_sub (by omega)) ?_
      refine gz_ge (tgt := 492) dL_law_485 (by decide) (by omega) (fun h_2 => ?_) (fun h_2 => ?_)
      · skip
        refine g_il 1 dL_law_492 rfl ?_
        refine g_ic (v := nI 1) dL_law_494 (by decide) ?_
        refine g_pc (pc' := 495) rfl ?_
        refine g_isub (v := nI (Mn - 1)) dL_law_495 (pk_sub (by omega)) ?_
        refine g_cl (mc := 1) (ms := 6) (st := []) (As := [.ref (γ.2.2 0), .int (nI 1), .int (nI (Mn - 1))]) (d := 7) (c_L_sentence l hl0 γ J1 L P g n r9 q u hG1 1 (Mn - 1) (by decide) (by decide) (by omega)) gL_law_L_sentence rfl ⟨by decide, by decide, rfl⟩ ⟨Nat.le_of_ble_eq_true rfl, Nat.le_of_ble_eq_true rfl⟩ rfl (Nat.le_of_ble_eq_true rfl) dL_law_496 ⟨by show _ ≤ 600104; omega, by show _ ≤ 7301314; omega⟩ ?_
        rintro r31 J31 L31 ⟨er31, hG31, eL31⟩
        rw [er31, esn, eL31]
        refine g_is (lv' := [(13, .int (nI T)), (12, .int (nI n)), (11, .int (nI Mn)), (0, .ref b), (1, .ref (γ.2.2 0)), (2, .int (nI n)), (3, .int (nI r9)), (4, .int (nI 1)), (5, .int (nI i)), (7, .int (nI z)), (9, .int (nI q)), (10, .int (nI 1))]) dL_law_499 (by decide) rfl ?_
        refine g_il 2 dL_law_501 rfl ?_
        refine gz_lt (tgt := 569) dL_law_503 (by decide) (by omega) (fun h_3 => ?_) (fun h_3 => ?_)
        · skip
          exact h_3.elim
        · skip
          refine g_il 2 dL_law_506 rfl ?_
          refine g_il 1 dL_law_508 rfl ?_
          refine gn_gt (tgt := 569) dL_law_510 (by decide) (by omega) (by omega) (fun h_4 => ?_) (fun h_4 => ?_)
          · skip
            exfalso; omega
          · skip
            refine g_pc (pc' := 513) rfl ?_
            refine g_al_n 4 dL_law_513 rfl ?_
            refine g_il 11 dL_law_514 rfl ?_
            refine g_clf (mc := 1) (ms := 6) (st := []) (As := [.ref (γ.2.2 0), .int (nI 1)]) (d := 7) (c_L_share l hl0 γ J31 L P g n r9 q u hG31 1 (by decide) (by decide)) gL_law_L_share rfl ⟨by decide, by decide, rfl⟩ ⟨Nat.le_of_ble_eq_true rfl, Nat.le_of_ble_eq_true rfl⟩ rfl (Nat.le_of_ble_eq_true rfl) dL_law_516 ⟨by show _ ≤ 600104; omega, by show _ ≤ 7301314; omega⟩ ?_
            rintro r32 J32 L32 ⟨er32, hG32, eL32⟩
            rw [er32, shr_eq hn0 (hMn.symm) hA, eL32]
            refine g_il 2 dL_law_519 rfl ?_
            refine g_i2f dL_law_521 ?_
            refine g_il 1 dL_law_522 rfl ?_
            refine g_i2f dL_law_524 ?_
            refine g_fdiv dL_law_525 (fd_ok (nI_nz (by omega) (by omega))) ?_
            refine g_pc (pc' := 526) rfl ?_
            refine g_fcmp (v := nI 0) dL_law_526 ((fself (fd_ok (nI_nz (by omega) (by omega)))).trans nI_0.symm) ?_
            refine gz_ne (tgt := 569) dL_law_527 (by decide) (by omega) (fun h_5 => ?_) (fun h_5 => ?_)
            · skip
              exfalso; omega
            · skip
              refine g_al_n 4 dL_law_530 rfl ?_
              refine g_il 11 dL_law_531 rfl ?_
              refine g_il 2 dL_law_533 rfl ?_
              refine g_cl (mc := 1) (ms := 6) (st := []) (As := [.ref (γ.2.2 0), .int (nI 1), .int (nI Mn)]) (d := 7) (c_L_sentence l hl0 γ J32 L P g n r9 q u hG32 1 Mn (by decide) (by decide) (by omega)) gL_law_L_sentence rfl ⟨by decide, by decide, rfl⟩ ⟨Nat.le_of_ble_eq_true rfl, Nat.le_of_ble_eq_true rfl⟩ rfl (Nat.le_of_ble_eq_true rfl) dL_law_535 ⟨by show _ ≤ 600104; omega, by show _ ≤ 7301314; omega⟩ ?_
              rintro r33 J33 L33 ⟨er33, hG33, eL33⟩
              rw [er33, sen_none (show bc (fun j => isS g r9 (dig n 1 j) 1) (n ^ 1) ≤ Mn by omega), eL33]
              refine g_ic (v := (-1 : Int32)) dL_law_538 (by decide) ?_
              refine g_ic_ne (tgt := 569) dL_law_539 (by decide) (fun h_6 => ?_) (fun h_6 => ?_)
              · skip
                exact absurd rfl h_6
              · skip
                refine g_pc (pc' := 542) rfl ?_
                refine g_il 2 dL_law_542 rfl ?_
                refine gz_le (tgt := 551) dL_law_544 (by decide) (by omega) (fun h_7 => ?_) (fun h_7 => ?_)
                · skip
                  exfalso; omega
                · skip
                  refine g_ic (v := nI 1) dL_law_547 (by decide) ?_
                  refine g_goto (tgt := 552) dL_law_548 (by decide) ?_
                  refine g_il 0 dL_law_552 rfl ?_
                  refine gz_le (tgt := 561) dL_law_554 (by decide) (by omega) (fun h_8 => ?_) (fun h_8 => ?_)
                  · skip
                    exfalso; omega
                  · skip
                    refine g_ic (v := nI 1) dL_law_557 (by decide) ?_
                    refine g_goto (tgt := 562) dL_law_558 (by decide) ?_
                    refine g_pc (pc' := 562) rfl ?_
                    refine gn_ne (tgt := 569) dL_law_562 (by decide) (by omega) (by omega) (fun h_9 => ?_) (fun h_9 => ?_)
                    · skip
                      exfalso; omega
                    · skip
                      refine g_ic (v := nI 1) dL_law_565 (by decide) ?_
                      refine g_goto (tgt := 570) dL_law_566 (by decide) ?_
                      refine g_is (lv' := [(4, .int (nI 1)), (13, .int (nI T)), (12, .int (nI n)), (11, .int (nI Mn)), (0, .ref b), (1, .ref (γ.2.2 0)), (2, .int (nI n)), (3, .int (nI r9)), (5, .int (nI i)), (7, .int (nI z)), (9, .int (nI q)), (10, .int (nI 1))]) dL_law_570 (by decide) rfl ?_
                      refine g_il 0 dL_law_572 rfl ?_
                      refine gz_eq (tgt := 685) dL_law_574 (by decide) (by omega) (fun h_10 => ?_) (fun h_10 => ?_)
                      · skip
                        exfalso; omega
                      · skip
                        refine g_il 3 dL_law_577 rfl ?_
                        refine gz_le (tgt := 685) dL_law_579 (by decide) (by omega) (fun h_11 => ?_) (fun h_11 => ?_)
                        · skip
                          exfalso; omega
                        · skip
                          refine g_pc (pc' := 582) rfl ?_
                          refine g_al_n 5 dL_law_582 rfl ?_
                          refine g_ci (r_V (st := []) (As := []) (d := 0) 0 (by decide) rfl rfl (c_X4_hush l γ J33 L P g n r9 q u hG33) gL_law_X4_hush rfl ⟨rfl, by decide, by decide, rfl⟩ ⟨Nat.le_of_ble_eq_true rfl, Nat.le_of_ble_eq_true rfl⟩ rfl (Nat.le_of_ble_eq_true rfl) dL_law_583 ⟨by show _ ≤ 600104; omega, by show _ ≤ 7301314; omega⟩) ?_
                          rintro r34 J34 L34 ⟨er34, hG34, -, eL34⟩
                          rw [er34, eL34]
                          refine g_pop dL_law_586 rfl ?_
                          refine g_il 11 dL_law_587 rfl ?_
                          refine g_ic (v := nI 1) dL_law_589 (by decide) ?_
                          refine gn_ne (tgt := 597) dL_law_590 (by decide) (by omega) (by omega) (fun h_12 => ?_) (fun h_12 => ?_)
                          · skip
                            exfalso; omega
                          · skip
                            refine g_ic (v := nI 1) dL_law_593 (by decide) ?_
                            refine g_goto (tgt := 610) dL_law_594 (by decide) ?_
                            refine g_pc (pc' := 610) rfl ?_
                            refine g_is (lv' := [(14, .int (nI 1)), (4, .int (nI 1)), (13, .int (nI T)), (12, .int (nI n)), (11, .int (nI Mn)), (0, .ref b), (1, .ref (γ.2.2 0)), (2, .int (nI n)), (3, .int (nI r9)), (5, .int (nI i)), (7, .int (nI z)), (9, .int (nI q)), (10, .int (nI 1))]) dL_law_610 (by decide) rfl ?_
                            refine g_ic (v := nI 0) dL_law_612 (by decide) ?_
                            refine g_is (lv' := [(15, .int (nI 0)), (14, .int (nI 1)), (4, .int (nI 1)), (13, .int (nI T)), (12, .int (nI n)), (11, .int (nI Mn)), (0, .ref b), (1, .ref (γ.2.2 0)), (2, .int (nI n)), (3, .int (nI r9)), (5, .int (nI i)), (7, .int (nI z)), (9, .int (nI q)), (10, .int (nI 1))]) dL_law_613 (by decide) rfl ?_
                            refine g_il 0 dL_law_615 rfl ?_
                            refine g_il 13 dL_law_617 rfl ?_
                            refine gn_ge (tgt := 666) dL_law_619 (by decide) (by omega) (by omega) (fun h_13 => ?_) (fun h_13 => ?_)
                            · skip
                              exfalso; omega
                            · skip
                              refine g_il 2 dL_law_622 rfl ?_
                              refine gz_eq (tgt := 666) dL_law_624 (by decide) (by omega) (fun h_14 => ?_) (fun h_14 => ?_)
                              · skip
                                exfalso; omega
                              · skip
                                refine g_pc (pc' := 627) rfl ?_
                                refine g_al_n 7 dL_law_627 rfl ?_
                                refine g_il 3 dL_law_628 rfl ?_
                                refine g_il 1 dL_law_630 rfl ?_
                                refine g_idiv (v := nI (T / 1)) dL_law_632 (by decide) (pk_div (by omega) (by omega) (by omega)) ?_
                                refine g_bi (v := nI 10) dL_law_633 (by decide) ?_
                                refine g_irem (v := nI (dig n 1 j 0)) dL_law_635 (by decide) ((pk_rem (by omega) (by omega) (by omega)).trans (congrArg nI (by omega))) ?_
                                refine g_cl (mc := 1) (ms := 6) (st := []) (As := [.ref (γ.2.2 0), .int (nI (dig n 1 j 0))]) (d := 2) (c_L_say l hl0 γ J34 L P g n r9 0 u hG34 (dig n 1 j 0) (dig_lt hn0) (by decide)) gL_law_L_say rfl ⟨by decide, by decide, rfl⟩ ⟨Nat.le_of_ble_eq_true rfl, Nat.le_of_ble_eq_true rfl⟩ rfl (Nat.le_of_ble_eq_true rfl) dL_law_636 ⟨by show _ ≤ 600104; omega, by show _ ≤ 7301314; omega⟩ ?_
                                rintro r35 J35 L35 ⟨er35, hG35, eL35⟩
                                rw [er35, eL35]
                                refine g_il 0 dL_law_639 rfl ?_
                                refine g_pc (pc' := 641) rfl ?_
                                refine g_ic (v := nI 1) dL_law_641 (by decide) ?_
                                refine g_iadd (v := nI 1) dL_law_642 (by decide) ?_
                                refine gn_ne (tgt := 650) dL_law_643 (by decide) (by omega) (by omega) (fun h_15 => ?_) (fun h_15 => ?_)
                                · skip
                                  exfalso; omega
                                · skip
                                  refine g_ic (v := nI 1) dL_law_646 (by decide) ?_
                                  refine g_goto (tgt := 651) dL_law_647 (by decide) ?_
                                  refine g_is (lv' := [(4, .int (nI 1)), (15, .int (nI 0)), (14, .int (nI 1)), (13, .int (nI T)), (12, .int (nI n)), (11, .int (nI Mn)), (0, .ref b), (1, .ref (γ.2.2 0)), (2, .int (nI n)), (3, .int (nI r9)), (5, .int (nI i)), (7, .int (nI z)), (9, .int (nI q)), (10, .int (nI 1))]) dL_law_651 (by decide) rfl ?_
                                  refine g_il 2 dL_law_653 rfl ?_
                                  refine g_bi (v := nI 10) dL_law_655 (by decide) ?_
                                  refine g_pc (pc' := 657) rfl ?_
                                  refine g_idiv (v := nI 0) dL_law_657 (by decide) (by decide) ?_
                                  refine g_is (lv' := [(14, .int (nI 0)), (4, .int (nI 1)), (15, .int (nI 0)), (13, .int (nI T)), (12, .int (nI n)), (11, .int (nI Mn)), (0, .ref b), (1, .ref (γ.2.2 0)), (2, .int (nI n)), (3, .int (nI r9)), (5, .int (nI i)), (7, .int (nI z)), (9, .int (nI q)), (10, .int (nI 1))]) dL_law_658 (by decide) rfl ?_
                                  refine g_inc (v := nI 1) (lv' := [(15, .int (nI 1)), (14, .int (nI 0)), (4, .int (nI 1)), (13, .int (nI T)), (12, .int (nI n)), (11, .int (nI Mn)), (0, .ref b), (1, .ref (γ.2.2 0)), (2, .int (nI n)), (3, .int (nI r9)), (5, .int (nI i)), (7, .int (nI z)), (9, .int (nI q)), (10, .int (nI 1))]) 2 dL_law_660 rfl (by decide) (by decide) rfl ?_
                                  refine g_goto (tgt := 615) dL_law_663 (by decide) ?_
                                  refine g_il 0 dL_law_615 rfl ?_
                                  refine g_il 13 dL_law_617 rfl ?_
                                  refine gn_ge (tgt := 666) dL_law_619 (by decide) (by omega) (by omega) (fun h_16 => ?_) (fun h_16 => ?_)
                                  · skip
                                    refine g_il 2 dL_law_666 rfl ?_
                                    refine g_pc (pc' := 668) rfl ?_
                                    refine gz_eq (tgt := 682) dL_law_668 (by decide) (by omega) (fun h_17 => ?_) (fun h_17 => ?_)
                                    · skip
                                      exfalso; omega
                                    · skip
                                      refine g_al_n 7 dL_law_671 rfl ?_
                                      refine g_ci (r_V (st := []) (As := []) (d := 5) 0 (by decide) rfl rfl (c_X4_readings l γ J35 L P g n r9 1 (ust u 0 (dig n 1 j 0)) hG35) gL_law_X4_readings rfl ⟨rfl, by decide, by decide, rfl⟩ ⟨Nat.le_of_ble_eq_true rfl, Nat.le_of_ble_eq_true rfl⟩ rfl (Nat.le_of_ble_eq_true rfl) dL_law_672 ⟨by show _ ≤ 600104; omega, by show _ ≤ 7301314; omega⟩) ?_
                                      rintro r36 J36 L36 ⟨er36, hG36, -, eL36⟩
                                      have hsu : isS g r9 (ust u 0 (dig n 1 j 0)) 1 = true := (isS_cong (fun p hp => by match p, hp with
                                        | 0, _ => rfl
                                        | p + 1, h9 => exact absurd h9 (by omega))).trans hsn
                                      have hRz := (rdg_pos hG36.val16).mpr hsu
                                      have hRy := rdg_le g r9 (ust u 0 (dig n 1 j 0)) 1
                                      rw [er36, eL36]
                                      refine gz_le (tgt := 682) dL_law_675 (by decide) (by omega) (fun h_18 => ?_) (fun h_18 => ?_)
                                      · skip
                                        exfalso; omega
                                      · skip
                                        refine g_ic (v := nI 1) dL_law_678 (by decide) ?_
                                        refine g_goto (tgt := 683) dL_law_679 (by decide) ?_
                                        refine g_is (lv' := [(4, .int (nI 1)), (15, .int (nI 1)), (14, .int (nI 0)), (13, .int (nI T)), (12, .int (nI n)), (11, .int (nI Mn)), (0, .ref b), (1, .ref (γ.2.2 0)), (2, .int (nI n)), (3, .int (nI r9)), (5, .int (nI i)), (7, .int (nI z)), (9, .int (nI q)), (10, .int (nI 1))]) dL_law_683 (by decide) rfl ?_
                                        refine g_sub [6, 7, 8, 9, 0, 10, 11] rfl ?_
                                        exact k685 _ _ _ _ _ J36 L P _ _ hG36 (by omega) (by omega) (by omega)
                                  · skip
                                    exfalso; omega
      · skip
        exact h_2.elim

set_option maxRecDepth 100000 in
set_option maxHeartbeats 4000000 in
theorem k_sent2 (l : Launch) (hl0 : l.stackTraces = false) (γ : Gm) (b Ln : Nat) (xs : Nat → Int32) (i N z : Nat) (hi : i < 30) (hz : z < 2 ^ 27) (k685 : N685 l γ b Ln xs i N z) (g : GR) (n r9 q : Nat) (u : Nat → Nat) (I : IT) (L : LT) (P : PT) (cells slots : Nat) (hG : GW I g n r9 q u) (hn5 : n ≤ 5) (hc : cells + 40 + 40 * N ≤ 600104) (hs : slots + 240 + 240 * N ≤ 7301314) (hn0 : 0 < n) : G (ELw b Ln xs) l cL_law 16 wsL_law RL (some .boolean) room_1 γ P ALw (QLw b) cells slots 441 [(0, .ref b), (1, .ref (γ.2.2 0)), (2, .int (nI n)), (3, .int (nI r9)), (4, .int (nI 1)), (5, .int (nI i)), (7, .int (nI z)), (9, .int (nI q)), (10, .int (nI 2))] [] I L := by
  have hq6 := hG.2.2.1
  have hr8 := hG.1.r_le
  have hA : n ^ 2 = n * n := (pow_3 n).2.1
  have hA0 : 0 < n * n := by rw [← hA]; exact Nat.pow_pos hn0
  have hA125 : n * n ≤ 125 := by rw [← hA]; exact Nat.le_trans (Nat.pow_le_pow_left hn5 2) (by decide)
  obtain ⟨Mn, hMn⟩ : ∃ Mn, Mn = bc (fun j => isS g r9 (dig n 2 j) 2) (n ^ 2) := ⟨_, rfl⟩
  have hMA : Mn ≤ n * n := Nat.le_trans (Nat.le_of_eq hMn) (Nat.le_trans (bc_le _ _) (Nat.le_of_eq hA))
  refine g_al_n 1 dL_law_441 rfl ?_
  refine g_il 8 dL_law_442 rfl ?_
  refine g_cl (mc := 1) (ms := 6) (st := []) (As := [.ref (γ.2.2 0), .int (nI 2)]) (d := 7) (c_L_sentences l hl0 γ I L P g n r9 q u hG 2 (by decide) (by decide)) gL_law_L_sentences rfl ⟨by decide, by decide, rfl⟩ ⟨Nat.le_of_ble_eq_true rfl, Nat.le_of_ble_eq_true rfl⟩ rfl (Nat.le_of_ble_eq_true rfl) dL_law_444 ⟨by show _ ≤ 600104; omega, by show _ ≤ 7301314; omega⟩ ?_
  rintro r1 J1 L1 ⟨er1, hG1, eL1⟩
  rw [er1, ← hMn, eL1]
  rcases Nat.eq_zero_or_pos Mn with e0 | e0
  · skip
    rw [e0]
    refine g_is (lv' := [(11, .int (nI 0)), (0, .ref b), (1, .ref (γ.2.2 0)), (2, .int (nI n)), (3, .int (nI r9)), (4, .int (nI 1)), (5, .int (nI i)), (7, .int (nI z)), (9, .int (nI q)), (10, .int (nI 2))]) dL_law_447 (by decide) rfl ?_
    refine g_il 9 dL_law_449 rfl ?_
    refine g_ic (v := nI 1) dL_law_451 (by decide) ?_
    refine gn_ne (tgt := 459) dL_law_452 (by decide) (by omega) (by omega) (fun h_1 => ?_) (fun h_1 => ?_)
    · skip
      refine g_il 9 dL_law_459 rfl ?_
      refine g_ic (v := nI 2) dL_law_461 (by decide) ?_
      refine gn_ne (tgt := 471) dL_law_462 (by decide) (by omega) (by omega) (fun h_2 => ?_) (fun h_2 => ?_)
      · skip
        exfalso; omega
      · skip
        refine g_pc (pc' := 465) rfl ?_
        refine g_il_n 3 dL_law_465 rfl ?_
        refine g_il_n 3 dL_law_466 rfl ?_
        refine g_imul (v := nI (n * n)) dL_law_467 (pk_mul _ _) ?_
        refine g_goto (tgt := 476) dL_law_468 (by decide) ?_
        refine g_is (lv' := [(12, .int (nI (n * n))), (11, .int (nI 0)), (0, .ref b), (1, .ref (γ.2.2 0)), (2, .int (nI n)), (3, .int (nI r9)), (4, .int (nI 1)), (5, .int (nI i)), (7, .int (nI z)), (9, .int (nI q)), (10, .int (nI 2))]) dL_law_476 (by decide) rfl ?_
        refine g_al_n 3 dL_law_478 rfl ?_
        refine g_il 10 dL_law_479 rfl ?_
        refine g_il 1 dL_law_481 rfl ?_
        refine g_pc (pc' := 483) rfl ?_
        refine g_ic (v := nI 1) dL_law_483 (by decide) ?_
        refine g_isub (v := (-1 : Int32)) dL_law_484 (by decide) ?_
        refine g_if_ge (tgt := 492) dL_law_485 (by decide) (fun h_3 => ?_) (fun h_3 => ?_)
        · skip
          exact absurd h_3 (by decide)
        · skip
          refine g_ic (v := nI 0) dL_law_488 (by decide) ?_
          refine g_goto (tgt := 496) dL_law_489 (by decide) ?_
          refine g_cl (mc := 1) (ms := 6) (st := []) (As := [.ref (γ.2.2 0), .int (nI 2), .int (nI 0)]) (d := 7) (c_L_sentence l hl0 γ J1 L P g n r9 q u hG1 2 0 (by decide) (by decide) (by decide)) gL_law_L_sentence rfl ⟨by decide, by decide, rfl⟩ ⟨Nat.le_of_ble_eq_true rfl, Nat.le_of_ble_eq_true rfl⟩ rfl (Nat.le_of_ble_eq_true rfl) dL_law_496 ⟨by show _ ≤ 600104; omega, by show _ ≤ 7301314; omega⟩ ?_
          rintro r11 J11 L11 ⟨er11, hG11, eL11⟩
          rw [er11, sen_none (show bc (fun j => isS g r9 (dig n 2 j) 2) (n ^ 2) ≤ 0 by omega), eL11]
          refine g_is (lv' := [(13, .int (-1 : Int32)), (12, .int (nI (n * n))), (11, .int (nI 0)), (0, .ref b), (1, .ref (γ.2.2 0)), (2, .int (nI n)), (3, .int (nI r9)), (4, .int (nI 1)), (5, .int (nI i)), (7, .int (nI z)), (9, .int (nI q)), (10, .int (nI 2))]) dL_law_499 (by decide) rfl ?_
          refine g_il 2 dL_law_501 rfl ?_
          refine g_pc (pc' := 503) rfl ?_
          refine gz_lt (tgt := 569) dL_law_503 (by decide) (by omega) (fun h_4 => ?_) (fun h_4 => ?_)
          · skip
            exact h_4.elim
          · skip
            refine g_il 2 dL_law_506 rfl ?_
            refine g_il 1 dL_law_508 rfl ?_
            refine gn_gt (tgt := 569) dL_law_510 (by decide) (by omega) (by omega) (fun h_5 => ?_) (fun h_5 => ?_)
            · skip
              exfalso; omega
            · skip
              refine g_al_n 4 dL_law_513 rfl ?_
              refine g_il 11 dL_law_514 rfl ?_
              refine g_clf (mc := 1) (ms := 6) (st := []) (As := [.ref (γ.2.2 0), .int (nI 2)]) (d := 7) (c_L_share l hl0 γ J11 L P g n r9 q u hG11 2 (by decide) (by decide)) gL_law_L_share rfl ⟨by decide, by decide, rfl⟩ ⟨Nat.le_of_ble_eq_true rfl, Nat.le_of_ble_eq_true rfl⟩ rfl (Nat.le_of_ble_eq_true rfl) dL_law_516 ⟨by show _ ≤ 600104; omega, by show _ ≤ 7301314; omega⟩ ?_
              rintro r12 J12 L12 ⟨er12, hG12, eL12⟩
              rw [er12, shr_eq hn0 (hMn.symm.trans e0) hA, eL12]
              refine g_il 2 dL_law_519 rfl ?_
              refine g_pc (pc' := 521) rfl ?_
              refine g_i2f dL_law_521 ?_
              refine g_il 1 dL_law_522 rfl ?_
              refine g_i2f dL_law_524 ?_
              refine g_fdiv dL_law_525 (fd_ok (nI_nz (by omega) (by omega))) ?_
              refine g_fcmp (v := nI 0) dL_law_526 ((fself (fd_ok (nI_nz (by omega) (by omega)))).trans nI_0.symm) ?_
              refine gz_ne (tgt := 569) dL_law_527 (by decide) (by omega) (fun h_6 => ?_) (fun h_6 => ?_)
              · skip
                exfalso; omega
              · skip
                refine g_al_n 4 dL_law_530 rfl ?_
                refine g_il 11 dL_law_531 rfl ?_
                refine g_pc (pc' := 533) rfl ?_
                refine g_il 2 dL_law_533 rfl ?_
                refine g_cl (mc := 1) (ms := 6) (st := []) (As := [.ref (γ.2.2 0), .int (nI 2), .int (nI 0)]) (d := 7) (c_L_sentence l hl0 γ J12 L P g n r9 q u hG12 2 0 (by decide) (by decide) (by omega)) gL_law_L_sentence rfl ⟨by decide, by decide, rfl⟩ ⟨Nat.le_of_ble_eq_true rfl, Nat.le_of_ble_eq_true rfl⟩ rfl (Nat.le_of_ble_eq_true rfl) dL_law_535 ⟨by show _ ≤ 600104; omega, by show _ ≤ 7301314; omega⟩ ?_
                rintro r13 J13 L13 ⟨er13, hG13, eL13⟩
                rw [er13, sen_none (show bc (fun j => isS g r9 (dig n 2 j) 2) (n ^ 2) ≤ 0 by omega), eL13]
                refine g_ic (v := (-1 : Int32)) dL_law_538 (by decide) ?_
                refine g_ic_ne (tgt := 569) dL_law_539 (by decide) (fun h_7 => ?_) (fun h_7 => ?_)
                · skip
                  exact absurd rfl h_7
                · skip
                  refine g_il 2 dL_law_542 rfl ?_
                  refine gz_le (tgt := 551) dL_law_544 (by decide) (by omega) (fun h_8 => ?_) (fun h_8 => ?_)
                  · skip
                    refine g_ic (v := nI 0) dL_law_551 (by decide) ?_
                    refine g_il 0 dL_law_552 rfl ?_
                    refine g_pc (pc' := 554) rfl ?_
                    refine g_if_le (tgt := 561) dL_law_554 (by decide) (fun h_9 => ?_) (fun h_9 => ?_)
                    · skip
                      refine g_ic (v := nI 0) dL_law_561 (by decide) ?_
                      refine gn_ne (tgt := 569) dL_law_562 (by decide) (by omega) (by omega) (fun h_10 => ?_) (fun h_10 => ?_)
                      · skip
                        exfalso; omega
                      · skip
                        refine g_ic (v := nI 1) dL_law_565 (by decide) ?_
                        refine g_goto (tgt := 570) dL_law_566 (by decide) ?_
                        refine g_is (lv' := [(4, .int (nI 1)), (13, .int (-1 : Int32)), (12, .int (nI (n * n))), (11, .int (nI 0)), (0, .ref b), (1, .ref (γ.2.2 0)), (2, .int (nI n)), (3, .int (nI r9)), (5, .int (nI i)), (7, .int (nI z)), (9, .int (nI q)), (10, .int (nI 2))]) dL_law_570 (by decide) rfl ?_
                        refine g_il 0 dL_law_572 rfl ?_
                        refine gz_eq (tgt := 685) dL_law_574 (by decide) (by omega) (fun h_11 => ?_) (fun h_11 => ?_)
                        · skip
                          exfalso; omega
                        · skip
                          refine g_pc (pc' := 577) rfl ?_
                          refine g_il 3 dL_law_577 rfl ?_
                          refine gz_le (tgt := 685) dL_law_579 (by decide) (by omega) (fun h_12 => ?_) (fun h_12 => ?_)
                          · skip
                            refine g_sub [4, 5, 6, 7, 0, 8, 9] rfl ?_
                            exact k685 _ _ _ _ _ J13 L P _ _ hG13 (by omega) (by omega) (by omega)
                          · skip
                            exfalso; omega
                    · skip
                      exact absurd (by decide) h_9
                  · skip
                    exfalso; omega
    · skip
      exfalso; omega
  · skip
    obtain ⟨j, esn, hsn⟩ := sen_some (g := g) (r := r9) (n := n) (m := 2) (by omega)
    rw [← hMn] at esn
    have hx10 : ∀ p, dig n 2 j p < 10 := fun p => Nat.lt_of_lt_of_le (dig_lt hn0) (by omega)
    have htl := tdig_lt hx10 2
    have htd := tdig_d2 hx10
    obtain ⟨T, eT⟩ : ∃ T, T = tdig (dig n 2 j) 2 := ⟨_, rfl⟩
    rw [← eT] at esn htl htd
    refine g_is (lv' := [(11, .int (nI Mn)), (0, .ref b), (1, .ref (γ.2.2 0)), (2, .int (nI n)), (3, .int (nI r9)), (4, .int (nI 1)), (5, .int (nI i)), (7, .int (nI z)), (9, .int (nI q)), (10, .int (nI 2))]) dL_law_447 (by decide) rfl ?_
    refine g_il 9 dL_law_449 rfl ?_
    refine g_ic (v := nI 1) dL_law_451 (by decide) ?_
    refine gn_ne (tgt := 459) dL_law_452 (by decide) (by omega) (by omega) (fun h_1 => ?_) (fun h_1 => ?_)
    · skip
      refine g_il 9 dL_law_459 rfl ?_
      refine g_ic (v := nI 2) dL_law_461 (by decide) ?_
      refine gn_ne (tgt := 471) dL_law_462 (by decide) (by omega) (by omega) (fun h_2 => ?_) (fun h_2 => ?_)
      · skip
        exfalso; omega
      · skip
        refine g_pc (pc' := 465) rfl ?_
        refine g_il_n 3 dL_law_465 rfl ?_
        refine g_il_n 3 dL_law_466 rfl ?_
        refine g_imul (v := nI (n * n)) dL_law_467 (pk_mul _ _) ?_
        refine g_goto (tgt := 476) dL_law_468 (by decide) ?_
        refine g_is (lv' := [(12, .int (nI (n * n))), (11, .int (nI Mn)), (0, .ref b), (1, .ref (γ.2.2 0)), (2, .int (nI n)), (3, .int (nI r9)), (4, .int (nI 1)), (5, .int (nI i)), (7, .int (nI z)), (9, .int (nI q)), (10, .int (nI 2))]) dL_law_476 (by decide) rfl ?_
        refine g_al_n 3 dL_law_478 rfl ?_
        refine g_il 10 dL_law_479 rfl ?_
        refine g_il 1 dL_law_481 rfl ?_
        refine g_pc (pc' := 483) rfl ?_
        refine g_ic (v := nI 1) dL_law_483 (by decide) ?_
        refine g_isub (v := nI (Mn - 1)) dL_law_484 (pk_sub (by omega)) ?_
        refine gz_ge (tgt := 492) dL_law_485 (by decide) (by omega) (fun h_3 => ?_) (fun h_3 => ?_)
        · skip
          refine g_il 1 dL_law_492 rfl ?_
          refine g_ic (v := nI 1) dL_law_494 (by decide) ?_
          refine g_isub (v := nI (Mn - 1)) dL_law_495 (pk_sub (by omega)) ?_
          refine g_cl (mc := 1) (ms := 6) (st := []) (As := [.ref (γ.2.2 0), .int (nI 2), .int (nI (Mn - 1))]) (d := 7) (c_L_sentence l hl0 γ J1 L P g n r9 q u hG1 2 (Mn - 1) (by decide) (by decide) (by omega)) gL_law_L_sentence rfl ⟨by decide, by decide, rfl⟩ ⟨Nat.le_of_ble_eq_true rfl, Nat.le_of_ble_eq_true rfl⟩ rfl (Nat.le_of_ble_eq_true rfl) dL_law_496 ⟨by show _ ≤ 600104; omega, by show _ ≤ 7301314; omega⟩ ?_
          rintro r31 J31 L31 ⟨er31, hG31, eL31⟩
          rw [er31, esn, eL31]
          refine g_is (lv' := [(13, .int (nI T)), (12, .int (nI (n * n))), (11, .int (nI Mn)), (0, .ref b), (1, .ref (γ.2.2 0)), (2, .int (nI n)), (3, .int (nI r9)), (4, .int (nI 1)), (5, .int (nI i)), (7, .int (nI z)), (9, .int (nI q)), (10, .int (nI 2))]) dL_law_499 (by decide) rfl ?_
          refine g_pc (pc' := 501) rfl ?_
          refine g_il 2 dL_law_501 rfl ?_
          refine gz_lt (tgt := 569) dL_law_503 (by decide) (by omega) (fun h_4 => ?_) (fun h_4 => ?_)
          · skip
            exact h_4.elim
          · skip
            refine g_il 2 dL_law_506 rfl ?_
            refine g_il 1 dL_law_508 rfl ?_
            refine gn_gt (tgt := 569) dL_law_510 (by decide) (by omega) (by omega) (fun h_5 => ?_) (fun h_5 => ?_)
            · skip
              exfalso; omega
            · skip
              refine g_al_n 4 dL_law_513 rfl ?_
              refine g_il 11 dL_law_514 rfl ?_
              refine g_clf (mc := 1) (ms := 6) (st := []) (As := [.ref (γ.2.2 0), .int (nI 2)]) (d := 7) (c_L_share l hl0 γ J31 L P g n r9 q u hG31 2 (by decide) (by decide)) gL_law_L_share rfl ⟨by decide, by decide, rfl⟩ ⟨Nat.le_of_ble_eq_true rfl, Nat.le_of_ble_eq_true rfl⟩ rfl (Nat.le_of_ble_eq_true rfl) dL_law_516 ⟨by show _ ≤ 600104; omega, by show _ ≤ 7301314; omega⟩ ?_
              rintro r32 J32 L32 ⟨er32, hG32, eL32⟩
              rw [er32, shr_eq hn0 (hMn.symm) hA, eL32]
              refine g_pc (pc' := 519) rfl ?_
              refine g_il 2 dL_law_519 rfl ?_
              refine g_i2f dL_law_521 ?_
              refine g_il 1 dL_law_522 rfl ?_
              refine g_i2f dL_law_524 ?_
              refine g_fdiv dL_law_525 (fd_ok (nI_nz (by omega) (by omega))) ?_
              refine g_fcmp (v := nI 0) dL_law_526 ((fself (fd_ok (nI_nz (by omega) (by omega)))).trans nI_0.symm) ?_
              refine gz_ne (tgt := 569) dL_law_527 (by decide) (by omega) (fun h_6 => ?_) (fun h_6 => ?_)
              · skip
                exfalso; omega
              · skip
                refine g_al_n 4 dL_law_530 rfl ?_
                refine g_pc (pc' := 531) rfl ?_
                refine g_il 11 dL_law_531 rfl ?_
                refine g_il 2 dL_law_533 rfl ?_
                refine g_cl (mc := 1) (ms := 6) (st := []) (As := [.ref (γ.2.2 0), .int (nI 2), .int (nI Mn)]) (d := 7) (c_L_sentence l hl0 γ J32 L P g n r9 q u hG32 2 Mn (by decide) (by decide) (by omega)) gL_law_L_sentence rfl ⟨by decide, by decide, rfl⟩ ⟨Nat.le_of_ble_eq_true rfl, Nat.le_of_ble_eq_true rfl⟩ rfl (Nat.le_of_ble_eq_true rfl) dL_law_535 ⟨by show _ ≤ 600104; omega, by show _ ≤ 7301314; omega⟩ ?_
                rintro r33 J33 L33 ⟨er33, hG33, eL33⟩
                rw [er33, sen_none (show bc (fun j => isS g r9 (dig n 2 j) 2) (n ^ 2) ≤ Mn by omega), eL33]
                refine g_ic (v := (-1 : Int32)) dL_law_538 (by decide) ?_
                refine g_ic_ne (tgt := 569) dL_law_539 (by decide) (fun h_7 => ?_) (fun h_7 => ?_)
                · skip
                  exact absurd rfl h_7
                · skip
                  refine g_il 2 dL_law_542 rfl ?_
                  refine gz_le (tgt := 551) dL_law_544 (by decide) (by omega) (fun h_8 => ?_) (fun h_8 => ?_)
                  · skip
                    exfalso; omega
                  · skip
                    refine g_ic (v := nI 1) dL_law_547 (by decide) ?_
                    refine g_pc (pc' := 548) rfl ?_
                    refine g_goto (tgt := 552) dL_law_548 (by decide) ?_
                    refine g_il 0 dL_law_552 rfl ?_
                    refine gz_le (tgt := 561) dL_law_554 (by decide) (by omega) (fun h_9 => ?_) (fun h_9 => ?_)
                    · skip
                      exfalso; omega
                    · skip
                      refine g_ic (v := nI 1) dL_law_557 (by decide) ?_
                      refine g_goto (tgt := 562) dL_law_558 (by decide) ?_
                      refine gn_ne (tgt := 569) dL_law_562 (by decide) (by omega) (by omega) (fun h_10 => ?_) (fun h_10 => ?_)
                      · skip
                        exfalso; omega
                      · skip
                        refine g_ic (v := nI 1) dL_law_565 (by decide) ?_
                        refine g_goto (tgt := 570) dL_law_566 (by decide) ?_
                        refine g_pc (pc' := 570) rfl ?_
                        refine g_is (lv' := [(4, .int (nI 1)), (13, .int (nI T)), (12, .int (nI (n * n))), (11, .int (nI Mn)), (0, .ref b), (1, .ref (γ.2.2 0)), (2, .int (nI n)), (3, .int (nI r9)), (5, .int (nI i)), (7, .int (nI z)), (9, .int (nI q)), (10, .int (nI 2))]) dL_law_570 (by decide) rfl ?_
                        refine g_il 0 dL_law_572 rfl ?_
                        refine gz_eq (tgt := 685) dL_law_574 (by decide) (by omega) (fun h_11 => ?_) (fun h_11 => ?_)
                        · skip
                          exfalso; omega
                        · skip
                          refine g_il 3 dL_law_577 rfl ?_
                          refine gz_le (tgt := 685) dL_law_579 (by decide) (by omega) (fun h_12 => ?_) (fun h_12 => ?_)
                          · skip
                            exfalso; omega
                          · skip
                            refine g_al_n 5 dL_law_582 rfl ?_
                            refine g_ci (r_V (st := []) (As := []) (d := 0) 0 (by decide) rfl rfl (c_X4_hush l γ J33 L P g n r9 q u hG33) gL_law_X4_hush rfl ⟨rfl, by decide, by decide, rfl⟩ ⟨Nat.le_of_ble_eq_true rfl, Nat.le_of_ble_eq_true rfl⟩ rfl (Nat.le_of_ble_eq_true rfl) dL_law_583 ⟨by show _ ≤ 600104; omega, by show _ ≤ 7301314; omega⟩) ?_
                            rintro r34 J34 L34 ⟨er34, hG34, -, eL34⟩
                            rw [er34, eL34]
                            refine g_pop dL_law_586 rfl ?_
                            refine g_pc (pc' := 587) rfl ?_
                            refine g_il 11 dL_law_587 rfl ?_
                            refine g_ic (v := nI 1) dL_law_589 (by decide) ?_
                            refine gn_ne (tgt := 597) dL_law_590 (by decide) (by omega) (by omega) (fun h_13 => ?_) (fun h_13 => ?_)
                            · skip
                              refine g_il 11 dL_law_597 rfl ?_
                              refine g_ic (v := nI 2) dL_law_599 (by decide) ?_
                              refine gn_ne (tgt := 608) dL_law_600 (by decide) (by omega) (by omega) (fun h_14 => ?_) (fun h_14 => ?_)
                              · skip
                                exfalso; omega
                              · skip
                                refine g_bi (v := nI 10) dL_law_603 (by decide) ?_
                                refine g_goto (tgt := 610) dL_law_605 (by decide) ?_
                                refine g_pc (pc' := 610) rfl ?_
                                refine g_is (lv' := [(14, .int (nI 10)), (4, .int (nI 1)), (13, .int (nI T)), (12, .int (nI (n * n))), (11, .int (nI Mn)), (0, .ref b), (1, .ref (γ.2.2 0)), (2, .int (nI n)), (3, .int (nI r9)), (5, .int (nI i)), (7, .int (nI z)), (9, .int (nI q)), (10, .int (nI 2))]) dL_law_610 (by decide) rfl ?_
                                refine g_ic (v := nI 0) dL_law_612 (by decide) ?_
                                refine g_is (lv' := [(15, .int (nI 0)), (14, .int (nI 10)), (4, .int (nI 1)), (13, .int (nI T)), (12, .int (nI (n * n))), (11, .int (nI Mn)), (0, .ref b), (1, .ref (γ.2.2 0)), (2, .int (nI n)), (3, .int (nI r9)), (5, .int (nI i)), (7, .int (nI z)), (9, .int (nI q)), (10, .int (nI 2))]) dL_law_613 (by decide) rfl ?_
                                refine g_il 0 dL_law_615 rfl ?_
                                refine g_il 13 dL_law_617 rfl ?_
                                refine gn_ge (tgt := 666) dL_law_619 (by decide) (by omega) (by omega) (fun h_15 => ?_) (fun h_15 => ?_)
                                · skip
                                  exfalso; omega
                                · skip
                                  refine g_il 2 dL_law_622 rfl ?_
                                  refine gz_eq (tgt := 666) dL_law_624 (by decide) (by omega) (fun h_16 => ?_) (fun h_16 => ?_)
                                  · skip
                                    exfalso; omega
                                  · skip
                                    refine g_pc (pc' := 627) rfl ?_
                                    refine g_al_n 7 dL_law_627 rfl ?_
                                    refine g_il 3 dL_law_628 rfl ?_
                                    refine g_il 1 dL_law_630 rfl ?_
                                    refine g_idiv (v := nI (T / 10)) dL_law_632 (by decide) (pk_div (by omega) (by omega) (by omega)) ?_
                                    refine g_bi (v := nI 10) dL_law_633 (by decide) ?_
                                    refine g_irem (v := nI (dig n 2 j 0)) dL_law_635 (by decide) ((pk_rem (by omega) (by omega) (by omega)).trans (congrArg nI (by omega))) ?_
                                    refine g_cl (mc := 1) (ms := 6) (st := []) (As := [.ref (γ.2.2 0), .int (nI (dig n 2 j 0))]) (d := 2) (c_L_say l hl0 γ J34 L P g n r9 0 u hG34 (dig n 2 j 0) (dig_lt hn0) (by decide)) gL_law_L_say rfl ⟨by decide, by decide, rfl⟩ ⟨Nat.le_of_ble_eq_true rfl, Nat.le_of_ble_eq_true rfl⟩ rfl (Nat.le_of_ble_eq_true rfl) dL_law_636 ⟨by show _ ≤ 600104; omega, by show _ ≤ 7301314; omega⟩ ?_
                                    rintro r35 J35 L35 ⟨er35, hG35, eL35⟩
                                    rw [er35, eL35]
                                    refine g_il 0 dL_law_639 rfl ?_
                                    refine g_pc (pc' := 641) rfl ?_
                                    refine g_ic (v := nI 1) dL_law_641 (by decide) ?_
                                    refine g_iadd (v := nI 1) dL_law_642 (by decide) ?_
                                    refine gn_ne (tgt := 650) dL_law_643 (by decide) (by omega) (by omega) (fun h_17 => ?_) (fun h_17 => ?_)
                                    · skip
                                      exfalso; omega
                                    · skip
                                      refine g_ic (v := nI 1) dL_law_646 (by decide) ?_
                                      refine g_goto (tgt := 651) dL_law_647 (by decide) ?_
                                      refine g_is (lv' := [(4, .int (nI 1)), (15, .int (nI 0)), (14, .int (nI 10)), (13, .int (nI T)), (12, .int (nI (n * n))), (11, .int (nI Mn)), (0, .ref b), (1, .ref (γ.2.2 0)), (2, .int (nI n)), (3, .int (nI r9)), (5, .int (nI i)), (7, .int (nI z)), (9, .int (nI q)), (10, .int (nI 2))]) dL_law_651 (by decide) rfl ?_
                                      refine g_il 2 dL_law_653 rfl ?_
                                      refine g_bi (v := nI 10) dL_law_655 (by decide) ?_
                                      refine g_pc (pc' := 657) rfl ?_
                                      refine g_idiv (v := nI 1) dL_law_657 (by decide) (by decide) ?_
                                      refine g_is (lv' := [(14, .int (nI 1)), (4, .int (nI 1)), (15, .int (nI 0)), (13, .int (nI T)), (12, .int (nI (n * n))), (11, .int (nI Mn)), (0, .ref b), (1, .ref (γ.2.2 0)), (2, .int (nI n)), (3, .int (nI r9)), (5, .int (nI i)), (7, .int (nI z)), (9, .int (nI q)), (10, .int (nI 2))]) dL_law_658 (by decide) rfl ?_
                                      refine g_inc (v := nI 1) (lv' := [(15, .int (nI 1)), (14, .int (nI 1)), (4, .int (nI 1)), (13, .int (nI T)), (12, .int (nI (n * n))), (11, .int (nI Mn)), (0, .ref b), (1, .ref (γ.2.2 0)), (2, .int (nI n)), (3, .int (nI r9)), (5, .int (nI i)), (7, .int (nI z)), (9, .int (nI q)), (10, .int (nI 2))]) 2 dL_law_660 rfl (by decide) (by decide) rfl ?_
                                      refine g_goto (tgt := 615) dL_law_663 (by decide) ?_
                                      refine g_il 0 dL_law_615 rfl ?_
                                      refine g_il 13 dL_law_617 rfl ?_
                                      refine gn_ge (tgt := 666) dL_law_619 (by decide) (by omega) (by omega) (fun h_18 => ?_) (fun h_18 => ?_)
                                      · skip
                                        exfalso; omega
                                      · skip
                                        refine g_il 2 dL_law_622 rfl ?_
                                        refine g_pc (pc' := 624) rfl ?_
                                        refine gz_eq (tgt := 666) dL_law_624 (by decide) (by omega) (fun h_19 => ?_) (fun h_19 => ?_)
                                        · skip
                                          exfalso; omega
                                        · skip
                                          refine g_al_n 7 dL_law_627 rfl ?_
                                          refine g_il 3 dL_law_628 rfl ?_
                                          refine g_il 1 dL_law_630 rfl ?_
                                          refine g_idiv (v := nI (T / 1)) dL_law_632 (by decide) (pk_div (by omega) (by omega) (by omega)) ?_
                                          refine g_bi (v := nI 10) dL_law_633 (by decide) ?_
                                          refine g_irem (v := nI (dig n 2 j 1)) dL_law_635 (by decide) ((pk_rem (by omega) (by omega) (by omega)).trans (congrArg nI (by omega))) ?_
                                          refine g_cl (mc := 1) (ms := 6) (st := []) (As := [.ref (γ.2.2 0), .int (nI (dig n 2 j 1))]) (d := 2) (c_L_say l hl0 γ J35 L P g n r9 1 (ust u 0 (dig n 2 j 0)) hG35 (dig n 2 j 1) (dig_lt hn0) (by decide)) gL_law_L_say rfl ⟨by decide, by decide, rfl⟩ ⟨Nat.le_of_ble_eq_true rfl, Nat.le_of_ble_eq_true rfl⟩ rfl (Nat.le_of_ble_eq_true rfl) dL_law_636 ⟨by show _ ≤ 600104; omega, by show _ ≤ 7301314; omega⟩ ?_
                                          rintro r36 J36 L36 ⟨er36, hG36, eL36⟩
                                          rw [er36, eL36]
                                          refine g_pc (pc' := 639) rfl ?_
                                          refine g_il 0 dL_law_639 rfl ?_
                                          refine g_ic (v := nI 1) dL_law_641 (by decide) ?_
                                          refine g_iadd (v := nI 2) dL_law_642 (by decide) ?_
                                          refine gn_ne (tgt := 650) dL_law_643 (by decide) (by omega) (by omega) (fun h_20 => ?_) (fun h_20 => ?_)
                                          · skip
                                            exfalso; omega
                                          · skip
                                            refine g_ic (v := nI 1) dL_law_646 (by decide) ?_
                                            refine g_goto (tgt := 651) dL_law_647 (by decide) ?_
                                            refine g_is (lv' := [(4, .int (nI 1)), (15, .int (nI 1)), (14, .int (nI 1)), (13, .int (nI T)), (12, .int (nI (n * n))), (11, .int (nI Mn)), (0, .ref b), (1, .ref (γ.2.2 0)), (2, .int (nI n)), (3, .int (nI r9)), (5, .int (nI i)), (7, .int (nI z)), (9, .int (nI q)), (10, .int (nI 2))]) dL_law_651 (by decide) rfl ?_
                                            refine g_il 2 dL_law_653 rfl ?_
                                            refine g_pc (pc' := 655) rfl ?_
                                            refine g_bi (v := nI 10) dL_law_655 (by decide) ?_
                                            refine g_idiv (v := nI 0) dL_law_657 (by decide) (by decide) ?_
                                            refine g_is (lv' := [(14, .int (nI 0)), (4, .int (nI 1)), (15, .int (nI 1)), (13, .int (nI T)), (12, .int (nI (n * n))), (11, .int (nI Mn)), (0, .ref b), (1, .ref (γ.2.2 0)), (2, .int (nI n)), (3, .int (nI r9)), (5, .int (nI i)), (7, .int (nI z)), (9, .int (nI q)), (10, .int (nI 2))]) dL_law_658 (by decide) rfl ?_
                                            refine g_inc (v := nI 2) (lv' := [(15, .int (nI 2)), (14, .int (nI 0)), (4, .int (nI 1)), (13, .int (nI T)), (12, .int (nI (n * n))), (11, .int (nI Mn)), (0, .ref b), (1, .ref (γ.2.2 0)), (2, .int (nI n)), (3, .int (nI r9)), (5, .int (nI i)), (7, .int (nI z)), (9, .int (nI q)), (10, .int (nI 2))]) 2 dL_law_660 rfl (by decide) (by decide) rfl ?_
                                            refine g_goto (tgt := 615) dL_law_663 (by decide) ?_
                                            refine g_il 0 dL_law_615 rfl ?_
                                            refine g_il 13 dL_law_617 rfl ?_
                                            refine gn_ge (tgt := 666) dL_law_619 (by decide) (by omega) (by omega) (fun h_21 => ?_) (fun h_21 => ?_)
                                            · skip
                                              refine g_pc (pc' := 666) rfl ?_
                                              refine g_il 2 dL_law_666 rfl ?_
                                              refine gz_eq (tgt := 682) dL_law_668 (by decide) (by omega) (fun h_22 => ?_) (fun h_22 => ?_)
                                              · skip
                                                exfalso; omega
                                              · skip
                                                refine g_al_n 7 dL_law_671 rfl ?_
                                                refine g_ci (r_V (st := []) (As := []) (d := 5) 0 (by decide) rfl rfl (c_X4_readings l γ J36 L P g n r9 2 (ust (ust u 0 (dig n 2 j 0)) 1 (dig n 2 j 1)) hG36) gL_law_X4_readings rfl ⟨rfl, by decide, by decide, rfl⟩ ⟨Nat.le_of_ble_eq_true rfl, Nat.le_of_ble_eq_true rfl⟩ rfl (Nat.le_of_ble_eq_true rfl) dL_law_672 ⟨by show _ ≤ 600104; omega, by show _ ≤ 7301314; omega⟩) ?_
                                                rintro r37 J37 L37 ⟨er37, hG37, -, eL37⟩
                                                have hsu : isS g r9 (ust (ust u 0 (dig n 2 j 0)) 1 (dig n 2 j 1)) 2 = true := (isS_cong (fun p hp => by match p, hp with
                                                  | 0, _ => rfl
                                                  | 1, _ => rfl
                                                  | p + 2, h9 => exact absurd h9 (by omega))).trans hsn
                                                have hRz := (rdg_pos hG37.val16).mpr hsu
                                                have hRy := rdg_le g r9 (ust (ust u 0 (dig n 2 j 0)) 1 (dig n 2 j 1)) 2
                                                rw [er37, eL37]
                                                refine gz_le (tgt := 682) dL_law_675 (by decide) (by omega) (fun h_23 => ?_) (fun h_23 => ?_)
                                                · skip
                                                  exfalso; omega
                                                · skip
                                                  refine g_ic (v := nI 1) dL_law_678 (by decide) ?_
                                                  refine g_goto (tgt := 683) dL_law_679 (by decide) ?_
                                                  refine g_is (lv' := [(4, .int (nI 1)), (15, .int (nI 2)), (14, .int (nI 0)), (13, .int (nI T)), (12, .int (nI (n * n))), (11, .int (nI Mn)), (0, .ref b), (1, .ref (γ.2.2 0)), (2, .int (nI n)), (3, .int (nI r9)), (5, .int (nI i)), (7, .int (nI z)), (9, .int (nI q)), (10, .int (nI 2))]) dL_law_683 (by decide) rfl ?_
                                                  refine g_sub [6, 7, 8, 9, 0, 10, 11] rfl ?_
                                                  exact k685 _ _ _ _ _ J37 L P _ _ hG37 (by omega) (by omega) (by omega)
                                            · skip
                                              exfalso; omega
                            · skip
                              exfalso; omega
        · skip
          exact h_3.elim
    · skip
      exfalso; omega

set_option maxRecDepth 100000 in
set_option maxHeartbeats 4000000 in
theorem k_sent3 (l : Launch) (hl0 : l.stackTraces = false) (γ : Gm) (b Ln : Nat) (xs : Nat → Int32) (i N z : Nat) (hi : i < 30) (hz : z < 2 ^ 27) (k685 : N685 l γ b Ln xs i N z) (g : GR) (n r9 q : Nat) (u : Nat → Nat) (I : IT) (L : LT) (P : PT) (cells slots : Nat) (hG : GW I g n r9 q u) (hn5 : n ≤ 5) (hc : cells + 40 + 40 * N ≤ 600104) (hs : slots + 240 + 240 * N ≤ 7301314) (hn0 : 0 < n) : G (ELw b Ln xs) l cL_law 16 wsL_law RL (some .boolean) room_1 γ P ALw (QLw b) cells slots 441 [(0, .ref b), (1, .ref (γ.2.2 0)), (2, .int (nI n)), (3, .int (nI r9)), (4, .int (nI 1)), (5, .int (nI i)), (7, .int (nI z)), (9, .int (nI q)), (10, .int (nI 3))] [] I L := by
  have hq6 := hG.2.2.1
  have hr8 := hG.1.r_le
  have hA : n ^ 3 = n * n * n := (pow_3 n).2.2
  have hA0 : 0 < n * n * n := by rw [← hA]; exact Nat.pow_pos hn0
  have hA125 : n * n * n ≤ 125 := by rw [← hA]; exact Nat.le_trans (Nat.pow_le_pow_left hn5 3) (by decide)
  obtain ⟨Mn, hMn⟩ : ∃ Mn, Mn = bc (fun j => isS g r9 (dig n 3 j) 3) (n ^ 3) := ⟨_, rfl⟩
  have hMA : Mn ≤ n * n * n := Nat.le_trans (Nat.le_of_eq hMn) (Nat.le_trans (bc_le _ _) (Nat.le_of_eq hA))
  refine g_al_n 1 dL_law_441 rfl ?_
  refine g_il 8 dL_law_442 rfl ?_
  refine g_cl (mc := 1) (ms := 6) (st := []) (As := [.ref (γ.2.2 0), .int (nI 3)]) (d := 7) (c_L_sentences l hl0 γ I L P g n r9 q u hG 3 (by decide) (by decide)) gL_law_L_sentences rfl ⟨by decide, by decide, rfl⟩ ⟨Nat.le_of_ble_eq_true rfl, Nat.le_of_ble_eq_true rfl⟩ rfl (Nat.le_of_ble_eq_true rfl) dL_law_444 ⟨by show _ ≤ 600104; omega, by show _ ≤ 7301314; omega⟩ ?_
  rintro r1 J1 L1 ⟨er1, hG1, eL1⟩
  rw [er1, ← hMn, eL1]
  rcases Nat.eq_zero_or_pos Mn with e0 | e0
  · skip
    rw [e0]
    refine g_is (lv' := [(11, .int (nI 0)), (0, .ref b), (1, .ref (γ.2.2 0)), (2, .int (nI n)), (3, .int (nI r9)), (4, .int (nI 1)), (5, .int (nI i)), (7, .int (nI z)), (9, .int (nI q)), (10, .int (nI 3))]) dL_law_447 (by decide) rfl ?_
    refine g_il 9 dL_law_449 rfl ?_
    refine g_ic (v := nI 1) dL_law_451 (by decide) ?_
    refine gn_ne (tgt := 459) dL_law_452 (by decide) (by omega) (by omega) (fun h_1 => ?_) (fun h_1 => ?_)
    · skip
      refine g_il 9 dL_law_459 rfl ?_
      refine g_ic (v := nI 2) dL_law_461 (by decide) ?_
      refine gn_ne (tgt := 471) dL_law_462 (by decide) (by omega) (by omega) (fun h_2 => ?_) (fun h_2 => ?_)
      · skip
        refine g_pc (pc' := 471) rfl ?_
        refine g_il_n 3 dL_law_471 rfl ?_
        refine g_il_n 3 dL_law_472 rfl ?_
        refine g_imul (v := nI (n * n)) dL_law_473 (pk_mul _ _) ?_
        refine g_il_n 3 dL_law_474 rfl ?_
        refine g_imul (v := nI ((n * n) * n)) dL_law_475 (pk_mul _ _) ?_
        refine g_is (lv' := [(12, .int (nI ((n * n) * n))), (11, .int (nI 0)), (0, .ref b), (1, .ref (γ.2.2 0)), (2, .int (nI n)), (3, .int (nI r9)), (4, .int (nI 1)), (5, .int (nI i)), (7, .int (nI z)), (9, .int (nI q)), (10, .int (nI 3))]) dL_law_476 (by decide) rfl ?_
        refine g_al_n 3 dL_law_478 rfl ?_
        refine g_il 10 dL_law_479 rfl ?_
        refine g_pc (pc' := 481) rfl ?_
        refine g_il 1 dL_law_481 rfl ?_
        refine g_ic (v := nI 1) dL_law_483 (by decide) ?_
        refine g_isub (v := (-1 : Int32)) dL_law_484 (by decide) ?_
        refine g_if_ge (tgt := 492) dL_law_485 (by decide) (fun h_3 => ?_) (fun h_3 => ?_)
        · skip
          exact absurd h_3 (by decide)
        · skip
          refine g_ic (v := nI 0) dL_law_488 (by decide) ?_
          refine g_goto (tgt := 496) dL_law_489 (by decide) ?_
          refine g_cl (mc := 1) (ms := 6) (st := []) (As := [.ref (γ.2.2 0), .int (nI 3), .int (nI 0)]) (d := 7) (c_L_sentence l hl0 γ J1 L P g n r9 q u hG1 3 0 (by decide) (by decide) (by decide)) gL_law_L_sentence rfl ⟨by decide, by decide, rfl⟩ ⟨Nat.le_of_ble_eq_true rfl, Nat.le_of_ble_eq_true rfl⟩ rfl (Nat.le_of_ble_eq_true rfl) dL_law_496 ⟨by show _ ≤ 600104; omega, by show _ ≤ 7301314; omega⟩ ?_
          rintro r11 J11 L11 ⟨er11, hG11, eL11⟩
          rw [er11, sen_none (show bc (fun j => isS g r9 (dig n 3 j) 3) (n ^ 3) ≤ 0 by omega), eL11]
          refine g_is (lv' := [(13, .int (-1 : Int32)), (12, .int (nI ((n * n) * n))), (11, .int (nI 0)), (0, .ref b), (1, .ref (γ.2.2 0)), (2, .int (nI n)), (3, .int (nI r9)), (4, .int (nI 1)), (5, .int (nI i)), (7, .int (nI z)), (9, .int (nI q)), (10, .int (nI 3))]) dL_law_499 (by decide) rfl ?_
          refine g_pc (pc' := 501) rfl ?_
          refine g_il 2 dL_law_501 rfl ?_
          refine gz_lt (tgt := 569) dL_law_503 (by decide) (by omega) (fun h_4 => ?_) (fun h_4 => ?_)
          · skip
            exact h_4.elim
          · skip
            refine g_il 2 dL_law_506 rfl ?_
            refine g_il 1 dL_law_508 rfl ?_
            refine gn_gt (tgt := 569) dL_law_510 (by decide) (by omega) (by omega) (fun h_5 => ?_) (fun h_5 => ?_)
            · skip
              exfalso; omega
            · skip
              refine g_al_n 4 dL_law_513 rfl ?_
              refine g_il 11 dL_law_514 rfl ?_
              refine g_clf (mc := 1) (ms := 6) (st := []) (As := [.ref (γ.2.2 0), .int (nI 3)]) (d := 7) (c_L_share l hl0 γ J11 L P g n r9 q u hG11 3 (by decide) (by decide)) gL_law_L_share rfl ⟨by decide, by decide, rfl⟩ ⟨Nat.le_of_ble_eq_true rfl, Nat.le_of_ble_eq_true rfl⟩ rfl (Nat.le_of_ble_eq_true rfl) dL_law_516 ⟨by show _ ≤ 600104; omega, by show _ ≤ 7301314; omega⟩ ?_
              rintro r12 J12 L12 ⟨er12, hG12, eL12⟩
              rw [er12, shr_eq hn0 (hMn.symm.trans e0) hA, eL12]
              refine g_pc (pc' := 519) rfl ?_
              refine g_il 2 dL_law_519 rfl ?_
              refine g_i2f dL_law_521 ?_
              refine g_il 1 dL_law_522 rfl ?_
              refine g_i2f dL_law_524 ?_
              refine g_fdiv dL_law_525 (fd_ok (nI_nz (by omega) (by omega))) ?_
              refine g_fcmp (v := nI 0) dL_law_526 ((fself (fd_ok (nI_nz (by omega) (by omega)))).trans nI_0.symm) ?_
              refine gz_ne (tgt := 569) dL_law_527 (by decide) (by omega) (fun h_6 => ?_) (fun h_6 => ?_)
              · skip
                exfalso; omega
              · skip
                refine g_al_n 4 dL_law_530 rfl ?_
                refine g_pc (pc' := 531) rfl ?_
                refine g_il 11 dL_law_531 rfl ?_
                refine g_il 2 dL_law_533 rfl ?_
                refine g_cl (mc := 1) (ms := 6) (st := []) (As := [.ref (γ.2.2 0), .int (nI 3), .int (nI 0)]) (d := 7) (c_L_sentence l hl0 γ J12 L P g n r9 q u hG12 3 0 (by decide) (by decide) (by omega)) gL_law_L_sentence rfl ⟨by decide, by decide, rfl⟩ ⟨Nat.le_of_ble_eq_true rfl, Nat.le_of_ble_eq_true rfl⟩ rfl (Nat.le_of_ble_eq_true rfl) dL_law_535 ⟨by show _ ≤ 600104; omega, by show _ ≤ 7301314; omega⟩ ?_
                rintro r13 J13 L13 ⟨er13, hG13, eL13⟩
                rw [er13, sen_none (show bc (fun j => isS g r9 (dig n 3 j) 3) (n ^ 3) ≤ 0 by omega), eL13]
                refine g_ic (v := (-1 : Int32)) dL_law_538 (by decide) ?_
                refine g_ic_ne (tgt := 569) dL_law_539 (by decide) (fun h_7 => ?_) (fun h_7 => ?_)
                · skip
                  exact absurd rfl h_7
                · skip
                  refine g_il 2 dL_law_542 rfl ?_
                  refine gz_le (tgt := 551) dL_law_544 (by decide) (by omega) (fun h_8 => ?_) (fun h_8 => ?_)
                  · skip
                    refine g_ic (v := nI 0) dL_law_551 (by decide) ?_
                    refine g_pc (pc' := 552) rfl ?_
                    refine g_il 0 dL_law_552 rfl ?_
                    refine g_if_le (tgt := 561) dL_law_554 (by decide) (fun h_9 => ?_) (fun h_9 => ?_)
                    · skip
                      refine g_ic (v := nI 0) dL_law_561 (by decide) ?_
                      refine gn_ne (tgt := 569) dL_law_562 (by decide) (by omega) (by omega) (fun h_10 => ?_) (fun h_10 => ?_)
                      · skip
                        exfalso; omega
                      · skip
                        refine g_ic (v := nI 1) dL_law_565 (by decide) ?_
                        refine g_goto (tgt := 570) dL_law_566 (by decide) ?_
                        refine g_is (lv' := [(4, .int (nI 1)), (13, .int (-1 : Int32)), (12, .int (nI ((n * n) * n))), (11, .int (nI 0)), (0, .ref b), (1, .ref (γ.2.2 0)), (2, .int (nI n)), (3, .int (nI r9)), (5, .int (nI i)), (7, .int (nI z)), (9, .int (nI q)), (10, .int (nI 3))]) dL_law_570 (by decide) rfl ?_
                        refine g_il 0 dL_law_572 rfl ?_
                        refine g_pc (pc' := 574) rfl ?_
                        refine gz_eq (tgt := 685) dL_law_574 (by decide) (by omega) (fun h_11 => ?_) (fun h_11 => ?_)
                        · skip
                          exfalso; omega
                        · skip
                          refine g_il 3 dL_law_577 rfl ?_
                          refine gz_le (tgt := 685) dL_law_579 (by decide) (by omega) (fun h_12 => ?_) (fun h_12 => ?_)
                          · skip
                            refine g_sub [4, 5, 6, 7, 0, 8, 9] rfl ?_
                            exact k685 _ _ _ _ _ J13 L P _ _ hG13 (by omega) (by omega) (by omega)
                          · skip
                            exfalso; omega
                    · skip
                      exact absurd (by decide) h_9
                  · skip
                    exfalso; omega
      · skip
        exfalso; omega
    · skip
      exfalso; omega
  · skip
    obtain ⟨j, esn, hsn⟩ := sen_some (g := g) (r := r9) (n := n) (m := 3) (by omega)
    rw [← hMn] at esn
    have hx10 : ∀ p, dig n 3 j p < 10 := fun p => Nat.lt_of_lt_of_le (dig_lt hn0) (by omega)
    have htl := tdig_lt hx10 3
    have htd := tdig_d3 hx10
    obtain ⟨T, eT⟩ : ∃ T, T = tdig (dig n 3 j) 3 := ⟨_, rfl⟩
    rw [← eT] at esn htl htd
    refine g_is (lv' := [(11, .int (nI Mn)), (0, .ref b), (1, .ref (γ.2.2 0)), (2, .int (nI n)), (3, .int (nI r9)), (4, .int (nI 1)), (5, .int (nI i)), (7, .int (nI z)), (9, .int (nI q)), (10, .int (nI 3))]) dL_law_447 (by decide) rfl ?_
    refine g_il 9 dL_law_449 rfl ?_
    refine g_ic (v := nI 1) dL_law_451 (by decide) ?_
    refine gn_ne (tgt := 459) dL_law_452 (by decide) (by omega) (by omega) (fun h_1 => ?_) (fun h_1 => ?_)
    · skip
      refine g_il 9 dL_law_459 rfl ?_
      refine g_ic (v := nI 2) dL_law_461 (by decide) ?_
      refine gn_ne (tgt := 471) dL_law_462 (by decide) (by omega) (by omega) (fun h_2 => ?_) (fun h_2 => ?_)
      · skip
        refine g_pc (pc' := 471) rfl ?_
        refine g_il_n 3 dL_law_471 rfl ?_
        refine g_il_n 3 dL_law_472 rfl ?_
        refine g_imul (v := nI (n * n)) dL_law_473 (pk_mul _ _) ?_
        refine g_il_n 3 dL_law_474 rfl ?_
        refine g_imul (v := nI ((n * n) * n)) dL_law_475 (pk_mul _ _) ?_
        refine g_is (lv' := [(12, .int (nI ((n * n) * n))), (11, .int (nI Mn)), (0, .ref b), (1, .ref (γ.2.2 0)), (2, .int (nI n)), (3, .int (nI r9)), (4, .int (nI 1)), (5, .int (nI i)), (7, .int (nI z)), (9, .int (nI q)), (10, .int (nI 3))]) dL_law_476 (by decide) rfl ?_
        refine g_al_n 3 dL_law_478 rfl ?_
        refine g_il 10 dL_law_479 rfl ?_
        refine g_pc (pc' := 481) rfl ?_
        refine g_il 1 dL_law_481 rfl ?_
        refine g_ic (v := nI 1) dL_law_483 (by decide) ?_
        refine g_isub (v := nI (Mn - 1)) dL_law_484 (pk_sub (by omega)) ?_
        refine gz_ge (tgt := 492) dL_law_485 (by decide) (by omega) (fun h_3 => ?_) (fun h_3 => ?_)
        · skip
          refine g_il 1 dL_law_492 rfl ?_
          refine g_ic (v := nI 1) dL_law_494 (by decide) ?_
          refine g_isub (v := nI (Mn - 1)) dL_law_495 (pk_sub (by omega)) ?_
          refine g_cl (mc := 1) (ms := 6) (st := []) (As := [.ref (γ.2.2 0), .int (nI 3), .int (nI (Mn - 1))]) (d := 7) (c_L_sentence l hl0 γ J1 L P g n r9 q u hG1 3 (Mn - 1) (by decide) (by decide) (by omega)) gL_law_L_sentence rfl ⟨by decide, by decide, rfl⟩ ⟨Nat.le_of_ble_eq_true rfl, Nat.le_of_ble_eq_true rfl⟩ rfl (Nat.le_of_ble_eq_true rfl) dL_law_496 ⟨by show _ ≤ 600104; omega, by show _ ≤ 7301314; omega⟩ ?_
          rintro r31 J31 L31 ⟨er31, hG31, eL31⟩
          rw [er31, esn, eL31]
          refine g_pc (pc' := 499) rfl ?_
          refine g_is (lv' := [(13, .int (nI T)), (12, .int (nI ((n * n) * n))), (11, .int (nI Mn)), (0, .ref b), (1, .ref (γ.2.2 0)), (2, .int (nI n)), (3, .int (nI r9)), (4, .int (nI 1)), (5, .int (nI i)), (7, .int (nI z)), (9, .int (nI q)), (10, .int (nI 3))]) dL_law_499 (by decide) rfl ?_
          refine g_il 2 dL_law_501 rfl ?_
          refine gz_lt (tgt := 569) dL_law_503 (by decide) (by omega) (fun h_4 => ?_) (fun h_4 => ?_)
          · skip
            exact h_4.elim
          · skip
            refine g_il 2 dL_law_506 rfl ?_
            refine g_il 1 dL_law_508 rfl ?_
            refine gn_gt (tgt := 569) dL_law_510 (by decide) (by omega) (by omega) (fun h_5 => ?_) (fun h_5 => ?_)
            · skip
              exfalso; omega
            · skip
              refine g_al_n 4 dL_law_513 rfl ?_
              refine g_il 11 dL_law_514 rfl ?_
              refine g_pc (pc' := 516) rfl ?_
              refine g_clf (mc := 1) (ms := 6) (st := []) (As := [.ref (γ.2.2 0), .int (nI 3)]) (d := 7) (c_L_share l hl0 γ J31 L P g n r9 q u hG31 3 (by decide) (by decide)) gL_law_L_share rfl ⟨by decide, by decide, rfl⟩ ⟨Nat.le_of_ble_eq_true rfl, Nat.le_of_ble_eq_true rfl⟩ rfl (Nat.le_of_ble_eq_true rfl) dL_law_516 ⟨by show _ ≤ 600104; omega, by show _ ≤ 7301314; omega⟩ ?_
              rintro r32 J32 L32 ⟨er32, hG32, eL32⟩
              rw [er32, shr_eq hn0 (hMn.symm) hA, eL32]
              refine g_il 2 dL_law_519 rfl ?_
              refine g_i2f dL_law_521 ?_
              refine g_il 1 dL_law_522 rfl ?_
              refine g_i2f dL_law_524 ?_
              refine g_fdiv dL_law_525 (fd_ok (nI_nz (by omega) (by omega))) ?_
              refine g_fcmp (v := nI 0) dL_law_526 ((fself (fd_ok (nI_nz (by omega) (by omega)))).trans nI_0.symm) ?_
              refine gz_ne (tgt := 569) dL_law_527 (by decide) (by omega) (fun h_6 => ?_) (fun h_6 => ?_)
              · skip
                exfalso; omega
              · skip
                refine g_pc (pc' := 530) rfl ?_
                refine g_al_n 4 dL_law_530 rfl ?_
                refine g_il 11 dL_law_531 rfl ?_
                refine g_il 2 dL_law_533 rfl ?_
                refine g_cl (mc := 1) (ms := 6) (st := []) (As := [.ref (γ.2.2 0), .int (nI 3), .int (nI Mn)]) (d := 7) (c_L_sentence l hl0 γ J32 L P g n r9 q u hG32 3 Mn (by decide) (by decide) (by omega)) gL_law_L_sentence rfl ⟨by decide, by decide, rfl⟩ ⟨Nat.le_of_ble_eq_true rfl, Nat.le_of_ble_eq_true rfl⟩ rfl (Nat.le_of_ble_eq_true rfl) dL_law_535 ⟨by show _ ≤ 600104; omega, by show _ ≤ 7301314; omega⟩ ?_
                rintro r33 J33 L33 ⟨er33, hG33, eL33⟩
                rw [er33, sen_none (show bc (fun j => isS g r9 (dig n 3 j) 3) (n ^ 3) ≤ Mn by omega), eL33]
                refine g_ic (v := (-1 : Int32)) dL_law_538 (by decide) ?_
                refine g_ic_ne (tgt := 569) dL_law_539 (by decide) (fun h_7 => ?_) (fun h_7 => ?_)
                · skip
                  exact absurd rfl h_7
                · skip
                  refine g_il 2 dL_law_542 rfl ?_
                  refine gz_le (tgt := 551) dL_law_544 (by decide) (by omega) (fun h_8 => ?_) (fun h_8 => ?_)
                  · skip
                    exfalso; omega
                  · skip
                    refine g_pc (pc' := 547) rfl ?_
                    refine g_ic (v := nI 1) dL_law_547 (by decide) ?_
                    refine g_goto (tgt := 552) dL_law_548 (by decide) ?_
                    refine g_il 0 dL_law_552 rfl ?_
                    refine gz_le (tgt := 561) dL_law_554 (by decide) (by omega) (fun h_9 => ?_) (fun h_9 => ?_)
                    · skip
                      exfalso; omega
                    · skip
                      refine g_ic (v := nI 1) dL_law_557 (by decide) ?_
                      refine g_goto (tgt := 562) dL_law_558 (by decide) ?_
                      refine gn_ne (tgt := 569) dL_law_562 (by decide) (by omega) (by omega) (fun h_10 => ?_) (fun h_10 => ?_)
                      · skip
                        exfalso; omega
                      · skip
                        refine g_ic (v := nI 1) dL_law_565 (by decide) ?_
                        refine g_pc (pc' := 566) rfl ?_
                        refine g_goto (tgt := 570) dL_law_566 (by decide) ?_
                        refine g_is (lv' := [(4, .int (nI 1)), (13, .int (nI T)), (12, .int (nI ((n * n) * n))), (11, .int (nI Mn)), (0, .ref b), (1, .ref (γ.2.2 0)), (2, .int (nI n)), (3, .int (nI r9)), (5, .int (nI i)), (7, .int (nI z)), (9, .int (nI q)), (10, .int (nI 3))]) dL_law_570 (by decide) rfl ?_
                        refine g_il 0 dL_law_572 rfl ?_
                        refine gz_eq (tgt := 685) dL_law_574 (by decide) (by omega) (fun h_11 => ?_) (fun h_11 => ?_)
                        · skip
                          exfalso; omega
                        · skip
                          refine g_il 3 dL_law_577 rfl ?_
                          refine gz_le (tgt := 685) dL_law_579 (by decide) (by omega) (fun h_12 => ?_) (fun h_12 => ?_)
                          · skip
                            exfalso; omega
                          · skip
                            refine g_al_n 5 dL_law_582 rfl ?_
                            refine g_ci (r_V (st := []) (As := []) (d := 0) 0 (by decide) rfl rfl (c_X4_hush l γ J33 L P g n r9 q u hG33) gL_law_X4_hush rfl ⟨rfl, by decide, by decide, rfl⟩ ⟨Nat.le_of_ble_eq_true rfl, Nat.le_of_ble_eq_true rfl⟩ rfl (Nat.le_of_ble_eq_true rfl) dL_law_583 ⟨by show _ ≤ 600104; omega, by show _ ≤ 7301314; omega⟩) ?_
                            rintro r34 J34 L34 ⟨er34, hG34, -, eL34⟩
                            rw [er34, eL34]
                            refine g_pc (pc' := 586) rfl ?_
                            refine g_pop dL_law_586 rfl ?_
                            refine g_il 11 dL_law_587 rfl ?_
                            refine g_ic (v := nI 1) dL_law_589 (by decide) ?_
                            refine gn_ne (tgt := 597) dL_law_590 (by decide) (by omega) (by omega) (fun h_13 => ?_) (fun h_13 => ?_)
                            · skip
                              refine g_il 11 dL_law_597 rfl ?_
                              refine g_ic (v := nI 2) dL_law_599 (by decide) ?_
                              refine gn_ne (tgt := 608) dL_law_600 (by decide) (by omega) (by omega) (fun h_14 => ?_) (fun h_14 => ?_)
                              · skip
                                refine g_bi (v := nI 100) dL_law_608 (by decide) ?_
                                refine g_pc (pc' := 610) rfl ?_
                                refine g_is (lv' := [(14, .int (nI 100)), (4, .int (nI 1)), (13, .int (nI T)), (12, .int (nI ((n * n) * n))), (11, .int (nI Mn)), (0, .ref b), (1, .ref (γ.2.2 0)), (2, .int (nI n)), (3, .int (nI r9)), (5, .int (nI i)), (7, .int (nI z)), (9, .int (nI q)), (10, .int (nI 3))]) dL_law_610 (by decide) rfl ?_
                                refine g_ic (v := nI 0) dL_law_612 (by decide) ?_
                                refine g_is (lv' := [(15, .int (nI 0)), (14, .int (nI 100)), (4, .int (nI 1)), (13, .int (nI T)), (12, .int (nI ((n * n) * n))), (11, .int (nI Mn)), (0, .ref b), (1, .ref (γ.2.2 0)), (2, .int (nI n)), (3, .int (nI r9)), (5, .int (nI i)), (7, .int (nI z)), (9, .int (nI q)), (10, .int (nI 3))]) dL_law_613 (by decide) rfl ?_
                                refine g_il 0 dL_law_615 rfl ?_
                                refine g_il 13 dL_law_617 rfl ?_
                                refine gn_ge (tgt := 666) dL_law_619 (by decide) (by omega) (by omega) (fun h_15 => ?_) (fun h_15 => ?_)
                                · skip
                                  exfalso; omega
                                · skip
                                  refine g_il 2 dL_law_622 rfl ?_
                                  refine gz_eq (tgt := 666) dL_law_624 (by decide) (by omega) (fun h_16 => ?_) (fun h_16 => ?_)
                                  · skip
                                    exfalso; omega
                                  · skip
                                    refine g_pc (pc' := 627) rfl ?_
                                    refine g_al_n 7 dL_law_627 rfl ?_
                                    refine g_il 3 dL_law_628 rfl ?_
                                    refine g_il 1 dL_law_630 rfl ?_
                                    refine g_idiv (v := nI (T / 100)) dL_law_632 (by decide) (pk_div (by omega) (by omega) (by omega)) ?_
                                    refine g_bi (v := nI 10) dL_law_633 (by decide) ?_
                                    refine g_irem (v := nI (dig n 3 j 0)) dL_law_635 (by decide) ((pk_rem (by omega) (by omega) (by omega)).trans (congrArg nI (by omega))) ?_
                                    refine g_cl (mc := 1) (ms := 6) (st := []) (As := [.ref (γ.2.2 0), .int (nI (dig n 3 j 0))]) (d := 2) (c_L_say l hl0 γ J34 L P g n r9 0 u hG34 (dig n 3 j 0) (dig_lt hn0) (by decide)) gL_law_L_say rfl ⟨by decide, by decide, rfl⟩ ⟨Nat.le_of_ble_eq_true rfl, Nat.le_of_ble_eq_true rfl⟩ rfl (Nat.le_of_ble_eq_true rfl) dL_law_636 ⟨by show _ ≤ 600104; omega, by show _ ≤ 7301314; omega⟩ ?_
                                    rintro r35 J35 L35 ⟨er35, hG35, eL35⟩
                                    rw [er35, eL35]
                                    refine g_il 0 dL_law_639 rfl ?_
                                    refine g_pc (pc' := 641) rfl ?_
                                    refine g_ic (v := nI 1) dL_law_641 (by decide) ?_
                                    refine g_iadd (v := nI 1) dL_law_642 (by decide) ?_
                                    refine gn_ne (tgt := 650) dL_law_643 (by decide) (by omega) (by omega) (fun h_17 => ?_) (fun h_17 => ?_)
                                    · skip
                                      exfalso; omega
                                    · skip
                                      refine g_ic (v := nI 1) dL_law_646 (by decide) ?_
                                      refine g_goto (tgt := 651) dL_law_647 (by decide) ?_
                                      refine g_is (lv' := [(4, .int (nI 1)), (15, .int (nI 0)), (14, .int (nI 100)), (13, .int (nI T)), (12, .int (nI ((n * n) * n))), (11, .int (nI Mn)), (0, .ref b), (1, .ref (γ.2.2 0)), (2, .int (nI n)), (3, .int (nI r9)), (5, .int (nI i)), (7, .int (nI z)), (9, .int (nI q)), (10, .int (nI 3))]) dL_law_651 (by decide) rfl ?_
                                      refine g_il 2 dL_law_653 rfl ?_
                                      refine g_bi (v := nI 10) dL_law_655 (by decide) ?_
                                      refine g_pc (pc' := 657) rfl ?_
                                      refine g_idiv (v := nI 10) dL_law_657 (by decide) (by decide) ?_
                                      refine g_is (lv' := [(14, .int (nI 10)), (4, .int (nI 1)), (15, .int (nI 0)), (13, .int (nI T)), (12, .int (nI ((n * n) * n))), (11, .int (nI Mn)), (0, .ref b), (1, .ref (γ.2.2 0)), (2, .int (nI n)), (3, .int (nI r9)), (5, .int (nI i)), (7, .int (nI z)), (9, .int (nI q)), (10, .int (nI 3))]) dL_law_658 (by decide) rfl ?_
                                      refine g_inc (v := nI 1) (lv' := [(15, .int (nI 1)), (14, .int (nI 10)), (4, .int (nI 1)), (13, .int (nI T)), (12, .int (nI ((n * n) * n))), (11, .int (nI Mn)), (0, .ref b), (1, .ref (γ.2.2 0)), (2, .int (nI n)), (3, .int (nI r9)), (5, .int (nI i)), (7, .int (nI z)), (9, .int (nI q)), (10, .int (nI 3))]) 2 dL_law_660 rfl (by decide) (by decide) rfl ?_
                                      refine g_goto (tgt := 615) dL_law_663 (by decide) ?_
                                      refine g_il 0 dL_law_615 rfl ?_
                                      refine g_il 13 dL_law_617 rfl ?_
                                      refine gn_ge (tgt := 666) dL_law_619 (by decide) (by omega) (by omega) (fun h_18 => ?_) (fun h_18 => ?_)
                                      · skip
                                        exfalso; omega
                                      · skip
                                        refine g_il 2 dL_law_622 rfl ?_
                                        refine g_pc (pc' := 624) rfl ?_
                                        refine gz_eq (tgt := 666) dL_law_624 (by decide) (by omega) (fun h_19 => ?_) (fun h_19 => ?_)
                                        · skip
                                          exfalso; omega
                                        · skip
                                          refine g_al_n 7 dL_law_627 rfl ?_
                                          refine g_il 3 dL_law_628 rfl ?_
                                          refine g_il 1 dL_law_630 rfl ?_
                                          refine g_idiv (v := nI (T / 10)) dL_law_632 (by decide) (pk_div (by omega) (by omega) (by omega)) ?_
                                          refine g_bi (v := nI 10) dL_law_633 (by decide) ?_
                                          refine g_irem (v := nI (dig n 3 j 1)) dL_law_635 (by decide) ((pk_rem (by omega) (by omega) (by omega)).trans (congrArg nI (by omega))) ?_
                                          refine g_cl (mc := 1) (ms := 6) (st := []) (As := [.ref (γ.2.2 0), .int (nI (dig n 3 j 1))]) (d := 2) (c_L_say l hl0 γ J35 L P g n r9 1 (ust u 0 (dig n 3 j 0)) hG35 (dig n 3 j 1) (dig_lt hn0) (by decide)) gL_law_L_say rfl ⟨by decide, by decide, rfl⟩ ⟨Nat.le_of_ble_eq_true rfl, Nat.le_of_ble_eq_true rfl⟩ rfl (Nat.le_of_ble_eq_true rfl) dL_law_636 ⟨by show _ ≤ 600104; omega, by show _ ≤ 7301314; omega⟩ ?_
                                          rintro r36 J36 L36 ⟨er36, hG36, eL36⟩
                                          rw [er36, eL36]
                                          refine g_pc (pc' := 639) rfl ?_
                                          refine g_il 0 dL_law_639 rfl ?_
                                          refine g_ic (v := nI 1) dL_law_641 (by decide) ?_
                                          refine g_iadd (v := nI 2) dL_law_642 (by decide) ?_
                                          refine gn_ne (tgt := 650) dL_law_643 (by decide) (by omega) (by omega) (fun h_20 => ?_) (fun h_20 => ?_)
                                          · skip
                                            exfalso; omega
                                          · skip
                                            refine g_ic (v := nI 1) dL_law_646 (by decide) ?_
                                            refine g_goto (tgt := 651) dL_law_647 (by decide) ?_
                                            refine g_is (lv' := [(4, .int (nI 1)), (15, .int (nI 1)), (14, .int (nI 10)), (13, .int (nI T)), (12, .int (nI ((n * n) * n))), (11, .int (nI Mn)), (0, .ref b), (1, .ref (γ.2.2 0)), (2, .int (nI n)), (3, .int (nI r9)), (5, .int (nI i)), (7, .int (nI z)), (9, .int (nI q)), (10, .int (nI 3))]) dL_law_651 (by decide) rfl ?_
                                            refine g_il 2 dL_law_653 rfl ?_
                                            refine g_pc (pc' := 655) rfl ?_
                                            refine g_bi (v := nI 10) dL_law_655 (by decide) ?_
                                            refine g_idiv (v := nI 1) dL_law_657 (by decide) (by decide) ?_
                                            refine g_is (lv' := [(14, .int (nI 1)), (4, .int (nI 1)), (15, .int (nI 1)), (13, .int (nI T)), (12, .int (nI ((n * n) * n))), (11, .int (nI Mn)), (0, .ref b), (1, .ref (γ.2.2 0)), (2, .int (nI n)), (3, .int (nI r9)), (5, .int (nI i)), (7, .int (nI z)), (9, .int (nI q)), (10, .int (nI 3))]) dL_law_658 (by decide) rfl ?_
                                            refine g_inc (v := nI 2) (lv' := [(15, .int (nI 2)), (14, .int (nI 1)), (4, .int (nI 1)), (13, .int (nI T)), (12, .int (nI ((n * n) * n))), (11, .int (nI Mn)), (0, .ref b), (1, .ref (γ.2.2 0)), (2, .int (nI n)), (3, .int (nI r9)), (5, .int (nI i)), (7, .int (nI z)), (9, .int (nI q)), (10, .int (nI 3))]) 2 dL_law_660 rfl (by decide) (by decide) rfl ?_
                                            refine g_goto (tgt := 615) dL_law_663 (by decide) ?_
                                            refine g_il 0 dL_law_615 rfl ?_
                                            refine g_il 13 dL_law_617 rfl ?_
                                            refine gn_ge (tgt := 666) dL_law_619 (by decide) (by omega) (by omega) (fun h_21 => ?_) (fun h_21 => ?_)
                                            · skip
                                              exfalso; omega
                                            · skip
                                              refine g_pc (pc' := 622) rfl ?_
                                              refine g_il 2 dL_law_622 rfl ?_
                                              refine gz_eq (tgt := 666) dL_law_624 (by decide) (by omega) (fun h_22 => ?_) (fun h_22 => ?_)
                                              · skip
                                                exfalso; omega
                                              · skip
                                                refine g_al_n 7 dL_law_627 rfl ?_
                                                refine g_il 3 dL_law_628 rfl ?_
                                                refine g_il 1 dL_law_630 rfl ?_
                                                refine g_idiv (v := nI (T / 1)) dL_law_632 (by decide) (pk_div (by omega) (by omega) (by omega)) ?_
                                                refine g_bi (v := nI 10) dL_law_633 (by decide) ?_
                                                refine g_irem (v := nI (dig n 3 j 2)) dL_law_635 (by decide) ((pk_rem (by omega) (by omega) (by omega)).trans (congrArg nI (by omega))) ?_
                                                refine g_pc (pc' := 636) rfl ?_
                                                refine g_cl (mc := 1) (ms := 6) (st := []) (As := [.ref (γ.2.2 0), .int (nI (dig n 3 j 2))]) (d := 2) (c_L_say l hl0 γ J36 L P g n r9 2 (ust (ust u 0 (dig n 3 j 0)) 1 (dig n 3 j 1)) hG36 (dig n 3 j 2) (dig_lt hn0) (by decide)) gL_law_L_say rfl ⟨by decide, by decide, rfl⟩ ⟨Nat.le_of_ble_eq_true rfl, Nat.le_of_ble_eq_true rfl⟩ rfl (Nat.le_of_ble_eq_true rfl) dL_law_636 ⟨by show _ ≤ 600104; omega, by show _ ≤ 7301314; omega⟩ ?_
                                                rintro r37 J37 L37 ⟨er37, hG37, eL37⟩
                                                rw [er37, eL37]
                                                refine g_il 0 dL_law_639 rfl ?_
                                                refine g_ic (v := nI 1) dL_law_641 (by decide) ?_
                                                refine g_iadd (v := nI 3) dL_law_642 (by decide) ?_
                                                refine gn_ne (tgt := 650) dL_law_643 (by decide) (by omega) (by omega) (fun h_23 => ?_) (fun h_23 => ?_)
                                                · skip
                                                  exfalso; omega
                                                · skip
                                                  refine g_ic (v := nI 1) dL_law_646 (by decide) ?_
                                                  refine g_goto (tgt := 651) dL_law_647 (by decide) ?_
                                                  refine g_is (lv' := [(4, .int (nI 1)), (15, .int (nI 2)), (14, .int (nI 1)), (13, .int (nI T)), (12, .int (nI ((n * n) * n))), (11, .int (nI Mn)), (0, .ref b), (1, .ref (γ.2.2 0)), (2, .int (nI n)), (3, .int (nI r9)), (5, .int (nI i)), (7, .int (nI z)), (9, .int (nI q)), (10, .int (nI 3))]) dL_law_651 (by decide) rfl ?_
                                                  refine g_pc (pc' := 653) rfl ?_
                                                  refine g_il 2 dL_law_653 rfl ?_
                                                  refine g_bi (v := nI 10) dL_law_655 (by decide) ?_
                                                  refine g_idiv (v := nI 0) dL_law_657 (by decide) (by decide) ?_
                                                  refine g_is (lv' := [(14, .int (nI 0)), (4, .int (nI 1)), (15, .int (nI 2)), (13, .int (nI T)), (12, .int (nI ((n * n) * n))), (11, .int (nI Mn)), (0, .ref b), (1, .ref (γ.2.2 0)), (2, .int (nI n)), (3, .int (nI r9)), (5, .int (nI i)), (7, .int (nI z)), (9, .int (nI q)), (10, .int (nI 3))]) dL_law_658 (by decide) rfl ?_
                                                  refine g_inc (v := nI 3) (lv' := [(15, .int (nI 3)), (14, .int (nI 0)), (4, .int (nI 1)), (13, .int (nI T)), (12, .int (nI ((n * n) * n))), (11, .int (nI Mn)), (0, .ref b), (1, .ref (γ.2.2 0)), (2, .int (nI n)), (3, .int (nI r9)), (5, .int (nI i)), (7, .int (nI z)), (9, .int (nI q)), (10, .int (nI 3))]) 2 dL_law_660 rfl (by decide) (by decide) rfl ?_
                                                  refine g_goto (tgt := 615) dL_law_663 (by decide) ?_
                                                  refine g_il 0 dL_law_615 rfl ?_
                                                  refine g_il 13 dL_law_617 rfl ?_
                                                  refine g_pc (pc' := 619) rfl ?_
                                                  refine gn_ge (tgt := 666) dL_law_619 (by decide) (by omega) (by omega) (fun h_24 => ?_) (fun h_24 => ?_)
                                                  · skip
                                                    refine g_il 2 dL_law_666 rfl ?_
                                                    refine gz_eq (tgt := 682) dL_law_668 (by decide) (by omega) (fun h_25 => ?_) (fun h_25 => ?_)
                                                    · skip
                                                      exfalso; omega
                                                    · skip
                                                      refine g_al_n 7 dL_law_671 rfl ?_
                                                      refine g_ci (r_V (st := []) (As := []) (d := 5) 0 (by decide) rfl rfl (c_X4_readings l γ J37 L P g n r9 3 (ust (ust (ust u 0 (dig n 3 j 0)) 1 (dig n 3 j 1)) 2 (dig n 3 j 2)) hG37) gL_law_X4_readings rfl ⟨rfl, by decide, by decide, rfl⟩ ⟨Nat.le_of_ble_eq_true rfl, Nat.le_of_ble_eq_true rfl⟩ rfl (Nat.le_of_ble_eq_true rfl) dL_law_672 ⟨by show _ ≤ 600104; omega, by show _ ≤ 7301314; omega⟩) ?_
                                                      rintro r38 J38 L38 ⟨er38, hG38, -, eL38⟩
                                                      have hsu : isS g r9 (ust (ust (ust u 0 (dig n 3 j 0)) 1 (dig n 3 j 1)) 2 (dig n 3 j 2)) 3 = true := (isS_cong (fun p hp => by match p, hp with
                                                        | 0, _ => rfl
                                                        | 1, _ => rfl
                                                        | 2, _ => rfl
                                                        | p + 3, h9 => exact absurd h9 (by omega))).trans hsn
                                                      have hRz := (rdg_pos hG38.val16).mpr hsu
                                                      have hRy := rdg_le g r9 (ust (ust (ust u 0 (dig n 3 j 0)) 1 (dig n 3 j 1)) 2 (dig n 3 j 2)) 3
                                                      rw [er38, eL38]
                                                      refine gz_le (tgt := 682) dL_law_675 (by decide) (by omega) (fun h_26 => ?_) (fun h_26 => ?_)
                                                      · skip
                                                        exfalso; omega
                                                      · skip
                                                        refine g_ic (v := nI 1) dL_law_678 (by decide) ?_
                                                        refine g_goto (tgt := 683) dL_law_679 (by decide) ?_
                                                        refine g_pc (pc' := 683) rfl ?_
                                                        refine g_is (lv' := [(4, .int (nI 1)), (15, .int (nI 3)), (14, .int (nI 0)), (13, .int (nI T)), (12, .int (nI ((n * n) * n))), (11, .int (nI Mn)), (0, .ref b), (1, .ref (γ.2.2 0)), (2, .int (nI n)), (3, .int (nI r9)), (5, .int (nI i)), (7, .int (nI z)), (9, .int (nI q)), (10, .int (nI 3))]) dL_law_683 (by decide) rfl ?_
                                                        refine g_sub [6, 7, 8, 9, 0, 10, 11] rfl ?_
                                                        exact k685 _ _ _ _ _ J38 L P _ _ hG38 (by omega) (by omega) (by omega)
                                                  · skip
                                                    exfalso; omega
                              · skip
                                exfalso; omega
                            · skip
                              exfalso; omega
        · skip
          exact h_3.elim
      · skip
        exfalso; omega
    · skip
      exfalso; omega

set_option maxRecDepth 100000 in
set_option maxHeartbeats 4000000 in
theorem k_disp (l : Launch) (hl0 : l.stackTraces = false) (γ : Gm) (b Ln : Nat) (xs : Nat → Int32) (i N z : Nat) (hi : i < 30) (hz : z < 2 ^ 27) (k685 : N685 l γ b Ln xs i N z) (g : GR) (n r9 q : Nat) (u : Nat → Nat) (I : IT) (L : LT) (P : PT) (cells slots : Nat) (hG : GW I g n r9 q u) (hn5 : n ≤ 5) (hc : cells + 40 + 40 * N ≤ 600104) (hs : slots + 240 + 240 * N ≤ 7301314) (kd : Nat) (hkd : kd < 16) (hn0 : 0 < n) : G (ELw b Ln xs) l cL_law 16 wsL_law RL (some .boolean) room_1 γ P ALw (QLw b) cells slots 115 [(0, .ref b), (1, .ref (γ.2.2 0)), (2, .int (nI n)), (3, .int (nI r9)), (4, .int (nI 1)), (5, .int (nI i)), (7, .int (nI z)), (8, .int (nI kd)), (9, .int (nI q))] [] I L := by
  have hq6 := hG.2.2.1
  have hr8 := hG.1.r_le
  refine g_il 7 dL_law_115 rfl ?_
  refine g_bi (v := nI 6) dL_law_117 (by decide) ?_
  refine gn_ge (tgt := 200) dL_law_119 (by decide) (by omega) (by omega) (fun h_1 => ?_) (fun h_1 => ?_)
  · skip
    refine g_il 7 dL_law_200 rfl ?_
    refine g_bi (v := nI 6) dL_law_202 (by decide) ?_
    refine gn_ne (tgt := 248) dL_law_204 (by decide) (by omega) (by omega) (fun h_2 => ?_) (fun h_2 => ?_)
    · skip
      refine g_il 7 dL_law_248 rfl ?_
      refine g_pc (pc' := 250) rfl ?_
      refine g_bi (v := nI 7) dL_law_250 (by decide) ?_
      refine gn_ne (tgt := 296) dL_law_252 (by decide) (by omega) (by omega) (fun h_3 => ?_) (fun h_3 => ?_)
      · skip
        refine g_il 7 dL_law_296 rfl ?_
        refine g_bi (v := nI 12) dL_law_298 (by decide) ?_
        refine gn_ge (tgt := 347) dL_law_300 (by decide) (by omega) (by omega) (fun h_4 => ?_) (fun h_4 => ?_)
        · skip
          refine g_il 7 dL_law_347 rfl ?_
          refine g_bi (v := nI 14) dL_law_349 (by decide) ?_
          refine gn_ge (tgt := 400) dL_law_351 (by decide) (by omega) (by omega) (fun h_5 => ?_) (fun h_5 => ?_)
          · skip
            refine g_pc (pc' := 400) rfl ?_
            refine g_il 7 dL_law_400 rfl ?_
            refine g_bi (v := nI 14) dL_law_402 (by decide) ?_
            refine gn_ne (tgt := 433) dL_law_404 (by decide) (by omega) (by omega) (fun h_6 => ?_) (fun h_6 => ?_)
            · skip
              rcases (by omega : z % 3 = 0 ∨ z % 3 = 1 ∨ z % 3 = 2) with hz3 | hz3 | hz3
              · skip
                refine g_ic (v := nI 1) dL_law_433 (by decide) ?_
                refine g_il 6 dL_law_434 rfl ?_
                refine g_ic (v := nI 3) dL_law_436 (by decide) ?_
                refine g_irem (v := nI (z % 3)) dL_law_437 (by decide) (pk_rem (by omega) (by omega) (by omega)) ?_
                refine g_iadd (v := nI 1) dL_law_438 ((nI_add _ _).trans (congrArg nI (by omega))) ?_
                refine g_is (lv' := [(10, .int (nI 1)), (0, .ref b), (1, .ref (γ.2.2 0)), (2, .int (nI n)), (3, .int (nI r9)), (4, .int (nI 1)), (5, .int (nI i)), (7, .int (nI z)), (8, .int (nI kd)), (9, .int (nI q))]) dL_law_439 (by decide) rfl ?_
                refine g_sub [1, 2, 3, 4, 5, 6, 7, 9, 0] rfl ?_
                exact k_sent1 l hl0 γ b Ln xs i N z hi hz k685 g n r9 q u I L P cells slots hG hn5 hc hs hn0
              · skip
                refine g_ic (v := nI 1) dL_law_433 (by decide) ?_
                refine g_il 6 dL_law_434 rfl ?_
                refine g_ic (v := nI 3) dL_law_436 (by decide) ?_
                refine g_irem (v := nI (z % 3)) dL_law_437 (by decide) (pk_rem (by omega) (by omega) (by omega)) ?_
                refine g_iadd (v := nI 2) dL_law_438 ((nI_add _ _).trans (congrArg nI (by omega))) ?_
                refine g_is (lv' := [(10, .int (nI 2)), (0, .ref b), (1, .ref (γ.2.2 0)), (2, .int (nI n)), (3, .int (nI r9)), (4, .int (nI 1)), (5, .int (nI i)), (7, .int (nI z)), (8, .int (nI kd)), (9, .int (nI q))]) dL_law_439 (by decide) rfl ?_
                refine g_sub [1, 2, 3, 4, 5, 6, 7, 9, 0] rfl ?_
                exact k_sent2 l hl0 γ b Ln xs i N z hi hz k685 g n r9 q u I L P cells slots hG hn5 hc hs hn0
              · skip
                refine g_ic (v := nI 1) dL_law_433 (by decide) ?_
                refine g_il 6 dL_law_434 rfl ?_
                refine g_ic (v := nI 3) dL_law_436 (by decide) ?_
                refine g_irem (v := nI (z % 3)) dL_law_437 (by decide) (pk_rem (by omega) (by omega) (by omega)) ?_
                refine g_iadd (v := nI 3) dL_law_438 ((nI_add _ _).trans (congrArg nI (by omega))) ?_
                refine g_is (lv' := [(10, .int (nI 3)), (0, .ref b), (1, .ref (γ.2.2 0)), (2, .int (nI n)), (3, .int (nI r9)), (4, .int (nI 1)), (5, .int (nI i)), (7, .int (nI z)), (8, .int (nI kd)), (9, .int (nI q))]) dL_law_439 (by decide) rfl ?_
                refine g_sub [1, 2, 3, 4, 5, 6, 7, 9, 0] rfl ?_
                exact k_sent3 l hl0 γ b Ln xs i N z hi hz k685 g n r9 q u I L P cells slots hG hn5 hc hs hn0
            · skip
              refine g_sub [0, 1, 2, 3, 4, 5, 6, 8] rfl ?_
              exact k_hush l hl0 γ b Ln xs i N z hi hz k685 g n r9 q u I L P cells slots hG hn5 hc hs 
          · skip
            refine g_il 8 dL_law_354 rfl ?_
            refine gz_le (tgt := 400) dL_law_356 (by decide) (by omega) (fun h_7 => ?_) (fun h_7 => ?_)
            · skip
              refine g_il 7 dL_law_400 rfl ?_
              refine g_bi (v := nI 14) dL_law_402 (by decide) ?_
              refine gn_ne (tgt := 433) dL_law_404 (by decide) (by omega) (by omega) (fun h_8 => ?_) (fun h_8 => ?_)
              · skip
                rcases (by omega : z % 3 = 0 ∨ z % 3 = 1 ∨ z % 3 = 2) with hz3 | hz3 | hz3
                · skip
                  refine g_ic (v := nI 1) dL_law_433 (by decide) ?_
                  refine g_il 6 dL_law_434 rfl ?_
                  refine g_ic (v := nI 3) dL_law_436 (by decide) ?_
                  refine g_irem (v := nI (z % 3)) dL_law_437 (by decide) (pk_rem (by omega) (by omega) (by omega)) ?_
                  refine g_iadd (v := nI 1) dL_law_438 ((nI_add _ _).trans (congrArg nI (by omega))) ?_
                  refine g_is (lv' := [(10, .int (nI 1)), (0, .ref b), (1, .ref (γ.2.2 0)), (2, .int (nI n)), (3, .int (nI r9)), (4, .int (nI 1)), (5, .int (nI i)), (7, .int (nI z)), (8, .int (nI kd)), (9, .int (nI q))]) dL_law_439 (by decide) rfl ?_
                  refine g_sub [1, 2, 3, 4, 5, 6, 7, 9, 0] rfl ?_
                  exact k_sent1 l hl0 γ b Ln xs i N z hi hz k685 g n r9 q u I L P cells slots hG hn5 hc hs hn0
                · skip
                  refine g_ic (v := nI 1) dL_law_433 (by decide) ?_
                  refine g_il 6 dL_law_434 rfl ?_
                  refine g_ic (v := nI 3) dL_law_436 (by decide) ?_
                  refine g_irem (v := nI (z % 3)) dL_law_437 (by decide) (pk_rem (by omega) (by omega) (by omega)) ?_
                  refine g_iadd (v := nI 2) dL_law_438 ((nI_add _ _).trans (congrArg nI (by omega))) ?_
                  refine g_is (lv' := [(10, .int (nI 2)), (0, .ref b), (1, .ref (γ.2.2 0)), (2, .int (nI n)), (3, .int (nI r9)), (4, .int (nI 1)), (5, .int (nI i)), (7, .int (nI z)), (8, .int (nI kd)), (9, .int (nI q))]) dL_law_439 (by decide) rfl ?_
                  refine g_sub [1, 2, 3, 4, 5, 6, 7, 9, 0] rfl ?_
                  exact k_sent2 l hl0 γ b Ln xs i N z hi hz k685 g n r9 q u I L P cells slots hG hn5 hc hs hn0
                · skip
                  refine g_ic (v := nI 1) dL_law_433 (by decide) ?_
                  refine g_il 6 dL_law_434 rfl ?_
                  refine g_ic (v := nI 3) dL_law_436 (by decide) ?_
                  refine g_irem (v := nI (z % 3)) dL_law_437 (by decide) (pk_rem (by omega) (by omega) (by omega)) ?_
                  refine g_iadd (v := nI 3) dL_law_438 ((nI_add _ _).trans (congrArg nI (by omega))) ?_
                  refine g_is (lv' := [(10, .int (nI 3)), (0, .ref b), (1, .ref (γ.2.2 0)), (2, .int (nI n)), (3, .int (nI r9)), (4, .int (nI 1)), (5, .int (nI i)), (7, .int (nI z)), (8, .int (nI kd)), (9, .int (nI q))]) dL_law_439 (by decide) rfl ?_
                  refine g_sub [1, 2, 3, 4, 5, 6, 7, 9, 0] rfl ?_
                  exact k_sent3 l hl0 γ b Ln xs i N z hi hz k685 g n r9 q u I L P cells slots hG hn5 hc hs hn0
              · skip
                refine g_sub [0, 1, 2, 3, 4, 5, 6, 8] rfl ?_
                exact k_hush l hl0 γ b Ln xs i N z hi hz k685 g n r9 q u I L P cells slots hG hn5 hc hs 
            · skip
              refine g_sub [0, 1, 2, 3, 4, 5, 6, 8] rfl ?_
              exact k_change l hl0 γ b Ln xs i N z hi hz k685 g n r9 q u I L P cells slots hG hn5 hc hs hn0 (by omega)
        · skip
          refine g_pc (pc' := 303) rfl ?_
          refine g_il 8 dL_law_303 rfl ?_
          refine g_ic (v := nI 5) dL_law_305 (by decide) ?_
          refine gn_ge (tgt := 347) dL_law_306 (by decide) (by omega) (by omega) (fun h_9 => ?_) (fun h_9 => ?_)
          · skip
            refine g_il 7 dL_law_347 rfl ?_
            refine g_bi (v := nI 14) dL_law_349 (by decide) ?_
            refine gn_ge (tgt := 400) dL_law_351 (by decide) (by omega) (by omega) (fun h_10 => ?_) (fun h_10 => ?_)
            · skip
              refine g_il 7 dL_law_400 rfl ?_
              refine g_bi (v := nI 14) dL_law_402 (by decide) ?_
              refine g_pc (pc' := 404) rfl ?_
              refine gn_ne (tgt := 433) dL_law_404 (by decide) (by omega) (by omega) (fun h_11 => ?_) (fun h_11 => ?_)
              · skip
                rcases (by omega : z % 3 = 0 ∨ z % 3 = 1 ∨ z % 3 = 2) with hz3 | hz3 | hz3
                · skip
                  refine g_ic (v := nI 1) dL_law_433 (by decide) ?_
                  refine g_il 6 dL_law_434 rfl ?_
                  refine g_ic (v := nI 3) dL_law_436 (by decide) ?_
                  refine g_irem (v := nI (z % 3)) dL_law_437 (by decide) (pk_rem (by omega) (by omega) (by omega)) ?_
                  refine g_iadd (v := nI 1) dL_law_438 ((nI_add _ _).trans (congrArg nI (by omega))) ?_
                  refine g_is (lv' := [(10, .int (nI 1)), (0, .ref b), (1, .ref (γ.2.2 0)), (2, .int (nI n)), (3, .int (nI r9)), (4, .int (nI 1)), (5, .int (nI i)), (7, .int (nI z)), (8, .int (nI kd)), (9, .int (nI q))]) dL_law_439 (by decide) rfl ?_
                  refine g_sub [1, 2, 3, 4, 5, 6, 7, 9, 0] rfl ?_
                  exact k_sent1 l hl0 γ b Ln xs i N z hi hz k685 g n r9 q u I L P cells slots hG hn5 hc hs hn0
                · skip
                  refine g_ic (v := nI 1) dL_law_433 (by decide) ?_
                  refine g_il 6 dL_law_434 rfl ?_
                  refine g_ic (v := nI 3) dL_law_436 (by decide) ?_
                  refine g_irem (v := nI (z % 3)) dL_law_437 (by decide) (pk_rem (by omega) (by omega) (by omega)) ?_
                  refine g_iadd (v := nI 2) dL_law_438 ((nI_add _ _).trans (congrArg nI (by omega))) ?_
                  refine g_is (lv' := [(10, .int (nI 2)), (0, .ref b), (1, .ref (γ.2.2 0)), (2, .int (nI n)), (3, .int (nI r9)), (4, .int (nI 1)), (5, .int (nI i)), (7, .int (nI z)), (8, .int (nI kd)), (9, .int (nI q))]) dL_law_439 (by decide) rfl ?_
                  refine g_sub [1, 2, 3, 4, 5, 6, 7, 9, 0] rfl ?_
                  exact k_sent2 l hl0 γ b Ln xs i N z hi hz k685 g n r9 q u I L P cells slots hG hn5 hc hs hn0
                · skip
                  refine g_ic (v := nI 1) dL_law_433 (by decide) ?_
                  refine g_il 6 dL_law_434 rfl ?_
                  refine g_ic (v := nI 3) dL_law_436 (by decide) ?_
                  refine g_irem (v := nI (z % 3)) dL_law_437 (by decide) (pk_rem (by omega) (by omega) (by omega)) ?_
                  refine g_iadd (v := nI 3) dL_law_438 ((nI_add _ _).trans (congrArg nI (by omega))) ?_
                  refine g_is (lv' := [(10, .int (nI 3)), (0, .ref b), (1, .ref (γ.2.2 0)), (2, .int (nI n)), (3, .int (nI r9)), (4, .int (nI 1)), (5, .int (nI i)), (7, .int (nI z)), (8, .int (nI kd)), (9, .int (nI q))]) dL_law_439 (by decide) rfl ?_
                  refine g_sub [1, 2, 3, 4, 5, 6, 7, 9, 0] rfl ?_
                  exact k_sent3 l hl0 γ b Ln xs i N z hi hz k685 g n r9 q u I L P cells slots hG hn5 hc hs hn0
              · skip
                refine g_sub [0, 1, 2, 3, 4, 5, 6, 8] rfl ?_
                exact k_hush l hl0 γ b Ln xs i N z hi hz k685 g n r9 q u I L P cells slots hG hn5 hc hs 
            · skip
              refine g_il 8 dL_law_354 rfl ?_
              refine gz_le (tgt := 400) dL_law_356 (by decide) (by omega) (fun h_12 => ?_) (fun h_12 => ?_)
              · skip
                refine g_il 7 dL_law_400 rfl ?_
                refine g_bi (v := nI 14) dL_law_402 (by decide) ?_
                refine gn_ne (tgt := 433) dL_law_404 (by decide) (by omega) (by omega) (fun h_13 => ?_) (fun h_13 => ?_)
                · skip
                  rcases (by omega : z % 3 = 0 ∨ z % 3 = 1 ∨ z % 3 = 2) with hz3 | hz3 | hz3
                  · skip
                    refine g_ic (v := nI 1) dL_law_433 (by decide) ?_
                    refine g_il 6 dL_law_434 rfl ?_
                    refine g_ic (v := nI 3) dL_law_436 (by decide) ?_
                    refine g_irem (v := nI (z % 3)) dL_law_437 (by decide) (pk_rem (by omega) (by omega) (by omega)) ?_
                    refine g_iadd (v := nI 1) dL_law_438 ((nI_add _ _).trans (congrArg nI (by omega))) ?_
                    refine g_is (lv' := [(10, .int (nI 1)), (0, .ref b), (1, .ref (γ.2.2 0)), (2, .int (nI n)), (3, .int (nI r9)), (4, .int (nI 1)), (5, .int (nI i)), (7, .int (nI z)), (8, .int (nI kd)), (9, .int (nI q))]) dL_law_439 (by decide) rfl ?_
                    refine g_sub [1, 2, 3, 4, 5, 6, 7, 9, 0] rfl ?_
                    exact k_sent1 l hl0 γ b Ln xs i N z hi hz k685 g n r9 q u I L P cells slots hG hn5 hc hs hn0
                  · skip
                    refine g_ic (v := nI 1) dL_law_433 (by decide) ?_
                    refine g_il 6 dL_law_434 rfl ?_
                    refine g_ic (v := nI 3) dL_law_436 (by decide) ?_
                    refine g_irem (v := nI (z % 3)) dL_law_437 (by decide) (pk_rem (by omega) (by omega) (by omega)) ?_
                    refine g_iadd (v := nI 2) dL_law_438 ((nI_add _ _).trans (congrArg nI (by omega))) ?_
                    refine g_is (lv' := [(10, .int (nI 2)), (0, .ref b), (1, .ref (γ.2.2 0)), (2, .int (nI n)), (3, .int (nI r9)), (4, .int (nI 1)), (5, .int (nI i)), (7, .int (nI z)), (8, .int (nI kd)), (9, .int (nI q))]) dL_law_439 (by decide) rfl ?_
                    refine g_sub [1, 2, 3, 4, 5, 6, 7, 9, 0] rfl ?_
                    exact k_sent2 l hl0 γ b Ln xs i N z hi hz k685 g n r9 q u I L P cells slots hG hn5 hc hs hn0
                  · skip
                    refine g_ic (v := nI 1) dL_law_433 (by decide) ?_
                    refine g_il 6 dL_law_434 rfl ?_
                    refine g_ic (v := nI 3) dL_law_436 (by decide) ?_
                    refine g_irem (v := nI (z % 3)) dL_law_437 (by decide) (pk_rem (by omega) (by omega) (by omega)) ?_
                    refine g_iadd (v := nI 3) dL_law_438 ((nI_add _ _).trans (congrArg nI (by omega))) ?_
                    refine g_is (lv' := [(10, .int (nI 3)), (0, .ref b), (1, .ref (γ.2.2 0)), (2, .int (nI n)), (3, .int (nI r9)), (4, .int (nI 1)), (5, .int (nI i)), (7, .int (nI z)), (8, .int (nI kd)), (9, .int (nI q))]) dL_law_439 (by decide) rfl ?_
                    refine g_sub [1, 2, 3, 4, 5, 6, 7, 9, 0] rfl ?_
                    exact k_sent3 l hl0 γ b Ln xs i N z hi hz k685 g n r9 q u I L P cells slots hG hn5 hc hs hn0
                · skip
                  refine g_sub [0, 1, 2, 3, 4, 5, 6, 8] rfl ?_
                  exact k_hush l hl0 γ b Ln xs i N z hi hz k685 g n r9 q u I L P cells slots hG hn5 hc hs 
              · skip
                refine g_sub [0, 1, 2, 3, 4, 5, 6, 8] rfl ?_
                exact k_change l hl0 γ b Ln xs i N z hi hz k685 g n r9 q u I L P cells slots hG hn5 hc hs hn0 (by omega)
          · skip
            refine g_sub [0, 1, 2, 3, 4, 5, 6, 8] rfl ?_
            exact k_say l hl0 γ b Ln xs i N z hi hz k685 g n r9 q u I L P cells slots hG hn5 hc hs hn0 (by omega)
      · skip
        refine g_sub [0, 1, 2, 3, 4, 5, 6, 8] rfl ?_
        exact k_setWord l hl0 γ b Ln xs i N z hi hz k685 g n r9 q u I L P cells slots hG hn5 hc hs hn0
    · skip
      refine g_sub [0, 1, 2, 3, 4, 5, 6, 8] rfl ?_
      exact k_drop l hl0 γ b Ln xs i N z hi hz k685 g n r9 q u I L P cells slots hG hn5 hc hs 
  · skip
    refine g_sub [0, 1, 2, 3, 4, 5, 6, 8] rfl ?_
    exact k_rule l hl0 γ b Ln xs i N z hi hz k685 g n r9 q u I L P cells slots hG hn5 hc hs 
