/-! the law's two looks at a row: reads -/
theorem rdg_0 {g : GR} {r q : Nat} {u : Nat → Nat} (hv : ∀ p, p < q → g 1 (u p) < 16) (h : isS g r u q = false) : rdg g r u q = 0 := by
  rcases Nat.eq_zero_or_pos (rdg g r u q) with e | e
  · exact e
  · rw [(rdg_pos hv).mp e] at h; cases h
theorem nI_nz {a : Nat} (h : a < 2 ^ 31) (h0 : a ≠ 0) : ¬ nI a = 0 := fun e => h0 ((nI_z h).mp e)

set_option maxRecDepth 100000 in
set_option maxHeartbeats 4000000 in
theorem c_L_reads (l : Launch) (hl0 : l.stackTraces = false) (γ : Gm) (I : IT) (L : LT) (P : PT) (g : GR) (n r9 q : Nat) (u : Nat → Nat) (hG : GW I g n r9 q u) (w : Nat) (hw : w < 2 ^ 31) : Lk 18 108 l yL_reads wsL_reads 8 γ [.ref (γ.2.2 0), .int (nI w)] I L P (fun r I' L' => r = nI 1 ∧ GW I' g n r9 q u ∧ L' = L) := by
  have hq6 := hG.2.2.1
  have hn9 := hG.1.n_le
  have hr8 := hG.1.r_le
  refine Lk_ofp (own := RL) (cc := cL_reads) (maxL := 12) (by decide) rfl rfl (Nat.le_of_ble_eq_true rfl) ?_
  refine g_sub (lv' := [(0, .ref (γ.2.2 0)), (1, .int (nI w))]) [0, 1] rfl ?_
  have k109 : ∀ (J : IT) (cells slots : Nat), GW J g n r9 q u → cells ≤ 1 → slots ≤ 6 → G E0 l cL_reads 12 wsL_reads RL (some .boolean) (rmL 8 18 108) γ P (AE γ) (QKi 18 108 γ P (fun r I' L' => r = nI 1 ∧ GW I' g n r9 q u ∧ L' = L)) cells slots 109 [(0, .ref (γ.2.2 0)), (1, .int (nI w)), (2, .int (nI q)), (5, .int (nI 1))] [] J L := by
    intro J cells slots hG0 hc hs
    refine g_il 3 dL_reads_109 rfl ?_
    refine gz_eq (tgt := 241) dL_reads_111 (by decide) (by omega) (fun h_1 => ?_) (fun h_1 => ?_)
    · skip
      exfalso; omega
    · skip
      refine g_il_n 2 dL_reads_114 rfl ?_
      refine gz_le (tgt := 241) dL_reads_115 (by decide) (by omega) (fun hq0 => ?_) (fun hq0 => ?_)
      · skip
        refine g_il 3 dL_reads_241 rfl ?_
        exact g_kzret (by omega) (by omega) (show narrow .boolean (.int (nI 1)) = .int (nI 1) from bi_nar true) dL_reads_243 ⟨rfl, hG0, rfl⟩
      · skip
        obtain ⟨a, ea⟩ : ∃ a, a = w % q := ⟨_, rfl⟩
        have ha : a < q := by rw [ea]; exact Nat.mod_lt _ hq0
        obtain ⟨d, ed⟩ : ∃ d, d = w / 5 % (q - a) := ⟨_, rfl⟩
        have hd : d < q - a := by rw [ed]; exact Nat.mod_lt _ (by omega)
        obtain ⟨c, ec⟩ : ∃ c, c = w / 30 % 3 := ⟨_, rfl⟩
        have hc3 : c < 3 := by rw [ec]; exact Nat.mod_lt _ (by decide)
        refine g_il_n 1 dL_reads_118 rfl ?_
        refine g_il_n 2 dL_reads_119 rfl ?_
        refine g_pc (pc' := 120) rfl ?_
        refine g_irem (v := nI a) dL_reads_120 (nI_nz (by omega) (by omega)) (by rw [ea]; exact pk_rem (by omega) (by omega) (by omega)) ?_
        refine g_is (lv' := [(6, .int (nI a)), (0, .ref (γ.2.2 0)), (1, .int (nI w)), (2, .int (nI q)), (5, .int (nI 1))]) dL_reads_121 (by decide) rfl ?_
        refine g_il 0 dL_reads_123 rfl ?_
        refine g_ic (v := nI 1) dL_reads_125 (by decide) ?_
        refine g_iadd (v := nI (a + 1)) dL_reads_126 (nI_add _ _) ?_
        refine g_il_n 2 dL_reads_127 rfl ?_
        refine g_ic (v := nI 5) dL_reads_128 (by decide) ?_
        refine g_idiv (v := nI (w / 5)) dL_reads_129 (by decide) (pk_div (by omega) (by omega) (by omega)) ?_
        refine g_pc (pc' := 130) rfl ?_
        refine g_il_n 3 dL_reads_130 rfl ?_
        refine g_il 0 dL_reads_131 rfl ?_
        refine g_isub (v := nI (q - a)) dL_reads_133 (pk_sub (by omega)) ?_
        refine g_irem (v := nI d) dL_reads_134 (nI_nz (by omega) (by omega)) (by rw [ed]; exact pk_rem (by omega) (by omega) (by omega)) ?_
        refine g_iadd (v := nI (a + 1 + d)) dL_reads_135 (nI_add _ _) ?_
        refine g_is (lv' := [(7, .int (nI (a + 1 + d))), (6, .int (nI a)), (0, .ref (γ.2.2 0)), (1, .int (nI w)), (2, .int (nI q)), (5, .int (nI 1))]) dL_reads_136 (by decide) rfl ?_
        refine g_il_n 3 dL_reads_138 rfl ?_
        refine g_bi (v := nI 30) dL_reads_139 (by decide) ?_
        refine g_pc (pc' := 141) rfl ?_
        refine g_idiv (v := nI (w / 30)) dL_reads_141 (by decide) (pk_div (by omega) (by omega) (by omega)) ?_
        refine g_ic (v := nI 3) dL_reads_142 (by decide) ?_
        refine g_irem (v := nI c) dL_reads_143 (by decide) (by rw [ec]; exact pk_rem (by omega) (by omega) (by omega)) ?_
        refine g_is (lv' := [(8, .int (nI c)), (7, .int (nI (a + 1 + d))), (6, .int (nI a)), (0, .ref (γ.2.2 0)), (1, .int (nI w)), (2, .int (nI q)), (5, .int (nI 1))]) dL_reads_144 (by decide) rfl ?_
        refine g_al_n 3 dL_reads_146 rfl ?_
        refine g_il 2 dL_reads_147 rfl ?_
        refine g_il 1 dL_reads_149 rfl ?_
        refine g_il 0 dL_reads_151 rfl ?_
        refine g_pc (pc' := 153) rfl ?_
        refine g_cl (mc := 1) (ms := 6) (st := []) (As := [.ref (γ.2.2 0), .int (nI a), .int (nI (a + 1 + d)), .int (nI c)]) (d := 6) (c_L_count l hl0 γ J L P g n r9 q u hG0 a (a + 1 + d) c (by omega) (by omega) (by omega)) gL_reads_L_count rfl ⟨by decide, by decide, rfl⟩ ⟨Nat.le_of_ble_eq_true rfl, Nat.le_of_ble_eq_true rfl⟩ rfl (Nat.le_of_ble_eq_true rfl) dL_reads_153 ⟨by show _ ≤ 18; omega, by show _ ≤ 108; omega⟩ ?_
        rintro r1 J1 L1 ⟨er1, hG1, eL1⟩
        rw [er1, eL1]
        obtain ⟨M, eM⟩ : ∃ M, M = tld (sm (ct g r9 u a (a + 1 + d) c) 16) := ⟨_, rfl⟩
        rw [← eM]
        have hM := tld_le (sm (ct g r9 u a (a + 1 + d) c) 16)
        rw [← eM] at hM
        refine g_is (lv' := [(9, .int (nI M)), (8, .int (nI c)), (7, .int (nI (a + 1 + d))), (6, .int (nI a)), (0, .ref (γ.2.2 0)), (1, .int (nI w)), (2, .int (nI q)), (5, .int (nI 1))]) dL_reads_156 (by decide) rfl ?_
        refine g_ic (v := nI 0) dL_reads_158 (by decide) ?_
        refine g_is (lv' := [(10, .int (nI 0)), (9, .int (nI M)), (8, .int (nI c)), (7, .int (nI (a + 1 + d))), (6, .int (nI a)), (0, .ref (γ.2.2 0)), (1, .int (nI w)), (2, .int (nI q)), (5, .int (nI 1))]) dL_reads_159 (by decide) rfl ?_
        refine g_ic (v := nI 0) dL_reads_161 (by decide) ?_
        refine g_is (lv' := [(11, .int (nI 0)), (10, .int (nI 0)), (9, .int (nI M)), (8, .int (nI c)), (7, .int (nI (a + 1 + d))), (6, .int (nI a)), (0, .ref (γ.2.2 0)), (1, .int (nI w)), (2, .int (nI q)), (5, .int (nI 1))]) dL_reads_162 (by decide) rfl ?_
        have kl : ∀ (k v : Nat) (J : IT) (cells slots : Nat), v + k = 16 → GW J g n r9 q u → cells ≤ 2 + v → slots ≤ 12 + 6 * v → G E0 l cL_reads 12 wsL_reads RL (some .boolean) (rmL 8 18 108) γ P (AE γ) (QKi 18 108 γ P (fun r I' L' => r = nI 1 ∧ GW I' g n r9 q u ∧ L' = L)) cells slots 164 [(0, .ref (γ.2.2 0)), (6, .int (nI a)), (7, .int (nI (a + 1 + d))), (8, .int (nI c)), (9, .int (nI M)), (10, .int (nI (sm (bn (ch g r9 (lxw g u) a (a + 1 + d) c)) v))), (11, .int (nI v))] [] J L := by
          intro k
          induction k with
          | zero =>
            intro v J cells slots hv hG9 hc9 hs9
            have hv16 : v = 16 := by omega
            subst hv16
            obtain ⟨F, eF⟩ : ∃ F, F = sm (bn (ch g r9 (lxw g u) a (a + 1 + d) c)) 16 := ⟨_, rfl⟩
            rw [← eF]
            have hfp : 0 < F ↔ 0 < M := by rw [eF, eM]; exact found_pos (by omega)
            have hfl : F ≤ M := by rw [eF, eM]; exact found_le (by omega)
            refine g_il 6 dL_reads_164 rfl ?_
            refine g_bi (v := nI 16) dL_reads_166 (by decide) ?_
            refine gn_ge (tgt := 204) dL_reads_168 (by decide) (by omega) (by omega) (fun h_1 => ?_) (fun h_1 => ?_)
            · skip
              refine g_il 5 dL_reads_204 rfl ?_
              refine gz_le (tgt := 213) dL_reads_206 (by decide) (by omega) (fun x1 => ?_) (fun x1 => ?_)
              · skip
                refine g_ic (v := nI 0) dL_reads_213 (by decide) ?_
                refine g_il 4 dL_reads_214 rfl ?_
                refine g_pc (pc' := 216) rfl ?_
                refine gz_le (tgt := 223) dL_reads_216 (by decide) (by omega) (fun x2 => ?_) (fun x2 => ?_)
                · skip
                  refine g_ic (v := nI 0) dL_reads_223 (by decide) ?_
                  refine gn_ne (tgt := 238) dL_reads_224 (by decide) (by omega) (by omega) (fun h_2 => ?_) (fun h_2 => ?_)
                  · skip
                    exfalso; omega
                  · skip
                    refine g_il 5 dL_reads_227 rfl ?_
                    refine g_il 4 dL_reads_229 rfl ?_
                    refine gn_gt (tgt := 238) dL_reads_231 (by decide) (by omega) (by omega) (fun h_3 => ?_) (fun h_3 => ?_)
                    · skip
                      exfalso; omega
                    · skip
                      refine g_ic (v := nI 1) dL_reads_234 (by decide) ?_
                      refine g_goto (tgt := 239) dL_reads_235 (by decide) ?_
                      refine g_pc (pc' := 239) rfl ?_
                      refine g_is (lv' := [(5, .int (nI 1)), (0, .ref (γ.2.2 0)), (6, .int (nI a)), (7, .int (nI (a + 1 + d))), (8, .int (nI c)), (9, .int (nI M)), (10, .int (nI F)), (11, .int (nI 16))]) dL_reads_239 (by decide) rfl ?_
                      refine g_il 0 dL_reads_241 rfl ?_
                      exact g_kzret (by omega) (by omega) (show narrow .boolean (.int (nI 1)) = .int (nI 1) from bi_nar true) dL_reads_243 ⟨rfl, hG9, rfl⟩
                · skip
                  exfalso; omega
              · skip
                refine g_ic (v := nI 1) dL_reads_209 (by decide) ?_
                refine g_goto (tgt := 214) dL_reads_210 (by decide) ?_
                refine g_il 4 dL_reads_214 rfl ?_
                refine gz_le (tgt := 223) dL_reads_216 (by decide) (by omega) (fun x2 => ?_) (fun x2 => ?_)
                · skip
                  exfalso; omega
                · skip
                  refine g_ic (v := nI 1) dL_reads_219 (by decide) ?_
                  refine g_goto (tgt := 224) dL_reads_220 (by decide) ?_
                  refine g_pc (pc' := 224) rfl ?_
                  refine gn_ne (tgt := 238) dL_reads_224 (by decide) (by omega) (by omega) (fun h_4 => ?_) (fun h_4 => ?_)
                  · skip
                    exfalso; omega
                  · skip
                    refine g_il 5 dL_reads_227 rfl ?_
                    refine g_il 4 dL_reads_229 rfl ?_
                    refine gn_gt (tgt := 238) dL_reads_231 (by decide) (by omega) (by omega) (fun h_5 => ?_) (fun h_5 => ?_)
                    · skip
                      exfalso; omega
                    · skip
                      refine g_ic (v := nI 1) dL_reads_234 (by decide) ?_
                      refine g_goto (tgt := 239) dL_reads_235 (by decide) ?_
                      refine g_is (lv' := [(5, .int (nI 1)), (0, .ref (γ.2.2 0)), (6, .int (nI a)), (7, .int (nI (a + 1 + d))), (8, .int (nI c)), (9, .int (nI M)), (10, .int (nI F)), (11, .int (nI 16))]) dL_reads_239 (by decide) rfl ?_
                      refine g_il 0 dL_reads_241 rfl ?_
                      exact g_kzret (by omega) (by omega) (show narrow .boolean (.int (nI 1)) = .int (nI 1) from bi_nar true) dL_reads_243 ⟨rfl, hG9, rfl⟩
            · skip
              exfalso; omega
          | succ k ih =>
            intro v J cells slots hv hG9 hc9 hs9
            refine g_il 6 dL_reads_164 rfl ?_
            refine g_bi (v := nI 16) dL_reads_166 (by decide) ?_
            refine gn_ge (tgt := 204) dL_reads_168 (by decide) (by omega) (by omega) (fun h_1 => ?_) (fun h_1 => ?_)
            · skip
              exfalso; omega
            · skip
              refine g_il 5 dL_reads_171 rfl ?_
              refine g_al_n 0 dL_reads_173 rfl ?_
              refine g_il 1 dL_reads_174 rfl ?_
              refine g_il 2 dL_reads_176 rfl ?_
              refine g_pc (pc' := 178) rfl ?_
              refine g_il 3 dL_reads_178 rfl ?_
              refine g_bi (v := nI 10) dL_reads_180 (by decide) ?_
              refine g_il 6 dL_reads_182 rfl ?_
              refine g_ic (v := nI 4) dL_reads_184 (by decide) ?_
              refine g_idiv (v := nI (v / 4)) dL_reads_185 (by decide) (pk_div (by omega) (by omega) (by omega)) ?_
              refine g_imul (v := nI (10 * (v / 4))) dL_reads_186 (pk_mul _ _) ?_
              refine g_il 6 dL_reads_187 rfl ?_
              refine g_ic (v := nI 4) dL_reads_189 (by decide) ?_
              refine g_pc (pc' := 190) rfl ?_
              refine g_irem (v := nI (v % 4)) dL_reads_190 (by decide) (pk_rem (by omega) (by omega) (by omega)) ?_
              refine g_iadd (v := nI (10 * (v / 4) + (v % 4))) dL_reads_191 (nI_add _ _) ?_
              refine g_cl (mc := 1) (ms := 6) (st := [.int (nI (sm (bn (ch g r9 (lxw g u) a (a + 1 + d) c)) v))]) (As := [.ref (γ.2.2 0), .int (nI a), .int (nI (a + 1 + d)), .int (nI c), .int (nI (10 * (v / 4) + (v % 4)))]) (d := 6) (c_L_has l hl0 γ J L P g n r9 q u hG9 a (a + 1 + d) c (10 * (v / 4) + v % 4) (by omega) (by omega) (by omega) (by omega) (by omega) (by omega)) gL_reads_L_has rfl ⟨by decide, by decide, rfl⟩ ⟨Nat.le_of_ble_eq_true rfl, Nat.le_of_ble_eq_true rfl⟩ rfl (Nat.le_of_ble_eq_true rfl) dL_reads_192 ⟨by show _ ≤ 18; omega, by show _ ≤ 108; omega⟩ ?_
              rintro r61 J61 L61 ⟨er61, hG61, eL61⟩
              rw [er61, show 4 * ((10 * (v / 4) + v % 4) / 10) + (10 * (v / 4) + v % 4) % 10 = v by omega, eL61]
              refine g_iadd (v := nI (sm (bn (ch g r9 (lxw g u) a (a + 1 + d) c)) (v + 1))) dL_reads_195 (nI_add _ _) ?_
              refine g_is (lv' := [(10, .int (nI (sm (bn (ch g r9 (lxw g u) a (a + 1 + d) c)) (v + 1)))), (0, .ref (γ.2.2 0)), (6, .int (nI a)), (7, .int (nI (a + 1 + d))), (8, .int (nI c)), (9, .int (nI M)), (11, .int (nI v))]) dL_reads_196 (by decide) rfl ?_
              refine g_inc (v := nI (v + 1)) (lv' := [(11, .int (nI (v + 1))), (10, .int (nI (sm (bn (ch g r9 (lxw g u) a (a + 1 + d) c)) (v + 1)))), (0, .ref (γ.2.2 0)), (6, .int (nI a)), (7, .int (nI (a + 1 + d))), (8, .int (nI c)), (9, .int (nI M))]) 6 dL_reads_198 rfl (inc_1 _) (by decide) rfl ?_
              refine g_goto (tgt := 164) dL_reads_201 (by decide) ?_
              refine g_sub [2, 3, 4, 5, 6, 1, 0] rfl ?_
              exact ih (v + 1) J61 _ _ (by omega) hG61 (by omega) (by omega)
        refine g_sub [6, 5, 4, 3, 2, 1, 0] rfl ?_
        exact kl 16 0 J1 _ _ (by omega) hG1 (by omega) (by omega)
  refine g_al_n 0 dL_reads_0 rfl ?_
  refine g_ci (r_V (st := []) (As := []) (d := 0) 0 (by decide) rfl rfl (c_X4_said l γ I L P g n r9 q u hG) gL_reads_X4_said rfl ⟨rfl, by decide, by decide, rfl⟩ ⟨Nat.le_of_ble_eq_true rfl, Nat.le_of_ble_eq_true rfl⟩ rfl (Nat.le_of_ble_eq_true rfl) dL_reads_1 ⟨by show _ ≤ 18; omega, by show _ ≤ 108; omega⟩) ?_
  rintro r1 J1 L1 ⟨er1, hG1, -, eL1⟩
  rw [er1, eL1]
  refine g_is_n (lv' := [(2, .int (nI q)), (0, .ref (γ.2.2 0)), (1, .int (nI w))]) dL_reads_4 (by decide) rfl ?_
  refine g_al_n 1 dL_reads_5 rfl ?_
  refine g_ci (r_V (st := []) (As := []) (d := 5) 0 (by decide) rfl rfl (c_X4_readings l γ J1 L P g n r9 q u hG1) gL_reads_X4_readings rfl ⟨rfl, by decide, by decide, rfl⟩ ⟨Nat.le_of_ble_eq_true rfl, Nat.le_of_ble_eq_true rfl⟩ rfl (Nat.le_of_ble_eq_true rfl) dL_reads_6 ⟨by show _ ≤ 18; omega, by show _ ≤ 108; omega⟩) ?_
  rintro r2 J2 L2 ⟨er2, hG2, -, eL2⟩
  rw [er2, eL2]
  refine g_is_n (lv' := [(3, .int (nI (rdg g r9 u q))), (2, .int (nI q)), (0, .ref (γ.2.2 0)), (1, .int (nI w))]) dL_reads_9 (by decide) rfl ?_
  refine g_al_n 2 dL_reads_10 rfl ?_
  refine g_pc (pc' := 11) rfl ?_
  refine g_ci (r_V (st := []) (As := []) (d := 5) 0 (by decide) rfl rfl (c_X4_level l γ J2 L P g n r9 q u hG2) gL_reads_X4_level rfl ⟨rfl, by decide, by decide, rfl⟩ ⟨Nat.le_of_ble_eq_true rfl, Nat.le_of_ble_eq_true rfl⟩ rfl (Nat.le_of_ble_eq_true rfl) dL_reads_11 ⟨by show _ ≤ 18; omega, by show _ ≤ 108; omega⟩) ?_
  rintro r3 J3 L3 ⟨er3, hG3, -, eL3⟩
  rw [er3, eL3]
  have hR := rdg_le g r9 u q
  rcases lvl_cases (g := g) (r := r9) (q := q) (u := u) with ⟨hs, el⟩ | ⟨hs, j, hj, el, h1, h2⟩
  · rw [el]
    have hR0 : rdg g r9 u q = 0 := rdg_0 hG.val16 hs
    rcases (by omega : q = 0 ∨ q = 1 ∨ 2 ≤ q) with hq | hq | hq
    · skip
      refine g_is (lv' := [(4, .int (-1 : Int32)), (3, .int (nI (rdg g r9 u q))), (2, .int (nI q)), (0, .ref (γ.2.2 0)), (1, .int (nI w))]) dL_reads_14 (by decide) rfl ?_
      refine g_il_n 1 dL_reads_16 rfl ?_
      refine gz_lt (tgt := 106) dL_reads_17 (by decide) (by omega) (fun h_1 => ?_) (fun h_1 => ?_)
      · skip
        exact h_1.elim
      · skip
        refine g_il_n 1 dL_reads_20 rfl ?_
        refine g_ldc (v := nI 1000000) (by decide +kernel) dL_reads_21 ?_
        refine gn_gt (tgt := 106) dL_reads_23 (by decide) (by omega) (by omega) (fun h_2 => ?_) (fun h_2 => ?_)
        · skip
          exfalso; omega
        · skip
          refine g_il_n 1 dL_reads_26 rfl ?_
          refine g_pc (pc' := 27) rfl ?_
          refine g_al_n 3 dL_reads_27 rfl ?_
          refine g_ci (r_V (st := [.int (nI (rdg g r9 u q))]) (As := []) (d := 9) 0 (by decide) rfl rfl (c_X4_readingsPlainly l γ J3 L P g n r9 q u hG3) gL_reads_X4_readingsPlainly rfl ⟨rfl, by decide, by decide, rfl⟩ ⟨Nat.le_of_ble_eq_true rfl, Nat.le_of_ble_eq_true rfl⟩ rfl (Nat.le_of_ble_eq_true rfl) dL_reads_28 ⟨by show _ ≤ 18; omega, by show _ ≤ 108; omega⟩) ?_
          rintro r11 J11 L11 ⟨er11, hG11, -, eL11⟩
          rw [er11, eL11]
          refine gn_ne (tgt := 106) dL_reads_31 (by decide) (by omega) (by omega) (fun h_3 => ?_) (fun h_3 => ?_)
          · skip
            exfalso; omega
          · skip
            refine g_il 0 dL_reads_34 rfl ?_
            refine g_ic (v := (-1 : Int32)) dL_reads_36 (by decide) ?_
            refine g_ic_ne (tgt := 44) dL_reads_37 (by decide) (fun h_4 => ?_) (fun h_4 => ?_)
            · skip
              exact absurd rfl h_4
            · skip
              refine g_ic (v := nI 1) dL_reads_40 (by decide) ?_
              refine g_goto (tgt := 45) dL_reads_41 (by decide) ?_
              refine g_pc (pc' := 45) rfl ?_
              refine g_il_n 1 dL_reads_45 rfl ?_
              refine gz_ne (tgt := 53) dL_reads_46 (by decide) (by omega) (fun h_5 => ?_) (fun h_5 => ?_)
              · skip
                exfalso; omega
              · skip
                refine g_ic (v := nI 1) dL_reads_49 (by decide) ?_
                refine g_goto (tgt := 54) dL_reads_50 (by decide) ?_
                refine gn_ne (tgt := 106) dL_reads_54 (by decide) (by omega) (by omega) (fun h_6 => ?_) (fun h_6 => ?_)
                · skip
                  exfalso; omega
                · skip
                  refine g_il_n 2 dL_reads_57 rfl ?_
                  refine gz_ne (tgt := 70) dL_reads_58 (by decide) (by omega) (fun h_7 => ?_) (fun h_7 => ?_)
                  · skip
                    exfalso; omega
                  · skip
                    refine g_il 0 dL_reads_61 rfl ?_
                    refine g_pc (pc' := 63) rfl ?_
                    refine g_ic (v := (-1 : Int32)) dL_reads_63 (by decide) ?_
                    refine g_ic_ne (tgt := 106) dL_reads_64 (by decide) (fun h_8 => ?_) (fun h_8 => ?_)
                    · skip
                      exact absurd rfl h_8
                    · skip
                      refine g_goto (tgt := 81) dL_reads_67 (by decide) ?_
                      refine g_il_n 2 dL_reads_81 rfl ?_
                      refine g_ic (v := nI 1) dL_reads_82 (by decide) ?_
                      refine gn_ne (tgt := 92) dL_reads_83 (by decide) (by omega) (by omega) (fun h_9 => ?_) (fun h_9 => ?_)
                      · skip
                        refine g_il_n 2 dL_reads_92 rfl ?_
                        refine g_ic (v := nI 2) dL_reads_93 (by decide) ?_
                        refine g_pc (pc' := 94) rfl ?_
                        refine gn_lt (tgt := 102) dL_reads_94 (by decide) (by omega) (by omega) (fun h_10 => ?_) (fun h_10 => ?_)
                        · skip
                          refine g_ic (v := nI 1) dL_reads_102 (by decide) ?_
                          refine g_goto (tgt := 107) dL_reads_103 (by decide) ?_
                          refine g_is (lv' := [(5, .int (nI 1)), (4, .int (-1 : Int32)), (3, .int (nI (rdg g r9 u q))), (2, .int (nI q)), (0, .ref (γ.2.2 0)), (1, .int (nI w))]) dL_reads_107 (by decide) rfl ?_
                          refine g_sub [4, 5, 3, 0] rfl ?_
                          exact k109 J11 _ _ hG11 (by omega) (by omega)
                        · skip
                          exfalso; omega
                      · skip
                        exfalso; omega
    · skip
      refine g_is (lv' := [(4, .int (-1 : Int32)), (3, .int (nI (rdg g r9 u q))), (2, .int (nI q)), (0, .ref (γ.2.2 0)), (1, .int (nI w))]) dL_reads_14 (by decide) rfl ?_
      refine g_il_n 1 dL_reads_16 rfl ?_
      refine gz_lt (tgt := 106) dL_reads_17 (by decide) (by omega) (fun h_1 => ?_) (fun h_1 => ?_)
      · skip
        exact h_1.elim
      · skip
        refine g_il_n 1 dL_reads_20 rfl ?_
        refine g_ldc (v := nI 1000000) (by decide +kernel) dL_reads_21 ?_
        refine gn_gt (tgt := 106) dL_reads_23 (by decide) (by omega) (by omega) (fun h_2 => ?_) (fun h_2 => ?_)
        · skip
          exfalso; omega
        · skip
          refine g_il_n 1 dL_reads_26 rfl ?_
          refine g_pc (pc' := 27) rfl ?_
          refine g_al_n 3 dL_reads_27 rfl ?_
          refine g_ci (r_V (st := [.int (nI (rdg g r9 u q))]) (As := []) (d := 9) 0 (by decide) rfl rfl (c_X4_readingsPlainly l γ J3 L P g n r9 q u hG3) gL_reads_X4_readingsPlainly rfl ⟨rfl, by decide, by decide, rfl⟩ ⟨Nat.le_of_ble_eq_true rfl, Nat.le_of_ble_eq_true rfl⟩ rfl (Nat.le_of_ble_eq_true rfl) dL_reads_28 ⟨by show _ ≤ 18; omega, by show _ ≤ 108; omega⟩) ?_
          rintro r21 J21 L21 ⟨er21, hG21, -, eL21⟩
          rw [er21, eL21]
          refine gn_ne (tgt := 106) dL_reads_31 (by decide) (by omega) (by omega) (fun h_3 => ?_) (fun h_3 => ?_)
          · skip
            exfalso; omega
          · skip
            refine g_il 0 dL_reads_34 rfl ?_
            refine g_ic (v := (-1 : Int32)) dL_reads_36 (by decide) ?_
            refine g_ic_ne (tgt := 44) dL_reads_37 (by decide) (fun h_4 => ?_) (fun h_4 => ?_)
            · skip
              exact absurd rfl h_4
            · skip
              refine g_ic (v := nI 1) dL_reads_40 (by decide) ?_
              refine g_goto (tgt := 45) dL_reads_41 (by decide) ?_
              refine g_pc (pc' := 45) rfl ?_
              refine g_il_n 1 dL_reads_45 rfl ?_
              refine gz_ne (tgt := 53) dL_reads_46 (by decide) (by omega) (fun h_5 => ?_) (fun h_5 => ?_)
              · skip
                exfalso; omega
              · skip
                refine g_ic (v := nI 1) dL_reads_49 (by decide) ?_
                refine g_goto (tgt := 54) dL_reads_50 (by decide) ?_
                refine gn_ne (tgt := 106) dL_reads_54 (by decide) (by omega) (by omega) (fun h_6 => ?_) (fun h_6 => ?_)
                · skip
                  exfalso; omega
                · skip
                  refine g_il_n 2 dL_reads_57 rfl ?_
                  refine gz_ne (tgt := 70) dL_reads_58 (by decide) (by omega) (fun h_7 => ?_) (fun h_7 => ?_)
                  · skip
                    refine g_al_n 3 dL_reads_70 rfl ?_
                    refine g_pc (pc' := 71) rfl ?_
                    refine g_ic (v := nI 0) dL_reads_71 (by decide) ?_
                    refine g_il_n 2 dL_reads_72 rfl ?_
                    refine g_ic (v := nI 0) dL_reads_73 (by decide) ?_
                    refine g_cl (mc := 1) (ms := 6) (st := []) (As := [.ref (γ.2.2 0), .int (nI 0), .int (nI q), .int (nI 0)]) (d := 6) (c_L_count l hl0 γ J21 L P g n r9 q u hG21 0 q 0 (by omega) (Nat.le_refl q) (by decide)) gL_reads_L_count rfl ⟨by decide, by decide, rfl⟩ ⟨Nat.le_of_ble_eq_true rfl, Nat.le_of_ble_eq_true rfl⟩ rfl (Nat.le_of_ble_eq_true rfl) dL_reads_74 ⟨by show _ ≤ 18; omega, by show _ ≤ 108; omega⟩ ?_
                    rintro r22 J22 L22 ⟨er22, hG22, eL22⟩
                    rw [er22, rdg_eq (show 0 < q by omega), eL22]
                    refine g_il_n 1 dL_reads_77 rfl ?_
                    refine gn_ne (tgt := 106) dL_reads_78 (by decide) (by omega) (by omega) (fun h_8 => ?_) (fun h_8 => ?_)
                    · skip
                      exfalso; omega
                    · skip
                      refine g_il_n 2 dL_reads_81 rfl ?_
                      refine g_ic (v := nI 1) dL_reads_82 (by decide) ?_
                      refine g_pc (pc' := 83) rfl ?_
                      refine gn_ne (tgt := 92) dL_reads_83 (by decide) (by omega) (by omega) (fun h_9 => ?_) (fun h_9 => ?_)
                      · skip
                        exfalso; omega
                      · skip
                        refine g_il 0 dL_reads_86 rfl ?_
                        refine g_ic (v := nI 1) dL_reads_88 (by decide) ?_
                        refine g_ic_ge (tgt := 106) dL_reads_89 (by decide) (fun h_10 => ?_) (fun h_10 => ?_)
                        · skip
                          exact absurd h_10 (by decide)
                        · skip
                          refine g_il_n 2 dL_reads_92 rfl ?_
                          refine g_ic (v := nI 2) dL_reads_93 (by decide) ?_
                          refine gn_lt (tgt := 102) dL_reads_94 (by decide) (by omega) (by omega) (fun h_11 => ?_) (fun h_11 => ?_)
                          · skip
                            refine g_ic (v := nI 1) dL_reads_102 (by decide) ?_
                            refine g_pc (pc' := 103) rfl ?_
                            refine g_goto (tgt := 107) dL_reads_103 (by decide) ?_
                            refine g_is (lv' := [(5, .int (nI 1)), (4, .int (-1 : Int32)), (3, .int (nI (rdg g r9 u q))), (2, .int (nI q)), (0, .ref (γ.2.2 0)), (1, .int (nI w))]) dL_reads_107 (by decide) rfl ?_
                            refine g_sub [4, 5, 3, 0] rfl ?_
                            exact k109 J22 _ _ hG22 (by omega) (by omega)
                          · skip
                            exfalso; omega
                  · skip
                    exfalso; omega
    · skip
      refine g_is (lv' := [(4, .int (-1 : Int32)), (3, .int (nI (rdg g r9 u q))), (2, .int (nI q)), (0, .ref (γ.2.2 0)), (1, .int (nI w))]) dL_reads_14 (by decide) rfl ?_
      refine g_il_n 1 dL_reads_16 rfl ?_
      refine gz_lt (tgt := 106) dL_reads_17 (by decide) (by omega) (fun h_1 => ?_) (fun h_1 => ?_)
      · skip
        exact h_1.elim
      · skip
        refine g_il_n 1 dL_reads_20 rfl ?_
        refine g_ldc (v := nI 1000000) (by decide +kernel) dL_reads_21 ?_
        refine gn_gt (tgt := 106) dL_reads_23 (by decide) (by omega) (by omega) (fun h_2 => ?_) (fun h_2 => ?_)
        · skip
          exfalso; omega
        · skip
          refine g_il_n 1 dL_reads_26 rfl ?_
          refine g_pc (pc' := 27) rfl ?_
          refine g_al_n 3 dL_reads_27 rfl ?_
          refine g_ci (r_V (st := [.int (nI (rdg g r9 u q))]) (As := []) (d := 9) 0 (by decide) rfl rfl (c_X4_readingsPlainly l γ J3 L P g n r9 q u hG3) gL_reads_X4_readingsPlainly rfl ⟨rfl, by decide, by decide, rfl⟩ ⟨Nat.le_of_ble_eq_true rfl, Nat.le_of_ble_eq_true rfl⟩ rfl (Nat.le_of_ble_eq_true rfl) dL_reads_28 ⟨by show _ ≤ 18; omega, by show _ ≤ 108; omega⟩) ?_
          rintro r31 J31 L31 ⟨er31, hG31, -, eL31⟩
          rw [er31, eL31]
          refine gn_ne (tgt := 106) dL_reads_31 (by decide) (by omega) (by omega) (fun h_3 => ?_) (fun h_3 => ?_)
          · skip
            exfalso; omega
          · skip
            refine g_il 0 dL_reads_34 rfl ?_
            refine g_ic (v := (-1 : Int32)) dL_reads_36 (by decide) ?_
            refine g_ic_ne (tgt := 44) dL_reads_37 (by decide) (fun h_4 => ?_) (fun h_4 => ?_)
            · skip
              exact absurd rfl h_4
            · skip
              refine g_ic (v := nI 1) dL_reads_40 (by decide) ?_
              refine g_goto (tgt := 45) dL_reads_41 (by decide) ?_
              refine g_pc (pc' := 45) rfl ?_
              refine g_il_n 1 dL_reads_45 rfl ?_
              refine gz_ne (tgt := 53) dL_reads_46 (by decide) (by omega) (fun h_5 => ?_) (fun h_5 => ?_)
              · skip
                exfalso; omega
              · skip
                refine g_ic (v := nI 1) dL_reads_49 (by decide) ?_
                refine g_goto (tgt := 54) dL_reads_50 (by decide) ?_
                refine gn_ne (tgt := 106) dL_reads_54 (by decide) (by omega) (by omega) (fun h_6 => ?_) (fun h_6 => ?_)
                · skip
                  exfalso; omega
                · skip
                  refine g_il_n 2 dL_reads_57 rfl ?_
                  refine gz_ne (tgt := 70) dL_reads_58 (by decide) (by omega) (fun h_7 => ?_) (fun h_7 => ?_)
                  · skip
                    refine g_al_n 3 dL_reads_70 rfl ?_
                    refine g_pc (pc' := 71) rfl ?_
                    refine g_ic (v := nI 0) dL_reads_71 (by decide) ?_
                    refine g_il_n 2 dL_reads_72 rfl ?_
                    refine g_ic (v := nI 0) dL_reads_73 (by decide) ?_
                    refine g_cl (mc := 1) (ms := 6) (st := []) (As := [.ref (γ.2.2 0), .int (nI 0), .int (nI q), .int (nI 0)]) (d := 6) (c_L_count l hl0 γ J31 L P g n r9 q u hG31 0 q 0 (by omega) (Nat.le_refl q) (by decide)) gL_reads_L_count rfl ⟨by decide, by decide, rfl⟩ ⟨Nat.le_of_ble_eq_true rfl, Nat.le_of_ble_eq_true rfl⟩ rfl (Nat.le_of_ble_eq_true rfl) dL_reads_74 ⟨by show _ ≤ 18; omega, by show _ ≤ 108; omega⟩ ?_
                    rintro r32 J32 L32 ⟨er32, hG32, eL32⟩
                    rw [er32, rdg_eq (show 0 < q by omega), eL32]
                    refine g_il_n 1 dL_reads_77 rfl ?_
                    refine gn_ne (tgt := 106) dL_reads_78 (by decide) (by omega) (by omega) (fun h_8 => ?_) (fun h_8 => ?_)
                    · skip
                      exfalso; omega
                    · skip
                      refine g_il_n 2 dL_reads_81 rfl ?_
                      refine g_ic (v := nI 1) dL_reads_82 (by decide) ?_
                      refine g_pc (pc' := 83) rfl ?_
                      refine gn_ne (tgt := 92) dL_reads_83 (by decide) (by omega) (by omega) (fun h_9 => ?_) (fun h_9 => ?_)
                      · skip
                        refine g_il_n 2 dL_reads_92 rfl ?_
                        refine g_ic (v := nI 2) dL_reads_93 (by decide) ?_
                        refine gn_lt (tgt := 102) dL_reads_94 (by decide) (by omega) (by omega) (fun h_10 => ?_) (fun h_10 => ?_)
                        · skip
                          exfalso; omega
                        · skip
                          refine g_il 0 dL_reads_97 rfl ?_
                          refine g_if_eq (tgt := 106) dL_reads_99 (by decide) (fun h_11 => ?_) (fun h_11 => ?_)
                          · skip
                            exact absurd h_11 (by decide)
                          · skip
                            refine g_ic (v := nI 1) dL_reads_102 (by decide) ?_
                            refine g_goto (tgt := 107) dL_reads_103 (by decide) ?_
                            refine g_pc (pc' := 107) rfl ?_
                            refine g_is (lv' := [(5, .int (nI 1)), (4, .int (-1 : Int32)), (3, .int (nI (rdg g r9 u q))), (2, .int (nI q)), (0, .ref (γ.2.2 0)), (1, .int (nI w))]) dL_reads_107 (by decide) rfl ?_
                            refine g_sub [4, 5, 3, 0] rfl ?_
                            exact k109 J32 _ _ hG32 (by omega) (by omega)
                      · skip
                        exfalso; omega
                  · skip
                    exfalso; omega
  · rw [el]
    have hR0 : 0 < rdg g r9 u q := (rdg_pos hG.val16).mpr hs
    have hq0 : 0 < q := (isS_iff.mp hs).1
    rcases (by omega : q = 1 ∨ 2 ≤ q) with hq | hq
    · have hj0 := h1 hq
      refine g_is (lv' := [(4, .int (nI j)), (3, .int (nI (rdg g r9 u q))), (2, .int (nI q)), (0, .ref (γ.2.2 0)), (1, .int (nI w))]) dL_reads_14 (by decide) rfl ?_
      refine g_il_n 1 dL_reads_16 rfl ?_
      refine gz_lt (tgt := 106) dL_reads_17 (by decide) (by omega) (fun h_1 => ?_) (fun h_1 => ?_)
      · skip
        exact h_1.elim
      · skip
        refine g_il_n 1 dL_reads_20 rfl ?_
        refine g_ldc (v := nI 1000000) (by decide +kernel) dL_reads_21 ?_
        refine gn_gt (tgt := 106) dL_reads_23 (by decide) (by omega) (by omega) (fun h_2 => ?_) (fun h_2 => ?_)
        · skip
          exfalso; omega
        · skip
          refine g_il_n 1 dL_reads_26 rfl ?_
          refine g_pc (pc' := 27) rfl ?_
          refine g_al_n 3 dL_reads_27 rfl ?_
          refine g_ci (r_V (st := [.int (nI (rdg g r9 u q))]) (As := []) (d := 9) 0 (by decide) rfl rfl (c_X4_readingsPlainly l γ J3 L P g n r9 q u hG3) gL_reads_X4_readingsPlainly rfl ⟨rfl, by decide, by decide, rfl⟩ ⟨Nat.le_of_ble_eq_true rfl, Nat.le_of_ble_eq_true rfl⟩ rfl (Nat.le_of_ble_eq_true rfl) dL_reads_28 ⟨by show _ ≤ 18; omega, by show _ ≤ 108; omega⟩) ?_
          rintro r41 J41 L41 ⟨er41, hG41, -, eL41⟩
          rw [er41, eL41]
          refine gn_ne (tgt := 106) dL_reads_31 (by decide) (by omega) (by omega) (fun h_3 => ?_) (fun h_3 => ?_)
          · skip
            exfalso; omega
          · skip
            refine g_il 0 dL_reads_34 rfl ?_
            refine g_ic (v := (-1 : Int32)) dL_reads_36 (by decide) ?_
            refine g_ic_ne (tgt := 44) dL_reads_37 (by decide) (fun h_4 => ?_) (fun h_4 => ?_)
            · skip
              refine g_ic (v := nI 0) dL_reads_44 (by decide) ?_
              refine g_il_n 1 dL_reads_45 rfl ?_
              refine g_pc (pc' := 46) rfl ?_
              refine gz_ne (tgt := 53) dL_reads_46 (by decide) (by omega) (fun h_5 => ?_) (fun h_5 => ?_)
              · skip
                refine g_ic (v := nI 0) dL_reads_53 (by decide) ?_
                refine gn_ne (tgt := 106) dL_reads_54 (by decide) (by omega) (by omega) (fun h_6 => ?_) (fun h_6 => ?_)
                · skip
                  exfalso; omega
                · skip
                  refine g_il_n 2 dL_reads_57 rfl ?_
                  refine gz_ne (tgt := 70) dL_reads_58 (by decide) (by omega) (fun h_7 => ?_) (fun h_7 => ?_)
                  · skip
                    refine g_al_n 3 dL_reads_70 rfl ?_
                    refine g_ic (v := nI 0) dL_reads_71 (by decide) ?_
                    refine g_il_n 2 dL_reads_72 rfl ?_
                    refine g_pc (pc' := 73) rfl ?_
                    refine g_ic (v := nI 0) dL_reads_73 (by decide) ?_
                    refine g_cl (mc := 1) (ms := 6) (st := []) (As := [.ref (γ.2.2 0), .int (nI 0), .int (nI q), .int (nI 0)]) (d := 6) (c_L_count l hl0 γ J41 L P g n r9 q u hG41 0 q 0 (by omega) (Nat.le_refl q) (by decide)) gL_reads_L_count rfl ⟨by decide, by decide, rfl⟩ ⟨Nat.le_of_ble_eq_true rfl, Nat.le_of_ble_eq_true rfl⟩ rfl (Nat.le_of_ble_eq_true rfl) dL_reads_74 ⟨by show _ ≤ 18; omega, by show _ ≤ 108; omega⟩ ?_
                    rintro r42 J42 L42 ⟨er42, hG42, eL42⟩
                    rw [er42, rdg_eq (show 0 < q by omega), eL42]
                    refine g_il_n 1 dL_reads_77 rfl ?_
                    refine gn_ne (tgt := 106) dL_reads_78 (by decide) (by omega) (by omega) (fun h_8 => ?_) (fun h_8 => ?_)
                    · skip
                      exfalso; omega
                    · skip
                      refine g_il_n 2 dL_reads_81 rfl ?_
                      refine g_ic (v := nI 1) dL_reads_82 (by decide) ?_
                      refine gn_ne (tgt := 92) dL_reads_83 (by decide) (by omega) (by omega) (fun h_9 => ?_) (fun h_9 => ?_)
                      · skip
                        exfalso; omega
                      · skip
                        refine g_il 0 dL_reads_86 rfl ?_
                        refine g_pc (pc' := 88) rfl ?_
                        refine g_ic (v := nI 1) dL_reads_88 (by decide) ?_
                        refine gn_ge (tgt := 106) dL_reads_89 (by decide) (by omega) (by omega) (fun h_10 => ?_) (fun h_10 => ?_)
                        · skip
                          exfalso; omega
                        · skip
                          refine g_il_n 2 dL_reads_92 rfl ?_
                          refine g_ic (v := nI 2) dL_reads_93 (by decide) ?_
                          refine gn_lt (tgt := 102) dL_reads_94 (by decide) (by omega) (by omega) (fun h_11 => ?_) (fun h_11 => ?_)
                          · skip
                            refine g_ic (v := nI 1) dL_reads_102 (by decide) ?_
                            refine g_goto (tgt := 107) dL_reads_103 (by decide) ?_
                            refine g_is (lv' := [(5, .int (nI 1)), (4, .int (nI j)), (3, .int (nI (rdg g r9 u q))), (2, .int (nI q)), (0, .ref (γ.2.2 0)), (1, .int (nI w))]) dL_reads_107 (by decide) rfl ?_
                            refine g_sub [4, 5, 3, 0] rfl ?_
                            exact k109 J42 _ _ hG42 (by omega) (by omega)
                          · skip
                            exfalso; omega
                  · skip
                    exfalso; omega
              · skip
                exfalso; omega
            · skip
              exact absurd h_4 (nI_ne_m1 (by omega))
    · have hj0 := h2 hq
      refine g_is (lv' := [(4, .int (nI j)), (3, .int (nI (rdg g r9 u q))), (2, .int (nI q)), (0, .ref (γ.2.2 0)), (1, .int (nI w))]) dL_reads_14 (by decide) rfl ?_
      refine g_il_n 1 dL_reads_16 rfl ?_
      refine gz_lt (tgt := 106) dL_reads_17 (by decide) (by omega) (fun h_1 => ?_) (fun h_1 => ?_)
      · skip
        exact h_1.elim
      · skip
        refine g_il_n 1 dL_reads_20 rfl ?_
        refine g_ldc (v := nI 1000000) (by decide +kernel) dL_reads_21 ?_
        refine gn_gt (tgt := 106) dL_reads_23 (by decide) (by omega) (by omega) (fun h_2 => ?_) (fun h_2 => ?_)
        · skip
          exfalso; omega
        · skip
          refine g_il_n 1 dL_reads_26 rfl ?_
          refine g_pc (pc' := 27) rfl ?_
          refine g_al_n 3 dL_reads_27 rfl ?_
          refine g_ci (r_V (st := [.int (nI (rdg g r9 u q))]) (As := []) (d := 9) 0 (by decide) rfl rfl (c_X4_readingsPlainly l γ J3 L P g n r9 q u hG3) gL_reads_X4_readingsPlainly rfl ⟨rfl, by decide, by decide, rfl⟩ ⟨Nat.le_of_ble_eq_true rfl, Nat.le_of_ble_eq_true rfl⟩ rfl (Nat.le_of_ble_eq_true rfl) dL_reads_28 ⟨by show _ ≤ 18; omega, by show _ ≤ 108; omega⟩) ?_
          rintro r51 J51 L51 ⟨er51, hG51, -, eL51⟩
          rw [er51, eL51]
          refine gn_ne (tgt := 106) dL_reads_31 (by decide) (by omega) (by omega) (fun h_3 => ?_) (fun h_3 => ?_)
          · skip
            exfalso; omega
          · skip
            refine g_il 0 dL_reads_34 rfl ?_
            refine g_ic (v := (-1 : Int32)) dL_reads_36 (by decide) ?_
            refine g_ic_ne (tgt := 44) dL_reads_37 (by decide) (fun h_4 => ?_) (fun h_4 => ?_)
            · skip
              refine g_ic (v := nI 0) dL_reads_44 (by decide) ?_
              refine g_il_n 1 dL_reads_45 rfl ?_
              refine g_pc (pc' := 46) rfl ?_
              refine gz_ne (tgt := 53) dL_reads_46 (by decide) (by omega) (fun h_5 => ?_) (fun h_5 => ?_)
              · skip
                refine g_ic (v := nI 0) dL_reads_53 (by decide) ?_
                refine gn_ne (tgt := 106) dL_reads_54 (by decide) (by omega) (by omega) (fun h_6 => ?_) (fun h_6 => ?_)
                · skip
                  exfalso; omega
                · skip
                  refine g_il_n 2 dL_reads_57 rfl ?_
                  refine gz_ne (tgt := 70) dL_reads_58 (by decide) (by omega) (fun h_7 => ?_) (fun h_7 => ?_)
                  · skip
                    refine g_al_n 3 dL_reads_70 rfl ?_
                    refine g_ic (v := nI 0) dL_reads_71 (by decide) ?_
                    refine g_il_n 2 dL_reads_72 rfl ?_
                    refine g_pc (pc' := 73) rfl ?_
                    refine g_ic (v := nI 0) dL_reads_73 (by decide) ?_
                    refine g_cl (mc := 1) (ms := 6) (st := []) (As := [.ref (γ.2.2 0), .int (nI 0), .int (nI q), .int (nI 0)]) (d := 6) (c_L_count l hl0 γ J51 L P g n r9 q u hG51 0 q 0 (by omega) (Nat.le_refl q) (by decide)) gL_reads_L_count rfl ⟨by decide, by decide, rfl⟩ ⟨Nat.le_of_ble_eq_true rfl, Nat.le_of_ble_eq_true rfl⟩ rfl (Nat.le_of_ble_eq_true rfl) dL_reads_74 ⟨by show _ ≤ 18; omega, by show _ ≤ 108; omega⟩ ?_
                    rintro r52 J52 L52 ⟨er52, hG52, eL52⟩
                    rw [er52, rdg_eq (show 0 < q by omega), eL52]
                    refine g_il_n 1 dL_reads_77 rfl ?_
                    refine gn_ne (tgt := 106) dL_reads_78 (by decide) (by omega) (by omega) (fun h_8 => ?_) (fun h_8 => ?_)
                    · skip
                      exfalso; omega
                    · skip
                      refine g_il_n 2 dL_reads_81 rfl ?_
                      refine g_ic (v := nI 1) dL_reads_82 (by decide) ?_
                      refine gn_ne (tgt := 92) dL_reads_83 (by decide) (by omega) (by omega) (fun h_9 => ?_) (fun h_9 => ?_)
                      · skip
                        refine g_il_n 2 dL_reads_92 rfl ?_
                        refine g_pc (pc' := 93) rfl ?_
                        refine g_ic (v := nI 2) dL_reads_93 (by decide) ?_
                        refine gn_lt (tgt := 102) dL_reads_94 (by decide) (by omega) (by omega) (fun h_10 => ?_) (fun h_10 => ?_)
                        · skip
                          exfalso; omega
                        · skip
                          refine g_il 0 dL_reads_97 rfl ?_
                          refine gz_eq (tgt := 106) dL_reads_99 (by decide) (by omega) (fun h_11 => ?_) (fun h_11 => ?_)
                          · skip
                            exfalso; omega
                          · skip
                            refine g_ic (v := nI 1) dL_reads_102 (by decide) ?_
                            refine g_goto (tgt := 107) dL_reads_103 (by decide) ?_
                            refine g_is (lv' := [(5, .int (nI 1)), (4, .int (nI j)), (3, .int (nI (rdg g r9 u q))), (2, .int (nI q)), (0, .ref (γ.2.2 0)), (1, .int (nI w))]) dL_reads_107 (by decide) rfl ?_
                            refine g_sub [4, 5, 3, 0] rfl ?_
                            exact k109 J52 _ _ hG52 (by omega) (by omega)
                      · skip
                        exfalso; omega
                  · skip
                    exfalso; omega
              · skip
                exfalso; omega
            · skip
              exact absurd h_4 (nI_ne_m1 (by omega))
