/-! the law's body, case by case -/
def QLw (b : Nat) : List Frame → Array Value → State → State → Prop := fun below args s t => args = #[Value.ref b] → lw_Z below #[Value.ref b] s t
theorem g_lawend {l : Launch} {γ : Gm} {P : PT} {b Ln : Nat} {xs : Nat → Int32} {cells slots pc : Nat} {lv : List (Nat × Value)} {I : IT} {L : LT} (hc : cells ≤ 601024) (hs : slots ≤ 7293034) (hd : decode cL_law pc = .ok (.ireturn, 1)) : G (ELw b Ln xs) l cL_law 8 wsL_law RL (some .boolean) room_1 γ P ALw (QLw b) cells slots pc lv [.int 1] I L := by
  intro p e s m args below meth c K H locs ls hS hP hD hl
  by_cases ha : args = #[Value.ref b]
  · subst ha
    refine va_forget (fun q hq => hS.2.2 q hq) ?_
    refine W.widen (k := 601024) (n := 7293034) hc hs ?_
    intro T hT X
    obtain ⟨t, h1, h2⟩ := lw_ret (d0 := s.drawn) (Drawn.sameBut.refl s.drawn lw_cs) K.1.1 K.1.2.1 K.2.2.2.1 K.2.2.2.2.1 (b := b) (l := l) hd (below := below) (ls := ls) (H := H) T hT X
    exact ⟨t, h1, fun _ => h2⟩
  · intro T hT X
    exact ⟨_, Steps.refl _, fun h => absurd h ha⟩
/-- on to the next five ints -/
abbrev Nx (l : Launch) (γ : Gm) (b Ln : Nat) (xs : Nat → Int32) (i N : Nat) : Prop := ∀ (g : GR) (n r9 q : Nat) (u : Nat → Nat) (I : IT) (L : LT) (P : PT) (cells slots : Nat), MR I g n r9 q u → GW I g n r9 q u → cells + N ≤ 601024 → slots + 6 * N ≤ 7293034 → G (ELw b Ln xs) l cL_law 8 wsL_law RL (some .boolean) room_1 γ P ALw (QLw b) cells slots 28 [(0, .ref b), (1, .ref (γ.2.2 0)), (2, .ref (γ.2.2 8)), (3, .ref (γ.2.2 10)), (4, .ref (γ.2.2 11)), (5, .int (nI i))] [] I L

set_option maxRecDepth 100000 in
set_option maxHeartbeats 4000000 in
theorem k_addWord (l : Launch) (hl0 : l.stackTraces = false) (γ : Gm) (I : IT) (L : LT) (P : PT) (b Ln : Nat) (xs : Nat → Int32) (i N : Nat) (hi : i + 5 ≤ Ln) (hLn : Ln ≤ 2560) (nx : Nx l γ b Ln xs (i + 5) N) (g : GR) (n r9 q : Nat) (u : Nat → Nat) (hM : MR I g n r9 q u) (hG : GW I g n r9 q u) (cells slots : Nat) (hc : cells + (N + 1) ≤ 601024) (hs : slots + 6 * (N + 1) ≤ 7293034) : G (ELw b Ln xs) l cL_law 8 wsL_law RL (some .boolean) room_1 γ P ALw (QLw b) cells slots 140 [(0, .ref b), (1, .ref (γ.2.2 0)), (2, .ref (γ.2.2 8)), (3, .ref (γ.2.2 10)), (4, .ref (γ.2.2 11)), (5, .int (nI i))] [] I L := by
  refine g_al_n 1 dL_law_140 rfl ?_
  refine g_al_n 0 dL_law_141 rfl ?_
  refine g_il 5 dL_law_142 rfl ?_
  refine g_ic (v := nI 1) dL_law_144 (by decide) ?_
  refine g_iadd (v := nI (i + 1)) dL_law_145 (nI_add _ _) ?_
  refine g_sld (i + 1) (by omega) dL_law_146 ?_
  refine g_al_n 0 dL_law_147 rfl ?_
  refine g_pc (pc' := 148) rfl ?_
  refine g_il 5 dL_law_148 rfl ?_
  refine g_ic (v := nI 2) dL_law_150 (by decide) ?_
  refine g_iadd (v := nI (i + 2)) dL_law_151 (nI_add _ _) ?_
  refine g_sld (i + 2) (by omega) dL_law_152 ?_
  refine g_al_n 0 dL_law_153 rfl ?_
  refine g_il 5 dL_law_154 rfl ?_
  refine g_ic (v := nI 3) dL_law_156 (by decide) ?_
  refine g_iadd (v := nI (i + 3)) dL_law_157 (nI_add _ _) ?_
  refine g_pc (pc' := 158) rfl ?_
  refine g_sld (i + 3) (by omega) dL_law_158 ?_
  refine g_al_n 3 dL_law_159 rfl ?_
  refine g_cl (st := []) (As := [.ref (γ.2.2 0), .int (xs (i + 1)), .int (xs (i + 2)), .int (xs (i + 3)), .ref (γ.2.2 10)]) (d := 2) (c_L_addWord l hl0 γ I L P g n r9 q u hG (xs (i + 1)) (xs (i + 2)) (xs (i + 3))) gL_law_L_addWord rfl ⟨by decide, by decide, rfl⟩ ⟨Nat.le_of_ble_eq_true rfl, Nat.le_of_ble_eq_true rfl⟩ rfl (Nat.le_of_ble_eq_true rfl) dL_law_160 ⟨show cells + 1 ≤ 601024 by omega, show slots + 6 ≤ 7293034 by omega⟩ ?_
  rintro r1 I1 L1 P1 ⟨er, hout, hG1, hF1, hL1, eP1⟩
  rw [er]
  refine g_P eP1 ?_
  have hM1 := hF1.mr hM
  refine g_is (lv' := [(6, .int (nI (cd2 (inB (xs (i + 1)) 8 && inB (xs (i + 2)) 4 && inB (xs (i + 3)) 4) (decide (n < 9))))), (0, .ref b), (1, .ref (γ.2.2 0)), (2, .ref (γ.2.2 8)), (3, .ref (γ.2.2 10)), (4, .ref (γ.2.2 11)), (5, .int (nI i))]) dL_law_163 (by decide) rfl ?_
  refine g_al_n 3 dL_law_165 rfl ?_
  refine g_al_n 1 dL_law_166 rfl ?_
  refine g_il 6 dL_law_167 rfl ?_
  refine g_ic (v := nI 1) dL_law_169 (by decide) ?_
  refine g_pc (pc' := 170) rfl ?_
  refine g_iadd (v := nI (i + 1)) dL_law_170 (nI_add _ _) ?_
  refine g_sld (i + 1) (by omega) dL_law_171 ?_
  refine g_al_n 1 dL_law_172 rfl ?_
  refine g_il 6 dL_law_173 rfl ?_
  refine g_ic (v := nI 2) dL_law_175 (by decide) ?_
  refine g_iadd (v := nI (i + 2)) dL_law_176 (nI_add _ _) ?_
  refine g_sld (i + 2) (by omega) dL_law_177 ?_
  refine g_al_n 1 dL_law_178 rfl ?_
  refine g_pc (pc' := 179) rfl ?_
  refine g_il 6 dL_law_179 rfl ?_
  refine g_ic (v := nI 3) dL_law_181 (by decide) ?_
  refine g_iadd (v := nI (i + 3)) dL_law_182 (nI_add _ _) ?_
  refine g_sld (i + 3) (by omega) dL_law_183 ?_
  refine g_ci (r_V (st := []) (As := [.int (xs (i + 1)), .int (xs (i + 2)), .int (xs (i + 3))]) (d := 2) 8 (by decide) rfl rfl (c_X5_addWord l γ I1 L1 P g n r9 q u hM1 (xs (i + 1)) (xs (i + 2)) (xs (i + 3))) gL_law_X5_addWord rfl ⟨rfl, by decide, by decide, rfl⟩ ⟨Nat.le_of_ble_eq_true rfl, Nat.le_of_ble_eq_true rfl⟩ rfl (Nat.le_of_ble_eq_true rfl) dL_law_184 ⟨show cells + 1 ≤ 601024 by omega, show slots + 6 ≤ 7293034 by omega⟩) ?_
  rintro r2 I2 Lz1 ⟨hans, h4, hM2, hFM, eLz1⟩
  rw [eLz1]
  have hG2 := hFM.gw hG1
  refine g_is (lv' := [(7, .int r2), (6, .int (nI (cd2 (inB (xs (i + 1)) 8 && inB (xs (i + 2)) 4 && inB (xs (i + 3)) 4) (decide (n < 9))))), (0, .ref b), (1, .ref (γ.2.2 0)), (2, .ref (γ.2.2 8)), (3, .ref (γ.2.2 10)), (4, .ref (γ.2.2 11)), (5, .int (nI i))]) dL_law_187 (by decide) rfl ?_
  refine g_al_n 4 dL_law_189 rfl ?_
  refine g_ci0 (v := I2 8 4) (r_V (st := []) (As := []) (d := 0) 8 (by decide) rfl rfl (c_X5_thrown l γ I2 L1 P) gL_law_X5_thrown rfl ⟨rfl, by decide, by decide, rfl⟩ ⟨Nat.le_of_ble_eq_true rfl, Nat.le_of_ble_eq_true rfl⟩ rfl (Nat.le_of_ble_eq_true rfl) dL_law_190 ⟨show cells + 1 ≤ 601024 by omega, show slots + 6 ≤ 7293034 by omega⟩) ?_
  refine g_top (v := nI (cd2 (inB (xs (i + 1)) 8 && inB (xs (i + 2)) 4 && inB (xs (i + 3)) 4) (decide (n < 9)))) h4 ?_
  refine g_pc (pc' := 193) rfl ?_
  refine g_il 1 dL_law_193 rfl ?_
  refine gn_eq (tgt := 200) dL_law_195 (by decide) (cd2_lt _ _) (cd2_lt _ _) (fun h1 => ?_) (fun h1 => ?_)
  · skip
    refine g_il 1 dL_law_200 rfl ?_
    refine gz_ne (tgt := 217) dL_law_202 (by decide) (cd2_lt _ _) (fun h2 => ?_) (fun h2 => ?_)
    · skip
      refine g_goto (tgt := 1199) dL_law_217 (by decide) ?_
      refine g_inc (v := nI (i + 5)) (lv' := [(5, .int (nI (i + 5))), (7, .int r2), (6, .int (nI (cd2 (inB (xs (i + 1)) 8 && inB (xs (i + 2)) 4 && inB (xs (i + 3)) 4) (decide (n < 9))))), (0, .ref b), (1, .ref (γ.2.2 0)), (2, .ref (γ.2.2 8)), (3, .ref (γ.2.2 10)), (4, .ref (γ.2.2 11))]) 7 dL_law_1199 rfl (inc_n _ 5) (by decide) rfl ?_
      refine g_goto (tgt := 28) dL_law_1202 (by decide) ?_
      refine g_sub [3, 4, 5, 6, 7, 0] rfl ?_
      exact nx _ _ _ _ _ I2 L1 P (cells + 1) (slots + 6) hM2 hG2 (by omega) (by omega)
    · skip
      have hok := cd2_ok h2
      have hr2 := hans (cd2_ok h2)
      refine g_al_n 5 dL_law_205 rfl ?_
      refine g_pc (pc' := 206) rfl ?_
      refine g_ic (v := nI 0) dL_law_206 (by decide) ?_
      refine g_lald (v := (nI n).toInt64) 10 0 (by decide) rfl (by decide) (by decide) (hout hok) dL_law_207 ?_
      refine g_il 0 dL_law_208 rfl ?_
      refine g_top (v := nI n) hr2 ?_
      refine g_i2l (v := (nI n).toInt64) dL_law_210 (rfl) ?_
      refine g_lcmp (v := (0 : Int32)) dL_law_211 (lg_self _) ?_
      refine g_if_eq (tgt := 217) dL_law_212 (by decide) (fun h3 => ?_) (fun h3 => ?_)
      · skip
        refine g_goto (tgt := 1199) dL_law_217 (by decide) ?_
        refine g_inc (v := nI (i + 5)) (lv' := [(5, .int (nI (i + 5))), (7, .int r2), (6, .int (nI (cd2 (inB (xs (i + 1)) 8 && inB (xs (i + 2)) 4 && inB (xs (i + 3)) 4) (decide (n < 9))))), (0, .ref b), (1, .ref (γ.2.2 0)), (2, .ref (γ.2.2 8)), (3, .ref (γ.2.2 10)), (4, .ref (γ.2.2 11))]) 7 dL_law_1199 rfl (inc_n _ 5) (by decide) rfl ?_
        refine g_pc (pc' := 1202) rfl ?_
        refine g_goto (tgt := 28) dL_law_1202 (by decide) ?_
        refine g_sub [3, 4, 5, 6, 7, 0] rfl ?_
        exact nx _ _ _ _ _ I2 L1 P (cells + 1) (slots + 6) hM2 hG2 (by omega) (by omega)
      · skip
        exact absurd rfl h3
  · skip
    exact absurd rfl h1

set_option maxRecDepth 100000 in
set_option maxHeartbeats 4000000 in
theorem k_setWord (l : Launch) (hl0 : l.stackTraces = false) (γ : Gm) (I : IT) (L : LT) (P : PT) (b Ln : Nat) (xs : Nat → Int32) (i N : Nat) (hi : i + 5 ≤ Ln) (hLn : Ln ≤ 2560) (nx : Nx l γ b Ln xs (i + 5) N) (g : GR) (n r9 q : Nat) (u : Nat → Nat) (hM : MR I g n r9 q u) (hG : GW I g n r9 q u) (cells slots : Nat) (hc : cells + (N + 1) ≤ 601024) (hs : slots + 6 * (N + 1) ≤ 7293034) : G (ELw b Ln xs) l cL_law 8 wsL_law RL (some .boolean) room_1 γ P ALw (QLw b) cells slots 220 [(0, .ref b), (1, .ref (γ.2.2 0)), (2, .ref (γ.2.2 8)), (3, .ref (γ.2.2 10)), (4, .ref (γ.2.2 11)), (5, .int (nI i))] [] I L := by
  refine g_al_n 1 dL_law_220 rfl ?_
  refine g_al_n 0 dL_law_221 rfl ?_
  refine g_il 5 dL_law_222 rfl ?_
  refine g_ic (v := nI 1) dL_law_224 (by decide) ?_
  refine g_iadd (v := nI (i + 1)) dL_law_225 (nI_add _ _) ?_
  refine g_sld (i + 1) (by omega) dL_law_226 ?_
  refine g_al_n 0 dL_law_227 rfl ?_
  refine g_pc (pc' := 228) rfl ?_
  refine g_il 5 dL_law_228 rfl ?_
  refine g_ic (v := nI 2) dL_law_230 (by decide) ?_
  refine g_iadd (v := nI (i + 2)) dL_law_231 (nI_add _ _) ?_
  refine g_sld (i + 2) (by omega) dL_law_232 ?_
  refine g_al_n 0 dL_law_233 rfl ?_
  refine g_il 5 dL_law_234 rfl ?_
  refine g_ic (v := nI 3) dL_law_236 (by decide) ?_
  refine g_iadd (v := nI (i + 3)) dL_law_237 (nI_add _ _) ?_
  refine g_pc (pc' := 238) rfl ?_
  refine g_sld (i + 3) (by omega) dL_law_238 ?_
  refine g_al_n 0 dL_law_239 rfl ?_
  refine g_il 5 dL_law_240 rfl ?_
  refine g_ic (v := nI 4) dL_law_242 (by decide) ?_
  refine g_iadd (v := nI (i + 4)) dL_law_243 (nI_add _ _) ?_
  refine g_sld (i + 4) (by omega) dL_law_244 ?_
  refine g_al_n 3 dL_law_245 rfl ?_
  refine g_cl (st := []) (As := [.ref (γ.2.2 0), .int (xs (i + 1)), .int (xs (i + 2)), .int (xs (i + 3)), .int (xs (i + 4)), .ref (γ.2.2 10)]) (d := 2) (c_L_setWord l hl0 γ I L P g n r9 q u hG (xs (i + 1)) (xs (i + 2)) (xs (i + 3)) (xs (i + 4))) gL_law_L_setWord rfl ⟨by decide, by decide, rfl⟩ ⟨Nat.le_of_ble_eq_true rfl, Nat.le_of_ble_eq_true rfl⟩ rfl (Nat.le_of_ble_eq_true rfl) dL_law_246 ⟨show cells + 1 ≤ 601024 by omega, show slots + 6 ≤ 7293034 by omega⟩ ?_
  rintro r1 I1 L1 P1 ⟨er, hout, hG1, hF1, hL1, eP1⟩
  rw [er]
  refine g_P eP1 ?_
  have hM1 := hF1.mr hM
  refine g_pc (pc' := 249) rfl ?_
  refine g_is (lv' := [(6, .int (nI (cd2 (inB (xs (i + 1)) n) (inB (xs (i + 2)) 8 && inB (xs (i + 3)) 4 && inB (xs (i + 4)) 4)))), (0, .ref b), (1, .ref (γ.2.2 0)), (2, .ref (γ.2.2 8)), (3, .ref (γ.2.2 10)), (4, .ref (γ.2.2 11)), (5, .int (nI i))]) dL_law_249 (by decide) rfl ?_
  refine g_al_n 3 dL_law_251 rfl ?_
  refine g_al_n 1 dL_law_252 rfl ?_
  refine g_il 6 dL_law_253 rfl ?_
  refine g_ic (v := nI 1) dL_law_255 (by decide) ?_
  refine g_iadd (v := nI (i + 1)) dL_law_256 (nI_add _ _) ?_
  refine g_sld (i + 1) (by omega) dL_law_257 ?_
  refine g_al_n 1 dL_law_258 rfl ?_
  refine g_pc (pc' := 259) rfl ?_
  refine g_il 6 dL_law_259 rfl ?_
  refine g_ic (v := nI 2) dL_law_261 (by decide) ?_
  refine g_iadd (v := nI (i + 2)) dL_law_262 (nI_add _ _) ?_
  refine g_sld (i + 2) (by omega) dL_law_263 ?_
  refine g_al_n 1 dL_law_264 rfl ?_
  refine g_il 6 dL_law_265 rfl ?_
  refine g_ic (v := nI 3) dL_law_267 (by decide) ?_
  refine g_iadd (v := nI (i + 3)) dL_law_268 (nI_add _ _) ?_
  refine g_pc (pc' := 269) rfl ?_
  refine g_sld (i + 3) (by omega) dL_law_269 ?_
  refine g_al_n 1 dL_law_270 rfl ?_
  refine g_il 6 dL_law_271 rfl ?_
  refine g_ic (v := nI 4) dL_law_273 (by decide) ?_
  refine g_iadd (v := nI (i + 4)) dL_law_274 (nI_add _ _) ?_
  refine g_sld (i + 4) (by omega) dL_law_275 ?_
  refine g_ci (r_V (st := []) (As := [.int (xs (i + 1)), .int (xs (i + 2)), .int (xs (i + 3)), .int (xs (i + 4))]) (d := 2) 8 (by decide) rfl rfl (c_X5_setWord l γ I1 L1 P g n r9 q u hM1 (xs (i + 1)) (xs (i + 2)) (xs (i + 3)) (xs (i + 4))) gL_law_X5_setWord rfl ⟨rfl, by decide, by decide, rfl⟩ ⟨Nat.le_of_ble_eq_true rfl, Nat.le_of_ble_eq_true rfl⟩ rfl (Nat.le_of_ble_eq_true rfl) dL_law_276 ⟨show cells + 1 ≤ 601024 by omega, show slots + 6 ≤ 7293034 by omega⟩) ?_
  rintro r2 I2 Lz1 ⟨hans, h4, hM2, hFM, eLz1⟩
  rw [eLz1]
  have hG2 := hFM.gw hG1
  refine g_is (lv' := [(7, .int r2), (6, .int (nI (cd2 (inB (xs (i + 1)) n) (inB (xs (i + 2)) 8 && inB (xs (i + 3)) 4 && inB (xs (i + 4)) 4)))), (0, .ref b), (1, .ref (γ.2.2 0)), (2, .ref (γ.2.2 8)), (3, .ref (γ.2.2 10)), (4, .ref (γ.2.2 11)), (5, .int (nI i))]) dL_law_279 (by decide) rfl ?_
  refine g_pc (pc' := 281) rfl ?_
  refine g_al_n 4 dL_law_281 rfl ?_
  refine g_ci0 (v := I2 8 4) (r_V (st := []) (As := []) (d := 0) 8 (by decide) rfl rfl (c_X5_thrown l γ I2 L1 P) gL_law_X5_thrown rfl ⟨rfl, by decide, by decide, rfl⟩ ⟨Nat.le_of_ble_eq_true rfl, Nat.le_of_ble_eq_true rfl⟩ rfl (Nat.le_of_ble_eq_true rfl) dL_law_282 ⟨show cells + 1 ≤ 601024 by omega, show slots + 6 ≤ 7293034 by omega⟩) ?_
  refine g_top (v := nI (cd2 (inB (xs (i + 1)) n) (inB (xs (i + 2)) 8 && inB (xs (i + 3)) 4 && inB (xs (i + 4)) 4))) h4 ?_
  refine g_il 1 dL_law_285 rfl ?_
  refine gn_eq (tgt := 292) dL_law_287 (by decide) (cd2_lt _ _) (cd2_lt _ _) (fun h1 => ?_) (fun h1 => ?_)
  · skip
    refine g_il 1 dL_law_292 rfl ?_
    refine gz_ne (tgt := 309) dL_law_294 (by decide) (cd2_lt _ _) (fun h2 => ?_) (fun h2 => ?_)
    · skip
      refine g_goto (tgt := 1199) dL_law_309 (by decide) ?_
      refine g_inc (v := nI (i + 5)) (lv' := [(5, .int (nI (i + 5))), (7, .int r2), (6, .int (nI (cd2 (inB (xs (i + 1)) n) (inB (xs (i + 2)) 8 && inB (xs (i + 3)) 4 && inB (xs (i + 4)) 4)))), (0, .ref b), (1, .ref (γ.2.2 0)), (2, .ref (γ.2.2 8)), (3, .ref (γ.2.2 10)), (4, .ref (γ.2.2 11))]) 7 dL_law_1199 rfl (inc_n _ 5) (by decide) rfl ?_
      refine g_pc (pc' := 1202) rfl ?_
      refine g_goto (tgt := 28) dL_law_1202 (by decide) ?_
      refine g_sub [3, 4, 5, 6, 7, 0] rfl ?_
      exact nx _ _ _ _ _ I2 L1 P (cells + 1) (slots + 6) hM2 hG2 (by omega) (by omega)
    · skip
      have hok := cd2_ok h2
      have hr2 := hans (cd2_ok h2)
      refine g_al_n 5 dL_law_297 rfl ?_
      refine g_ic (v := nI 0) dL_law_298 (by decide) ?_
      refine g_lald (v := (nI (g 0 (tn (xs (i + 1))))).toInt64) 10 0 (by decide) rfl (by decide) (by decide) (hout hok) dL_law_299 ?_
      refine g_il 0 dL_law_300 rfl ?_
      refine g_top (v := nI (g 0 (tn (xs (i + 1))))) hr2 ?_
      refine g_i2l (v := (nI (g 0 (tn (xs (i + 1))))).toInt64) dL_law_302 (rfl) ?_
      refine g_lcmp (v := (0 : Int32)) dL_law_303 (lg_self _) ?_
      refine g_if_eq (tgt := 309) dL_law_304 (by decide) (fun h3 => ?_) (fun h3 => ?_)
      · skip
        refine g_pc (pc' := 309) rfl ?_
        refine g_goto (tgt := 1199) dL_law_309 (by decide) ?_
        refine g_inc (v := nI (i + 5)) (lv' := [(5, .int (nI (i + 5))), (7, .int r2), (6, .int (nI (cd2 (inB (xs (i + 1)) n) (inB (xs (i + 2)) 8 && inB (xs (i + 3)) 4 && inB (xs (i + 4)) 4)))), (0, .ref b), (1, .ref (γ.2.2 0)), (2, .ref (γ.2.2 8)), (3, .ref (γ.2.2 10)), (4, .ref (γ.2.2 11))]) 7 dL_law_1199 rfl (inc_n _ 5) (by decide) rfl ?_
        refine g_goto (tgt := 28) dL_law_1202 (by decide) ?_
        refine g_sub [3, 4, 5, 6, 7, 0] rfl ?_
        exact nx _ _ _ _ _ I2 L1 P (cells + 1) (slots + 6) hM2 hG2 (by omega) (by omega)
      · skip
        exact absurd rfl h3
  · skip
    exact absurd rfl h1

set_option maxRecDepth 100000 in
set_option maxHeartbeats 4000000 in
theorem k_addRule (l : Launch) (hl0 : l.stackTraces = false) (γ : Gm) (I : IT) (L : LT) (P : PT) (b Ln : Nat) (xs : Nat → Int32) (i N : Nat) (hi : i + 5 ≤ Ln) (hLn : Ln ≤ 2560) (nx : Nx l γ b Ln xs (i + 5) N) (g : GR) (n r9 q : Nat) (u : Nat → Nat) (hM : MR I g n r9 q u) (hG : GW I g n r9 q u) (cells slots : Nat) (hc : cells + (N + 1) ≤ 601024) (hs : slots + 6 * (N + 1) ≤ 7293034) : G (ELw b Ln xs) l cL_law 8 wsL_law RL (some .boolean) room_1 γ P ALw (QLw b) cells slots 312 [(0, .ref b), (1, .ref (γ.2.2 0)), (2, .ref (γ.2.2 8)), (3, .ref (γ.2.2 10)), (4, .ref (γ.2.2 11)), (5, .int (nI i))] [] I L := by
  refine g_al_n 1 dL_law_312 rfl ?_
  refine g_al_n 0 dL_law_313 rfl ?_
  refine g_il 5 dL_law_314 rfl ?_
  refine g_ic (v := nI 1) dL_law_316 (by decide) ?_
  refine g_iadd (v := nI (i + 1)) dL_law_317 (nI_add _ _) ?_
  refine g_sld (i + 1) (by omega) dL_law_318 ?_
  refine g_al_n 0 dL_law_319 rfl ?_
  refine g_pc (pc' := 320) rfl ?_
  refine g_il 5 dL_law_320 rfl ?_
  refine g_ic (v := nI 2) dL_law_322 (by decide) ?_
  refine g_iadd (v := nI (i + 2)) dL_law_323 (nI_add _ _) ?_
  refine g_sld (i + 2) (by omega) dL_law_324 ?_
  refine g_al_n 0 dL_law_325 rfl ?_
  refine g_il 5 dL_law_326 rfl ?_
  refine g_ic (v := nI 3) dL_law_328 (by decide) ?_
  refine g_iadd (v := nI (i + 3)) dL_law_329 (nI_add _ _) ?_
  refine g_pc (pc' := 330) rfl ?_
  refine g_sld (i + 3) (by omega) dL_law_330 ?_
  refine g_al_n 0 dL_law_331 rfl ?_
  refine g_il 5 dL_law_332 rfl ?_
  refine g_ic (v := nI 4) dL_law_334 (by decide) ?_
  refine g_iadd (v := nI (i + 4)) dL_law_335 (nI_add _ _) ?_
  refine g_sld (i + 4) (by omega) dL_law_336 ?_
  refine g_al_n 3 dL_law_337 rfl ?_
  refine g_cl (st := []) (As := [.ref (γ.2.2 0), .int (xs (i + 1)), .int (xs (i + 2)), .int (xs (i + 3)), .int (xs (i + 4)), .ref (γ.2.2 10)]) (d := 4) (c_L_addRule l hl0 γ I L P g n r9 q u hG (xs (i + 1)) (xs (i + 2)) (xs (i + 3)) (xs (i + 4))) gL_law_L_addRule rfl ⟨by decide, by decide, rfl⟩ ⟨Nat.le_of_ble_eq_true rfl, Nat.le_of_ble_eq_true rfl⟩ rfl (Nat.le_of_ble_eq_true rfl) dL_law_338 ⟨show cells + 1 ≤ 601024 by omega, show slots + 6 ≤ 7293034 by omega⟩ ?_
  rintro r1 I1 L1 P1 ⟨er, hout, hG1, hF1, hL1, eP1⟩
  rw [er]
  refine g_P eP1 ?_
  have hM1 := hF1.mr hM
  refine g_pc (pc' := 341) rfl ?_
  refine g_is (lv' := [(6, .int (nI (cd2 (inB (xs (i + 1)) 8 && inB (xs (i + 2)) 8 && inB (xs (i + 3)) 8 && pB (∃ m, DP (xs (i + 4)) m)) (decide (r9 < 8))))), (0, .ref b), (1, .ref (γ.2.2 0)), (2, .ref (γ.2.2 8)), (3, .ref (γ.2.2 10)), (4, .ref (γ.2.2 11)), (5, .int (nI i))]) dL_law_341 (by decide) rfl ?_
  refine g_al_n 3 dL_law_343 rfl ?_
  refine g_al_n 1 dL_law_344 rfl ?_
  refine g_il 6 dL_law_345 rfl ?_
  refine g_ic (v := nI 1) dL_law_347 (by decide) ?_
  refine g_iadd (v := nI (i + 1)) dL_law_348 (nI_add _ _) ?_
  refine g_sld (i + 1) (by omega) dL_law_349 ?_
  refine g_al_n 1 dL_law_350 rfl ?_
  refine g_pc (pc' := 351) rfl ?_
  refine g_il 6 dL_law_351 rfl ?_
  refine g_ic (v := nI 2) dL_law_353 (by decide) ?_
  refine g_iadd (v := nI (i + 2)) dL_law_354 (nI_add _ _) ?_
  refine g_sld (i + 2) (by omega) dL_law_355 ?_
  refine g_al_n 1 dL_law_356 rfl ?_
  refine g_il 6 dL_law_357 rfl ?_
  refine g_ic (v := nI 3) dL_law_359 (by decide) ?_
  refine g_iadd (v := nI (i + 3)) dL_law_360 (nI_add _ _) ?_
  refine g_pc (pc' := 361) rfl ?_
  refine g_sld (i + 3) (by omega) dL_law_361 ?_
  refine g_al_n 1 dL_law_362 rfl ?_
  refine g_il 6 dL_law_363 rfl ?_
  refine g_ic (v := nI 4) dL_law_365 (by decide) ?_
  refine g_iadd (v := nI (i + 4)) dL_law_366 (nI_add _ _) ?_
  refine g_sld (i + 4) (by omega) dL_law_367 ?_
  refine g_ci (r_V (st := []) (As := [.int (xs (i + 1)), .int (xs (i + 2)), .int (xs (i + 3)), .int (xs (i + 4))]) (d := 2) 8 (by decide) rfl rfl (c_X5_addRule l γ I1 L1 P g n r9 q u hM1 (xs (i + 1)) (xs (i + 2)) (xs (i + 3)) (xs (i + 4))) gL_law_X5_addRule rfl ⟨rfl, by decide, by decide, rfl⟩ ⟨Nat.le_of_ble_eq_true rfl, Nat.le_of_ble_eq_true rfl⟩ rfl (Nat.le_of_ble_eq_true rfl) dL_law_368 ⟨show cells + 1 ≤ 601024 by omega, show slots + 6 ≤ 7293034 by omega⟩) ?_
  rintro r2 I2 Lz1 ⟨hans, h4, hM2, hFM, eLz1⟩
  rw [eLz1]
  have hG2 := hFM.gw hG1
  refine g_is (lv' := [(7, .int r2), (6, .int (nI (cd2 (inB (xs (i + 1)) 8 && inB (xs (i + 2)) 8 && inB (xs (i + 3)) 8 && pB (∃ m, DP (xs (i + 4)) m)) (decide (r9 < 8))))), (0, .ref b), (1, .ref (γ.2.2 0)), (2, .ref (γ.2.2 8)), (3, .ref (γ.2.2 10)), (4, .ref (γ.2.2 11)), (5, .int (nI i))]) dL_law_371 (by decide) rfl ?_
  refine g_pc (pc' := 373) rfl ?_
  refine g_al_n 4 dL_law_373 rfl ?_
  refine g_ci0 (v := I2 8 4) (r_V (st := []) (As := []) (d := 0) 8 (by decide) rfl rfl (c_X5_thrown l γ I2 L1 P) gL_law_X5_thrown rfl ⟨rfl, by decide, by decide, rfl⟩ ⟨Nat.le_of_ble_eq_true rfl, Nat.le_of_ble_eq_true rfl⟩ rfl (Nat.le_of_ble_eq_true rfl) dL_law_374 ⟨show cells + 1 ≤ 601024 by omega, show slots + 6 ≤ 7293034 by omega⟩) ?_
  refine g_top (v := nI (cd2 (inB (xs (i + 1)) 8 && inB (xs (i + 2)) 8 && inB (xs (i + 3)) 8 && pB (∃ m, DP (xs (i + 4)) m)) (decide (r9 < 8)))) h4 ?_
  refine g_il 1 dL_law_377 rfl ?_
  refine gn_eq (tgt := 384) dL_law_379 (by decide) (cd2_lt _ _) (cd2_lt _ _) (fun h1 => ?_) (fun h1 => ?_)
  · skip
    refine g_il 1 dL_law_384 rfl ?_
    refine gz_ne (tgt := 401) dL_law_386 (by decide) (cd2_lt _ _) (fun h2 => ?_) (fun h2 => ?_)
    · skip
      refine g_goto (tgt := 1199) dL_law_401 (by decide) ?_
      refine g_inc (v := nI (i + 5)) (lv' := [(5, .int (nI (i + 5))), (7, .int r2), (6, .int (nI (cd2 (inB (xs (i + 1)) 8 && inB (xs (i + 2)) 8 && inB (xs (i + 3)) 8 && pB (∃ m, DP (xs (i + 4)) m)) (decide (r9 < 8))))), (0, .ref b), (1, .ref (γ.2.2 0)), (2, .ref (γ.2.2 8)), (3, .ref (γ.2.2 10)), (4, .ref (γ.2.2 11))]) 7 dL_law_1199 rfl (inc_n _ 5) (by decide) rfl ?_
      refine g_pc (pc' := 1202) rfl ?_
      refine g_goto (tgt := 28) dL_law_1202 (by decide) ?_
      refine g_sub [3, 4, 5, 6, 7, 0] rfl ?_
      exact nx _ _ _ _ _ I2 L1 P (cells + 1) (slots + 6) hM2 hG2 (by omega) (by omega)
    · skip
      have hok := cd2_ok h2
      have hr2 := hans (cd2_ok h2)
      refine g_al_n 5 dL_law_389 rfl ?_
      refine g_ic (v := nI 0) dL_law_390 (by decide) ?_
      refine g_lald (v := (nI r9).toInt64) 10 0 (by decide) rfl (by decide) (by decide) (hout hok) dL_law_391 ?_
      refine g_il 0 dL_law_392 rfl ?_
      refine g_top (v := nI r9) hr2 ?_
      refine g_i2l (v := (nI r9).toInt64) dL_law_394 (rfl) ?_
      refine g_lcmp (v := (0 : Int32)) dL_law_395 (lg_self _) ?_
      refine g_if_eq (tgt := 401) dL_law_396 (by decide) (fun h3 => ?_) (fun h3 => ?_)
      · skip
        refine g_pc (pc' := 401) rfl ?_
        refine g_goto (tgt := 1199) dL_law_401 (by decide) ?_
        refine g_inc (v := nI (i + 5)) (lv' := [(5, .int (nI (i + 5))), (7, .int r2), (6, .int (nI (cd2 (inB (xs (i + 1)) 8 && inB (xs (i + 2)) 8 && inB (xs (i + 3)) 8 && pB (∃ m, DP (xs (i + 4)) m)) (decide (r9 < 8))))), (0, .ref b), (1, .ref (γ.2.2 0)), (2, .ref (γ.2.2 8)), (3, .ref (γ.2.2 10)), (4, .ref (γ.2.2 11))]) 7 dL_law_1199 rfl (inc_n _ 5) (by decide) rfl ?_
        refine g_goto (tgt := 28) dL_law_1202 (by decide) ?_
        refine g_sub [3, 4, 5, 6, 7, 0] rfl ?_
        exact nx _ _ _ _ _ I2 L1 P (cells + 1) (slots + 6) hM2 hG2 (by omega) (by omega)
      · skip
        exact absurd rfl h3
  · skip
    exact absurd rfl h1

set_option maxRecDepth 100000 in
set_option maxHeartbeats 4000000 in
theorem k_dropRule (l : Launch) (hl0 : l.stackTraces = false) (γ : Gm) (I : IT) (L : LT) (P : PT) (b Ln : Nat) (xs : Nat → Int32) (i N : Nat) (hi : i + 5 ≤ Ln) (hLn : Ln ≤ 2560) (nx : Nx l γ b Ln xs (i + 5) N) (g : GR) (n r9 q : Nat) (u : Nat → Nat) (hM : MR I g n r9 q u) (hG : GW I g n r9 q u) (cells slots : Nat) (hc : cells + (N + 1) ≤ 601024) (hs : slots + 6 * (N + 1) ≤ 7293034) : G (ELw b Ln xs) l cL_law 8 wsL_law RL (some .boolean) room_1 γ P ALw (QLw b) cells slots 404 [(0, .ref b), (1, .ref (γ.2.2 0)), (2, .ref (γ.2.2 8)), (3, .ref (γ.2.2 10)), (4, .ref (γ.2.2 11)), (5, .int (nI i))] [] I L := by
  refine g_al_n 1 dL_law_404 rfl ?_
  refine g_al_n 3 dL_law_405 rfl ?_
  refine g_cl (st := []) (As := [.ref (γ.2.2 0), .ref (γ.2.2 10)]) (d := 2) (c_L_dropRule l hl0 γ I L P g n r9 q u hG ) gL_law_L_dropRule rfl ⟨by decide, by decide, rfl⟩ ⟨Nat.le_of_ble_eq_true rfl, Nat.le_of_ble_eq_true rfl⟩ rfl (Nat.le_of_ble_eq_true rfl) dL_law_406 ⟨show cells + 1 ≤ 601024 by omega, show slots + 6 ≤ 7293034 by omega⟩ ?_
  rintro r1 I1 L1 P1 ⟨er, hout, hG1, hF1, hL1, eP1⟩
  rw [er]
  refine g_P eP1 ?_
  have hM1 := hF1.mr hM
  refine g_is (lv' := [(6, .int (nI (cd2 (decide (0 < r9)) (true)))), (0, .ref b), (1, .ref (γ.2.2 0)), (2, .ref (γ.2.2 8)), (3, .ref (γ.2.2 10)), (4, .ref (γ.2.2 11)), (5, .int (nI i))]) dL_law_409 (by decide) rfl ?_
  refine g_al_n 3 dL_law_411 rfl ?_
  refine g_ci (r_V (st := []) (As := []) (d := 1) 8 (by decide) rfl rfl (c_X5_dropRule l γ I1 L1 P g n r9 q u hM1 ) gL_law_X5_dropRule rfl ⟨rfl, by decide, by decide, rfl⟩ ⟨Nat.le_of_ble_eq_true rfl, Nat.le_of_ble_eq_true rfl⟩ rfl (Nat.le_of_ble_eq_true rfl) dL_law_412 ⟨show cells + 1 ≤ 601024 by omega, show slots + 6 ≤ 7293034 by omega⟩) ?_
  rintro r2 I2 Lz1 ⟨hans, h4, hM2, hFM, eLz1⟩
  rw [eLz1]
  have hG2 := hFM.gw hG1
  refine g_is (lv' := [(7, .int r2), (6, .int (nI (cd2 (decide (0 < r9)) (true)))), (0, .ref b), (1, .ref (γ.2.2 0)), (2, .ref (γ.2.2 8)), (3, .ref (γ.2.2 10)), (4, .ref (γ.2.2 11)), (5, .int (nI i))]) dL_law_415 (by decide) rfl ?_
  refine g_pc (pc' := 417) rfl ?_
  refine g_al_n 4 dL_law_417 rfl ?_
  refine g_ci0 (v := I2 8 4) (r_V (st := []) (As := []) (d := 0) 8 (by decide) rfl rfl (c_X5_thrown l γ I2 L1 P) gL_law_X5_thrown rfl ⟨rfl, by decide, by decide, rfl⟩ ⟨Nat.le_of_ble_eq_true rfl, Nat.le_of_ble_eq_true rfl⟩ rfl (Nat.le_of_ble_eq_true rfl) dL_law_418 ⟨show cells + 1 ≤ 601024 by omega, show slots + 6 ≤ 7293034 by omega⟩) ?_
  refine g_top (v := nI (cd2 (decide (0 < r9)) (true))) h4 ?_
  refine g_il 1 dL_law_421 rfl ?_
  refine gn_eq (tgt := 428) dL_law_423 (by decide) (cd2_lt _ _) (cd2_lt _ _) (fun h1 => ?_) (fun h1 => ?_)
  · skip
    refine g_il 1 dL_law_428 rfl ?_
    refine gz_ne (tgt := 445) dL_law_430 (by decide) (cd2_lt _ _) (fun h2 => ?_) (fun h2 => ?_)
    · skip
      refine g_goto (tgt := 1199) dL_law_445 (by decide) ?_
      refine g_inc (v := nI (i + 5)) (lv' := [(5, .int (nI (i + 5))), (7, .int r2), (6, .int (nI (cd2 (decide (0 < r9)) (true)))), (0, .ref b), (1, .ref (γ.2.2 0)), (2, .ref (γ.2.2 8)), (3, .ref (γ.2.2 10)), (4, .ref (γ.2.2 11))]) 7 dL_law_1199 rfl (inc_n _ 5) (by decide) rfl ?_
      refine g_pc (pc' := 1202) rfl ?_
      refine g_goto (tgt := 28) dL_law_1202 (by decide) ?_
      refine g_sub [3, 4, 5, 6, 7, 0] rfl ?_
      exact nx _ _ _ _ _ I2 L1 P (cells + 1) (slots + 6) hM2 hG2 (by omega) (by omega)
    · skip
      have hok := cd2_ok h2
      have hr2 := hans (cd2_ok h2)
      refine g_al_n 5 dL_law_433 rfl ?_
      refine g_ic (v := nI 0) dL_law_434 (by decide) ?_
      refine g_lald (v := (nI (r9 - 1)).toInt64) 10 0 (by decide) rfl (by decide) (by decide) (hout hok) dL_law_435 ?_
      refine g_il 0 dL_law_436 rfl ?_
      refine g_top (v := nI (r9 - 1)) hr2 ?_
      refine g_i2l (v := (nI (r9 - 1)).toInt64) dL_law_438 (rfl) ?_
      refine g_lcmp (v := (0 : Int32)) dL_law_439 (lg_self _) ?_
      refine g_if_eq (tgt := 445) dL_law_440 (by decide) (fun h3 => ?_) (fun h3 => ?_)
      · skip
        refine g_pc (pc' := 445) rfl ?_
        refine g_goto (tgt := 1199) dL_law_445 (by decide) ?_
        refine g_inc (v := nI (i + 5)) (lv' := [(5, .int (nI (i + 5))), (7, .int r2), (6, .int (nI (cd2 (decide (0 < r9)) (true)))), (0, .ref b), (1, .ref (γ.2.2 0)), (2, .ref (γ.2.2 8)), (3, .ref (γ.2.2 10)), (4, .ref (γ.2.2 11))]) 7 dL_law_1199 rfl (inc_n _ 5) (by decide) rfl ?_
        refine g_goto (tgt := 28) dL_law_1202 (by decide) ?_
        refine g_sub [3, 4, 5, 6, 7, 0] rfl ?_
        exact nx _ _ _ _ _ I2 L1 P (cells + 1) (slots + 6) hM2 hG2 (by omega) (by omega)
      · skip
        exact absurd rfl h3
  · skip
    exact absurd rfl h1

set_option maxRecDepth 100000 in
set_option maxHeartbeats 4000000 in
theorem k_say (l : Launch) (hl0 : l.stackTraces = false) (γ : Gm) (I : IT) (L : LT) (P : PT) (b Ln : Nat) (xs : Nat → Int32) (i N : Nat) (hi : i + 5 ≤ Ln) (hLn : Ln ≤ 2560) (nx : Nx l γ b Ln xs (i + 5) N) (g : GR) (n r9 q : Nat) (u : Nat → Nat) (hM : MR I g n r9 q u) (hG : GW I g n r9 q u) (cells slots : Nat) (hc : cells + (N + 1) ≤ 601024) (hs : slots + 6 * (N + 1) ≤ 7293034) : G (ELw b Ln xs) l cL_law 8 wsL_law RL (some .boolean) room_1 γ P ALw (QLw b) cells slots 448 [(0, .ref b), (1, .ref (γ.2.2 0)), (2, .ref (γ.2.2 8)), (3, .ref (γ.2.2 10)), (4, .ref (γ.2.2 11)), (5, .int (nI i))] [] I L := by
  refine g_al_n 1 dL_law_448 rfl ?_
  refine g_al_n 0 dL_law_449 rfl ?_
  refine g_il 5 dL_law_450 rfl ?_
  refine g_ic (v := nI 1) dL_law_452 (by decide) ?_
  refine g_iadd (v := nI (i + 1)) dL_law_453 (nI_add _ _) ?_
  refine g_sld (i + 1) (by omega) dL_law_454 ?_
  refine g_al_n 3 dL_law_455 rfl ?_
  refine g_pc (pc' := 456) rfl ?_
  refine g_cl (st := []) (As := [.ref (γ.2.2 0), .int (xs (i + 1)), .ref (γ.2.2 10)]) (d := 2) (c_L_say l hl0 γ I L P g n r9 q u hG (xs (i + 1))) gL_law_L_say rfl ⟨by decide, by decide, rfl⟩ ⟨Nat.le_of_ble_eq_true rfl, Nat.le_of_ble_eq_true rfl⟩ rfl (Nat.le_of_ble_eq_true rfl) dL_law_456 ⟨show cells + 1 ≤ 601024 by omega, show slots + 6 ≤ 7293034 by omega⟩ ?_
  rintro r1 I1 L1 P1 ⟨er, hout, hG1, hF1, hL1, eP1⟩
  rw [er]
  refine g_P eP1 ?_
  have hM1 := hF1.mr hM
  refine g_is (lv' := [(6, .int (nI (cd2 (inB (xs (i + 1)) n) (decide (q < 6))))), (0, .ref b), (1, .ref (γ.2.2 0)), (2, .ref (γ.2.2 8)), (3, .ref (γ.2.2 10)), (4, .ref (γ.2.2 11)), (5, .int (nI i))]) dL_law_459 (by decide) rfl ?_
  refine g_al_n 3 dL_law_461 rfl ?_
  refine g_al_n 1 dL_law_462 rfl ?_
  refine g_il 6 dL_law_463 rfl ?_
  refine g_ic (v := nI 1) dL_law_465 (by decide) ?_
  refine g_iadd (v := nI (i + 1)) dL_law_466 (nI_add _ _) ?_
  refine g_sld (i + 1) (by omega) dL_law_467 ?_
  refine g_pc (pc' := 468) rfl ?_
  refine g_ci (r_V (st := []) (As := [.int (xs (i + 1))]) (d := 1) 8 (by decide) rfl rfl (c_X5_say l γ I1 L1 P g n r9 q u hM1 (xs (i + 1))) gL_law_X5_say rfl ⟨rfl, by decide, by decide, rfl⟩ ⟨Nat.le_of_ble_eq_true rfl, Nat.le_of_ble_eq_true rfl⟩ rfl (Nat.le_of_ble_eq_true rfl) dL_law_468 ⟨show cells + 1 ≤ 601024 by omega, show slots + 6 ≤ 7293034 by omega⟩) ?_
  rintro r2 I2 Lz1 ⟨hans, h4, hM2, hFM, eLz1⟩
  rw [eLz1]
  have hG2 := hFM.gw hG1
  refine g_is (lv' := [(7, .int r2), (6, .int (nI (cd2 (inB (xs (i + 1)) n) (decide (q < 6))))), (0, .ref b), (1, .ref (γ.2.2 0)), (2, .ref (γ.2.2 8)), (3, .ref (γ.2.2 10)), (4, .ref (γ.2.2 11)), (5, .int (nI i))]) dL_law_471 (by decide) rfl ?_
  refine g_al_n 4 dL_law_473 rfl ?_
  refine g_ci0 (v := I2 8 4) (r_V (st := []) (As := []) (d := 0) 8 (by decide) rfl rfl (c_X5_thrown l γ I2 L1 P) gL_law_X5_thrown rfl ⟨rfl, by decide, by decide, rfl⟩ ⟨Nat.le_of_ble_eq_true rfl, Nat.le_of_ble_eq_true rfl⟩ rfl (Nat.le_of_ble_eq_true rfl) dL_law_474 ⟨show cells + 1 ≤ 601024 by omega, show slots + 6 ≤ 7293034 by omega⟩) ?_
  refine g_top (v := nI (cd2 (inB (xs (i + 1)) n) (decide (q < 6)))) h4 ?_
  refine g_il 1 dL_law_477 rfl ?_
  refine gn_eq (tgt := 484) dL_law_479 (by decide) (cd2_lt _ _) (cd2_lt _ _) (fun h1 => ?_) (fun h1 => ?_)
  · skip
    refine g_il 1 dL_law_484 rfl ?_
    refine gz_ne (tgt := 501) dL_law_486 (by decide) (cd2_lt _ _) (fun h2 => ?_) (fun h2 => ?_)
    · skip
      refine g_pc (pc' := 501) rfl ?_
      refine g_goto (tgt := 1199) dL_law_501 (by decide) ?_
      refine g_inc (v := nI (i + 5)) (lv' := [(5, .int (nI (i + 5))), (7, .int r2), (6, .int (nI (cd2 (inB (xs (i + 1)) n) (decide (q < 6))))), (0, .ref b), (1, .ref (γ.2.2 0)), (2, .ref (γ.2.2 8)), (3, .ref (γ.2.2 10)), (4, .ref (γ.2.2 11))]) 7 dL_law_1199 rfl (inc_n _ 5) (by decide) rfl ?_
      refine g_goto (tgt := 28) dL_law_1202 (by decide) ?_
      refine g_sub [3, 4, 5, 6, 7, 0] rfl ?_
      exact nx _ _ _ _ _ I2 L1 P (cells + 1) (slots + 6) hM2 hG2 (by omega) (by omega)
    · skip
      have hok := cd2_ok h2
      have hr2 := hans (cd2_ok h2)
      refine g_al_n 5 dL_law_489 rfl ?_
      refine g_ic (v := nI 0) dL_law_490 (by decide) ?_
      refine g_lald (v := (nI (q + 1)).toInt64) 10 0 (by decide) rfl (by decide) (by decide) (hout hok) dL_law_491 ?_
      refine g_il 0 dL_law_492 rfl ?_
      refine g_top (v := nI (q + 1)) hr2 ?_
      refine g_i2l (v := (nI (q + 1)).toInt64) dL_law_494 (rfl) ?_
      refine g_pc (pc' := 495) rfl ?_
      refine g_lcmp (v := (0 : Int32)) dL_law_495 (lg_self _) ?_
      refine g_if_eq (tgt := 501) dL_law_496 (by decide) (fun h3 => ?_) (fun h3 => ?_)
      · skip
        refine g_goto (tgt := 1199) dL_law_501 (by decide) ?_
        refine g_inc (v := nI (i + 5)) (lv' := [(5, .int (nI (i + 5))), (7, .int r2), (6, .int (nI (cd2 (inB (xs (i + 1)) n) (decide (q < 6))))), (0, .ref b), (1, .ref (γ.2.2 0)), (2, .ref (γ.2.2 8)), (3, .ref (γ.2.2 10)), (4, .ref (γ.2.2 11))]) 7 dL_law_1199 rfl (inc_n _ 5) (by decide) rfl ?_
        refine g_goto (tgt := 28) dL_law_1202 (by decide) ?_
        refine g_sub [3, 4, 5, 6, 7, 0] rfl ?_
        exact nx _ _ _ _ _ I2 L1 P (cells + 1) (slots + 6) hM2 hG2 (by omega) (by omega)
      · skip
        exact absurd rfl h3
  · skip
    exact absurd rfl h1

set_option maxRecDepth 100000 in
set_option maxHeartbeats 4000000 in
theorem k_change (l : Launch) (hl0 : l.stackTraces = false) (γ : Gm) (I : IT) (L : LT) (P : PT) (b Ln : Nat) (xs : Nat → Int32) (i N : Nat) (hi : i + 5 ≤ Ln) (hLn : Ln ≤ 2560) (nx : Nx l γ b Ln xs (i + 5) N) (g : GR) (n r9 q : Nat) (u : Nat → Nat) (hM : MR I g n r9 q u) (hG : GW I g n r9 q u) (cells slots : Nat) (hc : cells + (N + 1) ≤ 601024) (hs : slots + 6 * (N + 1) ≤ 7293034) : G (ELw b Ln xs) l cL_law 8 wsL_law RL (some .boolean) room_1 γ P ALw (QLw b) cells slots 504 [(0, .ref b), (1, .ref (γ.2.2 0)), (2, .ref (γ.2.2 8)), (3, .ref (γ.2.2 10)), (4, .ref (γ.2.2 11)), (5, .int (nI i))] [] I L := by
  refine g_al_n 1 dL_law_504 rfl ?_
  refine g_al_n 0 dL_law_505 rfl ?_
  refine g_il 5 dL_law_506 rfl ?_
  refine g_ic (v := nI 1) dL_law_508 (by decide) ?_
  refine g_iadd (v := nI (i + 1)) dL_law_509 (nI_add _ _) ?_
  refine g_sld (i + 1) (by omega) dL_law_510 ?_
  refine g_al_n 0 dL_law_511 rfl ?_
  refine g_pc (pc' := 512) rfl ?_
  refine g_il 5 dL_law_512 rfl ?_
  refine g_ic (v := nI 2) dL_law_514 (by decide) ?_
  refine g_iadd (v := nI (i + 2)) dL_law_515 (nI_add _ _) ?_
  refine g_sld (i + 2) (by omega) dL_law_516 ?_
  refine g_al_n 3 dL_law_517 rfl ?_
  refine g_cl (st := []) (As := [.ref (γ.2.2 0), .int (xs (i + 1)), .int (xs (i + 2)), .ref (γ.2.2 10)]) (d := 2) (c_L_change l hl0 γ I L P g n r9 q u hG (xs (i + 1)) (xs (i + 2))) gL_law_L_change rfl ⟨by decide, by decide, rfl⟩ ⟨Nat.le_of_ble_eq_true rfl, Nat.le_of_ble_eq_true rfl⟩ rfl (Nat.le_of_ble_eq_true rfl) dL_law_518 ⟨show cells + 1 ≤ 601024 by omega, show slots + 6 ≤ 7293034 by omega⟩ ?_
  rintro r1 I1 L1 P1 ⟨er, hout, hG1, hF1, hL1, eP1⟩
  rw [er]
  refine g_P eP1 ?_
  have hM1 := hF1.mr hM
  refine g_is (lv' := [(6, .int (nI (cd2 (inB (xs (i + 1)) q && inB (xs (i + 2)) n) (true)))), (0, .ref b), (1, .ref (γ.2.2 0)), (2, .ref (γ.2.2 8)), (3, .ref (γ.2.2 10)), (4, .ref (γ.2.2 11)), (5, .int (nI i))]) dL_law_521 (by decide) rfl ?_
  refine g_al_n 3 dL_law_523 rfl ?_
  refine g_pc (pc' := 524) rfl ?_
  refine g_al_n 1 dL_law_524 rfl ?_
  refine g_il 6 dL_law_525 rfl ?_
  refine g_ic (v := nI 1) dL_law_527 (by decide) ?_
  refine g_iadd (v := nI (i + 1)) dL_law_528 (nI_add _ _) ?_
  refine g_sld (i + 1) (by omega) dL_law_529 ?_
  refine g_al_n 1 dL_law_530 rfl ?_
  refine g_il 6 dL_law_531 rfl ?_
  refine g_ic (v := nI 2) dL_law_533 (by decide) ?_
  refine g_pc (pc' := 534) rfl ?_
  refine g_iadd (v := nI (i + 2)) dL_law_534 (nI_add _ _) ?_
  refine g_sld (i + 2) (by omega) dL_law_535 ?_
  refine g_ci (r_V (st := []) (As := [.int (xs (i + 1)), .int (xs (i + 2))]) (d := 1) 8 (by decide) rfl rfl (c_X5_change l γ I1 L1 P g n r9 q u hM1 (xs (i + 1)) (xs (i + 2))) gL_law_X5_change rfl ⟨rfl, by decide, by decide, rfl⟩ ⟨Nat.le_of_ble_eq_true rfl, Nat.le_of_ble_eq_true rfl⟩ rfl (Nat.le_of_ble_eq_true rfl) dL_law_536 ⟨show cells + 1 ≤ 601024 by omega, show slots + 6 ≤ 7293034 by omega⟩) ?_
  rintro r2 I2 Lz1 ⟨hans, h4, hM2, hFM, eLz1⟩
  rw [eLz1]
  have hG2 := hFM.gw hG1
  refine g_is (lv' := [(7, .int r2), (6, .int (nI (cd2 (inB (xs (i + 1)) q && inB (xs (i + 2)) n) (true)))), (0, .ref b), (1, .ref (γ.2.2 0)), (2, .ref (γ.2.2 8)), (3, .ref (γ.2.2 10)), (4, .ref (γ.2.2 11)), (5, .int (nI i))]) dL_law_539 (by decide) rfl ?_
  refine g_al_n 4 dL_law_541 rfl ?_
  refine g_ci0 (v := I2 8 4) (r_V (st := []) (As := []) (d := 0) 8 (by decide) rfl rfl (c_X5_thrown l γ I2 L1 P) gL_law_X5_thrown rfl ⟨rfl, by decide, by decide, rfl⟩ ⟨Nat.le_of_ble_eq_true rfl, Nat.le_of_ble_eq_true rfl⟩ rfl (Nat.le_of_ble_eq_true rfl) dL_law_542 ⟨show cells + 1 ≤ 601024 by omega, show slots + 6 ≤ 7293034 by omega⟩) ?_
  refine g_top (v := nI (cd2 (inB (xs (i + 1)) q && inB (xs (i + 2)) n) (true))) h4 ?_
  refine g_il 1 dL_law_545 rfl ?_
  refine gn_eq (tgt := 552) dL_law_547 (by decide) (cd2_lt _ _) (cd2_lt _ _) (fun h1 => ?_) (fun h1 => ?_)
  · skip
    refine g_pc (pc' := 552) rfl ?_
    refine g_il 1 dL_law_552 rfl ?_
    refine gz_ne (tgt := 569) dL_law_554 (by decide) (cd2_lt _ _) (fun h2 => ?_) (fun h2 => ?_)
    · skip
      refine g_goto (tgt := 1199) dL_law_569 (by decide) ?_
      refine g_inc (v := nI (i + 5)) (lv' := [(5, .int (nI (i + 5))), (7, .int r2), (6, .int (nI (cd2 (inB (xs (i + 1)) q && inB (xs (i + 2)) n) (true)))), (0, .ref b), (1, .ref (γ.2.2 0)), (2, .ref (γ.2.2 8)), (3, .ref (γ.2.2 10)), (4, .ref (γ.2.2 11))]) 7 dL_law_1199 rfl (inc_n _ 5) (by decide) rfl ?_
      refine g_goto (tgt := 28) dL_law_1202 (by decide) ?_
      refine g_sub [3, 4, 5, 6, 7, 0] rfl ?_
      exact nx _ _ _ _ _ I2 L1 P (cells + 1) (slots + 6) hM2 hG2 (by omega) (by omega)
    · skip
      have hok := cd2_ok h2
      have hr2 := hans (cd2_ok h2)
      refine g_al_n 5 dL_law_557 rfl ?_
      refine g_ic (v := nI 0) dL_law_558 (by decide) ?_
      refine g_lald (v := (nI (u (tn (xs (i + 1))))).toInt64) 10 0 (by decide) rfl (by decide) (by decide) (hout hok) dL_law_559 ?_
      refine g_pc (pc' := 560) rfl ?_
      refine g_il 0 dL_law_560 rfl ?_
      refine g_top (v := nI (u (tn (xs (i + 1))))) hr2 ?_
      refine g_i2l (v := (nI (u (tn (xs (i + 1))))).toInt64) dL_law_562 (rfl) ?_
      refine g_lcmp (v := (0 : Int32)) dL_law_563 (lg_self _) ?_
      refine g_if_eq (tgt := 569) dL_law_564 (by decide) (fun h3 => ?_) (fun h3 => ?_)
      · skip
        refine g_goto (tgt := 1199) dL_law_569 (by decide) ?_
        refine g_inc (v := nI (i + 5)) (lv' := [(5, .int (nI (i + 5))), (7, .int r2), (6, .int (nI (cd2 (inB (xs (i + 1)) q && inB (xs (i + 2)) n) (true)))), (0, .ref b), (1, .ref (γ.2.2 0)), (2, .ref (γ.2.2 8)), (3, .ref (γ.2.2 10)), (4, .ref (γ.2.2 11))]) 7 dL_law_1199 rfl (inc_n _ 5) (by decide) rfl ?_
        refine g_goto (tgt := 28) dL_law_1202 (by decide) ?_
        refine g_sub [3, 4, 5, 6, 7, 0] rfl ?_
        exact nx _ _ _ _ _ I2 L1 P (cells + 1) (slots + 6) hM2 hG2 (by omega) (by omega)
      · skip
        exact absurd rfl h3
  · skip
    exact absurd rfl h1

set_option maxRecDepth 100000 in
set_option maxHeartbeats 4000000 in
theorem k_hush (l : Launch) (hl0 : l.stackTraces = false) (γ : Gm) (I : IT) (L : LT) (P : PT) (b Ln : Nat) (xs : Nat → Int32) (i N : Nat) (hi : i + 5 ≤ Ln) (hLn : Ln ≤ 2560) (nx : Nx l γ b Ln xs (i + 5) N) (g : GR) (n r9 q : Nat) (u : Nat → Nat) (hM : MR I g n r9 q u) (hG : GW I g n r9 q u) (cells slots : Nat) (hc : cells + (N + 1) ≤ 601024) (hs : slots + 6 * (N + 1) ≤ 7293034) : G (ELw b Ln xs) l cL_law 8 wsL_law RL (some .boolean) room_1 γ P ALw (QLw b) cells slots 572 [(0, .ref b), (1, .ref (γ.2.2 0)), (2, .ref (γ.2.2 8)), (3, .ref (γ.2.2 10)), (4, .ref (γ.2.2 11)), (5, .int (nI i))] [] I L := by
  refine g_al_n 1 dL_law_572 rfl ?_
  refine g_ci (r_V (st := []) (As := []) (d := 0) 0 (by decide) rfl rfl (c_X4_hush l γ I L P g n r9 q u hG) gL_law_X4_hush rfl ⟨rfl, by decide, by decide, rfl⟩ ⟨Nat.le_of_ble_eq_true rfl, Nat.le_of_ble_eq_true rfl⟩ rfl (Nat.le_of_ble_eq_true rfl) dL_law_573 ⟨show cells ≤ 601024 by omega, show slots ≤ 7293034 by omega⟩) ?_
  rintro rz1 I1 Lz1 ⟨ez1, hG1, hF1, eLz1⟩
  subst ez1
  rw [eLz1]
  have hM1 := hF1.mr hM
  refine g_al_n 2 dL_law_576 rfl ?_
  refine g_ci (r_V (st := [.int (nI q)]) (As := []) (d := 0) 8 (by decide) rfl rfl (c_X5_hush l γ I1 L P g n r9 q u hM1) gL_law_X5_hush rfl ⟨rfl, by decide, by decide, rfl⟩ ⟨Nat.le_of_ble_eq_true rfl, Nat.le_of_ble_eq_true rfl⟩ rfl (Nat.le_of_ble_eq_true rfl) dL_law_577 ⟨show cells ≤ 601024 by omega, show slots ≤ 7293034 by omega⟩) ?_
  rintro rz2 I2 Lz2 ⟨ez2, h4, hM2, hFM, eLz2⟩
  subst ez2
  rw [eLz2]
  have hG2 := hFM.gw hG1
  refine g_ic_eq (tgt := 1199) dL_law_580 (by decide) (fun h1 => ?_) (fun h1 => ?_)
  · skip
    refine g_inc (v := nI (i + 5)) (lv' := [(5, .int (nI (i + 5))), (0, .ref b), (1, .ref (γ.2.2 0)), (2, .ref (γ.2.2 8)), (3, .ref (γ.2.2 10)), (4, .ref (γ.2.2 11))]) 5 dL_law_1199 rfl (inc_n _ 5) (by decide) rfl ?_
    refine g_goto (tgt := 28) dL_law_1202 (by decide) ?_
    refine g_sub [1, 2, 3, 4, 5, 0] rfl ?_
    exact nx _ _ _ _ _ I2 L P cells slots hM2 hG2 (by omega) (by omega)
  · skip
    exact absurd rfl h1

set_option maxRecDepth 100000 in
set_option maxHeartbeats 4000000 in
theorem k_said (l : Launch) (hl0 : l.stackTraces = false) (γ : Gm) (I : IT) (L : LT) (P : PT) (b Ln : Nat) (xs : Nat → Int32) (i N : Nat) (hi : i + 5 ≤ Ln) (hLn : Ln ≤ 2560) (nx : Nx l γ b Ln xs (i + 5) N) (g : GR) (n r9 q : Nat) (u : Nat → Nat) (hM : MR I g n r9 q u) (hG : GW I g n r9 q u) (cells slots : Nat) (hc : cells + (N + 1) ≤ 601024) (hs : slots + 6 * (N + 1) ≤ 7293034) : G (ELw b Ln xs) l cL_law 8 wsL_law RL (some .boolean) room_1 γ P ALw (QLw b) cells slots 585 [(0, .ref b), (1, .ref (γ.2.2 0)), (2, .ref (γ.2.2 8)), (3, .ref (γ.2.2 10)), (4, .ref (γ.2.2 11)), (5, .int (nI i))] [] I L := by
  refine g_al_n 1 dL_law_585 rfl ?_
  refine g_ci (r_V (st := []) (As := []) (d := 0) 0 (by decide) rfl rfl (c_X4_said l γ I L P g n r9 q u hG) gL_law_X4_said rfl ⟨rfl, by decide, by decide, rfl⟩ ⟨Nat.le_of_ble_eq_true rfl, Nat.le_of_ble_eq_true rfl⟩ rfl (Nat.le_of_ble_eq_true rfl) dL_law_586 ⟨show cells ≤ 601024 by omega, show slots ≤ 7293034 by omega⟩) ?_
  rintro rz1 I1 Lz1 ⟨ez1, hG1, hF1, eLz1⟩
  subst ez1
  rw [eLz1]
  have hM1 := hF1.mr hM
  refine g_al_n 2 dL_law_589 rfl ?_
  refine g_ci (r_V (st := [.int (nI q)]) (As := []) (d := 0) 8 (by decide) rfl rfl (c_X5_said l γ I1 L P g n r9 q u hM1) gL_law_X5_said rfl ⟨rfl, by decide, by decide, rfl⟩ ⟨Nat.le_of_ble_eq_true rfl, Nat.le_of_ble_eq_true rfl⟩ rfl (Nat.le_of_ble_eq_true rfl) dL_law_590 ⟨show cells ≤ 601024 by omega, show slots ≤ 7293034 by omega⟩) ?_
  rintro rz2 I2 Lz2 ⟨ez2, h4, hQ, eLz2⟩
  subst ez2
  rw [eLz2]
  have hM2 := hQ.mr hM1
  have hFM := hQ.fm
  have hG2 := hFM.gw hG1
  refine g_ic_eq (tgt := 1199) dL_law_593 (by decide) (fun h1 => ?_) (fun h1 => ?_)
  · skip
    refine g_inc (v := nI (i + 5)) (lv' := [(5, .int (nI (i + 5))), (0, .ref b), (1, .ref (γ.2.2 0)), (2, .ref (γ.2.2 8)), (3, .ref (γ.2.2 10)), (4, .ref (γ.2.2 11))]) 5 dL_law_1199 rfl (inc_n _ 5) (by decide) rfl ?_
    refine g_goto (tgt := 28) dL_law_1202 (by decide) ?_
    refine g_sub [1, 2, 3, 4, 5, 0] rfl ?_
    exact nx _ _ _ _ _ I2 L P cells slots hM2 hG2 (by omega) (by omega)
  · skip
    exact absurd rfl h1

set_option maxRecDepth 100000 in
set_option maxHeartbeats 4000000 in
theorem k_wordAt (l : Launch) (hl0 : l.stackTraces = false) (γ : Gm) (I : IT) (L : LT) (P : PT) (b Ln : Nat) (xs : Nat → Int32) (i N : Nat) (hi : i + 5 ≤ Ln) (hLn : Ln ≤ 2560) (nx : Nx l γ b Ln xs (i + 5) N) (g : GR) (n r9 q : Nat) (u : Nat → Nat) (hM : MR I g n r9 q u) (hG : GW I g n r9 q u) (cells slots : Nat) (hc : cells + (N + 1) ≤ 601024) (hs : slots + 6 * (N + 1) ≤ 7293034) : G (ELw b Ln xs) l cL_law 8 wsL_law RL (some .boolean) room_1 γ P ALw (QLw b) cells slots 598 [(0, .ref b), (1, .ref (γ.2.2 0)), (2, .ref (γ.2.2 8)), (3, .ref (γ.2.2 10)), (4, .ref (γ.2.2 11)), (5, .int (nI i))] [] I L := by
  refine g_al_n 1 dL_law_598 rfl ?_
  refine g_al_n 0 dL_law_599 rfl ?_
  refine g_il 5 dL_law_600 rfl ?_
  refine g_ic (v := nI 1) dL_law_602 (by decide) ?_
  refine g_iadd (v := nI (i + 1)) dL_law_603 (nI_add _ _) ?_
  refine g_sld (i + 1) (by omega) dL_law_604 ?_
  refine g_al_n 3 dL_law_605 rfl ?_
  refine g_pc (pc' := 606) rfl ?_
  refine g_cl (st := []) (As := [.ref (γ.2.2 0), .int (xs (i + 1)), .ref (γ.2.2 10)]) (d := 2) (c_L_wordAt l hl0 γ I L P g n r9 q u hG (xs (i + 1))) gL_law_L_wordAt rfl ⟨by decide, by decide, rfl⟩ ⟨Nat.le_of_ble_eq_true rfl, Nat.le_of_ble_eq_true rfl⟩ rfl (Nat.le_of_ble_eq_true rfl) dL_law_606 ⟨show cells + 1 ≤ 601024 by omega, show slots + 6 ≤ 7293034 by omega⟩ ?_
  rintro r1 I1 L1 P1 ⟨er, hout, hG1, hF1, hL1, eP1⟩
  rw [er]
  refine g_P eP1 ?_
  have hM1 := hF1.mr hM
  refine g_is (lv' := [(6, .int (nI (cd2 (inB (xs (i + 1)) q) (true)))), (0, .ref b), (1, .ref (γ.2.2 0)), (2, .ref (γ.2.2 8)), (3, .ref (γ.2.2 10)), (4, .ref (γ.2.2 11)), (5, .int (nI i))]) dL_law_609 (by decide) rfl ?_
  refine g_al_n 3 dL_law_611 rfl ?_
  refine g_al_n 1 dL_law_612 rfl ?_
  refine g_il 6 dL_law_613 rfl ?_
  refine g_ic (v := nI 1) dL_law_615 (by decide) ?_
  refine g_iadd (v := nI (i + 1)) dL_law_616 (nI_add _ _) ?_
  refine g_sld (i + 1) (by omega) dL_law_617 ?_
  refine g_pc (pc' := 618) rfl ?_
  refine g_ci (r_V (st := []) (As := [.int (xs (i + 1))]) (d := 1) 8 (by decide) rfl rfl (c_X5_wordAt l γ I1 L1 P g n r9 q u hM1 (xs (i + 1))) gL_law_X5_wordAt rfl ⟨rfl, by decide, by decide, rfl⟩ ⟨Nat.le_of_ble_eq_true rfl, Nat.le_of_ble_eq_true rfl⟩ rfl (Nat.le_of_ble_eq_true rfl) dL_law_618 ⟨show cells + 1 ≤ 601024 by omega, show slots + 6 ≤ 7293034 by omega⟩) ?_
  rintro r2 I2 Lz1 ⟨hans, h4, hQ, eLz1⟩
  rw [eLz1]
  have hM2 := hQ.mr hM1
  have hFM := hQ.fm
  have hG2 := hFM.gw hG1
  refine g_is (lv' := [(7, .int r2), (6, .int (nI (cd2 (inB (xs (i + 1)) q) (true)))), (0, .ref b), (1, .ref (γ.2.2 0)), (2, .ref (γ.2.2 8)), (3, .ref (γ.2.2 10)), (4, .ref (γ.2.2 11)), (5, .int (nI i))]) dL_law_621 (by decide) rfl ?_
  refine g_al_n 4 dL_law_623 rfl ?_
  refine g_ci0 (v := I2 8 4) (r_V (st := []) (As := []) (d := 0) 8 (by decide) rfl rfl (c_X5_thrown l γ I2 L1 P) gL_law_X5_thrown rfl ⟨rfl, by decide, by decide, rfl⟩ ⟨Nat.le_of_ble_eq_true rfl, Nat.le_of_ble_eq_true rfl⟩ rfl (Nat.le_of_ble_eq_true rfl) dL_law_624 ⟨show cells + 1 ≤ 601024 by omega, show slots + 6 ≤ 7293034 by omega⟩) ?_
  refine g_top (v := nI (cd2 (inB (xs (i + 1)) q) (true))) h4 ?_
  refine g_il 1 dL_law_627 rfl ?_
  refine gn_eq (tgt := 634) dL_law_629 (by decide) (cd2_lt _ _) (cd2_lt _ _) (fun h1 => ?_) (fun h1 => ?_)
  · skip
    refine g_il 1 dL_law_634 rfl ?_
    refine gz_ne (tgt := 651) dL_law_636 (by decide) (cd2_lt _ _) (fun h2 => ?_) (fun h2 => ?_)
    · skip
      refine g_pc (pc' := 651) rfl ?_
      refine g_goto (tgt := 1199) dL_law_651 (by decide) ?_
      refine g_inc (v := nI (i + 5)) (lv' := [(5, .int (nI (i + 5))), (7, .int r2), (6, .int (nI (cd2 (inB (xs (i + 1)) q) (true)))), (0, .ref b), (1, .ref (γ.2.2 0)), (2, .ref (γ.2.2 8)), (3, .ref (γ.2.2 10)), (4, .ref (γ.2.2 11))]) 7 dL_law_1199 rfl (inc_n _ 5) (by decide) rfl ?_
      refine g_goto (tgt := 28) dL_law_1202 (by decide) ?_
      refine g_sub [3, 4, 5, 6, 7, 0] rfl ?_
      exact nx _ _ _ _ _ I2 L1 P (cells + 1) (slots + 6) hM2 hG2 (by omega) (by omega)
    · skip
      have hok := cd2_ok h2
      have hr2 := hans ((Bool.and_eq_true _ _).mp (cd2_ok h2)).1
      refine g_al_n 5 dL_law_639 rfl ?_
      refine g_ic (v := nI 0) dL_law_640 (by decide) ?_
      refine g_lald (v := (nI (u (tn (xs (i + 1))))).toInt64) 10 0 (by decide) rfl (by decide) (by decide) (hout hok) dL_law_641 ?_
      refine g_il 0 dL_law_642 rfl ?_
      refine g_top (v := nI (u (tn (xs (i + 1))))) hr2 ?_
      refine g_i2l (v := (nI (u (tn (xs (i + 1))))).toInt64) dL_law_644 (rfl) ?_
      refine g_pc (pc' := 645) rfl ?_
      refine g_lcmp (v := (0 : Int32)) dL_law_645 (lg_self _) ?_
      refine g_if_eq (tgt := 651) dL_law_646 (by decide) (fun h3 => ?_) (fun h3 => ?_)
      · skip
        refine g_goto (tgt := 1199) dL_law_651 (by decide) ?_
        refine g_inc (v := nI (i + 5)) (lv' := [(5, .int (nI (i + 5))), (7, .int r2), (6, .int (nI (cd2 (inB (xs (i + 1)) q) (true)))), (0, .ref b), (1, .ref (γ.2.2 0)), (2, .ref (γ.2.2 8)), (3, .ref (γ.2.2 10)), (4, .ref (γ.2.2 11))]) 7 dL_law_1199 rfl (inc_n _ 5) (by decide) rfl ?_
        refine g_goto (tgt := 28) dL_law_1202 (by decide) ?_
        refine g_sub [3, 4, 5, 6, 7, 0] rfl ?_
        exact nx _ _ _ _ _ I2 L1 P (cells + 1) (slots + 6) hM2 hG2 (by omega) (by omega)
      · skip
        exact absurd rfl h3
  · skip
    exact absurd rfl h1

set_option maxRecDepth 100000 in
set_option maxHeartbeats 4000000 in
theorem k_readings (l : Launch) (hl0 : l.stackTraces = false) (γ : Gm) (I : IT) (L : LT) (P : PT) (b Ln : Nat) (xs : Nat → Int32) (i N : Nat) (hi : i + 5 ≤ Ln) (hLn : Ln ≤ 2560) (nx : Nx l γ b Ln xs (i + 5) N) (g : GR) (n r9 q : Nat) (u : Nat → Nat) (hM : MR I g n r9 q u) (hG : GW I g n r9 q u) (cells slots : Nat) (hc : cells + (N + 1) ≤ 601024) (hs : slots + 6 * (N + 1) ≤ 7293034) : G (ELw b Ln xs) l cL_law 8 wsL_law RL (some .boolean) room_1 γ P ALw (QLw b) cells slots 654 [(0, .ref b), (1, .ref (γ.2.2 0)), (2, .ref (γ.2.2 8)), (3, .ref (γ.2.2 10)), (4, .ref (γ.2.2 11)), (5, .int (nI i))] [] I L := by
  refine g_al_n 1 dL_law_654 rfl ?_
  refine g_ci (r_V (st := []) (As := []) (d := 5) 0 (by decide) rfl rfl (c_X4_readings l γ I L P g n r9 q u hG) gL_law_X4_readings rfl ⟨rfl, by decide, by decide, rfl⟩ ⟨Nat.le_of_ble_eq_true rfl, Nat.le_of_ble_eq_true rfl⟩ rfl (Nat.le_of_ble_eq_true rfl) dL_law_655 ⟨show cells ≤ 601024 by omega, show slots ≤ 7293034 by omega⟩) ?_
  rintro rz1 I1 Lz1 ⟨ez1, hG1, hF1, eLz1⟩
  subst ez1
  rw [eLz1]
  have hM1 := hF1.mr hM
  refine g_al_n 2 dL_law_658 rfl ?_
  refine g_ci (r_V (st := [.int (nI (rdg g r9 u q))]) (As := []) (d := 5) 8 (by decide) rfl rfl (c_X5_readings l γ I1 L P g n r9 q u hM1) gL_law_X5_readings rfl ⟨rfl, by decide, by decide, rfl⟩ ⟨Nat.le_of_ble_eq_true rfl, Nat.le_of_ble_eq_true rfl⟩ rfl (Nat.le_of_ble_eq_true rfl) dL_law_659 ⟨show cells ≤ 601024 by omega, show slots ≤ 7293034 by omega⟩) ?_
  rintro rz2 I2 L2 ⟨ez2, h4, hQ, hL2⟩
  subst ez2
  have hM2 := hQ.mr hM1
  have hFM := hQ.fm
  have hG2 := hFM.gw hG1
  refine g_ic_eq (tgt := 1199) dL_law_662 (by decide) (fun h1 => ?_) (fun h1 => ?_)
  · skip
    refine g_inc (v := nI (i + 5)) (lv' := [(5, .int (nI (i + 5))), (0, .ref b), (1, .ref (γ.2.2 0)), (2, .ref (γ.2.2 8)), (3, .ref (γ.2.2 10)), (4, .ref (γ.2.2 11))]) 5 dL_law_1199 rfl (inc_n _ 5) (by decide) rfl ?_
    refine g_goto (tgt := 28) dL_law_1202 (by decide) ?_
    refine g_sub [1, 2, 3, 4, 5, 0] rfl ?_
    exact nx _ _ _ _ _ I2 L2 P cells slots hM2 hG2 (by omega) (by omega)
  · skip
    exact absurd rfl h1

set_option maxRecDepth 100000 in
set_option maxHeartbeats 4000000 in
theorem k_readingsPlainly (l : Launch) (hl0 : l.stackTraces = false) (γ : Gm) (I : IT) (L : LT) (P : PT) (b Ln : Nat) (xs : Nat → Int32) (i N : Nat) (hi : i + 5 ≤ Ln) (hLn : Ln ≤ 2560) (nx : Nx l γ b Ln xs (i + 5) N) (g : GR) (n r9 q : Nat) (u : Nat → Nat) (hM : MR I g n r9 q u) (hG : GW I g n r9 q u) (cells slots : Nat) (hc : cells + (N + 1) ≤ 601024) (hs : slots + 6 * (N + 1) ≤ 7293034) : G (ELw b Ln xs) l cL_law 8 wsL_law RL (some .boolean) room_1 γ P ALw (QLw b) cells slots 667 [(0, .ref b), (1, .ref (γ.2.2 0)), (2, .ref (γ.2.2 8)), (3, .ref (γ.2.2 10)), (4, .ref (γ.2.2 11)), (5, .int (nI i))] [] I L := by
  refine g_al_n 1 dL_law_667 rfl ?_
  refine g_ci (r_V (st := []) (As := []) (d := 9) 0 (by decide) rfl rfl (c_X4_readingsPlainly l γ I L P g n r9 q u hG) gL_law_X4_readingsPlainly rfl ⟨rfl, by decide, by decide, rfl⟩ ⟨Nat.le_of_ble_eq_true rfl, Nat.le_of_ble_eq_true rfl⟩ rfl (Nat.le_of_ble_eq_true rfl) dL_law_668 ⟨show cells ≤ 601024 by omega, show slots ≤ 7293034 by omega⟩) ?_
  rintro rz1 I1 Lz1 ⟨ez1, hG1, hF1, eLz1⟩
  subst ez1
  rw [eLz1]
  have hM1 := hF1.mr hM
  refine g_al_n 2 dL_law_671 rfl ?_
  refine g_ci (r_V (st := [.int (nI (rdg g r9 u q))]) (As := []) (d := 6) 8 (by decide) rfl rfl (c_X5_readingsPlainly l γ I1 L P g n r9 q u hM1) gL_law_X5_readingsPlainly rfl ⟨rfl, by decide, by decide, rfl⟩ ⟨Nat.le_of_ble_eq_true rfl, Nat.le_of_ble_eq_true rfl⟩ rfl (Nat.le_of_ble_eq_true rfl) dL_law_672 ⟨show cells ≤ 601024 by omega, show slots ≤ 7293034 by omega⟩) ?_
  rintro rz2 I2 L2 ⟨ez2, h4, hQ, hL2⟩
  subst ez2
  have hM2 := hQ.mr hM1
  have hFM := hQ.fm
  have hG2 := hFM.gw hG1
  refine g_ic_eq (tgt := 1199) dL_law_675 (by decide) (fun h1 => ?_) (fun h1 => ?_)
  · skip
    refine g_inc (v := nI (i + 5)) (lv' := [(5, .int (nI (i + 5))), (0, .ref b), (1, .ref (γ.2.2 0)), (2, .ref (γ.2.2 8)), (3, .ref (γ.2.2 10)), (4, .ref (γ.2.2 11))]) 5 dL_law_1199 rfl (inc_n _ 5) (by decide) rfl ?_
    refine g_goto (tgt := 28) dL_law_1202 (by decide) ?_
    refine g_sub [1, 2, 3, 4, 5, 0] rfl ?_
    exact nx _ _ _ _ _ I2 L2 P cells slots hM2 hG2 (by omega) (by omega)
  · skip
    exact absurd rfl h1

set_option maxRecDepth 100000 in
set_option maxHeartbeats 4000000 in
theorem k_readingsOf (l : Launch) (hl0 : l.stackTraces = false) (γ : Gm) (I : IT) (L : LT) (P : PT) (b Ln : Nat) (xs : Nat → Int32) (i N : Nat) (hi : i + 5 ≤ Ln) (hLn : Ln ≤ 2560) (nx : Nx l γ b Ln xs (i + 5) N) (g : GR) (n r9 q : Nat) (u : Nat → Nat) (hM : MR I g n r9 q u) (hG : GW I g n r9 q u) (cells slots : Nat) (hc : cells + (N + 1) ≤ 601024) (hs : slots + 6 * (N + 1) ≤ 7293034) : G (ELw b Ln xs) l cL_law 8 wsL_law RL (some .boolean) room_1 γ P ALw (QLw b) cells slots 680 [(0, .ref b), (1, .ref (γ.2.2 0)), (2, .ref (γ.2.2 8)), (3, .ref (γ.2.2 10)), (4, .ref (γ.2.2 11)), (5, .int (nI i))] [] I L := by
  refine g_al_n 1 dL_law_680 rfl ?_
  refine g_al_n 0 dL_law_681 rfl ?_
  refine g_il 5 dL_law_682 rfl ?_
  refine g_ic (v := nI 1) dL_law_684 (by decide) ?_
  refine g_iadd (v := nI (i + 1)) dL_law_685 (nI_add _ _) ?_
  refine g_sld (i + 1) (by omega) dL_law_686 ?_
  refine g_al_n 0 dL_law_687 rfl ?_
  refine g_pc (pc' := 688) rfl ?_
  refine g_il 5 dL_law_688 rfl ?_
  refine g_ic (v := nI 2) dL_law_690 (by decide) ?_
  refine g_iadd (v := nI (i + 2)) dL_law_691 (nI_add _ _) ?_
  refine g_sld (i + 2) (by omega) dL_law_692 ?_
  refine g_al_n 0 dL_law_693 rfl ?_
  refine g_il 5 dL_law_694 rfl ?_
  refine g_ic (v := nI 3) dL_law_696 (by decide) ?_
  refine g_iadd (v := nI (i + 3)) dL_law_697 (nI_add _ _) ?_
  refine g_pc (pc' := 698) rfl ?_
  refine g_sld (i + 3) (by omega) dL_law_698 ?_
  refine g_al_n 3 dL_law_699 rfl ?_
  refine g_cl (st := []) (As := [.ref (γ.2.2 0), .int (xs (i + 1)), .int (xs (i + 2)), .int (xs (i + 3)), .ref (γ.2.2 10)]) (d := 6) (c_L_readingsOf l hl0 γ I L P g n r9 q u hG (xs (i + 1)) (xs (i + 2)) (xs (i + 3))) gL_law_L_readingsOf rfl ⟨by decide, by decide, rfl⟩ ⟨Nat.le_of_ble_eq_true rfl, Nat.le_of_ble_eq_true rfl⟩ rfl (Nat.le_of_ble_eq_true rfl) dL_law_700 ⟨show cells + 1 ≤ 601024 by omega, show slots + 6 ≤ 7293034 by omega⟩ ?_
  rintro r1 I1 L1 P1 ⟨er, hout, hG1, hF1, hL1, eP1⟩
  rw [er]
  refine g_P eP1 ?_
  have hM1 := hF1.mr hM
  refine g_is (lv' := [(6, .int (nI (cd2 (pB (∃ a b, SPN (xs (i + 1)) (xs (i + 2)) q a b) && inB (xs (i + 3)) 8) (true)))), (0, .ref b), (1, .ref (γ.2.2 0)), (2, .ref (γ.2.2 8)), (3, .ref (γ.2.2 10)), (4, .ref (γ.2.2 11)), (5, .int (nI i))]) dL_law_703 (by decide) rfl ?_
  refine g_al_n 3 dL_law_705 rfl ?_
  refine g_al_n 1 dL_law_706 rfl ?_
  refine g_il 6 dL_law_707 rfl ?_
  refine g_ic (v := nI 1) dL_law_709 (by decide) ?_
  refine g_pc (pc' := 710) rfl ?_
  refine g_iadd (v := nI (i + 1)) dL_law_710 (nI_add _ _) ?_
  refine g_sld (i + 1) (by omega) dL_law_711 ?_
  refine g_al_n 1 dL_law_712 rfl ?_
  refine g_il 6 dL_law_713 rfl ?_
  refine g_ic (v := nI 2) dL_law_715 (by decide) ?_
  refine g_iadd (v := nI (i + 2)) dL_law_716 (nI_add _ _) ?_
  refine g_sld (i + 2) (by omega) dL_law_717 ?_
  refine g_al_n 1 dL_law_718 rfl ?_
  refine g_pc (pc' := 719) rfl ?_
  refine g_il 6 dL_law_719 rfl ?_
  refine g_ic (v := nI 3) dL_law_721 (by decide) ?_
  refine g_iadd (v := nI (i + 3)) dL_law_722 (nI_add _ _) ?_
  refine g_sld (i + 3) (by omega) dL_law_723 ?_
  refine g_ci (r_V (st := []) (As := [.int (xs (i + 1)), .int (xs (i + 2)), .int (xs (i + 3))]) (d := 5) 8 (by decide) rfl rfl (c_X5_readingsOf l γ I1 L1 P g n r9 q u hM1 (xs (i + 1)) (xs (i + 2)) (xs (i + 3))) gL_law_X5_readingsOf rfl ⟨rfl, by decide, by decide, rfl⟩ ⟨Nat.le_of_ble_eq_true rfl, Nat.le_of_ble_eq_true rfl⟩ rfl (Nat.le_of_ble_eq_true rfl) dL_law_724 ⟨show cells + 1 ≤ 601024 by omega, show slots + 6 ≤ 7293034 by omega⟩) ?_
  rintro r2 I2 L2 ⟨hans, h4, hQ, hL2⟩
  have hM2 := hQ.mr hM1
  have hFM := hQ.fm
  have hG2 := hFM.gw hG1
  refine g_is (lv' := [(7, .int r2), (6, .int (nI (cd2 (pB (∃ a b, SPN (xs (i + 1)) (xs (i + 2)) q a b) && inB (xs (i + 3)) 8) (true)))), (0, .ref b), (1, .ref (γ.2.2 0)), (2, .ref (γ.2.2 8)), (3, .ref (γ.2.2 10)), (4, .ref (γ.2.2 11)), (5, .int (nI i))]) dL_law_727 (by decide) rfl ?_
  refine g_al_n 4 dL_law_729 rfl ?_
  refine g_ci0 (v := I2 8 4) (r_V (st := []) (As := []) (d := 0) 8 (by decide) rfl rfl (c_X5_thrown l γ I2 L2 P) gL_law_X5_thrown rfl ⟨rfl, by decide, by decide, rfl⟩ ⟨Nat.le_of_ble_eq_true rfl, Nat.le_of_ble_eq_true rfl⟩ rfl (Nat.le_of_ble_eq_true rfl) dL_law_730 ⟨show cells + 1 ≤ 601024 by omega, show slots + 6 ≤ 7293034 by omega⟩) ?_
  refine g_top (v := nI (cd2 (pB (∃ a b, SPN (xs (i + 1)) (xs (i + 2)) q a b) && inB (xs (i + 3)) 8) (true))) h4 ?_
  refine g_pc (pc' := 733) rfl ?_
  refine g_il 1 dL_law_733 rfl ?_
  refine gn_eq (tgt := 740) dL_law_735 (by decide) (cd2_lt _ _) (cd2_lt _ _) (fun h1 => ?_) (fun h1 => ?_)
  · skip
    refine g_il 1 dL_law_740 rfl ?_
    refine gz_ne (tgt := 757) dL_law_742 (by decide) (cd2_lt _ _) (fun h2 => ?_) (fun h2 => ?_)
    · skip
      refine g_goto (tgt := 1199) dL_law_757 (by decide) ?_
      refine g_inc (v := nI (i + 5)) (lv' := [(5, .int (nI (i + 5))), (7, .int r2), (6, .int (nI (cd2 (pB (∃ a b, SPN (xs (i + 1)) (xs (i + 2)) q a b) && inB (xs (i + 3)) 8) (true)))), (0, .ref b), (1, .ref (γ.2.2 0)), (2, .ref (γ.2.2 8)), (3, .ref (γ.2.2 10)), (4, .ref (γ.2.2 11))]) 7 dL_law_1199 rfl (inc_n _ 5) (by decide) rfl ?_
      refine g_goto (tgt := 28) dL_law_1202 (by decide) ?_
      refine g_sub [3, 4, 5, 6, 7, 0] rfl ?_
      exact nx _ _ _ _ _ I2 L2 P (cells + 1) (slots + 6) hM2 hG2 (by omega) (by omega)
    · skip
      have hok := cd2_ok h2
      have hr2 := hans ((Bool.and_eq_true _ _).mp (cd2_ok h2)).1
      refine g_al_n 5 dL_law_745 rfl ?_
      refine g_pc (pc' := 746) rfl ?_
      refine g_ic (v := nI 0) dL_law_746 (by decide) ?_
      refine g_lald (v := (nI (tld (sm (ct g r9 u (tn (xs (i + 1))) (tn (xs (i + 2))) (tn (xs (i + 3)))) 16))).toInt64) 10 0 (by decide) rfl (by decide) (by decide) ((by rw [hL2 10 (by decide)]; exact hout hok)) dL_law_747 ?_
      refine g_il 0 dL_law_748 rfl ?_
      refine g_top (v := nI (tld (sm (ct g r9 u (tn (xs (i + 1))) (tn (xs (i + 2))) (tn (xs (i + 3)))) 16))) hr2 ?_
      refine g_i2l (v := (nI (tld (sm (ct g r9 u (tn (xs (i + 1))) (tn (xs (i + 2))) (tn (xs (i + 3)))) 16))).toInt64) dL_law_750 (rfl) ?_
      refine g_lcmp (v := (0 : Int32)) dL_law_751 (lg_self _) ?_
      refine g_if_eq (tgt := 757) dL_law_752 (by decide) (fun h3 => ?_) (fun h3 => ?_)
      · skip
        refine g_goto (tgt := 1199) dL_law_757 (by decide) ?_
        refine g_inc (v := nI (i + 5)) (lv' := [(5, .int (nI (i + 5))), (7, .int r2), (6, .int (nI (cd2 (pB (∃ a b, SPN (xs (i + 1)) (xs (i + 2)) q a b) && inB (xs (i + 3)) 8) (true)))), (0, .ref b), (1, .ref (γ.2.2 0)), (2, .ref (γ.2.2 8)), (3, .ref (γ.2.2 10)), (4, .ref (γ.2.2 11))]) 7 dL_law_1199 rfl (inc_n _ 5) (by decide) rfl ?_
        refine g_pc (pc' := 1202) rfl ?_
        refine g_goto (tgt := 28) dL_law_1202 (by decide) ?_
        refine g_sub [3, 4, 5, 6, 7, 0] rfl ?_
        exact nx _ _ _ _ _ I2 L2 P (cells + 1) (slots + 6) hM2 hG2 (by omega) (by omega)
      · skip
        exact absurd rfl h3
  · skip
    exact absurd rfl h1

set_option maxRecDepth 100000 in
set_option maxHeartbeats 4000000 in
theorem k_has (l : Launch) (hl0 : l.stackTraces = false) (γ : Gm) (I : IT) (L : LT) (P : PT) (b Ln : Nat) (xs : Nat → Int32) (i N : Nat) (hi : i + 5 ≤ Ln) (hLn : Ln ≤ 2560) (nx : Nx l γ b Ln xs (i + 5) N) (g : GR) (n r9 q : Nat) (u : Nat → Nat) (hM : MR I g n r9 q u) (hG : GW I g n r9 q u) (cells slots : Nat) (hc : cells + (N + 1) ≤ 601024) (hs : slots + 6 * (N + 1) ≤ 7293034) : G (ELw b Ln xs) l cL_law 8 wsL_law RL (some .boolean) room_1 γ P ALw (QLw b) cells slots 760 [(0, .ref b), (1, .ref (γ.2.2 0)), (2, .ref (γ.2.2 8)), (3, .ref (γ.2.2 10)), (4, .ref (γ.2.2 11)), (5, .int (nI i))] [] I L := by
  refine g_al_n 1 dL_law_760 rfl ?_
  refine g_al_n 0 dL_law_761 rfl ?_
  refine g_il 5 dL_law_762 rfl ?_
  refine g_ic (v := nI 1) dL_law_764 (by decide) ?_
  refine g_iadd (v := nI (i + 1)) dL_law_765 (nI_add _ _) ?_
  refine g_sld (i + 1) (by omega) dL_law_766 ?_
  refine g_al_n 0 dL_law_767 rfl ?_
  refine g_pc (pc' := 768) rfl ?_
  refine g_il 5 dL_law_768 rfl ?_
  refine g_ic (v := nI 2) dL_law_770 (by decide) ?_
  refine g_iadd (v := nI (i + 2)) dL_law_771 (nI_add _ _) ?_
  refine g_sld (i + 2) (by omega) dL_law_772 ?_
  refine g_al_n 0 dL_law_773 rfl ?_
  refine g_il 5 dL_law_774 rfl ?_
  refine g_ic (v := nI 3) dL_law_776 (by decide) ?_
  refine g_iadd (v := nI (i + 3)) dL_law_777 (nI_add _ _) ?_
  refine g_pc (pc' := 778) rfl ?_
  refine g_sld (i + 3) (by omega) dL_law_778 ?_
  refine g_al_n 0 dL_law_779 rfl ?_
  refine g_il 5 dL_law_780 rfl ?_
  refine g_ic (v := nI 4) dL_law_782 (by decide) ?_
  refine g_iadd (v := nI (i + 4)) dL_law_783 (nI_add _ _) ?_
  refine g_sld (i + 4) (by omega) dL_law_784 ?_
  refine g_al_n 3 dL_law_785 rfl ?_
  refine g_cl (st := []) (As := [.ref (γ.2.2 0), .int (xs (i + 1)), .int (xs (i + 2)), .int (xs (i + 3)), .int (xs (i + 4)), .ref (γ.2.2 10)]) (d := 6) (c_L_has l hl0 γ I L P g n r9 q u hG (xs (i + 1)) (xs (i + 2)) (xs (i + 3)) (xs (i + 4))) gL_law_L_has rfl ⟨by decide, by decide, rfl⟩ ⟨Nat.le_of_ble_eq_true rfl, Nat.le_of_ble_eq_true rfl⟩ rfl (Nat.le_of_ble_eq_true rfl) dL_law_786 ⟨show cells + 1 ≤ 601024 by omega, show slots + 6 ≤ 7293034 by omega⟩ ?_
  rintro r1 I1 L1 P1 ⟨er, hout, hG1, hF1, hL1, eP1⟩
  rw [er]
  refine g_P eP1 ?_
  have hM1 := hF1.mr hM
  refine g_pc (pc' := 789) rfl ?_
  refine g_is (lv' := [(6, .int (nI (cd2 (pB (∃ a b, SPN (xs (i + 1)) (xs (i + 2)) q a b) && inB (xs (i + 3)) 8) (pB (∃ m, DP (xs (i + 4)) m))))), (0, .ref b), (1, .ref (γ.2.2 0)), (2, .ref (γ.2.2 8)), (3, .ref (γ.2.2 10)), (4, .ref (γ.2.2 11)), (5, .int (nI i))]) dL_law_789 (by decide) rfl ?_
  refine g_al_n 3 dL_law_791 rfl ?_
  refine g_al_n 1 dL_law_792 rfl ?_
  refine g_il 6 dL_law_793 rfl ?_
  refine g_ic (v := nI 1) dL_law_795 (by decide) ?_
  refine g_iadd (v := nI (i + 1)) dL_law_796 (nI_add _ _) ?_
  refine g_sld (i + 1) (by omega) dL_law_797 ?_
  refine g_al_n 1 dL_law_798 rfl ?_
  refine g_pc (pc' := 799) rfl ?_
  refine g_il 6 dL_law_799 rfl ?_
  refine g_ic (v := nI 2) dL_law_801 (by decide) ?_
  refine g_iadd (v := nI (i + 2)) dL_law_802 (nI_add _ _) ?_
  refine g_sld (i + 2) (by omega) dL_law_803 ?_
  refine g_al_n 1 dL_law_804 rfl ?_
  refine g_il 6 dL_law_805 rfl ?_
  refine g_ic (v := nI 3) dL_law_807 (by decide) ?_
  refine g_iadd (v := nI (i + 3)) dL_law_808 (nI_add _ _) ?_
  refine g_pc (pc' := 809) rfl ?_
  refine g_sld (i + 3) (by omega) dL_law_809 ?_
  refine g_al_n 1 dL_law_810 rfl ?_
  refine g_il 6 dL_law_811 rfl ?_
  refine g_ic (v := nI 4) dL_law_813 (by decide) ?_
  refine g_iadd (v := nI (i + 4)) dL_law_814 (nI_add _ _) ?_
  refine g_sld (i + 4) (by omega) dL_law_815 ?_
  refine g_ci (r_V (st := []) (As := [.int (xs (i + 1)), .int (xs (i + 2)), .int (xs (i + 3)), .int (xs (i + 4))]) (d := 5) 8 (by decide) rfl rfl (c_X5_has l γ I1 L1 P g n r9 q u hM1 (xs (i + 1)) (xs (i + 2)) (xs (i + 3)) (xs (i + 4))) gL_law_X5_has rfl ⟨rfl, by decide, by decide, rfl⟩ ⟨Nat.le_of_ble_eq_true rfl, Nat.le_of_ble_eq_true rfl⟩ rfl (Nat.le_of_ble_eq_true rfl) dL_law_816 ⟨show cells + 1 ≤ 601024 by omega, show slots + 6 ≤ 7293034 by omega⟩) ?_
  rintro r2 I2 Lz1 ⟨hans, h4, hQ, eLz1⟩
  rw [eLz1]
  have hM2 := hQ.mr hM1
  have hFM := hQ.fm
  have hG2 := hFM.gw hG1
  refine g_is (lv' := [(7, .int r2), (6, .int (nI (cd2 (pB (∃ a b, SPN (xs (i + 1)) (xs (i + 2)) q a b) && inB (xs (i + 3)) 8) (pB (∃ m, DP (xs (i + 4)) m))))), (0, .ref b), (1, .ref (γ.2.2 0)), (2, .ref (γ.2.2 8)), (3, .ref (γ.2.2 10)), (4, .ref (γ.2.2 11)), (5, .int (nI i))]) dL_law_819 (by decide) rfl ?_
  refine g_pc (pc' := 821) rfl ?_
  refine g_al_n 4 dL_law_821 rfl ?_
  refine g_ci0 (v := I2 8 4) (r_V (st := []) (As := []) (d := 0) 8 (by decide) rfl rfl (c_X5_thrown l γ I2 L1 P) gL_law_X5_thrown rfl ⟨rfl, by decide, by decide, rfl⟩ ⟨Nat.le_of_ble_eq_true rfl, Nat.le_of_ble_eq_true rfl⟩ rfl (Nat.le_of_ble_eq_true rfl) dL_law_822 ⟨show cells + 1 ≤ 601024 by omega, show slots + 6 ≤ 7293034 by omega⟩) ?_
  refine g_top (v := nI (cd2 (pB (∃ a b, SPN (xs (i + 1)) (xs (i + 2)) q a b) && inB (xs (i + 3)) 8) (pB (∃ m, DP (xs (i + 4)) m)))) h4 ?_
  refine g_il 1 dL_law_825 rfl ?_
  refine gn_eq (tgt := 832) dL_law_827 (by decide) (cd2_lt _ _) (cd2_lt _ _) (fun h1 => ?_) (fun h1 => ?_)
  · skip
    refine g_il 1 dL_law_832 rfl ?_
    refine gz_ne (tgt := 856) dL_law_834 (by decide) (cd2_lt _ _) (fun h2 => ?_) (fun h2 => ?_)
    · skip
      refine g_goto (tgt := 1199) dL_law_856 (by decide) ?_
      refine g_inc (v := nI (i + 5)) (lv' := [(5, .int (nI (i + 5))), (7, .int r2), (6, .int (nI (cd2 (pB (∃ a b, SPN (xs (i + 1)) (xs (i + 2)) q a b) && inB (xs (i + 3)) 8) (pB (∃ m, DP (xs (i + 4)) m))))), (0, .ref b), (1, .ref (γ.2.2 0)), (2, .ref (γ.2.2 8)), (3, .ref (γ.2.2 10)), (4, .ref (γ.2.2 11))]) 7 dL_law_1199 rfl (inc_n _ 5) (by decide) rfl ?_
      refine g_pc (pc' := 1202) rfl ?_
      refine g_goto (tgt := 28) dL_law_1202 (by decide) ?_
      refine g_sub [3, 4, 5, 6, 7, 0] rfl ?_
      exact nx _ _ _ _ _ I2 L1 P (cells + 1) (slots + 6) hM2 hG2 (by omega) (by omega)
    · skip
      have hok := cd2_ok h2
      have hr2 := hans (cd2_ok h2)
      refine g_al_n 5 dL_law_837 rfl ?_
      refine g_ic (v := nI 0) dL_law_838 (by decide) ?_
      refine g_lald (v := (bi ((ch g r9 (lxw g u) (tn (xs (i + 1))) (tn (xs (i + 2))) (tn (xs (i + 3)))).testBit (4 * (tn (xs (i + 4)) / 10) + tn (xs (i + 4)) % 10))).toInt64) 10 0 (by decide) rfl (by decide) (by decide) (hout hok) dL_law_839 ?_
      refine g_il 0 dL_law_840 rfl ?_
      refine g_top (v := bi ((ch g r9 (lxw g u) (tn (xs (i + 1))) (tn (xs (i + 2))) (tn (xs (i + 3)))).testBit (4 * (tn (xs (i + 4)) / 10) + tn (xs (i + 4)) % 10))) hr2 ?_
      refine gb_eq (tgt := 849) dL_law_842 (by decide) (fun h7 => ?_) (fun h7 => ?_)
      · skip
        refine g_lc (v := lN 0) dL_law_849 rfl ?_
        refine g_lcmp (v := (0 : Int32)) dL_law_850 (by rw [h7]; decide) ?_
        refine g_pc (pc' := 851) rfl ?_
        refine g_if_eq (tgt := 856) dL_law_851 (by decide) (fun h3 => ?_) (fun h3 => ?_)
        · skip
          refine g_goto (tgt := 1199) dL_law_856 (by decide) ?_
          refine g_inc (v := nI (i + 5)) (lv' := [(5, .int (nI (i + 5))), (7, .int r2), (6, .int (nI (cd2 (pB (∃ a b, SPN (xs (i + 1)) (xs (i + 2)) q a b) && inB (xs (i + 3)) 8) (pB (∃ m, DP (xs (i + 4)) m))))), (0, .ref b), (1, .ref (γ.2.2 0)), (2, .ref (γ.2.2 8)), (3, .ref (γ.2.2 10)), (4, .ref (γ.2.2 11))]) 7 dL_law_1199 rfl (inc_n _ 5) (by decide) rfl ?_
          refine g_goto (tgt := 28) dL_law_1202 (by decide) ?_
          refine g_sub [3, 4, 5, 6, 7, 0] rfl ?_
          exact nx _ _ _ _ _ I2 L1 P (cells + 1) (slots + 6) hM2 hG2 (by omega) (by omega)
        · skip
          exact absurd rfl h3
      · skip
        refine g_lc (v := lN 1) dL_law_845 rfl ?_
        refine g_goto (tgt := 850) dL_law_846 (by decide) ?_
        refine g_lcmp (v := (0 : Int32)) dL_law_850 (by rw [h7]; decide) ?_
        refine g_if_eq (tgt := 856) dL_law_851 (by decide) (fun h3 => ?_) (fun h3 => ?_)
        · skip
          refine g_pc (pc' := 856) rfl ?_
          refine g_goto (tgt := 1199) dL_law_856 (by decide) ?_
          refine g_inc (v := nI (i + 5)) (lv' := [(5, .int (nI (i + 5))), (7, .int r2), (6, .int (nI (cd2 (pB (∃ a b, SPN (xs (i + 1)) (xs (i + 2)) q a b) && inB (xs (i + 3)) 8) (pB (∃ m, DP (xs (i + 4)) m))))), (0, .ref b), (1, .ref (γ.2.2 0)), (2, .ref (γ.2.2 8)), (3, .ref (γ.2.2 10)), (4, .ref (γ.2.2 11))]) 7 dL_law_1199 rfl (inc_n _ 5) (by decide) rfl ?_
          refine g_goto (tgt := 28) dL_law_1202 (by decide) ?_
          refine g_sub [3, 4, 5, 6, 7, 0] rfl ?_
          exact nx _ _ _ _ _ I2 L1 P (cells + 1) (slots + 6) hM2 hG2 (by omega) (by omega)
        · skip
          exact absurd rfl h3
  · skip
    exact absurd rfl h1

set_option maxRecDepth 100000 in
set_option maxHeartbeats 4000000 in
theorem k_level (l : Launch) (hl0 : l.stackTraces = false) (γ : Gm) (I : IT) (L : LT) (P : PT) (b Ln : Nat) (xs : Nat → Int32) (i N : Nat) (hi : i + 5 ≤ Ln) (hLn : Ln ≤ 2560) (nx : Nx l γ b Ln xs (i + 5) N) (g : GR) (n r9 q : Nat) (u : Nat → Nat) (hM : MR I g n r9 q u) (hG : GW I g n r9 q u) (cells slots : Nat) (hc : cells + (N + 1) ≤ 601024) (hs : slots + 6 * (N + 1) ≤ 7293034) : G (ELw b Ln xs) l cL_law 8 wsL_law RL (some .boolean) room_1 γ P ALw (QLw b) cells slots 859 [(0, .ref b), (1, .ref (γ.2.2 0)), (2, .ref (γ.2.2 8)), (3, .ref (γ.2.2 10)), (4, .ref (γ.2.2 11)), (5, .int (nI i))] [] I L := by
  refine g_al_n 1 dL_law_859 rfl ?_
  refine g_ci (r_V (st := []) (As := []) (d := 5) 0 (by decide) rfl rfl (c_X4_level l γ I L P g n r9 q u hG) gL_law_X4_level rfl ⟨rfl, by decide, by decide, rfl⟩ ⟨Nat.le_of_ble_eq_true rfl, Nat.le_of_ble_eq_true rfl⟩ rfl (Nat.le_of_ble_eq_true rfl) dL_law_860 ⟨show cells ≤ 601024 by omega, show slots ≤ 7293034 by omega⟩) ?_
  rintro rz1 I1 Lz1 ⟨ez1, hG1, hF1, eLz1⟩
  subst ez1
  rw [eLz1]
  have hM1 := hF1.mr hM
  refine g_al_n 2 dL_law_863 rfl ?_
  refine g_ci (r_V (st := [.int (fst1 (fun k => isS g k u q) (r9 + 1) 0)]) (As := []) (d := 4) 8 (by decide) rfl rfl (c_X5_level l γ I1 L P g n r9 q u hM1) gL_law_X5_level rfl ⟨rfl, by decide, by decide, rfl⟩ ⟨Nat.le_of_ble_eq_true rfl, Nat.le_of_ble_eq_true rfl⟩ rfl (Nat.le_of_ble_eq_true rfl) dL_law_864 ⟨show cells ≤ 601024 by omega, show slots ≤ 7293034 by omega⟩) ?_
  rintro rz2 I2 Lz2 ⟨ez2, h4, hQ, eLz2⟩
  subst ez2
  rw [eLz2]
  have hM2 := hQ.mr hM1
  have hFM := hQ.fm
  have hG2 := hFM.gw hG1
  refine g_ic_eq (tgt := 1199) dL_law_867 (by decide) (fun h1 => ?_) (fun h1 => ?_)
  · skip
    refine g_inc (v := nI (i + 5)) (lv' := [(5, .int (nI (i + 5))), (0, .ref b), (1, .ref (γ.2.2 0)), (2, .ref (γ.2.2 8)), (3, .ref (γ.2.2 10)), (4, .ref (γ.2.2 11))]) 5 dL_law_1199 rfl (inc_n _ 5) (by decide) rfl ?_
    refine g_goto (tgt := 28) dL_law_1202 (by decide) ?_
    refine g_sub [1, 2, 3, 4, 5, 0] rfl ?_
    exact nx _ _ _ _ _ I2 L P cells slots hM2 hG2 (by omega) (by omega)
  · skip
    exact absurd rfl h1

set_option maxRecDepth 100000 in
set_option maxHeartbeats 4000000 in
theorem k_sentences (l : Launch) (hl0 : l.stackTraces = false) (γ : Gm) (I : IT) (L : LT) (P : PT) (b Ln : Nat) (xs : Nat → Int32) (i N : Nat) (hi : i + 5 ≤ Ln) (hLn : Ln ≤ 2560) (nx : Nx l γ b Ln xs (i + 5) N) (g : GR) (n r9 q : Nat) (u : Nat → Nat) (hM : MR I g n r9 q u) (hG : GW I g n r9 q u) (cells slots : Nat) (hc : cells + (N + 1) ≤ 601024) (hs : slots + 6 * (N + 1) ≤ 7293034) : G (ELw b Ln xs) l cL_law 8 wsL_law RL (some .boolean) room_1 γ P ALw (QLw b) cells slots 872 [(0, .ref b), (1, .ref (γ.2.2 0)), (2, .ref (γ.2.2 8)), (3, .ref (γ.2.2 10)), (4, .ref (γ.2.2 11)), (5, .int (nI i))] [] I L := by
  refine g_al_n 1 dL_law_872 rfl ?_
  refine g_al_n 0 dL_law_873 rfl ?_
  refine g_il 5 dL_law_874 rfl ?_
  refine g_ic (v := nI 1) dL_law_876 (by decide) ?_
  refine g_iadd (v := nI (i + 1)) dL_law_877 (nI_add _ _) ?_
  refine g_sld (i + 1) (by omega) dL_law_878 ?_
  refine g_al_n 3 dL_law_879 rfl ?_
  refine g_pc (pc' := 880) rfl ?_
  refine g_cl (st := []) (As := [.ref (γ.2.2 0), .int (xs (i + 1)), .ref (γ.2.2 10)]) (d := 7) (c_L_sentences l hl0 γ I L P g n r9 q u hG (xs (i + 1))) gL_law_L_sentences rfl ⟨by decide, by decide, rfl⟩ ⟨Nat.le_of_ble_eq_true rfl, Nat.le_of_ble_eq_true rfl⟩ rfl (Nat.le_of_ble_eq_true rfl) dL_law_880 ⟨show cells + 1 ≤ 601024 by omega, show slots + 6 ≤ 7293034 by omega⟩ ?_
  rintro r1 I1 L1 P1 ⟨er, hout, hG1, hF1, hL1, eP1⟩
  rw [er]
  refine g_P eP1 ?_
  have hM1 := hF1.mr hM
  refine g_is (lv' := [(6, .int (nI (cd2 (pB (∃ m, LEN (xs (i + 1)) m)) (true)))), (0, .ref b), (1, .ref (γ.2.2 0)), (2, .ref (γ.2.2 8)), (3, .ref (γ.2.2 10)), (4, .ref (γ.2.2 11)), (5, .int (nI i))]) dL_law_883 (by decide) rfl ?_
  refine g_al_n 3 dL_law_885 rfl ?_
  refine g_al_n 1 dL_law_886 rfl ?_
  refine g_il 6 dL_law_887 rfl ?_
  refine g_ic (v := nI 1) dL_law_889 (by decide) ?_
  refine g_iadd (v := nI (i + 1)) dL_law_890 (nI_add _ _) ?_
  refine g_sld (i + 1) (by omega) dL_law_891 ?_
  refine g_pc (pc' := 892) rfl ?_
  refine g_ci (r_V (st := []) (As := [.int (xs (i + 1))]) (d := 6) 8 (by decide) rfl rfl (c_X5_sentences l γ I1 L1 P g n r9 q u hM1 (xs (i + 1))) gL_law_X5_sentences rfl ⟨rfl, by decide, by decide, rfl⟩ ⟨Nat.le_of_ble_eq_true rfl, Nat.le_of_ble_eq_true rfl⟩ rfl (Nat.le_of_ble_eq_true rfl) dL_law_892 ⟨show cells + 1 ≤ 601024 by omega, show slots + 6 ≤ 7293034 by omega⟩) ?_
  rintro r2 I2 Lz1 ⟨hans, h4, hQ, eLz1⟩
  rw [eLz1]
  have hM2 := hQ.mr hM1
  have hFM := hQ.fm
  have hG2 := hFM.gw hG1
  refine g_is (lv' := [(7, .int r2), (6, .int (nI (cd2 (pB (∃ m, LEN (xs (i + 1)) m)) (true)))), (0, .ref b), (1, .ref (γ.2.2 0)), (2, .ref (γ.2.2 8)), (3, .ref (γ.2.2 10)), (4, .ref (γ.2.2 11)), (5, .int (nI i))]) dL_law_895 (by decide) rfl ?_
  refine g_al_n 4 dL_law_897 rfl ?_
  refine g_ci0 (v := I2 8 4) (r_V (st := []) (As := []) (d := 0) 8 (by decide) rfl rfl (c_X5_thrown l γ I2 L1 P) gL_law_X5_thrown rfl ⟨rfl, by decide, by decide, rfl⟩ ⟨Nat.le_of_ble_eq_true rfl, Nat.le_of_ble_eq_true rfl⟩ rfl (Nat.le_of_ble_eq_true rfl) dL_law_898 ⟨show cells + 1 ≤ 601024 by omega, show slots + 6 ≤ 7293034 by omega⟩) ?_
  refine g_top (v := nI (cd2 (pB (∃ m, LEN (xs (i + 1)) m)) (true))) h4 ?_
  refine g_il 1 dL_law_901 rfl ?_
  refine gn_eq (tgt := 908) dL_law_903 (by decide) (cd2_lt _ _) (cd2_lt _ _) (fun h1 => ?_) (fun h1 => ?_)
  · skip
    refine g_il 1 dL_law_908 rfl ?_
    refine gz_ne (tgt := 925) dL_law_910 (by decide) (cd2_lt _ _) (fun h2 => ?_) (fun h2 => ?_)
    · skip
      refine g_pc (pc' := 925) rfl ?_
      refine g_goto (tgt := 1199) dL_law_925 (by decide) ?_
      refine g_inc (v := nI (i + 5)) (lv' := [(5, .int (nI (i + 5))), (7, .int r2), (6, .int (nI (cd2 (pB (∃ m, LEN (xs (i + 1)) m)) (true)))), (0, .ref b), (1, .ref (γ.2.2 0)), (2, .ref (γ.2.2 8)), (3, .ref (γ.2.2 10)), (4, .ref (γ.2.2 11))]) 7 dL_law_1199 rfl (inc_n _ 5) (by decide) rfl ?_
      refine g_goto (tgt := 28) dL_law_1202 (by decide) ?_
      refine g_sub [3, 4, 5, 6, 7, 0] rfl ?_
      exact nx _ _ _ _ _ I2 L1 P (cells + 1) (slots + 6) hM2 hG2 (by omega) (by omega)
    · skip
      have hok := cd2_ok h2
      have hr2 := hans ((Bool.and_eq_true _ _).mp (cd2_ok h2)).1
      refine g_al_n 5 dL_law_913 rfl ?_
      refine g_ic (v := nI 0) dL_law_914 (by decide) ?_
      refine g_lald (v := (nI (bc (fun j => isS g r9 (dig n (tn (xs (i + 1))) j) (tn (xs (i + 1)))) (n ^ tn (xs (i + 1))))).toInt64) 10 0 (by decide) rfl (by decide) (by decide) (hout hok) dL_law_915 ?_
      refine g_il 0 dL_law_916 rfl ?_
      refine g_top (v := nI (bc (fun j => isS g r9 (dig n (tn (xs (i + 1))) j) (tn (xs (i + 1)))) (n ^ tn (xs (i + 1))))) hr2 ?_
      refine g_i2l (v := (nI (bc (fun j => isS g r9 (dig n (tn (xs (i + 1))) j) (tn (xs (i + 1)))) (n ^ tn (xs (i + 1))))).toInt64) dL_law_918 (rfl) ?_
      refine g_pc (pc' := 919) rfl ?_
      refine g_lcmp (v := (0 : Int32)) dL_law_919 (lg_self _) ?_
      refine g_if_eq (tgt := 925) dL_law_920 (by decide) (fun h3 => ?_) (fun h3 => ?_)
      · skip
        refine g_goto (tgt := 1199) dL_law_925 (by decide) ?_
        refine g_inc (v := nI (i + 5)) (lv' := [(5, .int (nI (i + 5))), (7, .int r2), (6, .int (nI (cd2 (pB (∃ m, LEN (xs (i + 1)) m)) (true)))), (0, .ref b), (1, .ref (γ.2.2 0)), (2, .ref (γ.2.2 8)), (3, .ref (γ.2.2 10)), (4, .ref (γ.2.2 11))]) 7 dL_law_1199 rfl (inc_n _ 5) (by decide) rfl ?_
        refine g_goto (tgt := 28) dL_law_1202 (by decide) ?_
        refine g_sub [3, 4, 5, 6, 7, 0] rfl ?_
        exact nx _ _ _ _ _ I2 L1 P (cells + 1) (slots + 6) hM2 hG2 (by omega) (by omega)
      · skip
        exact absurd rfl h3
  · skip
    exact absurd rfl h1

set_option maxRecDepth 100000 in
set_option maxHeartbeats 4000000 in
theorem k_sentence (l : Launch) (hl0 : l.stackTraces = false) (γ : Gm) (I : IT) (L : LT) (P : PT) (b Ln : Nat) (xs : Nat → Int32) (i N : Nat) (hi : i + 5 ≤ Ln) (hLn : Ln ≤ 2560) (nx : Nx l γ b Ln xs (i + 5) N) (g : GR) (n r9 q : Nat) (u : Nat → Nat) (hM : MR I g n r9 q u) (hG : GW I g n r9 q u) (cells slots : Nat) (hc : cells + (N + 1) ≤ 601024) (hs : slots + 6 * (N + 1) ≤ 7293034) : G (ELw b Ln xs) l cL_law 8 wsL_law RL (some .boolean) room_1 γ P ALw (QLw b) cells slots 928 [(0, .ref b), (1, .ref (γ.2.2 0)), (2, .ref (γ.2.2 8)), (3, .ref (γ.2.2 10)), (4, .ref (γ.2.2 11)), (5, .int (nI i))] [] I L := by
  refine g_al_n 1 dL_law_928 rfl ?_
  refine g_al_n 0 dL_law_929 rfl ?_
  refine g_il 5 dL_law_930 rfl ?_
  refine g_ic (v := nI 1) dL_law_932 (by decide) ?_
  refine g_iadd (v := nI (i + 1)) dL_law_933 (nI_add _ _) ?_
  refine g_sld (i + 1) (by omega) dL_law_934 ?_
  refine g_al_n 0 dL_law_935 rfl ?_
  refine g_pc (pc' := 936) rfl ?_
  refine g_il 5 dL_law_936 rfl ?_
  refine g_ic (v := nI 2) dL_law_938 (by decide) ?_
  refine g_iadd (v := nI (i + 2)) dL_law_939 (nI_add _ _) ?_
  refine g_sld (i + 2) (by omega) dL_law_940 ?_
  refine g_al_n 3 dL_law_941 rfl ?_
  refine g_cl (st := []) (As := [.ref (γ.2.2 0), .int (xs (i + 1)), .int (xs (i + 2)), .ref (γ.2.2 10)]) (d := 7) (c_L_sentence l hl0 γ I L P g n r9 q u hG (xs (i + 1)) (xs (i + 2))) gL_law_L_sentence rfl ⟨by decide, by decide, rfl⟩ ⟨Nat.le_of_ble_eq_true rfl, Nat.le_of_ble_eq_true rfl⟩ rfl (Nat.le_of_ble_eq_true rfl) dL_law_942 ⟨show cells + 1 ≤ 601024 by omega, show slots + 6 ≤ 7293034 by omega⟩ ?_
  rintro r1 I1 L1 P1 ⟨er, hout, hG1, hF1, hL1, eP1⟩
  rw [er]
  refine g_P eP1 ?_
  have hM1 := hF1.mr hM
  refine g_is (lv' := [(6, .int (nI (cd2 (pB (∃ m, LEN (xs (i + 1)) m) && pB (¬ (xs (i + 2)) < 0)) (true)))), (0, .ref b), (1, .ref (γ.2.2 0)), (2, .ref (γ.2.2 8)), (3, .ref (γ.2.2 10)), (4, .ref (γ.2.2 11)), (5, .int (nI i))]) dL_law_945 (by decide) rfl ?_
  refine g_al_n 3 dL_law_947 rfl ?_
  refine g_pc (pc' := 948) rfl ?_
  refine g_al_n 1 dL_law_948 rfl ?_
  refine g_il 6 dL_law_949 rfl ?_
  refine g_ic (v := nI 1) dL_law_951 (by decide) ?_
  refine g_iadd (v := nI (i + 1)) dL_law_952 (nI_add _ _) ?_
  refine g_sld (i + 1) (by omega) dL_law_953 ?_
  refine g_al_n 1 dL_law_954 rfl ?_
  refine g_il 6 dL_law_955 rfl ?_
  refine g_ic (v := nI 2) dL_law_957 (by decide) ?_
  refine g_pc (pc' := 958) rfl ?_
  refine g_iadd (v := nI (i + 2)) dL_law_958 (nI_add _ _) ?_
  refine g_sld (i + 2) (by omega) dL_law_959 ?_
  refine g_ci (r_V (st := []) (As := [.int (xs (i + 1)), .int (xs (i + 2))]) (d := 5) 8 (by decide) rfl rfl (c_X5_sentence l γ I1 L1 P g n r9 q u hM1 (xs (i + 1)) (xs (i + 2))) gL_law_X5_sentence rfl ⟨rfl, by decide, by decide, rfl⟩ ⟨Nat.le_of_ble_eq_true rfl, Nat.le_of_ble_eq_true rfl⟩ rfl (Nat.le_of_ble_eq_true rfl) dL_law_960 ⟨show cells + 1 ≤ 601024 by omega, show slots + 6 ≤ 7293034 by omega⟩) ?_
  rintro r2 I2 Lz1 ⟨hans, h4, hQ, eLz1⟩
  rw [eLz1]
  have hM2 := hQ.mr hM1
  have hFM := hQ.fm
  have hG2 := hFM.gw hG1
  refine g_is (lv' := [(7, .int r2), (6, .int (nI (cd2 (pB (∃ m, LEN (xs (i + 1)) m) && pB (¬ (xs (i + 2)) < 0)) (true)))), (0, .ref b), (1, .ref (γ.2.2 0)), (2, .ref (γ.2.2 8)), (3, .ref (γ.2.2 10)), (4, .ref (γ.2.2 11)), (5, .int (nI i))]) dL_law_963 (by decide) rfl ?_
  refine g_al_n 4 dL_law_965 rfl ?_
  refine g_ci0 (v := I2 8 4) (r_V (st := []) (As := []) (d := 0) 8 (by decide) rfl rfl (c_X5_thrown l γ I2 L1 P) gL_law_X5_thrown rfl ⟨rfl, by decide, by decide, rfl⟩ ⟨Nat.le_of_ble_eq_true rfl, Nat.le_of_ble_eq_true rfl⟩ rfl (Nat.le_of_ble_eq_true rfl) dL_law_966 ⟨show cells + 1 ≤ 601024 by omega, show slots + 6 ≤ 7293034 by omega⟩) ?_
  refine g_top (v := nI (cd2 (pB (∃ m, LEN (xs (i + 1)) m) && pB (¬ (xs (i + 2)) < 0)) (true))) h4 ?_
  refine g_il 1 dL_law_969 rfl ?_
  refine gn_eq (tgt := 976) dL_law_971 (by decide) (cd2_lt _ _) (cd2_lt _ _) (fun h1 => ?_) (fun h1 => ?_)
  · skip
    refine g_pc (pc' := 976) rfl ?_
    refine g_il 1 dL_law_976 rfl ?_
    refine gz_ne (tgt := 993) dL_law_978 (by decide) (cd2_lt _ _) (fun h2 => ?_) (fun h2 => ?_)
    · skip
      refine g_goto (tgt := 1199) dL_law_993 (by decide) ?_
      refine g_inc (v := nI (i + 5)) (lv' := [(5, .int (nI (i + 5))), (7, .int r2), (6, .int (nI (cd2 (pB (∃ m, LEN (xs (i + 1)) m) && pB (¬ (xs (i + 2)) < 0)) (true)))), (0, .ref b), (1, .ref (γ.2.2 0)), (2, .ref (γ.2.2 8)), (3, .ref (γ.2.2 10)), (4, .ref (γ.2.2 11))]) 7 dL_law_1199 rfl (inc_n _ 5) (by decide) rfl ?_
      refine g_goto (tgt := 28) dL_law_1202 (by decide) ?_
      refine g_sub [3, 4, 5, 6, 7, 0] rfl ?_
      exact nx _ _ _ _ _ I2 L1 P (cells + 1) (slots + 6) hM2 hG2 (by omega) (by omega)
    · skip
      have hok := cd2_ok h2
      have hr2 := hans ((Bool.and_eq_true _ _).mp (cd2_ok h2)).1
      refine g_al_n 5 dL_law_981 rfl ?_
      refine g_ic (v := nI 0) dL_law_982 (by decide) ?_
      refine g_lald (v := ((match kfs (fun j => isS g r9 (dig n (tn (xs (i + 1))) j) (tn (xs (i + 1)))) (n ^ tn (xs (i + 1))) 0 (tn (xs (i + 2))) with | some j => nI (tdig (dig n (tn (xs (i + 1))) j) (tn (xs (i + 1)))) | none => -1)).toInt64) 10 0 (by decide) rfl (by decide) (by decide) (hout hok) dL_law_983 ?_
      refine g_pc (pc' := 984) rfl ?_
      refine g_il 0 dL_law_984 rfl ?_
      refine g_top (v := (match kfs (fun j => isS g r9 (dig n (tn (xs (i + 1))) j) (tn (xs (i + 1)))) (n ^ tn (xs (i + 1))) 0 (tn (xs (i + 2))) with | some j => nI (tdig (dig n (tn (xs (i + 1))) j) (tn (xs (i + 1)))) | none => -1)) hr2 ?_
      refine g_i2l (v := ((match kfs (fun j => isS g r9 (dig n (tn (xs (i + 1))) j) (tn (xs (i + 1)))) (n ^ tn (xs (i + 1))) 0 (tn (xs (i + 2))) with | some j => nI (tdig (dig n (tn (xs (i + 1))) j) (tn (xs (i + 1)))) | none => -1)).toInt64) dL_law_986 (rfl) ?_
      refine g_lcmp (v := (0 : Int32)) dL_law_987 (lg_self _) ?_
      refine g_if_eq (tgt := 993) dL_law_988 (by decide) (fun h3 => ?_) (fun h3 => ?_)
      · skip
        refine g_goto (tgt := 1199) dL_law_993 (by decide) ?_
        refine g_inc (v := nI (i + 5)) (lv' := [(5, .int (nI (i + 5))), (7, .int r2), (6, .int (nI (cd2 (pB (∃ m, LEN (xs (i + 1)) m) && pB (¬ (xs (i + 2)) < 0)) (true)))), (0, .ref b), (1, .ref (γ.2.2 0)), (2, .ref (γ.2.2 8)), (3, .ref (γ.2.2 10)), (4, .ref (γ.2.2 11))]) 7 dL_law_1199 rfl (inc_n _ 5) (by decide) rfl ?_
        refine g_goto (tgt := 28) dL_law_1202 (by decide) ?_
        refine g_sub [3, 4, 5, 6, 7, 0] rfl ?_
        exact nx _ _ _ _ _ I2 L1 P (cells + 1) (slots + 6) hM2 hG2 (by omega) (by omega)
      · skip
        exact absurd rfl h3
  · skip
    exact absurd rfl h1

set_option maxRecDepth 100000 in
set_option maxHeartbeats 4000000 in
theorem k_share (l : Launch) (hl0 : l.stackTraces = false) (γ : Gm) (I : IT) (L : LT) (P : PT) (b Ln : Nat) (xs : Nat → Int32) (i N : Nat) (hi : i + 5 ≤ Ln) (hLn : Ln ≤ 2560) (nx : Nx l γ b Ln xs (i + 5) N) (g : GR) (n r9 q : Nat) (u : Nat → Nat) (hM : MR I g n r9 q u) (hG : GW I g n r9 q u) (cells slots : Nat) (hc : cells + (N + 1) ≤ 601024) (hs : slots + 6 * (N + 1) ≤ 7293034) : G (ELw b Ln xs) l cL_law 8 wsL_law RL (some .boolean) room_1 γ P ALw (QLw b) cells slots 996 [(0, .ref b), (1, .ref (γ.2.2 0)), (2, .ref (γ.2.2 8)), (3, .ref (γ.2.2 10)), (4, .ref (γ.2.2 11)), (5, .int (nI i))] [] I L := by
  refine g_al_n 1 dL_law_996 rfl ?_
  refine g_al_n 0 dL_law_997 rfl ?_
  refine g_il 5 dL_law_998 rfl ?_
  refine g_ic (v := nI 1) dL_law_1000 (by decide) ?_
  refine g_iadd (v := nI (i + 1)) dL_law_1001 (nI_add _ _) ?_
  refine g_sld (i + 1) (by omega) dL_law_1002 ?_
  refine g_al 4 dL_law_1003 rfl ?_
  refine g_pc (pc' := 1005) rfl ?_
  refine g_cl (st := []) (As := [.ref (γ.2.2 0), .int (xs (i + 1)), .ref (γ.2.2 11)]) (d := 7) (c_L_share l hl0 γ I L P g n r9 q u hG (xs (i + 1))) gL_law_L_share rfl ⟨by decide, by decide, rfl⟩ ⟨Nat.le_of_ble_eq_true rfl, Nat.le_of_ble_eq_true rfl⟩ rfl (Nat.le_of_ble_eq_true rfl) dL_law_1005 ⟨show cells + 1 ≤ 601024 by omega, show slots + 6 ≤ 7293034 by omega⟩ ?_
  rintro r1 I1 L1 P1 ⟨er, hout, hG1, hF1, eL1⟩
  rw [er, eL1]
  have hM1 := hF1.mr hM
  refine g_is (lv' := [(6, .int (nI (cd2 (pB (∃ m, LEN (xs (i + 1)) m)) (true)))), (0, .ref b), (1, .ref (γ.2.2 0)), (2, .ref (γ.2.2 8)), (3, .ref (γ.2.2 10)), (4, .ref (γ.2.2 11)), (5, .int (nI i))]) dL_law_1008 (by decide) rfl ?_
  refine g_al_n 3 dL_law_1010 rfl ?_
  refine g_al_n 1 dL_law_1011 rfl ?_
  refine g_il 6 dL_law_1012 rfl ?_
  refine g_ic (v := nI 1) dL_law_1014 (by decide) ?_
  refine g_iadd (v := nI (i + 1)) dL_law_1015 (nI_add _ _) ?_
  refine g_sld (i + 1) (by omega) dL_law_1016 ?_
  refine g_pc (pc' := 1017) rfl ?_
  refine g_cf (r_V (st := []) (As := [.int (xs (i + 1))]) (d := 6) 8 (by decide) rfl rfl (c_X5_share l γ I1 L P1 g n r9 q u hM1 (xs (i + 1))) gL_law_X5_share rfl ⟨rfl, by decide, by decide, rfl⟩ ⟨Nat.le_of_ble_eq_true rfl, Nat.le_of_ble_eq_true rfl⟩ rfl (Nat.le_of_ble_eq_true rfl) dL_law_1017 ⟨show cells + 1 ≤ 601024 by omega, show slots + 6 ≤ 7293034 by omega⟩) ?_
  rintro r2 I2 Lz1 ⟨hans, h4, hQ, eLz1⟩
  rw [eLz1]
  have hM2 := hQ.mr hM1
  have hFM := hQ.fm
  have hG2 := hFM.gw hG1
  refine g_fs (lv' := [(7, .float r2), (6, .int (nI (cd2 (pB (∃ m, LEN (xs (i + 1)) m)) (true)))), (0, .ref b), (1, .ref (γ.2.2 0)), (2, .ref (γ.2.2 8)), (3, .ref (γ.2.2 10)), (4, .ref (γ.2.2 11)), (5, .int (nI i))]) dL_law_1020 (by decide) rfl ?_
  refine g_al_n 4 dL_law_1022 rfl ?_
  refine g_ci0 (v := I2 8 4) (r_V (st := []) (As := []) (d := 0) 8 (by decide) rfl rfl (c_X5_thrown l γ I2 L P1) gL_law_X5_thrown rfl ⟨rfl, by decide, by decide, rfl⟩ ⟨Nat.le_of_ble_eq_true rfl, Nat.le_of_ble_eq_true rfl⟩ rfl (Nat.le_of_ble_eq_true rfl) dL_law_1023 ⟨show cells + 1 ≤ 601024 by omega, show slots + 6 ≤ 7293034 by omega⟩) ?_
  refine g_top (v := nI (cd2 (pB (∃ m, LEN (xs (i + 1)) m)) (true))) h4 ?_
  refine g_il 1 dL_law_1026 rfl ?_
  refine gn_eq (tgt := 1033) dL_law_1028 (by decide) (cd2_lt _ _) (cd2_lt _ _) (fun h1 => ?_) (fun h1 => ?_)
  · skip
    refine g_il 1 dL_law_1033 rfl ?_
    refine gz_ne (tgt := 1071) dL_law_1035 (by decide) (cd2_lt _ _) (fun h2 => ?_) (fun h2 => ?_)
    · skip
      refine g_pc (pc' := 1071) rfl ?_
      refine g_goto (tgt := 1199) dL_law_1071 (by decide) ?_
      refine g_inc (v := nI (i + 5)) (lv' := [(5, .int (nI (i + 5))), (7, .float r2), (6, .int (nI (cd2 (pB (∃ m, LEN (xs (i + 1)) m)) (true)))), (0, .ref b), (1, .ref (γ.2.2 0)), (2, .ref (γ.2.2 8)), (3, .ref (γ.2.2 10)), (4, .ref (γ.2.2 11))]) 7 dL_law_1199 rfl (inc_n _ 5) (by decide) rfl ?_
      refine g_goto (tgt := 28) dL_law_1202 (by decide) ?_
      refine g_sub [3, 4, 5, 6, 7, 0] rfl ?_
      exact nx _ _ _ _ _ I2 L P1 (cells + 1) (slots + 6) hM2 hG2 (by omega) (by omega)
    · skip
      have hok := cd2_ok h2
      have hr2 := hans ((Bool.and_eq_true _ _).mp (cd2_ok h2)).1
      obtain ⟨_, hs1, hs4⟩ := LEN_tn (pB_t.mp ((Bool.and_eq_true _ _).mp hok).1)
      have hnn := pow_le4 hG.1.n_le hs4
      have hv := shr_n g (r := r9) (n := n) hs1 (by omega)
      have hv2 : vf_n64 (FP.f2d (shr g r9 n (tn (xs (i + 1))))) := Jvm.Free.Fl.f2d_out hv
      refine g_al 6 dL_law_1038 rfl ?_
      refine g_ic (v := nI 0) dL_law_1040 (by decide) ?_
      refine g_dald (v := FP.f2d (shr g r9 n (tn (xs (i + 1))))) dL_law_1041 (hout hok) ?_
      refine g_fl 0 dL_law_1042 rfl ?_
      refine g_topf (v := shr g r9 n (tn (xs (i + 1)))) hr2 ?_
      refine g_f2d dL_law_1044 (hv2) ?_
      refine g_pc (pc' := 1045) rfl ?_
      refine g_dcmp (v := 0) dL_law_1045 (dself hv2) ?_
      refine g_if_eq (tgt := 1071) dL_law_1046 (by decide) (fun h3 => ?_) (fun h3 => ?_)
      · skip
        refine g_goto (tgt := 1199) dL_law_1071 (by decide) ?_
        refine g_inc (v := nI (i + 5)) (lv' := [(5, .int (nI (i + 5))), (7, .float r2), (6, .int (nI (cd2 (pB (∃ m, LEN (xs (i + 1)) m)) (true)))), (0, .ref b), (1, .ref (γ.2.2 0)), (2, .ref (γ.2.2 8)), (3, .ref (γ.2.2 10)), (4, .ref (γ.2.2 11))]) 7 dL_law_1199 rfl (inc_n _ 5) (by decide) rfl ?_
        refine g_goto (tgt := 28) dL_law_1202 (by decide) ?_
        refine g_sub [3, 4, 5, 6, 7, 0] rfl ?_
        exact nx _ _ _ _ _ I2 L P1 (cells + 1) (slots + 6) hM2 hG2 (by omega) (by omega)
      · skip
        exact absurd rfl h3
  · skip
    exact absurd rfl h1

set_option maxRecDepth 100000 in
set_option maxHeartbeats 4000000 in
theorem k_spoil (l : Launch) (hl0 : l.stackTraces = false) (γ : Gm) (I : IT) (L : LT) (P : PT) (b Ln : Nat) (xs : Nat → Int32) (i N : Nat) (hi : i + 5 ≤ Ln) (hLn : Ln ≤ 2560) (nx : Nx l γ b Ln xs (i + 5) N) (g : GR) (n r9 q : Nat) (u : Nat → Nat) (hM : MR I g n r9 q u) (hG : GW I g n r9 q u) (cells slots : Nat) (hc : cells + (N + 1) ≤ 601024) (hs : slots + 6 * (N + 1) ≤ 7293034) : G (ELw b Ln xs) l cL_law 8 wsL_law RL (some .boolean) room_1 γ P ALw (QLw b) cells slots 1074 [(0, .ref b), (1, .ref (γ.2.2 0)), (2, .ref (γ.2.2 8)), (3, .ref (γ.2.2 10)), (4, .ref (γ.2.2 11)), (5, .int (nI i))] [] I L := by
  refine g_al_n 1 dL_law_1074 rfl ?_
  refine g_al_n 0 dL_law_1075 rfl ?_
  refine g_il 5 dL_law_1076 rfl ?_
  refine g_ic (v := nI 1) dL_law_1078 (by decide) ?_
  refine g_iadd (v := nI (i + 1)) dL_law_1079 (nI_add _ _) ?_
  refine g_sld (i + 1) (by omega) dL_law_1080 ?_
  refine g_al_n 3 dL_law_1081 rfl ?_
  refine g_pc (pc' := 1082) rfl ?_
  refine g_cl (st := []) (As := [.ref (γ.2.2 0), .int (xs (i + 1)), .ref (γ.2.2 10)]) (d := 7) (c_L_spoil l hl0 γ I L P g n r9 q u hG (xs (i + 1))) gL_law_L_spoil rfl ⟨by decide, by decide, rfl⟩ ⟨Nat.le_of_ble_eq_true rfl, Nat.le_of_ble_eq_true rfl⟩ rfl (Nat.le_of_ble_eq_true rfl) dL_law_1082 ⟨show cells + 1 ≤ 601024 by omega, show slots + 6 ≤ 7293034 by omega⟩ ?_
  rintro r1 I1 L1 P1 ⟨er, hout, hG1, hF1, hL1, eP1⟩
  rw [er]
  refine g_P eP1 ?_
  have hM1 := hF1.mr hM
  refine g_is (lv' := [(6, .int (nI (cd2 (inB (xs (i + 1)) q) (true)))), (0, .ref b), (1, .ref (γ.2.2 0)), (2, .ref (γ.2.2 8)), (3, .ref (γ.2.2 10)), (4, .ref (γ.2.2 11)), (5, .int (nI i))]) dL_law_1085 (by decide) rfl ?_
  refine g_al_n 3 dL_law_1087 rfl ?_
  refine g_al_n 1 dL_law_1088 rfl ?_
  refine g_il 6 dL_law_1089 rfl ?_
  refine g_ic (v := nI 1) dL_law_1091 (by decide) ?_
  refine g_iadd (v := nI (i + 1)) dL_law_1092 (nI_add _ _) ?_
  refine g_sld (i + 1) (by omega) dL_law_1093 ?_
  refine g_pc (pc' := 1094) rfl ?_
  refine g_ci (r_V (st := []) (As := [.int (xs (i + 1))]) (d := 5) 8 (by decide) rfl rfl (c_X5_spoil l γ I1 L1 P g n r9 q u hM1 (xs (i + 1))) gL_law_X5_spoil rfl ⟨rfl, by decide, by decide, rfl⟩ ⟨Nat.le_of_ble_eq_true rfl, Nat.le_of_ble_eq_true rfl⟩ rfl (Nat.le_of_ble_eq_true rfl) dL_law_1094 ⟨show cells + 1 ≤ 601024 by omega, show slots + 6 ≤ 7293034 by omega⟩) ?_
  rintro r2 I2 Lz1 ⟨hans, h4, hQ, eLz1⟩
  rw [eLz1]
  have hM2 := hQ.mr hM1
  have hFM := hQ.fm
  have hG2 := hFM.gw hG1
  refine g_is (lv' := [(7, .int r2), (6, .int (nI (cd2 (inB (xs (i + 1)) q) (true)))), (0, .ref b), (1, .ref (γ.2.2 0)), (2, .ref (γ.2.2 8)), (3, .ref (γ.2.2 10)), (4, .ref (γ.2.2 11)), (5, .int (nI i))]) dL_law_1097 (by decide) rfl ?_
  refine g_al_n 4 dL_law_1099 rfl ?_
  refine g_ci0 (v := I2 8 4) (r_V (st := []) (As := []) (d := 0) 8 (by decide) rfl rfl (c_X5_thrown l γ I2 L1 P) gL_law_X5_thrown rfl ⟨rfl, by decide, by decide, rfl⟩ ⟨Nat.le_of_ble_eq_true rfl, Nat.le_of_ble_eq_true rfl⟩ rfl (Nat.le_of_ble_eq_true rfl) dL_law_1100 ⟨show cells + 1 ≤ 601024 by omega, show slots + 6 ≤ 7293034 by omega⟩) ?_
  refine g_top (v := nI (cd2 (inB (xs (i + 1)) q) (true))) h4 ?_
  refine g_il 1 dL_law_1103 rfl ?_
  refine gn_eq (tgt := 1110) dL_law_1105 (by decide) (cd2_lt _ _) (cd2_lt _ _) (fun h1 => ?_) (fun h1 => ?_)
  · skip
    refine g_il 1 dL_law_1110 rfl ?_
    refine gz_ne (tgt := 1127) dL_law_1112 (by decide) (cd2_lt _ _) (fun h2 => ?_) (fun h2 => ?_)
    · skip
      refine g_pc (pc' := 1127) rfl ?_
      refine g_goto (tgt := 1199) dL_law_1127 (by decide) ?_
      refine g_inc (v := nI (i + 5)) (lv' := [(5, .int (nI (i + 5))), (7, .int r2), (6, .int (nI (cd2 (inB (xs (i + 1)) q) (true)))), (0, .ref b), (1, .ref (γ.2.2 0)), (2, .ref (γ.2.2 8)), (3, .ref (γ.2.2 10)), (4, .ref (γ.2.2 11))]) 7 dL_law_1199 rfl (inc_n _ 5) (by decide) rfl ?_
      refine g_goto (tgt := 28) dL_law_1202 (by decide) ?_
      refine g_sub [3, 4, 5, 6, 7, 0] rfl ?_
      exact nx _ _ _ _ _ I2 L1 P (cells + 1) (slots + 6) hM2 hG2 (by omega) (by omega)
    · skip
      have hok := cd2_ok h2
      have hr2 := hans ((Bool.and_eq_true _ _).mp (cd2_ok h2)).1
      refine g_al_n 5 dL_law_1115 rfl ?_
      refine g_ic (v := nI 0) dL_law_1116 (by decide) ?_
      refine g_lald (v := (spo g r9 u q n (tn (xs (i + 1)))).toInt64) 10 0 (by decide) rfl (by decide) (by decide) (hout hok) dL_law_1117 ?_
      refine g_il 0 dL_law_1118 rfl ?_
      refine g_top (v := spo g r9 u q n (tn (xs (i + 1)))) hr2 ?_
      refine g_i2l (v := (spo g r9 u q n (tn (xs (i + 1)))).toInt64) dL_law_1120 (rfl) ?_
      refine g_pc (pc' := 1121) rfl ?_
      refine g_lcmp (v := (0 : Int32)) dL_law_1121 (lg_self _) ?_
      refine g_if_eq (tgt := 1127) dL_law_1122 (by decide) (fun h3 => ?_) (fun h3 => ?_)
      · skip
        refine g_goto (tgt := 1199) dL_law_1127 (by decide) ?_
        refine g_inc (v := nI (i + 5)) (lv' := [(5, .int (nI (i + 5))), (7, .int r2), (6, .int (nI (cd2 (inB (xs (i + 1)) q) (true)))), (0, .ref b), (1, .ref (γ.2.2 0)), (2, .ref (γ.2.2 8)), (3, .ref (γ.2.2 10)), (4, .ref (γ.2.2 11))]) 7 dL_law_1199 rfl (inc_n _ 5) (by decide) rfl ?_
        refine g_goto (tgt := 28) dL_law_1202 (by decide) ?_
        refine g_sub [3, 4, 5, 6, 7, 0] rfl ?_
        exact nx _ _ _ _ _ I2 L1 P (cells + 1) (slots + 6) hM2 hG2 (by omega) (by omega)
      · skip
        exact absurd rfl h3
  · skip
    exact absurd rfl h1

set_option maxRecDepth 100000 in
set_option maxHeartbeats 4000000 in
theorem k_changes (l : Launch) (hl0 : l.stackTraces = false) (γ : Gm) (I : IT) (L : LT) (P : PT) (b Ln : Nat) (xs : Nat → Int32) (i N : Nat) (hi : i + 5 ≤ Ln) (hLn : Ln ≤ 2560) (nx : Nx l γ b Ln xs (i + 5) N) (g : GR) (n r9 q : Nat) (u : Nat → Nat) (hM : MR I g n r9 q u) (hG : GW I g n r9 q u) (cells slots : Nat) (hc : cells + (N + 1) ≤ 601024) (hs : slots + 6 * (N + 1) ≤ 7293034) : G (ELw b Ln xs) l cL_law 8 wsL_law RL (some .boolean) room_1 γ P ALw (QLw b) cells slots 1130 [(0, .ref b), (1, .ref (γ.2.2 0)), (2, .ref (γ.2.2 8)), (3, .ref (γ.2.2 10)), (4, .ref (γ.2.2 11)), (5, .int (nI i))] [] I L := by
  refine g_al_n 1 dL_law_1130 rfl ?_
  refine g_ci (r_V (st := []) (As := []) (d := 5) 0 (by decide) rfl rfl (c_X4_changes l γ I L P g n r9 q u hG) gL_law_X4_changes rfl ⟨rfl, by decide, by decide, rfl⟩ ⟨Nat.le_of_ble_eq_true rfl, Nat.le_of_ble_eq_true rfl⟩ rfl (Nat.le_of_ble_eq_true rfl) dL_law_1131 ⟨show cells ≤ 601024 by omega, show slots ≤ 7293034 by omega⟩) ?_
  rintro rz1 I1 Lz1 ⟨ez1, hG1, hF1, eLz1⟩
  subst ez1
  rw [eLz1]
  have hM1 := hF1.mr hM
  refine g_al_n 2 dL_law_1134 rfl ?_
  refine g_ci (r_V (st := [.int (chg g r9 u q n)]) (As := []) (d := 5) 8 (by decide) rfl rfl (c_X5_changes l γ I1 L P g n r9 q u hM1) gL_law_X5_changes rfl ⟨rfl, by decide, by decide, rfl⟩ ⟨Nat.le_of_ble_eq_true rfl, Nat.le_of_ble_eq_true rfl⟩ rfl (Nat.le_of_ble_eq_true rfl) dL_law_1135 ⟨show cells ≤ 601024 by omega, show slots ≤ 7293034 by omega⟩) ?_
  rintro rz2 I2 Lz2 ⟨ez2, h4, hQ, eLz2⟩
  subst ez2
  rw [eLz2]
  have hM2 := hQ.mr hM1
  have hFM := hQ.fm
  have hG2 := hFM.gw hG1
  refine g_ic_eq (tgt := 1199) dL_law_1138 (by decide) (fun h1 => ?_) (fun h1 => ?_)
  · skip
    refine g_inc (v := nI (i + 5)) (lv' := [(5, .int (nI (i + 5))), (0, .ref b), (1, .ref (γ.2.2 0)), (2, .ref (γ.2.2 8)), (3, .ref (γ.2.2 10)), (4, .ref (γ.2.2 11))]) 5 dL_law_1199 rfl (inc_n _ 5) (by decide) rfl ?_
    refine g_goto (tgt := 28) dL_law_1202 (by decide) ?_
    refine g_sub [1, 2, 3, 4, 5, 0] rfl ?_
    exact nx _ _ _ _ _ I2 L P cells slots hM2 hG2 (by omega) (by omega)
  · skip
    exact absurd rfl h1

set_option maxRecDepth 100000 in
set_option maxHeartbeats 4000000 in
theorem k_correction (l : Launch) (hl0 : l.stackTraces = false) (γ : Gm) (I : IT) (L : LT) (P : PT) (b Ln : Nat) (xs : Nat → Int32) (i N : Nat) (hi : i + 5 ≤ Ln) (hLn : Ln ≤ 2560) (nx : Nx l γ b Ln xs (i + 5) N) (g : GR) (n r9 q : Nat) (u : Nat → Nat) (hM : MR I g n r9 q u) (hG : GW I g n r9 q u) (cells slots : Nat) (hc : cells + (N + 1) ≤ 601024) (hs : slots + 6 * (N + 1) ≤ 7293034) : G (ELw b Ln xs) l cL_law 8 wsL_law RL (some .boolean) room_1 γ P ALw (QLw b) cells slots 1143 [(0, .ref b), (1, .ref (γ.2.2 0)), (2, .ref (γ.2.2 8)), (3, .ref (γ.2.2 10)), (4, .ref (γ.2.2 11)), (5, .int (nI i))] [] I L := by
  refine g_al_n 1 dL_law_1143 rfl ?_
  refine g_al_n 0 dL_law_1144 rfl ?_
  refine g_il 5 dL_law_1145 rfl ?_
  refine g_ic (v := nI 1) dL_law_1147 (by decide) ?_
  refine g_iadd (v := nI (i + 1)) dL_law_1148 (nI_add _ _) ?_
  refine g_sld (i + 1) (by omega) dL_law_1149 ?_
  refine g_al_n 3 dL_law_1150 rfl ?_
  refine g_pc (pc' := 1151) rfl ?_
  refine g_cl (st := []) (As := [.ref (γ.2.2 0), .int (xs (i + 1)), .ref (γ.2.2 10)]) (d := 7) (c_L_correction l hl0 γ I L P g n r9 q u hG (xs (i + 1))) gL_law_L_correction rfl ⟨by decide, by decide, rfl⟩ ⟨Nat.le_of_ble_eq_true rfl, Nat.le_of_ble_eq_true rfl⟩ rfl (Nat.le_of_ble_eq_true rfl) dL_law_1151 ⟨show cells + 1 ≤ 601024 by omega, show slots + 6 ≤ 7293034 by omega⟩ ?_
  rintro r1 I1 L1 P1 ⟨er, hout, hG1, hF1, hL1, eP1⟩
  rw [er]
  refine g_P eP1 ?_
  have hM1 := hF1.mr hM
  refine g_is (lv' := [(6, .int (nI (cd2 (pB (¬ (xs (i + 1)) < 0)) (true)))), (0, .ref b), (1, .ref (γ.2.2 0)), (2, .ref (γ.2.2 8)), (3, .ref (γ.2.2 10)), (4, .ref (γ.2.2 11)), (5, .int (nI i))]) dL_law_1154 (by decide) rfl ?_
  refine g_al_n 3 dL_law_1156 rfl ?_
  refine g_al_n 1 dL_law_1157 rfl ?_
  refine g_il 6 dL_law_1158 rfl ?_
  refine g_ic (v := nI 1) dL_law_1160 (by decide) ?_
  refine g_iadd (v := nI (i + 1)) dL_law_1161 (nI_add _ _) ?_
  refine g_sld (i + 1) (by omega) dL_law_1162 ?_
  refine g_pc (pc' := 1163) rfl ?_
  refine g_ci (r_V (st := []) (As := [.int (xs (i + 1))]) (d := 5) 8 (by decide) rfl rfl (c_X5_correction l γ I1 L1 P g n r9 q u hM1 (xs (i + 1))) gL_law_X5_correction rfl ⟨rfl, by decide, by decide, rfl⟩ ⟨Nat.le_of_ble_eq_true rfl, Nat.le_of_ble_eq_true rfl⟩ rfl (Nat.le_of_ble_eq_true rfl) dL_law_1163 ⟨show cells + 1 ≤ 601024 by omega, show slots + 6 ≤ 7293034 by omega⟩) ?_
  rintro r2 I2 Lz1 ⟨hans, h4, hQ, eLz1⟩
  rw [eLz1]
  have hM2 := hQ.mr hM1
  have hFM := hQ.fm
  have hG2 := hFM.gw hG1
  refine g_is (lv' := [(7, .int r2), (6, .int (nI (cd2 (pB (¬ (xs (i + 1)) < 0)) (true)))), (0, .ref b), (1, .ref (γ.2.2 0)), (2, .ref (γ.2.2 8)), (3, .ref (γ.2.2 10)), (4, .ref (γ.2.2 11)), (5, .int (nI i))]) dL_law_1166 (by decide) rfl ?_
  refine g_al_n 4 dL_law_1168 rfl ?_
  refine g_ci0 (v := I2 8 4) (r_V (st := []) (As := []) (d := 0) 8 (by decide) rfl rfl (c_X5_thrown l γ I2 L1 P) gL_law_X5_thrown rfl ⟨rfl, by decide, by decide, rfl⟩ ⟨Nat.le_of_ble_eq_true rfl, Nat.le_of_ble_eq_true rfl⟩ rfl (Nat.le_of_ble_eq_true rfl) dL_law_1169 ⟨show cells + 1 ≤ 601024 by omega, show slots + 6 ≤ 7293034 by omega⟩) ?_
  refine g_top (v := nI (cd2 (pB (¬ (xs (i + 1)) < 0)) (true))) h4 ?_
  refine g_il 1 dL_law_1172 rfl ?_
  refine gn_eq (tgt := 1179) dL_law_1174 (by decide) (cd2_lt _ _) (cd2_lt _ _) (fun h1 => ?_) (fun h1 => ?_)
  · skip
    refine g_il 1 dL_law_1179 rfl ?_
    refine gz_ne (tgt := 1196) dL_law_1181 (by decide) (cd2_lt _ _) (fun h2 => ?_) (fun h2 => ?_)
    · skip
      refine g_pc (pc' := 1196) rfl ?_
      refine g_goto (tgt := 1199) dL_law_1196 (by decide) ?_
      refine g_inc (v := nI (i + 5)) (lv' := [(5, .int (nI (i + 5))), (7, .int r2), (6, .int (nI (cd2 (pB (¬ (xs (i + 1)) < 0)) (true)))), (0, .ref b), (1, .ref (γ.2.2 0)), (2, .ref (γ.2.2 8)), (3, .ref (γ.2.2 10)), (4, .ref (γ.2.2 11))]) 7 dL_law_1199 rfl (inc_n _ 5) (by decide) rfl ?_
      refine g_goto (tgt := 28) dL_law_1202 (by decide) ?_
      refine g_sub [3, 4, 5, 6, 7, 0] rfl ?_
      exact nx _ _ _ _ _ I2 L1 P (cells + 1) (slots + 6) hM2 hG2 (by omega) (by omega)
    · skip
      have hok := cd2_ok h2
      have hr2 := hans ((Bool.and_eq_true _ _).mp (cd2_ok h2)).1
      refine g_al_n 5 dL_law_1184 rfl ?_
      refine g_ic (v := nI 0) dL_law_1185 (by decide) ?_
      refine g_lald (v := (cor g r9 u q n (tn (xs (i + 1)))).toInt64) 10 0 (by decide) rfl (by decide) (by decide) (hout hok) dL_law_1186 ?_
      refine g_il 0 dL_law_1187 rfl ?_
      refine g_top (v := cor g r9 u q n (tn (xs (i + 1)))) hr2 ?_
      refine g_i2l (v := (cor g r9 u q n (tn (xs (i + 1)))).toInt64) dL_law_1189 (rfl) ?_
      refine g_pc (pc' := 1190) rfl ?_
      refine g_lcmp (v := (0 : Int32)) dL_law_1190 (lg_self _) ?_
      refine g_if_eq (tgt := 1196) dL_law_1191 (by decide) (fun h3 => ?_) (fun h3 => ?_)
      · skip
        refine g_goto (tgt := 1199) dL_law_1196 (by decide) ?_
        refine g_inc (v := nI (i + 5)) (lv' := [(5, .int (nI (i + 5))), (7, .int r2), (6, .int (nI (cd2 (pB (¬ (xs (i + 1)) < 0)) (true)))), (0, .ref b), (1, .ref (γ.2.2 0)), (2, .ref (γ.2.2 8)), (3, .ref (γ.2.2 10)), (4, .ref (γ.2.2 11))]) 7 dL_law_1199 rfl (inc_n _ 5) (by decide) rfl ?_
        refine g_goto (tgt := 28) dL_law_1202 (by decide) ?_
        refine g_sub [3, 4, 5, 6, 7, 0] rfl ?_
        exact nx _ _ _ _ _ I2 L1 P (cells + 1) (slots + 6) hM2 hG2 (by omega) (by omega)
      · skip
        exact absurd rfl h3
  · skip
    exact absurd rfl h1
