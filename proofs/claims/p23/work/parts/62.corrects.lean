/-! the law's look at changes: corrects -/
set_option maxRecDepth 100000 in
set_option maxHeartbeats 4000000 in
theorem c_L_corrects (l : Launch) (hl0 : l.stackTraces = false) (γ : Gm) (I : IT) (L : LT) (P : PT) (g : GR) (n r9 q : Nat) (u : Nat → Nat) (hG : GW I g n r9 q u) (w : Nat) (hw : w < 2 ^ 31) : Lk 8 48 l yL_corrects wsL_corrects 8 γ [.ref (γ.2.2 0), .int (nI w)] I L P (fun r I' L' => r = nI 1 ∧ GW I' g n r9 q u ∧ L' = L) := by
  have hq6 := hG.2.2.1
  have hn9 := hG.1.n_le
  have hr8 := hG.1.r_le
  refine Lk_ofp (own := RL) (cc := cL_corrects) (maxL := 11) (by decide) rfl rfl (Nat.le_of_ble_eq_true rfl) ?_
  refine g_sub (lv' := [(0, .ref (γ.2.2 0)), (1, .int (nI w))]) [0, 1] rfl ?_
  have k95 : ∀ is : Nat, is ≤ 1 → (is = 1 ↔ isS g r9 u q = true) → ∀ (J : IT) (cells slots : Nat), GW J g n r9 q u → cells ≤ 1 → slots ≤ 6 → G E0 l cL_corrects 11 wsL_corrects RL (some .boolean) (rmL 8 8 48) γ P (AE γ) (QKi 8 48 γ P (fun r I' L' => r = nI 1 ∧ GW I' g n r9 q u ∧ L' = L)) cells slots 95 [(0, .ref (γ.2.2 0)), (1, .int (nI w)), (2, .int (nI q)), (4, .int (nI is)), (6, .int (nI 1))] [] J L := by
    intro is his1 hiff
    have hR := rdg_le g r9 u q
    have hRp : 0 < rdg g r9 u q ↔ is = 1 := by rw [hiff]; exact rdg_pos hG.val16
    have k286 : ∀ (J : IT) (cells slots : Nat), GW J g n r9 q u → cells ≤ 8 → slots ≤ 48 → G E0 l cL_corrects 11 wsL_corrects RL (some .boolean) (rmL 8 8 48) γ P (AE γ) (QKi 8 48 γ P (fun r I' L' => r = nI 1 ∧ GW I' g n r9 q u ∧ L' = L)) cells slots 286 [(0, .ref (γ.2.2 0)), (4, .int (nI is)), (6, .int (nI 1))] [] J L := by
      intro J cells slots hG0 hc hs
      refine g_il 2 dL_corrects_286 rfl ?_
      refine gz_eq (tgt := 312) dL_corrects_288 (by decide) (by omega) (fun h_1 => ?_) (fun h_1 => ?_)
      · skip
        exfalso; omega
      · skip
        refine g_al_n 0 dL_corrects_291 rfl ?_
        refine g_ci (r_V (st := []) (As := []) (d := 5) 0 (by decide) rfl rfl (c_X4_readings l γ J L P g n r9 q u hG0) gL_corrects_X4_readings rfl ⟨rfl, by decide, by decide, rfl⟩ ⟨Nat.le_of_ble_eq_true rfl, Nat.le_of_ble_eq_true rfl⟩ rfl (Nat.le_of_ble_eq_true rfl) dL_corrects_292 ⟨by show _ ≤ 8; omega, by show _ ≤ 48; omega⟩) ?_
        rintro r1 J1 L1 ⟨er1, hG1, -, eL1⟩
        rw [er1, eL1]
        refine gz_le (tgt := 302) dL_corrects_295 (by decide) (by omega) (fun x1 => ?_) (fun x1 => ?_)
        · skip
          refine g_ic (v := nI 0) dL_corrects_302 (by decide) ?_
          refine g_il 1 dL_corrects_303 rfl ?_
          refine g_pc (pc' := 305) rfl ?_
          refine gn_ne (tgt := 312) dL_corrects_305 (by decide) (by omega) (by omega) (fun h_2 => ?_) (fun h_2 => ?_)
          · skip
            exfalso; omega
          · skip
            refine g_ic (v := nI 1) dL_corrects_308 (by decide) ?_
            refine g_goto (tgt := 313) dL_corrects_309 (by decide) ?_
            exact g_kzret (by omega) (by omega) (show narrow .boolean (.int (nI 1)) = .int (nI 1) from bi_nar true) dL_corrects_313 ⟨rfl, hG1, rfl⟩
        · skip
          refine g_ic (v := nI 1) dL_corrects_298 (by decide) ?_
          refine g_goto (tgt := 303) dL_corrects_299 (by decide) ?_
          refine g_il 1 dL_corrects_303 rfl ?_
          refine gn_ne (tgt := 312) dL_corrects_305 (by decide) (by omega) (by omega) (fun h_3 => ?_) (fun h_3 => ?_)
          · skip
            exfalso; omega
          · skip
            refine g_ic (v := nI 1) dL_corrects_308 (by decide) ?_
            refine g_pc (pc' := 309) rfl ?_
            refine g_goto (tgt := 313) dL_corrects_309 (by decide) ?_
            exact g_kzret (by omega) (by omega) (show narrow .boolean (.int (nI 1)) = .int (nI 1) from bi_nar true) dL_corrects_313 ⟨rfl, hG1, rfl⟩
    have k173 : ∀ (J : IT) (cells slots : Nat), GW J g n r9 q u → cells ≤ 4 → slots ≤ 24 → G E0 l cL_corrects 11 wsL_corrects RL (some .boolean) (rmL 8 8 48) γ P (AE γ) (QKi 8 48 γ P (fun r I' L' => r = nI 1 ∧ GW I' g n r9 q u ∧ L' = L)) cells slots 173 [(0, .ref (γ.2.2 0)), (1, .int (nI w)), (2, .int (nI q)), (4, .int (nI is)), (6, .int (nI 1))] [] J L := by
      intro J cells slots hG0 hc hs
      refine g_il 4 dL_corrects_173 rfl ?_
      refine gz_eq (tgt := 286) dL_corrects_175 (by decide) (by omega) (fun h_1 => ?_) (fun h_1 => ?_)
      · skip
        exfalso; omega
      · skip
        refine g_il_n 2 dL_corrects_178 rfl ?_
        refine gz_le (tgt := 286) dL_corrects_179 (by decide) (by omega) (fun hq0 => ?_) (fun hq0 => ?_)
        · skip
          refine g_sub [0, 3, 4] rfl ?_
          exact k286 J _ _ hG0 (by omega) (by omega)
        · skip
          obtain ⟨p, ep⟩ : ∃ p, p = w % q := ⟨_, rfl⟩
          have hp : p < q := by rw [ep]; exact Nat.mod_lt _ hq0
          have hup : u p < n := (hG.2.2.2 p hp).2
          refine g_il_n 1 dL_corrects_182 rfl ?_
          refine g_il_n 2 dL_corrects_183 rfl ?_
          refine g_irem (v := nI p) dL_corrects_184 (nI_nz (by omega) (by omega)) (by rw [ep]; exact pk_rem (by omega) (by omega) (by omega)) ?_
          refine g_pc (pc' := 185) rfl ?_
          refine g_is (lv' := [(8, .int (nI p)), (0, .ref (γ.2.2 0)), (1, .int (nI w)), (2, .int (nI q)), (4, .int (nI is)), (6, .int (nI 1))]) dL_corrects_185 (by decide) rfl ?_
          refine g_al_n 1 dL_corrects_187 rfl ?_
          refine g_il 0 dL_corrects_188 rfl ?_
          refine g_cl (mc := 1) (ms := 6) (st := []) (As := [.ref (γ.2.2 0), .int (nI p)]) (d := 7) (c_L_spoil l hl0 γ J L P g n r9 q u hG0 p hp) gL_corrects_L_spoil rfl ⟨by decide, by decide, rfl⟩ ⟨Nat.le_of_ble_eq_true rfl, Nat.le_of_ble_eq_true rfl⟩ rfl (Nat.le_of_ble_eq_true rfl) dL_corrects_190 ⟨by show _ ≤ 8; omega, by show _ ≤ 48; omega⟩ ?_
          rintro r1 J1 L1 ⟨er1, hG1, eL1⟩
          rw [er1, eL1]
          rcases spo_cases g r9 u q n p hp hup with es | ⟨hs2, w2, hw2, es, hne, hns, hch⟩
          · rw [es]
            refine g_is (lv' := [(9, .int (-1 : Int32)), (8, .int (nI p)), (0, .ref (γ.2.2 0)), (1, .int (nI w)), (2, .int (nI q)), (4, .int (nI is)), (6, .int (nI 1))]) dL_corrects_193 (by decide) rfl ?_
            refine g_al_n 2 dL_corrects_195 rfl ?_
            refine g_il 1 dL_corrects_196 rfl ?_
            refine g_cl (mc := 1) (ms := 6) (st := []) (As := [.ref (γ.2.2 0), .int (nI p)]) (d := 2) (c_L_at l hl0 γ J1 L P g n r9 q u hG1 p hp) gL_corrects_L_at rfl ⟨by decide, by decide, rfl⟩ ⟨Nat.le_of_ble_eq_true rfl, Nat.le_of_ble_eq_true rfl⟩ rfl (Nat.le_of_ble_eq_true rfl) dL_corrects_198 ⟨by show _ ≤ 8; omega, by show _ ≤ 48; omega⟩ ?_
            rintro r11 J11 L11 ⟨er11, hG11, eL11⟩
            rw [er11, eL11]
            refine g_is (lv' := [(10, .int (nI (u p))), (9, .int (-1 : Int32)), (8, .int (nI p)), (0, .ref (γ.2.2 0)), (1, .int (nI w)), (2, .int (nI q)), (4, .int (nI is)), (6, .int (nI 1))]) dL_corrects_201 (by decide) rfl ?_
            refine g_il 6 dL_corrects_203 rfl ?_
            refine gz_ne (tgt := 214) dL_corrects_205 (by decide) (by omega) (fun x3 => ?_) (fun x3 => ?_)
            · skip
              refine g_pc (pc' := 214) rfl ?_
              refine g_ic (v := nI 1) dL_corrects_214 (by decide) ?_
              refine g_goto (tgt := 219) dL_corrects_215 (by decide) ?_
              refine g_is (lv' := [(6, .int (nI 1)), (10, .int (nI (u p))), (9, .int (-1 : Int32)), (8, .int (nI p)), (0, .ref (γ.2.2 0)), (1, .int (nI w)), (2, .int (nI q)), (4, .int (nI is))]) dL_corrects_219 (by decide) rfl ?_
              refine g_il 2 dL_corrects_221 rfl ?_
              refine g_if_lt (tgt := 286) dL_corrects_223 (by decide) (fun h_1 => ?_) (fun h_1 => ?_)
              · skip
                refine g_sub [4, 7, 0] rfl ?_
                exact k286 J11 _ _ hG11 (by omega) (by omega)
              · skip
                exact absurd (by decide) h_1
            · skip
              refine g_il 1 dL_corrects_208 rfl ?_
              refine g_ic (v := (-1 : Int32)) dL_corrects_210 (by decide) ?_
              refine g_ic_ne (tgt := 218) dL_corrects_211 (by decide) (fun h_2 => ?_) (fun h_2 => ?_)
              · skip
                exact absurd rfl h_2
              · skip
                refine g_pc (pc' := 214) rfl ?_
                refine g_ic (v := nI 1) dL_corrects_214 (by decide) ?_
                refine g_goto (tgt := 219) dL_corrects_215 (by decide) ?_
                refine g_is (lv' := [(6, .int (nI 1)), (10, .int (nI (u p))), (9, .int (-1 : Int32)), (8, .int (nI p)), (0, .ref (γ.2.2 0)), (1, .int (nI w)), (2, .int (nI q)), (4, .int (nI is))]) dL_corrects_219 (by decide) rfl ?_
                refine g_il 2 dL_corrects_221 rfl ?_
                refine g_if_lt (tgt := 286) dL_corrects_223 (by decide) (fun h_3 => ?_) (fun h_3 => ?_)
                · skip
                  refine g_sub [4, 7, 0] rfl ?_
                  exact k286 J11 _ _ hG11 (by omega) (by omega)
                · skip
                  exact absurd (by decide) h_3
          · rw [es]
            have hi9 : is = 1 := hiff.mpr hs2
            refine g_is (lv' := [(9, .int (nI w2)), (8, .int (nI p)), (0, .ref (γ.2.2 0)), (1, .int (nI w)), (2, .int (nI q)), (4, .int (nI is)), (6, .int (nI 1))]) dL_corrects_193 (by decide) rfl ?_
            refine g_al_n 2 dL_corrects_195 rfl ?_
            refine g_il 1 dL_corrects_196 rfl ?_
            refine g_cl (mc := 1) (ms := 6) (st := []) (As := [.ref (γ.2.2 0), .int (nI p)]) (d := 2) (c_L_at l hl0 γ J1 L P g n r9 q u hG1 p hp) gL_corrects_L_at rfl ⟨by decide, by decide, rfl⟩ ⟨Nat.le_of_ble_eq_true rfl, Nat.le_of_ble_eq_true rfl⟩ rfl (Nat.le_of_ble_eq_true rfl) dL_corrects_198 ⟨by show _ ≤ 8; omega, by show _ ≤ 48; omega⟩ ?_
            rintro r21 J21 L21 ⟨er21, hG21, eL21⟩
            rw [er21, eL21]
            refine g_is (lv' := [(10, .int (nI (u p))), (9, .int (nI w2)), (8, .int (nI p)), (0, .ref (γ.2.2 0)), (1, .int (nI w)), (2, .int (nI q)), (4, .int (nI is)), (6, .int (nI 1))]) dL_corrects_201 (by decide) rfl ?_
            refine g_il 6 dL_corrects_203 rfl ?_
            refine gz_ne (tgt := 214) dL_corrects_205 (by decide) (by omega) (fun h_1 => ?_) (fun h_1 => ?_)
            · skip
              refine g_pc (pc' := 214) rfl ?_
              refine g_ic (v := nI 1) dL_corrects_214 (by decide) ?_
              refine g_goto (tgt := 219) dL_corrects_215 (by decide) ?_
              refine g_is (lv' := [(6, .int (nI 1)), (10, .int (nI (u p))), (9, .int (nI w2)), (8, .int (nI p)), (0, .ref (γ.2.2 0)), (1, .int (nI w)), (2, .int (nI q)), (4, .int (nI is))]) dL_corrects_219 (by decide) rfl ?_
              refine g_il 2 dL_corrects_221 rfl ?_
              refine gz_lt (tgt := 286) dL_corrects_223 (by decide) (by omega) (fun h_2 => ?_) (fun h_2 => ?_)
              · skip
                exact h_2.elim
              · skip
                refine g_il 0 dL_corrects_226 rfl ?_
                refine gz_eq (tgt := 283) dL_corrects_228 (by decide) (by omega) (fun h_3 => ?_) (fun h_3 => ?_)
                · skip
                  exfalso; omega
                · skip
                  refine g_il 2 dL_corrects_231 rfl ?_
                  refine g_pc (pc' := 233) rfl ?_
                  refine g_il 1 dL_corrects_233 rfl ?_
                  refine gn_eq (tgt := 283) dL_corrects_235 (by decide) (by omega) (by omega) (fun h_4 => ?_) (fun h_4 => ?_)
                  · skip
                    exfalso; omega
                  · skip
                    refine g_al_n 4 dL_corrects_238 rfl ?_
                    refine g_il 3 dL_corrects_239 rfl ?_
                    refine g_il 2 dL_corrects_241 rfl ?_
                    refine g_cl (mc := 1) (ms := 6) (st := []) (As := [.ref (γ.2.2 0), .int (nI p), .int (nI w2)]) (d := 2) (c_L_change l hl0 γ J21 L P g n r9 q u hG21 p w2 hp hw2) gL_corrects_L_change rfl ⟨by decide, by decide, rfl⟩ ⟨Nat.le_of_ble_eq_true rfl, Nat.le_of_ble_eq_true rfl⟩ rfl (Nat.le_of_ble_eq_true rfl) dL_corrects_243 ⟨by show _ ≤ 8; omega, by show _ ≤ 48; omega⟩ ?_
                    rintro r22 J22 L22 ⟨er22, hG22, eL22⟩
                    rw [er22, eL22]
                    refine g_il 1 dL_corrects_246 rfl ?_
                    refine gn_ne (tgt := 283) dL_corrects_248 (by decide) (by omega) (by omega) (fun h_5 => ?_) (fun h_5 => ?_)
                    · skip
                      exfalso; omega
                    · skip
                      refine g_pc (pc' := 251) rfl ?_
                      refine g_al_n 4 dL_corrects_251 rfl ?_
                      refine g_ci (r_V (st := []) (As := []) (d := 5) 0 (by decide) rfl rfl (c_X4_readings l γ J22 L P g n r9 q (ust u p w2) hG22) gL_corrects_X4_readings rfl ⟨rfl, by decide, by decide, rfl⟩ ⟨Nat.le_of_ble_eq_true rfl, Nat.le_of_ble_eq_true rfl⟩ rfl (Nat.le_of_ble_eq_true rfl) dL_corrects_252 ⟨by show _ ≤ 8; omega, by show _ ≤ 48; omega⟩) ?_
                      rintro r23 J23 L23 ⟨er23, hG23, -, eL23⟩
                      have h0z := rdg_0 hG23.val16 hns
                      rw [er23, h0z, eL23]
                      refine gz_ne (tgt := 283) dL_corrects_255 (by decide) (by omega) (fun h_6 => ?_) (fun h_6 => ?_)
                      · skip
                        exfalso; omega
                      · skip
                        refine g_al_n 4 dL_corrects_258 rfl ?_
                        refine g_ci (r_V (st := []) (As := []) (d := 5) 0 (by decide) rfl rfl (c_X4_changes l γ J23 L P g n r9 q (ust u p w2) hG23) gL_corrects_X4_changes rfl ⟨rfl, by decide, by decide, rfl⟩ ⟨Nat.le_of_ble_eq_true rfl, Nat.le_of_ble_eq_true rfl⟩ rfl (Nat.le_of_ble_eq_true rfl) dL_corrects_259 ⟨by show _ ≤ 8; omega, by show _ ≤ 48; omega⟩) ?_
                        rintro r24 J24 L24 ⟨er24, hG24, -, eL24⟩
                        rw [er24, hch, eL24]
                        refine g_ic (v := nI 1) dL_corrects_262 (by decide) ?_
                        refine gn_ne (tgt := 283) dL_corrects_263 (by decide) (by omega) (by omega) (fun h_7 => ?_) (fun h_7 => ?_)
                        · skip
                          exfalso; omega
                        · skip
                          refine g_al_n 4 dL_corrects_266 rfl ?_
                          refine g_pc (pc' := 267) rfl ?_
                          refine g_il 3 dL_corrects_267 rfl ?_
                          refine g_il 1 dL_corrects_269 rfl ?_
                          refine g_cl (mc := 1) (ms := 6) (st := []) (As := [.ref (γ.2.2 0), .int (nI p), .int (nI (u p))]) (d := 2) (c_L_change l hl0 γ J24 L P g n r9 q (ust u p w2) hG24 p (u p) hp hup) gL_corrects_L_change rfl ⟨by decide, by decide, rfl⟩ ⟨Nat.le_of_ble_eq_true rfl, Nat.le_of_ble_eq_true rfl⟩ rfl (Nat.le_of_ble_eq_true rfl) dL_corrects_271 ⟨by show _ ≤ 8; omega, by show _ ≤ 48; omega⟩ ?_
                          rintro r25 J25 L25 ⟨er25, hG25, eL25⟩
                          rw [ust_back] at hG25
                          rw [er25, ust_s, eL25]
                          refine g_il 2 dL_corrects_274 rfl ?_
                          refine gn_ne (tgt := 283) dL_corrects_276 (by decide) (by omega) (by omega) (fun h_8 => ?_) (fun h_8 => ?_)
                          · skip
                            exfalso; omega
                          · skip
                            refine g_ic (v := nI 1) dL_corrects_279 (by decide) ?_
                            refine g_goto (tgt := 284) dL_corrects_280 (by decide) ?_
                            refine g_is (lv' := [(6, .int (nI 1)), (10, .int (nI (u p))), (9, .int (nI w2)), (8, .int (nI p)), (0, .ref (γ.2.2 0)), (1, .int (nI w)), (2, .int (nI q)), (4, .int (nI is))]) dL_corrects_284 (by decide) rfl ?_
                            refine g_sub [4, 7, 0] rfl ?_
                            exact k286 J25 _ _ hG25 (by omega) (by omega)
            · skip
              exfalso; omega
    intro J cells slots hG0 hc hs
    refine g_al_n 0 dL_corrects_95 rfl ?_
    refine g_il_n 1 dL_corrects_96 rfl ?_
    refine g_ic (v := nI 3) dL_corrects_97 (by decide) ?_
    refine g_irem (v := nI (w % 3)) dL_corrects_98 (by decide) (pk_rem (by omega) (by omega) (by omega)) ?_
    refine g_cl (mc := 1) (ms := 6) (st := []) (As := [.ref (γ.2.2 0), .int (nI (w % 3))]) (d := 7) (c_L_correction l hl0 γ J L P g n r9 q u hG0 (w % 3) (by omega)) gL_corrects_L_correction rfl ⟨by decide, by decide, rfl⟩ ⟨Nat.le_of_ble_eq_true rfl, Nat.le_of_ble_eq_true rfl⟩ rfl (Nat.le_of_ble_eq_true rfl) dL_corrects_99 ⟨by show _ ≤ 8; omega, by show _ ≤ 48; omega⟩ ?_
    rintro r1 J1 L1 ⟨er1, hG1, eL1⟩
    rw [er1, eL1]
    rcases cor_cases g r9 u q n (w % 3) with ec | ⟨p, w1, hp, hw1, ec, hne, hsn⟩
    · rw [ec]
      refine g_is (lv' := [(7, .int (-1 : Int32)), (0, .ref (γ.2.2 0)), (1, .int (nI w)), (2, .int (nI q)), (4, .int (nI is)), (6, .int (nI 1))]) dL_corrects_102 (by decide) rfl ?_
      refine g_il 5 dL_corrects_104 rfl ?_
      refine gz_eq (tgt := 173) dL_corrects_106 (by decide) (by omega) (fun h_1 => ?_) (fun h_1 => ?_)
      · skip
        exfalso; omega
      · skip
        refine g_il 0 dL_corrects_109 rfl ?_
        refine g_if_lt (tgt := 173) dL_corrects_111 (by decide) (fun h_2 => ?_) (fun h_2 => ?_)
        · skip
          refine g_sub [1, 2, 3, 4, 5] rfl ?_
          exact k173 J1 _ _ hG1 (by omega) (by omega)
        · skip
          exact absurd (by decide) h_2
    · rw [ec]
      have hup : u p < n := (hG.2.2.2 p hp).2
      refine g_is (lv' := [(7, .int (nI (10 * p + w1))), (0, .ref (γ.2.2 0)), (1, .int (nI w)), (2, .int (nI q)), (4, .int (nI is)), (6, .int (nI 1))]) dL_corrects_102 (by decide) rfl ?_
      refine g_il 5 dL_corrects_104 rfl ?_
      refine gz_eq (tgt := 173) dL_corrects_106 (by decide) (by omega) (fun h_1 => ?_) (fun h_1 => ?_)
      · skip
        exfalso; omega
      · skip
        refine g_il 0 dL_corrects_109 rfl ?_
        refine gz_lt (tgt := 173) dL_corrects_111 (by decide) (by omega) (fun h_2 => ?_) (fun h_2 => ?_)
        · skip
          exact h_2.elim
        · skip
          refine g_al_n 1 dL_corrects_114 rfl ?_
          refine g_il 0 dL_corrects_115 rfl ?_
          refine g_pc (pc' := 117) rfl ?_
          refine g_bi (v := nI 10) dL_corrects_117 (by decide) ?_
          refine g_idiv (v := nI p) dL_corrects_119 (by decide) ((pk_div (by omega) (by omega) (by omega)).trans (congrArg nI (by omega))) ?_
          refine g_il 0 dL_corrects_120 rfl ?_
          refine g_bi (v := nI 10) dL_corrects_122 (by decide) ?_
          refine g_irem (v := nI w1) dL_corrects_124 (by decide) ((pk_rem (by omega) (by omega) (by omega)).trans (congrArg nI (by omega))) ?_
          refine g_cl (mc := 1) (ms := 6) (st := []) (As := [.ref (γ.2.2 0), .int (nI p), .int (nI w1)]) (d := 2) (c_L_change l hl0 γ J1 L P g n r9 q u hG1 p w1 hp hw1) gL_corrects_L_change rfl ⟨by decide, by decide, rfl⟩ ⟨Nat.le_of_ble_eq_true rfl, Nat.le_of_ble_eq_true rfl⟩ rfl (Nat.le_of_ble_eq_true rfl) dL_corrects_125 ⟨by show _ ≤ 8; omega, by show _ ≤ 48; omega⟩ ?_
          rintro r41 J41 L41 ⟨er41, hG41, eL41⟩
          rw [er41, eL41]
          refine g_is (lv' := [(8, .int (nI (u p))), (7, .int (nI (10 * p + w1))), (0, .ref (γ.2.2 0)), (1, .int (nI w)), (2, .int (nI q)), (4, .int (nI is)), (6, .int (nI 1))]) dL_corrects_128 (by decide) rfl ?_
          refine g_il 0 dL_corrects_130 rfl ?_
          refine g_pc (pc' := 132) rfl ?_
          refine g_il 1 dL_corrects_132 rfl ?_
          refine g_bi (v := nI 10) dL_corrects_134 (by decide) ?_
          refine g_irem (v := nI w1) dL_corrects_136 (by decide) ((pk_rem (by omega) (by omega) (by omega)).trans (congrArg nI (by omega))) ?_
          refine gn_eq (tgt := 170) dL_corrects_137 (by decide) (by omega) (by omega) (fun h_3 => ?_) (fun h_3 => ?_)
          · skip
            exfalso; omega
          · skip
            refine g_al_n 2 dL_corrects_140 rfl ?_
            refine g_ci (r_V (st := []) (As := []) (d := 5) 0 (by decide) rfl rfl (c_X4_readings l γ J41 L P g n r9 q (ust u p w1) hG41) gL_corrects_X4_readings rfl ⟨rfl, by decide, by decide, rfl⟩ ⟨Nat.le_of_ble_eq_true rfl, Nat.le_of_ble_eq_true rfl⟩ rfl (Nat.le_of_ble_eq_true rfl) dL_corrects_141 ⟨by show _ ≤ 8; omega, by show _ ≤ 48; omega⟩) ?_
            rintro r42 J42 L42 ⟨er42, hG42, -, eL42⟩
            have hRz := (rdg_pos (r := r9) hG42.val16).mpr hsn
            have hRy := rdg_le g r9 (ust u p w1) q
            rw [er42, eL42]
            refine gz_le (tgt := 170) dL_corrects_144 (by decide) (by omega) (fun h_4 => ?_) (fun h_4 => ?_)
            · skip
              exfalso; omega
            · skip
              refine g_al_n 2 dL_corrects_147 rfl ?_
              refine g_pc (pc' := 148) rfl ?_
              refine g_il 1 dL_corrects_148 rfl ?_
              refine g_bi (v := nI 10) dL_corrects_150 (by decide) ?_
              refine g_idiv (v := nI p) dL_corrects_152 (by decide) ((pk_div (by omega) (by omega) (by omega)).trans (congrArg nI (by omega))) ?_
              refine g_il 0 dL_corrects_153 rfl ?_
              refine g_cl (mc := 1) (ms := 6) (st := []) (As := [.ref (γ.2.2 0), .int (nI p), .int (nI (u p))]) (d := 2) (c_L_change l hl0 γ J42 L P g n r9 q (ust u p w1) hG42 p (u p) hp hup) gL_corrects_L_change rfl ⟨by decide, by decide, rfl⟩ ⟨Nat.le_of_ble_eq_true rfl, Nat.le_of_ble_eq_true rfl⟩ rfl (Nat.le_of_ble_eq_true rfl) dL_corrects_155 ⟨by show _ ≤ 8; omega, by show _ ≤ 48; omega⟩ ?_
              rintro r43 J43 L43 ⟨er43, hG43, eL43⟩
              rw [ust_back] at hG43
              rw [er43, ust_s, eL43]
              refine g_il 1 dL_corrects_158 rfl ?_
              refine g_bi (v := nI 10) dL_corrects_160 (by decide) ?_
              refine g_irem (v := nI w1) dL_corrects_162 (by decide) ((pk_rem (by omega) (by omega) (by omega)).trans (congrArg nI (by omega))) ?_
              refine g_pc (pc' := 163) rfl ?_
              refine gn_ne (tgt := 170) dL_corrects_163 (by decide) (by omega) (by omega) (fun h_5 => ?_) (fun h_5 => ?_)
              · skip
                exfalso; omega
              · skip
                refine g_ic (v := nI 1) dL_corrects_166 (by decide) ?_
                refine g_goto (tgt := 171) dL_corrects_167 (by decide) ?_
                refine g_is (lv' := [(6, .int (nI 1)), (8, .int (nI (u p))), (7, .int (nI (10 * p + w1))), (0, .ref (γ.2.2 0)), (1, .int (nI w)), (2, .int (nI q)), (4, .int (nI is))]) dL_corrects_171 (by decide) rfl ?_
                refine g_sub [3, 4, 5, 6, 0] rfl ?_
                exact k173 J43 _ _ hG43 (by omega) (by omega)
  refine g_al_n 0 dL_corrects_0 rfl ?_
  refine g_ci (r_V (st := []) (As := []) (d := 0) 0 (by decide) rfl rfl (c_X4_said l γ I L P g n r9 q u hG) gL_corrects_X4_said rfl ⟨rfl, by decide, by decide, rfl⟩ ⟨Nat.le_of_ble_eq_true rfl, Nat.le_of_ble_eq_true rfl⟩ rfl (Nat.le_of_ble_eq_true rfl) dL_corrects_1 ⟨by show _ ≤ 8; omega, by show _ ≤ 48; omega⟩) ?_
  rintro r1 J1 L1 ⟨er1, hG1, -, eL1⟩
  rw [er1, eL1]
  refine g_is_n (lv' := [(2, .int (nI q)), (0, .ref (γ.2.2 0)), (1, .int (nI w))]) dL_corrects_4 (by decide) rfl ?_
  refine g_al_n 1 dL_corrects_5 rfl ?_
  refine g_ci (r_V (st := []) (As := []) (d := 5) 0 (by decide) rfl rfl (c_X4_changes l γ J1 L P g n r9 q u hG1) gL_corrects_X4_changes rfl ⟨rfl, by decide, by decide, rfl⟩ ⟨Nat.le_of_ble_eq_true rfl, Nat.le_of_ble_eq_true rfl⟩ rfl (Nat.le_of_ble_eq_true rfl) dL_corrects_6 ⟨by show _ ≤ 8; omega, by show _ ≤ 48; omega⟩) ?_
  rintro r2 J2 L2 ⟨er2, hG2, -, eL2⟩
  rw [er2, eL2]
  have hR := rdg_le g r9 u q
  by_cases hs : isS g r9 u q = true
  · rw [chg_is hs]
    have hR0 : 0 < rdg g r9 u q := (rdg_pos hG.val16).mpr hs
    have hq0 : 0 < q := (isS_iff.mp hs).1
    refine g_is_n (lv' := [(3, .int (nI 0)), (2, .int (nI q)), (0, .ref (γ.2.2 0)), (1, .int (nI w))]) dL_corrects_9 (by decide) rfl ?_
    refine g_al_n 2 dL_corrects_10 rfl ?_
    refine g_ci (r_V (st := []) (As := []) (d := 5) 0 (by decide) rfl rfl (c_X4_readings l γ J2 L P g n r9 q u hG2) gL_corrects_X4_readings rfl ⟨rfl, by decide, by decide, rfl⟩ ⟨Nat.le_of_ble_eq_true rfl, Nat.le_of_ble_eq_true rfl⟩ rfl (Nat.le_of_ble_eq_true rfl) dL_corrects_11 ⟨by show _ ≤ 8; omega, by show _ ≤ 48; omega⟩) ?_
    rintro r11 J11 L11 ⟨er11, hG11, -, eL11⟩
    rw [er11, eL11]
    refine gz_le (tgt := 21) dL_corrects_14 (by decide) (by omega) (fun h_1 => ?_) (fun h_1 => ?_)
    · skip
      exfalso; omega
    · skip
      refine g_ic (v := nI 1) dL_corrects_17 (by decide) ?_
      refine g_goto (tgt := 22) dL_corrects_18 (by decide) ?_
      refine g_is (lv' := [(4, .int (nI 1)), (3, .int (nI 0)), (2, .int (nI q)), (0, .ref (γ.2.2 0)), (1, .int (nI w))]) dL_corrects_22 (by decide) rfl ?_
      refine g_pc (pc' := 24) rfl ?_
      refine g_al_n 3 dL_corrects_24 rfl ?_
      refine g_ic (v := nI 0) dL_corrects_25 (by decide) ?_
      refine g_cl (mc := 1) (ms := 6) (st := []) (As := [.ref (γ.2.2 0), .int (nI 0)]) (d := 7) (c_L_correction l hl0 γ J11 L P g n r9 q u hG11 0 (by decide)) gL_corrects_L_correction rfl ⟨by decide, by decide, rfl⟩ ⟨Nat.le_of_ble_eq_true rfl, Nat.le_of_ble_eq_true rfl⟩ rfl (Nat.le_of_ble_eq_true rfl) dL_corrects_26 ⟨by show _ ≤ 8; omega, by show _ ≤ 48; omega⟩ ?_
      rintro r12 J12 L12 ⟨er12, hG12, eL12⟩
      rw [er12, eL12]
      refine g_is (lv' := [(5, .int (cor g r9 u q n 0)), (4, .int (nI 1)), (3, .int (nI 0)), (2, .int (nI q)), (0, .ref (γ.2.2 0)), (1, .int (nI w))]) dL_corrects_29 (by decide) rfl ?_
      refine g_il_n 2 dL_corrects_31 rfl ?_
      refine gz_ne (tgt := 39) dL_corrects_32 (by decide) (by omega) (fun h_2 => ?_) (fun h_2 => ?_)
      · skip
        exfalso; omega
      · skip
        refine g_ic (v := nI 1) dL_corrects_35 (by decide) ?_
        refine g_goto (tgt := 40) dL_corrects_36 (by decide) ?_
        refine g_pc (pc' := 40) rfl ?_
        refine g_il 1 dL_corrects_40 rfl ?_
        refine gn_ne (tgt := 92) dL_corrects_42 (by decide) (by omega) (by omega) (fun h_3 => ?_) (fun h_3 => ?_)
        · skip
          exfalso; omega
        · skip
          refine g_il 1 dL_corrects_45 rfl ?_
          refine gz_ne (tgt := 73) dL_corrects_47 (by decide) (by omega) (fun h_4 => ?_) (fun h_4 => ?_)
          · skip
            refine g_il_n 3 dL_corrects_73 rfl ?_
            refine gz_gt (tgt := 88) dL_corrects_74 (by decide) (by omega) (fun h_5 => ?_) (fun h_5 => ?_)
            · skip
              refine g_ic (v := nI 1) dL_corrects_88 (by decide) ?_
              refine g_goto (tgt := 93) dL_corrects_89 (by decide) ?_
              refine g_pc (pc' := 93) rfl ?_
              refine g_is (lv' := [(6, .int (nI 1)), (5, .int (cor g r9 u q n 0)), (4, .int (nI 1)), (3, .int (nI 0)), (2, .int (nI q)), (0, .ref (γ.2.2 0)), (1, .int (nI w))]) dL_corrects_93 (by decide) rfl ?_
              refine g_sub [5, 6, 4, 2, 0] rfl ?_
              exact k95 1 (by decide) (by constructor <;> intro h9 <;> first | exact hs | rfl | exact absurd h9 (by decide) | exact absurd h9 hs) J12 _ _ hG12 (by omega) (by omega)
            · skip
              exfalso; omega
          · skip
            exfalso; omega
  · have hsf : isS g r9 u q = false := Bool.eq_false_iff.mpr hs
    have hR0 : rdg g r9 u q = 0 := rdg_0 hG.val16 hsf
    rcases chg_cases g r9 u q n hsf ⟨hq6, hn9⟩ with ⟨ech, hq0, m0, hm0, hc0⟩ | ⟨ech | ech, hc0, hqz⟩
    · rw [ech]
      refine g_is_n (lv' := [(3, .int (nI 1)), (2, .int (nI q)), (0, .ref (γ.2.2 0)), (1, .int (nI w))]) dL_corrects_9 (by decide) rfl ?_
      refine g_al_n 2 dL_corrects_10 rfl ?_
      refine g_ci (r_V (st := []) (As := []) (d := 5) 0 (by decide) rfl rfl (c_X4_readings l γ J2 L P g n r9 q u hG2) gL_corrects_X4_readings rfl ⟨rfl, by decide, by decide, rfl⟩ ⟨Nat.le_of_ble_eq_true rfl, Nat.le_of_ble_eq_true rfl⟩ rfl (Nat.le_of_ble_eq_true rfl) dL_corrects_11 ⟨by show _ ≤ 8; omega, by show _ ≤ 48; omega⟩) ?_
      rintro r21 J21 L21 ⟨er21, hG21, -, eL21⟩
      rw [er21, eL21]
      refine gz_le (tgt := 21) dL_corrects_14 (by decide) (by omega) (fun h_1 => ?_) (fun h_1 => ?_)
      · skip
        refine g_ic (v := nI 0) dL_corrects_21 (by decide) ?_
        refine g_is (lv' := [(4, .int (nI 0)), (3, .int (nI 1)), (2, .int (nI q)), (0, .ref (γ.2.2 0)), (1, .int (nI w))]) dL_corrects_22 (by decide) rfl ?_
        refine g_al_n 3 dL_corrects_24 rfl ?_
        refine g_pc (pc' := 25) rfl ?_
        refine g_ic (v := nI 0) dL_corrects_25 (by decide) ?_
        refine g_cl (mc := 1) (ms := 6) (st := []) (As := [.ref (γ.2.2 0), .int (nI 0)]) (d := 7) (c_L_correction l hl0 γ J21 L P g n r9 q u hG21 0 (by decide)) gL_corrects_L_correction rfl ⟨by decide, by decide, rfl⟩ ⟨Nat.le_of_ble_eq_true rfl, Nat.le_of_ble_eq_true rfl⟩ rfl (Nat.le_of_ble_eq_true rfl) dL_corrects_26 ⟨by show _ ≤ 8; omega, by show _ ≤ 48; omega⟩ ?_
        rintro r22 J22 L22 ⟨er22, hG22, eL22⟩
        rw [er22, hc0, eL22]
        refine g_is (lv' := [(5, .int (nI m0)), (4, .int (nI 0)), (3, .int (nI 1)), (2, .int (nI q)), (0, .ref (γ.2.2 0)), (1, .int (nI w))]) dL_corrects_29 (by decide) rfl ?_
        refine g_il_n 2 dL_corrects_31 rfl ?_
        refine gz_ne (tgt := 39) dL_corrects_32 (by decide) (by omega) (fun h_2 => ?_) (fun h_2 => ?_)
        · skip
          refine g_ic (v := nI 0) dL_corrects_39 (by decide) ?_
          refine g_il 1 dL_corrects_40 rfl ?_
          refine gn_ne (tgt := 92) dL_corrects_42 (by decide) (by omega) (by omega) (fun h_3 => ?_) (fun h_3 => ?_)
          · skip
            exfalso; omega
          · skip
            refine g_pc (pc' := 45) rfl ?_
            refine g_il 1 dL_corrects_45 rfl ?_
            refine gz_ne (tgt := 73) dL_corrects_47 (by decide) (by omega) (fun h_4 => ?_) (fun h_4 => ?_)
            · skip
              exfalso; omega
            · skip
              refine g_il_n 2 dL_corrects_50 rfl ?_
              refine g_ic (v := nI 1) dL_corrects_51 (by decide) ?_
              refine gn_ne (tgt := 59) dL_corrects_52 (by decide) (by omega) (by omega) (fun h_5 => ?_) (fun h_5 => ?_)
              · skip
                exfalso; omega
              · skip
                refine g_ic (v := nI 1) dL_corrects_55 (by decide) ?_
                refine g_goto (tgt := 60) dL_corrects_56 (by decide) ?_
                refine g_il 0 dL_corrects_60 rfl ?_
                refine g_pc (pc' := 62) rfl ?_
                refine gz_lt (tgt := 69) dL_corrects_62 (by decide) (by omega) (fun h_6 => ?_) (fun h_6 => ?_)
                · skip
                  exact h_6.elim
                · skip
                  refine g_ic (v := nI 1) dL_corrects_65 (by decide) ?_
                  refine g_goto (tgt := 70) dL_corrects_66 (by decide) ?_
                  refine gn_ne (tgt := 92) dL_corrects_70 (by decide) (by omega) (by omega) (fun h_7 => ?_) (fun h_7 => ?_)
                  · skip
                    exfalso; omega
                  · skip
                    refine g_il_n 3 dL_corrects_73 rfl ?_
                    refine gz_gt (tgt := 88) dL_corrects_74 (by decide) (by omega) (fun h_8 => ?_) (fun h_8 => ?_)
                    · skip
                      refine g_ic (v := nI 1) dL_corrects_88 (by decide) ?_
                      refine g_goto (tgt := 93) dL_corrects_89 (by decide) ?_
                      refine g_pc (pc' := 93) rfl ?_
                      refine g_is (lv' := [(6, .int (nI 1)), (5, .int (nI m0)), (4, .int (nI 0)), (3, .int (nI 1)), (2, .int (nI q)), (0, .ref (γ.2.2 0)), (1, .int (nI w))]) dL_corrects_93 (by decide) rfl ?_
                      refine g_sub [5, 6, 4, 2, 0] rfl ?_
                      exact k95 0 (by decide) (by constructor <;> intro h9 <;> first | exact hs | rfl | exact absurd h9 (by decide) | exact absurd h9 hs) J22 _ _ hG22 (by omega) (by omega)
                    · skip
                      exfalso; omega
        · skip
          exfalso; omega
      · skip
        exfalso; omega
    · rw [ech]
      have hq0 : 0 < q := Nat.pos_of_ne_zero (fun h0 => absurd (ech.symm.trans (hqz h0)) (by decide))
      refine g_is_n (lv' := [(3, .int (nI 2)), (2, .int (nI q)), (0, .ref (γ.2.2 0)), (1, .int (nI w))]) dL_corrects_9 (by decide) rfl ?_
      refine g_al_n 2 dL_corrects_10 rfl ?_
      refine g_ci (r_V (st := []) (As := []) (d := 5) 0 (by decide) rfl rfl (c_X4_readings l γ J2 L P g n r9 q u hG2) gL_corrects_X4_readings rfl ⟨rfl, by decide, by decide, rfl⟩ ⟨Nat.le_of_ble_eq_true rfl, Nat.le_of_ble_eq_true rfl⟩ rfl (Nat.le_of_ble_eq_true rfl) dL_corrects_11 ⟨by show _ ≤ 8; omega, by show _ ≤ 48; omega⟩) ?_
      rintro r31 J31 L31 ⟨er31, hG31, -, eL31⟩
      rw [er31, eL31]
      refine gz_le (tgt := 21) dL_corrects_14 (by decide) (by omega) (fun h_1 => ?_) (fun h_1 => ?_)
      · skip
        refine g_ic (v := nI 0) dL_corrects_21 (by decide) ?_
        refine g_is (lv' := [(4, .int (nI 0)), (3, .int (nI 2)), (2, .int (nI q)), (0, .ref (γ.2.2 0)), (1, .int (nI w))]) dL_corrects_22 (by decide) rfl ?_
        refine g_al_n 3 dL_corrects_24 rfl ?_
        refine g_pc (pc' := 25) rfl ?_
        refine g_ic (v := nI 0) dL_corrects_25 (by decide) ?_
        refine g_cl (mc := 1) (ms := 6) (st := []) (As := [.ref (γ.2.2 0), .int (nI 0)]) (d := 7) (c_L_correction l hl0 γ J31 L P g n r9 q u hG31 0 (by decide)) gL_corrects_L_correction rfl ⟨by decide, by decide, rfl⟩ ⟨Nat.le_of_ble_eq_true rfl, Nat.le_of_ble_eq_true rfl⟩ rfl (Nat.le_of_ble_eq_true rfl) dL_corrects_26 ⟨by show _ ≤ 8; omega, by show _ ≤ 48; omega⟩ ?_
        rintro r32 J32 L32 ⟨er32, hG32, eL32⟩
        rw [er32, hc0, eL32]
        refine g_is (lv' := [(5, .int (-1 : Int32)), (4, .int (nI 0)), (3, .int (nI 2)), (2, .int (nI q)), (0, .ref (γ.2.2 0)), (1, .int (nI w))]) dL_corrects_29 (by decide) rfl ?_
        refine g_il_n 2 dL_corrects_31 rfl ?_
        refine gz_ne (tgt := 39) dL_corrects_32 (by decide) (by omega) (fun h_2 => ?_) (fun h_2 => ?_)
        · skip
          refine g_ic (v := nI 0) dL_corrects_39 (by decide) ?_
          refine g_il 1 dL_corrects_40 rfl ?_
          refine gn_ne (tgt := 92) dL_corrects_42 (by decide) (by omega) (by omega) (fun h_3 => ?_) (fun h_3 => ?_)
          · skip
            exfalso; omega
          · skip
            refine g_pc (pc' := 45) rfl ?_
            refine g_il 1 dL_corrects_45 rfl ?_
            refine gz_ne (tgt := 73) dL_corrects_47 (by decide) (by omega) (fun h_4 => ?_) (fun h_4 => ?_)
            · skip
              exfalso; omega
            · skip
              refine g_il_n 2 dL_corrects_50 rfl ?_
              refine g_ic (v := nI 1) dL_corrects_51 (by decide) ?_
              refine gn_ne (tgt := 59) dL_corrects_52 (by decide) (by omega) (by omega) (fun h_5 => ?_) (fun h_5 => ?_)
              · skip
                refine g_ic (v := nI 0) dL_corrects_59 (by decide) ?_
                refine g_il 0 dL_corrects_60 rfl ?_
                refine g_if_lt (tgt := 69) dL_corrects_62 (by decide) (fun h_6 => ?_) (fun h_6 => ?_)
                · skip
                  refine g_pc (pc' := 69) rfl ?_
                  refine g_ic (v := nI 0) dL_corrects_69 (by decide) ?_
                  refine gn_ne (tgt := 92) dL_corrects_70 (by decide) (by omega) (by omega) (fun h_7 => ?_) (fun h_7 => ?_)
                  · skip
                    exfalso; omega
                  · skip
                    refine g_il_n 3 dL_corrects_73 rfl ?_
                    refine gz_gt (tgt := 88) dL_corrects_74 (by decide) (by omega) (fun h_8 => ?_) (fun h_8 => ?_)
                    · skip
                      refine g_ic (v := nI 1) dL_corrects_88 (by decide) ?_
                      refine g_goto (tgt := 93) dL_corrects_89 (by decide) ?_
                      refine g_is (lv' := [(6, .int (nI 1)), (5, .int (-1 : Int32)), (4, .int (nI 0)), (3, .int (nI 2)), (2, .int (nI q)), (0, .ref (γ.2.2 0)), (1, .int (nI w))]) dL_corrects_93 (by decide) rfl ?_
                      refine g_sub [5, 6, 4, 2, 0] rfl ?_
                      exact k95 0 (by decide) (by constructor <;> intro h9 <;> first | exact hs | rfl | exact absurd h9 (by decide) | exact absurd h9 hs) J32 _ _ hG32 (by omega) (by omega)
                    · skip
                      exfalso; omega
                · skip
                  exact absurd (by decide) h_6
              · skip
                exfalso; omega
        · skip
          exfalso; omega
      · skip
        exfalso; omega
    · rw [ech]
      rcases Nat.eq_zero_or_pos q with hq0 | hq0
      · skip
        refine g_is_n (lv' := [(3, .int (-1 : Int32)), (2, .int (nI q)), (0, .ref (γ.2.2 0)), (1, .int (nI w))]) dL_corrects_9 (by decide) rfl ?_
        refine g_al_n 2 dL_corrects_10 rfl ?_
        refine g_ci (r_V (st := []) (As := []) (d := 5) 0 (by decide) rfl rfl (c_X4_readings l γ J2 L P g n r9 q u hG2) gL_corrects_X4_readings rfl ⟨rfl, by decide, by decide, rfl⟩ ⟨Nat.le_of_ble_eq_true rfl, Nat.le_of_ble_eq_true rfl⟩ rfl (Nat.le_of_ble_eq_true rfl) dL_corrects_11 ⟨by show _ ≤ 8; omega, by show _ ≤ 48; omega⟩) ?_
        rintro r41 J41 L41 ⟨er41, hG41, -, eL41⟩
        rw [er41, eL41]
        refine gz_le (tgt := 21) dL_corrects_14 (by decide) (by omega) (fun h_1 => ?_) (fun h_1 => ?_)
        · skip
          refine g_ic (v := nI 0) dL_corrects_21 (by decide) ?_
          refine g_is (lv' := [(4, .int (nI 0)), (3, .int (-1 : Int32)), (2, .int (nI q)), (0, .ref (γ.2.2 0)), (1, .int (nI w))]) dL_corrects_22 (by decide) rfl ?_
          refine g_al_n 3 dL_corrects_24 rfl ?_
          refine g_pc (pc' := 25) rfl ?_
          refine g_ic (v := nI 0) dL_corrects_25 (by decide) ?_
          refine g_cl (mc := 1) (ms := 6) (st := []) (As := [.ref (γ.2.2 0), .int (nI 0)]) (d := 7) (c_L_correction l hl0 γ J41 L P g n r9 q u hG41 0 (by decide)) gL_corrects_L_correction rfl ⟨by decide, by decide, rfl⟩ ⟨Nat.le_of_ble_eq_true rfl, Nat.le_of_ble_eq_true rfl⟩ rfl (Nat.le_of_ble_eq_true rfl) dL_corrects_26 ⟨by show _ ≤ 8; omega, by show _ ≤ 48; omega⟩ ?_
          rintro r42 J42 L42 ⟨er42, hG42, eL42⟩
          rw [er42, hc0, eL42]
          refine g_is (lv' := [(5, .int (-1 : Int32)), (4, .int (nI 0)), (3, .int (-1 : Int32)), (2, .int (nI q)), (0, .ref (γ.2.2 0)), (1, .int (nI w))]) dL_corrects_29 (by decide) rfl ?_
          refine g_il_n 2 dL_corrects_31 rfl ?_
          refine g_if_ne (tgt := 39) dL_corrects_32 (by decide) (fun h_2 => ?_) (fun h_2 => ?_)
          · skip
            refine g_ic (v := nI 0) dL_corrects_39 (by decide) ?_
            refine g_il 1 dL_corrects_40 rfl ?_
            refine gn_ne (tgt := 92) dL_corrects_42 (by decide) (by omega) (by omega) (fun h_3 => ?_) (fun h_3 => ?_)
            · skip
              exfalso; omega
            · skip
              refine g_pc (pc' := 45) rfl ?_
              refine g_il 1 dL_corrects_45 rfl ?_
              refine gz_ne (tgt := 73) dL_corrects_47 (by decide) (by omega) (fun h_4 => ?_) (fun h_4 => ?_)
              · skip
                exfalso; omega
              · skip
                refine g_il_n 2 dL_corrects_50 rfl ?_
                refine g_ic (v := nI 1) dL_corrects_51 (by decide) ?_
                refine g_ic_ne (tgt := 59) dL_corrects_52 (by decide) (fun h_5 => ?_) (fun h_5 => ?_)
                · skip
                  refine g_ic (v := nI 0) dL_corrects_59 (by decide) ?_
                  refine g_il 0 dL_corrects_60 rfl ?_
                  refine g_if_lt (tgt := 69) dL_corrects_62 (by decide) (fun h_6 => ?_) (fun h_6 => ?_)
                  · skip
                    refine g_pc (pc' := 69) rfl ?_
                    refine g_ic (v := nI 0) dL_corrects_69 (by decide) ?_
                    refine gn_ne (tgt := 92) dL_corrects_70 (by decide) (by omega) (by omega) (fun h_7 => ?_) (fun h_7 => ?_)
                    · skip
                      exfalso; omega
                    · skip
                      refine g_il_n 3 dL_corrects_73 rfl ?_
                      refine gz_gt (tgt := 88) dL_corrects_74 (by decide) (by omega) (fun h_8 => ?_) (fun h_8 => ?_)
                      · skip
                        exfalso; omega
                      · skip
                        refine g_il 0 dL_corrects_77 rfl ?_
                        refine g_ic (v := (-1 : Int32)) dL_corrects_79 (by decide) ?_
                        refine g_ic_ne (tgt := 92) dL_corrects_80 (by decide) (fun h_9 => ?_) (fun h_9 => ?_)
                        · skip
                          exact absurd rfl h_9
                        · skip
                          refine g_il_n 2 dL_corrects_83 rfl ?_
                          refine g_pc (pc' := 84) rfl ?_
                          refine g_ic (v := (-1 : Int32)) dL_corrects_84 (by decide) ?_
                          refine g_ic_ne (tgt := 92) dL_corrects_85 (by decide) (fun h_10 => ?_) (fun h_10 => ?_)
                          · skip
                            exact absurd rfl h_10
                          · skip
                            refine g_ic (v := nI 1) dL_corrects_88 (by decide) ?_
                            refine g_goto (tgt := 93) dL_corrects_89 (by decide) ?_
                            refine g_is (lv' := [(6, .int (nI 1)), (5, .int (-1 : Int32)), (4, .int (nI 0)), (3, .int (-1 : Int32)), (2, .int (nI q)), (0, .ref (γ.2.2 0)), (1, .int (nI w))]) dL_corrects_93 (by decide) rfl ?_
                            refine g_sub [5, 6, 4, 2, 0] rfl ?_
                            exact k95 0 (by decide) (by constructor <;> intro h9 <;> first | exact hs | rfl | exact absurd h9 (by decide) | exact absurd h9 hs) J42 _ _ hG42 (by omega) (by omega)
                  · skip
                    exact absurd (by decide) h_6
                · skip
                  exact absurd h_5 (by decide)
          · skip
            exact absurd h_2 (by decide)
        · skip
          exfalso; omega
      · skip
        refine g_is_n (lv' := [(3, .int (-1 : Int32)), (2, .int (nI q)), (0, .ref (γ.2.2 0)), (1, .int (nI w))]) dL_corrects_9 (by decide) rfl ?_
        refine g_al_n 2 dL_corrects_10 rfl ?_
        refine g_ci (r_V (st := []) (As := []) (d := 5) 0 (by decide) rfl rfl (c_X4_readings l γ J2 L P g n r9 q u hG2) gL_corrects_X4_readings rfl ⟨rfl, by decide, by decide, rfl⟩ ⟨Nat.le_of_ble_eq_true rfl, Nat.le_of_ble_eq_true rfl⟩ rfl (Nat.le_of_ble_eq_true rfl) dL_corrects_11 ⟨by show _ ≤ 8; omega, by show _ ≤ 48; omega⟩) ?_
        rintro r51 J51 L51 ⟨er51, hG51, -, eL51⟩
        rw [er51, eL51]
        refine gz_le (tgt := 21) dL_corrects_14 (by decide) (by omega) (fun h_1 => ?_) (fun h_1 => ?_)
        · skip
          refine g_ic (v := nI 0) dL_corrects_21 (by decide) ?_
          refine g_is (lv' := [(4, .int (nI 0)), (3, .int (-1 : Int32)), (2, .int (nI q)), (0, .ref (γ.2.2 0)), (1, .int (nI w))]) dL_corrects_22 (by decide) rfl ?_
          refine g_al_n 3 dL_corrects_24 rfl ?_
          refine g_pc (pc' := 25) rfl ?_
          refine g_ic (v := nI 0) dL_corrects_25 (by decide) ?_
          refine g_cl (mc := 1) (ms := 6) (st := []) (As := [.ref (γ.2.2 0), .int (nI 0)]) (d := 7) (c_L_correction l hl0 γ J51 L P g n r9 q u hG51 0 (by decide)) gL_corrects_L_correction rfl ⟨by decide, by decide, rfl⟩ ⟨Nat.le_of_ble_eq_true rfl, Nat.le_of_ble_eq_true rfl⟩ rfl (Nat.le_of_ble_eq_true rfl) dL_corrects_26 ⟨by show _ ≤ 8; omega, by show _ ≤ 48; omega⟩ ?_
          rintro r52 J52 L52 ⟨er52, hG52, eL52⟩
          rw [er52, hc0, eL52]
          refine g_is (lv' := [(5, .int (-1 : Int32)), (4, .int (nI 0)), (3, .int (-1 : Int32)), (2, .int (nI q)), (0, .ref (γ.2.2 0)), (1, .int (nI w))]) dL_corrects_29 (by decide) rfl ?_
          refine g_il_n 2 dL_corrects_31 rfl ?_
          refine g_if_ne (tgt := 39) dL_corrects_32 (by decide) (fun h_2 => ?_) (fun h_2 => ?_)
          · skip
            refine g_ic (v := nI 0) dL_corrects_39 (by decide) ?_
            refine g_il 1 dL_corrects_40 rfl ?_
            refine gn_ne (tgt := 92) dL_corrects_42 (by decide) (by omega) (by omega) (fun h_3 => ?_) (fun h_3 => ?_)
            · skip
              exfalso; omega
            · skip
              refine g_pc (pc' := 45) rfl ?_
              refine g_il 1 dL_corrects_45 rfl ?_
              refine gz_ne (tgt := 73) dL_corrects_47 (by decide) (by omega) (fun h_4 => ?_) (fun h_4 => ?_)
              · skip
                exfalso; omega
              · skip
                refine g_il_n 2 dL_corrects_50 rfl ?_
                refine g_ic (v := nI 1) dL_corrects_51 (by decide) ?_
                refine g_ic_ne (tgt := 59) dL_corrects_52 (by decide) (fun h_5 => ?_) (fun h_5 => ?_)
                · skip
                  refine g_ic (v := nI 0) dL_corrects_59 (by decide) ?_
                  refine g_il 0 dL_corrects_60 rfl ?_
                  refine g_if_lt (tgt := 69) dL_corrects_62 (by decide) (fun h_6 => ?_) (fun h_6 => ?_)
                  · skip
                    refine g_pc (pc' := 69) rfl ?_
                    refine g_ic (v := nI 0) dL_corrects_69 (by decide) ?_
                    refine gn_ne (tgt := 92) dL_corrects_70 (by decide) (by omega) (by omega) (fun h_7 => ?_) (fun h_7 => ?_)
                    · skip
                      exfalso; omega
                    · skip
                      refine g_il_n 3 dL_corrects_73 rfl ?_
                      refine gz_gt (tgt := 88) dL_corrects_74 (by decide) (by omega) (fun h_8 => ?_) (fun h_8 => ?_)
                      · skip
                        refine g_ic (v := nI 1) dL_corrects_88 (by decide) ?_
                        refine g_goto (tgt := 93) dL_corrects_89 (by decide) ?_
                        refine g_is (lv' := [(6, .int (nI 1)), (5, .int (-1 : Int32)), (4, .int (nI 0)), (3, .int (-1 : Int32)), (2, .int (nI q)), (0, .ref (γ.2.2 0)), (1, .int (nI w))]) dL_corrects_93 (by decide) rfl ?_
                        refine g_sub [5, 6, 4, 2, 0] rfl ?_
                        exact k95 0 (by decide) (by constructor <;> intro h9 <;> first | exact hs | rfl | exact absurd h9 (by decide) | exact absurd h9 hs) J52 _ _ hG52 (by omega) (by omega)
                      · skip
                        exfalso; omega
                  · skip
                    exact absurd (by decide) h_6
                · skip
                  exact absurd h_5 (by decide)
          · skip
            exact absurd h_2 (by decide)
        · skip
          exfalso; omega
