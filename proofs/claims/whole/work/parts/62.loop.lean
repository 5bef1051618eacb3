/-! the law's loop -/
theorem and31 (x : Int32) : ∃ k, k < 32 ∧ x &&& nI 31 = nI k := by
  have h : x = nI x.toBitVec.toNat := by
    apply Int32.toBitVec_inj.mp
    simp [nI]
  refine ⟨x.toBitVec.toNat &&& 31, Nat.lt_of_le_of_lt Nat.and_le_right (by decide), ?_⟩
  conv => lhs; rw [h]
  exact nI_and _ _
theorem gt5 {i n : Nat} (hi : i < 2 ^ 30) (hn : n < 2 ^ 30) : (nI n - nI 5 < nI i) ↔ n < i + 5 := by
  have h1 := pk_sub_toInt (a := n) (b := 5) hn (by decide)
  have h2 := pk_sub_toInt (a := i) (b := 0) hi (by decide)
  rw [pk_sub (Nat.zero_le _), Nat.sub_zero] at h2
  rw [Int32.lt_iff_toInt_lt, h1, h2]
  omega

set_option maxRecDepth 100000 in
set_option maxHeartbeats 4000000 in
theorem law_loop (l : Launch) (hl0 : l.stackTraces = false) (γ : Gm) (b Ln : Nat) (xs : Nat → Int32) (hLn : Ln ≤ 2560) : ∀ (N i : Nat), i ≤ Ln + 5 → Ln < i + 5 + 5 * N → Nx l γ b Ln xs i N := by
  intro N
  induction N using Nat.strongRecOn with
  | ind N ih =>
  intro i hiL hfu g n r9 q u I L P cells slots hM hG hc hs
  refine g_il 5 dL_law_28 rfl ?_
  refine g_al_n 0 dL_law_30 rfl ?_
  refine g_slen dL_law_31 ?_
  refine g_ic (v := nI 5) dL_law_32 (by decide) ?_
  refine g_isub (v := nI Ln - nI 5) dL_law_33 (rfl) ?_
  refine g_ic_gt (tgt := 1205) dL_law_34 (by decide) (fun h1 => ?_) (fun h1 => ?_)
  · skip
    refine g_ic (v := nI 1) dL_law_1205 (by decide) ?_
    exact g_lawend (by omega) (by omega) dL_law_1206
  · skip
    have hi5 : i + 5 ≤ Ln := by
      rcases Nat.lt_or_ge Ln (i + 5) with q9 | q9
      · exact absurd ((gt5 (by omega) (by omega)).mpr q9) h1
      · exact q9
    cases N with
    | zero => exact absurd hfu (by omega)
    | succ N =>
      have nx : Nx l γ b Ln xs (i + 5) N := ih N (Nat.lt_succ_self N) (i + 5) (by omega) (by omega)
      have hOut : G (ELw b Ln xs) l cL_law 8 wsL_law RL (some .boolean) room_1 γ P ALw (QLw b) cells slots 1199 [(0, .ref b), (1, .ref (γ.2.2 0)), (2, .ref (γ.2.2 8)), (3, .ref (γ.2.2 10)), (4, .ref (γ.2.2 11)), (5, .int (nI i))] [] I L := by
        refine g_inc (v := nI (i + 5)) (lv' := [(5, .int (nI (i + 5))), (0, .ref b), (1, .ref (γ.2.2 0)), (2, .ref (γ.2.2 8)), (3, .ref (γ.2.2 10)), (4, .ref (γ.2.2 11))]) 5 dL_law_1199 rfl (inc_n _ 5) (by decide) rfl ?_
        refine g_goto (tgt := 28) dL_law_1202 (by decide) ?_
        refine g_sub [1, 2, 3, 4, 5, 0] rfl ?_
        exact nx _ _ _ _ _ I L P cells slots hM hG (by omega) (by omega)
      obtain ⟨k, hk32, hk⟩ := and31 (xs i)
      refine g_al_n 0 dL_law_37 rfl ?_
      refine g_il 5 dL_law_38 rfl ?_
      refine g_sld i (by omega) dL_law_40 ?_
      refine g_bi (v := nI 31) dL_law_41 (by decide) ?_
      refine g_iand (v := nI k) dL_law_43 (hk) ?_
      match k, hk32 with
      | 0, _ => refine g_tsIn (off := 96) (tgt := 140) dL_law_44 (by decide) (by decide) (by decide) (by decide) ?_; exact k_addWord l hl0 γ I L P b Ln xs i N hi5 hLn nx g n r9 q u hM hG cells slots hc hs
      | 1, _ => refine g_tsIn (off := 176) (tgt := 220) dL_law_44 (by decide) (by decide) (by decide) (by decide) ?_; exact k_setWord l hl0 γ I L P b Ln xs i N hi5 hLn nx g n r9 q u hM hG cells slots hc hs
      | 2, _ => refine g_tsIn (off := 268) (tgt := 312) dL_law_44 (by decide) (by decide) (by decide) (by decide) ?_; exact k_addRule l hl0 γ I L P b Ln xs i N hi5 hLn nx g n r9 q u hM hG cells slots hc hs
      | 3, _ => refine g_tsIn (off := 360) (tgt := 404) dL_law_44 (by decide) (by decide) (by decide) (by decide) ?_; exact k_dropRule l hl0 γ I L P b Ln xs i N hi5 hLn nx g n r9 q u hM hG cells slots hc hs
      | 4, _ => refine g_tsIn (off := 404) (tgt := 448) dL_law_44 (by decide) (by decide) (by decide) (by decide) ?_; exact k_say l hl0 γ I L P b Ln xs i N hi5 hLn nx g n r9 q u hM hG cells slots hc hs
      | 5, _ => refine g_tsIn (off := 460) (tgt := 504) dL_law_44 (by decide) (by decide) (by decide) (by decide) ?_; exact k_change l hl0 γ I L P b Ln xs i N hi5 hLn nx g n r9 q u hM hG cells slots hc hs
      | 6, _ => refine g_tsIn (off := 528) (tgt := 572) dL_law_44 (by decide) (by decide) (by decide) (by decide) ?_; exact k_hush l hl0 γ I L P b Ln xs i N hi5 hLn nx g n r9 q u hM hG cells slots hc hs
      | 7, _ => refine g_tsIn (off := 541) (tgt := 585) dL_law_44 (by decide) (by decide) (by decide) (by decide) ?_; exact k_said l hl0 γ I L P b Ln xs i N hi5 hLn nx g n r9 q u hM hG cells slots hc hs
      | 8, _ => refine g_tsIn (off := 554) (tgt := 598) dL_law_44 (by decide) (by decide) (by decide) (by decide) ?_; exact k_wordAt l hl0 γ I L P b Ln xs i N hi5 hLn nx g n r9 q u hM hG cells slots hc hs
      | 9, _ => refine g_tsIn (off := 610) (tgt := 654) dL_law_44 (by decide) (by decide) (by decide) (by decide) ?_; exact k_readings l hl0 γ I L P b Ln xs i N hi5 hLn nx g n r9 q u hM hG cells slots hc hs
      | 10, _ => refine g_tsIn (off := 623) (tgt := 667) dL_law_44 (by decide) (by decide) (by decide) (by decide) ?_; exact k_readingsPlainly l hl0 γ I L P b Ln xs i N hi5 hLn nx g n r9 q u hM hG cells slots hc hs
      | 11, _ => refine g_tsIn (off := 636) (tgt := 680) dL_law_44 (by decide) (by decide) (by decide) (by decide) ?_; exact k_readingsOf l hl0 γ I L P b Ln xs i N hi5 hLn nx g n r9 q u hM hG cells slots hc hs
      | 12, _ => refine g_tsIn (off := 716) (tgt := 760) dL_law_44 (by decide) (by decide) (by decide) (by decide) ?_; exact k_has l hl0 γ I L P b Ln xs i N hi5 hLn nx g n r9 q u hM hG cells slots hc hs
      | 13, _ => refine g_tsIn (off := 815) (tgt := 859) dL_law_44 (by decide) (by decide) (by decide) (by decide) ?_; exact k_level l hl0 γ I L P b Ln xs i N hi5 hLn nx g n r9 q u hM hG cells slots hc hs
      | 14, _ => refine g_tsIn (off := 828) (tgt := 872) dL_law_44 (by decide) (by decide) (by decide) (by decide) ?_; exact k_sentences l hl0 γ I L P b Ln xs i N hi5 hLn nx g n r9 q u hM hG cells slots hc hs
      | 15, _ => refine g_tsIn (off := 884) (tgt := 928) dL_law_44 (by decide) (by decide) (by decide) (by decide) ?_; exact k_sentence l hl0 γ I L P b Ln xs i N hi5 hLn nx g n r9 q u hM hG cells slots hc hs
      | 16, _ => refine g_tsIn (off := 952) (tgt := 996) dL_law_44 (by decide) (by decide) (by decide) (by decide) ?_; exact k_share l hl0 γ I L P b Ln xs i N hi5 hLn nx g n r9 q u hM hG cells slots hc hs
      | 17, _ => refine g_tsIn (off := 1030) (tgt := 1074) dL_law_44 (by decide) (by decide) (by decide) (by decide) ?_; exact k_spoil l hl0 γ I L P b Ln xs i N hi5 hLn nx g n r9 q u hM hG cells slots hc hs
      | 18, _ => refine g_tsIn (off := 1086) (tgt := 1130) dL_law_44 (by decide) (by decide) (by decide) (by decide) ?_; exact k_changes l hl0 γ I L P b Ln xs i N hi5 hLn nx g n r9 q u hM hG cells slots hc hs
      | 19, _ => refine g_tsIn (off := 1099) (tgt := 1143) dL_law_44 (by decide) (by decide) (by decide) (by decide) ?_; exact k_correction l hl0 γ I L P b Ln xs i N hi5 hLn nx g n r9 q u hM hG cells slots hc hs
      | 20, _ => exact g_tsOut (tgt := 1199) dL_law_44 (by decide) (by decide) hOut
      | 21, _ => exact g_tsOut (tgt := 1199) dL_law_44 (by decide) (by decide) hOut
      | 22, _ => exact g_tsOut (tgt := 1199) dL_law_44 (by decide) (by decide) hOut
      | 23, _ => exact g_tsOut (tgt := 1199) dL_law_44 (by decide) (by decide) hOut
      | 24, _ => exact g_tsOut (tgt := 1199) dL_law_44 (by decide) (by decide) hOut
      | 25, _ => exact g_tsOut (tgt := 1199) dL_law_44 (by decide) (by decide) hOut
      | 26, _ => exact g_tsOut (tgt := 1199) dL_law_44 (by decide) (by decide) hOut
      | 27, _ => exact g_tsOut (tgt := 1199) dL_law_44 (by decide) (by decide) hOut
      | 28, _ => exact g_tsOut (tgt := 1199) dL_law_44 (by decide) (by decide) hOut
      | 29, _ => exact g_tsOut (tgt := 1199) dL_law_44 (by decide) (by decide) hOut
      | 30, _ => exact g_tsOut (tgt := 1199) dL_law_44 (by decide) (by decide) hOut
      | 31, _ => exact g_tsOut (tgt := 1199) dL_law_44 (by decide) (by decide) hOut
      | k + 32, h9 => exact absurd h9 (by omega)
