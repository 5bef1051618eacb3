/-! the law's loop -/
set_option maxRecDepth 100000 in
set_option maxHeartbeats 4000000 in
theorem law_loop (l : Launch) (hl0 : l.stackTraces = false) (γ : Gm) (b Ln : Nat) (xs : Nat → Int32) (hLn : Ln ≤ 260) : ∀ (N i : Nat), i + N = 30 → N22 l γ b Ln xs i N := by
  intro N
  induction N with
  | zero =>
    intro i hiN g n r9 q u I L P cells slots hG hn5 hc hs
    refine g_il 5 dL_law_22 rfl ?_
    refine g_bi (v := nI 30) dL_law_24 (by decide) ?_
    refine gn_ge (tgt := 728) dL_law_26 (by decide) (by omega) (by omega) (fun h_1 => ?_) (fun h_1 => ?_)
    · skip
      refine g_il 4 dL_law_728 rfl ?_
      exact g_lawend (by omega) (by omega) dL_law_730
    · skip
      exfalso; omega
  | succ N ih =>
    intro i hiN g n r9 q u I L P cells slots hG hn5 hc hs
    have hi : i < 30 := by omega
    have nx : N22 l γ b Ln xs (i + 1) N := ih (i + 1) (by omega)
    have hq6 := hG.2.2.1
    have hr8 := hG.1.r_le
    refine g_il 5 dL_law_22 rfl ?_
    refine g_bi (v := nI 30) dL_law_24 (by decide) ?_
    refine gn_ge (tgt := 728) dL_law_26 (by decide) (by omega) (by omega) (fun hlt => ?_) (fun hlt => ?_)
    · skip
      exfalso; omega
    · skip
      refine g_il 4 dL_law_29 rfl ?_
      refine gz_eq (tgt := 728) dL_law_31 (by decide) (by omega) (fun h_1 => ?_) (fun h_1 => ?_)
      · skip
        exfalso; omega
      · skip
        refine g_al_n 0 dL_law_34 rfl ?_
        refine g_il 5 dL_law_35 rfl ?_
        refine g_pc (pc' := 37) rfl ?_
        refine g_cx (st := []) (As := [.ref b, .int (nI i)]) (d := 0) (c_L_cell l γ I L P g n r9 q u hG b Ln xs hLn i hi) gL_law_L_cell rfl ⟨by decide, by decide, rfl⟩ ⟨Nat.le_of_ble_eq_true rfl, Nat.le_of_ble_eq_true rfl⟩ rfl (Nat.le_of_ble_eq_true rfl) dL_law_37 ⟨by show _ ≤ 600104; omega, by show _ ≤ 7301314; omega⟩ ?_
        rintro r1 J1 L1 ⟨⟨y, hy, er1⟩, hG1, eL1⟩
        rw [er1, eL1]
        obtain ⟨z, ez⟩ : ∃ z, z = y / 16 := ⟨_, rfl⟩
        have hz : z < 2 ^ 27 := by omega
        obtain ⟨kd, ekd⟩ : ∃ kd, kd = y % 16 := ⟨_, rfl⟩
        have hkd : kd < 16 := by omega
        have k685 := k_tail l hl0 γ b Ln xs i N z hi hz nx
        refine g_is (lv' := [(6, .int (nI y)), (0, .ref b), (1, .ref (γ.2.2 0)), (2, .int (nI n)), (3, .int (nI r9)), (4, .int (nI 1)), (5, .int (nI i))]) dL_law_40 (by decide) rfl ?_
        refine g_il 0 dL_law_42 rfl ?_
        refine g_bi (v := nI 16) dL_law_44 (by decide) ?_
        refine g_idiv (v := nI z) dL_law_46 (by decide) (by rw [ez]; exact pk_div (by omega) (by omega) (by omega)) ?_
        refine g_is (lv' := [(7, .int (nI z)), (6, .int (nI y)), (0, .ref b), (1, .ref (γ.2.2 0)), (2, .int (nI n)), (3, .int (nI r9)), (4, .int (nI 1)), (5, .int (nI i))]) dL_law_47 (by decide) rfl ?_
        refine g_il 1 dL_law_49 rfl ?_
        refine g_bi (v := nI 16) dL_law_51 (by decide) ?_
        refine g_pc (pc' := 53) rfl ?_
        refine g_irem (v := nI kd) dL_law_53 (by decide) (by rw [ekd]; exact pk_rem (by omega) (by omega) (by omega)) ?_
        refine g_is (lv' := [(8, .int (nI kd)), (7, .int (nI z)), (6, .int (nI y)), (0, .ref b), (1, .ref (γ.2.2 0)), (2, .int (nI n)), (3, .int (nI r9)), (4, .int (nI 1)), (5, .int (nI i))]) dL_law_54 (by decide) rfl ?_
        refine g_al_n 4 dL_law_56 rfl ?_
        refine g_ci (r_V (st := []) (As := []) (d := 0) 0 (by decide) rfl rfl (c_X4_said l γ J1 L P g n r9 q u hG1) gL_law_X4_said rfl ⟨rfl, by decide, by decide, rfl⟩ ⟨Nat.le_of_ble_eq_true rfl, Nat.le_of_ble_eq_true rfl⟩ rfl (Nat.le_of_ble_eq_true rfl) dL_law_57 ⟨by show _ ≤ 600104; omega, by show _ ≤ 7301314; omega⟩) ?_
        rintro r2 J2 L2 ⟨er2, hG2, -, eL2⟩
        rw [er2, eL2]
        refine g_is (lv' := [(9, .int (nI q)), (8, .int (nI kd)), (7, .int (nI z)), (6, .int (nI y)), (0, .ref b), (1, .ref (γ.2.2 0)), (2, .int (nI n)), (3, .int (nI r9)), (4, .int (nI 1)), (5, .int (nI i))]) dL_law_60 (by decide) rfl ?_
        refine g_il 1 dL_law_62 rfl ?_
        refine g_ic (v := nI 3) dL_law_64 (by decide) ?_
        refine gn_ge (tgt := 73) dL_law_65 (by decide) (by omega) (by omega) (fun hk3 => ?_) (fun hk3 => ?_)
        · skip
          refine g_pc (pc' := 73) rfl ?_
          refine g_il_n 6 dL_law_73 rfl ?_
          refine gz_ne (tgt := 115) dL_law_74 (by decide) (by omega) (fun h_2 => ?_) (fun h_2 => ?_)
          · skip
            refine g_sub [4, 5, 6, 7, 8, 9, 2, 1, 0] rfl ?_
            exact k_disp l hl0 γ b Ln xs i N z hi hz k685 g n r9 q u J2 L P cells slots hG2 hn5 (by omega) (by omega) kd hkd (by omega)
          · skip
            refine g_sub [4, 5, 6, 7, 8, 9, 2, 0] rfl ?_
            exact k_word l hl0 γ b Ln xs i N z hi hz k685 g n r9 q u J2 L P cells slots hG2 hn5 (by omega) (by omega) (by omega)
        · skip
          refine g_il_n 6 dL_law_68 rfl ?_
          refine g_ic (v := nI 5) dL_law_69 (by decide) ?_
          refine gn_lt (tgt := 77) dL_law_70 (by decide) (by omega) (by omega) (fun h_3 => ?_) (fun h_3 => ?_)
          · skip
            refine g_sub [4, 5, 6, 7, 8, 9, 2, 0] rfl ?_
            exact k_word l hl0 γ b Ln xs i N z hi hz k685 g n r9 q u J2 L P cells slots hG2 hn5 (by omega) (by omega) (by omega)
          · skip
            refine g_il_n 6 dL_law_73 rfl ?_
            refine gz_ne (tgt := 115) dL_law_74 (by decide) (by omega) (fun h_4 => ?_) (fun h_4 => ?_)
            · skip
              refine g_sub [4, 5, 6, 7, 8, 9, 2, 1, 0] rfl ?_
              exact k_disp l hl0 γ b Ln xs i N z hi hz k685 g n r9 q u J2 L P cells slots hG2 hn5 (by omega) (by omega) kd hkd (by omega)
            · skip
              exfalso; omega
