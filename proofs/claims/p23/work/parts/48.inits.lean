/-! the constructors -/
def fin0 (γ : Gm) (h : Nat) (u : Nat → Nat) : va_W := (h, .inr (0, [.ref (u 0)])) :: mna (u 0) 21 128 (γ.2.1 1) (γ.2.1 0)
def fin3 (γ : Gm) (h : Nat) (u : Nat → Nat) : va_W := (h, .inr (3, [.ref (u 0)])) :: mna (u 0) 13 128 (γ.2.1 1) (γ.2.1 0)
def fin2 (γ : Gm) (h : Nat) (u : Nat → Nat) : va_W := [(h, .inr (2, [.ref (u 0)])), (u 0, .inl (γ.2.1 0, 168, .inl (fun _ => 0)))]
def fin1 (γ : Gm) (h : Nat) (u : Nat → Nat) : va_W := (h, .inr (1, [.int (nI 0), .ref (u 0), .ref (u 1), .int (nI 0), .ref (u 2), .ref (u 3), .ref (u 4), .ref (u 5)])) :: ([(u 0, .inl (γ.2.1 0, 9, .inl (fun _ => 0))), (u 1, .inl (γ.2.1 0, 9, .inl (fun _ => 0))), (u 2, .inl (γ.2.1 0, 8, .inl (fun _ => 0))), (u 3, .inl (γ.2.1 0, 8, .inl (fun _ => 0))), (u 4, .inl (γ.2.1 0, 8, .inl (fun _ => 0)))] ++ mna (u 5) 8 256 (γ.2.1 1) (γ.2.1 0))
def fin4 (γ : Gm) (h : Nat) (u : Nat → Nat) : va_W := (h, .inr (4, [.ref (u 0), .ref (u 1), .int (nI 0), .ref (u 2), .ref (u 3), .ref (u 4), .ref (u 5)])) :: (((((([] ++ fin1 γ (u 0) (fun i => u (10 + i))) ++ [(u 1, .inl (γ.2.1 0, 6, .inl (fun _ => 0)))]) ++ [(u 2, .inl (γ.2.1 0, 6, .inl (fun _ => 0)))]) ++ fin2 γ (u 3) (fun i => u (20 + i))) ++ fin0 γ (u 4) (fun i => u (30 + i))) ++ fin3 γ (u 5) (fun i => u (40 + i)))

theorem in_X0_init_0 : ∀ w ∈ wsX00, w ∈ wsX0_init := by decide +kernel
set_option maxRecDepth 100000 in
set_option maxHeartbeats 4000000 in
theorem c_X0_init (l : Launch) (γ : Gm) : CtN l yX0_init wsX0_init { frames := 1, cells := 22, slots := 2709, locals := 12 } γ 0 [.null] (fin0 γ) 22 2709 := by
  refine CtN_of (own := RX0) (cc := cX0_init) (maxL := 1) (by decide) rfl rfl rfl (Nat.le_refl _) (fun h => ?_)
  show GN l cX0_init 1 wsX0_init RX0 none _ γ _ true _ 0 0 0 [(0, .ref h)] [] ((h, .inr (0, [.null])) :: [])
  refine n_al 0 dX0_init_0 rfl ?_
  refine n_obj (by decide +kernel) (by decide +kernel) (by decide +kernel) dX0_init_1 (Nat.le_of_ble_eq_true rfl) (Nat.le_of_ble_eq_true rfl) ?_
  refine n_al 0 dX0_init_4 rfl ?_
  refine n_bi (v := nI 21) dX0_init_5 (by decide) ?_
  refine n_si (v := nI 128) dX0_init_7 (by decide) ?_
  refine n_mna (n := 21) (k := 128) (by decide +kernel) (by decide +kernel) (Nat.le_of_ble_eq_true rfl) (Nat.le_of_ble_eq_true rfl) (Nat.le_of_ble_eq_true rfl) (Nat.le_of_ble_eq_true rfl) dX0_init_10 (fun a0 => ?_)
  refine n_w (w' := (h, .inr (0, [.null])) :: mna (a0) 21 128 (γ.2.1 1) (γ.2.1 0)) rfl ?_
  refine n_putF (fs' := [.ref a0]) tyX0 0 in_X0_init_0 tyX0_ok nmX0 rfl (by decide) (by decide +kernel) rfl rfl rfl rfl rfl rfl (Nat.le_of_ble_eq_true rfl) rfl dX0_init_14 ?_
  exact n_ret (fun k => [a0].getD k 0) rfl dX0_init_17

theorem in_X1_init_1 : ∀ w ∈ wsX10, w ∈ wsX1_init := by decide +kernel
set_option maxRecDepth 100000 in
set_option maxHeartbeats 4000000 in
theorem c_X1_init (l : Launch) (γ : Gm) : CtN l yX1_init wsX1_init { frames := 1, cells := 14, slots := 2098, locals := 12 } γ 1 [.int 0, .null, .null, .int 0, .null, .null, .null, .null] (fin1 γ) 14 2098 := by
  refine CtN_of (own := RX1) (cc := cX1_init) (maxL := 1) (by decide) rfl rfl rfl (Nat.le_refl _) (fun h => ?_)
  show GN l cX1_init 1 wsX1_init RX1 none _ γ _ true _ 0 0 0 [(0, .ref h)] [] ((h, .inr (1, [.int 0, .null, .null, .int 0, .null, .null, .null, .null])) :: [])
  refine n_al 0 dX1_init_0 rfl ?_
  refine n_obj (by decide +kernel) (by decide +kernel) (by decide +kernel) dX1_init_1 (Nat.le_of_ble_eq_true rfl) (Nat.le_of_ble_eq_true rfl) ?_
  refine n_al 0 dX1_init_4 rfl ?_
  refine n_ic (v := nI 0) dX1_init_5 (by decide) ?_
  refine n_put (fs' := [.int (nI 0), .null, .null, .int 0, .null, .null, .null, .null]) tyX1 0 in_X1_init_1 tyX1_ok nmX1 rfl (by decide) (by decide +kernel) rfl rfl rfl rfl rfl (Nat.le_of_ble_eq_true rfl) rfl dX1_init_6 ?_
  refine n_al 0 dX1_init_9 rfl ?_
  refine n_bi (v := nI 9) dX1_init_10 (by decide) ?_
  refine n_newi (N' := 9) (by decide +kernel) (Nat.le_of_ble_eq_true rfl) (Nat.le_of_ble_eq_true rfl) (Nat.le_of_ble_eq_true rfl) dX1_init_12 (fun a0 => ?_)
  refine n_w (w' := (h, .inr (1, [.int (nI 0), .null, .null, .int 0, .null, .null, .null, .null])) :: [(a0, .inl (γ.2.1 0, 9, .inl (fun _ => 0)))]) rfl ?_
  refine n_putF (fs' := [.int (nI 0), .ref a0, .null, .int 0, .null, .null, .null, .null]) tyX1 1 in_X1_init_1 tyX1_ok nmX1 rfl (by decide) (by decide +kernel) rfl rfl rfl rfl rfl rfl (Nat.le_of_ble_eq_true rfl) rfl dX1_init_14 ?_
  refine n_al 0 dX1_init_17 rfl ?_
  refine n_bi (v := nI 9) dX1_init_18 (by decide) ?_
  refine n_newi (N' := 9) (by decide +kernel) (Nat.le_of_ble_eq_true rfl) (Nat.le_of_ble_eq_true rfl) (Nat.le_of_ble_eq_true rfl) dX1_init_20 (fun a1 => ?_)
  refine n_w (w' := (h, .inr (1, [.int (nI 0), .ref a0, .null, .int 0, .null, .null, .null, .null])) :: [(a0, .inl (γ.2.1 0, 9, .inl (fun _ => 0))), (a1, .inl (γ.2.1 0, 9, .inl (fun _ => 0)))]) rfl ?_
  refine n_putF (fs' := [.int (nI 0), .ref a0, .ref a1, .int 0, .null, .null, .null, .null]) tyX1 2 in_X1_init_1 tyX1_ok nmX1 rfl (by decide) (by decide +kernel) rfl rfl rfl rfl rfl rfl (Nat.le_of_ble_eq_true rfl) rfl dX1_init_22 ?_
  refine n_al 0 dX1_init_25 rfl ?_
  refine n_ic (v := nI 0) dX1_init_26 (by decide) ?_
  refine n_put (fs' := [.int (nI 0), .ref a0, .ref a1, .int (nI 0), .null, .null, .null, .null]) tyX1 3 in_X1_init_1 tyX1_ok nmX1 rfl (by decide) (by decide +kernel) rfl rfl rfl rfl rfl (Nat.le_of_ble_eq_true rfl) rfl dX1_init_27 ?_
  refine n_al 0 dX1_init_30 rfl ?_
  refine n_bi (v := nI 8) dX1_init_31 (by decide) ?_
  refine n_newi (N' := 8) (by decide +kernel) (Nat.le_of_ble_eq_true rfl) (Nat.le_of_ble_eq_true rfl) (Nat.le_of_ble_eq_true rfl) dX1_init_33 (fun a2 => ?_)
  refine n_w (w' := (h, .inr (1, [.int (nI 0), .ref a0, .ref a1, .int (nI 0), .null, .null, .null, .null])) :: [(a0, .inl (γ.2.1 0, 9, .inl (fun _ => 0))), (a1, .inl (γ.2.1 0, 9, .inl (fun _ => 0))), (a2, .inl (γ.2.1 0, 8, .inl (fun _ => 0)))]) rfl ?_
  refine n_putF (fs' := [.int (nI 0), .ref a0, .ref a1, .int (nI 0), .ref a2, .null, .null, .null]) tyX1 4 in_X1_init_1 tyX1_ok nmX1 rfl (by decide) (by decide +kernel) rfl rfl rfl rfl rfl rfl (Nat.le_of_ble_eq_true rfl) rfl dX1_init_35 ?_
  refine n_al 0 dX1_init_38 rfl ?_
  refine n_bi (v := nI 8) dX1_init_39 (by decide) ?_
  refine n_newi (N' := 8) (by decide +kernel) (Nat.le_of_ble_eq_true rfl) (Nat.le_of_ble_eq_true rfl) (Nat.le_of_ble_eq_true rfl) dX1_init_41 (fun a3 => ?_)
  refine n_w (w' := (h, .inr (1, [.int (nI 0), .ref a0, .ref a1, .int (nI 0), .ref a2, .null, .null, .null])) :: [(a0, .inl (γ.2.1 0, 9, .inl (fun _ => 0))), (a1, .inl (γ.2.1 0, 9, .inl (fun _ => 0))), (a2, .inl (γ.2.1 0, 8, .inl (fun _ => 0))), (a3, .inl (γ.2.1 0, 8, .inl (fun _ => 0)))]) rfl ?_
  refine n_putF (fs' := [.int (nI 0), .ref a0, .ref a1, .int (nI 0), .ref a2, .ref a3, .null, .null]) tyX1 5 in_X1_init_1 tyX1_ok nmX1 rfl (by decide) (by decide +kernel) rfl rfl rfl rfl rfl rfl (Nat.le_of_ble_eq_true rfl) rfl dX1_init_43 ?_
  refine n_al 0 dX1_init_46 rfl ?_
  refine n_bi (v := nI 8) dX1_init_47 (by decide) ?_
  refine n_newi (N' := 8) (by decide +kernel) (Nat.le_of_ble_eq_true rfl) (Nat.le_of_ble_eq_true rfl) (Nat.le_of_ble_eq_true rfl) dX1_init_49 (fun a4 => ?_)
  refine n_w (w' := (h, .inr (1, [.int (nI 0), .ref a0, .ref a1, .int (nI 0), .ref a2, .ref a3, .null, .null])) :: [(a0, .inl (γ.2.1 0, 9, .inl (fun _ => 0))), (a1, .inl (γ.2.1 0, 9, .inl (fun _ => 0))), (a2, .inl (γ.2.1 0, 8, .inl (fun _ => 0))), (a3, .inl (γ.2.1 0, 8, .inl (fun _ => 0))), (a4, .inl (γ.2.1 0, 8, .inl (fun _ => 0)))]) rfl ?_
  refine n_putF (fs' := [.int (nI 0), .ref a0, .ref a1, .int (nI 0), .ref a2, .ref a3, .ref a4, .null]) tyX1 6 in_X1_init_1 tyX1_ok nmX1 rfl (by decide) (by decide +kernel) rfl rfl rfl rfl rfl rfl (Nat.le_of_ble_eq_true rfl) rfl dX1_init_51 ?_
  refine n_al 0 dX1_init_54 rfl ?_
  refine n_bi (v := nI 8) dX1_init_55 (by decide) ?_
  refine n_si (v := nI 256) dX1_init_57 (by decide) ?_
  refine n_mna (n := 8) (k := 256) (by decide +kernel) (by decide +kernel) (Nat.le_of_ble_eq_true rfl) (Nat.le_of_ble_eq_true rfl) (Nat.le_of_ble_eq_true rfl) (Nat.le_of_ble_eq_true rfl) dX1_init_60 (fun a5 => ?_)
  refine n_w (w' := (h, .inr (1, [.int (nI 0), .ref a0, .ref a1, .int (nI 0), .ref a2, .ref a3, .ref a4, .null])) :: ([(a0, .inl (γ.2.1 0, 9, .inl (fun _ => 0))), (a1, .inl (γ.2.1 0, 9, .inl (fun _ => 0))), (a2, .inl (γ.2.1 0, 8, .inl (fun _ => 0))), (a3, .inl (γ.2.1 0, 8, .inl (fun _ => 0))), (a4, .inl (γ.2.1 0, 8, .inl (fun _ => 0)))] ++ mna (a5) 8 256 (γ.2.1 1) (γ.2.1 0))) rfl ?_
  refine n_putF (fs' := [.int (nI 0), .ref a0, .ref a1, .int (nI 0), .ref a2, .ref a3, .ref a4, .ref a5]) tyX1 7 in_X1_init_1 tyX1_ok nmX1 rfl (by decide) (by decide +kernel) rfl rfl rfl rfl rfl rfl (Nat.le_of_ble_eq_true rfl) rfl dX1_init_64 ?_
  exact n_ret (fun k => [a0, a1, a2, a3, a4, a5].getD k 0) rfl dX1_init_67

theorem in_X2_init_2 : ∀ w ∈ wsX20, w ∈ wsX2_init := by decide +kernel
set_option maxRecDepth 100000 in
set_option maxHeartbeats 4000000 in
theorem c_X2_init (l : Launch) (γ : Gm) : CtN l yX2_init wsX2_init { frames := 1, cells := 1, slots := 168, locals := 12 } γ 2 [.null] (fin2 γ) 1 168 := by
  refine CtN_of (own := RX2) (cc := cX2_init) (maxL := 1) (by decide) rfl rfl rfl (Nat.le_refl _) (fun h => ?_)
  show GN l cX2_init 1 wsX2_init RX2 none _ γ _ true _ 0 0 0 [(0, .ref h)] [] ((h, .inr (2, [.null])) :: [])
  refine n_al 0 dX2_init_0 rfl ?_
  refine n_obj (by decide +kernel) (by decide +kernel) (by decide +kernel) dX2_init_1 (Nat.le_of_ble_eq_true rfl) (Nat.le_of_ble_eq_true rfl) ?_
  refine n_al 0 dX2_init_4 rfl ?_
  refine n_si (v := nI 168) dX2_init_5 (by decide) ?_
  refine n_newi (N' := 168) (by decide +kernel) (Nat.le_of_ble_eq_true rfl) (Nat.le_of_ble_eq_true rfl) (Nat.le_of_ble_eq_true rfl) dX2_init_8 (fun a0 => ?_)
  refine n_w (w' := (h, .inr (2, [.null])) :: [(a0, .inl (γ.2.1 0, 168, .inl (fun _ => 0)))]) rfl ?_
  refine n_putF (fs' := [.ref a0]) tyX2 0 in_X2_init_2 tyX2_ok nmX2 rfl (by decide) (by decide +kernel) rfl rfl rfl rfl rfl rfl (Nat.le_of_ble_eq_true rfl) rfl dX2_init_10 ?_
  exact n_ret (fun k => [a0].getD k 0) rfl dX2_init_13

theorem in_X3_init_3 : ∀ w ∈ wsX30, w ∈ wsX3_init := by decide +kernel
set_option maxRecDepth 100000 in
set_option maxHeartbeats 4000000 in
theorem c_X3_init (l : Launch) (γ : Gm) : CtN l yX3_init wsX3_init { frames := 1, cells := 14, slots := 1677, locals := 12 } γ 3 [.null] (fin3 γ) 14 1677 := by
  refine CtN_of (own := RX3) (cc := cX3_init) (maxL := 1) (by decide) rfl rfl rfl (Nat.le_refl _) (fun h => ?_)
  show GN l cX3_init 1 wsX3_init RX3 none _ γ _ true _ 0 0 0 [(0, .ref h)] [] ((h, .inr (3, [.null])) :: [])
  refine n_al 0 dX3_init_0 rfl ?_
  refine n_obj (by decide +kernel) (by decide +kernel) (by decide +kernel) dX3_init_1 (Nat.le_of_ble_eq_true rfl) (Nat.le_of_ble_eq_true rfl) ?_
  refine n_al 0 dX3_init_4 rfl ?_
  refine n_bi (v := nI 13) dX3_init_5 (by decide) ?_
  refine n_si (v := nI 128) dX3_init_7 (by decide) ?_
  refine n_mna (n := 13) (k := 128) (by decide +kernel) (by decide +kernel) (Nat.le_of_ble_eq_true rfl) (Nat.le_of_ble_eq_true rfl) (Nat.le_of_ble_eq_true rfl) (Nat.le_of_ble_eq_true rfl) dX3_init_10 (fun a0 => ?_)
  refine n_w (w' := (h, .inr (3, [.null])) :: mna (a0) 13 128 (γ.2.1 1) (γ.2.1 0)) rfl ?_
  refine n_putF (fs' := [.ref a0]) tyX3 0 in_X3_init_3 tyX3_ok nmX3 rfl (by decide) (by decide +kernel) rfl rfl rfl rfl rfl rfl (Nat.le_of_ble_eq_true rfl) rfl dX3_init_14 ?_
  exact n_ret (fun k => [a0].getD k 0) rfl dX3_init_17

theorem in_X4_init_4 : ∀ w ∈ wsX40, w ∈ wsX4_init := by decide +kernel
theorem in_X4_init_1 : ∀ w ∈ wsX10, w ∈ wsX4_init := by decide +kernel
theorem in_X4_init_2 : ∀ w ∈ wsX20, w ∈ wsX4_init := by decide +kernel
theorem in_X4_init_0 : ∀ w ∈ wsX00, w ∈ wsX4_init := by decide +kernel
theorem in_X4_init_3 : ∀ w ∈ wsX30, w ∈ wsX4_init := by decide +kernel
set_option maxRecDepth 100000 in
set_option maxHeartbeats 4000000 in
theorem c_X4_init (l : Launch) (γ : Gm) : CtN l yX4_init wsX4_init { frames := 3, cells := 57, slots := 6675, locals := 120 } γ 4 [.null, .null, .int 0, .null, .null, .null, .null] (fin4 γ) 57 6675 := by
  refine CtN_of (own := RX4) (cc := cX4_init) (maxL := 1) (by decide) rfl rfl rfl (Nat.le_refl _) (fun h => ?_)
  show GN l cX4_init 1 wsX4_init RX4 none _ γ _ true _ 0 0 0 [(0, .ref h)] [] ((h, .inr (4, [.null, .null, .int 0, .null, .null, .null, .null])) :: [])
  refine n_al 0 dX4_init_0 rfl ?_
  refine n_obj (by decide +kernel) (by decide +kernel) (by decide +kernel) dX4_init_1 (Nat.le_of_ble_eq_true rfl) (Nat.le_of_ble_eq_true rfl) ?_
  refine n_al 0 dX4_init_4 rfl ?_
  refine n_new (fs := [.int 0, .null, .null, .int 0, .null, .null, .null, .null]) (C := RX1) (T := TX1) (N := 8) (ci := 1) tyX1 in_X4_init_1 tyX1_ok (by decide +kernel) (by decide +kernel) (by decide +kernel) rfl (fun j hj => by match j, hj with
    | 0, _ => rfl
    | 1, _ => rfl
    | 2, _ => rfl
    | 3, _ => rfl
    | 4, _ => rfl
    | 5, _ => rfl
    | 6, _ => rfl
    | 7, _ => rfl
    | j + 8, h9 => exact absurd h9 (by omega)) (Nat.le_of_ble_eq_true rfl) (Nat.le_of_ble_eq_true rfl) dX4_init_5 (fun b1 => ?_)
  refine n_dup dX4_init_8 ?_
  refine n_initN (h := b1) (c_X1_init l γ) gX4_init_X1_init_n11 rfl rfl rfl (List.mem_of_getElem? (i := 0) rfl) (by decide +kernel) (by decide +kernel) rfl ⟨by decide, by decide, rfl⟩ ⟨Nat.le_of_ble_eq_true rfl, Nat.le_of_ble_eq_true rfl⟩ (Nat.le_of_ble_eq_true rfl) dX4_init_9 ⟨Nat.le_of_ble_eq_true rfl, Nat.le_of_ble_eq_true rfl⟩ (fun u1 => ?_)
  refine n_w (w' := (h, .inr (4, [.null, .null, .int 0, .null, .null, .null, .null])) :: ([] ++ fin1 γ b1 u1)) rfl ?_
  refine n_putF (fs' := [.ref b1, .null, .int 0, .null, .null, .null, .null]) tyX4 0 in_X4_init_4 tyX4_ok nmX4 rfl (by decide) (by decide +kernel) rfl rfl rfl rfl rfl rfl (Nat.le_of_ble_eq_true rfl) rfl dX4_init_12 ?_
  refine n_al 0 dX4_init_15 rfl ?_
  refine n_bi (v := nI 6) dX4_init_16 (by decide) ?_
  refine n_newi (N' := 6) (by decide +kernel) (Nat.le_of_ble_eq_true rfl) (Nat.le_of_ble_eq_true rfl) (Nat.le_of_ble_eq_true rfl) dX4_init_18 (fun a0 => ?_)
  refine n_w (w' := (h, .inr (4, [.ref b1, .null, .int 0, .null, .null, .null, .null])) :: (([] ++ fin1 γ b1 u1) ++ [(a0, .inl (γ.2.1 0, 6, .inl (fun _ => 0)))])) rfl ?_
  refine n_putF (fs' := [.ref b1, .ref a0, .int 0, .null, .null, .null, .null]) tyX4 1 in_X4_init_4 tyX4_ok nmX4 rfl (by decide) (by decide +kernel) rfl rfl rfl rfl rfl rfl (Nat.le_of_ble_eq_true rfl) rfl dX4_init_20 ?_
  refine n_al 0 dX4_init_23 rfl ?_
  refine n_ic (v := nI 0) dX4_init_24 (by decide) ?_
  refine n_put (fs' := [.ref b1, .ref a0, .int (nI 0), .null, .null, .null, .null]) tyX4 2 in_X4_init_4 tyX4_ok nmX4 rfl (by decide) (by decide +kernel) rfl rfl rfl rfl rfl (Nat.le_of_ble_eq_true rfl) rfl dX4_init_25 ?_
  refine n_al 0 dX4_init_28 rfl ?_
  refine n_bi (v := nI 6) dX4_init_29 (by decide) ?_
  refine n_newi (N' := 6) (by decide +kernel) (Nat.le_of_ble_eq_true rfl) (Nat.le_of_ble_eq_true rfl) (Nat.le_of_ble_eq_true rfl) dX4_init_31 (fun a1 => ?_)
  refine n_w (w' := (h, .inr (4, [.ref b1, .ref a0, .int (nI 0), .null, .null, .null, .null])) :: ((([] ++ fin1 γ b1 u1) ++ [(a0, .inl (γ.2.1 0, 6, .inl (fun _ => 0)))]) ++ [(a1, .inl (γ.2.1 0, 6, .inl (fun _ => 0)))])) rfl ?_
  refine n_putF (fs' := [.ref b1, .ref a0, .int (nI 0), .ref a1, .null, .null, .null]) tyX4 3 in_X4_init_4 tyX4_ok nmX4 rfl (by decide) (by decide +kernel) rfl rfl rfl rfl rfl rfl (Nat.le_of_ble_eq_true rfl) rfl dX4_init_33 ?_
  refine n_al 0 dX4_init_36 rfl ?_
  refine n_new (fs := [.null]) (C := RX2) (T := TX2) (N := 1) (ci := 2) tyX2 in_X4_init_2 tyX2_ok (by decide +kernel) (by decide +kernel) (by decide +kernel) rfl (fun j hj => by match j, hj with
    | 0, _ => rfl
    | j + 1, h9 => exact absurd h9 (by omega)) (Nat.le_of_ble_eq_true rfl) (Nat.le_of_ble_eq_true rfl) dX4_init_37 (fun b2 => ?_)
  refine n_dup dX4_init_40 ?_
  refine n_initN (h := b2) (c_X2_init l γ) gX4_init_X2_init_n29 rfl rfl rfl (List.mem_of_getElem? (i := 1) rfl) (by decide +kernel) (by decide +kernel) rfl ⟨by decide, by decide, rfl⟩ ⟨Nat.le_of_ble_eq_true rfl, Nat.le_of_ble_eq_true rfl⟩ (Nat.le_of_ble_eq_true rfl) dX4_init_41 ⟨Nat.le_of_ble_eq_true rfl, Nat.le_of_ble_eq_true rfl⟩ (fun u2 => ?_)
  refine n_w (w' := (h, .inr (4, [.ref b1, .ref a0, .int (nI 0), .ref a1, .null, .null, .null])) :: (((([] ++ fin1 γ b1 u1) ++ [(a0, .inl (γ.2.1 0, 6, .inl (fun _ => 0)))]) ++ [(a1, .inl (γ.2.1 0, 6, .inl (fun _ => 0)))]) ++ fin2 γ b2 u2)) rfl ?_
  refine n_putF (fs' := [.ref b1, .ref a0, .int (nI 0), .ref a1, .ref b2, .null, .null]) tyX4 4 in_X4_init_4 tyX4_ok nmX4 rfl (by decide) (by decide +kernel) rfl rfl rfl rfl rfl rfl (Nat.le_of_ble_eq_true rfl) rfl dX4_init_44 ?_
  refine n_al 0 dX4_init_47 rfl ?_
  refine n_new (fs := [.null]) (C := RX0) (T := TX0) (N := 1) (ci := 0) tyX0 in_X4_init_0 tyX0_ok (by decide +kernel) (by decide +kernel) (by decide +kernel) rfl (fun j hj => by match j, hj with
    | 0, _ => rfl
    | j + 1, h9 => exact absurd h9 (by omega)) (Nat.le_of_ble_eq_true rfl) (Nat.le_of_ble_eq_true rfl) dX4_init_48 (fun b0 => ?_)
  refine n_dup dX4_init_51 ?_
  refine n_initN (h := b0) (c_X0_init l γ) gX4_init_X0_init_n36 rfl rfl rfl (List.mem_of_getElem? (i := 2) rfl) (by decide +kernel) (by decide +kernel) rfl ⟨by decide, by decide, rfl⟩ ⟨Nat.le_of_ble_eq_true rfl, Nat.le_of_ble_eq_true rfl⟩ (Nat.le_of_ble_eq_true rfl) dX4_init_52 ⟨Nat.le_of_ble_eq_true rfl, Nat.le_of_ble_eq_true rfl⟩ (fun u0 => ?_)
  refine n_w (w' := (h, .inr (4, [.ref b1, .ref a0, .int (nI 0), .ref a1, .ref b2, .null, .null])) :: ((((([] ++ fin1 γ b1 u1) ++ [(a0, .inl (γ.2.1 0, 6, .inl (fun _ => 0)))]) ++ [(a1, .inl (γ.2.1 0, 6, .inl (fun _ => 0)))]) ++ fin2 γ b2 u2) ++ fin0 γ b0 u0)) rfl ?_
  refine n_putF (fs' := [.ref b1, .ref a0, .int (nI 0), .ref a1, .ref b2, .ref b0, .null]) tyX4 5 in_X4_init_4 tyX4_ok nmX4 rfl (by decide) (by decide +kernel) rfl rfl rfl rfl rfl rfl (Nat.le_of_ble_eq_true rfl) rfl dX4_init_55 ?_
  refine n_al 0 dX4_init_58 rfl ?_
  refine n_new (fs := [.null]) (C := RX3) (T := TX3) (N := 1) (ci := 3) tyX3 in_X4_init_3 tyX3_ok (by decide +kernel) (by decide +kernel) (by decide +kernel) rfl (fun j hj => by match j, hj with
    | 0, _ => rfl
    | j + 1, h9 => exact absurd h9 (by omega)) (Nat.le_of_ble_eq_true rfl) (Nat.le_of_ble_eq_true rfl) dX4_init_59 (fun b3 => ?_)
  refine n_dup dX4_init_62 ?_
  refine n_initN (h := b3) (c_X3_init l γ) gX4_init_X3_init_n43 rfl rfl rfl (List.mem_of_getElem? (i := 3) rfl) (by decide +kernel) (by decide +kernel) rfl ⟨by decide, by decide, rfl⟩ ⟨Nat.le_of_ble_eq_true rfl, Nat.le_of_ble_eq_true rfl⟩ (Nat.le_of_ble_eq_true rfl) dX4_init_63 ⟨Nat.le_of_ble_eq_true rfl, Nat.le_of_ble_eq_true rfl⟩ (fun u3 => ?_)
  refine n_w (w' := (h, .inr (4, [.ref b1, .ref a0, .int (nI 0), .ref a1, .ref b2, .ref b0, .null])) :: (((((([] ++ fin1 γ b1 u1) ++ [(a0, .inl (γ.2.1 0, 6, .inl (fun _ => 0)))]) ++ [(a1, .inl (γ.2.1 0, 6, .inl (fun _ => 0)))]) ++ fin2 γ b2 u2) ++ fin0 γ b0 u0) ++ fin3 γ b3 u3)) rfl ?_
  refine n_putF (fs' := [.ref b1, .ref a0, .int (nI 0), .ref a1, .ref b2, .ref b0, .ref b3]) tyX4 6 in_X4_init_4 tyX4_ok nmX4 rfl (by decide) (by decide +kernel) rfl rfl rfl rfl rfl rfl (Nat.le_of_ble_eq_true rfl) rfl dX4_init_66 ?_
  exact n_ret (fun k => if k < 10 then [b1, a0, a1, b2, b0, b3].getD k 0 else if k < 20 then u1 (k - 10) else if k < 30 then u2 (k - 20) else if k < 40 then u0 (k - 30) else u3 (k - 40)) rfl dX4_init_69
