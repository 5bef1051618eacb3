/-! the law's start -/
theorem n_ast {l : Launch} {cc : ByteArray} {nL : Nat} {Ts : List Cond} {own : String} {ret : Option FieldType} {R : Room} {γ : Gm} {AF : State → Nat → Prop} {ini : Bool} {QQ : List Frame → Array Value → State → State → Prop} {cells slots pc : Nat} {lv : List (Nat × Value)} {st : List Value} {w : va_W} {i : Nat} {r : Addr} {lv' : List (Nat × Value)} (hd : decode cc pc = .ok (.astore i, 2)) (hn : i < nL) (hl9 : (i, Value.ref r) :: lv.filter (fun q => !(q.1 == i) && !(q.1 + 1 == i && q.2.category == 2)) = lv') (kk : GN l cc nL Ts own ret R γ AF ini QQ cells slots (pc + 2) lv' st w) : GN l cc nL Ts own ret R γ AF ini QQ cells slots pc lv (.ref r :: st) w :=
  fun p e s m args below meth c K H locs ls hS hP hD hl => lv_astore K.1.1 K.1.2.1 hd hl hn hl9 (fun ls' hl' => kk p e s m args below meth c K H locs ls' hS hP hD hl')
set_option maxRecDepth 100000 in
set_option maxHeartbeats 4000000 in
theorem law_open (l : Launch) (hl0 : l.stackTraces = false) (γ : Gm) (b Ln : Nat) (xs : Nat → Int32) (hLn : Ln ≤ 260) : GN l cL_law 16 wsL_law RL (some .boolean) room_1 γ ALw false (QS γ b Ln xs) 0 0 0 [(0, .ref b)] [] [] := by
  refine n_new (fs := [.null, .null, .int 0, .null, .null, .null, .null]) (C := RX4) (T := TX4) (N := 7) (ci := 4) tyX4 inlX4 tyX4_ok (by decide +kernel) (by decide +kernel) (by decide +kernel) rfl (fun j hj => by match j, hj with
    | 0, _ => rfl
    | 1, _ => rfl
    | 2, _ => rfl
    | 3, _ => rfl
    | 4, _ => rfl
    | 5, _ => rfl
    | 6, _ => rfl
    | j + 7, h9 => exact absurd h9 (by omega)) (Nat.le_of_ble_eq_true rfl) (Nat.le_of_ble_eq_true rfl) dL_law_0 (fun h4 => ?_)
  refine n_dup dL_law_3 ?_
  refine n_init (h := h4) (c_X4_init l γ) gL_law_X4_init rfl rfl rfl (by decide +kernel) (by decide +kernel) (by decide +kernel) rfl ⟨by decide, by decide, rfl⟩ ⟨Nat.le_of_ble_eq_true rfl, Nat.le_of_ble_eq_true rfl⟩ (Nat.le_of_ble_eq_true rfl) dL_law_4 ⟨Nat.le_of_ble_eq_true rfl, Nat.le_of_ble_eq_true rfl⟩ (fun u4 => ?_)
  refine n_w (w' := fin4 γ h4 u4) rfl ?_
  refine n_as (lv' := [(1, .ref h4), (0, .ref b)]) dL_law_7 (by decide) rfl ?_
  exact to_loop l hl0 γ b Ln xs hLn h4 u4 _ _ (Nat.le_of_ble_eq_true rfl) (Nat.le_of_ble_eq_true rfl)
