theorem fw_X3_isFull_X3 : zF wsX3_isFull RX3 TX3 3 := fun _ h => List.mem_cons_of_mem _ (List.mem_append_right _ (h))
set_option maxHeartbeats 4000000 in
set_option maxRecDepth 100000 in
theorem cc_X3_isFull_D (l : Launch) (D : va_G) (g : zG) (a : Nat → Nat) (C : zMS) (m : Nat) (hI : CI C) : zPure l yX3_isFull wsX3_isFull { frames := 0, cells := 0, slots := 0, locals := 0 } D (zT g) (wC g a C m) [.ref (a 1)] (fun r => r = bI (4 ≤ cD C)) := by
  refine zPure_of (cc := cX3_isFull) (maxL := 1) (ret := (some .boolean)) (own := RX3) [(0, .ref (a 1))] (by decide) rfl rfl rfl (Nat.le_of_ble_eq_true rfl) ?_
  intro X hl B hr
  obtain ⟨b19, b3, b6, b20, b22, b27, b0⟩ := CI_bs hI
  refine z_aload_n B 0 dX3_isFull_0 rfl rfl ?_
  refine z_get (C := RX3) (T := TX3) (N := 3) (v := .int (C 3 0)) B 1 2 1 fw_X3_isFull_X3 rfl rfl (by decide) rfl rfl rfl dX3_isFull_1 ?_
  refine z_top (y := nI (cD C)) (CI_3 (C := C) hI) ?_
  refine z_iconst (v := nI 4) B dX3_isFull_4 (by decide) ?_
  refine z_icmpN_lt B 12 dX3_isFull_5 (by decide) (by omega) (by omega) (fun zc5 => ?_) (fun zc5 => ?_)
  · refine z_iconst (v := nI 0) B dX3_isFull_12 (by decide) ?_
    exact z_pret B hr dX3_isFull_13 (nar_b (Or.inl rfl)) (by refine bI_z ?_; first | omega)
  · refine z_iconst (v := nI 1) B dX3_isFull_8 (by decide) ?_
    refine z_goto B 13 dX3_isFull_9 (by decide) ?_
    exact z_pret B hr dX3_isFull_13 (nar_b (Or.inr rfl)) (by refine bI_1 ?_; first | omega)
theorem fw_X3_isBalanced_X3 : zF wsX3_isBalanced RX3 TX3 3 := fun _ h => List.mem_cons_of_mem _ (List.mem_append_right _ (h))
set_option maxHeartbeats 4000000 in
set_option maxRecDepth 100000 in
theorem cc_X3_isBalanced_D (l : Launch) (D : va_G) (g : zG) (a : Nat → Nat) (C : zMS) (m : Nat) (hI : CI C) : zPure l yX3_isBalanced wsX3_isBalanced { frames := 0, cells := 0, slots := 0, locals := 0 } D (zT g) (wC g a C m) [.ref (a 1)] (fun r => r = bI (2 ≤ cD C ∧ zsum (C 2) (cD C) = 0)) := by
  refine zPure_of (cc := cX3_isBalanced) (maxL := 3) (ret := (some .boolean)) (own := RX3) [(0, .ref (a 1))] (by decide) rfl rfl rfl (Nat.le_of_ble_eq_true rfl) ?_
  intro X hl B hr
  obtain ⟨b19, b3, b6, b20, b22, b27, b0⟩ := CI_bs hI
  refine z_iconst (v := nI 0) B dX3_isBalanced_0 (by decide) ?_
  refine z_istore_n (lv1 := [(1, .int (nI (0))), (0, .ref (a 1))]) B dX3_isBalanced_1 rfl (by decide) rfl ?_
  refine z_iconst (v := nI 0) B dX3_isBalanced_2 (by decide) ?_
  refine z_istore_n (lv1 := [(2, .int (nI (0))), (1, .int (nI (0))), (0, .ref (a 1))]) B dX3_isBalanced_3 rfl (by decide) rfl ?_
  have loop4 : ∀ (n0 i : Nat), i ≤ cD C → cD C + 1 ≤ i + n0 → zJ X 3 (zI0 D (zs X)) (zQe X (vp_Si (fun r => r = bI (2 ≤ cD C ∧ zsum (C 2) (cD C) = 0))) 0 0 (fun _ => False)) (wC g a C m) 0 0 [(0, .ref (a 1)), (1, .int (zsum (C 2) i)), (2, .int (nI (i)))] 4 [] := by
    intro n4
    induction n4 with
    | zero => intro i h1 h2; exact absurd h2 (by omega)
    | succ n4 ih4 =>
      intro i hle4 hn4
      refine z_iload_n B 2 dX3_isBalanced_4 rfl rfl ?_
      refine z_aload_n B 0 dX3_isBalanced_5 rfl rfl ?_
      refine z_get (C := RX3) (T := TX3) (N := 3) (v := .int (C 3 0)) B 1 2 1 fw_X3_isBalanced_X3 rfl rfl (by decide) rfl rfl rfl dX3_isBalanced_6 ?_
      refine z_top (y := nI (cD C)) (CI_3 (C := C) hI) ?_
      refine z_icmpN_ge B 27 dX3_isBalanced_9 (by decide) (by omega) (by omega) (fun zc9 => ?_) (fun zc9 => ?_)
      · obtain rfl : i = cD C := by omega
        refine z_aload_n B 0 dX3_isBalanced_27 rfl rfl ?_
        refine z_get (C := RX3) (T := TX3) (N := 3) (v := .int (C 3 0)) B 1 2 1 fw_X3_isBalanced_X3 rfl rfl (by decide) rfl rfl rfl dX3_isBalanced_28 ?_
        refine z_top (y := nI (cD C)) (CI_3 (C := C) hI) ?_
        refine z_iconst (v := nI 2) B dX3_isBalanced_31 (by decide) ?_
        refine z_icmpN_lt B 43 dX3_isBalanced_32 (by decide) (by omega) (by omega) (fun zc32 => ?_) (fun zc32 => ?_)
        · refine z_iconst (v := nI 0) B dX3_isBalanced_43 (by decide) ?_
          exact z_pret B hr dX3_isBalanced_44 (nar_b (Or.inl rfl)) (by refine bI_z ?_; first | exact fun h => absurd h.1 (by omega) | exact fun h => zc36 h.2)
        · refine z_iload_n B 1 dX3_isBalanced_35 rfl rfl ?_
          refine z_if_ne B 43 dX3_isBalanced_36 (by decide) (fun zc36 => ?_) (fun zc36 => ?_)
          · refine z_iconst (v := nI 0) B dX3_isBalanced_43 (by decide) ?_
            exact z_pret B hr dX3_isBalanced_44 (nar_b (Or.inl rfl)) (by refine bI_z ?_; first | exact fun h => absurd h.1 (by omega) | exact fun h => zc36 h.2)
          · refine z_iconst (v := nI 1) B dX3_isBalanced_39 (by decide) ?_
            refine z_goto B 44 dX3_isBalanced_40 (by decide) ?_
            exact z_pret B hr dX3_isBalanced_44 (nar_b (Or.inr rfl)) (by refine bI_1 ?_; first | exact ⟨zc32, zc36⟩)
      · refine z_iload_n B 1 dX3_isBalanced_12 rfl rfl ?_
        refine z_aload_n B 0 dX3_isBalanced_13 rfl rfl ?_
        refine z_get (C := RX3) (T := TX3) (N := 3) (v := .ref (a 7)) B 1 1 2 fw_X3_isBalanced_X3 rfl rfl (by decide) rfl rfl rfl dX3_isBalanced_14 ?_
        refine z_iload_n B 2 dX3_isBalanced_17 rfl rfl ?_
        refine z_iald (g := (C 2)) (i := i) B 7 0 rfl rfl (by omega) (by decide) dX3_isBalanced_18 ?_
        refine z_iadd B dX3_isBalanced_19 ?_
        refine z_istore_n (lv1 := [(1, .int (((zsum (C 2) i) + (C 2 i)))), (0, .ref (a 1)), (2, .int (nI (i)))]) B dX3_isBalanced_20 rfl (by decide) rfl ?_
        refine z_iinc B 2 (lv1 := [(2, .int (nI (i + 1))), (1, .int (((zsum (C 2) i) + (C 2 i)))), (0, .ref (a 1))]) dX3_isBalanced_21 rfl (nI_1 _) (by decide) rfl ?_
        refine z_goto B 4 dX3_isBalanced_24 (by decide) ?_
        refine z_loc [2, 1, 0] (lv' := [(0, .ref (a 1)), (1, .int (((zsum (C 2) i) + (C 2 i)))), (2, .int (nI (i + 1)))]) rfl ?_
        refine z_lvc (lv' := [(0, .ref (a 1)), (1, .int (zsum (C 2) (i + 1))), (2, .int (nI ((i + 1))))]) (by rfl) ?_
        exact ih4 (i + 1) (by omega) (by omega)
  refine z_loc [2, 1, 0] (lv' := [(0, .ref (a 1)), (1, .int (nI (0))), (2, .int (nI (0)))]) rfl ?_
  refine z_lvc (lv' := [(0, .ref (a 1)), (1, .int (zsum (C 2) 0)), (2, .int (nI (0)))]) (by rfl) ?_
  exact loop4 (cD C + 1) 0 (by omega) (by omega)
set_option maxHeartbeats 4000000 in
set_option maxRecDepth 100000 in
theorem cc_X3_nextMark (l : Launch) (D : va_G) (g : zG) (a : Nat → Nat) (C : zMS) (m : Nat) (x : Int32) (y : Int32) : zPure l yX3_nextMark wsX3_nextMark { frames := 0, cells := 0, slots := 0, locals := 0 } D (zT g) (wC g a C m) [.int (x), .int (y)] (fun r => r = nMk x y) := by
  refine zPure_of (cc := cX3_nextMark) (maxL := 2) (ret := (some .int)) (own := RX3) [(0, .int (x)), (1, .int (y))] (by decide) rfl rfl rfl (Nat.le_of_ble_eq_true rfl) ?_
  intro X hl B hr
  refine z_sipush (v := nI 131) B dX3_nextMark_0 (by decide) ?_
  refine z_iload_n B 0 dX3_nextMark_3 rfl rfl ?_
  refine z_imul B dX3_nextMark_4 ?_
  refine z_bipush (v := nI 17) B dX3_nextMark_5 (by decide) ?_
  refine z_iload_n B 1 dX3_nextMark_7 rfl rfl ?_
  refine z_imul B dX3_nextMark_8 ?_
  refine z_iadd B dX3_nextMark_9 ?_
  refine z_bipush (v := nI 7) B dX3_nextMark_10 (by decide) ?_
  refine z_iadd B dX3_nextMark_12 ?_
  refine z_ldc (v := (1000003)) B 1 rfl dX3_nextMark_13 ?_
  refine z_irem B dX3_nextMark_15 (by decide) ?_
  exact z_pret B hr dX3_nextMark_16 rfl (by rfl)
theorem fw_X3_add_X3 : zF wsX3_add RX3 TX3 3 := fun _ h => List.mem_cons_of_mem _ (List.mem_append_right _ (h))
set_option maxHeartbeats 4000000 in
set_option maxRecDepth 100000 in
theorem cc_X3_add_D (l : Launch) (D : va_G) (g : zG) (a : Nat → Nat) (C : zMS) (m : Nat) (x : Int32) (y : Int32) (n : Nat) (hc : C 3 0 = nI n) (hn4 : n < 4) : zMutI l yX3_add wsX3_add { frames := 0, cells := 0, slots := 0, locals := 0 } D (zT g) (wC g a C m) [.ref (a 1), .int (x), .int (y)] (fun r w' => r = nI (n + 1) ∧ w' = wC g a (up2 (up2 (up2 C 1 n x) 2 n y) 3 0 (nI (n + 1))) m) 0 0 := by
  refine zMutI_of (cc := cX3_add) (maxL := 3) (ret := (some .int)) (own := RX3) [(0, .ref (a 1)), (1, .int (x)), (2, .int (y))] (by decide) rfl rfl rfl (Nat.le_of_ble_eq_true rfl) ?_
  intro X A hAe hl B hr hin
  refine z_aload_n B 0 dX3_add_0 rfl rfl ?_
  refine z_get (C := RX3) (T := TX3) (N := 3) (v := .ref (a 6)) B 1 0 1 fw_X3_add_X3 rfl rfl (by decide) rfl rfl rfl dX3_add_1 ?_
  refine z_aload_n B 0 dX3_add_4 rfl rfl ?_
  refine z_get (C := RX3) (T := TX3) (N := 3) (v := .int (C 3 0)) B 1 2 2 fw_X3_add_X3 rfl rfl (by decide) rfl rfl rfl dX3_add_5 ?_
  refine z_top (y := nI (n)) hc ?_
  refine z_iload_n B 1 dX3_add_8 rfl rfl ?_
  refine z_iast (g := (C 1)) (i := n) (w' := wC g a (up2 C 1 n x) m) B 6 0 rfl rfl (by omega) (by decide) dX3_add_9 (wC_f (by decide) rfl (fun f hf => up2_k (by omega))) ?_
  refine z_aload_n B 0 dX3_add_10 rfl rfl ?_
  refine z_get (C := RX3) (T := TX3) (N := 3) (v := .ref (a 7)) B 1 1 3 fw_X3_add_X3 rfl rfl (by decide) rfl rfl rfl dX3_add_11 ?_
  refine z_aload_n B 0 dX3_add_14 rfl rfl ?_
  refine z_get (C := RX3) (T := TX3) (N := 3) (v := .int (C 3 0)) B 1 2 2 fw_X3_add_X3 rfl rfl (by decide) rfl rfl rfl dX3_add_15 ?_
  refine z_top (y := nI (n)) hc ?_
  refine z_iload_n B 2 dX3_add_18 rfl rfl ?_
  refine z_iast (g := (C 2)) (i := n) (w' := wC g a (up2 (up2 C 1 n x) 2 n y) m) B 7 0 rfl rfl (by omega) (by decide) dX3_add_19 (wC_f (by decide) rfl (fun f hf => up2_k (by omega))) ?_
  refine z_aload_n B 0 dX3_add_20 rfl rfl ?_
  refine z_dup B dX3_add_21 rfl ?_
  refine z_get (C := RX3) (T := TX3) (N := 3) (v := .int (C 3 0)) B 1 2 2 fw_X3_add_X3 rfl rfl (by decide) rfl rfl rfl dX3_add_22 ?_
  refine z_top (y := nI (n)) hc ?_
  refine z_iconst (v := nI 1) B dX3_add_25 (by decide) ?_
  refine z_iaddN B dX3_add_26 ?_
  refine z_put (C := RX3) (T := TX3) (N := 3) (w' := wC g a (up2 (up2 (up2 C 1 n x) 2 n y) 3 0 (nI (n + 1))) m) B 1 2 2 fw_X3_add_X3 tyX3 tyX3_ok nmX3 rfl rfl (by decide) rfl rfl rfl rfl rfl (Nat.le_of_ble_eq_true rfl) dX3_add_27 (wC_f (by decide) rfl (fun f hf => up2_k (by omega))) ?_
  refine z_aload_n B 0 dX3_add_30 rfl rfl ?_
  refine z_get (C := RX3) (T := TX3) (N := 3) (v := .int (nI (n + 1))) B 1 2 2 fw_X3_add_X3 rfl rfl (by decide) rfl rfl rfl dX3_add_31 ?_
  exact z_mret B hAe hr dX3_add_34 rfl (by decide) (by decide) (by exact ⟨rfl, rfl⟩)
set_option maxHeartbeats 4000000 in
set_option maxRecDepth 100000 in
theorem cc_X3_add_O (l : Launch) (D : va_G) (g : zG) (a : Nat → Nat) (C : zMS) (m : Nat) (x : Int32) (y : Int32) (n : Nat) (hc : C 6 0 = nI n) (hn4 : n < 4) : zMutI l yX3_add wsX3_add { frames := 0, cells := 0, slots := 0, locals := 0 } D (zT g) (wC g a C m) [.ref (a 2), .int (x), .int (y)] (fun r w' => r = nI (n + 1) ∧ w' = wC g a (up2 (up2 (up2 C 4 n x) 5 n y) 6 0 (nI (n + 1))) m) 0 0 := by
  refine zMutI_of (cc := cX3_add) (maxL := 3) (ret := (some .int)) (own := RX3) [(0, .ref (a 2)), (1, .int (x)), (2, .int (y))] (by decide) rfl rfl rfl (Nat.le_of_ble_eq_true rfl) ?_
  intro X A hAe hl B hr hin
  refine z_aload_n B 0 dX3_add_0 rfl rfl ?_
  refine z_get (C := RX3) (T := TX3) (N := 3) (v := .ref (a 8)) B 2 0 1 fw_X3_add_X3 rfl rfl (by decide) rfl rfl rfl dX3_add_1 ?_
  refine z_aload_n B 0 dX3_add_4 rfl rfl ?_
  refine z_get (C := RX3) (T := TX3) (N := 3) (v := .int (C 6 0)) B 2 2 2 fw_X3_add_X3 rfl rfl (by decide) rfl rfl rfl dX3_add_5 ?_
  refine z_top (y := nI (n)) hc ?_
  refine z_iload_n B 1 dX3_add_8 rfl rfl ?_
  refine z_iast (g := (C 4)) (i := n) (w' := wC g a (up2 C 4 n x) m) B 8 0 rfl rfl (by omega) (by decide) dX3_add_9 (wC_f (by decide) rfl (fun f hf => up2_k (by omega))) ?_
  refine z_aload_n B 0 dX3_add_10 rfl rfl ?_
  refine z_get (C := RX3) (T := TX3) (N := 3) (v := .ref (a 9)) B 2 1 3 fw_X3_add_X3 rfl rfl (by decide) rfl rfl rfl dX3_add_11 ?_
  refine z_aload_n B 0 dX3_add_14 rfl rfl ?_
  refine z_get (C := RX3) (T := TX3) (N := 3) (v := .int (C 6 0)) B 2 2 2 fw_X3_add_X3 rfl rfl (by decide) rfl rfl rfl dX3_add_15 ?_
  refine z_top (y := nI (n)) hc ?_
  refine z_iload_n B 2 dX3_add_18 rfl rfl ?_
  refine z_iast (g := (C 5)) (i := n) (w' := wC g a (up2 (up2 C 4 n x) 5 n y) m) B 9 0 rfl rfl (by omega) (by decide) dX3_add_19 (wC_f (by decide) rfl (fun f hf => up2_k (by omega))) ?_
  refine z_aload_n B 0 dX3_add_20 rfl rfl ?_
  refine z_dup B dX3_add_21 rfl ?_
  refine z_get (C := RX3) (T := TX3) (N := 3) (v := .int (C 6 0)) B 2 2 2 fw_X3_add_X3 rfl rfl (by decide) rfl rfl rfl dX3_add_22 ?_
  refine z_top (y := nI (n)) hc ?_
  refine z_iconst (v := nI 1) B dX3_add_25 (by decide) ?_
  refine z_iaddN B dX3_add_26 ?_
  refine z_put (C := RX3) (T := TX3) (N := 3) (w' := wC g a (up2 (up2 (up2 C 4 n x) 5 n y) 6 0 (nI (n + 1))) m) B 2 2 2 fw_X3_add_X3 tyX3 tyX3_ok nmX3 rfl rfl (by decide) rfl rfl rfl rfl rfl (Nat.le_of_ble_eq_true rfl) dX3_add_27 (wC_f (by decide) rfl (fun f hf => up2_k (by omega))) ?_
  refine z_aload_n B 0 dX3_add_30 rfl rfl ?_
  refine z_get (C := RX3) (T := TX3) (N := 3) (v := .int (nI (n + 1))) B 2 2 2 fw_X3_add_X3 rfl rfl (by decide) rfl rfl rfl dX3_add_31 ?_
  exact z_mret B hAe hr dX3_add_34 rfl (by decide) (by decide) (by exact ⟨rfl, rfl⟩)
theorem fw_X3_clear_X3 : zF wsX3_clear RX3 TX3 3 := fun _ h => List.mem_cons_of_mem _ (List.mem_append_right _ (h))
set_option maxHeartbeats 4000000 in
set_option maxRecDepth 100000 in
theorem cc_X3_clear_D (l : Launch) (D : va_G) (g : zG) (a : Nat → Nat) (C : zMS) (m : Nat) (n : Nat) (hc : C 3 0 = nI n) : zMutI l yX3_clear wsX3_clear { frames := 0, cells := 0, slots := 0, locals := 0 } D (zT g) (wC g a C m) [.ref (a 1)] (fun r w' => r = nI (n) ∧ w' = wC g a (up2 C 3 0 (nI 0)) m) 0 0 := by
  refine zMutI_of (cc := cX3_clear) (maxL := 2) (ret := (some .int)) (own := RX3) [(0, .ref (a 1))] (by decide) rfl rfl rfl (Nat.le_of_ble_eq_true rfl) ?_
  intro X A hAe hl B hr hin
  refine z_aload_n B 0 dX3_clear_0 rfl rfl ?_
  refine z_get (C := RX3) (T := TX3) (N := 3) (v := .int (C 3 0)) B 1 2 1 fw_X3_clear_X3 rfl rfl (by decide) rfl rfl rfl dX3_clear_1 ?_
  refine z_top (y := nI (n)) hc ?_
  refine z_istore_n (lv1 := [(1, .int (nI (n))), (0, .ref (a 1))]) B dX3_clear_4 rfl (by decide) rfl ?_
  refine z_aload_n B 1 dX3_clear_5 rfl rfl ?_
  refine z_iconst (v := nI 0) B dX3_clear_6 (by decide) ?_
  refine z_put (C := RX3) (T := TX3) (N := 3) (w' := wC g a (up2 C 3 0 (nI (0))) m) B 1 2 1 fw_X3_clear_X3 tyX3 tyX3_ok nmX3 rfl rfl (by decide) rfl rfl rfl rfl rfl (Nat.le_of_ble_eq_true rfl) dX3_clear_7 (wC_f (by decide) rfl (fun f hf => up2_k (by omega))) ?_
  refine z_iload_n B 0 dX3_clear_10 rfl rfl ?_
  exact z_mret B hAe hr dX3_clear_11 rfl (by decide) (by decide) (by exact ⟨rfl, rfl⟩)
set_option maxHeartbeats 4000000 in
set_option maxRecDepth 100000 in
theorem cc_X3_clear_O (l : Launch) (D : va_G) (g : zG) (a : Nat → Nat) (C : zMS) (m : Nat) (n : Nat) (hc : C 6 0 = nI n) : zMutI l yX3_clear wsX3_clear { frames := 0, cells := 0, slots := 0, locals := 0 } D (zT g) (wC g a C m) [.ref (a 2)] (fun r w' => r = nI (n) ∧ w' = wC g a (up2 C 6 0 (nI 0)) m) 0 0 := by
  refine zMutI_of (cc := cX3_clear) (maxL := 2) (ret := (some .int)) (own := RX3) [(0, .ref (a 2))] (by decide) rfl rfl rfl (Nat.le_of_ble_eq_true rfl) ?_
  intro X A hAe hl B hr hin
  refine z_aload_n B 0 dX3_clear_0 rfl rfl ?_
  refine z_get (C := RX3) (T := TX3) (N := 3) (v := .int (C 6 0)) B 2 2 1 fw_X3_clear_X3 rfl rfl (by decide) rfl rfl rfl dX3_clear_1 ?_
  refine z_top (y := nI (n)) hc ?_
  refine z_istore_n (lv1 := [(1, .int (nI (n))), (0, .ref (a 2))]) B dX3_clear_4 rfl (by decide) rfl ?_
  refine z_aload_n B 1 dX3_clear_5 rfl rfl ?_
  refine z_iconst (v := nI 0) B dX3_clear_6 (by decide) ?_
  refine z_put (C := RX3) (T := TX3) (N := 3) (w' := wC g a (up2 C 6 0 (nI (0))) m) B 2 2 1 fw_X3_clear_X3 tyX3 tyX3_ok nmX3 rfl rfl (by decide) rfl rfl rfl rfl rfl (Nat.le_of_ble_eq_true rfl) dX3_clear_7 (wC_f (by decide) rfl (fun f hf => up2_k (by omega))) ?_
  refine z_iload_n B 0 dX3_clear_10 rfl rfl ?_
  exact z_mret B hAe hr dX3_clear_11 rfl (by decide) (by decide) (by exact ⟨rfl, rfl⟩)
theorem fw_X3_markWith_X3 : zF wsX3_markWith RX3 TX3 3 := fun _ h => List.mem_cons_of_mem _ (List.mem_append_right _ (h))
set_option maxHeartbeats 4000000 in
set_option maxRecDepth 100000 in
theorem cc_X3_markWith_D (l : Launch) (D : va_G) (g : zG) (a : Nat → Nat) (C : zMS) (m : Nat) (x : Int32) (y : Int32) (n : Nat) (hc : C 3 0 = nI n) (hn4 : n ≤ 4) : zPure l yX3_markWith wsX3_markWith { frames := 1, cells := 0, slots := 0, locals := 21 } D (zT g) (wC g a C m) [.ref (a 1), .int (x), .int (y)] (fun r => r = fMk (C 1) (C 2) (nMk (nMk (nI 1) x) y) n) := by
  refine zPure_of (cc := cX3_markWith) (maxL := 5) (ret := (some .int)) (own := RX3) [(0, .ref (a 1)), (1, .int (x)), (2, .int (y))] (by decide) rfl rfl rfl (Nat.le_of_ble_eq_true rfl) ?_
  intro X hl B hr
  refine z_iconst (v := nI 1) B dX3_markWith_0 (by decide) ?_
  refine z_iload_n B 1 dX3_markWith_1 rfl rfl ?_
  refine z_callS (As := [.int (nI (1)), .int (x)]) (st := []) (l := l) B hl (cc_X3_nextMark l D g a C m (nI (1)) x) gX3_markWith_X3_nextMark rfl ⟨rfl, rfl⟩ nm_X3_nextMark ⟨by decide, by decide⟩ (fun _ h => h) rfl (Nat.le_of_ble_eq_true rfl) dX3_markWith_2 (Nat.zero_le _) (Nat.zero_le _) (fun r hr => ?_)
  subst hr
  refine z_iload_n B 2 dX3_markWith_5 rfl rfl ?_
  refine z_callS (As := [.int (nMk (nI (1)) x), .int (y)]) (st := []) (l := l) B hl (cc_X3_nextMark l D g a C m (nMk (nI (1)) x) y) gX3_markWith_X3_nextMark rfl ⟨rfl, rfl⟩ nm_X3_nextMark ⟨by decide, by decide⟩ (fun _ h => h) rfl (Nat.le_of_ble_eq_true rfl) dX3_markWith_6 (Nat.zero_le _) (Nat.zero_le _) (fun r hr => ?_)
  subst hr
  refine z_istore_n (lv1 := [(3, .int (nMk (nMk (nI (1)) x) y)), (0, .ref (a 1)), (1, .int (x)), (2, .int (y))]) B dX3_markWith_9 rfl (by decide) rfl ?_
  refine z_iconst (v := nI 0) B dX3_markWith_10 (by decide) ?_
  refine z_istore (lv1 := [(4, .int (nI (0))), (3, .int (nMk (nMk (nI (1)) x) y)), (0, .ref (a 1)), (1, .int (x)), (2, .int (y))]) B dX3_markWith_11 (by decide) rfl ?_
  have loop13 : ∀ (n0 i : Nat), i ≤ n → n + 1 ≤ i + n0 → zJ X 5 (zI0 D (zs X)) (zQe X (vp_Si (fun r => r = fMk (C 1) (C 2) (nMk (nMk (nI 1) x) y) n)) 0 0 (fun _ => False)) (wC g a C m) 0 0 [(0, .ref (a 1)), (1, .int (x)), (2, .int (y)), (3, .int (fMk (C 1) (C 2) (nMk (nMk (nI 1) x) y) i)), (4, .int (nI (i)))] 13 [] := by
    intro n13
    induction n13 with
    | zero => intro i h1 h2; exact absurd h2 (by omega)
    | succ n13 ih13 =>
      intro i hle13 hn13
      refine z_iload B 4 dX3_markWith_13 rfl ?_
      refine z_aload_n B 0 dX3_markWith_15 rfl rfl ?_
      refine z_get (C := RX3) (T := TX3) (N := 3) (v := .int (C 3 0)) B 1 2 1 fw_X3_markWith_X3 rfl rfl (by decide) rfl rfl rfl dX3_markWith_16 ?_
      refine z_top (y := nI (n)) hc ?_
      refine z_icmpN_ge B 56 dX3_markWith_19 (by decide) (by omega) (by omega) (fun zc19 => ?_) (fun zc19 => ?_)
      · obtain rfl : n = i := by omega
        refine z_iload_n B 3 dX3_markWith_56 rfl rfl ?_
        exact z_pret B hr dX3_markWith_57 rfl (by rfl)
      · refine z_iload_n B 3 dX3_markWith_22 rfl rfl ?_
        refine z_aload_n B 0 dX3_markWith_23 rfl rfl ?_
        refine z_get (C := RX3) (T := TX3) (N := 3) (v := .ref (a 6)) B 1 0 2 fw_X3_markWith_X3 rfl rfl (by decide) rfl rfl rfl dX3_markWith_24 ?_
        refine z_iload B 4 dX3_markWith_27 rfl ?_
        refine z_iald (g := (C 1)) (i := i) B 6 0 rfl rfl (by omega) (by decide) dX3_markWith_29 ?_
        refine z_callS (As := [.int (fMk (C 1) (C 2) (nMk (nMk (nI 1) x) y) i), .int (C 1 i)]) (st := []) (l := l) B hl (cc_X3_nextMark l D g a C m (fMk (C 1) (C 2) (nMk (nMk (nI 1) x) y) i) (C 1 i)) gX3_markWith_X3_nextMark rfl ⟨rfl, rfl⟩ nm_X3_nextMark ⟨by decide, by decide⟩ (fun _ h => h) rfl (Nat.le_of_ble_eq_true rfl) dX3_markWith_30 (Nat.zero_le _) (Nat.zero_le _) (fun r hr => ?_)
        subst hr
        refine z_istore_n (lv1 := [(3, .int (nMk (fMk (C 1) (C 2) (nMk (nMk (nI 1) x) y) i) (C 1 i))), (0, .ref (a 1)), (1, .int (x)), (2, .int (y)), (4, .int (nI (i)))]) B dX3_markWith_33 rfl (by decide) rfl ?_
        refine z_iload_n B 0 dX3_markWith_34 rfl rfl ?_
        refine z_aload_n B 1 dX3_markWith_35 rfl rfl ?_
        refine z_get (C := RX3) (T := TX3) (N := 3) (v := .ref (a 7)) B 1 1 3 fw_X3_markWith_X3 rfl rfl (by decide) rfl rfl rfl dX3_markWith_36 ?_
        refine z_iload B 4 dX3_markWith_39 rfl ?_
        refine z_iald (g := (C 2)) (i := i) B 7 0 rfl rfl (by omega) (by decide) dX3_markWith_41 ?_
        refine z_sipush (v := nI 10000) B dX3_markWith_42 (by decide) ?_
        refine z_iadd B dX3_markWith_45 ?_
        refine z_callS (As := [.int (nMk (fMk (C 1) (C 2) (nMk (nMk (nI 1) x) y) i) (C 1 i)), .int (((C 2 i) + (nI (10000))))]) (st := []) (l := l) B hl (cc_X3_nextMark l D g a C m (nMk (fMk (C 1) (C 2) (nMk (nMk (nI 1) x) y) i) (C 1 i)) ((C 2 i) + (nI (10000)))) gX3_markWith_X3_nextMark rfl ⟨rfl, rfl⟩ nm_X3_nextMark ⟨by decide, by decide⟩ (fun _ h => h) rfl (Nat.le_of_ble_eq_true rfl) dX3_markWith_46 (Nat.zero_le _) (Nat.zero_le _) (fun r hr => ?_)
        subst hr
        refine z_istore_n (lv1 := [(3, .int (nMk (nMk (fMk (C 1) (C 2) (nMk (nMk (nI 1) x) y) i) (C 1 i)) ((C 2 i) + (nI (10000))))), (0, .ref (a 1)), (1, .int (x)), (2, .int (y)), (4, .int (nI (i)))]) B dX3_markWith_49 rfl (by decide) rfl ?_
        refine z_iinc B 4 (lv1 := [(4, .int (nI (i + 1))), (3, .int (nMk (nMk (fMk (C 1) (C 2) (nMk (nMk (nI 1) x) y) i) (C 1 i)) ((C 2 i) + (nI (10000))))), (0, .ref (a 1)), (1, .int (x)), (2, .int (y))]) dX3_markWith_50 rfl (nI_1 _) (by decide) rfl ?_
        refine z_goto B 13 dX3_markWith_53 (by decide) ?_
        refine z_loc [2, 3, 4, 1, 0] (lv' := [(0, .ref (a 1)), (1, .int (x)), (2, .int (y)), (3, .int (nMk (nMk (fMk (C 1) (C 2) (nMk (nMk (nI 1) x) y) i) (C 1 i)) ((C 2 i) + (nI (10000))))), (4, .int (nI (i + 1)))]) rfl ?_
        refine z_lvc (lv' := [(0, .ref (a 1)), (1, .int (x)), (2, .int (y)), (3, .int (fMk (C 1) (C 2) (nMk (nMk (nI 1) x) y) (i + 1))), (4, .int (nI ((i + 1))))]) (by rfl) ?_
        exact ih13 (i + 1) (by omega) (by omega)
  refine z_loc [2, 3, 4, 1, 0] (lv' := [(0, .ref (a 1)), (1, .int (x)), (2, .int (y)), (3, .int (nMk (nMk (nI (1)) x) y)), (4, .int (nI (0)))]) rfl ?_
  refine z_lvc (lv' := [(0, .ref (a 1)), (1, .int (x)), (2, .int (y)), (3, .int (fMk (C 1) (C 2) (nMk (nMk (nI 1) x) y) 0)), (4, .int (nI (0)))]) (by rfl) ?_
  exact loop13 (n + 1) 0 (by omega) (by omega)
set_option maxHeartbeats 4000000 in
set_option maxRecDepth 100000 in
theorem cc_X3_markWith_O (l : Launch) (D : va_G) (g : zG) (a : Nat → Nat) (C : zMS) (m : Nat) (x : Int32) (y : Int32) (n : Nat) (hc : C 6 0 = nI n) (hn4 : n ≤ 4) : zPure l yX3_markWith wsX3_markWith { frames := 1, cells := 0, slots := 0, locals := 21 } D (zT g) (wC g a C m) [.ref (a 2), .int (x), .int (y)] (fun r => r = fMk (C 4) (C 5) (nMk (nMk (nI 1) x) y) n) := by
  refine zPure_of (cc := cX3_markWith) (maxL := 5) (ret := (some .int)) (own := RX3) [(0, .ref (a 2)), (1, .int (x)), (2, .int (y))] (by decide) rfl rfl rfl (Nat.le_of_ble_eq_true rfl) ?_
  intro X hl B hr
  refine z_iconst (v := nI 1) B dX3_markWith_0 (by decide) ?_
  refine z_iload_n B 1 dX3_markWith_1 rfl rfl ?_
  refine z_callS (As := [.int (nI (1)), .int (x)]) (st := []) (l := l) B hl (cc_X3_nextMark l D g a C m (nI (1)) x) gX3_markWith_X3_nextMark rfl ⟨rfl, rfl⟩ nm_X3_nextMark ⟨by decide, by decide⟩ (fun _ h => h) rfl (Nat.le_of_ble_eq_true rfl) dX3_markWith_2 (Nat.zero_le _) (Nat.zero_le _) (fun r hr => ?_)
  subst hr
  refine z_iload_n B 2 dX3_markWith_5 rfl rfl ?_
  refine z_callS (As := [.int (nMk (nI (1)) x), .int (y)]) (st := []) (l := l) B hl (cc_X3_nextMark l D g a C m (nMk (nI (1)) x) y) gX3_markWith_X3_nextMark rfl ⟨rfl, rfl⟩ nm_X3_nextMark ⟨by decide, by decide⟩ (fun _ h => h) rfl (Nat.le_of_ble_eq_true rfl) dX3_markWith_6 (Nat.zero_le _) (Nat.zero_le _) (fun r hr => ?_)
  subst hr
  refine z_istore_n (lv1 := [(3, .int (nMk (nMk (nI (1)) x) y)), (0, .ref (a 2)), (1, .int (x)), (2, .int (y))]) B dX3_markWith_9 rfl (by decide) rfl ?_
  refine z_iconst (v := nI 0) B dX3_markWith_10 (by decide) ?_
  refine z_istore (lv1 := [(4, .int (nI (0))), (3, .int (nMk (nMk (nI (1)) x) y)), (0, .ref (a 2)), (1, .int (x)), (2, .int (y))]) B dX3_markWith_11 (by decide) rfl ?_
  have loop13 : ∀ (n0 i : Nat), i ≤ n → n + 1 ≤ i + n0 → zJ X 5 (zI0 D (zs X)) (zQe X (vp_Si (fun r => r = fMk (C 4) (C 5) (nMk (nMk (nI 1) x) y) n)) 0 0 (fun _ => False)) (wC g a C m) 0 0 [(0, .ref (a 2)), (1, .int (x)), (2, .int (y)), (3, .int (fMk (C 4) (C 5) (nMk (nMk (nI 1) x) y) i)), (4, .int (nI (i)))] 13 [] := by
    intro n13
    induction n13 with
    | zero => intro i h1 h2; exact absurd h2 (by omega)
    | succ n13 ih13 =>
      intro i hle13 hn13
      refine z_iload B 4 dX3_markWith_13 rfl ?_
      refine z_aload_n B 0 dX3_markWith_15 rfl rfl ?_
      refine z_get (C := RX3) (T := TX3) (N := 3) (v := .int (C 6 0)) B 2 2 1 fw_X3_markWith_X3 rfl rfl (by decide) rfl rfl rfl dX3_markWith_16 ?_
      refine z_top (y := nI (n)) hc ?_
      refine z_icmpN_ge B 56 dX3_markWith_19 (by decide) (by omega) (by omega) (fun zc19 => ?_) (fun zc19 => ?_)
      · obtain rfl : n = i := by omega
        refine z_iload_n B 3 dX3_markWith_56 rfl rfl ?_
        exact z_pret B hr dX3_markWith_57 rfl (by rfl)
      · refine z_iload_n B 3 dX3_markWith_22 rfl rfl ?_
        refine z_aload_n B 0 dX3_markWith_23 rfl rfl ?_
        refine z_get (C := RX3) (T := TX3) (N := 3) (v := .ref (a 8)) B 2 0 2 fw_X3_markWith_X3 rfl rfl (by decide) rfl rfl rfl dX3_markWith_24 ?_
        refine z_iload B 4 dX3_markWith_27 rfl ?_
        refine z_iald (g := (C 4)) (i := i) B 8 0 rfl rfl (by omega) (by decide) dX3_markWith_29 ?_
        refine z_callS (As := [.int (fMk (C 4) (C 5) (nMk (nMk (nI 1) x) y) i), .int (C 4 i)]) (st := []) (l := l) B hl (cc_X3_nextMark l D g a C m (fMk (C 4) (C 5) (nMk (nMk (nI 1) x) y) i) (C 4 i)) gX3_markWith_X3_nextMark rfl ⟨rfl, rfl⟩ nm_X3_nextMark ⟨by decide, by decide⟩ (fun _ h => h) rfl (Nat.le_of_ble_eq_true rfl) dX3_markWith_30 (Nat.zero_le _) (Nat.zero_le _) (fun r hr => ?_)
        subst hr
        refine z_istore_n (lv1 := [(3, .int (nMk (fMk (C 4) (C 5) (nMk (nMk (nI 1) x) y) i) (C 4 i))), (0, .ref (a 2)), (1, .int (x)), (2, .int (y)), (4, .int (nI (i)))]) B dX3_markWith_33 rfl (by decide) rfl ?_
        refine z_iload_n B 0 dX3_markWith_34 rfl rfl ?_
        refine z_aload_n B 1 dX3_markWith_35 rfl rfl ?_
        refine z_get (C := RX3) (T := TX3) (N := 3) (v := .ref (a 9)) B 2 1 3 fw_X3_markWith_X3 rfl rfl (by decide) rfl rfl rfl dX3_markWith_36 ?_
        refine z_iload B 4 dX3_markWith_39 rfl ?_
        refine z_iald (g := (C 5)) (i := i) B 9 0 rfl rfl (by omega) (by decide) dX3_markWith_41 ?_
        refine z_sipush (v := nI 10000) B dX3_markWith_42 (by decide) ?_
        refine z_iadd B dX3_markWith_45 ?_
        refine z_callS (As := [.int (nMk (fMk (C 4) (C 5) (nMk (nMk (nI 1) x) y) i) (C 4 i)), .int (((C 5 i) + (nI (10000))))]) (st := []) (l := l) B hl (cc_X3_nextMark l D g a C m (nMk (fMk (C 4) (C 5) (nMk (nMk (nI 1) x) y) i) (C 4 i)) ((C 5 i) + (nI (10000)))) gX3_markWith_X3_nextMark rfl ⟨rfl, rfl⟩ nm_X3_nextMark ⟨by decide, by decide⟩ (fun _ h => h) rfl (Nat.le_of_ble_eq_true rfl) dX3_markWith_46 (Nat.zero_le _) (Nat.zero_le _) (fun r hr => ?_)
        subst hr
        refine z_istore_n (lv1 := [(3, .int (nMk (nMk (fMk (C 4) (C 5) (nMk (nMk (nI 1) x) y) i) (C 4 i)) ((C 5 i) + (nI (10000))))), (0, .ref (a 2)), (1, .int (x)), (2, .int (y)), (4, .int (nI (i)))]) B dX3_markWith_49 rfl (by decide) rfl ?_
        refine z_iinc B 4 (lv1 := [(4, .int (nI (i + 1))), (3, .int (nMk (nMk (fMk (C 4) (C 5) (nMk (nMk (nI 1) x) y) i) (C 4 i)) ((C 5 i) + (nI (10000))))), (0, .ref (a 2)), (1, .int (x)), (2, .int (y))]) dX3_markWith_50 rfl (nI_1 _) (by decide) rfl ?_
        refine z_goto B 13 dX3_markWith_53 (by decide) ?_
        refine z_loc [2, 3, 4, 1, 0] (lv' := [(0, .ref (a 2)), (1, .int (x)), (2, .int (y)), (3, .int (nMk (nMk (fMk (C 4) (C 5) (nMk (nMk (nI 1) x) y) i) (C 4 i)) ((C 5 i) + (nI (10000))))), (4, .int (nI (i + 1)))]) rfl ?_
        refine z_lvc (lv' := [(0, .ref (a 2)), (1, .int (x)), (2, .int (y)), (3, .int (fMk (C 4) (C 5) (nMk (nMk (nI 1) x) y) (i + 1))), (4, .int (nI ((i + 1))))]) (by rfl) ?_
        exact ih13 (i + 1) (by omega) (by omega)
  refine z_loc [2, 3, 4, 1, 0] (lv' := [(0, .ref (a 2)), (1, .int (x)), (2, .int (y)), (3, .int (nMk (nMk (nI (1)) x) y)), (4, .int (nI (0)))]) rfl ?_
  refine z_lvc (lv' := [(0, .ref (a 2)), (1, .int (x)), (2, .int (y)), (3, .int (fMk (C 4) (C 5) (nMk (nMk (nI 1) x) y) 0)), (4, .int (nI (0)))]) (by rfl) ?_
  exact loop13 (n + 1) 0 (by omega) (by omega)
theorem fw_X4_isFilled_X4 : zF wsX4_isFilled RX4 TX4 2 := fun _ h => List.mem_cons_of_mem _ (List.mem_append_right _ (h))
set_option maxHeartbeats 4000000 in
set_option maxRecDepth 100000 in
theorem cc_X4_isFilled_N (l : Launch) (D : va_G) (g : zG) (a : Nat → Nat) (C : zMS) (m : Nat) (hI : CI C) (j : Nat) (hj : j < 80) : zPure l yX4_isFilled wsX4_isFilled { frames := 0, cells := 0, slots := 0, locals := 0 } D (zT g) (wC g a C m) [.ref (a 19), .int (nI (j))] (fun r => r = C 17 j) := by
  refine zPure_of (cc := cX4_isFilled) (maxL := 2) (ret := (some .boolean)) (own := RX4) [(0, .ref (a 19)), (1, .int (nI (j)))] (by decide) rfl rfl rfl (Nat.le_of_ble_eq_true rfl) ?_
  intro X hl B hr
  obtain ⟨b19, b3, b6, b20, b22, b27, b0⟩ := CI_bs hI
  refine z_aload_n B 0 dX4_isFilled_0 rfl rfl ?_
  refine z_get (C := RX4) (T := TX4) (N := 2) (v := .ref (a 28)) B 19 0 1 fw_X4_isFilled_X4 rfl rfl (by decide) rfl rfl rfl dX4_isFilled_1 ?_
  refine z_iload_n B 1 dX4_isFilled_4 rfl rfl ?_
  refine z_zald (g := (C 17)) (i := j) B 28 1 rfl rfl (by omega) (by decide) dX4_isFilled_5 ?_
  exact z_pret B hr dX4_isFilled_6 (nar_b (CI_z17 (C := C) hI _)) (by rfl)
set_option maxHeartbeats 4000000 in
set_option maxRecDepth 100000 in
theorem cc_X4_isFilled_K (l : Launch) (D : va_G) (g : zG) (a : Nat → Nat) (C : zMS) (m : Nat) (hI : CI C) (k : Nat) (hk : 4 * k + 3 < m) (j : Nat) (hj : j < 80) : zPure l yX4_isFilled wsX4_isFilled { frames := 0, cells := 0, slots := 0, locals := 0 } D (zT g) (wC g a C m) [.ref (a (31 + 4 * k)), .int (nI (j))] (fun r => r = C (44 + 8 * k) j) := by
  refine zPure_of (cc := cX4_isFilled) (maxL := 2) (ret := (some .boolean)) (own := RX4) [(0, .ref (a (31 + 4 * k))), (1, .int (nI (j)))] (by decide) rfl rfl rfl (Nat.le_of_ble_eq_true rfl) ?_
  intro X hl B hr
  obtain ⟨b19, b3, b6, b20, b22, b27, b0⟩ := CI_bs hI
  refine z_aload_n B 0 dX4_isFilled_0 rfl rfl ?_
  refine z_get (C := RX4) (T := TX4) (N := 2) (v := .ref (a (32 + 4 * k))) B (31 + 4 * k) 0 1 fw_X4_isFilled_X4 (wC_c1 (by omega)) rfl (by decide) rfl rfl rfl dX4_isFilled_1 ?_
  refine z_iload_n B 1 dX4_isFilled_4 rfl rfl ?_
  refine z_zald (g := (C (44 + 8 * k))) (i := j) B (32 + 4 * k) 1 (wC_c2 (by omega)) rfl (by omega) (by decide) dX4_isFilled_5 ?_
  exact z_pret B hr dX4_isFilled_6 (nar_b (CI_z44 (C := C) hI _ _)) (by rfl)
theorem fw_X4_amountOf_X4 : zF wsX4_amountOf RX4 TX4 2 := fun _ h => List.mem_cons_of_mem _ (List.mem_append_right _ (h))
set_option maxHeartbeats 4000000 in
set_option maxRecDepth 100000 in
theorem cc_X4_amountOf_W (l : Launch) (D : va_G) (g : zG) (a : Nat → Nat) (C : zMS) (m : Nat) (j : Nat) (hj : j < 80) (b : Nat) (hb4 : b < 4) : zPure l yX4_amountOf wsX4_amountOf { frames := 0, cells := 0, slots := 0, locals := 0 } D (zT g) (wC g a C m) [.ref (a 18), .int (nI (j)), .int (nI (b))] (fun r => r = C 16 (j * 4 + b)) := by
  refine zPure_of (cc := cX4_amountOf) (maxL := 3) (ret := (some .int)) (own := RX4) [(0, .ref (a 18)), (1, .int (nI (j))), (2, .int (nI (b)))] (by decide) rfl rfl rfl (Nat.le_of_ble_eq_true rfl) ?_
  intro X hl B hr
  refine z_aload_n B 0 dX4_amountOf_0 rfl rfl ?_
  refine z_get (C := RX4) (T := TX4) (N := 2) (v := .ref (a 27)) B 18 1 1 fw_X4_amountOf_X4 rfl rfl (by decide) rfl rfl rfl dX4_amountOf_1 ?_
  refine z_iload_n B 1 dX4_amountOf_4 rfl rfl ?_
  refine z_iconst (v := nI 4) B dX4_amountOf_5 (by decide) ?_
  refine z_imulN B dX4_amountOf_6 ?_
  refine z_iload_n B 2 dX4_amountOf_7 rfl rfl ?_
  refine z_iaddN B dX4_amountOf_8 ?_
  refine z_iald (g := (C 16)) (i := j * 4 + b) B 27 0 rfl rfl (by omega) (by decide) dX4_amountOf_9 ?_
  exact z_pret B hr dX4_amountOf_10 rfl (by rfl)
set_option maxHeartbeats 4000000 in
set_option maxRecDepth 100000 in
theorem cc_X4_amountOf_N (l : Launch) (D : va_G) (g : zG) (a : Nat → Nat) (C : zMS) (m : Nat) (j : Nat) (hj : j < 80) (b : Nat) (hb4 : b < 4) : zPure l yX4_amountOf wsX4_amountOf { frames := 0, cells := 0, slots := 0, locals := 0 } D (zT g) (wC g a C m) [.ref (a 19), .int (nI (j)), .int (nI (b))] (fun r => r = C 18 (j * 4 + b)) := by
  refine zPure_of (cc := cX4_amountOf) (maxL := 3) (ret := (some .int)) (own := RX4) [(0, .ref (a 19)), (1, .int (nI (j))), (2, .int (nI (b)))] (by decide) rfl rfl rfl (Nat.le_of_ble_eq_true rfl) ?_
  intro X hl B hr
  refine z_aload_n B 0 dX4_amountOf_0 rfl rfl ?_
  refine z_get (C := RX4) (T := TX4) (N := 2) (v := .ref (a 29)) B 19 1 1 fw_X4_amountOf_X4 rfl rfl (by decide) rfl rfl rfl dX4_amountOf_1 ?_
  refine z_iload_n B 1 dX4_amountOf_4 rfl rfl ?_
  refine z_iconst (v := nI 4) B dX4_amountOf_5 (by decide) ?_
  refine z_imulN B dX4_amountOf_6 ?_
  refine z_iload_n B 2 dX4_amountOf_7 rfl rfl ?_
  refine z_iaddN B dX4_amountOf_8 ?_
  refine z_iald (g := (C 18)) (i := j * 4 + b) B 29 0 rfl rfl (by omega) (by decide) dX4_amountOf_9 ?_
  exact z_pret B hr dX4_amountOf_10 rfl (by rfl)
set_option maxHeartbeats 4000000 in
set_option maxRecDepth 100000 in
theorem cc_X4_amountOf_K (l : Launch) (D : va_G) (g : zG) (a : Nat → Nat) (C : zMS) (m : Nat) (k : Nat) (hk : 4 * k + 3 < m) (j : Nat) (hj : j < 80) (b : Nat) (hb4 : b < 4) : zPure l yX4_amountOf wsX4_amountOf { frames := 0, cells := 0, slots := 0, locals := 0 } D (zT g) (wC g a C m) [.ref (a (31 + 4 * k)), .int (nI (j)), .int (nI (b))] (fun r => r = C (45 + 8 * k) (j * 4 + b)) := by
  refine zPure_of (cc := cX4_amountOf) (maxL := 3) (ret := (some .int)) (own := RX4) [(0, .ref (a (31 + 4 * k))), (1, .int (nI (j))), (2, .int (nI (b)))] (by decide) rfl rfl rfl (Nat.le_of_ble_eq_true rfl) ?_
  intro X hl B hr
  refine z_aload_n B 0 dX4_amountOf_0 rfl rfl ?_
  refine z_get (C := RX4) (T := TX4) (N := 2) (v := .ref (a (33 + 4 * k))) B (31 + 4 * k) 1 1 fw_X4_amountOf_X4 (wC_c1 (by omega)) rfl (by decide) rfl rfl rfl dX4_amountOf_1 ?_
  refine z_iload_n B 1 dX4_amountOf_4 rfl rfl ?_
  refine z_iconst (v := nI 4) B dX4_amountOf_5 (by decide) ?_
  refine z_imulN B dX4_amountOf_6 ?_
  refine z_iload_n B 2 dX4_amountOf_7 rfl rfl ?_
  refine z_iaddN B dX4_amountOf_8 ?_
  refine z_iald (g := (C (45 + 8 * k))) (i := j * 4 + b) B (33 + 4 * k) 0 (wC_c3 (by omega)) rfl (by omega) (by decide) dX4_amountOf_9 ?_
  exact z_pret B hr dX4_amountOf_10 rfl (by rfl)
theorem fw_X4_isLike_X4 : zF wsX4_isLike RX4 TX4 2 := fun _ h => List.mem_cons_of_mem _ (List.mem_append_right _ (h))
set_option maxHeartbeats 4000000 in
set_option maxRecDepth 100000 in
theorem cc_X4_isLike_NW (l : Launch) (D : va_G) (g : zG) (a : Nat → Nat) (C : zMS) (m : Nat) (hI : CI C) (j : Nat) (hj : j < 80) : zPure l yX4_isLike wsX4_isLike { frames := 1, cells := 0, slots := 0, locals := 22 } D (zT g) (wC g a C m) [.ref (a 19), .ref (a 18), .int (nI (j))] (fun r => r = bI (Lk C 17 18 15 16 j)) := by
  refine zPure_of (cc := cX4_isLike) (maxL := 4) (ret := (some .boolean)) (own := RX4) [(0, .ref (a 19)), (1, .ref (a 18)), (2, .int (nI (j)))] (by decide) rfl rfl rfl (Nat.le_of_ble_eq_true rfl) ?_
  intro X hl B hr
  obtain ⟨b19, b3, b6, b20, b22, b27, b0⟩ := CI_bs hI
  refine z_aload_n B 0 dX4_isLike_0 rfl rfl ?_
  refine z_get (C := RX4) (T := TX4) (N := 2) (v := .ref (a 28)) B 19 0 1 fw_X4_isLike_X4 rfl rfl (by decide) rfl rfl rfl dX4_isLike_1 ?_
  refine z_iload_n B 2 dX4_isLike_4 rfl rfl ?_
  refine z_zald (g := (C 17)) (i := j) B 28 1 rfl rfl (by omega) (by decide) dX4_isLike_5 ?_
  refine z_aload_n B 1 dX4_isLike_6 rfl rfl ?_
  refine z_get (C := RX4) (T := TX4) (N := 2) (v := .ref (a 26)) B 18 0 1 fw_X4_isLike_X4 rfl rfl (by decide) rfl rfl rfl dX4_isLike_7 ?_
  refine z_iload_n B 2 dX4_isLike_10 rfl rfl ?_
  refine z_zald (g := (C 15)) (i := j) B 26 1 rfl rfl (by omega) (by decide) dX4_isLike_11 ?_
  refine z_icmp_eq B 17 dX4_isLike_12 (by decide) (fun zc12 => ?_) (fun zc12 => ?_)
  · refine z_iconst (v := nI 0) B dX4_isLike_17 (by decide) ?_
    refine z_istore_n (lv1 := [(3, .int (nI (0))), (0, .ref (a 19)), (1, .ref (a 18)), (2, .int (nI (j)))]) B dX4_isLike_18 rfl (by decide) rfl ?_
    have loop19 : ∀ (n0 i : Nat), i ≤ 4 → 4 + 1 ≤ i + n0 → (∀ l, l < i → C 18 (j * 4 + l) = C 16 (j * 4 + l)) → zJ X 4 (zI0 D (zs X)) (zQe X (vp_Si (fun r => r = bI (Lk C 17 18 15 16 j))) 0 0 (fun _ => False)) (wC g a C m) 0 0 [(0, .ref (a 19)), (1, .ref (a 18)), (2, .int (nI (j))), (3, .int (nI (i)))] 19 [] := by
      intro n19
      induction n19 with
      | zero => intro i h1 h2; exact absurd h2 (by omega)
      | succ n19 ih19 =>
        intro i hle19 hn19 hal
        refine z_iload_n B 3 dX4_isLike_19 rfl rfl ?_
        refine z_iconst (v := nI 4) B dX4_isLike_20 (by decide) ?_
        refine z_icmpN_ge B 47 dX4_isLike_21 (by decide) (by omega) (by omega) (fun zc21 => ?_) (fun zc21 => ?_)
        · obtain rfl : i = 4 := by omega
          refine z_iconst (v := nI 1) B dX4_isLike_47 (by decide) ?_
          exact z_pret B hr dX4_isLike_48 (nar_b (Or.inr rfl)) (by refine bI_1 ?_; exact ⟨zc12, hal⟩)
        · refine z_aload_n B 0 dX4_isLike_24 rfl rfl ?_
          refine z_iload_n B 2 dX4_isLike_25 rfl rfl ?_
          refine z_iload_n B 3 dX4_isLike_26 rfl rfl ?_
          refine z_callP (As := [.int (nI (j)), .int (nI (i))]) (st := []) (C := RX4) (T := TX4) (N := 2) (ci := 4) (l := l) B hl (cc_X4_amountOf_N l D g a C m j (by omega) i (by omega)) gX4_isLike_X4_amountOf rfl ⟨rfl, rfl⟩ nm_X4_amountOf ⟨by decide, by decide⟩ (fun _ h => h) 19 rfl rfl rfl (Nat.le_of_ble_eq_true rfl) dX4_isLike_27 (Nat.zero_le _) (Nat.zero_le _) (fun r hr => ?_)
          subst hr
          refine z_aload_n B 1 dX4_isLike_30 rfl rfl ?_
          refine z_iload_n B 2 dX4_isLike_31 rfl rfl ?_
          refine z_iload_n B 3 dX4_isLike_32 rfl rfl ?_
          refine z_callP (As := [.int (nI (j)), .int (nI (i))]) (st := [.int (C 18 (j * 4 + i))]) (C := RX4) (T := TX4) (N := 2) (ci := 4) (l := l) B hl (cc_X4_amountOf_W l D g a C m j (by omega) i (by omega)) gX4_isLike_X4_amountOf rfl ⟨rfl, rfl⟩ nm_X4_amountOf ⟨by decide, by decide⟩ (fun _ h => h) 18 rfl rfl rfl (Nat.le_of_ble_eq_true rfl) dX4_isLike_33 (Nat.zero_le _) (Nat.zero_le _) (fun r hr => ?_)
          subst hr
          refine z_icmp_eq B 41 dX4_isLike_36 (by decide) (fun zc36 => ?_) (fun zc36 => ?_)
          · refine z_iinc B 3 (lv1 := [(3, .int (nI (i + 1))), (0, .ref (a 19)), (1, .ref (a 18)), (2, .int (nI (j)))]) dX4_isLike_41 rfl (nI_1 _) (by decide) rfl ?_
            refine z_goto B 19 dX4_isLike_44 (by decide) ?_
            refine z_loc [1, 2, 3, 0] (lv' := [(0, .ref (a 19)), (1, .ref (a 18)), (2, .int (nI (j))), (3, .int (nI (i + 1)))]) rfl ?_
            refine z_lvc (lv' := [(0, .ref (a 19)), (1, .ref (a 18)), (2, .int (nI (j))), (3, .int (nI ((i + 1))))]) (by rfl) ?_
            exact ih19 (i + 1) (by omega) (by omega) (all_s.mpr ⟨hal, zc36⟩)
          · refine z_iconst (v := nI 0) B dX4_isLike_39 (by decide) ?_
            exact z_pret B hr dX4_isLike_40 (nar_b (Or.inl rfl)) (by refine bI_z ?_; exact fun h => zc36 (h.2 i (by omega)))
    refine z_loc [1, 2, 3, 0] (lv' := [(0, .ref (a 19)), (1, .ref (a 18)), (2, .int (nI (j))), (3, .int (nI (0)))]) rfl ?_
    exact loop19 (4 + 1) 0 (by omega) (by omega) (fun l hl => absurd hl (Nat.not_lt_zero l))
  · refine z_iconst (v := nI 0) B dX4_isLike_15 (by decide) ?_
    exact z_pret B hr dX4_isLike_16 (nar_b (Or.inl rfl)) (by refine bI_z ?_; exact fun h => zc12 h.1)
set_option maxHeartbeats 4000000 in
set_option maxRecDepth 100000 in
theorem cc_X4_isLike_KW (l : Launch) (D : va_G) (g : zG) (a : Nat → Nat) (C : zMS) (m : Nat) (hI : CI C) (k : Nat) (hk : 4 * k + 3 < m) (j : Nat) (hj : j < 80) : zPure l yX4_isLike wsX4_isLike { frames := 1, cells := 0, slots := 0, locals := 22 } D (zT g) (wC g a C m) [.ref (a (31 + 4 * k)), .ref (a 18), .int (nI (j))] (fun r => r = bI (Lk C (44 + 8 * k) (45 + 8 * k) 15 16 j)) := by
  refine zPure_of (cc := cX4_isLike) (maxL := 4) (ret := (some .boolean)) (own := RX4) [(0, .ref (a (31 + 4 * k))), (1, .ref (a 18)), (2, .int (nI (j)))] (by decide) rfl rfl rfl (Nat.le_of_ble_eq_true rfl) ?_
  intro X hl B hr
  obtain ⟨b19, b3, b6, b20, b22, b27, b0⟩ := CI_bs hI
  refine z_aload_n B 0 dX4_isLike_0 rfl rfl ?_
  refine z_get (C := RX4) (T := TX4) (N := 2) (v := .ref (a (32 + 4 * k))) B (31 + 4 * k) 0 1 fw_X4_isLike_X4 (wC_c1 (by omega)) rfl (by decide) rfl rfl rfl dX4_isLike_1 ?_
  refine z_iload_n B 2 dX4_isLike_4 rfl rfl ?_
  refine z_zald (g := (C (44 + 8 * k))) (i := j) B (32 + 4 * k) 1 (wC_c2 (by omega)) rfl (by omega) (by decide) dX4_isLike_5 ?_
  refine z_aload_n B 1 dX4_isLike_6 rfl rfl ?_
  refine z_get (C := RX4) (T := TX4) (N := 2) (v := .ref (a 26)) B 18 0 1 fw_X4_isLike_X4 rfl rfl (by decide) rfl rfl rfl dX4_isLike_7 ?_
  refine z_iload_n B 2 dX4_isLike_10 rfl rfl ?_
  refine z_zald (g := (C 15)) (i := j) B 26 1 rfl rfl (by omega) (by decide) dX4_isLike_11 ?_
  refine z_icmp_eq B 17 dX4_isLike_12 (by decide) (fun zc12 => ?_) (fun zc12 => ?_)
  · refine z_iconst (v := nI 0) B dX4_isLike_17 (by decide) ?_
    refine z_istore_n (lv1 := [(3, .int (nI (0))), (0, .ref (a (31 + 4 * k))), (1, .ref (a 18)), (2, .int (nI (j)))]) B dX4_isLike_18 rfl (by decide) rfl ?_
    have loop19 : ∀ (n0 i : Nat), i ≤ 4 → 4 + 1 ≤ i + n0 → (∀ l, l < i → C (45 + 8 * k) (j * 4 + l) = C 16 (j * 4 + l)) → zJ X 4 (zI0 D (zs X)) (zQe X (vp_Si (fun r => r = bI (Lk C (44 + 8 * k) (45 + 8 * k) 15 16 j))) 0 0 (fun _ => False)) (wC g a C m) 0 0 [(0, .ref (a (31 + 4 * k))), (1, .ref (a 18)), (2, .int (nI (j))), (3, .int (nI (i)))] 19 [] := by
      intro n19
      induction n19 with
      | zero => intro i h1 h2; exact absurd h2 (by omega)
      | succ n19 ih19 =>
        intro i hle19 hn19 hal
        refine z_iload_n B 3 dX4_isLike_19 rfl rfl ?_
        refine z_iconst (v := nI 4) B dX4_isLike_20 (by decide) ?_
        refine z_icmpN_ge B 47 dX4_isLike_21 (by decide) (by omega) (by omega) (fun zc21 => ?_) (fun zc21 => ?_)
        · obtain rfl : i = 4 := by omega
          refine z_iconst (v := nI 1) B dX4_isLike_47 (by decide) ?_
          exact z_pret B hr dX4_isLike_48 (nar_b (Or.inr rfl)) (by refine bI_1 ?_; exact ⟨zc12, hal⟩)
        · refine z_aload_n B 0 dX4_isLike_24 rfl rfl ?_
          refine z_iload_n B 2 dX4_isLike_25 rfl rfl ?_
          refine z_iload_n B 3 dX4_isLike_26 rfl rfl ?_
          refine z_callP (As := [.int (nI (j)), .int (nI (i))]) (st := []) (C := RX4) (T := TX4) (N := 2) (ci := 4) (l := l) B hl (cc_X4_amountOf_K l D g a C m k (by omega) j (by omega) i (by omega)) gX4_isLike_X4_amountOf rfl ⟨rfl, rfl⟩ nm_X4_amountOf ⟨by decide, by decide⟩ (fun _ h => h) (31 + 4 * k) (wC_c1 (by omega)) rfl rfl (Nat.le_of_ble_eq_true rfl) dX4_isLike_27 (Nat.zero_le _) (Nat.zero_le _) (fun r hr => ?_)
          subst hr
          refine z_aload_n B 1 dX4_isLike_30 rfl rfl ?_
          refine z_iload_n B 2 dX4_isLike_31 rfl rfl ?_
          refine z_iload_n B 3 dX4_isLike_32 rfl rfl ?_
          refine z_callP (As := [.int (nI (j)), .int (nI (i))]) (st := [.int (C (45 + 8 * k) (j * 4 + i))]) (C := RX4) (T := TX4) (N := 2) (ci := 4) (l := l) B hl (cc_X4_amountOf_W l D g a C m j (by omega) i (by omega)) gX4_isLike_X4_amountOf rfl ⟨rfl, rfl⟩ nm_X4_amountOf ⟨by decide, by decide⟩ (fun _ h => h) 18 rfl rfl rfl (Nat.le_of_ble_eq_true rfl) dX4_isLike_33 (Nat.zero_le _) (Nat.zero_le _) (fun r hr => ?_)
          subst hr
          refine z_icmp_eq B 41 dX4_isLike_36 (by decide) (fun zc36 => ?_) (fun zc36 => ?_)
          · refine z_iinc B 3 (lv1 := [(3, .int (nI (i + 1))), (0, .ref (a (31 + 4 * k))), (1, .ref (a 18)), (2, .int (nI (j)))]) dX4_isLike_41 rfl (nI_1 _) (by decide) rfl ?_
            refine z_goto B 19 dX4_isLike_44 (by decide) ?_
            refine z_loc [1, 2, 3, 0] (lv' := [(0, .ref (a (31 + 4 * k))), (1, .ref (a 18)), (2, .int (nI (j))), (3, .int (nI (i + 1)))]) rfl ?_
            refine z_lvc (lv' := [(0, .ref (a (31 + 4 * k))), (1, .ref (a 18)), (2, .int (nI (j))), (3, .int (nI ((i + 1))))]) (by rfl) ?_
            exact ih19 (i + 1) (by omega) (by omega) (all_s.mpr ⟨hal, zc36⟩)
          · refine z_iconst (v := nI 0) B dX4_isLike_39 (by decide) ?_
            exact z_pret B hr dX4_isLike_40 (nar_b (Or.inl rfl)) (by refine bI_z ?_; exact fun h => zc36 (h.2 i (by omega)))
    refine z_loc [1, 2, 3, 0] (lv' := [(0, .ref (a (31 + 4 * k))), (1, .ref (a 18)), (2, .int (nI (j))), (3, .int (nI (0)))]) rfl ?_
    exact loop19 (4 + 1) 0 (by omega) (by omega) (fun l hl => absurd hl (Nat.not_lt_zero l))
  · refine z_iconst (v := nI 0) B dX4_isLike_15 (by decide) ?_
    exact z_pret B hr dX4_isLike_16 (nar_b (Or.inl rfl)) (by refine bI_z ?_; exact fun h => zc12 h.1)
set_option maxHeartbeats 4000000 in
set_option maxRecDepth 100000 in
theorem cc_X4_isLike_KN (l : Launch) (D : va_G) (g : zG) (a : Nat → Nat) (C : zMS) (m : Nat) (hI : CI C) (k : Nat) (hk : 4 * k + 3 < m) (j : Nat) (hj : j < 80) : zPure l yX4_isLike wsX4_isLike { frames := 1, cells := 0, slots := 0, locals := 22 } D (zT g) (wC g a C m) [.ref (a (31 + 4 * k)), .ref (a 19), .int (nI (j))] (fun r => r = bI (Lk C (44 + 8 * k) (45 + 8 * k) 17 18 j)) := by
  refine zPure_of (cc := cX4_isLike) (maxL := 4) (ret := (some .boolean)) (own := RX4) [(0, .ref (a (31 + 4 * k))), (1, .ref (a 19)), (2, .int (nI (j)))] (by decide) rfl rfl rfl (Nat.le_of_ble_eq_true rfl) ?_
  intro X hl B hr
  obtain ⟨b19, b3, b6, b20, b22, b27, b0⟩ := CI_bs hI
  refine z_aload_n B 0 dX4_isLike_0 rfl rfl ?_
  refine z_get (C := RX4) (T := TX4) (N := 2) (v := .ref (a (32 + 4 * k))) B (31 + 4 * k) 0 1 fw_X4_isLike_X4 (wC_c1 (by omega)) rfl (by decide) rfl rfl rfl dX4_isLike_1 ?_
  refine z_iload_n B 2 dX4_isLike_4 rfl rfl ?_
  refine z_zald (g := (C (44 + 8 * k))) (i := j) B (32 + 4 * k) 1 (wC_c2 (by omega)) rfl (by omega) (by decide) dX4_isLike_5 ?_
  refine z_aload_n B 1 dX4_isLike_6 rfl rfl ?_
  refine z_get (C := RX4) (T := TX4) (N := 2) (v := .ref (a 28)) B 19 0 1 fw_X4_isLike_X4 rfl rfl (by decide) rfl rfl rfl dX4_isLike_7 ?_
  refine z_iload_n B 2 dX4_isLike_10 rfl rfl ?_
  refine z_zald (g := (C 17)) (i := j) B 28 1 rfl rfl (by omega) (by decide) dX4_isLike_11 ?_
  refine z_icmp_eq B 17 dX4_isLike_12 (by decide) (fun zc12 => ?_) (fun zc12 => ?_)
  · refine z_iconst (v := nI 0) B dX4_isLike_17 (by decide) ?_
    refine z_istore_n (lv1 := [(3, .int (nI (0))), (0, .ref (a (31 + 4 * k))), (1, .ref (a 19)), (2, .int (nI (j)))]) B dX4_isLike_18 rfl (by decide) rfl ?_
    have loop19 : ∀ (n0 i : Nat), i ≤ 4 → 4 + 1 ≤ i + n0 → (∀ l, l < i → C (45 + 8 * k) (j * 4 + l) = C 18 (j * 4 + l)) → zJ X 4 (zI0 D (zs X)) (zQe X (vp_Si (fun r => r = bI (Lk C (44 + 8 * k) (45 + 8 * k) 17 18 j))) 0 0 (fun _ => False)) (wC g a C m) 0 0 [(0, .ref (a (31 + 4 * k))), (1, .ref (a 19)), (2, .int (nI (j))), (3, .int (nI (i)))] 19 [] := by
      intro n19
      induction n19 with
      | zero => intro i h1 h2; exact absurd h2 (by omega)
      | succ n19 ih19 =>
        intro i hle19 hn19 hal
        refine z_iload_n B 3 dX4_isLike_19 rfl rfl ?_
        refine z_iconst (v := nI 4) B dX4_isLike_20 (by decide) ?_
        refine z_icmpN_ge B 47 dX4_isLike_21 (by decide) (by omega) (by omega) (fun zc21 => ?_) (fun zc21 => ?_)
        · obtain rfl : i = 4 := by omega
          refine z_iconst (v := nI 1) B dX4_isLike_47 (by decide) ?_
          exact z_pret B hr dX4_isLike_48 (nar_b (Or.inr rfl)) (by refine bI_1 ?_; exact ⟨zc12, hal⟩)
        · refine z_aload_n B 0 dX4_isLike_24 rfl rfl ?_
          refine z_iload_n B 2 dX4_isLike_25 rfl rfl ?_
          refine z_iload_n B 3 dX4_isLike_26 rfl rfl ?_
          refine z_callP (As := [.int (nI (j)), .int (nI (i))]) (st := []) (C := RX4) (T := TX4) (N := 2) (ci := 4) (l := l) B hl (cc_X4_amountOf_K l D g a C m k (by omega) j (by omega) i (by omega)) gX4_isLike_X4_amountOf rfl ⟨rfl, rfl⟩ nm_X4_amountOf ⟨by decide, by decide⟩ (fun _ h => h) (31 + 4 * k) (wC_c1 (by omega)) rfl rfl (Nat.le_of_ble_eq_true rfl) dX4_isLike_27 (Nat.zero_le _) (Nat.zero_le _) (fun r hr => ?_)
          subst hr
          refine z_aload_n B 1 dX4_isLike_30 rfl rfl ?_
          refine z_iload_n B 2 dX4_isLike_31 rfl rfl ?_
          refine z_iload_n B 3 dX4_isLike_32 rfl rfl ?_
          refine z_callP (As := [.int (nI (j)), .int (nI (i))]) (st := [.int (C (45 + 8 * k) (j * 4 + i))]) (C := RX4) (T := TX4) (N := 2) (ci := 4) (l := l) B hl (cc_X4_amountOf_N l D g a C m j (by omega) i (by omega)) gX4_isLike_X4_amountOf rfl ⟨rfl, rfl⟩ nm_X4_amountOf ⟨by decide, by decide⟩ (fun _ h => h) 19 rfl rfl rfl (Nat.le_of_ble_eq_true rfl) dX4_isLike_33 (Nat.zero_le _) (Nat.zero_le _) (fun r hr => ?_)
          subst hr
          refine z_icmp_eq B 41 dX4_isLike_36 (by decide) (fun zc36 => ?_) (fun zc36 => ?_)
          · refine z_iinc B 3 (lv1 := [(3, .int (nI (i + 1))), (0, .ref (a (31 + 4 * k))), (1, .ref (a 19)), (2, .int (nI (j)))]) dX4_isLike_41 rfl (nI_1 _) (by decide) rfl ?_
            refine z_goto B 19 dX4_isLike_44 (by decide) ?_
            refine z_loc [1, 2, 3, 0] (lv' := [(0, .ref (a (31 + 4 * k))), (1, .ref (a 19)), (2, .int (nI (j))), (3, .int (nI (i + 1)))]) rfl ?_
            refine z_lvc (lv' := [(0, .ref (a (31 + 4 * k))), (1, .ref (a 19)), (2, .int (nI (j))), (3, .int (nI ((i + 1))))]) (by rfl) ?_
            exact ih19 (i + 1) (by omega) (by omega) (all_s.mpr ⟨hal, zc36⟩)
          · refine z_iconst (v := nI 0) B dX4_isLike_39 (by decide) ?_
            exact z_pret B hr dX4_isLike_40 (nar_b (Or.inl rfl)) (by refine bI_z ?_; exact fun h => zc36 (h.2 i (by omega)))
    refine z_loc [1, 2, 3, 0] (lv' := [(0, .ref (a (31 + 4 * k))), (1, .ref (a 19)), (2, .int (nI (j))), (3, .int (nI (0)))]) rfl ?_
    exact loop19 (4 + 1) 0 (by omega) (by omega) (fun l hl => absurd hl (Nat.not_lt_zero l))
  · refine z_iconst (v := nI 0) B dX4_isLike_15 (by decide) ?_
    exact z_pret B hr dX4_isLike_16 (nar_b (Or.inl rfl)) (by refine bI_z ?_; exact fun h => zc12 h.1)
theorem fw_X4_fill_X3 : zF wsX4_fill RX3 TX3 3 := fun _ h => List.mem_cons_of_mem _ (List.mem_append_right _ (h))
theorem fw_X4_fill_X4 : zF wsX4_fill RX4 TX4 2 := fun _ h => List.mem_cons_of_mem _ (List.mem_append_left _ (List.mem_append_right _ (h)))
set_option maxHeartbeats 4000000 in
set_option maxRecDepth 100000 in
theorem cc_X4_fill_WD (l : Launch) (D : va_G) (g : zG) (a : Nat → Nat) (C : zMS) (m : Nat) (j : Nat) (hj : j < 80) (n : Nat) (hc : C 3 0 = nI n) (hn4 : n ≤ 4) : zMutV l yX4_fill wsX4_fill { frames := 0, cells := 0, slots := 0, locals := 0 } D (zT g) (wC g a C m) [.ref (a 18), .int (nI (j)), .ref (a 1)] (fun w' => w' = wC g a (flC C 15 16 2 n j) m) 0 0 := by
  refine zMutV_of (cc := cX4_fill) (maxL := 4) (ret := none) (own := RX4) [(0, .ref (a 18)), (1, .int (nI (j))), (2, .ref (a 1))] (by decide) rfl rfl rfl (Nat.le_of_ble_eq_true rfl) ?_
  intro X A hAe hl B hr hin
  generalize hQ : (zQe X (va_Qv (fun w' => w' = wC g a (flC C 15 16 2 n j) m) (zEnd D (zT g) (wC g a C m) (zs X).heap.size) A) 0 0 A) = Q
  refine z_aload_n B 0 dX4_fill_0 rfl rfl ?_
  refine z_get (C := RX4) (T := TX4) (N := 2) (v := .ref (a 26)) B 18 0 1 fw_X4_fill_X4 rfl rfl (by decide) rfl rfl rfl dX4_fill_1 ?_
  refine z_iload_n B 1 dX4_fill_4 rfl rfl ?_
  refine z_iconst (v := nI 1) B dX4_fill_5 (by decide) ?_
  refine z_zast (g := (C 15)) (i := j) (w' := wC g a (up2 C 15 j (nI (1))) m) B 26 1 rfl rfl (by omega) (by decide) (Or.inr rfl) dX4_fill_6 (wC_f (by decide) rfl (fun f hf => up2_k (by omega))) ?_
  refine z_iconst (v := nI 0) B dX4_fill_7 (by decide) ?_
  refine z_istore_n (lv1 := [(3, .int (nI (0))), (0, .ref (a 18)), (1, .int (nI (j))), (2, .ref (a 1))]) B dX4_fill_8 rfl (by decide) rfl ?_
  have loop9 : ∀ (n0 i : Nat), i ≤ n → n + 1 ≤ i + n0 → zJ X 4 (zI1 D A (zs X)) Q (wC g a (flL (up2 C 15 j (nI 1)) 16 2 j i) m) 0 0 [(0, .ref (a 18)), (1, .int (nI (j))), (2, .ref (a 1)), (3, .int (nI (i)))] 9 [] := by
    intro n9
    induction n9 with
    | zero => intro i h1 h2; exact absurd h2 (by omega)
    | succ n9 ih9 =>
      intro i hle9 hn9
      refine z_iload_n B 3 dX4_fill_9 rfl rfl ?_
      refine z_aload_n B 2 dX4_fill_10 rfl rfl ?_
      refine z_get (C := RX3) (T := TX3) (N := 3) (v := .int ((flL (up2 C 15 j (nI 1)) 16 2 j i) 3 0)) B 1 2 2 fw_X4_fill_X3 rfl rfl (by decide) rfl rfl rfl dX4_fill_11 ?_
      refine z_top (y := nI (n)) ((congrFun ((flL_k (up2 C 15 j (nI 1)) 16 2 j (k := 3) (by decide) i).trans ((up2_k (k' := 3) (k := 15) (by omega)).trans rfl)) 0).trans hc) ?_
      refine z_icmpN_ge B 39 dX4_fill_14 (by decide) (by omega) (by omega) (fun zc14 => ?_) (fun zc14 => ?_)
      · obtain rfl : n = i := by omega
        subst hQ
        exact z_vret B hAe hr dX4_fill_39 (by decide) (by decide) (by rfl)
      · refine z_aload_n B 0 dX4_fill_17 rfl rfl ?_
        refine z_get (C := RX4) (T := TX4) (N := 2) (v := .ref (a 27)) B 18 1 3 fw_X4_fill_X4 rfl rfl (by decide) rfl rfl rfl dX4_fill_18 ?_
        refine z_iload_n B 1 dX4_fill_21 rfl rfl ?_
        refine z_iconst (v := nI 4) B dX4_fill_22 (by decide) ?_
        refine z_imulN B dX4_fill_23 ?_
        refine z_iload_n B 3 dX4_fill_24 rfl rfl ?_
        refine z_iaddN B dX4_fill_25 ?_
        refine z_aload_n B 2 dX4_fill_26 rfl rfl ?_
        refine z_get (C := RX3) (T := TX3) (N := 3) (v := .ref (a 7)) B 1 1 4 fw_X4_fill_X3 rfl rfl (by decide) rfl rfl rfl dX4_fill_27 ?_
        refine z_iload_n B 3 dX4_fill_30 rfl rfl ?_
        refine z_iald (g := ((flL (up2 C 15 j (nI 1)) 16 2 j i) 2)) (i := i) B 7 0 rfl rfl (by omega) (by decide) dX4_fill_31 ?_
        refine z_top (y := C 2 i) (congrFun ((flL_k (up2 C 15 j (nI 1)) 16 2 j (k := 2) (by decide) i).trans ((up2_k (k' := 2) (k := 15) (by omega)).trans rfl)) _) ?_
        refine z_iast (g := ((flL (up2 C 15 j (nI 1)) 16 2 j i) 16)) (i := j * 4 + i) (w' := wC g a (up2 (flL (up2 C 15 j (nI 1)) 16 2 j i) 16 (j * 4 + i) (C 2 i)) m) B 27 0 rfl rfl (by omega) (by decide) dX4_fill_32 (wC_f (by decide) rfl (fun f hf => up2_k (by omega))) ?_
        refine z_iinc B 3 (lv1 := [(3, .int (nI (i + 1))), (0, .ref (a 18)), (1, .int (nI (j))), (2, .ref (a 1))]) dX4_fill_33 rfl (nI_1 _) (by decide) rfl ?_
        refine z_goto B 9 dX4_fill_36 (by decide) ?_
        refine z_loc [1, 2, 3, 0] (lv' := [(0, .ref (a 18)), (1, .int (nI (j))), (2, .ref (a 1)), (3, .int (nI (i + 1)))]) rfl ?_
        refine z_lvc (lv' := [(0, .ref (a 18)), (1, .int (nI (j))), (2, .ref (a 1)), (3, .int (nI ((i + 1))))]) (by rfl) ?_
        refine z_w (w' := wC g a (flL (up2 C 15 j (nI 1)) 16 2 j (i + 1)) m) (by rfl) ?_
        exact ih9 (i + 1) (by omega) (by omega)
  refine z_loc [1, 2, 3, 0] (lv' := [(0, .ref (a 18)), (1, .int (nI (j))), (2, .ref (a 1)), (3, .int (nI (0)))]) rfl ?_
  refine z_w (w' := wC g a (flL (up2 C 15 j (nI 1)) 16 2 j 0) m) (by rfl) ?_
  exact loop9 (n + 1) 0 (by omega) (by omega)
set_option maxHeartbeats 4000000 in
set_option maxRecDepth 100000 in
theorem cc_X4_fill_WO (l : Launch) (D : va_G) (g : zG) (a : Nat → Nat) (C : zMS) (m : Nat) (j : Nat) (hj : j < 80) (n : Nat) (hc : C 6 0 = nI n) (hn4 : n ≤ 4) : zMutV l yX4_fill wsX4_fill { frames := 0, cells := 0, slots := 0, locals := 0 } D (zT g) (wC g a C m) [.ref (a 18), .int (nI (j)), .ref (a 2)] (fun w' => w' = wC g a (flC C 15 16 5 n j) m) 0 0 := by
  refine zMutV_of (cc := cX4_fill) (maxL := 4) (ret := none) (own := RX4) [(0, .ref (a 18)), (1, .int (nI (j))), (2, .ref (a 2))] (by decide) rfl rfl rfl (Nat.le_of_ble_eq_true rfl) ?_
  intro X A hAe hl B hr hin
  generalize hQ : (zQe X (va_Qv (fun w' => w' = wC g a (flC C 15 16 5 n j) m) (zEnd D (zT g) (wC g a C m) (zs X).heap.size) A) 0 0 A) = Q
  refine z_aload_n B 0 dX4_fill_0 rfl rfl ?_
  refine z_get (C := RX4) (T := TX4) (N := 2) (v := .ref (a 26)) B 18 0 1 fw_X4_fill_X4 rfl rfl (by decide) rfl rfl rfl dX4_fill_1 ?_
  refine z_iload_n B 1 dX4_fill_4 rfl rfl ?_
  refine z_iconst (v := nI 1) B dX4_fill_5 (by decide) ?_
  refine z_zast (g := (C 15)) (i := j) (w' := wC g a (up2 C 15 j (nI (1))) m) B 26 1 rfl rfl (by omega) (by decide) (Or.inr rfl) dX4_fill_6 (wC_f (by decide) rfl (fun f hf => up2_k (by omega))) ?_
  refine z_iconst (v := nI 0) B dX4_fill_7 (by decide) ?_
  refine z_istore_n (lv1 := [(3, .int (nI (0))), (0, .ref (a 18)), (1, .int (nI (j))), (2, .ref (a 2))]) B dX4_fill_8 rfl (by decide) rfl ?_
  have loop9 : ∀ (n0 i : Nat), i ≤ n → n + 1 ≤ i + n0 → zJ X 4 (zI1 D A (zs X)) Q (wC g a (flL (up2 C 15 j (nI 1)) 16 5 j i) m) 0 0 [(0, .ref (a 18)), (1, .int (nI (j))), (2, .ref (a 2)), (3, .int (nI (i)))] 9 [] := by
    intro n9
    induction n9 with
    | zero => intro i h1 h2; exact absurd h2 (by omega)
    | succ n9 ih9 =>
      intro i hle9 hn9
      refine z_iload_n B 3 dX4_fill_9 rfl rfl ?_
      refine z_aload_n B 2 dX4_fill_10 rfl rfl ?_
      refine z_get (C := RX3) (T := TX3) (N := 3) (v := .int ((flL (up2 C 15 j (nI 1)) 16 5 j i) 6 0)) B 2 2 2 fw_X4_fill_X3 rfl rfl (by decide) rfl rfl rfl dX4_fill_11 ?_
      refine z_top (y := nI (n)) ((congrFun ((flL_k (up2 C 15 j (nI 1)) 16 5 j (k := 6) (by decide) i).trans ((up2_k (k' := 6) (k := 15) (by omega)).trans rfl)) 0).trans hc) ?_
      refine z_icmpN_ge B 39 dX4_fill_14 (by decide) (by omega) (by omega) (fun zc14 => ?_) (fun zc14 => ?_)
      · obtain rfl : n = i := by omega
        subst hQ
        exact z_vret B hAe hr dX4_fill_39 (by decide) (by decide) (by rfl)
      · refine z_aload_n B 0 dX4_fill_17 rfl rfl ?_
        refine z_get (C := RX4) (T := TX4) (N := 2) (v := .ref (a 27)) B 18 1 3 fw_X4_fill_X4 rfl rfl (by decide) rfl rfl rfl dX4_fill_18 ?_
        refine z_iload_n B 1 dX4_fill_21 rfl rfl ?_
        refine z_iconst (v := nI 4) B dX4_fill_22 (by decide) ?_
        refine z_imulN B dX4_fill_23 ?_
        refine z_iload_n B 3 dX4_fill_24 rfl rfl ?_
        refine z_iaddN B dX4_fill_25 ?_
        refine z_aload_n B 2 dX4_fill_26 rfl rfl ?_
        refine z_get (C := RX3) (T := TX3) (N := 3) (v := .ref (a 9)) B 2 1 4 fw_X4_fill_X3 rfl rfl (by decide) rfl rfl rfl dX4_fill_27 ?_
        refine z_iload_n B 3 dX4_fill_30 rfl rfl ?_
        refine z_iald (g := ((flL (up2 C 15 j (nI 1)) 16 5 j i) 5)) (i := i) B 9 0 rfl rfl (by omega) (by decide) dX4_fill_31 ?_
        refine z_top (y := C 5 i) (congrFun ((flL_k (up2 C 15 j (nI 1)) 16 5 j (k := 5) (by decide) i).trans ((up2_k (k' := 5) (k := 15) (by omega)).trans rfl)) _) ?_
        refine z_iast (g := ((flL (up2 C 15 j (nI 1)) 16 5 j i) 16)) (i := j * 4 + i) (w' := wC g a (up2 (flL (up2 C 15 j (nI 1)) 16 5 j i) 16 (j * 4 + i) (C 5 i)) m) B 27 0 rfl rfl (by omega) (by decide) dX4_fill_32 (wC_f (by decide) rfl (fun f hf => up2_k (by omega))) ?_
        refine z_iinc B 3 (lv1 := [(3, .int (nI (i + 1))), (0, .ref (a 18)), (1, .int (nI (j))), (2, .ref (a 2))]) dX4_fill_33 rfl (nI_1 _) (by decide) rfl ?_
        refine z_goto B 9 dX4_fill_36 (by decide) ?_
        refine z_loc [1, 2, 3, 0] (lv' := [(0, .ref (a 18)), (1, .int (nI (j))), (2, .ref (a 2)), (3, .int (nI (i + 1)))]) rfl ?_
        refine z_lvc (lv' := [(0, .ref (a 18)), (1, .int (nI (j))), (2, .ref (a 2)), (3, .int (nI ((i + 1))))]) (by rfl) ?_
        refine z_w (w' := wC g a (flL (up2 C 15 j (nI 1)) 16 5 j (i + 1)) m) (by rfl) ?_
        exact ih9 (i + 1) (by omega) (by omega)
  refine z_loc [1, 2, 3, 0] (lv' := [(0, .ref (a 18)), (1, .int (nI (j))), (2, .ref (a 2)), (3, .int (nI (0)))]) rfl ?_
  refine z_w (w' := wC g a (flL (up2 C 15 j (nI 1)) 16 5 j 0) m) (by rfl) ?_
  exact loop9 (n + 1) 0 (by omega) (by omega)
set_option maxHeartbeats 4000000 in
set_option maxRecDepth 100000 in
theorem cc_X4_fill_ND (l : Launch) (D : va_G) (g : zG) (a : Nat → Nat) (C : zMS) (m : Nat) (j : Nat) (hj : j < 80) (n : Nat) (hc : C 3 0 = nI n) (hn4 : n ≤ 4) : zMutV l yX4_fill wsX4_fill { frames := 0, cells := 0, slots := 0, locals := 0 } D (zT g) (wC g a C m) [.ref (a 19), .int (nI (j)), .ref (a 1)] (fun w' => w' = wC g a (flC C 17 18 2 n j) m) 0 0 := by
  refine zMutV_of (cc := cX4_fill) (maxL := 4) (ret := none) (own := RX4) [(0, .ref (a 19)), (1, .int (nI (j))), (2, .ref (a 1))] (by decide) rfl rfl rfl (Nat.le_of_ble_eq_true rfl) ?_
  intro X A hAe hl B hr hin
  generalize hQ : (zQe X (va_Qv (fun w' => w' = wC g a (flC C 17 18 2 n j) m) (zEnd D (zT g) (wC g a C m) (zs X).heap.size) A) 0 0 A) = Q
  refine z_aload_n B 0 dX4_fill_0 rfl rfl ?_
  refine z_get (C := RX4) (T := TX4) (N := 2) (v := .ref (a 28)) B 19 0 1 fw_X4_fill_X4 rfl rfl (by decide) rfl rfl rfl dX4_fill_1 ?_
  refine z_iload_n B 1 dX4_fill_4 rfl rfl ?_
  refine z_iconst (v := nI 1) B dX4_fill_5 (by decide) ?_
  refine z_zast (g := (C 17)) (i := j) (w' := wC g a (up2 C 17 j (nI (1))) m) B 28 1 rfl rfl (by omega) (by decide) (Or.inr rfl) dX4_fill_6 (wC_f (by decide) rfl (fun f hf => up2_k (by omega))) ?_
  refine z_iconst (v := nI 0) B dX4_fill_7 (by decide) ?_
  refine z_istore_n (lv1 := [(3, .int (nI (0))), (0, .ref (a 19)), (1, .int (nI (j))), (2, .ref (a 1))]) B dX4_fill_8 rfl (by decide) rfl ?_
  have loop9 : ∀ (n0 i : Nat), i ≤ n → n + 1 ≤ i + n0 → zJ X 4 (zI1 D A (zs X)) Q (wC g a (flL (up2 C 17 j (nI 1)) 18 2 j i) m) 0 0 [(0, .ref (a 19)), (1, .int (nI (j))), (2, .ref (a 1)), (3, .int (nI (i)))] 9 [] := by
    intro n9
    induction n9 with
    | zero => intro i h1 h2; exact absurd h2 (by omega)
    | succ n9 ih9 =>
      intro i hle9 hn9
      refine z_iload_n B 3 dX4_fill_9 rfl rfl ?_
      refine z_aload_n B 2 dX4_fill_10 rfl rfl ?_
      refine z_get (C := RX3) (T := TX3) (N := 3) (v := .int ((flL (up2 C 17 j (nI 1)) 18 2 j i) 3 0)) B 1 2 2 fw_X4_fill_X3 rfl rfl (by decide) rfl rfl rfl dX4_fill_11 ?_
      refine z_top (y := nI (n)) ((congrFun ((flL_k (up2 C 17 j (nI 1)) 18 2 j (k := 3) (by decide) i).trans ((up2_k (k' := 3) (k := 17) (by omega)).trans rfl)) 0).trans hc) ?_
      refine z_icmpN_ge B 39 dX4_fill_14 (by decide) (by omega) (by omega) (fun zc14 => ?_) (fun zc14 => ?_)
      · obtain rfl : n = i := by omega
        subst hQ
        exact z_vret B hAe hr dX4_fill_39 (by decide) (by decide) (by rfl)
      · refine z_aload_n B 0 dX4_fill_17 rfl rfl ?_
        refine z_get (C := RX4) (T := TX4) (N := 2) (v := .ref (a 29)) B 19 1 3 fw_X4_fill_X4 rfl rfl (by decide) rfl rfl rfl dX4_fill_18 ?_
        refine z_iload_n B 1 dX4_fill_21 rfl rfl ?_
        refine z_iconst (v := nI 4) B dX4_fill_22 (by decide) ?_
        refine z_imulN B dX4_fill_23 ?_
        refine z_iload_n B 3 dX4_fill_24 rfl rfl ?_
        refine z_iaddN B dX4_fill_25 ?_
        refine z_aload_n B 2 dX4_fill_26 rfl rfl ?_
        refine z_get (C := RX3) (T := TX3) (N := 3) (v := .ref (a 7)) B 1 1 4 fw_X4_fill_X3 rfl rfl (by decide) rfl rfl rfl dX4_fill_27 ?_
        refine z_iload_n B 3 dX4_fill_30 rfl rfl ?_
        refine z_iald (g := ((flL (up2 C 17 j (nI 1)) 18 2 j i) 2)) (i := i) B 7 0 rfl rfl (by omega) (by decide) dX4_fill_31 ?_
        refine z_top (y := C 2 i) (congrFun ((flL_k (up2 C 17 j (nI 1)) 18 2 j (k := 2) (by decide) i).trans ((up2_k (k' := 2) (k := 17) (by omega)).trans rfl)) _) ?_
        refine z_iast (g := ((flL (up2 C 17 j (nI 1)) 18 2 j i) 18)) (i := j * 4 + i) (w' := wC g a (up2 (flL (up2 C 17 j (nI 1)) 18 2 j i) 18 (j * 4 + i) (C 2 i)) m) B 29 0 rfl rfl (by omega) (by decide) dX4_fill_32 (wC_f (by decide) rfl (fun f hf => up2_k (by omega))) ?_
        refine z_iinc B 3 (lv1 := [(3, .int (nI (i + 1))), (0, .ref (a 19)), (1, .int (nI (j))), (2, .ref (a 1))]) dX4_fill_33 rfl (nI_1 _) (by decide) rfl ?_
        refine z_goto B 9 dX4_fill_36 (by decide) ?_
        refine z_loc [1, 2, 3, 0] (lv' := [(0, .ref (a 19)), (1, .int (nI (j))), (2, .ref (a 1)), (3, .int (nI (i + 1)))]) rfl ?_
        refine z_lvc (lv' := [(0, .ref (a 19)), (1, .int (nI (j))), (2, .ref (a 1)), (3, .int (nI ((i + 1))))]) (by rfl) ?_
        refine z_w (w' := wC g a (flL (up2 C 17 j (nI 1)) 18 2 j (i + 1)) m) (by rfl) ?_
        exact ih9 (i + 1) (by omega) (by omega)
  refine z_loc [1, 2, 3, 0] (lv' := [(0, .ref (a 19)), (1, .int (nI (j))), (2, .ref (a 1)), (3, .int (nI (0)))]) rfl ?_
  refine z_w (w' := wC g a (flL (up2 C 17 j (nI 1)) 18 2 j 0) m) (by rfl) ?_
  exact loop9 (n + 1) 0 (by omega) (by omega)
set_option maxHeartbeats 4000000 in
set_option maxRecDepth 100000 in
theorem cc_X4_fill_NO (l : Launch) (D : va_G) (g : zG) (a : Nat → Nat) (C : zMS) (m : Nat) (j : Nat) (hj : j < 80) (n : Nat) (hc : C 6 0 = nI n) (hn4 : n ≤ 4) : zMutV l yX4_fill wsX4_fill { frames := 0, cells := 0, slots := 0, locals := 0 } D (zT g) (wC g a C m) [.ref (a 19), .int (nI (j)), .ref (a 2)] (fun w' => w' = wC g a (flC C 17 18 5 n j) m) 0 0 := by
  refine zMutV_of (cc := cX4_fill) (maxL := 4) (ret := none) (own := RX4) [(0, .ref (a 19)), (1, .int (nI (j))), (2, .ref (a 2))] (by decide) rfl rfl rfl (Nat.le_of_ble_eq_true rfl) ?_
  intro X A hAe hl B hr hin
  generalize hQ : (zQe X (va_Qv (fun w' => w' = wC g a (flC C 17 18 5 n j) m) (zEnd D (zT g) (wC g a C m) (zs X).heap.size) A) 0 0 A) = Q
  refine z_aload_n B 0 dX4_fill_0 rfl rfl ?_
  refine z_get (C := RX4) (T := TX4) (N := 2) (v := .ref (a 28)) B 19 0 1 fw_X4_fill_X4 rfl rfl (by decide) rfl rfl rfl dX4_fill_1 ?_
  refine z_iload_n B 1 dX4_fill_4 rfl rfl ?_
  refine z_iconst (v := nI 1) B dX4_fill_5 (by decide) ?_
  refine z_zast (g := (C 17)) (i := j) (w' := wC g a (up2 C 17 j (nI (1))) m) B 28 1 rfl rfl (by omega) (by decide) (Or.inr rfl) dX4_fill_6 (wC_f (by decide) rfl (fun f hf => up2_k (by omega))) ?_
  refine z_iconst (v := nI 0) B dX4_fill_7 (by decide) ?_
  refine z_istore_n (lv1 := [(3, .int (nI (0))), (0, .ref (a 19)), (1, .int (nI (j))), (2, .ref (a 2))]) B dX4_fill_8 rfl (by decide) rfl ?_
  have loop9 : ∀ (n0 i : Nat), i ≤ n → n + 1 ≤ i + n0 → zJ X 4 (zI1 D A (zs X)) Q (wC g a (flL (up2 C 17 j (nI 1)) 18 5 j i) m) 0 0 [(0, .ref (a 19)), (1, .int (nI (j))), (2, .ref (a 2)), (3, .int (nI (i)))] 9 [] := by
    intro n9
    induction n9 with
    | zero => intro i h1 h2; exact absurd h2 (by omega)
    | succ n9 ih9 =>
      intro i hle9 hn9
      refine z_iload_n B 3 dX4_fill_9 rfl rfl ?_
      refine z_aload_n B 2 dX4_fill_10 rfl rfl ?_
      refine z_get (C := RX3) (T := TX3) (N := 3) (v := .int ((flL (up2 C 17 j (nI 1)) 18 5 j i) 6 0)) B 2 2 2 fw_X4_fill_X3 rfl rfl (by decide) rfl rfl rfl dX4_fill_11 ?_
      refine z_top (y := nI (n)) ((congrFun ((flL_k (up2 C 17 j (nI 1)) 18 5 j (k := 6) (by decide) i).trans ((up2_k (k' := 6) (k := 17) (by omega)).trans rfl)) 0).trans hc) ?_
      refine z_icmpN_ge B 39 dX4_fill_14 (by decide) (by omega) (by omega) (fun zc14 => ?_) (fun zc14 => ?_)
      · obtain rfl : n = i := by omega
        subst hQ
        exact z_vret B hAe hr dX4_fill_39 (by decide) (by decide) (by rfl)
      · refine z_aload_n B 0 dX4_fill_17 rfl rfl ?_
        refine z_get (C := RX4) (T := TX4) (N := 2) (v := .ref (a 29)) B 19 1 3 fw_X4_fill_X4 rfl rfl (by decide) rfl rfl rfl dX4_fill_18 ?_
        refine z_iload_n B 1 dX4_fill_21 rfl rfl ?_
        refine z_iconst (v := nI 4) B dX4_fill_22 (by decide) ?_
        refine z_imulN B dX4_fill_23 ?_
        refine z_iload_n B 3 dX4_fill_24 rfl rfl ?_
        refine z_iaddN B dX4_fill_25 ?_
        refine z_aload_n B 2 dX4_fill_26 rfl rfl ?_
        refine z_get (C := RX3) (T := TX3) (N := 3) (v := .ref (a 9)) B 2 1 4 fw_X4_fill_X3 rfl rfl (by decide) rfl rfl rfl dX4_fill_27 ?_
        refine z_iload_n B 3 dX4_fill_30 rfl rfl ?_
        refine z_iald (g := ((flL (up2 C 17 j (nI 1)) 18 5 j i) 5)) (i := i) B 9 0 rfl rfl (by omega) (by decide) dX4_fill_31 ?_
        refine z_top (y := C 5 i) (congrFun ((flL_k (up2 C 17 j (nI 1)) 18 5 j (k := 5) (by decide) i).trans ((up2_k (k' := 5) (k := 17) (by omega)).trans rfl)) _) ?_
        refine z_iast (g := ((flL (up2 C 17 j (nI 1)) 18 5 j i) 18)) (i := j * 4 + i) (w' := wC g a (up2 (flL (up2 C 17 j (nI 1)) 18 5 j i) 18 (j * 4 + i) (C 5 i)) m) B 29 0 rfl rfl (by omega) (by decide) dX4_fill_32 (wC_f (by decide) rfl (fun f hf => up2_k (by omega))) ?_
        refine z_iinc B 3 (lv1 := [(3, .int (nI (i + 1))), (0, .ref (a 19)), (1, .int (nI (j))), (2, .ref (a 2))]) dX4_fill_33 rfl (nI_1 _) (by decide) rfl ?_
        refine z_goto B 9 dX4_fill_36 (by decide) ?_
        refine z_loc [1, 2, 3, 0] (lv' := [(0, .ref (a 19)), (1, .int (nI (j))), (2, .ref (a 2)), (3, .int (nI (i + 1)))]) rfl ?_
        refine z_lvc (lv' := [(0, .ref (a 19)), (1, .int (nI (j))), (2, .ref (a 2)), (3, .int (nI ((i + 1))))]) (by rfl) ?_
        refine z_w (w' := wC g a (flL (up2 C 17 j (nI 1)) 18 5 j (i + 1)) m) (by rfl) ?_
        exact ih9 (i + 1) (by omega) (by omega)
  refine z_loc [1, 2, 3, 0] (lv' := [(0, .ref (a 19)), (1, .int (nI (j))), (2, .ref (a 2)), (3, .int (nI (0)))]) rfl ?_
  refine z_w (w' := wC g a (flL (up2 C 17 j (nI 1)) 18 5 j 0) m) (by rfl) ?_
  exact loop9 (n + 1) 0 (by omega) (by omega)
theorem fw_X4_replace_X4 : zF wsX4_replace RX4 TX4 2 := fun _ h => List.mem_cons_of_mem _ (List.mem_append_right _ (h))
set_option maxHeartbeats 4000000 in
set_option maxRecDepth 100000 in
theorem cc_X4_replace_N (l : Launch) (D : va_G) (g : zG) (a : Nat → Nat) (C : zMS) (m : Nat) (j : Nat) (hj : j < 80) (b : Nat) (hb4 : b < 4) (x : Int32) : zMutI l yX4_replace wsX4_replace { frames := 0, cells := 0, slots := 0, locals := 0 } D (zT g) (wC g a C m) [.ref (a 19), .int (nI (j)), .int (nI (b)), .int (x)] (fun r w' => r = C 18 (j * 4 + b) ∧ w' = wC g a (up2 C 18 (j * 4 + b) x) m) 0 0 := by
  refine zMutI_of (cc := cX4_replace) (maxL := 5) (ret := (some .int)) (own := RX4) [(0, .ref (a 19)), (1, .int (nI (j))), (2, .int (nI (b))), (3, .int (x))] (by decide) rfl rfl rfl (Nat.le_of_ble_eq_true rfl) ?_
  intro X A hAe hl B hr hin
  refine z_aload_n B 0 dX4_replace_0 rfl rfl ?_
  refine z_get (C := RX4) (T := TX4) (N := 2) (v := .ref (a 29)) B 19 1 1 fw_X4_replace_X4 rfl rfl (by decide) rfl rfl rfl dX4_replace_1 ?_
  refine z_iload_n B 1 dX4_replace_4 rfl rfl ?_
  refine z_iconst (v := nI 4) B dX4_replace_5 (by decide) ?_
  refine z_imulN B dX4_replace_6 ?_
  refine z_iload_n B 2 dX4_replace_7 rfl rfl ?_
  refine z_iaddN B dX4_replace_8 ?_
  refine z_iald (g := (C 18)) (i := j * 4 + b) B 29 0 rfl rfl (by omega) (by decide) dX4_replace_9 ?_
  refine z_istore (lv1 := [(4, .int (C 18 (j * 4 + b))), (0, .ref (a 19)), (1, .int (nI (j))), (2, .int (nI (b))), (3, .int (x))]) B dX4_replace_10 (by decide) rfl ?_
  refine z_aload_n B 1 dX4_replace_12 rfl rfl ?_
  refine z_get (C := RX4) (T := TX4) (N := 2) (v := .ref (a 29)) B 19 1 1 fw_X4_replace_X4 rfl rfl (by decide) rfl rfl rfl dX4_replace_13 ?_
  refine z_iload_n B 2 dX4_replace_16 rfl rfl ?_
  refine z_iconst (v := nI 4) B dX4_replace_17 (by decide) ?_
  refine z_imulN B dX4_replace_18 ?_
  refine z_iload_n B 3 dX4_replace_19 rfl rfl ?_
  refine z_iaddN B dX4_replace_20 ?_
  refine z_iload_n B 4 dX4_replace_21 rfl rfl ?_
  refine z_iast (g := (C 18)) (i := j * 4 + b) (w' := wC g a (up2 C 18 (j * 4 + b) x) m) B 29 0 rfl rfl (by omega) (by decide) dX4_replace_22 (wC_f (by decide) rfl (fun f hf => up2_k (by omega))) ?_
  refine z_iload B 0 dX4_replace_23 rfl ?_
  exact z_mret B hAe hr dX4_replace_25 rfl (by decide) (by decide) (by exact ⟨rfl, rfl⟩)
theorem fw_X4_take_X4 : zF wsX4_take RX4 TX4 2 := fun _ h => List.mem_cons_of_mem _ (List.mem_append_right _ (h))
set_option maxHeartbeats 4000000 in
set_option maxRecDepth 100000 in
theorem cc_X4_take_KN (l : Launch) (D : va_G) (g : zG) (a : Nat → Nat) (C : zMS) (m : Nat) (hI : CI C) (k : Nat) (hk : 4 * k + 3 < m) (j : Nat) (hj : j < 80) : zMutV l yX4_take wsX4_take { frames := 0, cells := 0, slots := 0, locals := 0 } D (zT g) (wC g a C m) [.ref (a (31 + 4 * k)), .ref (a 19), .int (nI (j))] (fun w' => w' = wC g a (tkC C (44 + 8 * k) (45 + 8 * k) 17 18 j) m) 0 0 := by
  refine zMutV_of (cc := cX4_take) (maxL := 4) (ret := none) (own := RX4) [(0, .ref (a (31 + 4 * k))), (1, .ref (a 19)), (2, .int (nI (j)))] (by decide) rfl rfl rfl (Nat.le_of_ble_eq_true rfl) ?_
  intro X A hAe hl B hr hin
  obtain ⟨b19, b3, b6, b20, b22, b27, b0⟩ := CI_bs hI
  generalize hQ : (zQe X (va_Qv (fun w' => w' = wC g a (tkC C (44 + 8 * k) (45 + 8 * k) 17 18 j) m) (zEnd D (zT g) (wC g a C m) (zs X).heap.size) A) 0 0 A) = Q
  refine z_aload_n B 0 dX4_take_0 rfl rfl ?_
  refine z_get (C := RX4) (T := TX4) (N := 2) (v := .ref (a (32 + 4 * k))) B (31 + 4 * k) 0 1 fw_X4_take_X4 (wC_c1 (by omega)) rfl (by decide) rfl rfl rfl dX4_take_1 ?_
  refine z_iload_n B 2 dX4_take_4 rfl rfl ?_
  refine z_aload_n B 1 dX4_take_5 rfl rfl ?_
  refine z_get (C := RX4) (T := TX4) (N := 2) (v := .ref (a 28)) B 19 0 1 fw_X4_take_X4 rfl rfl (by decide) rfl rfl rfl dX4_take_6 ?_
  refine z_iload_n B 2 dX4_take_9 rfl rfl ?_
  refine z_zald (g := (C 17)) (i := j) B 28 1 rfl rfl (by omega) (by decide) dX4_take_10 ?_
  refine z_zast (g := (C (44 + 8 * k))) (i := j) (w' := wC g a (up2 C (44 + 8 * k) j (C 17 j)) m) B (32 + 4 * k) 1 (wC_c2 (by omega)) rfl (by omega) (by decide) (CI_z17 (C := C) hI _) dX4_take_11 (wC_s2 (by omega)) ?_
  refine z_iconst (v := nI 0) B dX4_take_12 (by decide) ?_
  refine z_istore_n (lv1 := [(3, .int (nI (0))), (0, .ref (a (31 + 4 * k))), (1, .ref (a 19)), (2, .int (nI (j)))]) B dX4_take_13 rfl (by decide) rfl ?_
  have loop14 : ∀ (n0 i : Nat), i ≤ 4 → 4 + 1 ≤ i + n0 → zJ X 4 (zI1 D A (zs X)) Q (wC g a (tkL (up2 C (44 + 8 * k) j (C 17 j)) (45 + 8 * k) 18 j i) m) 0 0 [(0, .ref (a (31 + 4 * k))), (1, .ref (a 19)), (2, .int (nI (j))), (3, .int (nI (i)))] 14 [] := by
    intro n14
    induction n14 with
    | zero => intro i h1 h2; exact absurd h2 (by omega)
    | succ n14 ih14 =>
      intro i hle14 hn14
      refine z_iload_n B 3 dX4_take_14 rfl rfl ?_
      refine z_iconst (v := nI 4) B dX4_take_15 (by decide) ?_
      refine z_icmpN_ge B 45 dX4_take_16 (by decide) (by omega) (by omega) (fun zc16 => ?_) (fun zc16 => ?_)
      · obtain rfl : i = 4 := by omega
        subst hQ
        exact z_vret B hAe hr dX4_take_45 (by decide) (by decide) (by rfl)
      · refine z_aload_n B 0 dX4_take_19 rfl rfl ?_
        refine z_get (C := RX4) (T := TX4) (N := 2) (v := .ref (a (33 + 4 * k))) B (31 + 4 * k) 1 2 fw_X4_take_X4 (wC_c1 (by omega)) rfl (by decide) rfl rfl rfl dX4_take_20 ?_
        refine z_iload_n B 2 dX4_take_23 rfl rfl ?_
        refine z_iconst (v := nI 4) B dX4_take_24 (by decide) ?_
        refine z_imulN B dX4_take_25 ?_
        refine z_iload_n B 3 dX4_take_26 rfl rfl ?_
        refine z_iaddN B dX4_take_27 ?_
        refine z_aload_n B 1 dX4_take_28 rfl rfl ?_
        refine z_get (C := RX4) (T := TX4) (N := 2) (v := .ref (a 29)) B 19 1 2 fw_X4_take_X4 rfl rfl (by decide) rfl rfl rfl dX4_take_29 ?_
        refine z_iload_n B 2 dX4_take_32 rfl rfl ?_
        refine z_iconst (v := nI 4) B dX4_take_33 (by decide) ?_
        refine z_imulN B dX4_take_34 ?_
        refine z_iload_n B 3 dX4_take_35 rfl rfl ?_
        refine z_iaddN B dX4_take_36 ?_
        refine z_iald (g := ((tkL (up2 C (44 + 8 * k) j (C 17 j)) (45 + 8 * k) 18 j i) 18)) (i := j * 4 + i) B 29 0 rfl rfl (by omega) (by decide) dX4_take_37 ?_
        refine z_top (y := (up2 C (44 + 8 * k) j (C 17 j)) 18 (j * 4 + i)) (congrFun (tkL_k (up2 C (44 + 8 * k) j (C 17 j)) (45 + 8 * k) 18 j (k := 18) (by omega) i) _) ?_
        refine z_iast (g := ((tkL (up2 C (44 + 8 * k) j (C 17 j)) (45 + 8 * k) 18 j i) (45 + 8 * k))) (i := j * 4 + i) (w' := wC g a (up2 (tkL (up2 C (44 + 8 * k) j (C 17 j)) (45 + 8 * k) 18 j i) (45 + 8 * k) (j * 4 + i) ((up2 C (44 + 8 * k) j (C 17 j)) 18 (j * 4 + i))) m) B (33 + 4 * k) 0 (wC_c3 (by omega)) rfl (by omega) (by decide) dX4_take_38 (wC_s3 (by omega)) ?_
        refine z_iinc B 3 (lv1 := [(3, .int (nI (i + 1))), (0, .ref (a (31 + 4 * k))), (1, .ref (a 19)), (2, .int (nI (j)))]) dX4_take_39 rfl (nI_1 _) (by decide) rfl ?_
        refine z_goto B 14 dX4_take_42 (by decide) ?_
        refine z_loc [1, 2, 3, 0] (lv' := [(0, .ref (a (31 + 4 * k))), (1, .ref (a 19)), (2, .int (nI (j))), (3, .int (nI (i + 1)))]) rfl ?_
        refine z_lvc (lv' := [(0, .ref (a (31 + 4 * k))), (1, .ref (a 19)), (2, .int (nI (j))), (3, .int (nI ((i + 1))))]) (by rfl) ?_
        refine z_w (w' := wC g a (tkL (up2 C (44 + 8 * k) j (C 17 j)) (45 + 8 * k) 18 j (i + 1)) m) (by rfl) ?_
        exact ih14 (i + 1) (by omega) (by omega)
  refine z_loc [1, 2, 3, 0] (lv' := [(0, .ref (a (31 + 4 * k))), (1, .ref (a 19)), (2, .int (nI (j))), (3, .int (nI (0)))]) rfl ?_
  refine z_w (w' := wC g a (tkL (up2 C (44 + 8 * k) j (C 17 j)) (45 + 8 * k) 18 j 0) m) (by rfl) ?_
  exact loop14 (4 + 1) 0 (by omega) (by omega)
set_option maxHeartbeats 4000000 in
set_option maxRecDepth 100000 in
theorem cc_X4_take_NK (l : Launch) (D : va_G) (g : zG) (a : Nat → Nat) (C : zMS) (m : Nat) (hI : CI C) (k : Nat) (hk : 4 * k + 3 < m) (j : Nat) (hj : j < 80) : zMutV l yX4_take wsX4_take { frames := 0, cells := 0, slots := 0, locals := 0 } D (zT g) (wC g a C m) [.ref (a 19), .ref (a (31 + 4 * k)), .int (nI (j))] (fun w' => w' = wC g a (tkC C 17 18 (44 + 8 * k) (45 + 8 * k) j) m) 0 0 := by
  refine zMutV_of (cc := cX4_take) (maxL := 4) (ret := none) (own := RX4) [(0, .ref (a 19)), (1, .ref (a (31 + 4 * k))), (2, .int (nI (j)))] (by decide) rfl rfl rfl (Nat.le_of_ble_eq_true rfl) ?_
  intro X A hAe hl B hr hin
  obtain ⟨b19, b3, b6, b20, b22, b27, b0⟩ := CI_bs hI
  generalize hQ : (zQe X (va_Qv (fun w' => w' = wC g a (tkC C 17 18 (44 + 8 * k) (45 + 8 * k) j) m) (zEnd D (zT g) (wC g a C m) (zs X).heap.size) A) 0 0 A) = Q
  refine z_aload_n B 0 dX4_take_0 rfl rfl ?_
  refine z_get (C := RX4) (T := TX4) (N := 2) (v := .ref (a 28)) B 19 0 1 fw_X4_take_X4 rfl rfl (by decide) rfl rfl rfl dX4_take_1 ?_
  refine z_iload_n B 2 dX4_take_4 rfl rfl ?_
  refine z_aload_n B 1 dX4_take_5 rfl rfl ?_
  refine z_get (C := RX4) (T := TX4) (N := 2) (v := .ref (a (32 + 4 * k))) B (31 + 4 * k) 0 1 fw_X4_take_X4 (wC_c1 (by omega)) rfl (by decide) rfl rfl rfl dX4_take_6 ?_
  refine z_iload_n B 2 dX4_take_9 rfl rfl ?_
  refine z_zald (g := (C (44 + 8 * k))) (i := j) B (32 + 4 * k) 1 (wC_c2 (by omega)) rfl (by omega) (by decide) dX4_take_10 ?_
  refine z_zast (g := (C 17)) (i := j) (w' := wC g a (up2 C 17 j (C (44 + 8 * k) j)) m) B 28 1 rfl rfl (by omega) (by decide) (CI_z44 (C := C) hI _ _) dX4_take_11 (wC_f (by decide) rfl (fun f hf => up2_k (by omega))) ?_
  refine z_iconst (v := nI 0) B dX4_take_12 (by decide) ?_
  refine z_istore_n (lv1 := [(3, .int (nI (0))), (0, .ref (a 19)), (1, .ref (a (31 + 4 * k))), (2, .int (nI (j)))]) B dX4_take_13 rfl (by decide) rfl ?_
  have loop14 : ∀ (n0 i : Nat), i ≤ 4 → 4 + 1 ≤ i + n0 → zJ X 4 (zI1 D A (zs X)) Q (wC g a (tkL (up2 C 17 j (C (44 + 8 * k) j)) 18 (45 + 8 * k) j i) m) 0 0 [(0, .ref (a 19)), (1, .ref (a (31 + 4 * k))), (2, .int (nI (j))), (3, .int (nI (i)))] 14 [] := by
    intro n14
    induction n14 with
    | zero => intro i h1 h2; exact absurd h2 (by omega)
    | succ n14 ih14 =>
      intro i hle14 hn14
      refine z_iload_n B 3 dX4_take_14 rfl rfl ?_
      refine z_iconst (v := nI 4) B dX4_take_15 (by decide) ?_
      refine z_icmpN_ge B 45 dX4_take_16 (by decide) (by omega) (by omega) (fun zc16 => ?_) (fun zc16 => ?_)
      · obtain rfl : i = 4 := by omega
        subst hQ
        exact z_vret B hAe hr dX4_take_45 (by decide) (by decide) (by rfl)
      · refine z_aload_n B 0 dX4_take_19 rfl rfl ?_
        refine z_get (C := RX4) (T := TX4) (N := 2) (v := .ref (a 29)) B 19 1 2 fw_X4_take_X4 rfl rfl (by decide) rfl rfl rfl dX4_take_20 ?_
        refine z_iload_n B 2 dX4_take_23 rfl rfl ?_
        refine z_iconst (v := nI 4) B dX4_take_24 (by decide) ?_
        refine z_imulN B dX4_take_25 ?_
        refine z_iload_n B 3 dX4_take_26 rfl rfl ?_
        refine z_iaddN B dX4_take_27 ?_
        refine z_aload_n B 1 dX4_take_28 rfl rfl ?_
        refine z_get (C := RX4) (T := TX4) (N := 2) (v := .ref (a (33 + 4 * k))) B (31 + 4 * k) 1 2 fw_X4_take_X4 (wC_c1 (by omega)) rfl (by decide) rfl rfl rfl dX4_take_29 ?_
        refine z_iload_n B 2 dX4_take_32 rfl rfl ?_
        refine z_iconst (v := nI 4) B dX4_take_33 (by decide) ?_
        refine z_imulN B dX4_take_34 ?_
        refine z_iload_n B 3 dX4_take_35 rfl rfl ?_
        refine z_iaddN B dX4_take_36 ?_
        refine z_iald (g := ((tkL (up2 C 17 j (C (44 + 8 * k) j)) 18 (45 + 8 * k) j i) (45 + 8 * k))) (i := j * 4 + i) B (33 + 4 * k) 0 (wC_c3 (by omega)) rfl (by omega) (by decide) dX4_take_37 ?_
        refine z_top (y := (up2 C 17 j (C (44 + 8 * k) j)) (45 + 8 * k) (j * 4 + i)) (congrFun (tkL_k (up2 C 17 j (C (44 + 8 * k) j)) 18 (45 + 8 * k) j (k := 45 + 8 * k) (by omega) i) _) ?_
        refine z_iast (g := ((tkL (up2 C 17 j (C (44 + 8 * k) j)) 18 (45 + 8 * k) j i) 18)) (i := j * 4 + i) (w' := wC g a (up2 (tkL (up2 C 17 j (C (44 + 8 * k) j)) 18 (45 + 8 * k) j i) 18 (j * 4 + i) ((up2 C 17 j (C (44 + 8 * k) j)) (45 + 8 * k) (j * 4 + i))) m) B 29 0 rfl rfl (by omega) (by decide) dX4_take_38 (wC_f (by decide) rfl (fun f hf => up2_k (by omega))) ?_
        refine z_iinc B 3 (lv1 := [(3, .int (nI (i + 1))), (0, .ref (a 19)), (1, .ref (a (31 + 4 * k))), (2, .int (nI (j)))]) dX4_take_39 rfl (nI_1 _) (by decide) rfl ?_
        refine z_goto B 14 dX4_take_42 (by decide) ?_
        refine z_loc [1, 2, 3, 0] (lv' := [(0, .ref (a 19)), (1, .ref (a (31 + 4 * k))), (2, .int (nI (j))), (3, .int (nI (i + 1)))]) rfl ?_
        refine z_lvc (lv' := [(0, .ref (a 19)), (1, .ref (a (31 + 4 * k))), (2, .int (nI (j))), (3, .int (nI ((i + 1))))]) (by rfl) ?_
        refine z_w (w' := wC g a (tkL (up2 C 17 j (C (44 + 8 * k) j)) 18 (45 + 8 * k) j (i + 1)) m) (by rfl) ?_
        exact ih14 (i + 1) (by omega) (by omega)
  refine z_loc [1, 2, 3, 0] (lv' := [(0, .ref (a 19)), (1, .ref (a (31 + 4 * k))), (2, .int (nI (j))), (3, .int (nI (0)))]) rfl ?_
  refine z_w (w' := wC g a (tkL (up2 C 17 j (C (44 + 8 * k) j)) 18 (45 + 8 * k) j 0) m) (by rfl) ?_
  exact loop14 (4 + 1) 0 (by omega) (by omega)
theorem fw_X4_blank_X4 : zF wsX4_blank RX4 TX4 2 := fun _ h => List.mem_cons_of_mem _ (List.mem_append_right _ (h))
set_option maxHeartbeats 4000000 in
set_option maxRecDepth 100000 in
theorem cc_X4_blank_N (l : Launch) (D : va_G) (g : zG) (a : Nat → Nat) (C : zMS) (m : Nat) (hI : CI C) (j : Nat) (hj : j < 80) : zMutI l yX4_blank wsX4_blank { frames := 0, cells := 0, slots := 0, locals := 0 } D (zT g) (wC g a C m) [.ref (a 19), .int (nI (j))] (fun r w' => r = C 17 j ∧ w' = wC g a (blC C 17 18 j) m) 0 0 := by
  refine zMutI_of (cc := cX4_blank) (maxL := 4) (ret := (some .boolean)) (own := RX4) [(0, .ref (a 19)), (1, .int (nI (j)))] (by decide) rfl rfl rfl (Nat.le_of_ble_eq_true rfl) ?_
  intro X A hAe hl B hr hin
  obtain ⟨b19, b3, b6, b20, b22, b27, b0⟩ := CI_bs hI
  generalize hQ : (zQe X (va_Qi (fun r w' => r = C 17 j ∧ w' = wC g a (blC C 17 18 j) m) (zEnd D (zT g) (wC g a C m) (zs X).heap.size) A) 0 0 A) = Q
  refine z_aload_n B 0 dX4_blank_0 rfl rfl ?_
  refine z_get (C := RX4) (T := TX4) (N := 2) (v := .ref (a 28)) B 19 0 1 fw_X4_blank_X4 rfl rfl (by decide) rfl rfl rfl dX4_blank_1 ?_
  refine z_iload_n B 1 dX4_blank_4 rfl rfl ?_
  refine z_zald (g := (C 17)) (i := j) B 28 1 rfl rfl (by omega) (by decide) dX4_blank_5 ?_
  refine z_istore_n (lv1 := [(2, .int (C 17 j)), (0, .ref (a 19)), (1, .int (nI (j)))]) B dX4_blank_6 rfl (by decide) rfl ?_
  refine z_aload_n B 1 dX4_blank_7 rfl rfl ?_
  refine z_get (C := RX4) (T := TX4) (N := 2) (v := .ref (a 28)) B 19 0 1 fw_X4_blank_X4 rfl rfl (by decide) rfl rfl rfl dX4_blank_8 ?_
  refine z_iload_n B 2 dX4_blank_11 rfl rfl ?_
  refine z_iconst (v := nI 0) B dX4_blank_12 (by decide) ?_
  refine z_zast (g := (C 17)) (i := j) (w' := wC g a (up2 C 17 j (nI (0))) m) B 28 1 rfl rfl (by omega) (by decide) (Or.inl rfl) dX4_blank_13 (wC_f (by decide) rfl (fun f hf => up2_k (by omega))) ?_
  refine z_iconst (v := nI 0) B dX4_blank_14 (by decide) ?_
  refine z_istore_n (lv1 := [(3, .int (nI (0))), (2, .int (C 17 j)), (0, .ref (a 19)), (1, .int (nI (j)))]) B dX4_blank_15 rfl (by decide) rfl ?_
  have loop16 : ∀ (n0 i : Nat), i ≤ 4 → 4 + 1 ≤ i + n0 → zJ X 4 (zI1 D A (zs X)) Q (wC g a (blL (up2 C 17 j (nI 0)) 18 j i) m) 0 0 [(0, .ref (a 19)), (1, .int (nI (j))), (2, .int (C 17 j)), (3, .int (nI (i)))] 16 [] := by
    intro n16
    induction n16 with
    | zero => intro i h1 h2; exact absurd h2 (by omega)
    | succ n16 ih16 =>
      intro i hle16 hn16
      refine z_iload_n B 3 dX4_blank_16 rfl rfl ?_
      refine z_iconst (v := nI 4) B dX4_blank_17 (by decide) ?_
      refine z_icmpN_ge B 38 dX4_blank_18 (by decide) (by omega) (by omega) (fun zc18 => ?_) (fun zc18 => ?_)
      · obtain rfl : i = 4 := by omega
        refine z_iload_n B 2 dX4_blank_38 rfl rfl ?_
        subst hQ
        exact z_mret B hAe hr dX4_blank_39 (nar_b (CI_z17 (C := C) hI _)) (by decide) (by decide) (by exact ⟨rfl, rfl⟩)
      · refine z_aload_n B 0 dX4_blank_21 rfl rfl ?_
        refine z_get (C := RX4) (T := TX4) (N := 2) (v := .ref (a 29)) B 19 1 2 fw_X4_blank_X4 rfl rfl (by decide) rfl rfl rfl dX4_blank_22 ?_
        refine z_iload_n B 1 dX4_blank_25 rfl rfl ?_
        refine z_iconst (v := nI 4) B dX4_blank_26 (by decide) ?_
        refine z_imulN B dX4_blank_27 ?_
        refine z_iload_n B 3 dX4_blank_28 rfl rfl ?_
        refine z_iaddN B dX4_blank_29 ?_
        refine z_iconst (v := nI 0) B dX4_blank_30 (by decide) ?_
        refine z_iast (g := ((blL (up2 C 17 j (nI 0)) 18 j i) 18)) (i := j * 4 + i) (w' := wC g a (up2 (blL (up2 C 17 j (nI 0)) 18 j i) 18 (j * 4 + i) (nI (0))) m) B 29 0 rfl rfl (by omega) (by decide) dX4_blank_31 (wC_f (by decide) rfl (fun f hf => up2_k (by omega))) ?_
        refine z_iinc B 3 (lv1 := [(3, .int (nI (i + 1))), (0, .ref (a 19)), (1, .int (nI (j))), (2, .int (C 17 j))]) dX4_blank_32 rfl (nI_1 _) (by decide) rfl ?_
        refine z_goto B 16 dX4_blank_35 (by decide) ?_
        refine z_loc [1, 2, 3, 0] (lv' := [(0, .ref (a 19)), (1, .int (nI (j))), (2, .int (C 17 j)), (3, .int (nI (i + 1)))]) rfl ?_
        refine z_lvc (lv' := [(0, .ref (a 19)), (1, .int (nI (j))), (2, .int (C 17 j)), (3, .int (nI ((i + 1))))]) (by rfl) ?_
        refine z_w (w' := wC g a (blL (up2 C 17 j (nI 0)) 18 j (i + 1)) m) (by rfl) ?_
        exact ih16 (i + 1) (by omega) (by omega)
  refine z_loc [2, 3, 1, 0] (lv' := [(0, .ref (a 19)), (1, .int (nI (j))), (2, .int (C 17 j)), (3, .int (nI (0)))]) rfl ?_
  refine z_w (w' := wC g a (blL (up2 C 17 j (nI 0)) 18 j 0) m) (by rfl) ?_
  exact loop16 (4 + 1) 0 (by omega) (by omega)
set_option maxHeartbeats 4000000 in
set_option maxRecDepth 100000 in
theorem cc_X4_blank_K (l : Launch) (D : va_G) (g : zG) (a : Nat → Nat) (C : zMS) (m : Nat) (hI : CI C) (k : Nat) (hk : 4 * k + 3 < m) (j : Nat) (hj : j < 80) : zMutI l yX4_blank wsX4_blank { frames := 0, cells := 0, slots := 0, locals := 0 } D (zT g) (wC g a C m) [.ref (a (31 + 4 * k)), .int (nI (j))] (fun r w' => r = C (44 + 8 * k) j ∧ w' = wC g a (blC C (44 + 8 * k) (45 + 8 * k) j) m) 0 0 := by
  refine zMutI_of (cc := cX4_blank) (maxL := 4) (ret := (some .boolean)) (own := RX4) [(0, .ref (a (31 + 4 * k))), (1, .int (nI (j)))] (by decide) rfl rfl rfl (Nat.le_of_ble_eq_true rfl) ?_
  intro X A hAe hl B hr hin
  obtain ⟨b19, b3, b6, b20, b22, b27, b0⟩ := CI_bs hI
  generalize hQ : (zQe X (va_Qi (fun r w' => r = C (44 + 8 * k) j ∧ w' = wC g a (blC C (44 + 8 * k) (45 + 8 * k) j) m) (zEnd D (zT g) (wC g a C m) (zs X).heap.size) A) 0 0 A) = Q
  refine z_aload_n B 0 dX4_blank_0 rfl rfl ?_
  refine z_get (C := RX4) (T := TX4) (N := 2) (v := .ref (a (32 + 4 * k))) B (31 + 4 * k) 0 1 fw_X4_blank_X4 (wC_c1 (by omega)) rfl (by decide) rfl rfl rfl dX4_blank_1 ?_
  refine z_iload_n B 1 dX4_blank_4 rfl rfl ?_
  refine z_zald (g := (C (44 + 8 * k))) (i := j) B (32 + 4 * k) 1 (wC_c2 (by omega)) rfl (by omega) (by decide) dX4_blank_5 ?_
  refine z_istore_n (lv1 := [(2, .int (C (44 + 8 * k) j)), (0, .ref (a (31 + 4 * k))), (1, .int (nI (j)))]) B dX4_blank_6 rfl (by decide) rfl ?_
  refine z_aload_n B 1 dX4_blank_7 rfl rfl ?_
  refine z_get (C := RX4) (T := TX4) (N := 2) (v := .ref (a (32 + 4 * k))) B (31 + 4 * k) 0 1 fw_X4_blank_X4 (wC_c1 (by omega)) rfl (by decide) rfl rfl rfl dX4_blank_8 ?_
  refine z_iload_n B 2 dX4_blank_11 rfl rfl ?_
  refine z_iconst (v := nI 0) B dX4_blank_12 (by decide) ?_
  refine z_zast (g := (C (44 + 8 * k))) (i := j) (w' := wC g a (up2 C (44 + 8 * k) j (nI (0))) m) B (32 + 4 * k) 1 (wC_c2 (by omega)) rfl (by omega) (by decide) (Or.inl rfl) dX4_blank_13 (wC_s2 (by omega)) ?_
  refine z_iconst (v := nI 0) B dX4_blank_14 (by decide) ?_
  refine z_istore_n (lv1 := [(3, .int (nI (0))), (2, .int (C (44 + 8 * k) j)), (0, .ref (a (31 + 4 * k))), (1, .int (nI (j)))]) B dX4_blank_15 rfl (by decide) rfl ?_
  have loop16 : ∀ (n0 i : Nat), i ≤ 4 → 4 + 1 ≤ i + n0 → zJ X 4 (zI1 D A (zs X)) Q (wC g a (blL (up2 C (44 + 8 * k) j (nI 0)) (45 + 8 * k) j i) m) 0 0 [(0, .ref (a (31 + 4 * k))), (1, .int (nI (j))), (2, .int (C (44 + 8 * k) j)), (3, .int (nI (i)))] 16 [] := by
    intro n16
    induction n16 with
    | zero => intro i h1 h2; exact absurd h2 (by omega)
    | succ n16 ih16 =>
      intro i hle16 hn16
      refine z_iload_n B 3 dX4_blank_16 rfl rfl ?_
      refine z_iconst (v := nI 4) B dX4_blank_17 (by decide) ?_
      refine z_icmpN_ge B 38 dX4_blank_18 (by decide) (by omega) (by omega) (fun zc18 => ?_) (fun zc18 => ?_)
      · obtain rfl : i = 4 := by omega
        refine z_iload_n B 2 dX4_blank_38 rfl rfl ?_
        subst hQ
        exact z_mret B hAe hr dX4_blank_39 (nar_b (CI_z44 (C := C) hI _ _)) (by decide) (by decide) (by exact ⟨rfl, rfl⟩)
      · refine z_aload_n B 0 dX4_blank_21 rfl rfl ?_
        refine z_get (C := RX4) (T := TX4) (N := 2) (v := .ref (a (33 + 4 * k))) B (31 + 4 * k) 1 2 fw_X4_blank_X4 (wC_c1 (by omega)) rfl (by decide) rfl rfl rfl dX4_blank_22 ?_
        refine z_iload_n B 1 dX4_blank_25 rfl rfl ?_
        refine z_iconst (v := nI 4) B dX4_blank_26 (by decide) ?_
        refine z_imulN B dX4_blank_27 ?_
        refine z_iload_n B 3 dX4_blank_28 rfl rfl ?_
        refine z_iaddN B dX4_blank_29 ?_
        refine z_iconst (v := nI 0) B dX4_blank_30 (by decide) ?_
        refine z_iast (g := ((blL (up2 C (44 + 8 * k) j (nI 0)) (45 + 8 * k) j i) (45 + 8 * k))) (i := j * 4 + i) (w' := wC g a (up2 (blL (up2 C (44 + 8 * k) j (nI 0)) (45 + 8 * k) j i) (45 + 8 * k) (j * 4 + i) (nI (0))) m) B (33 + 4 * k) 0 (wC_c3 (by omega)) rfl (by omega) (by decide) dX4_blank_31 (wC_s3 (by omega)) ?_
        refine z_iinc B 3 (lv1 := [(3, .int (nI (i + 1))), (0, .ref (a (31 + 4 * k))), (1, .int (nI (j))), (2, .int (C (44 + 8 * k) j))]) dX4_blank_32 rfl (nI_1 _) (by decide) rfl ?_
        refine z_goto B 16 dX4_blank_35 (by decide) ?_
        refine z_loc [1, 2, 3, 0] (lv' := [(0, .ref (a (31 + 4 * k))), (1, .int (nI (j))), (2, .int (C (44 + 8 * k) j)), (3, .int (nI (i + 1)))]) rfl ?_
        refine z_lvc (lv' := [(0, .ref (a (31 + 4 * k))), (1, .int (nI (j))), (2, .int (C (44 + 8 * k) j)), (3, .int (nI ((i + 1))))]) (by rfl) ?_
        refine z_w (w' := wC g a (blL (up2 C (44 + 8 * k) j (nI 0)) (45 + 8 * k) j (i + 1)) m) (by rfl) ?_
        exact ih16 (i + 1) (by omega) (by omega)
  refine z_loc [2, 3, 1, 0] (lv' := [(0, .ref (a (31 + 4 * k))), (1, .int (nI (j))), (2, .int (C (44 + 8 * k) j)), (3, .int (nI (0)))]) rfl ?_
  refine z_w (w' := wC g a (blL (up2 C (44 + 8 * k) j (nI 0)) (45 + 8 * k) j 0) m) (by rfl) ?_
  exact loop16 (4 + 1) 0 (by omega) (by omega)
