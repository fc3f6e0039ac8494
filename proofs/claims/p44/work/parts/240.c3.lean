theorem fw_X5_isFull_X5 : zF wsX5_isFull RX5 TX5 2 := fun _ h => List.mem_cons_of_mem _ (List.mem_append_right _ (h))
set_option maxHeartbeats 4000000 in
set_option maxRecDepth 100000 in
theorem cc_X5_isFull (l : Launch) (D : va_G) (g : zG) (a : Nat → Nat) (C : zMS) (m : Nat) (hI : CI C) : zPure l yX5_isFull wsX5_isFull { frames := 0, cells := 0, slots := 0, locals := 0 } D (zT g) (wC g a C m) [.ref (a 4)] (fun r => r = bI (16 ≤ cM C)) := by
  refine zPure_of (cc := cX5_isFull) (maxL := 1) (ret := (some .boolean)) (own := RX5) [(0, .ref (a 4))] (by decide) rfl rfl rfl (Nat.le_of_ble_eq_true rfl) ?_
  intro X hl B hr
  obtain ⟨b19, b3, b6, b20, b22, b27, b0⟩ := CI_bs hI
  refine z_aload_n B 0 dX5_isFull_0 rfl rfl ?_
  refine z_get (C := RX5) (T := TX5) (N := 2) (v := .int (C 20 0)) B 4 1 1 fw_X5_isFull_X5 rfl rfl (by decide) rfl rfl rfl dX5_isFull_1 ?_
  refine z_top (y := nI (cM C)) (CI_20 (C := C) hI) ?_
  refine z_bipush (v := nI 16) B dX5_isFull_4 (by decide) ?_
  refine z_icmpN_lt B 13 dX5_isFull_6 (by decide) (by omega) (by omega) (fun zc6 => ?_) (fun zc6 => ?_)
  · refine z_iconst (v := nI 0) B dX5_isFull_13 (by decide) ?_
    exact z_pret B hr dX5_isFull_14 (nar_b (Or.inl rfl)) (by refine bI_z ?_; first | omega)
  · refine z_iconst (v := nI 1) B dX5_isFull_9 (by decide) ?_
    refine z_goto B 14 dX5_isFull_10 (by decide) ?_
    exact z_pret B hr dX5_isFull_14 (nar_b (Or.inr rfl)) (by refine bI_1 ?_; first | omega)
theorem fw_X5_find_X5 : zF wsX5_find RX5 TX5 2 := fun _ h => List.mem_cons_of_mem _ (List.mem_append_right _ (h))
set_option maxHeartbeats 4000000 in
set_option maxRecDepth 100000 in
theorem cc_X5_find (l : Launch) (D : va_G) (g : zG) (a : Nat → Nat) (C : zMS) (m : Nat) (hI : CI C) (x : Int32) : zPureQ l yX5_find wsX5_find { frames := 0, cells := 0, slots := 0, locals := 0 } D (zT g) (wC g a C m) [.ref (a 4), .int (x)] (fun r => (∀ j, x = nI j → j < cM C → C 28 j = 1 → r = some (a (30 + 4 * j))) ∧ (¬ cCx C x → r = none)) := by
  refine zPureQ_of (cc := cX5_find) (maxL := 2) (ret := (some (.object "LedgerKiln$Copy"))) (own := RX5) [(0, .ref (a 4)), (1, .int (x))] (by decide) rfl rfl rfl (Nat.le_of_ble_eq_true rfl) ?_
  intro X hl B hr
  obtain ⟨b19, b3, b6, b20, b22, b27, b0⟩ := CI_bs hI
  refine z_iload_n B 1 dX5_find_0 rfl rfl ?_
  refine z_if_lt B 21 dX5_find_1 (by decide) (fun zc1 => ?_) (fun zc1 => ?_)
  · refine z_null B dX5_find_21 ?_
    exact z_pretQ (r := none) B hr dX5_find_22 rfl (by exact ⟨fun j e h h1 => absurd (e ▸ zc1 : nI j < 0) (nI_pos (by omega)), fun _ => rfl⟩)
  · refine z_iload_n B 1 dX5_find_4 rfl rfl ?_
    refine z_aload_n B 0 dX5_find_5 rfl rfl ?_
    refine z_get (C := RX5) (T := TX5) (N := 2) (v := .int (C 20 0)) B 4 1 1 fw_X5_find_X5 rfl rfl (by decide) rfl rfl rfl dX5_find_6 ?_
    refine z_top (y := nI (cM C)) (CI_20 (C := C) hI) ?_
    refine z_icmp_ge B 21 dX5_find_9 (by decide) (fun zc9 => ?_) (fun zc9 => ?_)
    · refine z_null B dX5_find_21 ?_
      exact z_pretQ (r := none) B hr dX5_find_22 rfl (by exact ⟨fun j e h h1 => absurd ((nI_leI (by omega) (by omega)).mp (e ▸ zc9 : nI (cM C) ≤ nI j)) (by omega), fun _ => rfl⟩)
    · have rx := i_rng (n := cM C) (by omega) zc1 zc9
      obtain ⟨jx, hjx, rfl⟩ := rx
      refine z_aload_n B 0 dX5_find_12 rfl rfl ?_
      refine z_get (C := RX5) (T := TX5) (N := 2) (v := .ref (a 20)) B 4 0 2 fw_X5_find_X5 rfl rfl (by decide) rfl rfl rfl dX5_find_13 ?_
      refine z_iload_n B 1 dX5_find_16 rfl rfl ?_
      refine z_aldq (g := (wCo a (C 28))) (i := jx) B 20 2 rfl rfl (by omega) (by decide) dX5_find_17 ?_
      by_cases zq17 : C 28 jx = 1
      · refine z_topv (y := .ref (a (30 + 4 * jx))) (wCo_1 zq17) ?_
        refine z_goto B 22 dX5_find_18 (by decide) ?_
        exact z_pretQ (r := some (a (30 + 4 * jx))) B hr dX5_find_22 rfl (by exact ⟨fun j e h h1 => by rw [(nI_eq (by omega) (by omega)).mp e], fun h => absurd ⟨jx, rfl, hjx, zq17⟩ h⟩)
      · refine z_topv (y := .null) (wCo_0 zq17) ?_
        refine z_goto B 22 dX5_find_18 (by decide) ?_
        exact z_pretQ (r := none) B hr dX5_find_22 rfl (by exact ⟨fun j e h h1 => absurd ((nI_eq (by omega) (by omega)).mp e ▸ h1) zq17, fun _ => rfl⟩)
theorem fw_X5_remove_X5 : zF wsX5_remove RX5 TX5 2 := fun _ h => List.mem_cons_of_mem _ (List.mem_append_right _ (h))
set_option maxHeartbeats 4000000 in
set_option maxRecDepth 100000 in
theorem cc_X5_remove (l : Launch) (D : va_G) (g : zG) (a : Nat → Nat) (C : zMS) (m : Nat) (j : Nat) (hj : j < 16) : zMutV l yX5_remove wsX5_remove { frames := 0, cells := 0, slots := 0, locals := 0 } D (zT g) (wC g a C m) [.ref (a 4), .int (nI (j))] (fun w' => w' = wC g a (up2 C 28 j (nI 0)) m) 0 0 := by
  refine zMutV_of (cc := cX5_remove) (maxL := 2) (ret := none) (own := RX5) [(0, .ref (a 4)), (1, .int (nI (j)))] (by decide) rfl rfl rfl (Nat.le_of_ble_eq_true rfl) ?_
  intro X A hAe hl B hr hin
  refine z_aload_n B 0 dX5_remove_0 rfl rfl ?_
  refine z_get (C := RX5) (T := TX5) (N := 2) (v := .ref (a 20)) B 4 0 1 fw_X5_remove_X5 rfl rfl (by decide) rfl rfl rfl dX5_remove_1 ?_
  refine z_iload_n B 1 dX5_remove_4 rfl rfl ?_
  refine z_null B dX5_remove_5 ?_
  refine z_astqN (w' := wC g a (up2 C 28 j (nI 0)) m) B 20 2 rfl rfl (by omega) (by decide) dX5_remove_6 (wC_f (by decide) (by rw [wCo_up0]; rfl) (fun f hf => up2_k (by omega))) ?_
  exact z_vret B hAe hr dX5_remove_7 (by decide) (by decide) (by rfl)
theorem fw_X5_countThere_X5 : zF wsX5_countThere RX5 TX5 2 := fun _ h => List.mem_cons_of_mem _ (List.mem_append_right _ (h))
set_option maxHeartbeats 4000000 in
set_option maxRecDepth 100000 in
theorem cc_X5_countThere (l : Launch) (D : va_G) (g : zG) (a : Nat → Nat) (C : zMS) (m : Nat) (hI : CI C) : zPure l yX5_countThere wsX5_countThere { frames := 0, cells := 0, slots := 0, locals := 0 } D (zT g) (wC g a C m) [.ref (a 4)] (fun r => r = nI (zcnt (fun k => C 28 k = 1) (cM C))) := by
  refine zPure_of (cc := cX5_countThere) (maxL := 3) (ret := (some .int)) (own := RX5) [(0, .ref (a 4))] (by decide) rfl rfl rfl (Nat.le_of_ble_eq_true rfl) ?_
  intro X hl B hr
  obtain ⟨b19, b3, b6, b20, b22, b27, b0⟩ := CI_bs hI
  refine z_iconst (v := nI 0) B dX5_countThere_0 (by decide) ?_
  refine z_istore_n (lv1 := [(1, .int (nI (0))), (0, .ref (a 4))]) B dX5_countThere_1 rfl (by decide) rfl ?_
  refine z_iconst (v := nI 0) B dX5_countThere_2 (by decide) ?_
  refine z_istore_n (lv1 := [(2, .int (nI (0))), (1, .int (nI (0))), (0, .ref (a 4))]) B dX5_countThere_3 rfl (by decide) rfl ?_
  have loop4 : ∀ (n0 i : Nat), i ≤ cM C → cM C + 1 ≤ i + n0 → zJ X 3 (zI0 D (zs X)) (zQe X (vp_Si (fun r => r = nI (zcnt (fun k => C 28 k = 1) (cM C)))) 0 0 (fun _ => False)) (wC g a C m) 0 0 [(0, .ref (a 4)), (1, .int (nI (zcnt (fun k => C 28 k = 1) i))), (2, .int (nI (i)))] 4 [] := by
    intro n4
    induction n4 with
    | zero => intro i h1 h2; exact absurd h2 (by omega)
    | succ n4 ih4 =>
      intro i hle4 hn4
      refine z_iload_n B 2 dX5_countThere_4 rfl rfl ?_
      refine z_aload_n B 0 dX5_countThere_5 rfl rfl ?_
      refine z_get (C := RX5) (T := TX5) (N := 2) (v := .int (C 20 0)) B 4 1 1 fw_X5_countThere_X5 rfl rfl (by decide) rfl rfl rfl dX5_countThere_6 ?_
      refine z_top (y := nI (cM C)) (CI_20 (C := C) hI) ?_
      refine z_icmpN_ge B 30 dX5_countThere_9 (by decide) (by omega) (by omega) (fun zc9 => ?_) (fun zc9 => ?_)
      · obtain rfl : i = cM C := by omega
        refine z_iload_n B 1 dX5_countThere_30 rfl rfl ?_
        exact z_pret B hr dX5_countThere_31 rfl (by rfl)
      · refine z_aload_n B 0 dX5_countThere_12 rfl rfl ?_
        refine z_get (C := RX5) (T := TX5) (N := 2) (v := .ref (a 20)) B 4 0 2 fw_X5_countThere_X5 rfl rfl (by decide) rfl rfl rfl dX5_countThere_13 ?_
        refine z_iload_n B 2 dX5_countThere_16 rfl rfl ?_
        refine z_aldq (g := (wCo a (C 28))) (i := i) B 20 2 rfl rfl (by omega) (by decide) dX5_countThere_17 ?_
        by_cases zq17 : C 28 i = 1
        · refine z_topv (y := .ref (a (30 + 4 * i))) (wCo_1 zq17) ?_
          refine z_ifnull B dX5_countThere_18 ?_
          refine z_iinc B 1 (lv1 := [(1, .int (nI (zcnt (fun k => C 28 k = 1) i + 1))), (0, .ref (a 4)), (2, .int (nI (i)))]) dX5_countThere_21 rfl (nI_1 _) (by decide) rfl ?_
          refine z_iinc B 2 (lv1 := [(2, .int (nI (i + 1))), (1, .int (nI (zcnt (fun k => C 28 k = 1) i + 1))), (0, .ref (a 4))]) dX5_countThere_24 rfl (nI_1 _) (by decide) rfl ?_
          refine z_goto B 4 dX5_countThere_27 (by decide) ?_
          refine z_loc [2, 1, 0] (lv' := [(0, .ref (a 4)), (1, .int (nI (zcnt (fun k => C 28 k = 1) i + 1))), (2, .int (nI (i + 1)))]) rfl ?_
          refine z_lvc (lv' := [(0, .ref (a 4)), (1, .int (nI (zcnt (fun k => C 28 k = 1) (i + 1)))), (2, .int (nI ((i + 1))))]) (by first | rw [zcnt_y (P := fun k => C 28 k = 1) zq17] | rw [← zcnt_n (P := fun k => C 28 k = 1) zq17]) ?_
          exact ih4 (i + 1) (by omega) (by omega)
        · refine z_topv (y := .null) (wCo_0 zq17) ?_
          refine z_ifnullN B 24 dX5_countThere_18 (by decide) ?_
          refine z_iinc B 2 (lv1 := [(2, .int (nI (i + 1))), (0, .ref (a 4)), (1, .int (nI (zcnt (fun k => C 28 k = 1) i)))]) dX5_countThere_24 rfl (nI_1 _) (by decide) rfl ?_
          refine z_goto B 4 dX5_countThere_27 (by decide) ?_
          refine z_loc [1, 2, 0] (lv' := [(0, .ref (a 4)), (1, .int (nI (zcnt (fun k => C 28 k = 1) i))), (2, .int (nI (i + 1)))]) rfl ?_
          refine z_lvc (lv' := [(0, .ref (a 4)), (1, .int (nI (zcnt (fun k => C 28 k = 1) (i + 1)))), (2, .int (nI ((i + 1))))]) (by first | rw [zcnt_y (P := fun k => C 28 k = 1) zq17] | rw [← zcnt_n (P := fun k => C 28 k = 1) zq17]) ?_
          exact ih4 (i + 1) (by omega) (by omega)
  refine z_loc [2, 1, 0] (lv' := [(0, .ref (a 4)), (1, .int (nI (0))), (2, .int (nI (0)))]) rfl ?_
  refine z_lvc (lv' := [(0, .ref (a 4)), (1, .int (nI (zcnt (fun k => C 28 k = 1) 0))), (2, .int (nI (0)))]) (by rfl) ?_
  exact loop4 (cM C + 1) 0 (by omega) (by omega)
theorem fw_X5_countFilled_X1 : zF wsX5_countFilled RX1 TX1 5 := fun _ h => List.mem_cons_of_mem _ (List.mem_append_left _ (List.mem_append_right _ (h)))
theorem fw_X5_countFilled_X5 : zF wsX5_countFilled RX5 TX5 2 := fun _ h => List.mem_cons_of_mem _ (List.mem_append_left _ (List.mem_append_left _ (List.mem_append_right _ (h))))
set_option maxHeartbeats 4000000 in
set_option maxRecDepth 100000 in
theorem cc_X5_countFilled (l : Launch) (D : va_G) (g : zG) (a : Nat → Nat) (C : zMS) (m : Nat) (hI : CI C) (hm : 4 * cM C ≤ m) (j : Nat) (hj : j < 80) : zPure l yX5_countFilled wsX5_countFilled { frames := 1, cells := 0, slots := 0, locals := 21 } D (zT g) (wC g a C m) [.ref (a 4), .int (nI (j))] (fun r => r = nI (cCF C j)) := by
  refine zPure_of (cc := cX5_countFilled) (maxL := 5) (ret := (some .int)) (own := RX5) [(0, .ref (a 4)), (1, .int (nI (j)))] (by decide) rfl rfl rfl (Nat.le_of_ble_eq_true rfl) ?_
  intro X hl B hr
  obtain ⟨b19, b3, b6, b20, b22, b27, b0⟩ := CI_bs hI
  refine z_iconst (v := nI 0) B dX5_countFilled_0 (by decide) ?_
  refine z_istore_n (lv1 := [(2, .int (nI (0))), (0, .ref (a 4)), (1, .int (nI (j)))]) B dX5_countFilled_1 rfl (by decide) rfl ?_
  refine z_iconst (v := nI 0) B dX5_countFilled_2 (by decide) ?_
  refine z_istore_n (lv1 := [(3, .int (nI (0))), (2, .int (nI (0))), (0, .ref (a 4)), (1, .int (nI (j)))]) B dX5_countFilled_3 rfl (by decide) rfl ?_
  have loop4 : ∀ (n0 i : Nat), i ≤ cM C → cM C + 1 ≤ i + n0 → zJ X 5 (zI0 D (zs X)) (zQe X (vp_Si (fun r => r = nI (cCF C j))) 0 0 (fun _ => False)) (wC g a C m) 0 0 [(0, .ref (a 4)), (1, .int (nI (j))), (2, .int (nI (zcnt (fun k => C 28 k = 1 ∧ ¬ C (44 + 8 * k) j = 0) i))), (3, .int (nI (i)))] 4 [] := by
    intro n4
    induction n4 with
    | zero => intro i h1 h2; exact absurd h2 (by omega)
    | succ n4 ih4 =>
      intro i hle4 hn4
      refine z_iload_n B 3 dX5_countFilled_4 rfl rfl ?_
      refine z_aload_n B 0 dX5_countFilled_5 rfl rfl ?_
      refine z_get (C := RX5) (T := TX5) (N := 2) (v := .int (C 20 0)) B 4 1 1 fw_X5_countFilled_X5 rfl rfl (by decide) rfl rfl rfl dX5_countFilled_6 ?_
      refine z_top (y := nI (cM C)) (CI_20 (C := C) hI) ?_
      refine z_icmpN_ge B 46 dX5_countFilled_9 (by decide) (by omega) (by omega) (fun zc9 => ?_) (fun zc9 => ?_)
      · obtain rfl : i = cM C := by omega
        refine z_iload_n B 2 dX5_countFilled_46 rfl rfl ?_
        exact z_pret B hr dX5_countFilled_47 rfl (by rfl)
      · refine z_aload_n B 0 dX5_countFilled_12 rfl rfl ?_
        refine z_get (C := RX5) (T := TX5) (N := 2) (v := .ref (a 20)) B 4 0 2 fw_X5_countFilled_X5 rfl rfl (by decide) rfl rfl rfl dX5_countFilled_13 ?_
        refine z_iload_n B 3 dX5_countFilled_16 rfl rfl ?_
        refine z_aldq (g := (wCo a (C 28))) (i := i) B 20 2 rfl rfl (by omega) (by decide) dX5_countFilled_17 ?_
        by_cases zq17 : C 28 i = 1
        · refine z_topv (y := .ref (a (30 + 4 * i))) (wCo_1 zq17) ?_
          refine z_astore (lv1 := [(4, .ref (a (30 + 4 * i))), (0, .ref (a 4)), (1, .int (nI (j))), (2, .int (nI (zcnt (fun k => C 28 k = 1 ∧ ¬ C (44 + 8 * k) j = 0) i))), (3, .int (nI (i)))]) B dX5_countFilled_18 (by decide) rfl ?_
          refine z_aload B 0 dX5_countFilled_20 rfl ?_
          refine z_ifnull B dX5_countFilled_22 ?_
          refine z_aload B 0 dX5_countFilled_25 rfl ?_
          refine z_get (C := RX1) (T := TX1) (N := 5) (v := .ref (a (31 + 4 * i))) B (30 + 4 * i) 0 3 fw_X5_countFilled_X1 (wC_c0 (by omega)) rfl (by decide) rfl rfl rfl dX5_countFilled_27 ?_
          refine z_iload_n B 2 dX5_countFilled_30 rfl rfl ?_
          refine z_callP (As := [.int (nI (j))]) (st := []) (C := RX4) (T := TX4) (N := 2) (ci := 4) (l := l) B hl (cc_X4_isFilled_K l D g a C m hI i (by omega) j (by omega)) gX5_countFilled_X4_isFilled rfl ⟨rfl, rfl⟩ nm_X4_isFilled ⟨by decide, by decide⟩ (fun _ h => h) (31 + 4 * i) (wC_c1 (by omega)) rfl rfl (Nat.le_of_ble_eq_true rfl) dX5_countFilled_31 (Nat.zero_le _) (Nat.zero_le _) (fun r hr => ?_)
          subst hr
          refine z_if_eq B 40 dX5_countFilled_34 (by decide) (fun zc34 => ?_) (fun zc34 => ?_)
          · refine z_iinc B 4 (lv1 := [(3, .int (nI (i + 1))), (4, .ref (a (30 + 4 * i))), (0, .ref (a 4)), (1, .int (nI (j))), (2, .int (nI (zcnt (fun k => C 28 k = 1 ∧ ¬ C (44 + 8 * k) j = 0) i)))]) dX5_countFilled_40 rfl (nI_1 _) (by decide) rfl ?_
            refine z_goto B 4 dX5_countFilled_43 (by decide) ?_
            refine z_loc [2, 3, 4, 0] (lv' := [(0, .ref (a 4)), (1, .int (nI (j))), (2, .int (nI (zcnt (fun k => C 28 k = 1 ∧ ¬ C (44 + 8 * k) j = 0) i))), (3, .int (nI (i + 1)))]) rfl ?_
            refine z_lvc (lv' := [(0, .ref (a 4)), (1, .int (nI (j))), (2, .int (nI (zcnt (fun k => C 28 k = 1 ∧ ¬ C (44 + 8 * k) j = 0) (i + 1)))), (3, .int (nI ((i + 1))))]) (by first | rw [zcnt_y (P := fun k => C 28 k = 1 ∧ ¬ C (44 + 8 * k) j = 0) ⟨zq17, zc34⟩] | rw [← zcnt_n (P := fun k => C 28 k = 1 ∧ ¬ C (44 + 8 * k) j = 0) (fun h => zq17 h.1)] | rw [← zcnt_n (P := fun k => C 28 k = 1 ∧ ¬ C (44 + 8 * k) j = 0) (fun h => h.2 zc34)]) ?_
            exact ih4 (i + 1) (by omega) (by omega)
          · refine z_iinc B 3 (lv1 := [(2, .int (nI (zcnt (fun k => C 28 k = 1 ∧ ¬ C (44 + 8 * k) j = 0) i + 1))), (4, .ref (a (30 + 4 * i))), (0, .ref (a 4)), (1, .int (nI (j))), (3, .int (nI (i)))]) dX5_countFilled_37 rfl (nI_1 _) (by decide) rfl ?_
            refine z_iinc B 4 (lv1 := [(3, .int (nI (i + 1))), (2, .int (nI (zcnt (fun k => C 28 k = 1 ∧ ¬ C (44 + 8 * k) j = 0) i + 1))), (4, .ref (a (30 + 4 * i))), (0, .ref (a 4)), (1, .int (nI (j)))]) dX5_countFilled_40 rfl (nI_1 _) (by decide) rfl ?_
            refine z_goto B 4 dX5_countFilled_43 (by decide) ?_
            refine z_loc [3, 4, 1, 0] (lv' := [(0, .ref (a 4)), (1, .int (nI (j))), (2, .int (nI (zcnt (fun k => C 28 k = 1 ∧ ¬ C (44 + 8 * k) j = 0) i + 1))), (3, .int (nI (i + 1)))]) rfl ?_
            refine z_lvc (lv' := [(0, .ref (a 4)), (1, .int (nI (j))), (2, .int (nI (zcnt (fun k => C 28 k = 1 ∧ ¬ C (44 + 8 * k) j = 0) (i + 1)))), (3, .int (nI ((i + 1))))]) (by first | rw [zcnt_y (P := fun k => C 28 k = 1 ∧ ¬ C (44 + 8 * k) j = 0) ⟨zq17, zc34⟩] | rw [← zcnt_n (P := fun k => C 28 k = 1 ∧ ¬ C (44 + 8 * k) j = 0) (fun h => zq17 h.1)] | rw [← zcnt_n (P := fun k => C 28 k = 1 ∧ ¬ C (44 + 8 * k) j = 0) (fun h => h.2 zc34)]) ?_
            exact ih4 (i + 1) (by omega) (by omega)
        · refine z_topv (y := .null) (wCo_0 zq17) ?_
          refine z_astoreN (lv1 := [(4, .null), (0, .ref (a 4)), (1, .int (nI (j))), (2, .int (nI (zcnt (fun k => C 28 k = 1 ∧ ¬ C (44 + 8 * k) j = 0) i))), (3, .int (nI (i)))]) B dX5_countFilled_18 (by decide) rfl ?_
          refine z_aloadN B 0 dX5_countFilled_20 rfl ?_
          refine z_ifnullN B 40 dX5_countFilled_22 (by decide) ?_
          refine z_iinc B 4 (lv1 := [(3, .int (nI (i + 1))), (4, .null), (0, .ref (a 4)), (1, .int (nI (j))), (2, .int (nI (zcnt (fun k => C 28 k = 1 ∧ ¬ C (44 + 8 * k) j = 0) i)))]) dX5_countFilled_40 rfl (nI_1 _) (by decide) rfl ?_
          refine z_goto B 4 dX5_countFilled_43 (by decide) ?_
          refine z_loc [2, 3, 4, 0] (lv' := [(0, .ref (a 4)), (1, .int (nI (j))), (2, .int (nI (zcnt (fun k => C 28 k = 1 ∧ ¬ C (44 + 8 * k) j = 0) i))), (3, .int (nI (i + 1)))]) rfl ?_
          refine z_lvc (lv' := [(0, .ref (a 4)), (1, .int (nI (j))), (2, .int (nI (zcnt (fun k => C 28 k = 1 ∧ ¬ C (44 + 8 * k) j = 0) (i + 1)))), (3, .int (nI ((i + 1))))]) (by first | rw [zcnt_y (P := fun k => C 28 k = 1 ∧ ¬ C (44 + 8 * k) j = 0) ⟨zq17, zc34⟩] | rw [← zcnt_n (P := fun k => C 28 k = 1 ∧ ¬ C (44 + 8 * k) j = 0) (fun h => zq17 h.1)] | rw [← zcnt_n (P := fun k => C 28 k = 1 ∧ ¬ C (44 + 8 * k) j = 0) (fun h => h.2 zc34)]) ?_
          exact ih4 (i + 1) (by omega) (by omega)
  refine z_loc [2, 3, 1, 0] (lv' := [(0, .ref (a 4)), (1, .int (nI (j))), (2, .int (nI (0))), (3, .int (nI (0)))]) rfl ?_
  refine z_lvc (lv' := [(0, .ref (a 4)), (1, .int (nI (j))), (2, .int (nI (zcnt (fun k => C 28 k = 1 ∧ ¬ C (44 + 8 * k) j = 0) 0))), (3, .int (nI (0)))]) (by rfl) ?_
  exact loop4 (cM C + 1) 0 (by omega) (by omega)
theorem fw_X5_hasTrue_X1 : zF wsX5_hasTrue RX1 TX1 5 := fun _ h => List.mem_cons_of_mem _ (List.mem_append_left _ (List.mem_append_left _ (List.mem_append_right _ (h))))
theorem fw_X5_hasTrue_X5 : zF wsX5_hasTrue RX5 TX5 2 := fun _ h => List.mem_cons_of_mem _ (List.mem_append_left _ (List.mem_append_left _ (List.mem_append_left _ (List.mem_append_right _ (h)))))
set_option maxHeartbeats 4000000 in
set_option maxRecDepth 100000 in
theorem cc_X5_hasTrue (l : Launch) (D : va_G) (g : zG) (a : Nat → Nat) (C : zMS) (m : Nat) (hI : CI C) (hm : 4 * cM C ≤ m) (j : Nat) (hj : j < 80) (x : Int32) : zPure l yX5_hasTrue wsX5_hasTrue { frames := 3, cells := 0, slots := 0, locals := 67 } D (zT g) (wC g a C m) [.ref (a 4), .ref (a 3), .int (nI (j)), .int (x)] (fun r => r = bI (cHT C j x)) := by
  refine zPure_of (cc := cX5_hasTrue) (maxL := 6) (ret := (some .boolean)) (own := RX5) [(0, .ref (a 4)), (1, .ref (a 3)), (2, .int (nI (j))), (3, .int (x))] (by decide) rfl rfl rfl (Nat.le_of_ble_eq_true rfl) ?_
  intro X hl B hr
  obtain ⟨b19, b3, b6, b20, b22, b27, b0⟩ := CI_bs hI
  refine z_iconst (v := nI 0) B dX5_hasTrue_0 (by decide) ?_
  refine z_istore (lv1 := [(4, .int (nI (0))), (0, .ref (a 4)), (1, .ref (a 3)), (2, .int (nI (j))), (3, .int (x))]) B dX5_hasTrue_1 (by decide) rfl ?_
  have loop3 : ∀ (n0 i : Nat), i ≤ cM C → cM C + 1 ≤ i + n0 → (∀ k, k < i → ¬ (C 28 k = 1 ∧ (¬ C (43 + 8 * k) 0 = 0 ∨ ¬ x = 0) ∧ cTK C k j)) → zJ X 6 (zI0 D (zs X)) (zQe X (vp_Si (fun r => r = bI (cHT C j x))) 0 0 (fun _ => False)) (wC g a C m) 0 0 [(0, .ref (a 4)), (1, .ref (a 3)), (2, .int (nI (j))), (3, .int (x)), (4, .int (nI (i)))] 3 [] := by
    intro n3
    induction n3 with
    | zero => intro i h1 h2; exact absurd h2 (by omega)
    | succ n3 ih3 =>
      intro i hle3 hn3 hal
      refine z_iload B 4 dX5_hasTrue_3 rfl ?_
      refine z_aload_n B 0 dX5_hasTrue_5 rfl rfl ?_
      refine z_get (C := RX5) (T := TX5) (N := 2) (v := .int (C 20 0)) B 4 1 1 fw_X5_hasTrue_X5 rfl rfl (by decide) rfl rfl rfl dX5_hasTrue_6 ?_
      refine z_top (y := nI (cM C)) (CI_20 (C := C) hI) ?_
      refine z_icmpN_ge B 59 dX5_hasTrue_9 (by decide) (by omega) (by omega) (fun zc9 => ?_) (fun zc9 => ?_)
      · obtain rfl : i = cM C := by omega
        refine z_iconst (v := nI 0) B dX5_hasTrue_59 (by decide) ?_
        exact z_pret B hr dX5_hasTrue_60 (nar_b (Or.inl rfl)) (by exact bI_z (fun ⟨k, hk, h⟩ => hal k hk h))
      · refine z_aload_n B 0 dX5_hasTrue_12 rfl rfl ?_
        refine z_get (C := RX5) (T := TX5) (N := 2) (v := .ref (a 20)) B 4 0 2 fw_X5_hasTrue_X5 rfl rfl (by decide) rfl rfl rfl dX5_hasTrue_13 ?_
        refine z_iload B 4 dX5_hasTrue_16 rfl ?_
        refine z_aldq (g := (wCo a (C 28))) (i := i) B 20 2 rfl rfl (by omega) (by decide) dX5_hasTrue_18 ?_
        by_cases zq18 : C 28 i = 1
        · refine z_topv (y := .ref (a (30 + 4 * i))) (wCo_1 zq18) ?_
          refine z_astore (lv1 := [(5, .ref (a (30 + 4 * i))), (0, .ref (a 4)), (1, .ref (a 3)), (2, .int (nI (j))), (3, .int (x)), (4, .int (nI (i)))]) B dX5_hasTrue_19 (by decide) rfl ?_
          refine z_aload B 0 dX5_hasTrue_21 rfl ?_
          refine z_ifnull B dX5_hasTrue_23 ?_
          refine z_aload B 0 dX5_hasTrue_26 rfl ?_
          refine z_get (C := RX1) (T := TX1) (N := 5) (v := .int (C (43 + 8 * i) 0)) B (30 + 4 * i) 4 3 fw_X5_hasTrue_X1 (wC_c0 (by omega)) rfl (by decide) rfl rfl rfl dX5_hasTrue_28 ?_
          refine z_if_ne B 38 dX5_hasTrue_31 (by decide) (fun zc31 => ?_) (fun zc31 => ?_)
          · refine z_aload_n B 2 dX5_hasTrue_38 rfl rfl ?_
            refine z_aload B 0 dX5_hasTrue_39 rfl ?_
            refine z_get (C := RX1) (T := TX1) (N := 5) (v := .ref (a (31 + 4 * i))) B (30 + 4 * i) 0 4 fw_X5_hasTrue_X1 (wC_c0 (by omega)) rfl (by decide) rfl rfl rfl dX5_hasTrue_41 ?_
            refine z_iload_n B 3 dX5_hasTrue_44 rfl rfl ?_
            refine z_callP (As := [.ref (a (31 + 4 * i)), .int (nI (j))]) (st := []) (C := RX0) (T := TX0) (N := 11) (ci := 0) (l := l) B hl (cc_X0_isTrueOn_K l D g a C m hI i (by omega) j (by omega)) gX5_hasTrue_X0_isTrueOn rfl ⟨rfl, rfl⟩ nm_X0_isTrueOn ⟨by decide, by decide⟩ (fun _ h => h) 3 rfl rfl rfl (Nat.le_of_ble_eq_true rfl) dX5_hasTrue_45 (Nat.zero_le _) (Nat.zero_le _) (fun r hr => ?_)
            subst hr
            refine z_ifB_eq B 53 dX5_hasTrue_48 (by decide) (fun zc48 => ?_) (fun zc48 => ?_)
            · refine z_iinc B 5 (lv1 := [(4, .int (nI (i + 1))), (5, .ref (a (30 + 4 * i))), (0, .ref (a 4)), (1, .ref (a 3)), (2, .int (nI (j))), (3, .int (x))]) dX5_hasTrue_53 rfl (nI_1 _) (by decide) rfl ?_
              refine z_goto B 3 dX5_hasTrue_56 (by decide) ?_
              refine z_loc [2, 3, 4, 5, 0] (lv' := [(0, .ref (a 4)), (1, .ref (a 3)), (2, .int (nI (j))), (3, .int (x)), (4, .int (nI (i + 1)))]) rfl ?_
              refine z_lvc (lv' := [(0, .ref (a 4)), (1, .ref (a 3)), (2, .int (nI (j))), (3, .int (x)), (4, .int (nI ((i + 1))))]) (by rfl) ?_
              exact ih3 (i + 1) (by omega) (by omega) (all_s.mpr ⟨hal, by first | exact fun h => zq18 h.1 | exact fun h => h.2.1.elim (fun q => q zc31) (fun q => q zc35) | exact fun h => zc48 h.2.2⟩)
            · refine z_iconst (v := nI 1) B dX5_hasTrue_51 (by decide) ?_
              exact z_pret B hr dX5_hasTrue_52 (nar_b (Or.inr rfl)) (by first | exact bI_1 ⟨i, zc9, zq18, Or.inl zc31, zc48⟩ | exact bI_1 ⟨i, zc9, zq18, Or.inr zc35, zc48⟩)
          · refine z_iload_n B 4 dX5_hasTrue_34 rfl rfl ?_
            refine z_if_eq B 53 dX5_hasTrue_35 (by decide) (fun zc35 => ?_) (fun zc35 => ?_)
            · refine z_iinc B 5 (lv1 := [(4, .int (nI (i + 1))), (5, .ref (a (30 + 4 * i))), (0, .ref (a 4)), (1, .ref (a 3)), (2, .int (nI (j))), (3, .int (x))]) dX5_hasTrue_53 rfl (nI_1 _) (by decide) rfl ?_
              refine z_goto B 3 dX5_hasTrue_56 (by decide) ?_
              refine z_loc [2, 3, 4, 5, 0] (lv' := [(0, .ref (a 4)), (1, .ref (a 3)), (2, .int (nI (j))), (3, .int (x)), (4, .int (nI (i + 1)))]) rfl ?_
              refine z_lvc (lv' := [(0, .ref (a 4)), (1, .ref (a 3)), (2, .int (nI (j))), (3, .int (x)), (4, .int (nI ((i + 1))))]) (by rfl) ?_
              exact ih3 (i + 1) (by omega) (by omega) (all_s.mpr ⟨hal, by first | exact fun h => zq18 h.1 | exact fun h => h.2.1.elim (fun q => q zc31) (fun q => q zc35) | exact fun h => zc48 h.2.2⟩)
            · refine z_aload_n B 2 dX5_hasTrue_38 rfl rfl ?_
              refine z_aload B 0 dX5_hasTrue_39 rfl ?_
              refine z_get (C := RX1) (T := TX1) (N := 5) (v := .ref (a (31 + 4 * i))) B (30 + 4 * i) 0 4 fw_X5_hasTrue_X1 (wC_c0 (by omega)) rfl (by decide) rfl rfl rfl dX5_hasTrue_41 ?_
              refine z_iload_n B 3 dX5_hasTrue_44 rfl rfl ?_
              refine z_callP (As := [.ref (a (31 + 4 * i)), .int (nI (j))]) (st := []) (C := RX0) (T := TX0) (N := 11) (ci := 0) (l := l) B hl (cc_X0_isTrueOn_K l D g a C m hI i (by omega) j (by omega)) gX5_hasTrue_X0_isTrueOn rfl ⟨rfl, rfl⟩ nm_X0_isTrueOn ⟨by decide, by decide⟩ (fun _ h => h) 3 rfl rfl rfl (Nat.le_of_ble_eq_true rfl) dX5_hasTrue_45 (Nat.zero_le _) (Nat.zero_le _) (fun r hr => ?_)
              subst hr
              refine z_ifB_eq B 53 dX5_hasTrue_48 (by decide) (fun zc48 => ?_) (fun zc48 => ?_)
              · refine z_iinc B 5 (lv1 := [(4, .int (nI (i + 1))), (5, .ref (a (30 + 4 * i))), (0, .ref (a 4)), (1, .ref (a 3)), (2, .int (nI (j))), (3, .int (x))]) dX5_hasTrue_53 rfl (nI_1 _) (by decide) rfl ?_
                refine z_goto B 3 dX5_hasTrue_56 (by decide) ?_
                refine z_loc [2, 3, 4, 5, 0] (lv' := [(0, .ref (a 4)), (1, .ref (a 3)), (2, .int (nI (j))), (3, .int (x)), (4, .int (nI (i + 1)))]) rfl ?_
                refine z_lvc (lv' := [(0, .ref (a 4)), (1, .ref (a 3)), (2, .int (nI (j))), (3, .int (x)), (4, .int (nI ((i + 1))))]) (by rfl) ?_
                exact ih3 (i + 1) (by omega) (by omega) (all_s.mpr ⟨hal, by first | exact fun h => zq18 h.1 | exact fun h => h.2.1.elim (fun q => q zc31) (fun q => q zc35) | exact fun h => zc48 h.2.2⟩)
              · refine z_iconst (v := nI 1) B dX5_hasTrue_51 (by decide) ?_
                exact z_pret B hr dX5_hasTrue_52 (nar_b (Or.inr rfl)) (by first | exact bI_1 ⟨i, zc9, zq18, Or.inl zc31, zc48⟩ | exact bI_1 ⟨i, zc9, zq18, Or.inr zc35, zc48⟩)
        · refine z_topv (y := .null) (wCo_0 zq18) ?_
          refine z_astoreN (lv1 := [(5, .null), (0, .ref (a 4)), (1, .ref (a 3)), (2, .int (nI (j))), (3, .int (x)), (4, .int (nI (i)))]) B dX5_hasTrue_19 (by decide) rfl ?_
          refine z_aloadN B 0 dX5_hasTrue_21 rfl ?_
          refine z_ifnullN B 53 dX5_hasTrue_23 (by decide) ?_
          refine z_iinc B 5 (lv1 := [(4, .int (nI (i + 1))), (5, .null), (0, .ref (a 4)), (1, .ref (a 3)), (2, .int (nI (j))), (3, .int (x))]) dX5_hasTrue_53 rfl (nI_1 _) (by decide) rfl ?_
          refine z_goto B 3 dX5_hasTrue_56 (by decide) ?_
          refine z_loc [2, 3, 4, 5, 0] (lv' := [(0, .ref (a 4)), (1, .ref (a 3)), (2, .int (nI (j))), (3, .int (x)), (4, .int (nI (i + 1)))]) rfl ?_
          refine z_lvc (lv' := [(0, .ref (a 4)), (1, .ref (a 3)), (2, .int (nI (j))), (3, .int (x)), (4, .int (nI ((i + 1))))]) (by rfl) ?_
          exact ih3 (i + 1) (by omega) (by omega) (all_s.mpr ⟨hal, by first | exact fun h => zq18 h.1 | exact fun h => h.2.1.elim (fun q => q zc31) (fun q => q zc35) | exact fun h => zc48 h.2.2⟩)
  refine z_loc [1, 2, 3, 4, 0] (lv' := [(0, .ref (a 4)), (1, .ref (a 3)), (2, .int (nI (j))), (3, .int (x)), (4, .int (nI (0)))]) rfl ?_
  exact loop3 (cM C + 1) 0 (by omega) (by omega) (fun l hl => absurd hl (Nat.not_lt_zero l))
theorem fw_X2_isFull_X2 : zF wsX2_isFull RX2 TX2 7 := fun _ h => List.mem_cons_of_mem _ (List.mem_append_right _ (h))
set_option maxHeartbeats 4000000 in
set_option maxRecDepth 100000 in
theorem cc_X2_isFull (l : Launch) (D : va_G) (g : zG) (a : Nat → Nat) (C : zMS) (m : Nat) (hI : CI C) : zPure l yX2_isFull wsX2_isFull { frames := 0, cells := 0, slots := 0, locals := 0 } D (zT g) (wC g a C m) [.ref (a 5)] (fun r => r = bI (8 ≤ cK C)) := by
  refine zPure_of (cc := cX2_isFull) (maxL := 1) (ret := (some .boolean)) (own := RX2) [(0, .ref (a 5))] (by decide) rfl rfl rfl (Nat.le_of_ble_eq_true rfl) ?_
  intro X hl B hr
  obtain ⟨b19, b3, b6, b20, b22, b27, b0⟩ := CI_bs hI
  refine z_aload_n B 0 dX2_isFull_0 rfl rfl ?_
  refine z_get (C := RX2) (T := TX2) (N := 7) (v := .int (C 22 0)) B 5 1 1 fw_X2_isFull_X2 rfl rfl (by decide) rfl rfl rfl dX2_isFull_1 ?_
  refine z_top (y := nI (cK C)) (CI_22 (C := C) hI) ?_
  refine z_bipush (v := nI 8) B dX2_isFull_4 (by decide) ?_
  refine z_icmpN_lt B 13 dX2_isFull_6 (by decide) (by omega) (by omega) (fun zc6 => ?_) (fun zc6 => ?_)
  · refine z_iconst (v := nI 0) B dX2_isFull_13 (by decide) ?_
    exact z_pret B hr dX2_isFull_14 (nar_b (Or.inl rfl)) (by refine bI_z ?_; first | omega)
  · refine z_iconst (v := nI 1) B dX2_isFull_9 (by decide) ?_
    refine z_goto B 14 dX2_isFull_10 (by decide) ?_
    exact z_pret B hr dX2_isFull_14 (nar_b (Or.inr rfl)) (by refine bI_1 ?_; first | omega)
theorem fw_X2_hasAllHolds_X2 : zF wsX2_hasAllHolds RX2 TX2 7 := fun _ h => List.mem_cons_of_mem _ (List.mem_append_right _ (h))
set_option maxHeartbeats 4000000 in
set_option maxRecDepth 100000 in
theorem cc_X2_hasAllHolds (l : Launch) (D : va_G) (g : zG) (a : Nat → Nat) (C : zMS) (m : Nat) (hI : CI C) : zPure l yX2_hasAllHolds wsX2_hasAllHolds { frames := 0, cells := 0, slots := 0, locals := 0 } D (zT g) (wC g a C m) [.ref (a 5)] (fun r => r = bI (30 ≤ cH C)) := by
  refine zPure_of (cc := cX2_hasAllHolds) (maxL := 1) (ret := (some .boolean)) (own := RX2) [(0, .ref (a 5))] (by decide) rfl rfl rfl (Nat.le_of_ble_eq_true rfl) ?_
  intro X hl B hr
  obtain ⟨b19, b3, b6, b20, b22, b27, b0⟩ := CI_bs hI
  refine z_aload_n B 0 dX2_hasAllHolds_0 rfl rfl ?_
  refine z_get (C := RX2) (T := TX2) (N := 7) (v := .int (C 27 0)) B 5 6 1 fw_X2_hasAllHolds_X2 rfl rfl (by decide) rfl rfl rfl dX2_hasAllHolds_1 ?_
  refine z_top (y := nI (cH C)) (CI_27 (C := C) hI) ?_
  refine z_bipush (v := nI 30) B dX2_hasAllHolds_4 (by decide) ?_
  refine z_icmpN_lt B 13 dX2_hasAllHolds_6 (by decide) (by omega) (by omega) (fun zc6 => ?_) (fun zc6 => ?_)
  · refine z_iconst (v := nI 0) B dX2_hasAllHolds_13 (by decide) ?_
    exact z_pret B hr dX2_hasAllHolds_14 (nar_b (Or.inl rfl)) (by refine bI_z ?_; first | omega)
  · refine z_iconst (v := nI 1) B dX2_hasAllHolds_9 (by decide) ?_
    refine z_goto B 14 dX2_hasAllHolds_10 (by decide) ?_
    exact z_pret B hr dX2_hasAllHolds_14 (nar_b (Or.inr rfl)) (by refine bI_1 ?_; first | omega)
theorem fw_X2_openNext_X2 : zF wsX2_openNext RX2 TX2 7 := fun _ h => List.mem_cons_of_mem _ (List.mem_append_right _ (h))
set_option maxHeartbeats 4000000 in
set_option maxRecDepth 100000 in
theorem cc_X2_openNext (l : Launch) (D : va_G) (g : zG) (a : Nat → Nat) (C : zMS) (m : Nat) (hI : CI C) (hk8 : cK C < 8) : zMutI l yX2_openNext wsX2_openNext { frames := 0, cells := 0, slots := 0, locals := 0 } D (zT g) (wC g a C m) [.ref (a 5)] (fun r w' => r = nI (cK C) ∧ w' = wC g a (up2 (up2 C 21 (cK C) (nI 1)) 22 0 (nI (cK C + 1))) m) 0 0 := by
  refine zMutI_of (cc := cX2_openNext) (maxL := 1) (ret := (some .int)) (own := RX2) [(0, .ref (a 5))] (by decide) rfl rfl rfl (Nat.le_of_ble_eq_true rfl) ?_
  intro X A hAe hl B hr hin
  obtain ⟨b19, b3, b6, b20, b22, b27, b0⟩ := CI_bs hI
  refine z_aload_n B 0 dX2_openNext_0 rfl rfl ?_
  refine z_get (C := RX2) (T := TX2) (N := 7) (v := .ref (a 21)) B 5 0 1 fw_X2_openNext_X2 rfl rfl (by decide) rfl rfl rfl dX2_openNext_1 ?_
  refine z_aload_n B 0 dX2_openNext_4 rfl rfl ?_
  refine z_get (C := RX2) (T := TX2) (N := 7) (v := .int (C 22 0)) B 5 1 2 fw_X2_openNext_X2 rfl rfl (by decide) rfl rfl rfl dX2_openNext_5 ?_
  refine z_top (y := nI (cK C)) (CI_22 (C := C) hI) ?_
  refine z_iconst (v := nI 1) B dX2_openNext_8 (by decide) ?_
  refine z_zast (g := (C 21)) (i := cK C) (w' := wC g a (up2 C 21 (cK C) (nI (1))) m) B 21 1 rfl rfl (by omega) (by decide) (Or.inr rfl) dX2_openNext_9 (wC_f (by decide) rfl (fun f hf => up2_k (by omega))) ?_
  refine z_aload_n B 0 dX2_openNext_10 rfl rfl ?_
  refine z_dup B dX2_openNext_11 rfl ?_
  refine z_get (C := RX2) (T := TX2) (N := 7) (v := .int (C 22 0)) B 5 1 2 fw_X2_openNext_X2 rfl rfl (by decide) rfl rfl rfl dX2_openNext_12 ?_
  refine z_top (y := nI (cK C)) (CI_22 (C := C) hI) ?_
  refine z_iconst (v := nI 1) B dX2_openNext_15 (by decide) ?_
  refine z_iaddN B dX2_openNext_16 ?_
  refine z_put (C := RX2) (T := TX2) (N := 7) (w' := wC g a (up2 (up2 C 21 (cK C) (nI (1))) 22 0 (nI (cK C + 1))) m) B 5 1 2 fw_X2_openNext_X2 tyX2 tyX2_ok nmX2 rfl rfl (by decide) rfl rfl rfl rfl rfl (Nat.le_of_ble_eq_true rfl) dX2_openNext_17 (wC_f (by decide) rfl (fun f hf => up2_k (by omega))) ?_
  refine z_aload_n B 0 dX2_openNext_20 rfl rfl ?_
  refine z_get (C := RX2) (T := TX2) (N := 7) (v := .int (nI (cK C + 1))) B 5 1 2 fw_X2_openNext_X2 rfl rfl (by decide) rfl rfl rfl dX2_openNext_21 ?_
  refine z_iconst (v := nI 1) B dX2_openNext_24 (by decide) ?_
  refine z_isubN B dX2_openNext_25 (by omega) ?_
  refine z_top (y := nI (cK C)) rfl ?_
  exact z_mret B hAe hr dX2_openNext_26 rfl (by decide) (by decide) (by exact ⟨rfl, rfl⟩)
theorem fw_X2_addHold_X2 : zF wsX2_addHold RX2 TX2 7 := fun _ h => List.mem_cons_of_mem _ (List.mem_append_right _ (h))
set_option maxHeartbeats 4000000 in
set_option maxRecDepth 100000 in
theorem cc_X2_addHold (l : Launch) (D : va_G) (g : zG) (a : Nat → Nat) (C : zMS) (m : Nat) (hI : CI C) (c : Int32) (x : Int32) (f : Int32) (t : Int32) (hh : cH C < 30) : zMutV l yX2_addHold wsX2_addHold { frames := 0, cells := 0, slots := 0, locals := 0 } D (zT g) (wC g a C m) [.ref (a 5), .int (c), .int (x), .int (f), .int (t)] (fun w' => w' = wC g a (up2 (up2 (up2 (up2 (up2 C 23 (cH C) c) 24 (cH C) x) 25 (cH C) f) 26 (cH C) t) 27 0 (nI (cH C + 1))) m) 0 0 := by
  refine zMutV_of (cc := cX2_addHold) (maxL := 5) (ret := none) (own := RX2) [(0, .ref (a 5)), (1, .int (c)), (2, .int (x)), (3, .int (f)), (4, .int (t))] (by decide) rfl rfl rfl (Nat.le_of_ble_eq_true rfl) ?_
  intro X A hAe hl B hr hin
  obtain ⟨b19, b3, b6, b20, b22, b27, b0⟩ := CI_bs hI
  refine z_aload_n B 0 dX2_addHold_0 rfl rfl ?_
  refine z_get (C := RX2) (T := TX2) (N := 7) (v := .ref (a 22)) B 5 2 1 fw_X2_addHold_X2 rfl rfl (by decide) rfl rfl rfl dX2_addHold_1 ?_
  refine z_aload_n B 0 dX2_addHold_4 rfl rfl ?_
  refine z_get (C := RX2) (T := TX2) (N := 7) (v := .int (C 27 0)) B 5 6 2 fw_X2_addHold_X2 rfl rfl (by decide) rfl rfl rfl dX2_addHold_5 ?_
  refine z_top (y := nI (cH C)) (CI_27 (C := C) hI) ?_
  refine z_iload_n B 1 dX2_addHold_8 rfl rfl ?_
  refine z_iast (g := (C 23)) (i := cH C) (w' := wC g a (up2 C 23 (cH C) c) m) B 22 0 rfl rfl (by omega) (by decide) dX2_addHold_9 (wC_f (by decide) rfl (fun f hf => up2_k (by omega))) ?_
  refine z_aload_n B 0 dX2_addHold_10 rfl rfl ?_
  refine z_get (C := RX2) (T := TX2) (N := 7) (v := .ref (a 23)) B 5 3 3 fw_X2_addHold_X2 rfl rfl (by decide) rfl rfl rfl dX2_addHold_11 ?_
  refine z_aload_n B 0 dX2_addHold_14 rfl rfl ?_
  refine z_get (C := RX2) (T := TX2) (N := 7) (v := .int (C 27 0)) B 5 6 2 fw_X2_addHold_X2 rfl rfl (by decide) rfl rfl rfl dX2_addHold_15 ?_
  refine z_top (y := nI (cH C)) (CI_27 (C := C) hI) ?_
  refine z_iload_n B 2 dX2_addHold_18 rfl rfl ?_
  refine z_iast (g := (C 24)) (i := cH C) (w' := wC g a (up2 (up2 C 23 (cH C) c) 24 (cH C) x) m) B 23 0 rfl rfl (by omega) (by decide) dX2_addHold_19 (wC_f (by decide) rfl (fun f hf => up2_k (by omega))) ?_
  refine z_aload_n B 0 dX2_addHold_20 rfl rfl ?_
  refine z_get (C := RX2) (T := TX2) (N := 7) (v := .ref (a 24)) B 5 4 4 fw_X2_addHold_X2 rfl rfl (by decide) rfl rfl rfl dX2_addHold_21 ?_
  refine z_aload_n B 0 dX2_addHold_24 rfl rfl ?_
  refine z_get (C := RX2) (T := TX2) (N := 7) (v := .int (C 27 0)) B 5 6 2 fw_X2_addHold_X2 rfl rfl (by decide) rfl rfl rfl dX2_addHold_25 ?_
  refine z_top (y := nI (cH C)) (CI_27 (C := C) hI) ?_
  refine z_iload_n B 3 dX2_addHold_28 rfl rfl ?_
  refine z_iast (g := (C 25)) (i := cH C) (w' := wC g a (up2 (up2 (up2 C 23 (cH C) c) 24 (cH C) x) 25 (cH C) f) m) B 24 0 rfl rfl (by omega) (by decide) dX2_addHold_29 (wC_f (by decide) rfl (fun f hf => up2_k (by omega))) ?_
  refine z_aload_n B 0 dX2_addHold_30 rfl rfl ?_
  refine z_get (C := RX2) (T := TX2) (N := 7) (v := .ref (a 25)) B 5 5 5 fw_X2_addHold_X2 rfl rfl (by decide) rfl rfl rfl dX2_addHold_31 ?_
  refine z_aload_n B 0 dX2_addHold_34 rfl rfl ?_
  refine z_get (C := RX2) (T := TX2) (N := 7) (v := .int (C 27 0)) B 5 6 2 fw_X2_addHold_X2 rfl rfl (by decide) rfl rfl rfl dX2_addHold_35 ?_
  refine z_top (y := nI (cH C)) (CI_27 (C := C) hI) ?_
  refine z_iload B 4 dX2_addHold_38 rfl ?_
  refine z_iast (g := (C 26)) (i := cH C) (w' := wC g a (up2 (up2 (up2 (up2 C 23 (cH C) c) 24 (cH C) x) 25 (cH C) f) 26 (cH C) t) m) B 25 0 rfl rfl (by omega) (by decide) dX2_addHold_40 (wC_f (by decide) rfl (fun f hf => up2_k (by omega))) ?_
  refine z_aload_n B 0 dX2_addHold_41 rfl rfl ?_
  refine z_dup B dX2_addHold_42 rfl ?_
  refine z_get (C := RX2) (T := TX2) (N := 7) (v := .int (C 27 0)) B 5 6 2 fw_X2_addHold_X2 rfl rfl (by decide) rfl rfl rfl dX2_addHold_43 ?_
  refine z_top (y := nI (cH C)) (CI_27 (C := C) hI) ?_
  refine z_iconst (v := nI 1) B dX2_addHold_46 (by decide) ?_
  refine z_iaddN B dX2_addHold_47 ?_
  refine z_put (C := RX2) (T := TX2) (N := 7) (w' := wC g a (up2 (up2 (up2 (up2 (up2 C 23 (cH C) c) 24 (cH C) x) 25 (cH C) f) 26 (cH C) t) 27 0 (nI (cH C + 1))) m) B 5 6 2 fw_X2_addHold_X2 tyX2 tyX2_ok nmX2 rfl rfl (by decide) rfl rfl rfl rfl rfl (Nat.le_of_ble_eq_true rfl) dX2_addHold_48 (wC_f (by decide) rfl (fun f hf => up2_k (by omega))) ?_
  exact z_vret B hAe hr dX2_addHold_51 (by decide) (by decide) (by rfl)
theorem fw_X2_holdersOf_X0 : zF wsX2_holdersOf RX0 TX0 11 := fun _ h => List.mem_cons_of_mem _ (List.mem_append_left _ (List.mem_append_right _ (h)))
theorem fw_X2_holdersOf_X2 : zF wsX2_holdersOf RX2 TX2 7 := fun _ h => List.mem_cons_of_mem _ (List.mem_append_right _ (h))
set_option maxHeartbeats 4000000 in
set_option maxRecDepth 100000 in
theorem cc_X2_holdersOf (l : Launch) (D : va_G) (g : zG) (a : Nat → Nat) (C : zMS) (m : Nat) (hI : CI C) (j : Nat) (hj : j < 80) : zPure l yX2_holdersOf wsX2_holdersOf { frames := 1, cells := 0, slots := 0, locals := 23 } D (zT g) (wC g a C m) [.ref (a 5), .ref (a 3), .int (nI (j))] (fun r => r = cHS C j) := by
  refine zPure_of (cc := cX2_holdersOf) (maxL := 7) (ret := (some .int)) (own := RX2) [(0, .ref (a 5)), (1, .ref (a 3)), (2, .int (nI (j)))] (by decide) rfl rfl rfl (Nat.le_of_ble_eq_true rfl) ?_
  intro X hl B hr
  obtain ⟨b19, b3, b6, b20, b22, b27, b0⟩ := CI_bs hI
  refine z_iconst (v := nI 0) B dX2_holdersOf_0 (by decide) ?_
  refine z_istore_n (lv1 := [(3, .int (nI (0))), (0, .ref (a 5)), (1, .ref (a 3)), (2, .int (nI (j)))]) B dX2_holdersOf_1 rfl (by decide) rfl ?_
  refine z_aload_n B 2 dX2_holdersOf_2 rfl rfl ?_
  refine z_get (C := RX0) (T := TX0) (N := 11) (v := .ref (a 10)) B 3 0 1 fw_X2_holdersOf_X0 rfl rfl (by decide) rfl rfl rfl dX2_holdersOf_3 ?_
  refine z_iload_n B 3 dX2_holdersOf_6 rfl rfl ?_
  refine z_iald (g := (C 7)) (i := j) B 10 0 rfl rfl (by omega) (by decide) dX2_holdersOf_7 ?_
  refine z_istore (lv1 := [(4, .int (C 7 j)), (3, .int (nI (0))), (0, .ref (a 5)), (1, .ref (a 3)), (2, .int (nI (j)))]) B dX2_holdersOf_8 (by decide) rfl ?_
  refine z_iconst (v := nI 0) B dX2_holdersOf_10 (by decide) ?_
  refine z_istore (lv1 := [(5, .int (nI (0))), (4, .int (C 7 j)), (3, .int (nI (0))), (0, .ref (a 5)), (1, .ref (a 3)), (2, .int (nI (j)))]) B dX2_holdersOf_11 (by decide) rfl ?_
  have loop13 : ∀ (n0 i : Nat), i ≤ cH C → cH C + 1 ≤ i + n0 → zJ X 7 (zI0 D (zs X)) (zQe X (vp_Si (fun r => r = cHS C j)) 0 0 (fun _ => False)) (wC g a C m) 0 0 [(0, .ref (a 5)), (1, .ref (a 3)), (2, .int (nI (j))), (3, .int (cHb C j i)), (4, .int (C 7 j)), (5, .int (nI (i)))] 13 [] := by
    intro n13
    induction n13 with
    | zero => intro i h1 h2; exact absurd h2 (by omega)
    | succ n13 ih13 =>
      intro i hle13 hn13
      refine z_iload B 5 dX2_holdersOf_13 rfl ?_
      refine z_aload_n B 0 dX2_holdersOf_15 rfl rfl ?_
      refine z_get (C := RX2) (T := TX2) (N := 7) (v := .int (C 27 0)) B 5 6 2 fw_X2_holdersOf_X2 rfl rfl (by decide) rfl rfl rfl dX2_holdersOf_16 ?_
      refine z_top (y := nI (cH C)) (CI_27 (C := C) hI) ?_
      refine z_icmpN_ge B 106 dX2_holdersOf_19 (by decide) (by omega) (by omega) (fun zc19 => ?_) (fun zc19 => ?_)
      · obtain rfl : i = cH C := by omega
        refine z_iload_n B 3 dX2_holdersOf_106 rfl rfl ?_
        exact z_pret B hr dX2_holdersOf_107 rfl (by rfl)
      · refine z_aload_n B 0 dX2_holdersOf_22 rfl rfl ?_
        refine z_get (C := RX2) (T := TX2) (N := 7) (v := .ref (a 24)) B 5 4 3 fw_X2_holdersOf_X2 rfl rfl (by decide) rfl rfl rfl dX2_holdersOf_23 ?_
        refine z_iload B 5 dX2_holdersOf_26 rfl ?_
        refine z_iald (g := (C 25)) (i := i) B 24 0 rfl rfl (by omega) (by decide) dX2_holdersOf_28 ?_
        refine z_iload B 4 dX2_holdersOf_29 rfl ?_
        refine z_icmp_gt B 50 dX2_holdersOf_31 (by decide) (fun zc31 => ?_) (fun zc31 => ?_)
        · refine z_iconst (v := nI 0) B dX2_holdersOf_50 (by decide) ?_
          refine z_istore (lv1 := [(6, .int (nI (0))), (0, .ref (a 5)), (1, .ref (a 3)), (2, .int (nI (j))), (3, .int (cHb C j i)), (4, .int (C 7 j)), (5, .int (nI (i)))]) B dX2_holdersOf_51 (by decide) rfl ?_
          refine z_aload_n B 1 dX2_holdersOf_53 rfl rfl ?_
          refine z_get (C := RX2) (T := TX2) (N := 7) (v := .ref (a 21)) B 5 0 5 fw_X2_holdersOf_X2 rfl rfl (by decide) rfl rfl rfl dX2_holdersOf_54 ?_
          refine z_aload_n B 1 dX2_holdersOf_57 rfl rfl ?_
          refine z_get (C := RX2) (T := TX2) (N := 7) (v := .ref (a 22)) B 5 2 6 fw_X2_holdersOf_X2 rfl rfl (by decide) rfl rfl rfl dX2_holdersOf_58 ?_
          refine z_iload B 6 dX2_holdersOf_61 rfl ?_
          refine z_iald (g := (C 23)) (i := i) B 22 0 rfl rfl (by omega) (by decide) dX2_holdersOf_63 ?_
          refine z_top (y := nI (cHc C i)) (CI_23 (C := C) hI _) ?_
          have := CI_b23 (C := C) hI i
          refine z_zald (g := (C 21)) (i := cHc C i) B 21 1 rfl rfl (by omega) (by decide) dX2_holdersOf_64 ?_
          refine z_if_eq B 100 dX2_holdersOf_65 (by decide) (fun zc65 => ?_) (fun zc65 => ?_)
          · refine z_iinc B 6 (lv1 := [(5, .int (nI (i + 1))), (6, .int (nI (0))), (0, .ref (a 5)), (1, .ref (a 3)), (2, .int (nI (j))), (3, .int (cHb C j i)), (4, .int (C 7 j))]) dX2_holdersOf_100 rfl (nI_1 _) (by decide) rfl ?_
            refine z_goto B 13 dX2_holdersOf_103 (by decide) ?_
            refine z_loc [2, 3, 4, 5, 6, 0] (lv' := [(0, .ref (a 5)), (1, .ref (a 3)), (2, .int (nI (j))), (3, .int (cHb C j i)), (4, .int (C 7 j)), (5, .int (nI (i + 1)))]) rfl ?_
            refine z_lvc (lv' := [(0, .ref (a 5)), (1, .ref (a 3)), (2, .int (nI (j))), (3, .int (cHb C j (i + 1))), (4, .int (C 7 j)), (5, .int (nI ((i + 1))))]) (by first | (have q : cSp C j i := ⟨zc65, ⟨i_nlt zc31, i_nlt zc43⟩, zc85⟩; rw [cHb_y q]) | (have q : ¬ cSp C j i := (fun h => h.1 zc65); rw [← cHb_n q]) | (have q : ¬ cSp C j i := (fun h => zc85 h.2.2); rw [← cHb_n q]) | (have q : ¬ cSp C j i := (fun h => absurd zc31 (Int32.not_lt.mpr h.2.1.1)); rw [← cHb_n q]) | (have q : ¬ cSp C j i := (fun h => absurd zc43 (Int32.not_lt.mpr h.2.1.2)); rw [← cHb_n q])) ?_
            exact ih13 (i + 1) (by omega) (by omega)
          · refine z_iload B 0 dX2_holdersOf_68 rfl ?_
            refine z_if_eq B 100 dX2_holdersOf_70 (by decide) (fun _ => ?_) (fun h => absurd h (by decide))
            refine z_iinc B 6 (lv1 := [(5, .int (nI (i + 1))), (6, .int (nI (0))), (0, .ref (a 5)), (1, .ref (a 3)), (2, .int (nI (j))), (3, .int (cHb C j i)), (4, .int (C 7 j))]) dX2_holdersOf_100 rfl (nI_1 _) (by decide) rfl ?_
            refine z_goto B 13 dX2_holdersOf_103 (by decide) ?_
            refine z_loc [2, 3, 4, 5, 6, 0] (lv' := [(0, .ref (a 5)), (1, .ref (a 3)), (2, .int (nI (j))), (3, .int (cHb C j i)), (4, .int (C 7 j)), (5, .int (nI (i + 1)))]) rfl ?_
            refine z_lvc (lv' := [(0, .ref (a 5)), (1, .ref (a 3)), (2, .int (nI (j))), (3, .int (cHb C j (i + 1))), (4, .int (C 7 j)), (5, .int (nI ((i + 1))))]) (by first | (have q : cSp C j i := ⟨zc65, ⟨i_nlt zc31, i_nlt zc43⟩, zc85⟩; rw [cHb_y q]) | (have q : ¬ cSp C j i := (fun h => h.1 zc65); rw [← cHb_n q]) | (have q : ¬ cSp C j i := (fun h => zc85 h.2.2); rw [← cHb_n q]) | (have q : ¬ cSp C j i := (fun h => absurd zc31 (Int32.not_lt.mpr h.2.1.1)); rw [← cHb_n q]) | (have q : ¬ cSp C j i := (fun h => absurd zc43 (Int32.not_lt.mpr h.2.1.2)); rw [← cHb_n q])) ?_
            exact ih13 (i + 1) (by omega) (by omega)
        · refine z_iload B 4 dX2_holdersOf_34 rfl ?_
          refine z_aload_n B 0 dX2_holdersOf_36 rfl rfl ?_
          refine z_get (C := RX2) (T := TX2) (N := 7) (v := .ref (a 25)) B 5 5 4 fw_X2_holdersOf_X2 rfl rfl (by decide) rfl rfl rfl dX2_holdersOf_37 ?_
          refine z_iload B 5 dX2_holdersOf_40 rfl ?_
          refine z_iald (g := (C 26)) (i := i) B 25 0 rfl rfl (by omega) (by decide) dX2_holdersOf_42 ?_
          refine z_icmp_gt B 50 dX2_holdersOf_43 (by decide) (fun zc43 => ?_) (fun zc43 => ?_)
          · refine z_iconst (v := nI 0) B dX2_holdersOf_50 (by decide) ?_
            refine z_istore (lv1 := [(6, .int (nI (0))), (0, .ref (a 5)), (1, .ref (a 3)), (2, .int (nI (j))), (3, .int (cHb C j i)), (4, .int (C 7 j)), (5, .int (nI (i)))]) B dX2_holdersOf_51 (by decide) rfl ?_
            refine z_aload_n B 1 dX2_holdersOf_53 rfl rfl ?_
            refine z_get (C := RX2) (T := TX2) (N := 7) (v := .ref (a 21)) B 5 0 5 fw_X2_holdersOf_X2 rfl rfl (by decide) rfl rfl rfl dX2_holdersOf_54 ?_
            refine z_aload_n B 1 dX2_holdersOf_57 rfl rfl ?_
            refine z_get (C := RX2) (T := TX2) (N := 7) (v := .ref (a 22)) B 5 2 6 fw_X2_holdersOf_X2 rfl rfl (by decide) rfl rfl rfl dX2_holdersOf_58 ?_
            refine z_iload B 6 dX2_holdersOf_61 rfl ?_
            refine z_iald (g := (C 23)) (i := i) B 22 0 rfl rfl (by omega) (by decide) dX2_holdersOf_63 ?_
            refine z_top (y := nI (cHc C i)) (CI_23 (C := C) hI _) ?_
            have := CI_b23 (C := C) hI i
            refine z_zald (g := (C 21)) (i := cHc C i) B 21 1 rfl rfl (by omega) (by decide) dX2_holdersOf_64 ?_
            refine z_if_eq B 100 dX2_holdersOf_65 (by decide) (fun zc65 => ?_) (fun zc65 => ?_)
            · refine z_iinc B 6 (lv1 := [(5, .int (nI (i + 1))), (6, .int (nI (0))), (0, .ref (a 5)), (1, .ref (a 3)), (2, .int (nI (j))), (3, .int (cHb C j i)), (4, .int (C 7 j))]) dX2_holdersOf_100 rfl (nI_1 _) (by decide) rfl ?_
              refine z_goto B 13 dX2_holdersOf_103 (by decide) ?_
              refine z_loc [2, 3, 4, 5, 6, 0] (lv' := [(0, .ref (a 5)), (1, .ref (a 3)), (2, .int (nI (j))), (3, .int (cHb C j i)), (4, .int (C 7 j)), (5, .int (nI (i + 1)))]) rfl ?_
              refine z_lvc (lv' := [(0, .ref (a 5)), (1, .ref (a 3)), (2, .int (nI (j))), (3, .int (cHb C j (i + 1))), (4, .int (C 7 j)), (5, .int (nI ((i + 1))))]) (by first | (have q : cSp C j i := ⟨zc65, ⟨i_nlt zc31, i_nlt zc43⟩, zc85⟩; rw [cHb_y q]) | (have q : ¬ cSp C j i := (fun h => h.1 zc65); rw [← cHb_n q]) | (have q : ¬ cSp C j i := (fun h => zc85 h.2.2); rw [← cHb_n q]) | (have q : ¬ cSp C j i := (fun h => absurd zc31 (Int32.not_lt.mpr h.2.1.1)); rw [← cHb_n q]) | (have q : ¬ cSp C j i := (fun h => absurd zc43 (Int32.not_lt.mpr h.2.1.2)); rw [← cHb_n q])) ?_
              exact ih13 (i + 1) (by omega) (by omega)
            · refine z_iload B 0 dX2_holdersOf_68 rfl ?_
              refine z_if_eq B 100 dX2_holdersOf_70 (by decide) (fun _ => ?_) (fun h => absurd h (by decide))
              refine z_iinc B 6 (lv1 := [(5, .int (nI (i + 1))), (6, .int (nI (0))), (0, .ref (a 5)), (1, .ref (a 3)), (2, .int (nI (j))), (3, .int (cHb C j i)), (4, .int (C 7 j))]) dX2_holdersOf_100 rfl (nI_1 _) (by decide) rfl ?_
              refine z_goto B 13 dX2_holdersOf_103 (by decide) ?_
              refine z_loc [2, 3, 4, 5, 6, 0] (lv' := [(0, .ref (a 5)), (1, .ref (a 3)), (2, .int (nI (j))), (3, .int (cHb C j i)), (4, .int (C 7 j)), (5, .int (nI (i + 1)))]) rfl ?_
              refine z_lvc (lv' := [(0, .ref (a 5)), (1, .ref (a 3)), (2, .int (nI (j))), (3, .int (cHb C j (i + 1))), (4, .int (C 7 j)), (5, .int (nI ((i + 1))))]) (by first | (have q : cSp C j i := ⟨zc65, ⟨i_nlt zc31, i_nlt zc43⟩, zc85⟩; rw [cHb_y q]) | (have q : ¬ cSp C j i := (fun h => h.1 zc65); rw [← cHb_n q]) | (have q : ¬ cSp C j i := (fun h => zc85 h.2.2); rw [← cHb_n q]) | (have q : ¬ cSp C j i := (fun h => absurd zc31 (Int32.not_lt.mpr h.2.1.1)); rw [← cHb_n q]) | (have q : ¬ cSp C j i := (fun h => absurd zc43 (Int32.not_lt.mpr h.2.1.2)); rw [← cHb_n q])) ?_
              exact ih13 (i + 1) (by omega) (by omega)
          · refine z_iconst (v := nI 1) B dX2_holdersOf_46 (by decide) ?_
            refine z_goto B 51 dX2_holdersOf_47 (by decide) ?_
            refine z_istore (lv1 := [(6, .int (nI (1))), (0, .ref (a 5)), (1, .ref (a 3)), (2, .int (nI (j))), (3, .int (cHb C j i)), (4, .int (C 7 j)), (5, .int (nI (i)))]) B dX2_holdersOf_51 (by decide) rfl ?_
            refine z_aload_n B 1 dX2_holdersOf_53 rfl rfl ?_
            refine z_get (C := RX2) (T := TX2) (N := 7) (v := .ref (a 21)) B 5 0 5 fw_X2_holdersOf_X2 rfl rfl (by decide) rfl rfl rfl dX2_holdersOf_54 ?_
            refine z_aload_n B 1 dX2_holdersOf_57 rfl rfl ?_
            refine z_get (C := RX2) (T := TX2) (N := 7) (v := .ref (a 22)) B 5 2 6 fw_X2_holdersOf_X2 rfl rfl (by decide) rfl rfl rfl dX2_holdersOf_58 ?_
            refine z_iload B 6 dX2_holdersOf_61 rfl ?_
            refine z_iald (g := (C 23)) (i := i) B 22 0 rfl rfl (by omega) (by decide) dX2_holdersOf_63 ?_
            refine z_top (y := nI (cHc C i)) (CI_23 (C := C) hI _) ?_
            have := CI_b23 (C := C) hI i
            refine z_zald (g := (C 21)) (i := cHc C i) B 21 1 rfl rfl (by omega) (by decide) dX2_holdersOf_64 ?_
            refine z_if_eq B 100 dX2_holdersOf_65 (by decide) (fun zc65 => ?_) (fun zc65 => ?_)
            · refine z_iinc B 6 (lv1 := [(5, .int (nI (i + 1))), (6, .int (nI (1))), (0, .ref (a 5)), (1, .ref (a 3)), (2, .int (nI (j))), (3, .int (cHb C j i)), (4, .int (C 7 j))]) dX2_holdersOf_100 rfl (nI_1 _) (by decide) rfl ?_
              refine z_goto B 13 dX2_holdersOf_103 (by decide) ?_
              refine z_loc [2, 3, 4, 5, 6, 0] (lv' := [(0, .ref (a 5)), (1, .ref (a 3)), (2, .int (nI (j))), (3, .int (cHb C j i)), (4, .int (C 7 j)), (5, .int (nI (i + 1)))]) rfl ?_
              refine z_lvc (lv' := [(0, .ref (a 5)), (1, .ref (a 3)), (2, .int (nI (j))), (3, .int (cHb C j (i + 1))), (4, .int (C 7 j)), (5, .int (nI ((i + 1))))]) (by first | (have q : cSp C j i := ⟨zc65, ⟨i_nlt zc31, i_nlt zc43⟩, zc85⟩; rw [cHb_y q]) | (have q : ¬ cSp C j i := (fun h => h.1 zc65); rw [← cHb_n q]) | (have q : ¬ cSp C j i := (fun h => zc85 h.2.2); rw [← cHb_n q]) | (have q : ¬ cSp C j i := (fun h => absurd zc31 (Int32.not_lt.mpr h.2.1.1)); rw [← cHb_n q]) | (have q : ¬ cSp C j i := (fun h => absurd zc43 (Int32.not_lt.mpr h.2.1.2)); rw [← cHb_n q])) ?_
              exact ih13 (i + 1) (by omega) (by omega)
            · refine z_iload B 0 dX2_holdersOf_68 rfl ?_
              refine z_if_eq B 100 dX2_holdersOf_70 (by decide) (fun h => absurd h (by decide)) (fun _ => ?_)
              refine z_aload_n B 2 dX2_holdersOf_73 rfl rfl ?_
              refine z_iload_n B 3 dX2_holdersOf_74 rfl rfl ?_
              refine z_aload_n B 1 dX2_holdersOf_75 rfl rfl ?_
              refine z_get (C := RX2) (T := TX2) (N := 7) (v := .ref (a 23)) B 5 3 7 fw_X2_holdersOf_X2 rfl rfl (by decide) rfl rfl rfl dX2_holdersOf_76 ?_
              refine z_iload B 6 dX2_holdersOf_79 rfl ?_
              refine z_iald (g := (C 24)) (i := i) B 23 0 rfl rfl (by omega) (by decide) dX2_holdersOf_81 ?_
              refine z_callP (As := [.int (nI (j)), .int (C 24 i)]) (st := []) (C := RX0) (T := TX0) (N := 11) (ci := 0) (l := l) B hl (cc_X0_hasLegFor l D g a C m hI j (by omega) (C 24 i)) gX2_holdersOf_X0_hasLegFor rfl ⟨rfl, rfl⟩ nm_X0_hasLegFor ⟨by decide, by decide⟩ (fun _ h => h) 3 rfl rfl rfl (Nat.le_of_ble_eq_true rfl) dX2_holdersOf_82 (Nat.zero_le _) (Nat.zero_le _) (fun r hr => ?_)
              subst hr
              refine z_ifB_eq B 100 dX2_holdersOf_85 (by decide) (fun zc85 => ?_) (fun zc85 => ?_)
              · refine z_iinc B 6 (lv1 := [(5, .int (nI (i + 1))), (6, .int (nI (1))), (0, .ref (a 5)), (1, .ref (a 3)), (2, .int (nI (j))), (3, .int (cHb C j i)), (4, .int (C 7 j))]) dX2_holdersOf_100 rfl (nI_1 _) (by decide) rfl ?_
                refine z_goto B 13 dX2_holdersOf_103 (by decide) ?_
                refine z_loc [2, 3, 4, 5, 6, 0] (lv' := [(0, .ref (a 5)), (1, .ref (a 3)), (2, .int (nI (j))), (3, .int (cHb C j i)), (4, .int (C 7 j)), (5, .int (nI (i + 1)))]) rfl ?_
                refine z_lvc (lv' := [(0, .ref (a 5)), (1, .ref (a 3)), (2, .int (nI (j))), (3, .int (cHb C j (i + 1))), (4, .int (C 7 j)), (5, .int (nI ((i + 1))))]) (by first | (have q : cSp C j i := ⟨zc65, ⟨i_nlt zc31, i_nlt zc43⟩, zc85⟩; rw [cHb_y q]) | (have q : ¬ cSp C j i := (fun h => h.1 zc65); rw [← cHb_n q]) | (have q : ¬ cSp C j i := (fun h => zc85 h.2.2); rw [← cHb_n q]) | (have q : ¬ cSp C j i := (fun h => absurd zc31 (Int32.not_lt.mpr h.2.1.1)); rw [← cHb_n q]) | (have q : ¬ cSp C j i := (fun h => absurd zc43 (Int32.not_lt.mpr h.2.1.2)); rw [← cHb_n q])) ?_
                exact ih13 (i + 1) (by omega) (by omega)
              · refine z_iload_n B 4 dX2_holdersOf_88 rfl rfl ?_
                refine z_iconst (v := nI 1) B dX2_holdersOf_89 (by decide) ?_
                refine z_aload_n B 1 dX2_holdersOf_90 rfl rfl ?_
                refine z_get (C := RX2) (T := TX2) (N := 7) (v := .ref (a 22)) B 5 2 6 fw_X2_holdersOf_X2 rfl rfl (by decide) rfl rfl rfl dX2_holdersOf_91 ?_
                refine z_iload B 6 dX2_holdersOf_94 rfl ?_
                refine z_iald (g := (C 23)) (i := i) B 22 0 rfl rfl (by omega) (by decide) dX2_holdersOf_96 ?_
                refine z_top (y := nI (cHc C i)) (CI_23 (C := C) hI _) ?_
                have := CI_b23 (C := C) hI i
                refine z_ishl B dX2_holdersOf_97 ?_
                refine z_ior B dX2_holdersOf_98 ?_
                refine z_istore_n (lv1 := [(3, .int (((cHb C j i) ||| ((nI (1)) <<< ((nI (cHc C i)) &&& 31))))), (6, .int (nI (1))), (0, .ref (a 5)), (1, .ref (a 3)), (2, .int (nI (j))), (4, .int (C 7 j)), (5, .int (nI (i)))]) B dX2_holdersOf_99 rfl (by decide) rfl ?_
                refine z_iinc B 6 (lv1 := [(5, .int (nI (i + 1))), (3, .int (((cHb C j i) ||| ((nI (1)) <<< ((nI (cHc C i)) &&& 31))))), (6, .int (nI (1))), (0, .ref (a 5)), (1, .ref (a 3)), (2, .int (nI (j))), (4, .int (C 7 j))]) dX2_holdersOf_100 rfl (nI_1 _) (by decide) rfl ?_
                refine z_goto B 13 dX2_holdersOf_103 (by decide) ?_
                refine z_loc [3, 4, 5, 1, 6, 0] (lv' := [(0, .ref (a 5)), (1, .ref (a 3)), (2, .int (nI (j))), (3, .int (((cHb C j i) ||| ((nI (1)) <<< ((nI (cHc C i)) &&& 31))))), (4, .int (C 7 j)), (5, .int (nI (i + 1)))]) rfl ?_
                refine z_lvc (lv' := [(0, .ref (a 5)), (1, .ref (a 3)), (2, .int (nI (j))), (3, .int (cHb C j (i + 1))), (4, .int (C 7 j)), (5, .int (nI ((i + 1))))]) (by first | (have q : cSp C j i := ⟨zc65, ⟨i_nlt zc31, i_nlt zc43⟩, zc85⟩; rw [cHb_y q]) | (have q : ¬ cSp C j i := (fun h => h.1 zc65); rw [← cHb_n q]) | (have q : ¬ cSp C j i := (fun h => zc85 h.2.2); rw [← cHb_n q]) | (have q : ¬ cSp C j i := (fun h => absurd zc31 (Int32.not_lt.mpr h.2.1.1)); rw [← cHb_n q]) | (have q : ¬ cSp C j i := (fun h => absurd zc43 (Int32.not_lt.mpr h.2.1.2)); rw [← cHb_n q])) ?_
                exact ih13 (i + 1) (by omega) (by omega)
  refine z_loc [3, 4, 5, 2, 1, 0] (lv' := [(0, .ref (a 5)), (1, .ref (a 3)), (2, .int (nI (j))), (3, .int (nI (0))), (4, .int (C 7 j)), (5, .int (nI (0)))]) rfl ?_
  refine z_lvc (lv' := [(0, .ref (a 5)), (1, .ref (a 3)), (2, .int (nI (j))), (3, .int (cHb C j 0)), (4, .int (C 7 j)), (5, .int (nI (0)))]) (by rfl) ?_
  exact loop13 (cH C + 1) 0 (by omega) (by omega)
theorem fw_X2_countHeld_X0 : zF wsX2_countHeld RX0 TX0 11 := fun _ h => List.mem_cons_of_mem _ (List.mem_append_left _ (List.mem_append_right _ (h)))
set_option maxHeartbeats 4000000 in
set_option maxRecDepth 100000 in
theorem cc_X2_countHeld (l : Launch) (D : va_G) (g : zG) (a : Nat → Nat) (C : zMS) (m : Nat) (hI : CI C) (c : Int32) : zPure l yX2_countHeld wsX2_countHeld { frames := 2, cells := 0, slots := 0, locals := 49 } D (zT g) (wC g a C m) [.ref (a 5), .int (c), .ref (a 3)] (fun r => r = nI (zcnt (fun p => ¬ cHS C p &&& (nI 1 <<< (c &&& 31)) = 0) (cP C))) := by
  refine zPure_of (cc := cX2_countHeld) (maxL := 5) (ret := (some .int)) (own := RX2) [(0, .ref (a 5)), (1, .int (c)), (2, .ref (a 3))] (by decide) rfl rfl rfl (Nat.le_of_ble_eq_true rfl) ?_
  intro X hl B hr
  obtain ⟨b19, b3, b6, b20, b22, b27, b0⟩ := CI_bs hI
  refine z_iconst (v := nI 0) B dX2_countHeld_0 (by decide) ?_
  refine z_istore_n (lv1 := [(3, .int (nI (0))), (0, .ref (a 5)), (1, .int (c)), (2, .ref (a 3))]) B dX2_countHeld_1 rfl (by decide) rfl ?_
  refine z_iconst (v := nI 0) B dX2_countHeld_2 (by decide) ?_
  refine z_istore (lv1 := [(4, .int (nI (0))), (3, .int (nI (0))), (0, .ref (a 5)), (1, .int (c)), (2, .ref (a 3))]) B dX2_countHeld_3 (by decide) rfl ?_
  have loop5 : ∀ (n0 i : Nat), i ≤ cP C → cP C + 1 ≤ i + n0 → zJ X 5 (zI0 D (zs X)) (zQe X (vp_Si (fun r => r = nI (zcnt (fun p => ¬ cHS C p &&& (nI 1 <<< (c &&& 31)) = 0) (cP C)))) 0 0 (fun _ => False)) (wC g a C m) 0 0 [(0, .ref (a 5)), (1, .int (c)), (2, .ref (a 3)), (3, .int (nI (zcnt (fun p => ¬ cHS C p &&& (nI (1) <<< (c &&& 31)) = 0) i))), (4, .int (nI (i)))] 5 [] := by
    intro n5
    induction n5 with
    | zero => intro i h1 h2; exact absurd h2 (by omega)
    | succ n5 ih5 =>
      intro i hle5 hn5
      refine z_iload B 4 dX2_countHeld_5 rfl ?_
      refine z_aload_n B 2 dX2_countHeld_7 rfl rfl ?_
      refine z_get (C := RX0) (T := TX0) (N := 11) (v := .int (C 19 0)) B 3 10 1 fw_X2_countHeld_X0 rfl rfl (by decide) rfl rfl rfl dX2_countHeld_8 ?_
      refine z_top (y := nI (cP C)) (CI_19 (C := C) hI) ?_
      refine z_icmpN_ge B 37 dX2_countHeld_11 (by decide) (by omega) (by omega) (fun zc11 => ?_) (fun zc11 => ?_)
      · obtain rfl : i = cP C := by omega
        refine z_iload_n B 3 dX2_countHeld_37 rfl rfl ?_
        exact z_pret B hr dX2_countHeld_38 rfl (by rfl)
      · refine z_aload_n B 0 dX2_countHeld_14 rfl rfl ?_
        refine z_aload_n B 2 dX2_countHeld_15 rfl rfl ?_
        refine z_iload B 4 dX2_countHeld_16 rfl ?_
        refine z_callP (As := [.ref (a 3), .int (nI (i))]) (st := []) (C := RX2) (T := TX2) (N := 7) (ci := 2) (l := l) B hl (cc_X2_holdersOf l D g a C m hI i (by omega)) gX2_countHeld_X2_holdersOf rfl ⟨rfl, rfl⟩ nm_X2_holdersOf ⟨by decide, by decide⟩ (fun _ h => h) 5 rfl rfl rfl (Nat.le_of_ble_eq_true rfl) dX2_countHeld_18 (Nat.zero_le _) (Nat.zero_le _) (fun r hr => ?_)
        subst hr
        refine z_iconst (v := nI 1) B dX2_countHeld_21 (by decide) ?_
        refine z_iload_n B 1 dX2_countHeld_22 rfl rfl ?_
        refine z_ishl B dX2_countHeld_23 ?_
        refine z_iand B dX2_countHeld_24 ?_
        refine z_if_eq B 31 dX2_countHeld_25 (by decide) (fun zc25 => ?_) (fun zc25 => ?_)
        · refine z_iinc B 4 (lv1 := [(4, .int (nI (i + 1))), (0, .ref (a 5)), (1, .int (c)), (2, .ref (a 3)), (3, .int (nI (zcnt (fun p => ¬ cHS C p &&& (nI (1) <<< (c &&& 31)) = 0) i)))]) dX2_countHeld_31 rfl (nI_1 _) (by decide) rfl ?_
          refine z_goto B 5 dX2_countHeld_34 (by decide) ?_
          refine z_loc [1, 2, 3, 4, 0] (lv' := [(0, .ref (a 5)), (1, .int (c)), (2, .ref (a 3)), (3, .int (nI (zcnt (fun p => ¬ cHS C p &&& (nI (1) <<< (c &&& 31)) = 0) i))), (4, .int (nI (i + 1)))]) rfl ?_
          refine z_lvc (lv' := [(0, .ref (a 5)), (1, .int (c)), (2, .ref (a 3)), (3, .int (nI (zcnt (fun p => ¬ cHS C p &&& (nI (1) <<< (c &&& 31)) = 0) (i + 1)))), (4, .int (nI ((i + 1))))]) (by first | rw [zcnt_y (P := fun p => ¬ cHS C p &&& (nI (1) <<< (c &&& 31)) = 0) zc25] | rw [← zcnt_n (P := fun p => ¬ cHS C p &&& (nI (1) <<< (c &&& 31)) = 0) (not_not_intro zc25)]) ?_
          exact ih5 (i + 1) (by omega) (by omega)
        · refine z_iinc B 3 (lv1 := [(3, .int (nI (zcnt (fun p => ¬ cHS C p &&& (nI (1) <<< (c &&& 31)) = 0) i + 1))), (0, .ref (a 5)), (1, .int (c)), (2, .ref (a 3)), (4, .int (nI (i)))]) dX2_countHeld_28 rfl (nI_1 _) (by decide) rfl ?_
          refine z_iinc B 4 (lv1 := [(4, .int (nI (i + 1))), (3, .int (nI (zcnt (fun p => ¬ cHS C p &&& (nI (1) <<< (c &&& 31)) = 0) i + 1))), (0, .ref (a 5)), (1, .int (c)), (2, .ref (a 3))]) dX2_countHeld_31 rfl (nI_1 _) (by decide) rfl ?_
          refine z_goto B 5 dX2_countHeld_34 (by decide) ?_
          refine z_loc [2, 3, 4, 1, 0] (lv' := [(0, .ref (a 5)), (1, .int (c)), (2, .ref (a 3)), (3, .int (nI (zcnt (fun p => ¬ cHS C p &&& (nI (1) <<< (c &&& 31)) = 0) i + 1))), (4, .int (nI (i + 1)))]) rfl ?_
          refine z_lvc (lv' := [(0, .ref (a 5)), (1, .int (c)), (2, .ref (a 3)), (3, .int (nI (zcnt (fun p => ¬ cHS C p &&& (nI (1) <<< (c &&& 31)) = 0) (i + 1)))), (4, .int (nI ((i + 1))))]) (by first | rw [zcnt_y (P := fun p => ¬ cHS C p &&& (nI (1) <<< (c &&& 31)) = 0) zc25] | rw [← zcnt_n (P := fun p => ¬ cHS C p &&& (nI (1) <<< (c &&& 31)) = 0) (not_not_intro zc25)]) ?_
          exact ih5 (i + 1) (by omega) (by omega)
  refine z_loc [2, 3, 4, 1, 0] (lv' := [(0, .ref (a 5)), (1, .int (c)), (2, .ref (a 3)), (3, .int (nI (0))), (4, .int (nI (0)))]) rfl ?_
  refine z_lvc (lv' := [(0, .ref (a 5)), (1, .int (c)), (2, .ref (a 3)), (3, .int (nI (zcnt (fun p => ¬ cHS C p &&& (nI (1) <<< (c &&& 31)) = 0) 0))), (4, .int (nI (0)))]) (by rfl) ?_
  exact loop5 (cP C + 1) 0 (by omega) (by omega)
theorem fw_X2_countHeldAlone_X0 : zF wsX2_countHeldAlone RX0 TX0 11 := fun _ h => List.mem_cons_of_mem _ (List.mem_append_left _ (List.mem_append_right _ (h)))
set_option maxHeartbeats 4000000 in
set_option maxRecDepth 100000 in
theorem cc_X2_countHeldAlone (l : Launch) (D : va_G) (g : zG) (a : Nat → Nat) (C : zMS) (m : Nat) (hI : CI C) (c : Int32) : zPure l yX2_countHeldAlone wsX2_countHeldAlone { frames := 2, cells := 0, slots := 0, locals := 49 } D (zT g) (wC g a C m) [.ref (a 5), .int (c), .ref (a 3)] (fun r => r = nI (zcnt (fun p => cHS C p = (nI 1 <<< (c &&& 31))) (cP C))) := by
  refine zPure_of (cc := cX2_countHeldAlone) (maxL := 5) (ret := (some .int)) (own := RX2) [(0, .ref (a 5)), (1, .int (c)), (2, .ref (a 3))] (by decide) rfl rfl rfl (Nat.le_of_ble_eq_true rfl) ?_
  intro X hl B hr
  obtain ⟨b19, b3, b6, b20, b22, b27, b0⟩ := CI_bs hI
  refine z_iconst (v := nI 0) B dX2_countHeldAlone_0 (by decide) ?_
  refine z_istore_n (lv1 := [(3, .int (nI (0))), (0, .ref (a 5)), (1, .int (c)), (2, .ref (a 3))]) B dX2_countHeldAlone_1 rfl (by decide) rfl ?_
  refine z_iconst (v := nI 0) B dX2_countHeldAlone_2 (by decide) ?_
  refine z_istore (lv1 := [(4, .int (nI (0))), (3, .int (nI (0))), (0, .ref (a 5)), (1, .int (c)), (2, .ref (a 3))]) B dX2_countHeldAlone_3 (by decide) rfl ?_
  have loop5 : ∀ (n0 i : Nat), i ≤ cP C → cP C + 1 ≤ i + n0 → zJ X 5 (zI0 D (zs X)) (zQe X (vp_Si (fun r => r = nI (zcnt (fun p => cHS C p = (nI 1 <<< (c &&& 31))) (cP C)))) 0 0 (fun _ => False)) (wC g a C m) 0 0 [(0, .ref (a 5)), (1, .int (c)), (2, .ref (a 3)), (3, .int (nI (zcnt (fun p => cHS C p = (nI (1) <<< (c &&& 31))) i))), (4, .int (nI (i)))] 5 [] := by
    intro n5
    induction n5 with
    | zero => intro i h1 h2; exact absurd h2 (by omega)
    | succ n5 ih5 =>
      intro i hle5 hn5
      refine z_iload B 4 dX2_countHeldAlone_5 rfl ?_
      refine z_aload_n B 2 dX2_countHeldAlone_7 rfl rfl ?_
      refine z_get (C := RX0) (T := TX0) (N := 11) (v := .int (C 19 0)) B 3 10 1 fw_X2_countHeldAlone_X0 rfl rfl (by decide) rfl rfl rfl dX2_countHeldAlone_8 ?_
      refine z_top (y := nI (cP C)) (CI_19 (C := C) hI) ?_
      refine z_icmpN_ge B 36 dX2_countHeldAlone_11 (by decide) (by omega) (by omega) (fun zc11 => ?_) (fun zc11 => ?_)
      · obtain rfl : i = cP C := by omega
        refine z_iload_n B 3 dX2_countHeldAlone_36 rfl rfl ?_
        exact z_pret B hr dX2_countHeldAlone_37 rfl (by rfl)
      · refine z_aload_n B 0 dX2_countHeldAlone_14 rfl rfl ?_
        refine z_aload_n B 2 dX2_countHeldAlone_15 rfl rfl ?_
        refine z_iload B 4 dX2_countHeldAlone_16 rfl ?_
        refine z_callP (As := [.ref (a 3), .int (nI (i))]) (st := []) (C := RX2) (T := TX2) (N := 7) (ci := 2) (l := l) B hl (cc_X2_holdersOf l D g a C m hI i (by omega)) gX2_countHeldAlone_X2_holdersOf rfl ⟨rfl, rfl⟩ nm_X2_holdersOf ⟨by decide, by decide⟩ (fun _ h => h) 5 rfl rfl rfl (Nat.le_of_ble_eq_true rfl) dX2_countHeldAlone_18 (Nat.zero_le _) (Nat.zero_le _) (fun r hr => ?_)
        subst hr
        refine z_iconst (v := nI 1) B dX2_countHeldAlone_21 (by decide) ?_
        refine z_iload_n B 1 dX2_countHeldAlone_22 rfl rfl ?_
        refine z_ishl B dX2_countHeldAlone_23 ?_
        refine z_icmp_ne B 30 dX2_countHeldAlone_24 (by decide) (fun zc24 => ?_) (fun zc24 => ?_)
        · refine z_iinc B 4 (lv1 := [(4, .int (nI (i + 1))), (0, .ref (a 5)), (1, .int (c)), (2, .ref (a 3)), (3, .int (nI (zcnt (fun p => cHS C p = (nI (1) <<< (c &&& 31))) i)))]) dX2_countHeldAlone_30 rfl (nI_1 _) (by decide) rfl ?_
          refine z_goto B 5 dX2_countHeldAlone_33 (by decide) ?_
          refine z_loc [1, 2, 3, 4, 0] (lv' := [(0, .ref (a 5)), (1, .int (c)), (2, .ref (a 3)), (3, .int (nI (zcnt (fun p => cHS C p = (nI (1) <<< (c &&& 31))) i))), (4, .int (nI (i + 1)))]) rfl ?_
          refine z_lvc (lv' := [(0, .ref (a 5)), (1, .int (c)), (2, .ref (a 3)), (3, .int (nI (zcnt (fun p => cHS C p = (nI (1) <<< (c &&& 31))) (i + 1)))), (4, .int (nI ((i + 1))))]) (by first | rw [zcnt_y (P := fun p => cHS C p = (nI (1) <<< (c &&& 31))) zc24] | rw [← zcnt_n (P := fun p => cHS C p = (nI (1) <<< (c &&& 31))) zc24]) ?_
          exact ih5 (i + 1) (by omega) (by omega)
        · refine z_iinc B 3 (lv1 := [(3, .int (nI (zcnt (fun p => cHS C p = (nI (1) <<< (c &&& 31))) i + 1))), (0, .ref (a 5)), (1, .int (c)), (2, .ref (a 3)), (4, .int (nI (i)))]) dX2_countHeldAlone_27 rfl (nI_1 _) (by decide) rfl ?_
          refine z_iinc B 4 (lv1 := [(4, .int (nI (i + 1))), (3, .int (nI (zcnt (fun p => cHS C p = (nI (1) <<< (c &&& 31))) i + 1))), (0, .ref (a 5)), (1, .int (c)), (2, .ref (a 3))]) dX2_countHeldAlone_30 rfl (nI_1 _) (by decide) rfl ?_
          refine z_goto B 5 dX2_countHeldAlone_33 (by decide) ?_
          refine z_loc [2, 3, 4, 1, 0] (lv' := [(0, .ref (a 5)), (1, .int (c)), (2, .ref (a 3)), (3, .int (nI (zcnt (fun p => cHS C p = (nI (1) <<< (c &&& 31))) i + 1))), (4, .int (nI (i + 1)))]) rfl ?_
          refine z_lvc (lv' := [(0, .ref (a 5)), (1, .int (c)), (2, .ref (a 3)), (3, .int (nI (zcnt (fun p => cHS C p = (nI (1) <<< (c &&& 31))) (i + 1)))), (4, .int (nI ((i + 1))))]) (by first | rw [zcnt_y (P := fun p => cHS C p = (nI (1) <<< (c &&& 31))) zc24] | rw [← zcnt_n (P := fun p => cHS C p = (nI (1) <<< (c &&& 31))) zc24]) ?_
          exact ih5 (i + 1) (by omega) (by omega)
  refine z_loc [2, 3, 4, 1, 0] (lv' := [(0, .ref (a 5)), (1, .int (c)), (2, .ref (a 3)), (3, .int (nI (0))), (4, .int (nI (0)))]) rfl ?_
  refine z_lvc (lv' := [(0, .ref (a 5)), (1, .int (c)), (2, .ref (a 3)), (3, .int (nI (zcnt (fun p => cHS C p = (nI (1) <<< (c &&& 31))) 0))), (4, .int (nI (0)))]) (by rfl) ?_
  exact loop5 (cP C + 1) 0 (by omega) (by omega)
theorem fw_X2_holdsAnyIn_X1 : zF wsX2_holdsAnyIn RX1 TX1 5 := fun _ h => List.mem_cons_of_mem _ (List.mem_append_left _ (List.mem_append_left _ (List.mem_append_left _ (List.mem_append_right _ (h)))))
set_option maxHeartbeats 4000000 in
set_option maxRecDepth 100000 in
theorem cc_X2_holdsAnyIn (l : Launch) (D : va_G) (g : zG) (a : Nat → Nat) (C : zMS) (m : Nat) (hI : CI C) (hm : 4 * cM C ≤ m) (k : Nat) (hk : k < cM C) (hfe : cF C k ≤ cE C k) : zPure l yX2_holdsAnyIn wsX2_holdsAnyIn { frames := 2, cells := 0, slots := 0, locals := 49 } D (zT g) (wC g a C m) [.ref (a 5), .ref (a (30 + 4 * k)), .ref (a 3)] (fun r => r = bI (cAny C k)) := by
  refine zPure_of (cc := cX2_holdsAnyIn) (maxL := 4) (ret := (some .boolean)) (own := RX2) [(0, .ref (a 5)), (1, .ref (a (30 + 4 * k))), (2, .ref (a 3))] (by decide) rfl rfl rfl (Nat.le_of_ble_eq_true rfl) ?_
  intro X hl B hr
  obtain ⟨b19, b3, b6, b20, b22, b27, b0⟩ := CI_bs hI
  have bE := CI_b42 hI k
  have bF := CI_b41 hI k
  refine z_aload_n B 1 dX2_holdsAnyIn_0 rfl rfl ?_
  refine z_get (C := RX1) (T := TX1) (N := 5) (v := .int (C (41 + 8 * k) 0)) B (30 + 4 * k) 2 1 fw_X2_holdsAnyIn_X1 (wC_c0 (by omega)) rfl (by decide) rfl rfl rfl dX2_holdsAnyIn_1 ?_
  refine z_top (y := nI (cF C k)) (CI_41 (C := C) hI k) ?_
  refine z_istore_n (lv1 := [(3, .int (nI (cF C k))), (0, .ref (a 5)), (1, .ref (a (30 + 4 * k))), (2, .ref (a 3))]) B dX2_holdsAnyIn_4 rfl (by decide) rfl ?_
  have loop5 : ∀ (n0 i : Nat), i ≤ cE C k - cF C k → cE C k - cF C k + 1 ≤ i + n0 → (∀ l, l < i → ¬ (¬ C (44 + 8 * k) (cF C k + l) = 0 ∧ ¬ cHS C (cF C k + l) = 0)) → zJ X 4 (zI0 D (zs X)) (zQe X (vp_Si (fun r => r = bI (cAny C k))) 0 0 (fun _ => False)) (wC g a C m) 0 0 [(0, .ref (a 5)), (1, .ref (a (30 + 4 * k))), (2, .ref (a 3)), (3, .int (nI (cF C k + i)))] 5 [] := by
    intro n5
    induction n5 with
    | zero => intro i h1 h2; exact absurd h2 (by omega)
    | succ n5 ih5 =>
      intro i hle5 hn5 hal
      refine z_iload_n B 3 dX2_holdsAnyIn_5 rfl rfl ?_
      refine z_aload_n B 1 dX2_holdsAnyIn_6 rfl rfl ?_
      refine z_get (C := RX1) (T := TX1) (N := 5) (v := .int (C (42 + 8 * k) 0)) B (30 + 4 * k) 3 2 fw_X2_holdsAnyIn_X1 (wC_c0 (by omega)) rfl (by decide) rfl rfl rfl dX2_holdsAnyIn_7 ?_
      refine z_top (y := nI (cE C k)) (CI_42 (C := C) hI k) ?_
      refine z_icmpN_ge B 41 dX2_holdsAnyIn_10 (by decide) (by omega) (by omega) (fun zc10 => ?_) (fun zc10 => ?_)
      · obtain rfl : i = cE C k - cF C k := by omega
        refine z_iconst (v := nI 0) B dX2_holdsAnyIn_41 (by decide) ?_
        exact z_pret B hr dX2_holdsAnyIn_42 (nar_b (Or.inl rfl)) (by exact bI_z (fun ⟨l, hl, h⟩ => hal l hl h))
      · refine z_aload_n B 1 dX2_holdsAnyIn_13 rfl rfl ?_
        refine z_get (C := RX1) (T := TX1) (N := 5) (v := .ref (a (31 + 4 * k))) B (30 + 4 * k) 0 3 fw_X2_holdsAnyIn_X1 (wC_c0 (by omega)) rfl (by decide) rfl rfl rfl dX2_holdsAnyIn_14 ?_
        refine z_iload_n B 3 dX2_holdsAnyIn_17 rfl rfl ?_
        refine z_callP (As := [.int (nI (cF C k + i))]) (st := []) (C := RX4) (T := TX4) (N := 2) (ci := 4) (l := l) B hl (cc_X4_isFilled_K l D g a C m hI k (by omega) (cF C k + i) (by omega)) gX2_holdsAnyIn_X4_isFilled rfl ⟨rfl, rfl⟩ nm_X4_isFilled ⟨by decide, by decide⟩ (fun _ h => h) (31 + 4 * k) (wC_c1 (by omega)) rfl rfl (Nat.le_of_ble_eq_true rfl) dX2_holdsAnyIn_18 (Nat.zero_le _) (Nat.zero_le _) (fun r hr => ?_)
        subst hr
        refine z_if_eq B 35 dX2_holdsAnyIn_21 (by decide) (fun zc21 => ?_) (fun zc21 => ?_)
        · refine z_iinc B 3 (lv1 := [(3, .int (nI (cF C k + i + 1))), (0, .ref (a 5)), (1, .ref (a (30 + 4 * k))), (2, .ref (a 3))]) dX2_holdsAnyIn_35 rfl (nI_1 _) (by decide) rfl ?_
          refine z_goto B 5 dX2_holdsAnyIn_38 (by decide) ?_
          refine z_loc [1, 2, 3, 0] (lv' := [(0, .ref (a 5)), (1, .ref (a (30 + 4 * k))), (2, .ref (a 3)), (3, .int (nI (cF C k + i + 1)))]) rfl ?_
          refine z_lvc (lv' := [(0, .ref (a 5)), (1, .ref (a (30 + 4 * k))), (2, .ref (a 3)), (3, .int (nI (cF C k + (i + 1))))]) (by rfl) ?_
          exact ih5 (i + 1) (by omega) (by omega) (all_s.mpr ⟨hal, by first | exact fun h => h.1 zc21 | exact fun h => h.2 zc30⟩)
        · refine z_aload_n B 0 dX2_holdsAnyIn_24 rfl rfl ?_
          refine z_aload_n B 2 dX2_holdsAnyIn_25 rfl rfl ?_
          refine z_iload_n B 3 dX2_holdsAnyIn_26 rfl rfl ?_
          refine z_callP (As := [.ref (a 3), .int (nI (cF C k + i))]) (st := []) (C := RX2) (T := TX2) (N := 7) (ci := 2) (l := l) B hl (cc_X2_holdersOf l D g a C m hI (cF C k + i) (by omega)) gX2_holdsAnyIn_X2_holdersOf rfl ⟨rfl, rfl⟩ nm_X2_holdersOf ⟨by decide, by decide⟩ (fun _ h => h) 5 rfl rfl rfl (Nat.le_of_ble_eq_true rfl) dX2_holdsAnyIn_27 (Nat.zero_le _) (Nat.zero_le _) (fun r hr => ?_)
          subst hr
          refine z_if_eq B 35 dX2_holdsAnyIn_30 (by decide) (fun zc30 => ?_) (fun zc30 => ?_)
          · refine z_iinc B 3 (lv1 := [(3, .int (nI (cF C k + i + 1))), (0, .ref (a 5)), (1, .ref (a (30 + 4 * k))), (2, .ref (a 3))]) dX2_holdsAnyIn_35 rfl (nI_1 _) (by decide) rfl ?_
            refine z_goto B 5 dX2_holdsAnyIn_38 (by decide) ?_
            refine z_loc [1, 2, 3, 0] (lv' := [(0, .ref (a 5)), (1, .ref (a (30 + 4 * k))), (2, .ref (a 3)), (3, .int (nI (cF C k + i + 1)))]) rfl ?_
            refine z_lvc (lv' := [(0, .ref (a 5)), (1, .ref (a (30 + 4 * k))), (2, .ref (a 3)), (3, .int (nI (cF C k + (i + 1))))]) (by rfl) ?_
            exact ih5 (i + 1) (by omega) (by omega) (all_s.mpr ⟨hal, by first | exact fun h => h.1 zc21 | exact fun h => h.2 zc30⟩)
          · refine z_iconst (v := nI 1) B dX2_holdsAnyIn_33 (by decide) ?_
            exact z_pret B hr dX2_holdsAnyIn_34 (nar_b (Or.inr rfl)) (by exact bI_1 ⟨i, by omega, zc21, zc30⟩)
  refine z_loc [1, 2, 3, 0] (lv' := [(0, .ref (a 5)), (1, .ref (a (30 + 4 * k))), (2, .ref (a 3)), (3, .int (nI (cF C k)))]) rfl ?_
  refine z_lvc (lv' := [(0, .ref (a 5)), (1, .ref (a (30 + 4 * k))), (2, .ref (a 3)), (3, .int (nI (cF C k + 0)))]) (by rfl) ?_
  exact loop5 (cE C k - cF C k + 1) 0 (by omega) (by omega) (fun l hl => absurd hl (Nat.not_lt_zero l))
theorem fw_X2_maySentence_X0 : zF wsX2_maySentence RX0 TX0 11 := fun _ h => List.mem_cons_of_mem _ (List.mem_append_left _ (List.mem_append_right _ (h)))
theorem fw_X2_maySentence_X2 : zF wsX2_maySentence RX2 TX2 7 := fun _ h => List.mem_cons_of_mem _ (List.mem_append_left _ (List.mem_append_left _ (List.mem_append_right _ (h))))
set_option maxHeartbeats 4000000 in
set_option maxRecDepth 100000 in
theorem cc_X2_maySentence (l : Launch) (D : va_G) (g : zG) (a : Nat → Nat) (C : zMS) (m : Nat) (hI : CI C) (c : Nat) (hc : c < 8) (j : Nat) (hj : j < 80) : zPure l yX2_maySentence wsX2_maySentence { frames := 3, cells := 0, slots := 0, locals := 67 } D (zT g) (wC g a C m) [.ref (a 5), .int (nI (c)), .ref (a 3), .int (nI (j))] (fun r => r = bI (cMay C c j)) := by
  refine zPure_of (cc := cX2_maySentence) (maxL := 5) (ret := (some .boolean)) (own := RX2) [(0, .ref (a 5)), (1, .int (nI (c))), (2, .ref (a 3)), (3, .int (nI (j)))] (by decide) rfl rfl rfl (Nat.le_of_ble_eq_true rfl) ?_
  intro X hl B hr
  obtain ⟨b19, b3, b6, b20, b22, b27, b0⟩ := CI_bs hI
  refine z_aload_n B 0 dX2_maySentence_0 rfl rfl ?_
  refine z_aload_n B 2 dX2_maySentence_1 rfl rfl ?_
  refine z_iload_n B 3 dX2_maySentence_2 rfl rfl ?_
  refine z_callP (As := [.ref (a 3), .int (nI (j))]) (st := []) (C := RX2) (T := TX2) (N := 7) (ci := 2) (l := l) B hl (cc_X2_holdersOf l D g a C m hI j (by omega)) gX2_maySentence_X2_holdersOf rfl ⟨rfl, rfl⟩ nm_X2_holdersOf ⟨by decide, by decide⟩ (fun _ h => h) 5 rfl rfl rfl (Nat.le_of_ble_eq_true rfl) dX2_maySentence_3 (Nat.zero_le _) (Nat.zero_le _) (fun r hr => ?_)
  subst hr
  refine z_iconst (v := nI 1) B dX2_maySentence_6 (by decide) ?_
  refine z_iload_n B 1 dX2_maySentence_7 rfl rfl ?_
  refine z_ishl B dX2_maySentence_8 ?_
  refine z_iconst (v := (-1)) B dX2_maySentence_9 (by decide) ?_
  refine z_ixor B dX2_maySentence_10 ?_
  refine z_iand B dX2_maySentence_11 ?_
  refine z_if_eq B 19 dX2_maySentence_12 (by decide) (fun zc12 => ?_) (fun zc12 => ?_)
  · refine z_iconst (v := nI 0) B dX2_maySentence_19 (by decide) ?_
    refine z_istore (lv1 := [(4, .int (nI (0))), (0, .ref (a 5)), (1, .int (nI (c))), (2, .ref (a 3)), (3, .int (nI (j)))]) B dX2_maySentence_20 (by decide) rfl ?_
    refine z_aload_n B 1 dX2_maySentence_22 rfl rfl ?_
    refine z_get (C := RX2) (T := TX2) (N := 7) (v := .ref (a 21)) B 5 0 1 fw_X2_maySentence_X2 rfl rfl (by decide) rfl rfl rfl dX2_maySentence_23 ?_
    refine z_iload_n B 2 dX2_maySentence_26 rfl rfl ?_
    refine z_zald (g := (C 21)) (i := c) B 21 1 rfl rfl (by omega) (by decide) dX2_maySentence_27 ?_
    refine z_if_eq B 52 dX2_maySentence_28 (by decide) (fun zc28 => ?_) (fun zc28 => ?_)
    · refine z_iconst (v := nI 0) B dX2_maySentence_52 (by decide) ?_
      exact z_pret B hr dX2_maySentence_53 (nar_b (Or.inl rfl)) (by refine bI_z ?_; first | exact fun h => h.1 zc28 | exact fun h => zc40 h.2.1 | exact fun h => zc12 h.2.2)
    · refine z_aload_n B 3 dX2_maySentence_31 rfl rfl ?_
      refine z_aload_n B 3 dX2_maySentence_32 rfl rfl ?_
      refine z_get (C := RX0) (T := TX0) (N := 11) (v := .ref (a 19)) B 3 9 2 fw_X2_maySentence_X0 rfl rfl (by decide) rfl rfl rfl dX2_maySentence_33 ?_
      refine z_iload_n B 4 dX2_maySentence_36 rfl rfl ?_
      refine z_callP (As := [.ref (a 19), .int (nI (j))]) (st := []) (C := RX0) (T := TX0) (N := 11) (ci := 0) (l := l) B hl (cc_X0_isTrueOn_N l D g a C m hI j (by omega)) gX2_maySentence_X0_isTrueOn rfl ⟨rfl, rfl⟩ nm_X0_isTrueOn ⟨by decide, by decide⟩ (fun _ h => h) 3 rfl rfl rfl (Nat.le_of_ble_eq_true rfl) dX2_maySentence_37 (Nat.zero_le _) (Nat.zero_le _) (fun r hr => ?_)
      subst hr
      refine z_ifB_eq B 52 dX2_maySentence_40 (by decide) (fun zc40 => ?_) (fun zc40 => ?_)
      · refine z_iconst (v := nI 0) B dX2_maySentence_52 (by decide) ?_
        exact z_pret B hr dX2_maySentence_53 (nar_b (Or.inl rfl)) (by refine bI_z ?_; first | exact fun h => h.1 zc28 | exact fun h => zc40 h.2.1 | exact fun h => zc12 h.2.2)
      · refine z_iload B 0 dX2_maySentence_43 rfl ?_
        refine z_if_ne B 52 dX2_maySentence_45 (by decide) (fun h => absurd h (by decide)) (fun _ => ?_)
        refine z_iconst (v := nI 1) B dX2_maySentence_48 (by decide) ?_
        refine z_goto B 53 dX2_maySentence_49 (by decide) ?_
        exact z_pret B hr dX2_maySentence_53 (nar_b (Or.inr rfl)) (by refine bI_1 ?_; first | exact ⟨zc28, zc40, zc12⟩)
  · refine z_iconst (v := nI 1) B dX2_maySentence_15 (by decide) ?_
    refine z_goto B 20 dX2_maySentence_16 (by decide) ?_
    refine z_istore (lv1 := [(4, .int (nI (1))), (0, .ref (a 5)), (1, .int (nI (c))), (2, .ref (a 3)), (3, .int (nI (j)))]) B dX2_maySentence_20 (by decide) rfl ?_
    refine z_aload_n B 1 dX2_maySentence_22 rfl rfl ?_
    refine z_get (C := RX2) (T := TX2) (N := 7) (v := .ref (a 21)) B 5 0 1 fw_X2_maySentence_X2 rfl rfl (by decide) rfl rfl rfl dX2_maySentence_23 ?_
    refine z_iload_n B 2 dX2_maySentence_26 rfl rfl ?_
    refine z_zald (g := (C 21)) (i := c) B 21 1 rfl rfl (by omega) (by decide) dX2_maySentence_27 ?_
    refine z_if_eq B 52 dX2_maySentence_28 (by decide) (fun zc28 => ?_) (fun zc28 => ?_)
    · refine z_iconst (v := nI 0) B dX2_maySentence_52 (by decide) ?_
      exact z_pret B hr dX2_maySentence_53 (nar_b (Or.inl rfl)) (by refine bI_z ?_; first | exact fun h => h.1 zc28 | exact fun h => zc40 h.2.1 | exact fun h => zc12 h.2.2)
    · refine z_aload_n B 3 dX2_maySentence_31 rfl rfl ?_
      refine z_aload_n B 3 dX2_maySentence_32 rfl rfl ?_
      refine z_get (C := RX0) (T := TX0) (N := 11) (v := .ref (a 19)) B 3 9 2 fw_X2_maySentence_X0 rfl rfl (by decide) rfl rfl rfl dX2_maySentence_33 ?_
      refine z_iload_n B 4 dX2_maySentence_36 rfl rfl ?_
      refine z_callP (As := [.ref (a 19), .int (nI (j))]) (st := []) (C := RX0) (T := TX0) (N := 11) (ci := 0) (l := l) B hl (cc_X0_isTrueOn_N l D g a C m hI j (by omega)) gX2_maySentence_X0_isTrueOn rfl ⟨rfl, rfl⟩ nm_X0_isTrueOn ⟨by decide, by decide⟩ (fun _ h => h) 3 rfl rfl rfl (Nat.le_of_ble_eq_true rfl) dX2_maySentence_37 (Nat.zero_le _) (Nat.zero_le _) (fun r hr => ?_)
      subst hr
      refine z_ifB_eq B 52 dX2_maySentence_40 (by decide) (fun zc40 => ?_) (fun zc40 => ?_)
      · refine z_iconst (v := nI 0) B dX2_maySentence_52 (by decide) ?_
        exact z_pret B hr dX2_maySentence_53 (nar_b (Or.inl rfl)) (by refine bI_z ?_; first | exact fun h => h.1 zc28 | exact fun h => zc40 h.2.1 | exact fun h => zc12 h.2.2)
      · refine z_iload B 0 dX2_maySentence_43 rfl ?_
        refine z_if_ne B 52 dX2_maySentence_45 (by decide) (fun _ => ?_) (fun h => absurd h (by decide))
        refine z_iconst (v := nI 0) B dX2_maySentence_52 (by decide) ?_
        exact z_pret B hr dX2_maySentence_53 (nar_b (Or.inl rfl)) (by refine bI_z ?_; first | exact fun h => h.1 zc28 | exact fun h => zc40 h.2.1 | exact fun h => zc12 h.2.2)
