theorem fw_X7_thrown_X7 : zF wsX7_thrown RX7 TX7 30 := fun _ h => List.mem_cons_of_mem _ (List.mem_append_right _ (h))
set_option maxHeartbeats 4000000 in
set_option maxRecDepth 100000 in
theorem c7_thrown (l : Launch) (D : va_G) (g : zG) (h : Nat) (a : Nat → Nat) (M : zMS) : zPure l yX7_thrown wsX7_thrown { frames := 0, cells := 0, slots := 0, locals := 0 } D (zT g) (wM g h a M) [.ref h] (fun r => r = M 0 0) := by
  refine zPure_of (cc := cX7_thrown) (maxL := 1) (ret := (some .int)) (own := RX7) [(0, .ref (h))] (by decide) rfl rfl rfl (Nat.le_of_ble_eq_true rfl) ?_
  intro X hl B hr
  refine z_aload_n B 0 dX7_thrown_0 rfl rfl ?_
  refine z_get (C := RX7) (T := TX7) (N := 30) (v := .int (M 0 0)) B 0 0 1 fw_X7_thrown_X7 rfl rfl (by decide) rfl rfl rfl dX7_thrown_1 ?_
  exact z_pret B hr dX7_thrown_4 rfl (by rfl)
theorem fw_X7_refused_X7 : zF wsX7_refused RX7 TX7 30 := fun _ h => List.mem_cons_of_mem _ (List.mem_append_right _ (h))
set_option maxHeartbeats 4000000 in
set_option maxRecDepth 100000 in
theorem c7_refused (l : Launch) (D : va_G) (g : zG) (h : Nat) (a : Nat → Nat) (M : zMS) (x : Int32) : zMutI l yX7_refused wsX7_refused { frames := 0, cells := 0, slots := 0, locals := 0 } D (zT g) (wM g h a M) [.ref h, .int (x)] (fun r w' => r = bI (¬ x = 0) ∧ w' = wM g h a (up2 M 0 0 x)) 0 0 := by
  refine zMutI_of (cc := cX7_refused) (maxL := 2) (ret := (some .boolean)) (own := RX7) [(0, .ref (h)), (1, .int (x))] (by decide) rfl rfl rfl (Nat.le_of_ble_eq_true rfl) ?_
  intro X A hAe hl B hr hin
  refine z_aload_n B 0 dX7_refused_0 rfl rfl ?_
  refine z_iload_n B 1 dX7_refused_1 rfl rfl ?_
  refine z_put (C := RX7) (T := TX7) (N := 30) (w' := wM g h a (up2 M 0 0 x)) B 0 0 1 fw_X7_refused_X7 tyX7 tyX7_ok nmX7 rfl rfl (by decide) rfl rfl rfl rfl rfl (Nat.le_of_ble_eq_true rfl) dX7_refused_2 rfl ?_
  refine z_iload_n B 1 dX7_refused_5 rfl rfl ?_
  refine z_if_eq B 13 dX7_refused_6 (by decide) (fun zc6 => ?_) (fun zc6 => ?_)
  · refine z_iconst (v := nI 0) B dX7_refused_13 (by decide) ?_
    exact z_mret B hAe hr dX7_refused_14 (nar_b (Or.inl rfl)) (by decide) (by decide) (by exact ⟨bI_z (not_not_intro zc6), rfl⟩)
  · refine z_iconst (v := nI 1) B dX7_refused_9 (by decide) ?_
    refine z_goto B 14 dX7_refused_10 (by decide) ?_
    exact z_mret B hAe hr dX7_refused_14 (nar_b (Or.inr rfl)) (by decide) (by decide) (by exact ⟨bI_1 zc6, rfl⟩)
theorem fw_X7_fine_X7 : zF wsX7_fine RX7 TX7 30 := fun _ h => List.mem_cons_of_mem _ (List.mem_append_right _ (h))
set_option maxHeartbeats 4000000 in
set_option maxRecDepth 100000 in
theorem c7_fine (l : Launch) (D : va_G) (g : zG) (h : Nat) (a : Nat → Nat) (M : zMS) (x : Int32) : zMutI l yX7_fine wsX7_fine { frames := 0, cells := 0, slots := 0, locals := 0 } D (zT g) (wM g h a M) [.ref h, .int (x)] (fun r w' => r = x ∧ w' = wM g h a (up2 M 0 0 (nI 0))) 0 0 := by
  refine zMutI_of (cc := cX7_fine) (maxL := 2) (ret := (some .int)) (own := RX7) [(0, .ref (h)), (1, .int (x))] (by decide) rfl rfl rfl (Nat.le_of_ble_eq_true rfl) ?_
  intro X A hAe hl B hr hin
  refine z_aload_n B 0 dX7_fine_0 rfl rfl ?_
  refine z_iconst (v := nI 0) B dX7_fine_1 (by decide) ?_
  refine z_put (C := RX7) (T := TX7) (N := 30) (w' := wM g h a (up2 M 0 0 (nI (0)))) B 0 0 1 fw_X7_fine_X7 tyX7 tyX7_ok nmX7 rfl rfl (by decide) rfl rfl rfl rfl rfl (Nat.le_of_ble_eq_true rfl) dX7_fine_2 rfl ?_
  refine z_iload_n B 1 dX7_fine_5 rfl rfl ?_
  exact z_mret B hAe hr dX7_fine_6 rfl (by decide) (by decide) (by exact ⟨rfl, rfl⟩)
set_option maxHeartbeats 4000000 in
set_option maxRecDepth 100000 in
theorem c7_in (l : Launch) (D : va_G) (g : zG) (h : Nat) (a : Nat → Nat) (M : zMS) (x : Int32) (y : Int32) (z : Int32) : zPure l yX7_in wsX7_in { frames := 0, cells := 0, slots := 0, locals := 0 } D (zT g) (wM g h a M) [.int (x), .int (y), .int (z)] (fun r => r = bI (y ≤ x ∧ x ≤ z)) := by
  refine zPure_of (cc := cX7_in) (maxL := 3) (ret := (some .boolean)) (own := RX7) [(0, .int (x)), (1, .int (y)), (2, .int (z))] (by decide) rfl rfl rfl (Nat.le_of_ble_eq_true rfl) ?_
  intro X hl B hr
  refine z_iload_n B 0 dX7_in_0 rfl rfl ?_
  refine z_iload_n B 1 dX7_in_1 rfl rfl ?_
  refine z_icmp_lt B 14 dX7_in_2 (by decide) (fun zc2 => ?_) (fun zc2 => ?_)
  · refine z_iconst (v := nI 0) B dX7_in_14 (by decide) ?_
    exact z_pret B hr dX7_in_15 (nar_b (Or.inl rfl)) (by exact bI_z (fun h => absurd zc2 (Int32.not_lt.mpr h.1)))
  · refine z_iload_n B 0 dX7_in_5 rfl rfl ?_
    refine z_iload_n B 2 dX7_in_6 rfl rfl ?_
    refine z_icmp_gt B 14 dX7_in_7 (by decide) (fun zc7 => ?_) (fun zc7 => ?_)
    · refine z_iconst (v := nI 0) B dX7_in_14 (by decide) ?_
      exact z_pret B hr dX7_in_15 (nar_b (Or.inl rfl)) (by exact bI_z (fun h => absurd zc7 (Int32.not_lt.mpr h.2)))
    · refine z_iconst (v := nI 1) B dX7_in_10 (by decide) ?_
      refine z_goto B 15 dX7_in_11 (by decide) ?_
      exact z_pret B hr dX7_in_15 (nar_b (Or.inr rfl)) (by exact bI_1 ⟨i_nlt zc2, i_nlt zc7⟩)
set_option maxHeartbeats 4000000 in
set_option maxRecDepth 100000 in
theorem c7_isAccount (l : Launch) (D : va_G) (g : zG) (h : Nat) (a : Nat → Nat) (M : zMS) (x : Int32) : zPure l yX7_isAccount wsX7_isAccount { frames := 1, cells := 0, slots := 0, locals := 22 } D (zT g) (wM g h a M) [.int (x)] (fun r => r = bI (rng x 8)) := by
  refine zPure_of (cc := cX7_isAccount) (maxL := 1) (ret := (some .boolean)) (own := RX7) [(0, .int (x))] (by decide) rfl rfl rfl (Nat.le_of_ble_eq_true rfl) ?_
  intro X hl B hr
  refine z_iload_n B 0 dX7_isAccount_0 rfl rfl ?_
  refine z_iconst (v := nI 0) B dX7_isAccount_1 (by decide) ?_
  refine z_bipush (v := nI 7) B dX7_isAccount_2 (by decide) ?_
  refine z_callS (As := [.int (x), .int (nI (0)), .int (nI (7))]) (st := []) (l := l) B hl (c7_in l D g h a M x (nI (0)) (nI (7))) gX7_isAccount_X7_in rfl ⟨rfl, rfl⟩ nm_X7_in ⟨by decide, by decide⟩ (fun _ h => h) rfl (Nat.le_of_ble_eq_true rfl) dX7_isAccount_4 (Nat.zero_le _) (Nat.zero_le _) (fun r hr => ?_)
  rw [bI_cg (rng_in' (by decide))] at hr
  subst hr
  exact z_pret B hr dX7_isAccount_7 (nar_b (bI_or _)) (by rfl)
theorem fw_X7_isPage_X7 : zF wsX7_isPage RX7 TX7 30 := fun _ h => List.mem_cons_of_mem _ (List.mem_append_right _ (h))
set_option maxHeartbeats 4000000 in
set_option maxRecDepth 100000 in
theorem c7_isPage (l : Launch) (D : va_G) (g : zG) (h : Nat) (a : Nat → Nat) (M : zMS) (hI : MI M) (x : Int32) : zPure l yX7_isPage wsX7_isPage { frames := 1, cells := 0, slots := 0, locals := 22 } D (zT g) (wM g h a M) [.ref h, .int (x)] (fun r => r = bI (rng x (mP M))) := by
  refine zPure_of (cc := cX7_isPage) (maxL := 2) (ret := (some .boolean)) (own := RX7) [(0, .ref (h)), (1, .int (x))] (by decide) rfl rfl rfl (Nat.le_of_ble_eq_true rfl) ?_
  intro X hl B hr
  obtain ⟨b5, b2, b15, b23, b25, b1⟩ := MI_bs hI
  refine z_iload_n B 1 dX7_isPage_0 rfl rfl ?_
  refine z_iconst (v := nI 0) B dX7_isPage_1 (by decide) ?_
  refine z_aload_n B 0 dX7_isPage_2 rfl rfl ?_
  refine z_get (C := RX7) (T := TX7) (N := 30) (v := .int (M 5 0)) B 0 5 1 fw_X7_isPage_X7 rfl rfl (by decide) rfl rfl rfl dX7_isPage_3 ?_
  refine z_top (y := nI (mP M)) (MI_5 hI) ?_
  refine z_iconst (v := nI 1) B dX7_isPage_6 (by decide) ?_
  refine z_isub B dX7_isPage_7 ?_
  refine z_callS (As := [.int (x), .int (nI (0)), .int (((nI (mP M)) - (nI (1))))]) (st := []) (l := l) B hl (c7_in l D g h a M x (nI (0)) ((nI (mP M)) - (nI (1)))) gX7_isPage_X7_in rfl ⟨rfl, rfl⟩ nm_X7_in ⟨by decide, by decide⟩ (fun _ h => h) rfl (Nat.le_of_ble_eq_true rfl) dX7_isPage_8 (Nat.zero_le _) (Nat.zero_le _) (fun r hr => ?_)
  rw [bI_cg (rng_in (by omega))] at hr
  subst hr
  exact z_pret B hr dX7_isPage_11 (nar_b (bI_or _)) (by rfl)
theorem fw_X7_isCase_X7 : zF wsX7_isCase RX7 TX7 30 := fun _ h => List.mem_cons_of_mem _ (List.mem_append_right _ (h))
set_option maxHeartbeats 4000000 in
set_option maxRecDepth 100000 in
theorem c7_isCase (l : Launch) (D : va_G) (g : zG) (h : Nat) (a : Nat → Nat) (M : zMS) (hI : MI M) (x : Int32) : zPure l yX7_isCase wsX7_isCase { frames := 1, cells := 0, slots := 0, locals := 22 } D (zT g) (wM g h a M) [.ref h, .int (x)] (fun r => r = bI (rng x (mK M))) := by
  refine zPure_of (cc := cX7_isCase) (maxL := 2) (ret := (some .boolean)) (own := RX7) [(0, .ref (h)), (1, .int (x))] (by decide) rfl rfl rfl (Nat.le_of_ble_eq_true rfl) ?_
  intro X hl B hr
  obtain ⟨b5, b2, b15, b23, b25, b1⟩ := MI_bs hI
  refine z_iload_n B 1 dX7_isCase_0 rfl rfl ?_
  refine z_iconst (v := nI 0) B dX7_isCase_1 (by decide) ?_
  refine z_aload_n B 0 dX7_isCase_2 rfl rfl ?_
  refine z_get (C := RX7) (T := TX7) (N := 30) (v := .int (M 23 0)) B 0 23 1 fw_X7_isCase_X7 rfl rfl (by decide) rfl rfl rfl dX7_isCase_3 ?_
  refine z_top (y := nI (mK M)) (MI_23 hI) ?_
  refine z_iconst (v := nI 1) B dX7_isCase_6 (by decide) ?_
  refine z_isub B dX7_isCase_7 ?_
  refine z_callS (As := [.int (x), .int (nI (0)), .int (((nI (mK M)) - (nI (1))))]) (st := []) (l := l) B hl (c7_in l D g h a M x (nI (0)) ((nI (mK M)) - (nI (1)))) gX7_isCase_X7_in rfl ⟨rfl, rfl⟩ nm_X7_in ⟨by decide, by decide⟩ (fun _ h => h) rfl (Nat.le_of_ble_eq_true rfl) dX7_isCase_8 (Nat.zero_le _) (Nat.zero_le _) (fun r hr => ?_)
  rw [bI_cg (rng_in (by omega))] at hr
  subst hr
  exact z_pret B hr dX7_isCase_11 (nar_b (bI_or _)) (by rfl)
theorem fw_X7_isCopy_X7 : zF wsX7_isCopy RX7 TX7 30 := fun _ h => List.mem_cons_of_mem _ (List.mem_append_right _ (h))
set_option maxHeartbeats 4000000 in
set_option maxRecDepth 100000 in
theorem c7_isCopy (l : Launch) (D : va_G) (g : zG) (h : Nat) (a : Nat → Nat) (M : zMS) (hI : MI M) (x : Int32) : zPure l yX7_isCopy wsX7_isCopy { frames := 1, cells := 0, slots := 0, locals := 22 } D (zT g) (wM g h a M) [.ref h, .int (x)] (fun r => r = bI (pCx M x)) := by
  refine zPure_of (cc := cX7_isCopy) (maxL := 2) (ret := (some .boolean)) (own := RX7) [(0, .ref (h)), (1, .int (x))] (by decide) rfl rfl rfl (Nat.le_of_ble_eq_true rfl) ?_
  intro X hl B hr
  obtain ⟨b5, b2, b15, b23, b25, b1⟩ := MI_bs hI
  refine z_iload_n B 1 dX7_isCopy_0 rfl rfl ?_
  refine z_iconst (v := nI 0) B dX7_isCopy_1 (by decide) ?_
  refine z_aload_n B 0 dX7_isCopy_2 rfl rfl ?_
  refine z_get (C := RX7) (T := TX7) (N := 30) (v := .int (M 15 0)) B 0 15 1 fw_X7_isCopy_X7 rfl rfl (by decide) rfl rfl rfl dX7_isCopy_3 ?_
  refine z_top (y := nI (mC M)) (MI_15 hI) ?_
  refine z_iconst (v := nI 1) B dX7_isCopy_6 (by decide) ?_
  refine z_isub B dX7_isCopy_7 ?_
  refine z_callS (As := [.int (x), .int (nI (0)), .int (((nI (mC M)) - (nI (1))))]) (st := []) (l := l) B hl (c7_in l D g h a M x (nI (0)) ((nI (mC M)) - (nI (1)))) gX7_isCopy_X7_in rfl ⟨rfl, rfl⟩ nm_X7_in ⟨by decide, by decide⟩ (fun _ h => h) rfl (Nat.le_of_ble_eq_true rfl) dX7_isCopy_8 (Nat.zero_le _) (Nat.zero_le _) (fun r hr => ?_)
  rw [bI_cg (rng_in (by omega))] at hr
  subst hr
  refine z_ifB_eq B 27 dX7_isCopy_11 (by decide) (fun zc11 => ?_) (fun zc11 => ?_)
  · refine z_iconst (v := nI 0) B dX7_isCopy_27 (by decide) ?_
    exact z_pret B hr dX7_isCopy_28 (nar_b (Or.inl rfl)) (by refine bI_z ?_; rintro ⟨c, e, hc⟩; exact zc11 ⟨c, hc.1, e⟩)
  · have zkc11 := zc11
    obtain ⟨jx, hjx, rfl⟩ := zc11
    refine z_aload_n B 0 dX7_isCopy_14 rfl rfl ?_
    refine z_get (C := RX7) (T := TX7) (N := 30) (v := .ref (a 19)) B 0 19 2 fw_X7_isCopy_X7 rfl rfl (by decide) rfl rfl rfl dX7_isCopy_15 ?_
    refine z_iload_n B 1 dX7_isCopy_18 rfl rfl ?_
    refine z_zald (g := (M 19)) (i := jx) B 15 1 rfl rfl (by omega) (by decide) dX7_isCopy_19 ?_
    refine z_if_ne B 27 dX7_isCopy_20 (by decide) (fun zc20 => ?_) (fun zc20 => ?_)
    · refine z_iconst (v := nI 0) B dX7_isCopy_27 (by decide) ?_
      exact z_pret B hr dX7_isCopy_28 (nar_b (Or.inl rfl)) (by refine bI_z ?_; rintro ⟨c, e, hc⟩; rw [← (nI_eq (by omega) (by have := hc.1; omega)).mp e] at hc; exact zc20 hc.2)
    · refine z_iconst (v := nI 1) B dX7_isCopy_23 (by decide) ?_
      refine z_goto B 28 dX7_isCopy_24 (by decide) ?_
      exact z_pret B hr dX7_isCopy_28 (nar_b (Or.inr rfl)) (by exact bI_1 ⟨jx, rfl, hjx, zc20⟩)
theorem fw_X7_draftSum_X7 : zF wsX7_draftSum RX7 TX7 30 := fun _ h => List.mem_cons_of_mem _ (List.mem_append_right _ (h))
set_option maxHeartbeats 4000000 in
set_option maxRecDepth 100000 in
theorem c7_draftSum (l : Launch) (D : va_G) (g : zG) (h : Nat) (a : Nat → Nat) (M : zMS) (hI : MI M) : zPure l yX7_draftSum wsX7_draftSum { frames := 0, cells := 0, slots := 0, locals := 0 } D (zT g) (wM g h a M) [.ref h] (fun r => r = zsum (M 4) (mD M)) := by
  refine zPure_of (cc := cX7_draftSum) (maxL := 3) (ret := (some .int)) (own := RX7) [(0, .ref (h))] (by decide) rfl rfl rfl (Nat.le_of_ble_eq_true rfl) ?_
  intro X hl B hr
  obtain ⟨b5, b2, b15, b23, b25, b1⟩ := MI_bs hI
  refine z_iconst (v := nI 0) B dX7_draftSum_0 (by decide) ?_
  refine z_istore_n (lv1 := [(1, .int (nI (0))), (0, .ref (h))]) B dX7_draftSum_1 rfl (by decide) rfl ?_
  refine z_iconst (v := nI 0) B dX7_draftSum_2 (by decide) ?_
  refine z_istore_n (lv1 := [(2, .int (nI (0))), (1, .int (nI (0))), (0, .ref (h))]) B dX7_draftSum_3 rfl (by decide) rfl ?_
  have loop4 : ∀ (n0 i : Nat), i ≤ mD M → mD M + 1 ≤ i + n0 → zJ X 3 (zI0 D (zs X)) (zQe X (vp_Si (fun r => r = zsum (M 4) (mD M))) 0 0 (fun _ => False)) (wM g h a M) 0 0 [(0, .ref (h)), (1, .int (zsum (M 4) i)), (2, .int (nI (i)))] 4 [] := by
    intro n4
    induction n4 with
    | zero => intro i h1 h2; exact absurd h2 (by omega)
    | succ n4 ih4 =>
      intro i hle4 hn4
      refine z_iload_n B 2 dX7_draftSum_4 rfl rfl ?_
      refine z_aload_n B 0 dX7_draftSum_5 rfl rfl ?_
      refine z_get (C := RX7) (T := TX7) (N := 30) (v := .int (M 2 0)) B 0 2 1 fw_X7_draftSum_X7 rfl rfl (by decide) rfl rfl rfl dX7_draftSum_6 ?_
      refine z_top (y := nI (mD M)) (MI_2 hI) ?_
      refine z_icmpN_ge B 27 dX7_draftSum_9 (by decide) (by omega) (by omega) (fun zc9 => ?_) (fun zc9 => ?_)
      · refine z_iload_n B 1 dX7_draftSum_27 rfl rfl ?_
        exact z_pret B hr dX7_draftSum_28 rfl (by obtain rfl : i = mD M := (by omega); rfl)
      · refine z_iload_n B 1 dX7_draftSum_12 rfl rfl ?_
        refine z_aload_n B 0 dX7_draftSum_13 rfl rfl ?_
        refine z_get (C := RX7) (T := TX7) (N := 30) (v := .ref (a 4)) B 0 4 2 fw_X7_draftSum_X7 rfl rfl (by decide) rfl rfl rfl dX7_draftSum_14 ?_
        refine z_iload_n B 2 dX7_draftSum_17 rfl rfl ?_
        refine z_iald (g := (M 4)) (i := i) B 2 0 rfl rfl (by omega) (by decide) dX7_draftSum_18 ?_
        refine z_iadd B dX7_draftSum_19 ?_
        refine z_istore_n (lv1 := [(1, .int (((zsum (M 4) i) + (M 4 i)))), (0, .ref (h)), (2, .int (nI (i)))]) B dX7_draftSum_20 rfl (by decide) rfl ?_
        refine z_iinc B 2 (lv1 := [(2, .int (nI (i + 1))), (1, .int (((zsum (M 4) i) + (M 4 i)))), (0, .ref (h))]) dX7_draftSum_21 rfl (nI_1 _) (by decide) rfl ?_
        refine z_goto B 4 dX7_draftSum_24 (by decide) ?_
        refine z_loc [2, 1, 0] (lv' := [(0, .ref (h)), (1, .int (((zsum (M 4) i) + (M 4 i)))), (2, .int (nI (i + 1)))]) rfl ?_
        refine z_lvc (lv' := [(0, .ref (h)), (1, .int (zsum (M 4) (i + 1))), (2, .int (nI ((i + 1))))]) (by rfl) ?_
        exact ih4 (i + 1) (by omega) (by omega)
  refine z_loc [2, 1, 0] (lv' := [(0, .ref (h)), (1, .int (nI (0))), (2, .int (nI (0)))]) rfl ?_
  refine z_lvc (lv' := [(0, .ref (h)), (1, .int (zsum (M 4) 0)), (2, .int (nI (0)))]) (by rfl) ?_
  exact loop4 (mD M + 1) 0 (by omega) (by omega)
theorem fw_X7_burnt_X7 : zF wsX7_burnt RX7 TX7 30 := fun _ h => List.mem_cons_of_mem _ (List.mem_append_right _ (h))
set_option maxHeartbeats 4000000 in
set_option maxRecDepth 100000 in
theorem c7_burnt (l : Launch) (D : va_G) (g : zG) (h : Nat) (a : Nat → Nat) (M : zMS) (hI : MI M) : zPure l yX7_burnt wsX7_burnt { frames := 0, cells := 0, slots := 0, locals := 0 } D (zT g) (wM g h a M) [.ref h] (fun r => r = nI (zcnt (fun p => M 12 p = nI 1) (mP M))) := by
  refine zPure_of (cc := cX7_burnt) (maxL := 3) (ret := (some .int)) (own := RX7) [(0, .ref (h))] (by decide) rfl rfl rfl (Nat.le_of_ble_eq_true rfl) ?_
  intro X hl B hr
  obtain ⟨b5, b2, b15, b23, b25, b1⟩ := MI_bs hI
  refine z_iconst (v := nI 0) B dX7_burnt_0 (by decide) ?_
  refine z_istore_n (lv1 := [(1, .int (nI (0))), (0, .ref (h))]) B dX7_burnt_1 rfl (by decide) rfl ?_
  refine z_iconst (v := nI 0) B dX7_burnt_2 (by decide) ?_
  refine z_istore_n (lv1 := [(2, .int (nI (0))), (1, .int (nI (0))), (0, .ref (h))]) B dX7_burnt_3 rfl (by decide) rfl ?_
  have loop4 : ∀ (n0 i : Nat), i ≤ mP M → mP M + 1 ≤ i + n0 → zJ X 3 (zI0 D (zs X)) (zQe X (vp_Si (fun r => r = nI (zcnt (fun p => M 12 p = nI 1) (mP M)))) 0 0 (fun _ => False)) (wM g h a M) 0 0 [(0, .ref (h)), (1, .int (nI (zcnt (fun p => M 12 p = nI 1) i))), (2, .int (nI (i)))] 4 [] := by
    intro n4
    induction n4 with
    | zero => intro i h1 h2; exact absurd h2 (by omega)
    | succ n4 ih4 =>
      intro i hle4 hn4
      refine z_iload_n B 2 dX7_burnt_4 rfl rfl ?_
      refine z_aload_n B 0 dX7_burnt_5 rfl rfl ?_
      refine z_get (C := RX7) (T := TX7) (N := 30) (v := .int (M 5 0)) B 0 5 1 fw_X7_burnt_X7 rfl rfl (by decide) rfl rfl rfl dX7_burnt_6 ?_
      refine z_top (y := nI (mP M)) (MI_5 hI) ?_
      refine z_icmpN_ge B 36 dX7_burnt_9 (by decide) (by omega) (by omega) (fun zc9 => ?_) (fun zc9 => ?_)
      · refine z_iload_n B 1 dX7_burnt_36 rfl rfl ?_
        exact z_pret B hr dX7_burnt_37 rfl (by obtain rfl : i = mP M := (by omega); rfl)
      · refine z_iload_n B 1 dX7_burnt_12 rfl rfl ?_
        refine z_aload_n B 0 dX7_burnt_13 rfl rfl ?_
        refine z_get (C := RX7) (T := TX7) (N := 30) (v := .ref (a 12)) B 0 12 2 fw_X7_burnt_X7 rfl rfl (by decide) rfl rfl rfl dX7_burnt_14 ?_
        refine z_iload_n B 2 dX7_burnt_17 rfl rfl ?_
        refine z_iald (g := (M 12)) (i := i) B 9 0 rfl rfl (by omega) (by decide) dX7_burnt_18 ?_
        refine z_iconst (v := nI 1) B dX7_burnt_19 (by decide) ?_
        refine z_icmp_ne B 27 dX7_burnt_20 (by decide) (fun zc20 => ?_) (fun zc20 => ?_)
        · refine z_iconst (v := nI 0) B dX7_burnt_27 (by decide) ?_
          refine z_iaddN B dX7_burnt_28 ?_
          refine z_istore_n (lv1 := [(1, .int (nI (zcnt (fun p => M 12 p = nI 1) i + 0))), (0, .ref (h)), (2, .int (nI (i)))]) B dX7_burnt_29 rfl (by decide) rfl ?_
          refine z_iinc B 2 (lv1 := [(2, .int (nI (i + 1))), (1, .int (nI (zcnt (fun p => M 12 p = nI 1) i + 0))), (0, .ref (h))]) dX7_burnt_30 rfl (nI_1 _) (by decide) rfl ?_
          refine z_goto B 4 dX7_burnt_33 (by decide) ?_
          refine z_loc [2, 1, 0] (lv' := [(0, .ref (h)), (1, .int (nI (zcnt (fun p => M 12 p = nI 1) i + 0))), (2, .int (nI (i + 1)))]) rfl ?_
          refine z_lvc (lv' := [(0, .ref (h)), (1, .int (nI (zcnt (fun p => M 12 p = nI 1) (i + 1)))), (2, .int (nI ((i + 1))))]) (by first | rw [zcnt_y (P := fun p => M 12 p = nI 1) zc20] | rw [← zcnt_n (P := fun p => M 12 p = nI 1) zc20]; rfl) ?_
          exact ih4 (i + 1) (by omega) (by omega)
        · refine z_iconst (v := nI 1) B dX7_burnt_23 (by decide) ?_
          refine z_goto B 28 dX7_burnt_24 (by decide) ?_
          refine z_iaddN B dX7_burnt_28 ?_
          refine z_istore_n (lv1 := [(1, .int (nI (zcnt (fun p => M 12 p = nI 1) i + 1))), (0, .ref (h)), (2, .int (nI (i)))]) B dX7_burnt_29 rfl (by decide) rfl ?_
          refine z_iinc B 2 (lv1 := [(2, .int (nI (i + 1))), (1, .int (nI (zcnt (fun p => M 12 p = nI 1) i + 1))), (0, .ref (h))]) dX7_burnt_30 rfl (nI_1 _) (by decide) rfl ?_
          refine z_goto B 4 dX7_burnt_33 (by decide) ?_
          refine z_loc [2, 1, 0] (lv' := [(0, .ref (h)), (1, .int (nI (zcnt (fun p => M 12 p = nI 1) i + 1))), (2, .int (nI (i + 1)))]) rfl ?_
          refine z_lvc (lv' := [(0, .ref (h)), (1, .int (nI (zcnt (fun p => M 12 p = nI 1) (i + 1)))), (2, .int (nI ((i + 1))))]) (by first | rw [zcnt_y (P := fun p => M 12 p = nI 1) zc20] | rw [← zcnt_n (P := fun p => M 12 p = nI 1) zc20]; rfl) ?_
          exact ih4 (i + 1) (by omega) (by omega)
  refine z_loc [2, 1, 0] (lv' := [(0, .ref (h)), (1, .int (nI (0))), (2, .int (nI (0)))]) rfl ?_
  refine z_lvc (lv' := [(0, .ref (h)), (1, .int (nI (zcnt (fun p => M 12 p = nI 1) 0))), (2, .int (nI (0)))]) (by rfl) ?_
  exact loop4 (mP M + 1) 0 (by omega) (by omega)
theorem fw_X7_copiesThere_X7 : zF wsX7_copiesThere RX7 TX7 30 := fun _ h => List.mem_cons_of_mem _ (List.mem_append_right _ (h))
set_option maxHeartbeats 4000000 in
set_option maxRecDepth 100000 in
theorem c7_copiesThere (l : Launch) (D : va_G) (g : zG) (h : Nat) (a : Nat → Nat) (M : zMS) (hI : MI M) : zPure l yX7_copiesThere wsX7_copiesThere { frames := 0, cells := 0, slots := 0, locals := 0 } D (zT g) (wM g h a M) [.ref h] (fun r => r = nI (zcnt (fun k => M 19 k = 0) (mC M))) := by
  refine zPure_of (cc := cX7_copiesThere) (maxL := 3) (ret := (some .int)) (own := RX7) [(0, .ref (h))] (by decide) rfl rfl rfl (Nat.le_of_ble_eq_true rfl) ?_
  intro X hl B hr
  obtain ⟨b5, b2, b15, b23, b25, b1⟩ := MI_bs hI
  refine z_iconst (v := nI 0) B dX7_copiesThere_0 (by decide) ?_
  refine z_istore_n (lv1 := [(1, .int (nI (0))), (0, .ref (h))]) B dX7_copiesThere_1 rfl (by decide) rfl ?_
  refine z_iconst (v := nI 0) B dX7_copiesThere_2 (by decide) ?_
  refine z_istore_n (lv1 := [(2, .int (nI (0))), (1, .int (nI (0))), (0, .ref (h))]) B dX7_copiesThere_3 rfl (by decide) rfl ?_
  have loop4 : ∀ (n0 i : Nat), i ≤ mC M → mC M + 1 ≤ i + n0 → zJ X 3 (zI0 D (zs X)) (zQe X (vp_Si (fun r => r = nI (zcnt (fun k => M 19 k = 0) (mC M)))) 0 0 (fun _ => False)) (wM g h a M) 0 0 [(0, .ref (h)), (1, .int (nI (zcnt (fun k => M 19 k = 0) i))), (2, .int (nI (i)))] 4 [] := by
    intro n4
    induction n4 with
    | zero => intro i h1 h2; exact absurd h2 (by omega)
    | succ n4 ih4 =>
      intro i hle4 hn4
      refine z_iload_n B 2 dX7_copiesThere_4 rfl rfl ?_
      refine z_aload_n B 0 dX7_copiesThere_5 rfl rfl ?_
      refine z_get (C := RX7) (T := TX7) (N := 30) (v := .int (M 15 0)) B 0 15 1 fw_X7_copiesThere_X7 rfl rfl (by decide) rfl rfl rfl dX7_copiesThere_6 ?_
      refine z_top (y := nI (mC M)) (MI_15 hI) ?_
      refine z_icmpN_ge B 35 dX7_copiesThere_9 (by decide) (by omega) (by omega) (fun zc9 => ?_) (fun zc9 => ?_)
      · refine z_iload_n B 1 dX7_copiesThere_35 rfl rfl ?_
        exact z_pret B hr dX7_copiesThere_36 rfl (by obtain rfl : i = mC M := (by omega); rfl)
      · refine z_iload_n B 1 dX7_copiesThere_12 rfl rfl ?_
        refine z_aload_n B 0 dX7_copiesThere_13 rfl rfl ?_
        refine z_get (C := RX7) (T := TX7) (N := 30) (v := .ref (a 19)) B 0 19 2 fw_X7_copiesThere_X7 rfl rfl (by decide) rfl rfl rfl dX7_copiesThere_14 ?_
        refine z_iload_n B 2 dX7_copiesThere_17 rfl rfl ?_
        refine z_zald (g := (M 19)) (i := i) B 15 1 rfl rfl (by omega) (by decide) dX7_copiesThere_18 ?_
        refine z_if_eq B 26 dX7_copiesThere_19 (by decide) (fun zc19 => ?_) (fun zc19 => ?_)
        · refine z_iconst (v := nI 1) B dX7_copiesThere_26 (by decide) ?_
          refine z_iaddN B dX7_copiesThere_27 ?_
          refine z_istore_n (lv1 := [(1, .int (nI (zcnt (fun k => M 19 k = 0) i + 1))), (0, .ref (h)), (2, .int (nI (i)))]) B dX7_copiesThere_28 rfl (by decide) rfl ?_
          refine z_iinc B 2 (lv1 := [(2, .int (nI (i + 1))), (1, .int (nI (zcnt (fun k => M 19 k = 0) i + 1))), (0, .ref (h))]) dX7_copiesThere_29 rfl (nI_1 _) (by decide) rfl ?_
          refine z_goto B 4 dX7_copiesThere_32 (by decide) ?_
          refine z_loc [2, 1, 0] (lv' := [(0, .ref (h)), (1, .int (nI (zcnt (fun k => M 19 k = 0) i + 1))), (2, .int (nI (i + 1)))]) rfl ?_
          refine z_lvc (lv' := [(0, .ref (h)), (1, .int (nI (zcnt (fun k => M 19 k = 0) (i + 1)))), (2, .int (nI ((i + 1))))]) (by first | rw [zcnt_y (P := fun k => M 19 k = 0) zc19] | rw [← zcnt_n (P := fun k => M 19 k = 0) zc19]; rfl) ?_
          exact ih4 (i + 1) (by omega) (by omega)
        · refine z_iconst (v := nI 0) B dX7_copiesThere_22 (by decide) ?_
          refine z_goto B 27 dX7_copiesThere_23 (by decide) ?_
          refine z_iaddN B dX7_copiesThere_27 ?_
          refine z_istore_n (lv1 := [(1, .int (nI (zcnt (fun k => M 19 k = 0) i + 0))), (0, .ref (h)), (2, .int (nI (i)))]) B dX7_copiesThere_28 rfl (by decide) rfl ?_
          refine z_iinc B 2 (lv1 := [(2, .int (nI (i + 1))), (1, .int (nI (zcnt (fun k => M 19 k = 0) i + 0))), (0, .ref (h))]) dX7_copiesThere_29 rfl (nI_1 _) (by decide) rfl ?_
          refine z_goto B 4 dX7_copiesThere_32 (by decide) ?_
          refine z_loc [2, 1, 0] (lv' := [(0, .ref (h)), (1, .int (nI (zcnt (fun k => M 19 k = 0) i + 0))), (2, .int (nI (i + 1)))]) rfl ?_
          refine z_lvc (lv' := [(0, .ref (h)), (1, .int (nI (zcnt (fun k => M 19 k = 0) (i + 1)))), (2, .int (nI ((i + 1))))]) (by first | rw [zcnt_y (P := fun k => M 19 k = 0) zc19] | rw [← zcnt_n (P := fun k => M 19 k = 0) zc19]; rfl) ?_
          exact ih4 (i + 1) (by omega) (by omega)
  refine z_loc [2, 1, 0] (lv' := [(0, .ref (h)), (1, .int (nI (0))), (2, .int (nI (0)))]) rfl ?_
  refine z_lvc (lv' := [(0, .ref (h)), (1, .int (nI (zcnt (fun k => M 19 k = 0) 0))), (2, .int (nI (0)))]) (by rfl) ?_
  exact loop4 (mC M + 1) 0 (by omega) (by omega)
theorem fw_X7_isTrueInBook_X7 : zF wsX7_isTrueInBook RX7 TX7 30 := fun _ h => List.mem_cons_of_mem _ (List.mem_append_right _ (h))
set_option maxHeartbeats 4000000 in
set_option maxRecDepth 100000 in
theorem c7_isTrueInBook (l : Launch) (D : va_G) (g : zG) (h : Nat) (a : Nat → Nat) (M : zMS) (hI : MI M) (j : Nat) (hj : j < 80) : zPure l yX7_isTrueInBook wsX7_isTrueInBook { frames := 0, cells := 0, slots := 0, locals := 0 } D (zT g) (wM g h a M) [.ref h, .int (nI (j))] (fun r => r = bI (pTB M j)) := by
  refine zPure_of (cc := cX7_isTrueInBook) (maxL := 4) (ret := (some .boolean)) (own := RX7) [(0, .ref (h)), (1, .int (nI (j)))] (by decide) rfl rfl rfl (Nat.le_of_ble_eq_true rfl) ?_
  intro X hl B hr
  obtain ⟨b5, b2, b15, b23, b25, b1⟩ := MI_bs hI
  refine z_aload_n B 0 dX7_isTrueInBook_0 rfl rfl ?_
  refine z_get (C := RX7) (T := TX7) (N := 30) (v := .ref (a 12)) B 0 12 1 fw_X7_isTrueInBook_X7 rfl rfl (by decide) rfl rfl rfl dX7_isTrueInBook_1 ?_
  refine z_iload_n B 1 dX7_isTrueInBook_4 rfl rfl ?_
  refine z_iald (g := (M 12)) (i := j) B 9 0 rfl rfl (by omega) (by decide) dX7_isTrueInBook_5 ?_
  refine z_if_ne B 13 dX7_isTrueInBook_6 (by decide) (fun zc6 => ?_) (fun zc6 => ?_)
  · refine z_iconst (v := nI 0) B dX7_isTrueInBook_13 (by decide) ?_
    refine z_istore_n (lv1 := [(2, .int (nI (0))), (0, .ref (h)), (1, .int (nI (j)))]) B dX7_isTrueInBook_14 rfl (by decide) rfl ?_
    refine z_iconst (v := nI 4) B dX7_isTrueInBook_15 (by decide) ?_
    refine z_iload_n B 2 dX7_isTrueInBook_16 rfl rfl ?_
    refine z_imulN B dX7_isTrueInBook_17 ?_
    refine z_istore_n (lv1 := [(3, .int (nI (4 * j))), (2, .int (nI (0))), (0, .ref (h)), (1, .int (nI (j)))]) B dX7_isTrueInBook_18 rfl (by decide) rfl ?_
    have bL := MI_b8 hI j
    have loop19 : ∀ (n0 i : Nat), i ≤ mL M j → mL M j + 1 ≤ i + n0 → zJ X 4 (zI0 D (zs X)) (zQe X (vp_Si (fun r => r = bI (pTB M j))) 0 0 (fun _ => False)) (wM g h a M) 0 0 [(0, .ref (h)), (1, .int (nI (j))), (2, .int (bI (M 12 j = 0 ∧ ∀ l, l < i → M 11 (4 * j + l) = M 10 (4 * j + l)))), (3, .int (nI (4 * j + i)))] 19 [] := by
      intro n19
      induction n19 with
      | zero => intro i h1 h2; exact absurd h2 (by omega)
      | succ n19 ih19 =>
        intro i hle19 hn19
        refine z_iload_n B 3 dX7_isTrueInBook_19 rfl rfl ?_
        refine z_iconst (v := nI 4) B dX7_isTrueInBook_20 (by decide) ?_
        refine z_iload_n B 1 dX7_isTrueInBook_21 rfl rfl ?_
        refine z_imulN B dX7_isTrueInBook_22 ?_
        refine z_aload_n B 0 dX7_isTrueInBook_23 rfl rfl ?_
        refine z_get (C := RX7) (T := TX7) (N := 30) (v := .ref (a 8)) B 0 8 2 fw_X7_isTrueInBook_X7 rfl rfl (by decide) rfl rfl rfl dX7_isTrueInBook_24 ?_
        refine z_iload_n B 1 dX7_isTrueInBook_27 rfl rfl ?_
        refine z_iald (g := (M 8)) (i := j) B 5 0 rfl rfl (by omega) (by decide) dX7_isTrueInBook_28 ?_
        refine z_top (y := nI (mL M j)) (MI_8 hI _) ?_
        have := MI_b8 hI j
        refine z_iaddN B dX7_isTrueInBook_29 ?_
        refine z_icmpN_ge B 64 dX7_isTrueInBook_30 (by decide) (by omega) (by omega) (fun zc30 => ?_) (fun zc30 => ?_)
        · refine z_iload_n B 2 dX7_isTrueInBook_64 rfl rfl ?_
          exact z_pret B hr dX7_isTrueInBook_65 (nar_b (bI_or _)) (by obtain rfl : i = mL M j := (by omega); rfl)
        · refine z_iload_n B 2 dX7_isTrueInBook_33 rfl rfl ?_
          refine z_ifB_eq B 56 dX7_isTrueInBook_34 (by decide) (fun zc34 => ?_) (fun zc34 => ?_)
          · refine z_iconst (v := nI 0) B dX7_isTrueInBook_56 (by decide) ?_
            refine z_istore_n (lv1 := [(2, .int (nI (0))), (0, .ref (h)), (1, .int (nI (j))), (3, .int (nI (4 * j + i)))]) B dX7_isTrueInBook_57 rfl (by decide) rfl ?_
            refine z_iinc B 3 (lv1 := [(3, .int (nI (4 * j + i + 1))), (2, .int (nI (0))), (0, .ref (h)), (1, .int (nI (j)))]) dX7_isTrueInBook_58 rfl (nI_1 _) (by decide) rfl ?_
            refine z_goto B 19 dX7_isTrueInBook_61 (by decide) ?_
            refine z_loc [2, 3, 1, 0] (lv' := [(0, .ref (h)), (1, .int (nI (j))), (2, .int (nI (0))), (3, .int (nI (4 * j + i + 1)))]) rfl ?_
            refine z_lvc (lv' := [(0, .ref (h)), (1, .int (nI (j))), (2, .int (bI (M 12 j = 0 ∧ ∀ l, l < (i + 1) → M 11 (4 * j + l) = M 10 (4 * j + l)))), (3, .int (nI (4 * j + (i + 1))))]) (by first | rw [bI_t (P := _ ∧ _) ⟨zc34.1, all_s.mpr ⟨zc34.2, zc49⟩⟩]; rfl | rw [bI_f (P := _ ∧ _) (fun h => zc34 ⟨h.1, (all_s.mp h.2).1⟩)]; rfl | rw [bI_f (P := _ ∧ _) (fun h => zc49 (all_s.mp h.2).2)]; rfl) ?_
            exact ih19 (i + 1) (by omega) (by omega)
          · refine z_aload_n B 0 dX7_isTrueInBook_37 rfl rfl ?_
            refine z_get (C := RX7) (T := TX7) (N := 30) (v := .ref (a 11)) B 0 11 3 fw_X7_isTrueInBook_X7 rfl rfl (by decide) rfl rfl rfl dX7_isTrueInBook_38 ?_
            refine z_iload_n B 3 dX7_isTrueInBook_41 rfl rfl ?_
            refine z_iald (g := (M 11)) (i := 4 * j + i) B 8 0 rfl rfl (by omega) (by decide) dX7_isTrueInBook_42 ?_
            refine z_aload_n B 0 dX7_isTrueInBook_43 rfl rfl ?_
            refine z_get (C := RX7) (T := TX7) (N := 30) (v := .ref (a 10)) B 0 10 4 fw_X7_isTrueInBook_X7 rfl rfl (by decide) rfl rfl rfl dX7_isTrueInBook_44 ?_
            refine z_iload_n B 3 dX7_isTrueInBook_47 rfl rfl ?_
            refine z_iald (g := (M 10)) (i := 4 * j + i) B 7 0 rfl rfl (by omega) (by decide) dX7_isTrueInBook_48 ?_
            refine z_icmp_ne B 56 dX7_isTrueInBook_49 (by decide) (fun zc49 => ?_) (fun zc49 => ?_)
            · refine z_iconst (v := nI 0) B dX7_isTrueInBook_56 (by decide) ?_
              refine z_istore_n (lv1 := [(2, .int (nI (0))), (0, .ref (h)), (1, .int (nI (j))), (3, .int (nI (4 * j + i)))]) B dX7_isTrueInBook_57 rfl (by decide) rfl ?_
              refine z_iinc B 3 (lv1 := [(3, .int (nI (4 * j + i + 1))), (2, .int (nI (0))), (0, .ref (h)), (1, .int (nI (j)))]) dX7_isTrueInBook_58 rfl (nI_1 _) (by decide) rfl ?_
              refine z_goto B 19 dX7_isTrueInBook_61 (by decide) ?_
              refine z_loc [2, 3, 1, 0] (lv' := [(0, .ref (h)), (1, .int (nI (j))), (2, .int (nI (0))), (3, .int (nI (4 * j + i + 1)))]) rfl ?_
              refine z_lvc (lv' := [(0, .ref (h)), (1, .int (nI (j))), (2, .int (bI (M 12 j = 0 ∧ ∀ l, l < (i + 1) → M 11 (4 * j + l) = M 10 (4 * j + l)))), (3, .int (nI (4 * j + (i + 1))))]) (by first | rw [bI_t (P := _ ∧ _) ⟨zc34.1, all_s.mpr ⟨zc34.2, zc49⟩⟩]; rfl | rw [bI_f (P := _ ∧ _) (fun h => zc34 ⟨h.1, (all_s.mp h.2).1⟩)]; rfl | rw [bI_f (P := _ ∧ _) (fun h => zc49 (all_s.mp h.2).2)]; rfl) ?_
              exact ih19 (i + 1) (by omega) (by omega)
            · refine z_iconst (v := nI 1) B dX7_isTrueInBook_52 (by decide) ?_
              refine z_goto B 57 dX7_isTrueInBook_53 (by decide) ?_
              refine z_istore_n (lv1 := [(2, .int (nI (1))), (0, .ref (h)), (1, .int (nI (j))), (3, .int (nI (4 * j + i)))]) B dX7_isTrueInBook_57 rfl (by decide) rfl ?_
              refine z_iinc B 3 (lv1 := [(3, .int (nI (4 * j + i + 1))), (2, .int (nI (1))), (0, .ref (h)), (1, .int (nI (j)))]) dX7_isTrueInBook_58 rfl (nI_1 _) (by decide) rfl ?_
              refine z_goto B 19 dX7_isTrueInBook_61 (by decide) ?_
              refine z_loc [2, 3, 1, 0] (lv' := [(0, .ref (h)), (1, .int (nI (j))), (2, .int (nI (1))), (3, .int (nI (4 * j + i + 1)))]) rfl ?_
              refine z_lvc (lv' := [(0, .ref (h)), (1, .int (nI (j))), (2, .int (bI (M 12 j = 0 ∧ ∀ l, l < (i + 1) → M 11 (4 * j + l) = M 10 (4 * j + l)))), (3, .int (nI (4 * j + (i + 1))))]) (by first | rw [bI_t (P := _ ∧ _) ⟨zc34.1, all_s.mpr ⟨zc34.2, zc49⟩⟩]; rfl | rw [bI_f (P := _ ∧ _) (fun h => zc34 ⟨h.1, (all_s.mp h.2).1⟩)]; rfl | rw [bI_f (P := _ ∧ _) (fun h => zc49 (all_s.mp h.2).2)]; rfl) ?_
              exact ih19 (i + 1) (by omega) (by omega)
    refine z_loc [2, 3, 1, 0] (lv' := [(0, .ref (h)), (1, .int (nI (j))), (2, .int (nI (0))), (3, .int (nI (4 * j)))]) rfl ?_
    refine z_lvc (lv' := [(0, .ref (h)), (1, .int (nI (j))), (2, .int (bI (M 12 j = 0 ∧ ∀ l, l < 0 → M 11 (4 * j + l) = M 10 (4 * j + l)))), (3, .int (nI (4 * j + 0)))]) (by first | rw [bI_t (P := _ ∧ _) ⟨zc6, fun l hl => absurd hl (Nat.not_lt_zero l)⟩]; rfl | rw [bI_f (P := _ ∧ _) (fun h => zc6 h.1)]; rfl) ?_
    exact loop19 (mL M j + 1) 0 (by omega) (by omega)
  · refine z_iconst (v := nI 1) B dX7_isTrueInBook_9 (by decide) ?_
    refine z_goto B 14 dX7_isTrueInBook_10 (by decide) ?_
    refine z_istore_n (lv1 := [(2, .int (nI (1))), (0, .ref (h)), (1, .int (nI (j)))]) B dX7_isTrueInBook_14 rfl (by decide) rfl ?_
    refine z_iconst (v := nI 4) B dX7_isTrueInBook_15 (by decide) ?_
    refine z_iload_n B 2 dX7_isTrueInBook_16 rfl rfl ?_
    refine z_imulN B dX7_isTrueInBook_17 ?_
    refine z_istore_n (lv1 := [(3, .int (nI (4 * j))), (2, .int (nI (1))), (0, .ref (h)), (1, .int (nI (j)))]) B dX7_isTrueInBook_18 rfl (by decide) rfl ?_
    have bL := MI_b8 hI j
    have loop19 : ∀ (n0 i : Nat), i ≤ mL M j → mL M j + 1 ≤ i + n0 → zJ X 4 (zI0 D (zs X)) (zQe X (vp_Si (fun r => r = bI (pTB M j))) 0 0 (fun _ => False)) (wM g h a M) 0 0 [(0, .ref (h)), (1, .int (nI (j))), (2, .int (bI (M 12 j = 0 ∧ ∀ l, l < i → M 11 (4 * j + l) = M 10 (4 * j + l)))), (3, .int (nI (4 * j + i)))] 19 [] := by
      intro n19
      induction n19 with
      | zero => intro i h1 h2; exact absurd h2 (by omega)
      | succ n19 ih19 =>
        intro i hle19 hn19
        refine z_iload_n B 3 dX7_isTrueInBook_19 rfl rfl ?_
        refine z_iconst (v := nI 4) B dX7_isTrueInBook_20 (by decide) ?_
        refine z_iload_n B 1 dX7_isTrueInBook_21 rfl rfl ?_
        refine z_imulN B dX7_isTrueInBook_22 ?_
        refine z_aload_n B 0 dX7_isTrueInBook_23 rfl rfl ?_
        refine z_get (C := RX7) (T := TX7) (N := 30) (v := .ref (a 8)) B 0 8 2 fw_X7_isTrueInBook_X7 rfl rfl (by decide) rfl rfl rfl dX7_isTrueInBook_24 ?_
        refine z_iload_n B 1 dX7_isTrueInBook_27 rfl rfl ?_
        refine z_iald (g := (M 8)) (i := j) B 5 0 rfl rfl (by omega) (by decide) dX7_isTrueInBook_28 ?_
        refine z_top (y := nI (mL M j)) (MI_8 hI _) ?_
        have := MI_b8 hI j
        refine z_iaddN B dX7_isTrueInBook_29 ?_
        refine z_icmpN_ge B 64 dX7_isTrueInBook_30 (by decide) (by omega) (by omega) (fun zc30 => ?_) (fun zc30 => ?_)
        · refine z_iload_n B 2 dX7_isTrueInBook_64 rfl rfl ?_
          exact z_pret B hr dX7_isTrueInBook_65 (nar_b (bI_or _)) (by obtain rfl : i = mL M j := (by omega); rfl)
        · refine z_iload_n B 2 dX7_isTrueInBook_33 rfl rfl ?_
          refine z_ifB_eq B 56 dX7_isTrueInBook_34 (by decide) (fun zc34 => ?_) (fun zc34 => ?_)
          · refine z_iconst (v := nI 0) B dX7_isTrueInBook_56 (by decide) ?_
            refine z_istore_n (lv1 := [(2, .int (nI (0))), (0, .ref (h)), (1, .int (nI (j))), (3, .int (nI (4 * j + i)))]) B dX7_isTrueInBook_57 rfl (by decide) rfl ?_
            refine z_iinc B 3 (lv1 := [(3, .int (nI (4 * j + i + 1))), (2, .int (nI (0))), (0, .ref (h)), (1, .int (nI (j)))]) dX7_isTrueInBook_58 rfl (nI_1 _) (by decide) rfl ?_
            refine z_goto B 19 dX7_isTrueInBook_61 (by decide) ?_
            refine z_loc [2, 3, 1, 0] (lv' := [(0, .ref (h)), (1, .int (nI (j))), (2, .int (nI (0))), (3, .int (nI (4 * j + i + 1)))]) rfl ?_
            refine z_lvc (lv' := [(0, .ref (h)), (1, .int (nI (j))), (2, .int (bI (M 12 j = 0 ∧ ∀ l, l < (i + 1) → M 11 (4 * j + l) = M 10 (4 * j + l)))), (3, .int (nI (4 * j + (i + 1))))]) (by first | rw [bI_t (P := _ ∧ _) ⟨zc34.1, all_s.mpr ⟨zc34.2, zc49⟩⟩]; rfl | rw [bI_f (P := _ ∧ _) (fun h => zc34 ⟨h.1, (all_s.mp h.2).1⟩)]; rfl | rw [bI_f (P := _ ∧ _) (fun h => zc49 (all_s.mp h.2).2)]; rfl) ?_
            exact ih19 (i + 1) (by omega) (by omega)
          · refine z_aload_n B 0 dX7_isTrueInBook_37 rfl rfl ?_
            refine z_get (C := RX7) (T := TX7) (N := 30) (v := .ref (a 11)) B 0 11 3 fw_X7_isTrueInBook_X7 rfl rfl (by decide) rfl rfl rfl dX7_isTrueInBook_38 ?_
            refine z_iload_n B 3 dX7_isTrueInBook_41 rfl rfl ?_
            refine z_iald (g := (M 11)) (i := 4 * j + i) B 8 0 rfl rfl (by omega) (by decide) dX7_isTrueInBook_42 ?_
            refine z_aload_n B 0 dX7_isTrueInBook_43 rfl rfl ?_
            refine z_get (C := RX7) (T := TX7) (N := 30) (v := .ref (a 10)) B 0 10 4 fw_X7_isTrueInBook_X7 rfl rfl (by decide) rfl rfl rfl dX7_isTrueInBook_44 ?_
            refine z_iload_n B 3 dX7_isTrueInBook_47 rfl rfl ?_
            refine z_iald (g := (M 10)) (i := 4 * j + i) B 7 0 rfl rfl (by omega) (by decide) dX7_isTrueInBook_48 ?_
            refine z_icmp_ne B 56 dX7_isTrueInBook_49 (by decide) (fun zc49 => ?_) (fun zc49 => ?_)
            · refine z_iconst (v := nI 0) B dX7_isTrueInBook_56 (by decide) ?_
              refine z_istore_n (lv1 := [(2, .int (nI (0))), (0, .ref (h)), (1, .int (nI (j))), (3, .int (nI (4 * j + i)))]) B dX7_isTrueInBook_57 rfl (by decide) rfl ?_
              refine z_iinc B 3 (lv1 := [(3, .int (nI (4 * j + i + 1))), (2, .int (nI (0))), (0, .ref (h)), (1, .int (nI (j)))]) dX7_isTrueInBook_58 rfl (nI_1 _) (by decide) rfl ?_
              refine z_goto B 19 dX7_isTrueInBook_61 (by decide) ?_
              refine z_loc [2, 3, 1, 0] (lv' := [(0, .ref (h)), (1, .int (nI (j))), (2, .int (nI (0))), (3, .int (nI (4 * j + i + 1)))]) rfl ?_
              refine z_lvc (lv' := [(0, .ref (h)), (1, .int (nI (j))), (2, .int (bI (M 12 j = 0 ∧ ∀ l, l < (i + 1) → M 11 (4 * j + l) = M 10 (4 * j + l)))), (3, .int (nI (4 * j + (i + 1))))]) (by first | rw [bI_t (P := _ ∧ _) ⟨zc34.1, all_s.mpr ⟨zc34.2, zc49⟩⟩]; rfl | rw [bI_f (P := _ ∧ _) (fun h => zc34 ⟨h.1, (all_s.mp h.2).1⟩)]; rfl | rw [bI_f (P := _ ∧ _) (fun h => zc49 (all_s.mp h.2).2)]; rfl) ?_
              exact ih19 (i + 1) (by omega) (by omega)
            · refine z_iconst (v := nI 1) B dX7_isTrueInBook_52 (by decide) ?_
              refine z_goto B 57 dX7_isTrueInBook_53 (by decide) ?_
              refine z_istore_n (lv1 := [(2, .int (nI (1))), (0, .ref (h)), (1, .int (nI (j))), (3, .int (nI (4 * j + i)))]) B dX7_isTrueInBook_57 rfl (by decide) rfl ?_
              refine z_iinc B 3 (lv1 := [(3, .int (nI (4 * j + i + 1))), (2, .int (nI (1))), (0, .ref (h)), (1, .int (nI (j)))]) dX7_isTrueInBook_58 rfl (nI_1 _) (by decide) rfl ?_
              refine z_goto B 19 dX7_isTrueInBook_61 (by decide) ?_
              refine z_loc [2, 3, 1, 0] (lv' := [(0, .ref (h)), (1, .int (nI (j))), (2, .int (nI (1))), (3, .int (nI (4 * j + i + 1)))]) rfl ?_
              refine z_lvc (lv' := [(0, .ref (h)), (1, .int (nI (j))), (2, .int (bI (M 12 j = 0 ∧ ∀ l, l < (i + 1) → M 11 (4 * j + l) = M 10 (4 * j + l)))), (3, .int (nI (4 * j + (i + 1))))]) (by first | rw [bI_t (P := _ ∧ _) ⟨zc34.1, all_s.mpr ⟨zc34.2, zc49⟩⟩]; rfl | rw [bI_f (P := _ ∧ _) (fun h => zc34 ⟨h.1, (all_s.mp h.2).1⟩)]; rfl | rw [bI_f (P := _ ∧ _) (fun h => zc49 (all_s.mp h.2).2)]; rfl) ?_
              exact ih19 (i + 1) (by omega) (by omega)
    refine z_loc [2, 3, 1, 0] (lv' := [(0, .ref (h)), (1, .int (nI (j))), (2, .int (nI (1))), (3, .int (nI (4 * j)))]) rfl ?_
    refine z_lvc (lv' := [(0, .ref (h)), (1, .int (nI (j))), (2, .int (bI (M 12 j = 0 ∧ ∀ l, l < 0 → M 11 (4 * j + l) = M 10 (4 * j + l)))), (3, .int (nI (4 * j + 0)))]) (by first | rw [bI_t (P := _ ∧ _) ⟨zc6, fun l hl => absurd hl (Nat.not_lt_zero l)⟩]; rfl | rw [bI_f (P := _ ∧ _) (fun h => zc6 h.1)]; rfl) ?_
    exact loop19 (mL M j + 1) 0 (by omega) (by omega)
