theorem fw_X6_leg_X6 : zF wsX6_leg RX6 TX6 6 := fun _ h => List.mem_cons_of_mem _ (List.mem_append_left _ (List.mem_append_left _ (List.mem_append_left _ (List.mem_append_left _ (List.mem_append_right _ (h))))))
set_option maxHeartbeats 4000000 in
set_option maxRecDepth 100000 in
theorem cc_X6_leg (l : Launch) (D : va_G) (g : zG) (a : Nat → Nat) (C : zMS) (m : Nat) (hst : l.stackTraces = false) (hI : CI C) (x : Int32) (y : Int32) : zThrI l yX6_leg wsX6_leg { frames := 7, cells := 3, slots := 18, locals := 102 } D (zT g) (wC g a C m) [.ref (a 0), .int (x), .int (y)] (fun r w' => r = nI (cD C + 1) ∧ w' = wC g a (up2 (up2 (up2 C 1 (cD C) x) 2 (cD C) y) 3 0 (nI (cD C + 1))) m ∧ (rng x 8) ∧ ((-10000) ≤ y ∧ y ≤ nI (10000)) ∧ (¬ y = 0) ∧ (cD C < 4)) (fun E w' => w' = wC g a C m ∧ ((E = "java/lang/IndexOutOfBoundsException" ∧ ¬ (rng x 8)) ∨ (E = "java/lang/IllegalArgumentException" ∧ (rng x 8) ∧ ¬ ((-10000) ≤ y ∧ y ≤ nI (10000))) ∨ (E = "java/lang/IllegalArgumentException" ∧ (rng x 8) ∧ ((-10000) ≤ y ∧ y ≤ nI (10000)) ∧ ¬ (¬ y = 0)) ∨ (E = "java/lang/IllegalStateException" ∧ (rng x 8) ∧ ((-10000) ≤ y ∧ y ≤ nI (10000)) ∧ (¬ y = 0) ∧ ¬ (cD C < 4)))) 3 18 := by
  refine zThrI_of (cc := cX6_leg) (maxL := 3) (ret := (some .int)) (own := RX6) [(0, .ref (a 0)), (1, .int (x)), (2, .int (y))] (by decide) rfl rfl rfl (Nat.le_of_ble_eq_true rfl) ?_
  intro X A hAe hl B hr hin htab hT
  obtain ⟨b19, b3, b6, b20, b22, b27, b0⟩ := CI_bs hI
  refine z_iload_n B 1 dX6_leg_0 rfl rfl ?_
  refine z_callTSV (As := [.int (x)]) (st := []) (l := l) B hAe hT htab hl (cc_X6_needAccount l D g a C m hst hI x) gX6_leg_X6_needAccount rfl ⟨rfl, rfl⟩ nm_X6_needAccount ⟨by decide, by decide⟩ rfl (Nat.le_of_ble_eq_true rfl) dX6_leg_1 rfl rfl (by decide) (by decide) (by decide) (by decide) (fun E w' h => by exact ⟨h.1, (Or.inl (⟨h.2.1, h.2.2⟩))⟩) (fun w1 hrr => ?_)
  obtain ⟨rfl, hp1⟩ := hrr
  refine z_iload_n B 2 dX6_leg_4 rfl rfl ?_
  refine z_callTSV (As := [.int (y)]) (st := []) (l := l) B hAe hT htab hl (cc_X6_needAmount l D g a C m hst hI y) gX6_leg_X6_needAmount rfl ⟨rfl, rfl⟩ nm_X6_needAmount ⟨by decide, by decide⟩ rfl (Nat.le_of_ble_eq_true rfl) dX6_leg_5 rfl rfl (by decide) (by decide) (by decide) (by decide) (fun E w' h => by exact ⟨h.1, (Or.inr (Or.inl (⟨h.2.1, hp1, h.2.2⟩)))⟩) (fun w1 hrr => ?_)
  obtain ⟨rfl, hp5⟩ := hrr
  refine z_iload_n B 2 dX6_leg_8 rfl rfl ?_
  refine z_if_ne B 22 dX6_leg_9 (by decide) (fun zc9 => ?_) (fun zc9 => ?_)
  · refine z_aload_n B 0 dX6_leg_22 rfl rfl ?_
    refine z_get (C := RX6) (T := TX6) (N := 6) (v := .ref (a 1)) B 0 0 5 fw_X6_leg_X6 rfl rfl (by decide) rfl rfl rfl dX6_leg_23 ?_
    refine z_callP (As := []) (st := []) (C := RX3) (T := TX3) (N := 3) (ci := 3) (l := l) B hl (cc_X3_isFull_D l D g a C m hI) gX6_leg_X3_isFull rfl ⟨rfl, rfl⟩ nm_X3_isFull ⟨by decide, by decide⟩ (fun _ h => h) 1 rfl rfl rfl (Nat.le_of_ble_eq_true rfl) dX6_leg_26 (by decide) (by decide) (fun r hr => ?_)
    subst hr
    refine z_ifB_eq B 42 dX6_leg_29 (by decide) (fun zc29 => ?_) (fun zc29 => ?_)
    · refine z_aload_n B 0 dX6_leg_42 rfl rfl ?_
      refine z_get (C := RX6) (T := TX6) (N := 6) (v := .ref (a 1)) B 0 0 5 fw_X6_leg_X6 rfl rfl (by decide) rfl rfl rfl dX6_leg_43 ?_
      refine z_iload_n B 1 dX6_leg_46 rfl rfl ?_
      refine z_iload_n B 2 dX6_leg_47 rfl rfl ?_
      refine z_callM (As := [.int (x), .int (y)]) (st := []) (C := RX3) (T := TX3) (N := 3) (ci := 3) (l := l) B hl (cc_X3_add_D l D g a C m x y (cD C) (CI_3 (C := C) hI) (by omega)) gX6_leg_X3_add rfl ⟨rfl, rfl⟩ nm_X3_add ⟨by decide, by decide⟩ 1 rfl rfl rfl (Nat.le_of_ble_eq_true rfl) dX6_leg_48 rfl rfl (by decide) (by decide) (fun r w1 hr => ?_)
      obtain ⟨rfl, rfl⟩ := hr
      exact z_xr (z_mret B hAe hr dX6_leg_51 rfl (by decide) (by decide) (by exact ⟨(by exact rfl), rfl, hp1, hp5, zc9, (by omega)⟩))
    · have hng : ¬ (cD C < 4) := by omega
      refine z_throwS (B := B) (text := "the draft has all its legs") hAe hT (by rw [hl]; exact hst) htab (by decide) (by decide) (List.mem_of_getElem? (i := 3) rfl) (List.mem_of_getElem? (i := 4) rfl) (fun _ h => List.mem_cons_of_mem _ (List.mem_append_left _ (List.mem_append_right _ (h)))) zngS zgdS (by decide) dX6_leg_32 dX6_leg_35 dX6_leg_36 dX6_leg_38 dX6_leg_41 (by decide) (Nat.le_of_ble_eq_true rfl) (by decide) (by decide) (by decide) (by decide) ?_
      exact ⟨rfl, (Or.inr (Or.inr (Or.inr (⟨rfl, hp1, hp5, zc9, hng⟩))))⟩
  · have hng : ¬ (¬ y = 0) := by exact not_not_intro zc9
    refine z_throwS (B := B) (text := "the amount of a leg is not 0") hAe hT (by rw [hl]; exact hst) htab (by decide) (by decide) (List.mem_of_getElem? (i := 1) rfl) (List.mem_of_getElem? (i := 2) rfl) (fun _ h => List.mem_cons_of_mem _ (List.mem_append_left _ (List.mem_append_left _ (List.mem_append_right _ (h))))) zngA zgdA (by decide) dX6_leg_12 dX6_leg_15 dX6_leg_16 dX6_leg_18 dX6_leg_21 (by decide) (Nat.le_of_ble_eq_true rfl) (by decide) (by decide) (by decide) (by decide) ?_
    exact ⟨rfl, (Or.inr (Or.inr (Or.inl (⟨rfl, hp1, hp5, hng⟩))))⟩
theorem fw_X6_wipe_X6 : zF wsX6_wipe RX6 TX6 6 := fun _ h => List.mem_cons_of_mem _ (List.mem_append_left _ (List.mem_append_right _ (h)))
set_option maxHeartbeats 4000000 in
set_option maxRecDepth 100000 in
theorem cc_X6_wipe (l : Launch) (D : va_G) (g : zG) (a : Nat → Nat) (C : zMS) (m : Nat) (hI : CI C) : zMutI l yX6_wipe wsX6_wipe { frames := 1, cells := 0, slots := 0, locals := 21 } D (zT g) (wC g a C m) [.ref (a 0)] (fun r w' => r = nI (cD C) ∧ w' = wC g a (up2 C 3 0 (nI 0)) m) 0 0 := by
  refine zMutI_of (cc := cX6_wipe) (maxL := 1) (ret := (some .int)) (own := RX6) [(0, .ref (a 0))] (by decide) rfl rfl rfl (Nat.le_of_ble_eq_true rfl) ?_
  intro X A hAe hl B hr hin
  obtain ⟨b19, b3, b6, b20, b22, b27, b0⟩ := CI_bs hI
  refine z_aload_n B 0 dX6_wipe_0 rfl rfl ?_
  refine z_get (C := RX6) (T := TX6) (N := 6) (v := .ref (a 1)) B 0 0 1 fw_X6_wipe_X6 rfl rfl (by decide) rfl rfl rfl dX6_wipe_1 ?_
  refine z_callM (As := []) (st := []) (C := RX3) (T := TX3) (N := 3) (ci := 3) (l := l) B hl (cc_X3_clear_D l D g a C m (cD C) (CI_3 (C := C) hI)) gX6_wipe_X3_clear rfl ⟨rfl, rfl⟩ nm_X3_clear ⟨by decide, by decide⟩ 1 rfl rfl rfl (Nat.le_of_ble_eq_true rfl) dX6_wipe_4 rfl rfl (by decide) (by decide) (fun r w1 hr => ?_)
  obtain ⟨rfl, rfl⟩ := hr
  exact z_mret B hAe hr dX6_wipe_7 rfl (by decide) (by decide) (by exact ⟨rfl, rfl⟩)
theorem fw_X6_write_X6 : zF wsX6_write RX6 TX6 6 := fun _ h => List.mem_cons_of_mem _ (List.mem_append_left _ (List.mem_append_left _ (List.mem_append_left _ (List.mem_append_left _ (List.mem_append_left _ (List.mem_append_right _ (h)))))))
set_option maxHeartbeats 4000000 in
set_option maxRecDepth 100000 in
theorem cc_X6_write (l : Launch) (D : va_G) (g : zG) (a : Nat → Nat) (C : zMS) (m : Nat) (hst : l.stackTraces = false) (hI : CI C) (x : Int32) : zThrI l yX6_write wsX6_write { frames := 7, cells := 2, slots := 12, locals := 102 } D (zT g) (wC g a C m) [.ref (a 0), .int (x)] (fun r w' => r = nI (cP C) ∧ w' = wC g a (up2 (apC C (cP C) 1 2 (cD C) x (nI (cT C))) 3 0 (nI 0)) m ∧ (rng x 10000) ∧ ((2 ≤ cD C ∧ zsum (C 2) (cD C) = 0) ∧ cP C < 80)) (fun E w' => w' = wC g a C m ∧ ((E = "java/lang/IllegalArgumentException" ∧ ¬ (rng x 10000)) ∨ (E = "java/lang/IllegalStateException" ∧ (rng x 10000) ∧ ¬ ((2 ≤ cD C ∧ zsum (C 2) (cD C) = 0) ∧ cP C < 80)))) 2 12 := by
  refine zThrI_of (cc := cX6_write) (maxL := 3) (ret := (some .int)) (own := RX6) [(0, .ref (a 0)), (1, .int (x))] (by decide) rfl rfl rfl (Nat.le_of_ble_eq_true rfl) ?_
  intro X A hAe hl B hr hin htab hT
  obtain ⟨b19, b3, b6, b20, b22, b27, b0⟩ := CI_bs hI
  refine z_iload_n B 1 dX6_write_0 rfl rfl ?_
  refine z_callTSV (As := [.int (x)]) (st := []) (l := l) B hAe hT htab hl (cc_X6_needText l D g a C m hst hI x) gX6_write_X6_needText rfl ⟨rfl, rfl⟩ nm_X6_needText ⟨by decide, by decide⟩ rfl (Nat.le_of_ble_eq_true rfl) dX6_write_1 rfl rfl (by decide) (by decide) (by decide) (by decide) (fun E w' h => by exact ⟨h.1, (Or.inl (⟨h.2.1, h.2.2⟩))⟩) (fun w1 hrr => ?_)
  obtain ⟨rfl, hp1⟩ := hrr
  refine z_aload_n B 0 dX6_write_4 rfl rfl ?_
  refine z_get (C := RX6) (T := TX6) (N := 6) (v := .ref (a 1)) B 0 0 3 fw_X6_write_X6 rfl rfl (by decide) rfl rfl rfl dX6_write_5 ?_
  refine z_callP (As := []) (st := []) (C := RX3) (T := TX3) (N := 3) (ci := 3) (l := l) B hl (cc_X3_isBalanced_D l D g a C m hI) gX6_write_X3_isBalanced rfl ⟨rfl, rfl⟩ nm_X3_isBalanced ⟨by decide, by decide⟩ (fun _ h => h) 1 rfl rfl rfl (Nat.le_of_ble_eq_true rfl) dX6_write_8 (by decide) (by decide) (fun r hr => ?_)
  subst hr
  refine z_ifB_eq B 24 dX6_write_11 (by decide) (fun zc11 => ?_) (fun zc11 => ?_)
  · have hng : ¬ ((2 ≤ cD C ∧ zsum (C 2) (cD C) = 0) ∧ cP C < 80) := by first | exact fun h => zc11 h.1 | exact fun h => absurd h.2 (by omega)
    refine z_throwS (B := B) (text := "the draft is no page, or the book is full") hAe hT (by rw [hl]; exact hst) htab (by decide) (by decide) (List.mem_of_getElem? (i := 1) rfl) (List.mem_of_getElem? (i := 2) rfl) (fun _ h => List.mem_cons_of_mem _ (List.mem_append_left _ (List.mem_append_right _ (h)))) zngS zgdS (by decide) dX6_write_24 dX6_write_27 dX6_write_28 dX6_write_30 dX6_write_33 (by decide) (Nat.le_of_ble_eq_true rfl) (by decide) (by decide) (by decide) (by decide) ?_
    exact ⟨rfl, (Or.inr (⟨rfl, hp1, hng⟩))⟩
  · refine z_aload_n B 0 dX6_write_14 rfl rfl ?_
    refine z_get (C := RX6) (T := TX6) (N := 6) (v := .ref (a 3)) B 0 2 4 fw_X6_write_X6 rfl rfl (by decide) rfl rfl rfl dX6_write_15 ?_
    refine z_callP (As := []) (st := []) (C := RX0) (T := TX0) (N := 11) (ci := 0) (l := l) B hl (cc_X0_isFull l D g a C m hI) gX6_write_X0_isFull rfl ⟨rfl, rfl⟩ nm_X0_isFull ⟨by decide, by decide⟩ (fun _ h => h) 3 rfl rfl rfl (Nat.le_of_ble_eq_true rfl) dX6_write_18 (by decide) (by decide) (fun r hr => ?_)
    subst hr
    refine z_ifB_eq B 34 dX6_write_21 (by decide) (fun zc21 => ?_) (fun zc21 => ?_)
    · refine z_aload_n B 0 dX6_write_34 rfl rfl ?_
      refine z_get (C := RX6) (T := TX6) (N := 6) (v := .ref (a 3)) B 0 2 4 fw_X6_write_X6 rfl rfl (by decide) rfl rfl rfl dX6_write_35 ?_
      refine z_aload_n B 0 dX6_write_38 rfl rfl ?_
      refine z_get (C := RX6) (T := TX6) (N := 6) (v := .ref (a 1)) B 0 0 3 fw_X6_write_X6 rfl rfl (by decide) rfl rfl rfl dX6_write_39 ?_
      refine z_iload_n B 1 dX6_write_42 rfl rfl ?_
      refine z_aload_n B 0 dX6_write_43 rfl rfl ?_
      refine z_get (C := RX6) (T := TX6) (N := 6) (v := .int (C 0 0)) B 0 5 5 fw_X6_write_X6 rfl rfl (by decide) rfl rfl rfl dX6_write_44 ?_
      refine z_top (y := nI (cT C)) (CI_0 (C := C) hI) ?_
      refine z_callM (As := [.ref (a 1), .int (x), .int (nI (cT C))]) (st := []) (C := RX0) (T := TX0) (N := 11) (ci := 0) (l := l) B hl (cc_X0_append_D l D g a C m x (nI (cT C)) (cP C) (CI_19 (C := C) hI) (by omega) (cD C) (CI_3 (C := C) hI) (by omega)) gX6_write_X0_append rfl ⟨rfl, rfl⟩ nm_X0_append ⟨by decide, by decide⟩ 3 rfl rfl rfl (Nat.le_of_ble_eq_true rfl) dX6_write_47 rfl rfl (by decide) (by decide) (fun r w1 hr => ?_)
      obtain ⟨rfl, rfl⟩ := hr
      refine z_istore_n (lv1 := [(2, .int (nI ((cP C)))), (0, .ref (a 0)), (1, .int (x))]) B dX6_write_50 rfl (by decide) rfl ?_
      refine z_aload_n B 1 dX6_write_51 rfl rfl ?_
      refine z_get (C := RX6) (T := TX6) (N := 6) (v := .ref (a 1)) B 0 0 3 fw_X6_write_X6 rfl rfl (by decide) rfl rfl rfl dX6_write_52 ?_
      refine z_callM (As := []) (st := []) (C := RX3) (T := TX3) (N := 3) (ci := 3) (l := l) B hl (cc_X3_clear_D l D g a (apC C (cP C) 1 2 (cD C) x (nI (cT C))) m (cD C) ((congrFun ((apC_k (k := 3) (by omega)).trans (rfl)) 0).trans (CI_3 (C := C) hI))) gX6_write_X3_clear rfl ⟨rfl, rfl⟩ nm_X3_clear ⟨by decide, by decide⟩ 1 rfl rfl rfl (Nat.le_of_ble_eq_true rfl) dX6_write_55 rfl rfl (by decide) (by decide) (fun r w1 hr => ?_)
      obtain ⟨rfl, rfl⟩ := hr
      refine z_pop B dX6_write_58 rfl ?_
      refine z_iload_n B 0 dX6_write_59 rfl rfl ?_
      exact z_xr (z_mret B hAe hr dX6_write_60 rfl (by decide) (by decide) (by exact ⟨(by exact rfl), rfl, hp1, (⟨zc11, by omega⟩)⟩))
    · have hng : ¬ ((2 ≤ cD C ∧ zsum (C 2) (cD C) = 0) ∧ cP C < 80) := by first | exact fun h => zc11 h.1 | exact fun h => absurd h.2 (by omega)
      refine z_throwS (B := B) (text := "the draft is no page, or the book is full") hAe hT (by rw [hl]; exact hst) htab (by decide) (by decide) (List.mem_of_getElem? (i := 1) rfl) (List.mem_of_getElem? (i := 2) rfl) (fun _ h => List.mem_cons_of_mem _ (List.mem_append_left _ (List.mem_append_right _ (h)))) zngS zgdS (by decide) dX6_write_24 dX6_write_27 dX6_write_28 dX6_write_30 dX6_write_33 (by decide) (Nat.le_of_ble_eq_true rfl) (by decide) (by decide) (by decide) (by decide) ?_
      exact ⟨rfl, (Or.inr (⟨rfl, hp1, hng⟩))⟩
theorem fw_X6_reverse_X6 : zF wsX6_reverse RX6 TX6 6 := fun _ h => List.mem_cons_of_mem _ (List.mem_append_left _ (List.mem_append_left _ (List.mem_append_left _ (List.mem_append_left _ (List.mem_append_left _ (List.mem_append_right _ (h)))))))
set_option maxHeartbeats 4000000 in
set_option maxRecDepth 100000 in
theorem cc_X6_reverse (l : Launch) (D : va_G) (g : zG) (a : Nat → Nat) (C : zMS) (m : Nat) (hst : l.stackTraces = false) (hI : CI C) (x : Int32) : zThrI l yX6_reverse wsX6_reverse { frames := 7, cells := 2, slots := 12, locals := 103 } D (zT g) (wC g a C m) [.ref (a 0), .int (x)] (fun r w' => r = nI (cP C) ∧ w' = wC g a (rvC C (nN x) (nI (cT C))) m ∧ (rng x (cP C)) ∧ ((cTB C (nN x) ∧ ¬ 0 ≤ C 12 (nN x) ∧ C 13 (nN x) = 0) ∧ cP C < 80)) (fun E w' => w' = wC g a C m ∧ ((E = "java/lang/IndexOutOfBoundsException" ∧ ¬ (rng x (cP C))) ∨ (E = "java/lang/IllegalStateException" ∧ (rng x (cP C)) ∧ ¬ ((cTB C (nN x) ∧ ¬ 0 ≤ C 12 (nN x) ∧ C 13 (nN x) = 0) ∧ cP C < 80)))) 2 12 := by
  refine zThrI_of (cc := cX6_reverse) (maxL := 2) (ret := (some .int)) (own := RX6) [(0, .ref (a 0)), (1, .int (x))] (by decide) rfl rfl rfl (Nat.le_of_ble_eq_true rfl) ?_
  intro X A hAe hl B hr hin htab hT
  obtain ⟨b19, b3, b6, b20, b22, b27, b0⟩ := CI_bs hI
  refine z_aload_n B 0 dX6_reverse_0 rfl rfl ?_
  refine z_iload_n B 1 dX6_reverse_1 rfl rfl ?_
  refine z_callTV (As := [.int (x)]) (st := []) (C := RX6) (T := TX6) (N := 6) (ci := 6) (l := l) B hAe hT htab hl (cc_X6_needPage l D g a C m hst hI x) gX6_reverse_X6_needPage rfl ⟨rfl, rfl⟩ nm_X6_needPage ⟨by decide, by decide⟩ 0 rfl rfl rfl (Nat.le_of_ble_eq_true rfl) dX6_reverse_2 rfl rfl (by decide) (by decide) (by decide) (by decide) (fun E w' h => by exact ⟨h.1, (Or.inl (⟨h.2.1, h.2.2⟩))⟩) (fun w1 hrr => ?_)
  obtain ⟨rfl, hp2⟩ := hrr
  have khp2 := hp2
  obtain ⟨jx, hjx, rfl⟩ := hp2
  have ejx : nN (nI jx) = jx := nN_nI (by omega)
  refine z_aload_n B 0 dX6_reverse_5 rfl rfl ?_
  refine z_get (C := RX6) (T := TX6) (N := 6) (v := .ref (a 3)) B 0 2 3 fw_X6_reverse_X6 rfl rfl (by decide) rfl rfl rfl dX6_reverse_6 ?_
  refine z_iload_n B 1 dX6_reverse_9 rfl rfl ?_
  refine z_callP (As := [.int (nI (jx))]) (st := []) (C := RX0) (T := TX0) (N := 11) (ci := 0) (l := l) B hl (cc_X0_isReversible l D g a C m hI jx (by omega)) gX6_reverse_X0_isReversible rfl ⟨rfl, rfl⟩ nm_X0_isReversible ⟨by decide, by decide⟩ (fun _ h => h) 3 rfl rfl rfl (Nat.le_of_ble_eq_true rfl) dX6_reverse_10 (by decide) (by decide) (fun r hr => ?_)
  subst hr
  refine z_ifB_eq B 26 dX6_reverse_13 (by decide) (fun zc13 => ?_) (fun zc13 => ?_)
  · have hng : ¬ ((cTB C (nN (nI (jx))) ∧ ¬ 0 ≤ C 12 (nN (nI (jx))) ∧ C 13 (nN (nI (jx))) = 0) ∧ cP C < 80) := by first | (rw [ejx]; exact fun h => zc13 h.1) | exact fun h => absurd h.2 (by omega)
    refine z_throwS (B := B) (text := "the page is not to be reversed, or the book is full") hAe hT (by rw [hl]; exact hst) htab (by decide) (by decide) (List.mem_of_getElem? (i := 1) rfl) (List.mem_of_getElem? (i := 2) rfl) (fun _ h => List.mem_cons_of_mem _ (List.mem_append_left _ (List.mem_append_right _ (h)))) zngS zgdS (by decide) dX6_reverse_26 dX6_reverse_29 dX6_reverse_30 dX6_reverse_32 dX6_reverse_35 (by decide) (Nat.le_of_ble_eq_true rfl) (by decide) (by decide) (by decide) (by decide) ?_
    try rw [ejx] at hng
    try rw [ejx]
    exact ⟨rfl, (Or.inr (⟨rfl, khp2, hng⟩))⟩
  · refine z_aload_n B 0 dX6_reverse_16 rfl rfl ?_
    refine z_get (C := RX6) (T := TX6) (N := 6) (v := .ref (a 3)) B 0 2 3 fw_X6_reverse_X6 rfl rfl (by decide) rfl rfl rfl dX6_reverse_17 ?_
    refine z_callP (As := []) (st := []) (C := RX0) (T := TX0) (N := 11) (ci := 0) (l := l) B hl (cc_X0_isFull l D g a C m hI) gX6_reverse_X0_isFull rfl ⟨rfl, rfl⟩ nm_X0_isFull ⟨by decide, by decide⟩ (fun _ h => h) 3 rfl rfl rfl (Nat.le_of_ble_eq_true rfl) dX6_reverse_20 (by decide) (by decide) (fun r hr => ?_)
    subst hr
    refine z_ifB_eq B 36 dX6_reverse_23 (by decide) (fun zc23 => ?_) (fun zc23 => ?_)
    · refine z_aload_n B 0 dX6_reverse_36 rfl rfl ?_
      refine z_get (C := RX6) (T := TX6) (N := 6) (v := .ref (a 3)) B 0 2 3 fw_X6_reverse_X6 rfl rfl (by decide) rfl rfl rfl dX6_reverse_37 ?_
      refine z_iload_n B 1 dX6_reverse_40 rfl rfl ?_
      refine z_aload_n B 0 dX6_reverse_41 rfl rfl ?_
      refine z_get (C := RX6) (T := TX6) (N := 6) (v := .ref (a 2)) B 0 1 4 fw_X6_reverse_X6 rfl rfl (by decide) rfl rfl rfl dX6_reverse_42 ?_
      refine z_aload_n B 0 dX6_reverse_45 rfl rfl ?_
      refine z_get (C := RX6) (T := TX6) (N := 6) (v := .int (C 0 0)) B 0 5 5 fw_X6_reverse_X6 rfl rfl (by decide) rfl rfl rfl dX6_reverse_46 ?_
      refine z_top (y := nI (cT C)) (CI_0 (C := C) hI) ?_
      refine z_callM (As := [.int (nI (jx)), .ref (a 2), .int (nI (cT C))]) (st := []) (C := RX0) (T := TX0) (N := 11) (ci := 0) (l := l) B hl (cc_X0_appendReversal l D g a C m hI jx (by omega) (nI (cT C)) (by omega)) gX6_reverse_X0_appendReversal rfl ⟨rfl, rfl⟩ nm_X0_appendReversal ⟨by decide, by decide⟩ 3 rfl rfl rfl (Nat.le_of_ble_eq_true rfl) dX6_reverse_49 rfl rfl (by decide) (by decide) (fun r w1 hr => ?_)
      obtain ⟨rfl, rfl⟩ := hr
      exact z_xr (z_mret B hAe hr dX6_reverse_52 rfl (by decide) (by decide) (by try rw [ejx]; exact ⟨(by exact rfl), rfl, khp2, (⟨zc13, by omega⟩)⟩))
    · have hng : ¬ ((cTB C (nN (nI (jx))) ∧ ¬ 0 ≤ C 12 (nN (nI (jx))) ∧ C 13 (nN (nI (jx))) = 0) ∧ cP C < 80) := by first | (rw [ejx]; exact fun h => zc13 h.1) | exact fun h => absurd h.2 (by omega)
      refine z_throwS (B := B) (text := "the page is not to be reversed, or the book is full") hAe hT (by rw [hl]; exact hst) htab (by decide) (by decide) (List.mem_of_getElem? (i := 1) rfl) (List.mem_of_getElem? (i := 2) rfl) (fun _ h => List.mem_cons_of_mem _ (List.mem_append_left _ (List.mem_append_right _ (h)))) zngS zgdS (by decide) dX6_reverse_26 dX6_reverse_29 dX6_reverse_30 dX6_reverse_32 dX6_reverse_35 (by decide) (Nat.le_of_ble_eq_true rfl) (by decide) (by decide) (by decide) (by decide) ?_
      try rw [ejx] at hng
      try rw [ejx]
      exact ⟨rfl, (Or.inr (⟨rfl, khp2, hng⟩))⟩
theorem fw_X6_pass_X6 : zF wsX6_pass RX6 TX6 6 := fun _ h => List.mem_cons_of_mem _ (List.mem_append_left _ (List.mem_append_left _ (List.mem_append_right _ (h))))
set_option maxHeartbeats 4000000 in
set_option maxRecDepth 100000 in
theorem cc_X6_pass (l : Launch) (D : va_G) (g : zG) (a : Nat → Nat) (C : zMS) (m : Nat) (hst : l.stackTraces = false) (hI : CI C) (x : Int32) : zThrI l yX6_pass wsX6_pass { frames := 6, cells := 1, slots := 6, locals := 82 } D (zT g) (wC g a C m) [.ref (a 0), .int (x)] (fun r w' => r = nI (cT C) + x ∧ w' = wC g a (up2 C 0 0 (nI (cT C) + x)) m ∧ (¬ x < nI 1 ∧ x ≤ nI 100) ∧ (nI (cT C) + x ≤ nI 400)) (fun E w' => w' = wC g a C m ∧ ((E = "java/lang/IllegalArgumentException" ∧ ¬ (¬ x < nI 1 ∧ x ≤ nI 100)) ∨ (E = "java/lang/IllegalStateException" ∧ (¬ x < nI 1 ∧ x ≤ nI 100) ∧ ¬ (nI (cT C) + x ≤ nI 400)))) 1 6 := by
  refine zThrI_of (cc := cX6_pass) (maxL := 2) (ret := (some .int)) (own := RX6) [(0, .ref (a 0)), (1, .int (x))] (by decide) rfl rfl rfl (Nat.le_of_ble_eq_true rfl) ?_
  intro X A hAe hl B hr hin htab hT
  obtain ⟨b19, b3, b6, b20, b22, b27, b0⟩ := CI_bs hI
  refine z_iload_n B 1 dX6_pass_0 rfl rfl ?_
  refine z_iconst (v := nI 1) B dX6_pass_1 (by decide) ?_
  refine z_icmp_lt B 11 dX6_pass_2 (by decide) (fun zc2 => ?_) (fun zc2 => ?_)
  · have hng : ¬ (¬ x < nI 1 ∧ x ≤ nI 100) := by first | exact fun h => h.1 zc2 | exact fun h => zc8 h.2
    refine z_throwS (B := B) (text := "1 to 100 days pass at once") hAe hT (by rw [hl]; exact hst) htab (by decide) (by decide) (List.mem_of_getElem? (i := 1) rfl) (List.mem_of_getElem? (i := 2) rfl) (fun _ h => List.mem_cons_of_mem _ (List.mem_append_left _ (List.mem_append_right _ (h)))) zngA zgdA (by decide) dX6_pass_11 dX6_pass_14 dX6_pass_15 dX6_pass_17 dX6_pass_20 (by decide) (Nat.le_of_ble_eq_true rfl) (by decide) (by decide) (by decide) (by decide) ?_
    exact ⟨rfl, (Or.inl (⟨rfl, hng⟩))⟩
  · refine z_iload_n B 1 dX6_pass_5 rfl rfl ?_
    refine z_bipush (v := nI 100) B dX6_pass_6 (by decide) ?_
    refine z_icmp_le B 21 dX6_pass_8 (by decide) (fun zc8 => ?_) (fun zc8 => ?_)
    · refine z_aload_n B 0 dX6_pass_21 rfl rfl ?_
      refine z_get (C := RX6) (T := TX6) (N := 6) (v := .int (C 0 0)) B 0 5 5 fw_X6_pass_X6 rfl rfl (by decide) rfl rfl rfl dX6_pass_22 ?_
      refine z_top (y := nI (cT C)) (CI_0 (C := C) hI) ?_
      refine z_iload_n B 1 dX6_pass_25 rfl rfl ?_
      refine z_iadd B dX6_pass_26 ?_
      refine z_sipush (v := nI 400) B dX6_pass_27 (by decide) ?_
      refine z_icmp_le B 43 dX6_pass_30 (by decide) (fun zc30 => ?_) (fun zc30 => ?_)
      · refine z_aload_n B 0 dX6_pass_43 rfl rfl ?_
        refine z_dup B dX6_pass_44 rfl ?_
        refine z_get (C := RX6) (T := TX6) (N := 6) (v := .int (C 0 0)) B 0 5 5 fw_X6_pass_X6 rfl rfl (by decide) rfl rfl rfl dX6_pass_45 ?_
        refine z_top (y := nI (cT C)) (CI_0 (C := C) hI) ?_
        refine z_iload_n B 1 dX6_pass_48 rfl rfl ?_
        refine z_iadd B dX6_pass_49 ?_
        refine z_put (C := RX6) (T := TX6) (N := 6) (w' := wC g a (up2 C 0 0 ((nI (cT C)) + x)) m) B 0 5 5 fw_X6_pass_X6 tyX6 tyX6_ok nmX6 rfl rfl (by decide) rfl rfl rfl rfl rfl (Nat.le_of_ble_eq_true rfl) dX6_pass_50 (wC_f (by decide) rfl (fun f hf => up2_k (by omega))) ?_
        refine z_aload_n B 0 dX6_pass_53 rfl rfl ?_
        refine z_get (C := RX6) (T := TX6) (N := 6) (v := .int (((nI (cT C)) + x))) B 0 5 5 fw_X6_pass_X6 rfl rfl (by decide) rfl rfl rfl dX6_pass_54 ?_
        exact z_xr (z_mret B hAe hr dX6_pass_57 rfl (by decide) (by decide) (by exact ⟨(by exact rfl), rfl, (⟨zc2, zc8⟩), zc30⟩))
      · have hng : ¬ (nI (cT C) + x ≤ nI 400) := by exact zc30
        refine z_throwS (B := B) (text := "the last day is 400") hAe hT (by rw [hl]; exact hst) htab (by decide) (by decide) (List.mem_of_getElem? (i := 3) rfl) (List.mem_of_getElem? (i := 4) rfl) (fun _ h => List.mem_cons_of_mem _ (List.mem_append_right _ (h))) zngS zgdS (by decide) dX6_pass_33 dX6_pass_36 dX6_pass_37 dX6_pass_39 dX6_pass_42 (by decide) (Nat.le_of_ble_eq_true rfl) (by decide) (by decide) (by decide) (by decide) ?_
        exact ⟨rfl, (Or.inr (⟨rfl, (⟨zc2, zc8⟩), hng⟩))⟩
    · have hng : ¬ (¬ x < nI 1 ∧ x ≤ nI 100) := by first | exact fun h => h.1 zc2 | exact fun h => zc8 h.2
      refine z_throwS (B := B) (text := "1 to 100 days pass at once") hAe hT (by rw [hl]; exact hst) htab (by decide) (by decide) (List.mem_of_getElem? (i := 1) rfl) (List.mem_of_getElem? (i := 2) rfl) (fun _ h => List.mem_cons_of_mem _ (List.mem_append_left _ (List.mem_append_right _ (h)))) zngA zgdA (by decide) dX6_pass_11 dX6_pass_14 dX6_pass_15 dX6_pass_17 dX6_pass_20 (by decide) (Nat.le_of_ble_eq_true rfl) (by decide) (by decide) (by decide) (by decide) ?_
      exact ⟨rfl, (Or.inl (⟨rfl, hng⟩))⟩
theorem fw_X6_day_X6 : zF wsX6_day RX6 TX6 6 := fun _ h => List.mem_cons_of_mem _ (List.mem_append_right _ (h))
set_option maxHeartbeats 4000000 in
set_option maxRecDepth 100000 in
theorem cc_X6_day (l : Launch) (D : va_G) (g : zG) (a : Nat → Nat) (C : zMS) (m : Nat) (hI : CI C) : zPure l yX6_day wsX6_day { frames := 0, cells := 0, slots := 0, locals := 0 } D (zT g) (wC g a C m) [.ref (a 0)] (fun r => r = nI (cT C)) := by
  refine zPure_of (cc := cX6_day) (maxL := 1) (ret := (some .int)) (own := RX6) [(0, .ref (a 0))] (by decide) rfl rfl rfl (Nat.le_of_ble_eq_true rfl) ?_
  intro X hl B hr
  obtain ⟨b19, b3, b6, b20, b22, b27, b0⟩ := CI_bs hI
  refine z_aload_n B 0 dX6_day_0 rfl rfl ?_
  refine z_get (C := RX6) (T := TX6) (N := 6) (v := .int (C 0 0)) B 0 5 1 fw_X6_day_X6 rfl rfl (by decide) rfl rfl rfl dX6_day_1 ?_
  refine z_top (y := nI (cT C)) (CI_0 (C := C) hI) ?_
  exact z_pret B hr dX6_day_4 rfl (by rfl)
theorem fw_X6_pages_X0 : zF wsX6_pages RX0 TX0 11 := fun _ h => List.mem_cons_of_mem _ (List.mem_append_right _ (h))
theorem fw_X6_pages_X6 : zF wsX6_pages RX6 TX6 6 := fun _ h => List.mem_cons_of_mem _ (List.mem_append_left _ (List.mem_append_right _ (h)))
set_option maxHeartbeats 4000000 in
set_option maxRecDepth 100000 in
theorem cc_X6_pages (l : Launch) (D : va_G) (g : zG) (a : Nat → Nat) (C : zMS) (m : Nat) (hI : CI C) : zPure l yX6_pages wsX6_pages { frames := 0, cells := 0, slots := 0, locals := 0 } D (zT g) (wC g a C m) [.ref (a 0)] (fun r => r = nI (cP C)) := by
  refine zPure_of (cc := cX6_pages) (maxL := 1) (ret := (some .int)) (own := RX6) [(0, .ref (a 0))] (by decide) rfl rfl rfl (Nat.le_of_ble_eq_true rfl) ?_
  intro X hl B hr
  obtain ⟨b19, b3, b6, b20, b22, b27, b0⟩ := CI_bs hI
  refine z_aload_n B 0 dX6_pages_0 rfl rfl ?_
  refine z_get (C := RX6) (T := TX6) (N := 6) (v := .ref (a 3)) B 0 2 1 fw_X6_pages_X6 rfl rfl (by decide) rfl rfl rfl dX6_pages_1 ?_
  refine z_get (C := RX0) (T := TX0) (N := 11) (v := .int (C 19 0)) B 3 10 2 fw_X6_pages_X0 rfl rfl (by decide) rfl rfl rfl dX6_pages_4 ?_
  refine z_top (y := nI (cP C)) (CI_19 (C := C) hI) ?_
  exact z_pret B hr dX6_pages_7 rfl (by rfl)
theorem fw_X6_state_X6 : zF wsX6_state RX6 TX6 6 := fun _ h => List.mem_cons_of_mem _ (List.mem_append_left _ (List.mem_append_left _ (List.mem_append_left _ (List.mem_append_right _ (h)))))
set_option maxHeartbeats 4000000 in
set_option maxRecDepth 100000 in
theorem cc_X6_state (l : Launch) (D : va_G) (g : zG) (a : Nat → Nat) (C : zMS) (m : Nat) (hst : l.stackTraces = false) (hI : CI C) (x : Int32) : zThrI l yX6_state wsX6_state { frames := 7, cells := 1, slots := 6, locals := 103 } D (zT g) (wC g a C m) [.ref (a 0), .int (x)] (fun r w' => r = nI (cSt C (nN x)) ∧ w' = wC g a C m ∧ (rng x (cP C))) (fun E w' => w' = wC g a C m ∧ (E = "java/lang/IndexOutOfBoundsException" ∧ ¬ (rng x (cP C)))) 1 6 := by
  refine zThrI_of (cc := cX6_state) (maxL := 2) (ret := (some .int)) (own := RX6) [(0, .ref (a 0)), (1, .int (x))] (by decide) rfl rfl rfl (Nat.le_of_ble_eq_true rfl) ?_
  intro X A hAe hl B hr hin htab hT
  obtain ⟨b19, b3, b6, b20, b22, b27, b0⟩ := CI_bs hI
  refine z_aload_n B 0 dX6_state_0 rfl rfl ?_
  refine z_iload_n B 1 dX6_state_1 rfl rfl ?_
  refine z_callTV (As := [.int (x)]) (st := []) (C := RX6) (T := TX6) (N := 6) (ci := 6) (l := l) B hAe hT htab hl (cc_X6_needPage l D g a C m hst hI x) gX6_state_X6_needPage rfl ⟨rfl, rfl⟩ nm_X6_needPage ⟨by decide, by decide⟩ 0 rfl rfl rfl (Nat.le_of_ble_eq_true rfl) dX6_state_2 rfl rfl (by decide) (by decide) (by decide) (by decide) (fun E w' h => by exact ⟨h.1, (⟨h.2.1, h.2.2⟩)⟩) (fun w1 hrr => ?_)
  obtain ⟨rfl, hp2⟩ := hrr
  have khp2 := hp2
  obtain ⟨jx, hjx, rfl⟩ := hp2
  have ejx : nN (nI jx) = jx := nN_nI (by omega)
  refine z_aload_n B 0 dX6_state_5 rfl rfl ?_
  refine z_get (C := RX6) (T := TX6) (N := 6) (v := .ref (a 3)) B 0 2 1 fw_X6_state_X6 rfl rfl (by decide) rfl rfl rfl dX6_state_6 ?_
  refine z_iload_n B 1 dX6_state_9 rfl rfl ?_
  refine z_callP (As := [.int (nI (jx))]) (st := []) (C := RX0) (T := TX0) (N := 11) (ci := 0) (l := l) B hl (cc_X0_stateOf l D g a C m hI jx (by omega)) gX6_state_X0_stateOf rfl ⟨rfl, rfl⟩ nm_X0_stateOf ⟨by decide, by decide⟩ (fun _ h => h) 3 rfl rfl rfl (Nat.le_of_ble_eq_true rfl) dX6_state_10 (by decide) (by decide) (fun r hr => ?_)
  subst hr
  exact z_xr (z_mret B hAe hr dX6_state_13 rfl (by decide) (by decide) (by try rw [ejx]; exact ⟨(by exact rfl), rfl, khp2⟩))
theorem fw_X6_isTrue_X0 : zF wsX6_isTrue RX0 TX0 11 := fun _ h => List.mem_cons_of_mem _ (List.mem_append_left _ (List.mem_append_left _ (List.mem_append_right _ (h))))
theorem fw_X6_isTrue_X6 : zF wsX6_isTrue RX6 TX6 6 := fun _ h => List.mem_cons_of_mem _ (List.mem_append_left _ (List.mem_append_left _ (List.mem_append_left _ (List.mem_append_right _ (h)))))
set_option maxHeartbeats 4000000 in
set_option maxRecDepth 100000 in
theorem cc_X6_isTrue (l : Launch) (D : va_G) (g : zG) (a : Nat → Nat) (C : zMS) (m : Nat) (hst : l.stackTraces = false) (hI : CI C) (x : Int32) : zThrI l yX6_isTrue wsX6_isTrue { frames := 7, cells := 1, slots := 6, locals := 103 } D (zT g) (wC g a C m) [.ref (a 0), .int (x)] (fun r w' => r = bI (cTB C (nN x)) ∧ w' = wC g a C m ∧ (rng x (cP C))) (fun E w' => w' = wC g a C m ∧ (E = "java/lang/IndexOutOfBoundsException" ∧ ¬ (rng x (cP C)))) 1 6 := by
  refine zThrI_of (cc := cX6_isTrue) (maxL := 2) (ret := (some .boolean)) (own := RX6) [(0, .ref (a 0)), (1, .int (x))] (by decide) rfl rfl rfl (Nat.le_of_ble_eq_true rfl) ?_
  intro X A hAe hl B hr hin htab hT
  obtain ⟨b19, b3, b6, b20, b22, b27, b0⟩ := CI_bs hI
  refine z_aload_n B 0 dX6_isTrue_0 rfl rfl ?_
  refine z_iload_n B 1 dX6_isTrue_1 rfl rfl ?_
  refine z_callTV (As := [.int (x)]) (st := []) (C := RX6) (T := TX6) (N := 6) (ci := 6) (l := l) B hAe hT htab hl (cc_X6_needPage l D g a C m hst hI x) gX6_isTrue_X6_needPage rfl ⟨rfl, rfl⟩ nm_X6_needPage ⟨by decide, by decide⟩ 0 rfl rfl rfl (Nat.le_of_ble_eq_true rfl) dX6_isTrue_2 rfl rfl (by decide) (by decide) (by decide) (by decide) (fun E w' h => by exact ⟨h.1, (⟨h.2.1, h.2.2⟩)⟩) (fun w1 hrr => ?_)
  obtain ⟨rfl, hp2⟩ := hrr
  have khp2 := hp2
  obtain ⟨jx, hjx, rfl⟩ := hp2
  have ejx : nN (nI jx) = jx := nN_nI (by omega)
  refine z_aload_n B 0 dX6_isTrue_5 rfl rfl ?_
  refine z_get (C := RX6) (T := TX6) (N := 6) (v := .ref (a 3)) B 0 2 1 fw_X6_isTrue_X6 rfl rfl (by decide) rfl rfl rfl dX6_isTrue_6 ?_
  refine z_aload_n B 0 dX6_isTrue_9 rfl rfl ?_
  refine z_get (C := RX6) (T := TX6) (N := 6) (v := .ref (a 3)) B 0 2 1 fw_X6_isTrue_X6 rfl rfl (by decide) rfl rfl rfl dX6_isTrue_10 ?_
  refine z_get (C := RX0) (T := TX0) (N := 11) (v := .ref (a 19)) B 3 9 2 fw_X6_isTrue_X0 rfl rfl (by decide) rfl rfl rfl dX6_isTrue_13 ?_
  refine z_iload_n B 1 dX6_isTrue_16 rfl rfl ?_
  refine z_callP (As := [.ref (a 19), .int (nI (jx))]) (st := []) (C := RX0) (T := TX0) (N := 11) (ci := 0) (l := l) B hl (cc_X0_isTrueOn_N l D g a C m hI jx (by omega)) gX6_isTrue_X0_isTrueOn rfl ⟨rfl, rfl⟩ nm_X0_isTrueOn ⟨by decide, by decide⟩ (fun _ h => h) 3 rfl rfl rfl (Nat.le_of_ble_eq_true rfl) dX6_isTrue_17 (by decide) (by decide) (fun r hr => ?_)
  subst hr
  exact z_xr (z_mret B hAe hr dX6_isTrue_20 (nar_b (bI_or _)) (by decide) (by decide) (by try rw [ejx]; exact ⟨(by exact rfl), rfl, khp2⟩))
theorem fw_X6_text_X0 : zF wsX6_text RX0 TX0 11 := fun _ h => List.mem_cons_of_mem _ (List.mem_append_left _ (List.mem_append_left _ (List.mem_append_right _ (h))))
theorem fw_X6_text_X6 : zF wsX6_text RX6 TX6 6 := fun _ h => List.mem_cons_of_mem _ (List.mem_append_left _ (List.mem_append_left _ (List.mem_append_left _ (List.mem_append_right _ (h)))))
set_option maxHeartbeats 4000000 in
set_option maxRecDepth 100000 in
theorem cc_X6_text (l : Launch) (D : va_G) (g : zG) (a : Nat → Nat) (C : zMS) (m : Nat) (hst : l.stackTraces = false) (hI : CI C) (x : Int32) : zThrI l yX6_text wsX6_text { frames := 7, cells := 1, slots := 6, locals := 103 } D (zT g) (wC g a C m) [.ref (a 0), .int (x)] (fun r w' => r = ifI (¬ C 17 (nN x) = 0) (C 8 (nN x)) (-1) ∧ w' = wC g a C m ∧ (rng x (cP C))) (fun E w' => w' = wC g a C m ∧ (E = "java/lang/IndexOutOfBoundsException" ∧ ¬ (rng x (cP C)))) 1 6 := by
  refine zThrI_of (cc := cX6_text) (maxL := 2) (ret := (some .int)) (own := RX6) [(0, .ref (a 0)), (1, .int (x))] (by decide) rfl rfl rfl (Nat.le_of_ble_eq_true rfl) ?_
  intro X A hAe hl B hr hin htab hT
  obtain ⟨b19, b3, b6, b20, b22, b27, b0⟩ := CI_bs hI
  refine z_aload_n B 0 dX6_text_0 rfl rfl ?_
  refine z_iload_n B 1 dX6_text_1 rfl rfl ?_
  refine z_callTV (As := [.int (x)]) (st := []) (C := RX6) (T := TX6) (N := 6) (ci := 6) (l := l) B hAe hT htab hl (cc_X6_needPage l D g a C m hst hI x) gX6_text_X6_needPage rfl ⟨rfl, rfl⟩ nm_X6_needPage ⟨by decide, by decide⟩ 0 rfl rfl rfl (Nat.le_of_ble_eq_true rfl) dX6_text_2 rfl rfl (by decide) (by decide) (by decide) (by decide) (fun E w' h => by exact ⟨h.1, (⟨h.2.1, h.2.2⟩)⟩) (fun w1 hrr => ?_)
  obtain ⟨rfl, hp2⟩ := hrr
  have khp2 := hp2
  obtain ⟨jx, hjx, rfl⟩ := hp2
  have ejx : nN (nI jx) = jx := nN_nI (by omega)
  refine z_aload_n B 0 dX6_text_5 rfl rfl ?_
  refine z_get (C := RX6) (T := TX6) (N := 6) (v := .ref (a 3)) B 0 2 1 fw_X6_text_X6 rfl rfl (by decide) rfl rfl rfl dX6_text_6 ?_
  refine z_get (C := RX0) (T := TX0) (N := 11) (v := .ref (a 19)) B 3 9 2 fw_X6_text_X0 rfl rfl (by decide) rfl rfl rfl dX6_text_9 ?_
  refine z_iload_n B 1 dX6_text_12 rfl rfl ?_
  refine z_callP (As := [.int (nI (jx))]) (st := []) (C := RX4) (T := TX4) (N := 2) (ci := 4) (l := l) B hl (cc_X4_isFilled_N l D g a C m hI jx (by omega)) gX6_text_X4_isFilled rfl ⟨rfl, rfl⟩ nm_X4_isFilled ⟨by decide, by decide⟩ (fun _ h => h) 19 rfl rfl rfl (Nat.le_of_ble_eq_true rfl) dX6_text_13 (by decide) (by decide) (fun r hr => ?_)
  subst hr
  refine z_if_eq B 31 dX6_text_16 (by decide) (fun zc16 => ?_) (fun zc16 => ?_)
  · refine z_iconst (v := (-1)) B dX6_text_31 (by decide) ?_
    exact z_xr (z_mret B hAe hr dX6_text_32 rfl (by decide) (by decide) (by try rw [ejx]; exact ⟨(by first | rw [ifI_t zc16] | rw [ifI_f (not_not_intro zc16)]), rfl, khp2⟩))
  · refine z_aload_n B 0 dX6_text_19 rfl rfl ?_
    refine z_get (C := RX6) (T := TX6) (N := 6) (v := .ref (a 3)) B 0 2 1 fw_X6_text_X6 rfl rfl (by decide) rfl rfl rfl dX6_text_20 ?_
    refine z_get (C := RX0) (T := TX0) (N := 11) (v := .ref (a 11)) B 3 1 3 fw_X6_text_X0 rfl rfl (by decide) rfl rfl rfl dX6_text_23 ?_
    refine z_iload_n B 1 dX6_text_26 rfl rfl ?_
    refine z_iald (g := (C 8)) (i := jx) B 11 0 rfl rfl (by omega) (by decide) dX6_text_27 ?_
    refine z_goto B 32 dX6_text_28 (by decide) ?_
    exact z_xr (z_mret B hAe hr dX6_text_32 rfl (by decide) (by decide) (by try rw [ejx]; exact ⟨(by first | rw [ifI_t zc16] | rw [ifI_f (not_not_intro zc16)]), rfl, khp2⟩))
theorem fw_X6_mark_X0 : zF wsX6_mark RX0 TX0 11 := fun _ h => List.mem_cons_of_mem _ (List.mem_append_left _ (List.mem_append_right _ (h)))
theorem fw_X6_mark_X6 : zF wsX6_mark RX6 TX6 6 := fun _ h => List.mem_cons_of_mem _ (List.mem_append_left _ (List.mem_append_left _ (List.mem_append_right _ (h))))
set_option maxHeartbeats 4000000 in
set_option maxRecDepth 100000 in
theorem cc_X6_mark (l : Launch) (D : va_G) (g : zG) (a : Nat → Nat) (C : zMS) (m : Nat) (hst : l.stackTraces = false) (hI : CI C) (x : Int32) : zThrI l yX6_mark wsX6_mark { frames := 7, cells := 1, slots := 6, locals := 103 } D (zT g) (wC g a C m) [.ref (a 0), .int (x)] (fun r w' => r = C 9 (nN x) ∧ w' = wC g a C m ∧ (rng x (cP C))) (fun E w' => w' = wC g a C m ∧ (E = "java/lang/IndexOutOfBoundsException" ∧ ¬ (rng x (cP C)))) 1 6 := by
  refine zThrI_of (cc := cX6_mark) (maxL := 2) (ret := (some .int)) (own := RX6) [(0, .ref (a 0)), (1, .int (x))] (by decide) rfl rfl rfl (Nat.le_of_ble_eq_true rfl) ?_
  intro X A hAe hl B hr hin htab hT
  obtain ⟨b19, b3, b6, b20, b22, b27, b0⟩ := CI_bs hI
  refine z_aload_n B 0 dX6_mark_0 rfl rfl ?_
  refine z_iload_n B 1 dX6_mark_1 rfl rfl ?_
  refine z_callTV (As := [.int (x)]) (st := []) (C := RX6) (T := TX6) (N := 6) (ci := 6) (l := l) B hAe hT htab hl (cc_X6_needPage l D g a C m hst hI x) gX6_mark_X6_needPage rfl ⟨rfl, rfl⟩ nm_X6_needPage ⟨by decide, by decide⟩ 0 rfl rfl rfl (Nat.le_of_ble_eq_true rfl) dX6_mark_2 rfl rfl (by decide) (by decide) (by decide) (by decide) (fun E w' h => by exact ⟨h.1, (⟨h.2.1, h.2.2⟩)⟩) (fun w1 hrr => ?_)
  obtain ⟨rfl, hp2⟩ := hrr
  have khp2 := hp2
  obtain ⟨jx, hjx, rfl⟩ := hp2
  have ejx : nN (nI jx) = jx := nN_nI (by omega)
  refine z_aload_n B 0 dX6_mark_5 rfl rfl ?_
  refine z_get (C := RX6) (T := TX6) (N := 6) (v := .ref (a 3)) B 0 2 1 fw_X6_mark_X6 rfl rfl (by decide) rfl rfl rfl dX6_mark_6 ?_
  refine z_get (C := RX0) (T := TX0) (N := 11) (v := .ref (a 12)) B 3 2 2 fw_X6_mark_X0 rfl rfl (by decide) rfl rfl rfl dX6_mark_9 ?_
  refine z_iload_n B 1 dX6_mark_12 rfl rfl ?_
  refine z_iald (g := (C 9)) (i := jx) B 12 0 rfl rfl (by omega) (by decide) dX6_mark_13 ?_
  exact z_xr (z_mret B hAe hr dX6_mark_14 rfl (by decide) (by decide) (by try rw [ejx]; exact ⟨(by exact rfl), rfl, khp2⟩))
theorem fw_X6_reversal_X0 : zF wsX6_reversal RX0 TX0 11 := fun _ h => List.mem_cons_of_mem _ (List.mem_append_left _ (List.mem_append_right _ (h)))
theorem fw_X6_reversal_X6 : zF wsX6_reversal RX6 TX6 6 := fun _ h => List.mem_cons_of_mem _ (List.mem_append_left _ (List.mem_append_left _ (List.mem_append_right _ (h))))
set_option maxHeartbeats 4000000 in
set_option maxRecDepth 100000 in
theorem cc_X6_reversal (l : Launch) (D : va_G) (g : zG) (a : Nat → Nat) (C : zMS) (m : Nat) (hst : l.stackTraces = false) (hI : CI C) (x : Int32) : zThrI l yX6_reversal wsX6_reversal { frames := 7, cells := 1, slots := 6, locals := 103 } D (zT g) (wC g a C m) [.ref (a 0), .int (x)] (fun r w' => r = C 12 (nN x) ∧ w' = wC g a C m ∧ (rng x (cP C))) (fun E w' => w' = wC g a C m ∧ (E = "java/lang/IndexOutOfBoundsException" ∧ ¬ (rng x (cP C)))) 1 6 := by
  refine zThrI_of (cc := cX6_reversal) (maxL := 2) (ret := (some .int)) (own := RX6) [(0, .ref (a 0)), (1, .int (x))] (by decide) rfl rfl rfl (Nat.le_of_ble_eq_true rfl) ?_
  intro X A hAe hl B hr hin htab hT
  obtain ⟨b19, b3, b6, b20, b22, b27, b0⟩ := CI_bs hI
  refine z_aload_n B 0 dX6_reversal_0 rfl rfl ?_
  refine z_iload_n B 1 dX6_reversal_1 rfl rfl ?_
  refine z_callTV (As := [.int (x)]) (st := []) (C := RX6) (T := TX6) (N := 6) (ci := 6) (l := l) B hAe hT htab hl (cc_X6_needPage l D g a C m hst hI x) gX6_reversal_X6_needPage rfl ⟨rfl, rfl⟩ nm_X6_needPage ⟨by decide, by decide⟩ 0 rfl rfl rfl (Nat.le_of_ble_eq_true rfl) dX6_reversal_2 rfl rfl (by decide) (by decide) (by decide) (by decide) (fun E w' h => by exact ⟨h.1, (⟨h.2.1, h.2.2⟩)⟩) (fun w1 hrr => ?_)
  obtain ⟨rfl, hp2⟩ := hrr
  have khp2 := hp2
  obtain ⟨jx, hjx, rfl⟩ := hp2
  have ejx : nN (nI jx) = jx := nN_nI (by omega)
  refine z_aload_n B 0 dX6_reversal_5 rfl rfl ?_
  refine z_get (C := RX6) (T := TX6) (N := 6) (v := .ref (a 3)) B 0 2 1 fw_X6_reversal_X6 rfl rfl (by decide) rfl rfl rfl dX6_reversal_6 ?_
  refine z_get (C := RX0) (T := TX0) (N := 11) (v := .ref (a 15)) B 3 5 2 fw_X6_reversal_X0 rfl rfl (by decide) rfl rfl rfl dX6_reversal_9 ?_
  refine z_iload_n B 1 dX6_reversal_12 rfl rfl ?_
  refine z_iald (g := (C 12)) (i := jx) B 15 0 rfl rfl (by omega) (by decide) dX6_reversal_13 ?_
  exact z_xr (z_mret B hAe hr dX6_reversal_14 rfl (by decide) (by decide) (by try rw [ejx]; exact ⟨(by exact rfl), rfl, khp2⟩))
theorem fw_X6_copies_X6 : zF wsX6_copies RX6 TX6 6 := fun _ h => List.mem_cons_of_mem _ (List.mem_append_left _ (List.mem_append_right _ (h)))
set_option maxHeartbeats 4000000 in
set_option maxRecDepth 100000 in
theorem cc_X6_copies (l : Launch) (D : va_G) (g : zG) (a : Nat → Nat) (C : zMS) (m : Nat) (hI : CI C) : zPure l yX6_copies wsX6_copies { frames := 1, cells := 0, slots := 0, locals := 22 } D (zT g) (wC g a C m) [.ref (a 0)] (fun r => r = nI (zcnt (fun k => C 28 k = 1) (cM C))) := by
  refine zPure_of (cc := cX6_copies) (maxL := 1) (ret := (some .int)) (own := RX6) [(0, .ref (a 0))] (by decide) rfl rfl rfl (Nat.le_of_ble_eq_true rfl) ?_
  intro X hl B hr
  obtain ⟨b19, b3, b6, b20, b22, b27, b0⟩ := CI_bs hI
  refine z_aload_n B 0 dX6_copies_0 rfl rfl ?_
  refine z_get (C := RX6) (T := TX6) (N := 6) (v := .ref (a 4)) B 0 3 1 fw_X6_copies_X6 rfl rfl (by decide) rfl rfl rfl dX6_copies_1 ?_
  refine z_callP (As := []) (st := []) (C := RX5) (T := TX5) (N := 2) (ci := 5) (l := l) B hl (cc_X5_countThere l D g a C m hI) gX6_copies_X5_countThere rfl ⟨rfl, rfl⟩ nm_X5_countThere ⟨by decide, by decide⟩ (fun _ h => h) 4 rfl rfl rfl (Nat.le_of_ble_eq_true rfl) dX6_copies_4 (Nat.zero_le _) (Nat.zero_le _) (fun r hr => ?_)
  subst hr
  exact z_pret B hr dX6_copies_7 rfl (by rfl)
theorem fw_X6_gaps_X6 : zF wsX6_gaps RX6 TX6 6 := fun _ h => List.mem_cons_of_mem _ (List.mem_append_left _ (List.mem_append_left _ (List.mem_append_right _ (h))))
set_option maxHeartbeats 4000000 in
set_option maxRecDepth 100000 in
theorem cc_X6_gaps (l : Launch) (D : va_G) (g : zG) (a : Nat → Nat) (C : zMS) (m : Nat) (hI : CI C) : zPure l yX6_gaps wsX6_gaps { frames := 3, cells := 0, slots := 0, locals := 64 } D (zT g) (wC g a C m) [.ref (a 0)] (fun r => r = nI (zcnt (fun p => cSt C p = 1) (cP C))) := by
  refine zPure_of (cc := cX6_gaps) (maxL := 1) (ret := (some .int)) (own := RX6) [(0, .ref (a 0))] (by decide) rfl rfl rfl (Nat.le_of_ble_eq_true rfl) ?_
  intro X hl B hr
  obtain ⟨b19, b3, b6, b20, b22, b27, b0⟩ := CI_bs hI
  refine z_aload_n B 0 dX6_gaps_0 rfl rfl ?_
  refine z_get (C := RX6) (T := TX6) (N := 6) (v := .ref (a 3)) B 0 2 1 fw_X6_gaps_X6 rfl rfl (by decide) rfl rfl rfl dX6_gaps_1 ?_
  refine z_callP (As := []) (st := []) (C := RX0) (T := TX0) (N := 11) (ci := 0) (l := l) B hl (cc_X0_countBurnt l D g a C m hI) gX6_gaps_X0_countBurnt rfl ⟨rfl, rfl⟩ nm_X0_countBurnt ⟨by decide, by decide⟩ (fun _ h => h) 3 rfl rfl rfl (Nat.le_of_ble_eq_true rfl) dX6_gaps_4 (Nat.zero_le _) (Nat.zero_le _) (fun r hr => ?_)
  subst hr
  exact z_pret B hr dX6_gaps_7 rfl (by rfl)
theorem fw_X6_open_X6 : zF wsX6_open RX6 TX6 6 := fun _ h => List.mem_cons_of_mem _ (List.mem_append_left _ (List.mem_append_left _ (List.mem_append_right _ (h))))
set_option maxHeartbeats 4000000 in
set_option maxRecDepth 100000 in
theorem cc_X6_open (l : Launch) (D : va_G) (g : zG) (a : Nat → Nat) (C : zMS) (m : Nat) (hst : l.stackTraces = false) (hI : CI C) : zThrI l yX6_open wsX6_open { frames := 6, cells := 1, slots := 6, locals := 82 } D (zT g) (wC g a C m) [.ref (a 0)] (fun r w' => r = nI (cK C) ∧ w' = wC g a (up2 (up2 C 21 (cK C) (nI 1)) 22 0 (nI (cK C + 1))) m ∧ (cK C < 8)) (fun E w' => w' = wC g a C m ∧ (E = "java/lang/IllegalStateException" ∧ ¬ (cK C < 8))) 1 6 := by
  refine zThrI_of (cc := cX6_open) (maxL := 1) (ret := (some .int)) (own := RX6) [(0, .ref (a 0))] (by decide) rfl rfl rfl (Nat.le_of_ble_eq_true rfl) ?_
  intro X A hAe hl B hr hin htab hT
  obtain ⟨b19, b3, b6, b20, b22, b27, b0⟩ := CI_bs hI
  refine z_aload_n B 0 dX6_open_0 rfl rfl ?_
  refine z_get (C := RX6) (T := TX6) (N := 6) (v := .ref (a 5)) B 0 4 3 fw_X6_open_X6 rfl rfl (by decide) rfl rfl rfl dX6_open_1 ?_
  refine z_callP (As := []) (st := []) (C := RX2) (T := TX2) (N := 7) (ci := 2) (l := l) B hl (cc_X2_isFull l D g a C m hI) gX6_open_X2_isFull rfl ⟨rfl, rfl⟩ nm_X2_isFull ⟨by decide, by decide⟩ (fun _ h => h) 5 rfl rfl rfl (Nat.le_of_ble_eq_true rfl) dX6_open_4 (by decide) (by decide) (fun r hr => ?_)
  subst hr
  refine z_ifB_eq B 20 dX6_open_7 (by decide) (fun zc7 => ?_) (fun zc7 => ?_)
  · refine z_aload_n B 0 dX6_open_20 rfl rfl ?_
    refine z_get (C := RX6) (T := TX6) (N := 6) (v := .ref (a 5)) B 0 4 3 fw_X6_open_X6 rfl rfl (by decide) rfl rfl rfl dX6_open_21 ?_
    refine z_callM (As := []) (st := []) (C := RX2) (T := TX2) (N := 7) (ci := 2) (l := l) B hl (cc_X2_openNext l D g a C m hI (by omega)) gX6_open_X2_openNext rfl ⟨rfl, rfl⟩ nm_X2_openNext ⟨by decide, by decide⟩ 5 rfl rfl rfl (Nat.le_of_ble_eq_true rfl) dX6_open_24 rfl rfl (by decide) (by decide) (fun r w1 hr => ?_)
    obtain ⟨rfl, rfl⟩ := hr
    exact z_xr (z_mret B hAe hr dX6_open_27 rfl (by decide) (by decide) (by exact ⟨(by exact rfl), rfl, (by omega)⟩))
  · have hng : ¬ (cK C < 8) := by omega
    refine z_throwS (B := B) (text := "8 cases were opened") hAe hT (by rw [hl]; exact hst) htab (by decide) (by decide) (List.mem_of_getElem? (i := 1) rfl) (List.mem_of_getElem? (i := 2) rfl) (fun _ h => List.mem_cons_of_mem _ (List.mem_append_right _ (h))) zngS zgdS (by decide) dX6_open_10 dX6_open_13 dX6_open_14 dX6_open_16 dX6_open_19 (by decide) (Nat.le_of_ble_eq_true rfl) (by decide) (by decide) (by decide) (by decide) ?_
    exact ⟨rfl, (⟨rfl, hng⟩)⟩
theorem fw_X6_holders_X6 : zF wsX6_holders RX6 TX6 6 := fun _ h => List.mem_cons_of_mem _ (List.mem_append_left _ (List.mem_append_left _ (List.mem_append_left _ (List.mem_append_right _ (h)))))
set_option maxHeartbeats 4000000 in
set_option maxRecDepth 100000 in
theorem cc_X6_holders (l : Launch) (D : va_G) (g : zG) (a : Nat → Nat) (C : zMS) (m : Nat) (hst : l.stackTraces = false) (hI : CI C) (x : Int32) : zThrI l yX6_holders wsX6_holders { frames := 7, cells := 1, slots := 6, locals := 103 } D (zT g) (wC g a C m) [.ref (a 0), .int (x)] (fun r w' => r = cHS C (nN x) ∧ w' = wC g a C m ∧ (rng x (cP C))) (fun E w' => w' = wC g a C m ∧ (E = "java/lang/IndexOutOfBoundsException" ∧ ¬ (rng x (cP C)))) 1 6 := by
  refine zThrI_of (cc := cX6_holders) (maxL := 2) (ret := (some .int)) (own := RX6) [(0, .ref (a 0)), (1, .int (x))] (by decide) rfl rfl rfl (Nat.le_of_ble_eq_true rfl) ?_
  intro X A hAe hl B hr hin htab hT
  obtain ⟨b19, b3, b6, b20, b22, b27, b0⟩ := CI_bs hI
  refine z_aload_n B 0 dX6_holders_0 rfl rfl ?_
  refine z_iload_n B 1 dX6_holders_1 rfl rfl ?_
  refine z_callTV (As := [.int (x)]) (st := []) (C := RX6) (T := TX6) (N := 6) (ci := 6) (l := l) B hAe hT htab hl (cc_X6_needPage l D g a C m hst hI x) gX6_holders_X6_needPage rfl ⟨rfl, rfl⟩ nm_X6_needPage ⟨by decide, by decide⟩ 0 rfl rfl rfl (Nat.le_of_ble_eq_true rfl) dX6_holders_2 rfl rfl (by decide) (by decide) (by decide) (by decide) (fun E w' h => by exact ⟨h.1, (⟨h.2.1, h.2.2⟩)⟩) (fun w1 hrr => ?_)
  obtain ⟨rfl, hp2⟩ := hrr
  have khp2 := hp2
  obtain ⟨jx, hjx, rfl⟩ := hp2
  have ejx : nN (nI jx) = jx := nN_nI (by omega)
  refine z_aload_n B 0 dX6_holders_5 rfl rfl ?_
  refine z_get (C := RX6) (T := TX6) (N := 6) (v := .ref (a 5)) B 0 4 1 fw_X6_holders_X6 rfl rfl (by decide) rfl rfl rfl dX6_holders_6 ?_
  refine z_aload_n B 0 dX6_holders_9 rfl rfl ?_
  refine z_get (C := RX6) (T := TX6) (N := 6) (v := .ref (a 3)) B 0 2 2 fw_X6_holders_X6 rfl rfl (by decide) rfl rfl rfl dX6_holders_10 ?_
  refine z_iload_n B 1 dX6_holders_13 rfl rfl ?_
  refine z_callP (As := [.ref (a 3), .int (nI (jx))]) (st := []) (C := RX2) (T := TX2) (N := 7) (ci := 2) (l := l) B hl (cc_X2_holdersOf l D g a C m hI jx (by omega)) gX6_holders_X2_holdersOf rfl ⟨rfl, rfl⟩ nm_X2_holdersOf ⟨by decide, by decide⟩ (fun _ h => h) 5 rfl rfl rfl (Nat.le_of_ble_eq_true rfl) dX6_holders_14 (by decide) (by decide) (fun r hr => ?_)
  subst hr
  exact z_xr (z_mret B hAe hr dX6_holders_17 rfl (by decide) (by decide) (by try rw [ejx]; exact ⟨(by exact rfl), rfl, khp2⟩))
theorem fw_X6_copiesOf_X6 : zF wsX6_copiesOf RX6 TX6 6 := fun _ h => List.mem_cons_of_mem _ (List.mem_append_left _ (List.mem_append_left _ (List.mem_append_left _ (List.mem_append_left _ (List.mem_append_left _ (List.mem_append_right _ (h)))))))
set_option maxHeartbeats 4000000 in
set_option maxRecDepth 100000 in
theorem cc_X6_copiesOf (l : Launch) (D : va_G) (g : zG) (a : Nat → Nat) (C : zMS) (m : Nat) (hst : l.stackTraces = false) (hI : CI C) (hm : 4 * cM C ≤ m) (x : Int32) : zThrI l yX6_copiesOf wsX6_copiesOf { frames := 7, cells := 1, slots := 6, locals := 103 } D (zT g) (wC g a C m) [.ref (a 0), .int (x)] (fun r w' => r = nI (cCF C (nN x)) ∧ w' = wC g a C m ∧ (rng x (cP C))) (fun E w' => w' = wC g a C m ∧ (E = "java/lang/IndexOutOfBoundsException" ∧ ¬ (rng x (cP C)))) 1 6 := by
  refine zThrI_of (cc := cX6_copiesOf) (maxL := 2) (ret := (some .int)) (own := RX6) [(0, .ref (a 0)), (1, .int (x))] (by decide) rfl rfl rfl (Nat.le_of_ble_eq_true rfl) ?_
  intro X A hAe hl B hr hin htab hT
  obtain ⟨b19, b3, b6, b20, b22, b27, b0⟩ := CI_bs hI
  refine z_aload_n B 0 dX6_copiesOf_0 rfl rfl ?_
  refine z_iload_n B 1 dX6_copiesOf_1 rfl rfl ?_
  refine z_callTV (As := [.int (x)]) (st := []) (C := RX6) (T := TX6) (N := 6) (ci := 6) (l := l) B hAe hT htab hl (cc_X6_needPage l D g a C m hst hI x) gX6_copiesOf_X6_needPage rfl ⟨rfl, rfl⟩ nm_X6_needPage ⟨by decide, by decide⟩ 0 rfl rfl rfl (Nat.le_of_ble_eq_true rfl) dX6_copiesOf_2 rfl rfl (by decide) (by decide) (by decide) (by decide) (fun E w' h => by exact ⟨h.1, (⟨h.2.1, h.2.2⟩)⟩) (fun w1 hrr => ?_)
  obtain ⟨rfl, hp2⟩ := hrr
  have khp2 := hp2
  obtain ⟨jx, hjx, rfl⟩ := hp2
  have ejx : nN (nI jx) = jx := nN_nI (by omega)
  refine z_aload_n B 0 dX6_copiesOf_5 rfl rfl ?_
  refine z_get (C := RX6) (T := TX6) (N := 6) (v := .ref (a 4)) B 0 3 1 fw_X6_copiesOf_X6 rfl rfl (by decide) rfl rfl rfl dX6_copiesOf_6 ?_
  refine z_iload_n B 1 dX6_copiesOf_9 rfl rfl ?_
  refine z_callP (As := [.int (nI (jx))]) (st := []) (C := RX5) (T := TX5) (N := 2) (ci := 5) (l := l) B hl (cc_X5_countFilled l D g a C m hI hm jx (by omega)) gX6_copiesOf_X5_countFilled rfl ⟨rfl, rfl⟩ nm_X5_countFilled ⟨by decide, by decide⟩ (fun _ h => h) 4 rfl rfl rfl (Nat.le_of_ble_eq_true rfl) dX6_copiesOf_10 (by decide) (by decide) (fun r hr => ?_)
  subst hr
  exact z_xr (z_mret B hAe hr dX6_copiesOf_13 rfl (by decide) (by decide) (by try rw [ejx]; exact ⟨(by exact rfl), rfl, khp2⟩))
theorem fw_X6_size_X1 : zF wsX6_size RX1 TX1 5 := fun _ h => List.mem_cons_of_mem _ (List.mem_append_left _ (List.mem_append_left _ (List.mem_append_left _ (List.mem_append_right _ (h)))))
set_option maxHeartbeats 4000000 in
set_option maxRecDepth 100000 in
theorem cc_X6_size (l : Launch) (D : va_G) (g : zG) (a : Nat → Nat) (C : zMS) (m : Nat) (hst : l.stackTraces = false) (hI : CI C) (hm : 4 * cM C ≤ m) (hJ : CJ C) (x : Int32) : zThrI l yX6_size wsX6_size { frames := 7, cells := 1, slots := 6, locals := 104 } D (zT g) (wC g a C m) [.ref (a 0), .int (x)] (fun r w' => r = nI (cE C (nN x) - cF C (nN x)) ∧ w' = wC g a C m ∧ (cCx C x)) (fun E w' => w' = wC g a C m ∧ (E = "java/lang/IndexOutOfBoundsException" ∧ ¬ (cCx C x))) 1 6 := by
  refine zThrI_of (cc := cX6_size) (maxL := 3) (ret := (some .int)) (own := RX6) [(0, .ref (a 0)), (1, .int (x))] (by decide) rfl rfl rfl (Nat.le_of_ble_eq_true rfl) ?_
  intro X A hAe hl B hr hin htab hT
  obtain ⟨b19, b3, b6, b20, b22, b27, b0⟩ := CI_bs hI
  refine z_aload_n B 0 dX6_size_0 rfl rfl ?_
  refine z_iload_n B 1 dX6_size_1 rfl rfl ?_
  refine z_callTQ (As := [.int (x)]) (st := []) (C := RX6) (T := TX6) (N := 6) (ci := 6) (l := l) B hAe hT htab hl (cc_X6_needCopy l D g a C m hst hI x) gX6_size_X6_needCopy rfl ⟨rfl, rfl⟩ nm_X6_needCopy ⟨by decide, by decide⟩ 0 rfl rfl rfl (Nat.le_of_ble_eq_true rfl) dX6_size_2 rfl rfl (by decide) (by decide) (by decide) (by decide) (fun E w' h => by exact ⟨h.1, (⟨h.2.1, h.2.2⟩)⟩) (fun r w1 hrr => ?_)
  obtain ⟨rfl, jx, rfl, hjx, h1jx, rfl⟩ := hrr
  have ejx : nN (nI jx) = jx := nN_nI (by omega)
  have khp2 : cCx C (nI jx) := ⟨jx, rfl, hjx, h1jx⟩
  refine z_topv (y := .ref (a (30 + 4 * jx))) rfl ?_
  refine z_astore_n (lv1 := [(2, .ref (a (30 + 4 * jx))), (0, .ref (a 0)), (1, .int (nI (jx)))]) B dX6_size_5 rfl (by decide) rfl ?_
  refine z_aload_n B 0 dX6_size_6 rfl rfl ?_
  refine z_get (C := RX1) (T := TX1) (N := 5) (v := .int (C (42 + 8 * jx) 0)) B (30 + 4 * jx) 3 1 fw_X6_size_X1 (wC_c0 (by omega)) rfl (by decide) rfl rfl rfl dX6_size_7 ?_
  refine z_top (y := nI (cE C jx)) (CI_42 (C := C) hI jx) ?_
  refine z_aload_n B 0 dX6_size_10 rfl rfl ?_
  refine z_get (C := RX1) (T := TX1) (N := 5) (v := .int (C (41 + 8 * jx) 0)) B (30 + 4 * jx) 2 2 fw_X6_size_X1 (wC_c0 (by omega)) rfl (by decide) rfl rfl rfl dX6_size_11 ?_
  refine z_top (y := nI (cF C jx)) (CI_41 (C := C) hI jx) ?_
  have hfe := (hJ.2 jx hjx).1
  refine z_isubN B dX6_size_14 (by omega) ?_
  exact z_xr (z_mret B hAe hr dX6_size_15 rfl (by decide) (by decide) (by try rw [ejx]; exact ⟨(by exact rfl), rfl, khp2⟩))
theorem fw_X6_isInVault_X1 : zF wsX6_isInVault RX1 TX1 5 := fun _ h => List.mem_cons_of_mem _ (List.mem_append_left _ (List.mem_append_left _ (List.mem_append_left _ (List.mem_append_right _ (h)))))
set_option maxHeartbeats 4000000 in
set_option maxRecDepth 100000 in
theorem cc_X6_isInVault (l : Launch) (D : va_G) (g : zG) (a : Nat → Nat) (C : zMS) (m : Nat) (hst : l.stackTraces = false) (hI : CI C) (hm : 4 * cM C ≤ m) (x : Int32) : zThrI l yX6_isInVault wsX6_isInVault { frames := 7, cells := 1, slots := 6, locals := 104 } D (zT g) (wC g a C m) [.ref (a 0), .int (x)] (fun r w' => r = C (43 + 8 * nN x) 0 ∧ w' = wC g a C m ∧ (cCx C x)) (fun E w' => w' = wC g a C m ∧ (E = "java/lang/IndexOutOfBoundsException" ∧ ¬ (cCx C x))) 1 6 := by
  refine zThrI_of (cc := cX6_isInVault) (maxL := 3) (ret := (some .boolean)) (own := RX6) [(0, .ref (a 0)), (1, .int (x))] (by decide) rfl rfl rfl (Nat.le_of_ble_eq_true rfl) ?_
  intro X A hAe hl B hr hin htab hT
  obtain ⟨b19, b3, b6, b20, b22, b27, b0⟩ := CI_bs hI
  refine z_aload_n B 0 dX6_isInVault_0 rfl rfl ?_
  refine z_iload_n B 1 dX6_isInVault_1 rfl rfl ?_
  refine z_callTQ (As := [.int (x)]) (st := []) (C := RX6) (T := TX6) (N := 6) (ci := 6) (l := l) B hAe hT htab hl (cc_X6_needCopy l D g a C m hst hI x) gX6_isInVault_X6_needCopy rfl ⟨rfl, rfl⟩ nm_X6_needCopy ⟨by decide, by decide⟩ 0 rfl rfl rfl (Nat.le_of_ble_eq_true rfl) dX6_isInVault_2 rfl rfl (by decide) (by decide) (by decide) (by decide) (fun E w' h => by exact ⟨h.1, (⟨h.2.1, h.2.2⟩)⟩) (fun r w1 hrr => ?_)
  obtain ⟨rfl, jx, rfl, hjx, h1jx, rfl⟩ := hrr
  have ejx : nN (nI jx) = jx := nN_nI (by omega)
  have khp2 : cCx C (nI jx) := ⟨jx, rfl, hjx, h1jx⟩
  refine z_topv (y := .ref (a (30 + 4 * jx))) rfl ?_
  refine z_astore_n (lv1 := [(2, .ref (a (30 + 4 * jx))), (0, .ref (a 0)), (1, .int (nI (jx)))]) B dX6_isInVault_5 rfl (by decide) rfl ?_
  refine z_aload_n B 0 dX6_isInVault_6 rfl rfl ?_
  refine z_get (C := RX1) (T := TX1) (N := 5) (v := .int (C (43 + 8 * jx) 0)) B (30 + 4 * jx) 4 1 fw_X6_isInVault_X1 (wC_c0 (by omega)) rfl (by decide) rfl rfl rfl dX6_isInVault_7 ?_
  exact z_xr (z_mret B hAe hr dX6_isInVault_10 (nar_b (CI_z43 (C := C) hI _)) (by decide) (by decide) (by try rw [ejx]; exact ⟨(by exact rfl), rfl, khp2⟩))
set_option maxHeartbeats 4000000 in
set_option maxRecDepth 100000 in
theorem cc_X6_canRestore (l : Launch) (D : va_G) (g : zG) (a : Nat → Nat) (C : zMS) (m : Nat) (hst : l.stackTraces = false) (hI : CI C) (hm : 4 * cM C ≤ m) (hJ : CJ C) (x : Int32) : zThrI l yX6_canRestore wsX6_canRestore { frames := 7, cells := 1, slots := 6, locals := 104 } D (zT g) (wC g a C m) [.ref (a 0), .int (x)] (fun r w' => r = bI (cWh C (nN x)) ∧ w' = wC g a C m ∧ (cCx C x)) (fun E w' => w' = wC g a C m ∧ (E = "java/lang/IndexOutOfBoundsException" ∧ ¬ (cCx C x))) 1 6 := by
  refine zThrI_of (cc := cX6_canRestore) (maxL := 3) (ret := (some .boolean)) (own := RX6) [(0, .ref (a 0)), (1, .int (x))] (by decide) rfl rfl rfl (Nat.le_of_ble_eq_true rfl) ?_
  intro X A hAe hl B hr hin htab hT
  obtain ⟨b19, b3, b6, b20, b22, b27, b0⟩ := CI_bs hI
  refine z_aload_n B 0 dX6_canRestore_0 rfl rfl ?_
  refine z_iload_n B 1 dX6_canRestore_1 rfl rfl ?_
  refine z_callTQ (As := [.int (x)]) (st := []) (C := RX6) (T := TX6) (N := 6) (ci := 6) (l := l) B hAe hT htab hl (cc_X6_needCopy l D g a C m hst hI x) gX6_canRestore_X6_needCopy rfl ⟨rfl, rfl⟩ nm_X6_needCopy ⟨by decide, by decide⟩ 0 rfl rfl rfl (Nat.le_of_ble_eq_true rfl) dX6_canRestore_2 rfl rfl (by decide) (by decide) (by decide) (by decide) (fun E w' h => by exact ⟨h.1, (⟨h.2.1, h.2.2⟩)⟩) (fun r w1 hrr => ?_)
  obtain ⟨rfl, jx, rfl, hjx, h1jx, rfl⟩ := hrr
  have ejx : nN (nI jx) = jx := nN_nI (by omega)
  have khp2 : cCx C (nI jx) := ⟨jx, rfl, hjx, h1jx⟩
  refine z_topv (y := .ref (a (30 + 4 * jx))) rfl ?_
  refine z_astore_n (lv1 := [(2, .ref (a (30 + 4 * jx))), (0, .ref (a 0)), (1, .int (nI (jx)))]) B dX6_canRestore_5 rfl (by decide) rfl ?_
  refine z_aload_n B 0 dX6_canRestore_6 rfl rfl ?_
  refine z_callP (As := []) (st := []) (C := RX1) (T := TX1) (N := 5) (ci := 1) (l := l) B hl (cc_X1_isChainInVault l D g a C m hI hm hJ jx hjx) gX6_canRestore_X1_isChainInVault rfl ⟨rfl, rfl⟩ nm_X1_isChainInVault ⟨by decide, by decide⟩ (fun _ h => h) (30 + 4 * jx) (wC_c0 (by omega)) rfl rfl (Nat.le_of_ble_eq_true rfl) dX6_canRestore_7 (by decide) (by decide) (fun r hr => ?_)
  subst hr
  exact z_xr (z_mret B hAe hr dX6_canRestore_10 (nar_b (bI_or _)) (by decide) (by decide) (by try rw [ejx]; exact ⟨(by exact rfl), rfl, khp2⟩))
