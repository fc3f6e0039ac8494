theorem fw_X6_needPage_X0 : zF wsX6_needPage RX0 TX0 11 := fun _ h => List.mem_cons_of_mem _ (List.mem_append_left _ (List.mem_append_right _ (h)))
theorem fw_X6_needPage_X6 : zF wsX6_needPage RX6 TX6 6 := fun _ h => List.mem_cons_of_mem _ (List.mem_append_left _ (List.mem_append_left _ (List.mem_append_right _ (h))))
set_option maxHeartbeats 4000000 in
set_option maxRecDepth 100000 in
theorem cc_X6_needPage (l : Launch) (D : va_G) (g : zG) (a : Nat → Nat) (C : zMS) (m : Nat) (hst : l.stackTraces = false) (hI : CI C) (x : Int32) : zThrV l yX6_needPage wsX6_needPage { frames := 6, cells := 1, slots := 6, locals := 82 } D (zT g) (wC g a C m) [.ref (a 0), .int (x)] (fun w' => w' = wC g a C m ∧ (rng x (cP C))) (fun E w' => w' = wC g a C m ∧ (E = "java/lang/IndexOutOfBoundsException" ∧ ¬ (rng x (cP C)))) 1 6 := by
  refine zThrV_of (cc := cX6_needPage) (maxL := 2) (ret := none) (own := RX6) [(0, .ref (a 0)), (1, .int (x))] (by decide) rfl rfl rfl (Nat.le_of_ble_eq_true rfl) ?_
  intro X A hAe hl B hr hin htab hT
  obtain ⟨b19, b3, b6, b20, b22, b27, b0⟩ := CI_bs hI
  refine z_iload_n B 1 dX6_needPage_0 rfl rfl ?_
  refine z_if_lt B 15 dX6_needPage_1 (by decide) (fun zc1 => ?_) (fun zc1 => ?_)
  · have hng : ¬ (rng x (cP C)) := by first | exact rng_lt0 (by omega) zc1 | exact rng_ge (by omega) zc12
    refine z_throwSW (B := B) (text := "no such page") hAe hT (by rw [hl]; exact hst) htab (by decide) (by decide) (List.mem_of_getElem? (i := 1) rfl) (List.mem_of_getElem? (i := 2) rfl) (fun _ h => List.mem_cons_of_mem _ (List.mem_append_right _ (h))) zngB zgdB (by decide) dX6_needPage_15 dX6_needPage_18 dX6_needPage_19 dX6_needPage_22 dX6_needPage_25 (by decide) (Nat.le_of_ble_eq_true rfl) (by decide) (by decide) (by decide) (by decide) ?_
    exact ⟨rfl, (⟨rfl, hng⟩)⟩
  · refine z_iload_n B 1 dX6_needPage_4 rfl rfl ?_
    refine z_aload_n B 0 dX6_needPage_5 rfl rfl ?_
    refine z_get (C := RX6) (T := TX6) (N := 6) (v := .ref (a 3)) B 0 2 3 fw_X6_needPage_X6 rfl rfl (by decide) rfl rfl rfl dX6_needPage_6 ?_
    refine z_get (C := RX0) (T := TX0) (N := 11) (v := .int (C 19 0)) B 3 10 4 fw_X6_needPage_X0 rfl rfl (by decide) rfl rfl rfl dX6_needPage_9 ?_
    refine z_top (y := nI (cP C)) (CI_19 (C := C) hI) ?_
    refine z_icmp_lt B 26 dX6_needPage_12 (by decide) (fun zc12 => ?_) (fun zc12 => ?_)
    · exact z_xr (z_vret B hAe hr dX6_needPage_26 (by decide) (by decide) (by exact ⟨rfl, (i_rng (n := cP C) (by omega) zc1 (Int32.not_le.mpr zc12))⟩))
    · have hng : ¬ (rng x (cP C)) := by first | exact rng_lt0 (by omega) zc1 | exact rng_ge (by omega) zc12
      refine z_throwSW (B := B) (text := "no such page") hAe hT (by rw [hl]; exact hst) htab (by decide) (by decide) (List.mem_of_getElem? (i := 1) rfl) (List.mem_of_getElem? (i := 2) rfl) (fun _ h => List.mem_cons_of_mem _ (List.mem_append_right _ (h))) zngB zgdB (by decide) dX6_needPage_15 dX6_needPage_18 dX6_needPage_19 dX6_needPage_22 dX6_needPage_25 (by decide) (Nat.le_of_ble_eq_true rfl) (by decide) (by decide) (by decide) (by decide) ?_
      exact ⟨rfl, (⟨rfl, hng⟩)⟩
set_option maxHeartbeats 4000000 in
set_option maxRecDepth 100000 in
theorem cc_X6_needAccount (l : Launch) (D : va_G) (g : zG) (a : Nat → Nat) (C : zMS) (m : Nat) (hst : l.stackTraces = false) (hI : CI C) (x : Int32) : zThrV l yX6_needAccount wsX6_needAccount { frames := 6, cells := 1, slots := 6, locals := 82 } D (zT g) (wC g a C m) [.int (x)] (fun w' => w' = wC g a C m ∧ (rng x 8)) (fun E w' => w' = wC g a C m ∧ (E = "java/lang/IndexOutOfBoundsException" ∧ ¬ (rng x 8))) 1 6 := by
  refine zThrV_of (cc := cX6_needAccount) (maxL := 1) (ret := none) (own := RX6) [(0, .int (x))] (by decide) rfl rfl rfl (Nat.le_of_ble_eq_true rfl) ?_
  intro X A hAe hl B hr hin htab hT
  obtain ⟨b19, b3, b6, b20, b22, b27, b0⟩ := CI_bs hI
  refine z_iload_n B 0 dX6_needAccount_0 rfl rfl ?_
  refine z_if_lt B 10 dX6_needAccount_1 (by decide) (fun zc1 => ?_) (fun zc1 => ?_)
  · have hng : ¬ (rng x 8) := by first | exact rng_lt0 (by omega) zc1 | exact rng_ge (by omega) zc7
    refine z_throwSW (B := B) (text := "no such account") hAe hT (by rw [hl]; exact hst) htab (by decide) (by decide) (List.mem_of_getElem? (i := 1) rfl) (List.mem_of_getElem? (i := 2) rfl) (fun _ h => List.mem_cons_of_mem _ (List.mem_append_right _ (h))) zngB zgdB (by decide) dX6_needAccount_10 dX6_needAccount_13 dX6_needAccount_14 dX6_needAccount_17 dX6_needAccount_20 (by decide) (Nat.le_of_ble_eq_true rfl) (by decide) (by decide) (by decide) (by decide) ?_
    exact ⟨rfl, (⟨rfl, hng⟩)⟩
  · refine z_iload_n B 0 dX6_needAccount_4 rfl rfl ?_
    refine z_bipush (v := nI 8) B dX6_needAccount_5 (by decide) ?_
    refine z_icmp_lt B 21 dX6_needAccount_7 (by decide) (fun zc7 => ?_) (fun zc7 => ?_)
    · exact z_xr (z_vret B hAe hr dX6_needAccount_21 (by decide) (by decide) (by exact ⟨rfl, (i_rng (n := 8) (by omega) zc1 (Int32.not_le.mpr zc7))⟩))
    · have hng : ¬ (rng x 8) := by first | exact rng_lt0 (by omega) zc1 | exact rng_ge (by omega) zc7
      refine z_throwSW (B := B) (text := "no such account") hAe hT (by rw [hl]; exact hst) htab (by decide) (by decide) (List.mem_of_getElem? (i := 1) rfl) (List.mem_of_getElem? (i := 2) rfl) (fun _ h => List.mem_cons_of_mem _ (List.mem_append_right _ (h))) zngB zgdB (by decide) dX6_needAccount_10 dX6_needAccount_13 dX6_needAccount_14 dX6_needAccount_17 dX6_needAccount_20 (by decide) (Nat.le_of_ble_eq_true rfl) (by decide) (by decide) (by decide) (by decide) ?_
      exact ⟨rfl, (⟨rfl, hng⟩)⟩
theorem fw_X6_needCase_X2 : zF wsX6_needCase RX2 TX2 7 := fun _ h => List.mem_cons_of_mem _ (List.mem_append_left _ (List.mem_append_right _ (h)))
theorem fw_X6_needCase_X6 : zF wsX6_needCase RX6 TX6 6 := fun _ h => List.mem_cons_of_mem _ (List.mem_append_left _ (List.mem_append_left _ (List.mem_append_right _ (h))))
set_option maxHeartbeats 4000000 in
set_option maxRecDepth 100000 in
theorem cc_X6_needCase (l : Launch) (D : va_G) (g : zG) (a : Nat → Nat) (C : zMS) (m : Nat) (hst : l.stackTraces = false) (hI : CI C) (x : Int32) : zThrV l yX6_needCase wsX6_needCase { frames := 6, cells := 1, slots := 6, locals := 82 } D (zT g) (wC g a C m) [.ref (a 0), .int (x)] (fun w' => w' = wC g a C m ∧ (rng x (cK C))) (fun E w' => w' = wC g a C m ∧ (E = "java/lang/IndexOutOfBoundsException" ∧ ¬ (rng x (cK C)))) 1 6 := by
  refine zThrV_of (cc := cX6_needCase) (maxL := 2) (ret := none) (own := RX6) [(0, .ref (a 0)), (1, .int (x))] (by decide) rfl rfl rfl (Nat.le_of_ble_eq_true rfl) ?_
  intro X A hAe hl B hr hin htab hT
  obtain ⟨b19, b3, b6, b20, b22, b27, b0⟩ := CI_bs hI
  refine z_iload_n B 1 dX6_needCase_0 rfl rfl ?_
  refine z_if_lt B 15 dX6_needCase_1 (by decide) (fun zc1 => ?_) (fun zc1 => ?_)
  · have hng : ¬ (rng x (cK C)) := by first | exact rng_lt0 (by omega) zc1 | exact rng_ge (by omega) zc12
    refine z_throwSW (B := B) (text := "no such case") hAe hT (by rw [hl]; exact hst) htab (by decide) (by decide) (List.mem_of_getElem? (i := 1) rfl) (List.mem_of_getElem? (i := 2) rfl) (fun _ h => List.mem_cons_of_mem _ (List.mem_append_right _ (h))) zngB zgdB (by decide) dX6_needCase_15 dX6_needCase_18 dX6_needCase_19 dX6_needCase_22 dX6_needCase_25 (by decide) (Nat.le_of_ble_eq_true rfl) (by decide) (by decide) (by decide) (by decide) ?_
    exact ⟨rfl, (⟨rfl, hng⟩)⟩
  · refine z_iload_n B 1 dX6_needCase_4 rfl rfl ?_
    refine z_aload_n B 0 dX6_needCase_5 rfl rfl ?_
    refine z_get (C := RX6) (T := TX6) (N := 6) (v := .ref (a 5)) B 0 4 3 fw_X6_needCase_X6 rfl rfl (by decide) rfl rfl rfl dX6_needCase_6 ?_
    refine z_get (C := RX2) (T := TX2) (N := 7) (v := .int (C 22 0)) B 5 1 4 fw_X6_needCase_X2 rfl rfl (by decide) rfl rfl rfl dX6_needCase_9 ?_
    refine z_top (y := nI (cK C)) (CI_22 (C := C) hI) ?_
    refine z_icmp_lt B 26 dX6_needCase_12 (by decide) (fun zc12 => ?_) (fun zc12 => ?_)
    · exact z_xr (z_vret B hAe hr dX6_needCase_26 (by decide) (by decide) (by exact ⟨rfl, (i_rng (n := cK C) (by omega) zc1 (Int32.not_le.mpr zc12))⟩))
    · have hng : ¬ (rng x (cK C)) := by first | exact rng_lt0 (by omega) zc1 | exact rng_ge (by omega) zc12
      refine z_throwSW (B := B) (text := "no such case") hAe hT (by rw [hl]; exact hst) htab (by decide) (by decide) (List.mem_of_getElem? (i := 1) rfl) (List.mem_of_getElem? (i := 2) rfl) (fun _ h => List.mem_cons_of_mem _ (List.mem_append_right _ (h))) zngB zgdB (by decide) dX6_needCase_15 dX6_needCase_18 dX6_needCase_19 dX6_needCase_22 dX6_needCase_25 (by decide) (Nat.le_of_ble_eq_true rfl) (by decide) (by decide) (by decide) (by decide) ?_
      exact ⟨rfl, (⟨rfl, hng⟩)⟩
set_option maxHeartbeats 4000000 in
set_option maxRecDepth 100000 in
theorem cc_X6_needAmount (l : Launch) (D : va_G) (g : zG) (a : Nat → Nat) (C : zMS) (m : Nat) (hst : l.stackTraces = false) (hI : CI C) (x : Int32) : zThrV l yX6_needAmount wsX6_needAmount { frames := 6, cells := 1, slots := 6, locals := 82 } D (zT g) (wC g a C m) [.int (x)] (fun w' => w' = wC g a C m ∧ ((-10000) ≤ x ∧ x ≤ nI (10000))) (fun E w' => w' = wC g a C m ∧ (E = "java/lang/IllegalArgumentException" ∧ ¬ ((-10000) ≤ x ∧ x ≤ nI (10000)))) 1 6 := by
  refine zThrV_of (cc := cX6_needAmount) (maxL := 1) (ret := none) (own := RX6) [(0, .int (x))] (by decide) rfl rfl rfl (Nat.le_of_ble_eq_true rfl) ?_
  intro X A hAe hl B hr hin htab hT
  obtain ⟨b19, b3, b6, b20, b22, b27, b0⟩ := CI_bs hI
  refine z_iload_n B 0 dX6_needAmount_0 rfl rfl ?_
  refine z_sipush (v := (-10000)) B dX6_needAmount_1 (by decide) ?_
  refine z_icmp_lt B 14 dX6_needAmount_4 (by decide) (fun zc4 => ?_) (fun zc4 => ?_)
  · have hng : ¬ ((-10000) ≤ x ∧ x ≤ nI (10000)) := by first | exact fun h => absurd zc4 (Int32.not_lt.mpr h.1) | exact fun h => zc11 h.2
    refine z_throwSW (B := B) (text := "an amount is -10000 to 10000") hAe hT (by rw [hl]; exact hst) htab (by decide) (by decide) (List.mem_of_getElem? (i := 1) rfl) (List.mem_of_getElem? (i := 2) rfl) (fun _ h => List.mem_cons_of_mem _ (List.mem_append_right _ (h))) zngA zgdA (by decide) dX6_needAmount_14 dX6_needAmount_17 dX6_needAmount_18 dX6_needAmount_21 dX6_needAmount_24 (by decide) (Nat.le_of_ble_eq_true rfl) (by decide) (by decide) (by decide) (by decide) ?_
    exact ⟨rfl, (⟨rfl, hng⟩)⟩
  · refine z_iload_n B 0 dX6_needAmount_7 rfl rfl ?_
    refine z_sipush (v := nI 10000) B dX6_needAmount_8 (by decide) ?_
    refine z_icmp_le B 25 dX6_needAmount_11 (by decide) (fun zc11 => ?_) (fun zc11 => ?_)
    · exact z_xr (z_vret B hAe hr dX6_needAmount_25 (by decide) (by decide) (by exact ⟨rfl, (⟨i_nlt zc4, zc11⟩)⟩))
    · have hng : ¬ ((-10000) ≤ x ∧ x ≤ nI (10000)) := by first | exact fun h => absurd zc4 (Int32.not_lt.mpr h.1) | exact fun h => zc11 h.2
      refine z_throwSW (B := B) (text := "an amount is -10000 to 10000") hAe hT (by rw [hl]; exact hst) htab (by decide) (by decide) (List.mem_of_getElem? (i := 1) rfl) (List.mem_of_getElem? (i := 2) rfl) (fun _ h => List.mem_cons_of_mem _ (List.mem_append_right _ (h))) zngA zgdA (by decide) dX6_needAmount_14 dX6_needAmount_17 dX6_needAmount_18 dX6_needAmount_21 dX6_needAmount_24 (by decide) (Nat.le_of_ble_eq_true rfl) (by decide) (by decide) (by decide) (by decide) ?_
      exact ⟨rfl, (⟨rfl, hng⟩)⟩
set_option maxHeartbeats 4000000 in
set_option maxRecDepth 100000 in
theorem cc_X6_needText (l : Launch) (D : va_G) (g : zG) (a : Nat → Nat) (C : zMS) (m : Nat) (hst : l.stackTraces = false) (hI : CI C) (x : Int32) : zThrV l yX6_needText wsX6_needText { frames := 6, cells := 1, slots := 6, locals := 82 } D (zT g) (wC g a C m) [.int (x)] (fun w' => w' = wC g a C m ∧ (rng x 10000)) (fun E w' => w' = wC g a C m ∧ (E = "java/lang/IllegalArgumentException" ∧ ¬ (rng x 10000))) 1 6 := by
  refine zThrV_of (cc := cX6_needText) (maxL := 1) (ret := none) (own := RX6) [(0, .int (x))] (by decide) rfl rfl rfl (Nat.le_of_ble_eq_true rfl) ?_
  intro X A hAe hl B hr hin htab hT
  obtain ⟨b19, b3, b6, b20, b22, b27, b0⟩ := CI_bs hI
  refine z_iload_n B 0 dX6_needText_0 rfl rfl ?_
  refine z_if_lt B 11 dX6_needText_1 (by decide) (fun zc1 => ?_) (fun zc1 => ?_)
  · have hng : ¬ (rng x 10000) := by first | exact rng_lt0 (by omega) zc1 | exact fun h => zc8 ((rng_in' (n := 9999) (by decide)).mpr h).2
    refine z_throwSW (B := B) (text := "a text is 0 to 9999") hAe hT (by rw [hl]; exact hst) htab (by decide) (by decide) (List.mem_of_getElem? (i := 1) rfl) (List.mem_of_getElem? (i := 2) rfl) (fun _ h => List.mem_cons_of_mem _ (List.mem_append_right _ (h))) zngA zgdA (by decide) dX6_needText_11 dX6_needText_14 dX6_needText_15 dX6_needText_18 dX6_needText_21 (by decide) (Nat.le_of_ble_eq_true rfl) (by decide) (by decide) (by decide) (by decide) ?_
    exact ⟨rfl, (⟨rfl, hng⟩)⟩
  · refine z_iload_n B 0 dX6_needText_4 rfl rfl ?_
    refine z_sipush (v := nI 9999) B dX6_needText_5 (by decide) ?_
    refine z_icmp_le B 22 dX6_needText_8 (by decide) (fun zc8 => ?_) (fun zc8 => ?_)
    · exact z_xr (z_vret B hAe hr dX6_needText_22 (by decide) (by decide) (by exact ⟨rfl, ((rng_in' (n := 9999) (by decide)).mp ⟨i_nlt zc1, zc8⟩)⟩))
    · have hng : ¬ (rng x 10000) := by first | exact rng_lt0 (by omega) zc1 | exact fun h => zc8 ((rng_in' (n := 9999) (by decide)).mpr h).2
      refine z_throwSW (B := B) (text := "a text is 0 to 9999") hAe hT (by rw [hl]; exact hst) htab (by decide) (by decide) (List.mem_of_getElem? (i := 1) rfl) (List.mem_of_getElem? (i := 2) rfl) (fun _ h => List.mem_cons_of_mem _ (List.mem_append_right _ (h))) zngA zgdA (by decide) dX6_needText_11 dX6_needText_14 dX6_needText_15 dX6_needText_18 dX6_needText_21 (by decide) (Nat.le_of_ble_eq_true rfl) (by decide) (by decide) (by decide) (by decide) ?_
      exact ⟨rfl, (⟨rfl, hng⟩)⟩
theorem fw_X6_needPastDay_X6 : zF wsX6_needPastDay RX6 TX6 6 := fun _ h => List.mem_cons_of_mem _ (List.mem_append_left _ (List.mem_append_right _ (h)))
set_option maxHeartbeats 4000000 in
set_option maxRecDepth 100000 in
theorem cc_X6_needPastDay (l : Launch) (D : va_G) (g : zG) (a : Nat → Nat) (C : zMS) (m : Nat) (hst : l.stackTraces = false) (hI : CI C) (x : Int32) : zThrV l yX6_needPastDay wsX6_needPastDay { frames := 6, cells := 1, slots := 6, locals := 82 } D (zT g) (wC g a C m) [.ref (a 0), .int (x)] (fun w' => w' = wC g a C m ∧ (rng x (cT C + 1))) (fun E w' => w' = wC g a C m ∧ (E = "java/lang/IllegalArgumentException" ∧ ¬ (rng x (cT C + 1)))) 1 6 := by
  refine zThrV_of (cc := cX6_needPastDay) (maxL := 2) (ret := none) (own := RX6) [(0, .ref (a 0)), (1, .int (x))] (by decide) rfl rfl rfl (Nat.le_of_ble_eq_true rfl) ?_
  intro X A hAe hl B hr hin htab hT
  obtain ⟨b19, b3, b6, b20, b22, b27, b0⟩ := CI_bs hI
  refine z_iload_n B 1 dX6_needPastDay_0 rfl rfl ?_
  refine z_if_lt B 12 dX6_needPastDay_1 (by decide) (fun zc1 => ?_) (fun zc1 => ?_)
  · have hng : ¬ (rng x (cT C + 1)) := by first | exact rng_lt0 (by omega) zc1 | exact fun h => zc9 ((rng_in' (n := cT C) (by omega)).mpr h).2
    refine z_throwSW (B := B) (text := "a day is 0 to the day of now") hAe hT (by rw [hl]; exact hst) htab (by decide) (by decide) (List.mem_of_getElem? (i := 1) rfl) (List.mem_of_getElem? (i := 2) rfl) (fun _ h => List.mem_cons_of_mem _ (List.mem_append_right _ (h))) zngA zgdA (by decide) dX6_needPastDay_12 dX6_needPastDay_15 dX6_needPastDay_16 dX6_needPastDay_19 dX6_needPastDay_22 (by decide) (Nat.le_of_ble_eq_true rfl) (by decide) (by decide) (by decide) (by decide) ?_
    exact ⟨rfl, (⟨rfl, hng⟩)⟩
  · refine z_iload_n B 1 dX6_needPastDay_4 rfl rfl ?_
    refine z_aload_n B 0 dX6_needPastDay_5 rfl rfl ?_
    refine z_get (C := RX6) (T := TX6) (N := 6) (v := .int (C 0 0)) B 0 5 3 fw_X6_needPastDay_X6 rfl rfl (by decide) rfl rfl rfl dX6_needPastDay_6 ?_
    refine z_top (y := nI (cT C)) (CI_0 (C := C) hI) ?_
    refine z_icmp_le B 23 dX6_needPastDay_9 (by decide) (fun zc9 => ?_) (fun zc9 => ?_)
    · exact z_xr (z_vret B hAe hr dX6_needPastDay_23 (by decide) (by decide) (by exact ⟨rfl, ((rng_in' (n := cT C) (by omega)).mp ⟨i_nlt zc1, zc9⟩)⟩))
    · have hng : ¬ (rng x (cT C + 1)) := by first | exact rng_lt0 (by omega) zc1 | exact fun h => zc9 ((rng_in' (n := cT C) (by omega)).mpr h).2
      refine z_throwSW (B := B) (text := "a day is 0 to the day of now") hAe hT (by rw [hl]; exact hst) htab (by decide) (by decide) (List.mem_of_getElem? (i := 1) rfl) (List.mem_of_getElem? (i := 2) rfl) (fun _ h => List.mem_cons_of_mem _ (List.mem_append_right _ (h))) zngA zgdA (by decide) dX6_needPastDay_12 dX6_needPastDay_15 dX6_needPastDay_16 dX6_needPastDay_19 dX6_needPastDay_22 (by decide) (Nat.le_of_ble_eq_true rfl) (by decide) (by decide) (by decide) (by decide) ?_
      exact ⟨rfl, (⟨rfl, hng⟩)⟩
theorem fw_X6_needPageIn_X1 : zF wsX6_needPageIn RX1 TX1 5 := fun _ h => List.mem_cons_of_mem _ (List.mem_append_left _ (List.mem_append_right _ (h)))
set_option maxHeartbeats 4000000 in
set_option maxRecDepth 100000 in
theorem cc_X6_needPageIn (l : Launch) (D : va_G) (g : zG) (a : Nat → Nat) (C : zMS) (m : Nat) (hst : l.stackTraces = false) (hI : CI C) (hm : 4 * cM C ≤ m) (k : Nat) (hk : k < cM C) (x : Int32) : zThrV l yX6_needPageIn wsX6_needPageIn { frames := 6, cells := 1, slots := 6, locals := 82 } D (zT g) (wC g a C m) [.ref (a (30 + 4 * k)), .int (x)] (fun w' => w' = wC g a C m ∧ (cIn C k x)) (fun E w' => w' = wC g a C m ∧ (E = "java/lang/IndexOutOfBoundsException" ∧ ¬ (cIn C k x))) 1 6 := by
  refine zThrV_of (cc := cX6_needPageIn) (maxL := 2) (ret := none) (own := RX6) [(0, .ref (a (30 + 4 * k))), (1, .int (x))] (by decide) rfl rfl rfl (Nat.le_of_ble_eq_true rfl) ?_
  intro X A hAe hl B hr hin htab hT
  obtain ⟨b19, b3, b6, b20, b22, b27, b0⟩ := CI_bs hI
  refine z_iload_n B 1 dX6_needPageIn_0 rfl rfl ?_
  refine z_aload_n B 0 dX6_needPageIn_1 rfl rfl ?_
  refine z_get (C := RX1) (T := TX1) (N := 5) (v := .int (C (41 + 8 * k) 0)) B (30 + 4 * k) 2 3 fw_X6_needPageIn_X1 (wC_c0 (by omega)) rfl (by decide) rfl rfl rfl dX6_needPageIn_2 ?_
  refine z_top (y := nI (cF C k)) (CI_41 (C := C) hI k) ?_
  refine z_icmp_lt B 16 dX6_needPageIn_5 (by decide) (fun zc5 => ?_) (fun zc5 => ?_)
  · have hng : ¬ (cIn C k x) := by first | exact cIn_lt hI zc5 | exact cIn_ge hI zc13
    refine z_throwSW (B := B) (text := "the copy does not have such a page") hAe hT (by rw [hl]; exact hst) htab (by decide) (by decide) (List.mem_of_getElem? (i := 1) rfl) (List.mem_of_getElem? (i := 2) rfl) (fun _ h => List.mem_cons_of_mem _ (List.mem_append_right _ (h))) zngB zgdB (by decide) dX6_needPageIn_16 dX6_needPageIn_19 dX6_needPageIn_20 dX6_needPageIn_23 dX6_needPageIn_26 (by decide) (Nat.le_of_ble_eq_true rfl) (by decide) (by decide) (by decide) (by decide) ?_
    exact ⟨rfl, (⟨rfl, hng⟩)⟩
  · refine z_iload_n B 1 dX6_needPageIn_8 rfl rfl ?_
    refine z_aload_n B 0 dX6_needPageIn_9 rfl rfl ?_
    refine z_get (C := RX1) (T := TX1) (N := 5) (v := .int (C (42 + 8 * k) 0)) B (30 + 4 * k) 3 4 fw_X6_needPageIn_X1 (wC_c0 (by omega)) rfl (by decide) rfl rfl rfl dX6_needPageIn_10 ?_
    refine z_top (y := nI (cE C k)) (CI_42 (C := C) hI k) ?_
    refine z_icmp_lt B 27 dX6_needPageIn_13 (by decide) (fun zc13 => ?_) (fun zc13 => ?_)
    · exact z_xr (z_vret B hAe hr dX6_needPageIn_27 (by decide) (by decide) (by exact ⟨rfl, (cIn_y hI zc5 zc13)⟩))
    · have hng : ¬ (cIn C k x) := by first | exact cIn_lt hI zc5 | exact cIn_ge hI zc13
      refine z_throwSW (B := B) (text := "the copy does not have such a page") hAe hT (by rw [hl]; exact hst) htab (by decide) (by decide) (List.mem_of_getElem? (i := 1) rfl) (List.mem_of_getElem? (i := 2) rfl) (fun _ h => List.mem_cons_of_mem _ (List.mem_append_right _ (h))) zngB zgdB (by decide) dX6_needPageIn_16 dX6_needPageIn_19 dX6_needPageIn_20 dX6_needPageIn_23 dX6_needPageIn_26 (by decide) (Nat.le_of_ble_eq_true rfl) (by decide) (by decide) (by decide) (by decide) ?_
      exact ⟨rfl, (⟨rfl, hng⟩)⟩
theorem fw_X6_needCopy_X6 : zF wsX6_needCopy RX6 TX6 6 := fun _ h => List.mem_cons_of_mem _ (List.mem_append_left _ (List.mem_append_left _ (List.mem_append_right _ (h))))
set_option maxHeartbeats 4000000 in
set_option maxRecDepth 100000 in
theorem cc_X6_needCopy (l : Launch) (D : va_G) (g : zG) (a : Nat → Nat) (C : zMS) (m : Nat) (hst : l.stackTraces = false) (hI : CI C) (x : Int32) : zThrQ l yX6_needCopy wsX6_needCopy { frames := 6, cells := 1, slots := 6, locals := 82 } D (zT g) (wC g a C m) [.ref (a 0), .int (x)] (fun r w' => w' = wC g a C m ∧ ∃ j, x = nI j ∧ j < cM C ∧ C 28 j = 1 ∧ r = some (a (30 + 4 * j))) (fun E w' => w' = wC g a C m ∧ (E = "java/lang/IndexOutOfBoundsException" ∧ ¬ (cCx C x))) 1 6 := by
  refine zThrQ_of (cc := cX6_needCopy) (maxL := 3) (ret := (some (.object "LedgerKiln$Copy"))) (own := RX6) [(0, .ref (a 0)), (1, .int (x))] (by decide) rfl rfl rfl (Nat.le_of_ble_eq_true rfl) ?_
  intro X A hAe hl B hr hin htab hT
  obtain ⟨b19, b3, b6, b20, b22, b27, b0⟩ := CI_bs hI
  refine z_aload_n B 0 dX6_needCopy_0 rfl rfl ?_
  refine z_get (C := RX6) (T := TX6) (N := 6) (v := .ref (a 4)) B 0 3 3 fw_X6_needCopy_X6 rfl rfl (by decide) rfl rfl rfl dX6_needCopy_1 ?_
  refine z_iload_n B 1 dX6_needCopy_4 rfl rfl ?_
  refine z_callPQ (As := [.int (x)]) (st := []) (C := RX5) (T := TX5) (N := 2) (ci := 5) (l := l) B hl (cc_X5_find l D g a C m hI x) gX6_needCopy_X5_find rfl ⟨rfl, rfl⟩ nm_X5_find ⟨by decide, by decide⟩ (fun _ h => h) 4 rfl rfl rfl (Nat.le_of_ble_eq_true rfl) dX6_needCopy_5 (by decide) (by decide) (fun r hr => ?_)
  obtain ⟨hr1, hr2⟩ := hr
  by_cases hcx : cCx C x
  · obtain ⟨jx, rfl, hjx, h1jx⟩ := hcx
    obtain rfl := hr1 jx rfl hjx h1jx
    refine z_topv (y := .ref (a (30 + 4 * jx))) rfl ?_
    refine z_astore_n (lv1 := [(2, .ref (a (30 + 4 * jx))), (0, .ref (a 0)), (1, .int (nI (jx)))]) B dX6_needCopy_8 rfl (by decide) rfl ?_
    refine z_aload_n B 0 dX6_needCopy_9 rfl rfl ?_
    refine z_ifnonnull B 24 dX6_needCopy_10 (by decide) ?_
    refine z_aload_n B 0 dX6_needCopy_24 rfl rfl ?_
    exact z_xr (z_qret (r := some (a (30 + 4 * jx))) B hAe hr dX6_needCopy_25 rfl (by decide) (by decide) (by exact ⟨rfl, jx, rfl, hjx, h1jx, rfl⟩))
  · obtain rfl := hr2 hcx
    refine z_topv (y := .null) rfl ?_
    refine z_astore_nN (lv1 := [(2, .null), (0, .ref (a 0)), (1, .int (x))]) B dX6_needCopy_8 rfl (by decide) rfl ?_
    refine z_aload_nN B 0 dX6_needCopy_9 rfl rfl ?_
    refine z_ifnonnullN B dX6_needCopy_10 ?_
    have hng : ¬ (cCx C x) := by exact hcx
    refine z_throwSW (B := B) (text := "no such copy") hAe hT (by rw [hl]; exact hst) htab (by decide) (by decide) (List.mem_of_getElem? (i := 1) rfl) (List.mem_of_getElem? (i := 2) rfl) (fun _ h => List.mem_cons_of_mem _ (List.mem_append_right _ (h))) zngB zgdB (by decide) dX6_needCopy_13 dX6_needCopy_16 dX6_needCopy_17 dX6_needCopy_20 dX6_needCopy_23 (by decide) (Nat.le_of_ble_eq_true rfl) (by decide) (by decide) (by decide) (by decide) ?_
    exact ⟨rfl, (⟨rfl, hng⟩)⟩
theorem fw_X6_needRoomForCopy_X6 : zF wsX6_needRoomForCopy RX6 TX6 6 := fun _ h => List.mem_cons_of_mem _ (List.mem_append_left _ (List.mem_append_left _ (List.mem_append_left _ (List.mem_append_left _ (List.mem_append_right _ (h))))))
set_option maxHeartbeats 4000000 in
set_option maxRecDepth 100000 in
theorem cc_X6_needRoomForCopy (l : Launch) (D : va_G) (g : zG) (a : Nat → Nat) (C : zMS) (m : Nat) (hst : l.stackTraces = false) (hI : CI C) : zThrV l yX6_needRoomForCopy wsX6_needRoomForCopy { frames := 6, cells := 1, slots := 6, locals := 82 } D (zT g) (wC g a C m) [.ref (a 0)] (fun w' => w' = wC g a C m ∧ (cM C < 16 ∧ zcnt (fun p => cSt C p = 1) (cP C) = 0)) (fun E w' => w' = wC g a C m ∧ (E = "java/lang/IllegalStateException" ∧ ¬ (cM C < 16 ∧ zcnt (fun p => cSt C p = 1) (cP C) = 0))) 1 6 := by
  refine zThrV_of (cc := cX6_needRoomForCopy) (maxL := 1) (ret := none) (own := RX6) [(0, .ref (a 0))] (by decide) rfl rfl rfl (Nat.le_of_ble_eq_true rfl) ?_
  intro X A hAe hl B hr hin htab hT
  obtain ⟨b19, b3, b6, b20, b22, b27, b0⟩ := CI_bs hI
  have hz := zcnt_le (fun p => cSt C p = 1) (cP C)
  refine z_aload_n B 0 dX6_needRoomForCopy_0 rfl rfl ?_
  refine z_get (C := RX6) (T := TX6) (N := 6) (v := .ref (a 4)) B 0 3 3 fw_X6_needRoomForCopy_X6 rfl rfl (by decide) rfl rfl rfl dX6_needRoomForCopy_1 ?_
  refine z_callP (As := []) (st := []) (C := RX5) (T := TX5) (N := 2) (ci := 5) (l := l) B hl (cc_X5_isFull l D g a C m hI) gX6_needRoomForCopy_X5_isFull rfl ⟨rfl, rfl⟩ nm_X5_isFull ⟨by decide, by decide⟩ (fun _ h => h) 4 rfl rfl rfl (Nat.le_of_ble_eq_true rfl) dX6_needRoomForCopy_4 (by decide) (by decide) (fun r hr => ?_)
  subst hr
  refine z_ifB_ne B 20 dX6_needRoomForCopy_7 (by decide) (fun zc7 => ?_) (fun zc7 => ?_)
  · have hng : ¬ (cM C < 16 ∧ zcnt (fun p => cSt C p = 1) (cP C) = 0) := by first | exact fun h => absurd h.1 (by omega) | exact fun h => absurd h.2 (by omega)
    refine z_throwSW (B := B) (text := "16 copies were made, or a page is burnt") hAe hT (by rw [hl]; exact hst) htab (by decide) (by decide) (List.mem_of_getElem? (i := 1) rfl) (List.mem_of_getElem? (i := 2) rfl) (fun _ h => List.mem_cons_of_mem _ (List.mem_append_right _ (h))) zngS zgdS (by decide) dX6_needRoomForCopy_20 dX6_needRoomForCopy_23 dX6_needRoomForCopy_24 dX6_needRoomForCopy_27 dX6_needRoomForCopy_30 (by decide) (Nat.le_of_ble_eq_true rfl) (by decide) (by decide) (by decide) (by decide) ?_
    exact ⟨rfl, (⟨rfl, hng⟩)⟩
  · refine z_aload_n B 0 dX6_needRoomForCopy_10 rfl rfl ?_
    refine z_get (C := RX6) (T := TX6) (N := 6) (v := .ref (a 3)) B 0 2 4 fw_X6_needRoomForCopy_X6 rfl rfl (by decide) rfl rfl rfl dX6_needRoomForCopy_11 ?_
    refine z_callP (As := []) (st := []) (C := RX0) (T := TX0) (N := 11) (ci := 0) (l := l) B hl (cc_X0_countBurnt l D g a C m hI) gX6_needRoomForCopy_X0_countBurnt rfl ⟨rfl, rfl⟩ nm_X0_countBurnt ⟨by decide, by decide⟩ (fun _ h => h) 3 rfl rfl rfl (Nat.le_of_ble_eq_true rfl) dX6_needRoomForCopy_14 (by decide) (by decide) (fun r hr => ?_)
    subst hr
    refine z_ifN_le B 31 dX6_needRoomForCopy_17 (by decide) (by omega) (fun zc17 => ?_) (fun zc17 => ?_)
    · exact z_xr (z_vret B hAe hr dX6_needRoomForCopy_31 (by decide) (by decide) (by exact ⟨rfl, (⟨by omega, by omega⟩)⟩))
    · have hng : ¬ (cM C < 16 ∧ zcnt (fun p => cSt C p = 1) (cP C) = 0) := by first | exact fun h => absurd h.1 (by omega) | exact fun h => absurd h.2 (by omega)
      refine z_throwSW (B := B) (text := "16 copies were made, or a page is burnt") hAe hT (by rw [hl]; exact hst) htab (by decide) (by decide) (List.mem_of_getElem? (i := 1) rfl) (List.mem_of_getElem? (i := 2) rfl) (fun _ h => List.mem_cons_of_mem _ (List.mem_append_right _ (h))) zngS zgdS (by decide) dX6_needRoomForCopy_20 dX6_needRoomForCopy_23 dX6_needRoomForCopy_24 dX6_needRoomForCopy_27 dX6_needRoomForCopy_30 (by decide) (Nat.le_of_ble_eq_true rfl) (by decide) (by decide) (by decide) (by decide) ?_
      exact ⟨rfl, (⟨rfl, hng⟩)⟩
