theorem fw_X6_stands_X1 : zF wsX6_stands RX1 TX1 5 := fun _ h => List.mem_cons_of_mem _ (List.mem_append_left _ (List.mem_append_left _ (List.mem_append_left _ (List.mem_append_left _ (List.mem_append_right _ (h))))))
set_option maxHeartbeats 4000000 in
set_option maxRecDepth 100000 in
theorem cc_X6_stands (l : Launch) (D : va_G) (g : zG) (a : Nat → Nat) (C : zMS) (m : Nat) (hst : l.stackTraces = false) (hI : CI C) (hm : 4 * cM C ≤ m) (x : Int32) (y : Int32) : zThrI l yX6_stands wsX6_stands { frames := 7, cells := 2, slots := 12, locals := 104 } D (zT g) (wC g a C m) [.ref (a 0), .int (x), .int (y)] (fun r w' => r = C (44 + 8 * nN x) (nN y) ∧ w' = wC g a C m ∧ (cCx C x) ∧ (cIn C (nN x) y)) (fun E w' => w' = wC g a C m ∧ ((E = "java/lang/IndexOutOfBoundsException" ∧ ¬ (cCx C x)) ∨ (E = "java/lang/IndexOutOfBoundsException" ∧ (cCx C x) ∧ ¬ (cIn C (nN x) y)))) 2 12 := by
  refine zThrI_of (cc := cX6_stands) (maxL := 4) (ret := (some .boolean)) (own := RX6) [(0, .ref (a 0)), (1, .int (x)), (2, .int (y))] (by decide) rfl rfl rfl (Nat.le_of_ble_eq_true rfl) ?_
  intro X A hAe hl B hr hin htab hT
  obtain ⟨b19, b3, b6, b20, b22, b27, b0⟩ := CI_bs hI
  refine z_aload_n B 0 dX6_stands_0 rfl rfl ?_
  refine z_iload_n B 1 dX6_stands_1 rfl rfl ?_
  refine z_callTQ (As := [.int (x)]) (st := []) (C := RX6) (T := TX6) (N := 6) (ci := 6) (l := l) B hAe hT htab hl (cc_X6_needCopy l D g a C m hst hI x) gX6_stands_X6_needCopy rfl ⟨rfl, rfl⟩ nm_X6_needCopy ⟨by decide, by decide⟩ 0 rfl rfl rfl (Nat.le_of_ble_eq_true rfl) dX6_stands_2 rfl rfl (by decide) (by decide) (by decide) (by decide) (fun E w' h => by exact ⟨h.1, (Or.inl (⟨h.2.1, h.2.2⟩))⟩) (fun r w1 hrr => ?_)
  obtain ⟨rfl, jx, rfl, hjx, h1jx, rfl⟩ := hrr
  have ejx : nN (nI jx) = jx := nN_nI (by omega)
  have khp2 : cCx C (nI jx) := ⟨jx, rfl, hjx, h1jx⟩
  refine z_topv (y := .ref (a (30 + 4 * jx))) rfl ?_
  refine z_astore_n (lv1 := [(3, .ref (a (30 + 4 * jx))), (0, .ref (a 0)), (1, .int (nI (jx))), (2, .int (y))]) B dX6_stands_5 rfl (by decide) rfl ?_
  refine z_aload_n B 0 dX6_stands_6 rfl rfl ?_
  refine z_iload_n B 3 dX6_stands_7 rfl rfl ?_
  refine z_callTSV (As := [.ref (a (30 + 4 * jx)), .int (y)]) (st := []) (l := l) B hAe hT htab hl (cc_X6_needPageIn l D g a C m hst hI hm jx hjx y) gX6_stands_X6_needPageIn rfl ⟨rfl, rfl⟩ nm_X6_needPageIn ⟨by decide, by decide⟩ rfl (Nat.le_of_ble_eq_true rfl) dX6_stands_8 rfl rfl (by decide) (by decide) (by decide) (by decide) (fun E w' h => by (try rw [ejx]); exact ⟨h.1, (Or.inr (⟨h.2.1, khp2, h.2.2⟩))⟩) (fun w1 hrr => ?_)
  obtain ⟨rfl, hp8⟩ := hrr
  have khp8 := hp8
  obtain ⟨jy, rfl, hlojy, hhijy⟩ := hp8
  have bE := CI_b42 hI jx
  have ejy : nN (nI jy) = jy := nN_nI (by omega)
  refine z_aload_n B 0 dX6_stands_11 rfl rfl ?_
  refine z_get (C := RX1) (T := TX1) (N := 5) (v := .ref (a (31 + 4 * jx))) B (30 + 4 * jx) 0 1 fw_X6_stands_X1 (wC_c0 (by omega)) rfl (by decide) rfl rfl rfl dX6_stands_12 ?_
  refine z_iload_n B 3 dX6_stands_15 rfl rfl ?_
  refine z_callP (As := [.int (nI (jy))]) (st := []) (C := RX4) (T := TX4) (N := 2) (ci := 4) (l := l) B hl (cc_X4_isFilled_K l D g a C m hI jx (by omega) jy (by omega)) gX6_stands_X4_isFilled rfl ⟨rfl, rfl⟩ nm_X4_isFilled ⟨by decide, by decide⟩ (fun _ h => h) (31 + 4 * jx) (wC_c1 (by omega)) rfl rfl (Nat.le_of_ble_eq_true rfl) dX6_stands_16 (by decide) (by decide) (fun r hr => ?_)
  subst hr
  exact z_xr (z_mret B hAe hr dX6_stands_19 (nar_b (CI_z44 hI _ _)) (by decide) (by decide) (by try rw [ejx]; try rw [ejy]; exact ⟨(by exact rfl), rfl, khp2, khp8⟩))
theorem fw_X6_rot_X1 : zF wsX6_rot RX1 TX1 5 := fun _ h => List.mem_cons_of_mem _ (List.mem_append_left _ (List.mem_append_left _ (List.mem_append_left _ (List.mem_append_left _ (List.mem_append_right _ (h))))))
set_option maxHeartbeats 4000000 in
set_option maxRecDepth 100000 in
theorem cc_X6_rot (l : Launch) (D : va_G) (g : zG) (a : Nat → Nat) (C : zMS) (m : Nat) (hst : l.stackTraces = false) (hI : CI C) (hm : 4 * cM C ≤ m) (x : Int32) (y : Int32) : zThrI l yX6_rot wsX6_rot { frames := 7, cells := 2, slots := 12, locals := 104 } D (zT g) (wC g a C m) [.ref (a 0), .int (x), .int (y)] (fun r w' => r = C (44 + 8 * nN x) (nN y) ∧ w' = wC g a (blC C (44 + 8 * nN x) (45 + 8 * nN x) (nN y)) m ∧ (cCx C x) ∧ (cIn C (nN x) y)) (fun E w' => w' = wC g a C m ∧ ((E = "java/lang/IndexOutOfBoundsException" ∧ ¬ (cCx C x)) ∨ (E = "java/lang/IndexOutOfBoundsException" ∧ (cCx C x) ∧ ¬ (cIn C (nN x) y)))) 2 12 := by
  refine zThrI_of (cc := cX6_rot) (maxL := 4) (ret := (some .boolean)) (own := RX6) [(0, .ref (a 0)), (1, .int (x)), (2, .int (y))] (by decide) rfl rfl rfl (Nat.le_of_ble_eq_true rfl) ?_
  intro X A hAe hl B hr hin htab hT
  obtain ⟨b19, b3, b6, b20, b22, b27, b0⟩ := CI_bs hI
  refine z_aload_n B 0 dX6_rot_0 rfl rfl ?_
  refine z_iload_n B 1 dX6_rot_1 rfl rfl ?_
  refine z_callTQ (As := [.int (x)]) (st := []) (C := RX6) (T := TX6) (N := 6) (ci := 6) (l := l) B hAe hT htab hl (cc_X6_needCopy l D g a C m hst hI x) gX6_rot_X6_needCopy rfl ⟨rfl, rfl⟩ nm_X6_needCopy ⟨by decide, by decide⟩ 0 rfl rfl rfl (Nat.le_of_ble_eq_true rfl) dX6_rot_2 rfl rfl (by decide) (by decide) (by decide) (by decide) (fun E w' h => by exact ⟨h.1, (Or.inl (⟨h.2.1, h.2.2⟩))⟩) (fun r w1 hrr => ?_)
  obtain ⟨rfl, jx, rfl, hjx, h1jx, rfl⟩ := hrr
  have ejx : nN (nI jx) = jx := nN_nI (by omega)
  have khp2 : cCx C (nI jx) := ⟨jx, rfl, hjx, h1jx⟩
  refine z_topv (y := .ref (a (30 + 4 * jx))) rfl ?_
  refine z_astore_n (lv1 := [(3, .ref (a (30 + 4 * jx))), (0, .ref (a 0)), (1, .int (nI (jx))), (2, .int (y))]) B dX6_rot_5 rfl (by decide) rfl ?_
  refine z_aload_n B 0 dX6_rot_6 rfl rfl ?_
  refine z_iload_n B 3 dX6_rot_7 rfl rfl ?_
  refine z_callTSV (As := [.ref (a (30 + 4 * jx)), .int (y)]) (st := []) (l := l) B hAe hT htab hl (cc_X6_needPageIn l D g a C m hst hI hm jx hjx y) gX6_rot_X6_needPageIn rfl ⟨rfl, rfl⟩ nm_X6_needPageIn ⟨by decide, by decide⟩ rfl (Nat.le_of_ble_eq_true rfl) dX6_rot_8 rfl rfl (by decide) (by decide) (by decide) (by decide) (fun E w' h => by (try rw [ejx]); exact ⟨h.1, (Or.inr (⟨h.2.1, khp2, h.2.2⟩))⟩) (fun w1 hrr => ?_)
  obtain ⟨rfl, hp8⟩ := hrr
  have khp8 := hp8
  obtain ⟨jy, rfl, hlojy, hhijy⟩ := hp8
  have bE := CI_b42 hI jx
  have ejy : nN (nI jy) = jy := nN_nI (by omega)
  refine z_aload_n B 0 dX6_rot_11 rfl rfl ?_
  refine z_get (C := RX1) (T := TX1) (N := 5) (v := .ref (a (31 + 4 * jx))) B (30 + 4 * jx) 0 1 fw_X6_rot_X1 (wC_c0 (by omega)) rfl (by decide) rfl rfl rfl dX6_rot_12 ?_
  refine z_iload_n B 3 dX6_rot_15 rfl rfl ?_
  refine z_callM (As := [.int (nI (jy))]) (st := []) (C := RX4) (T := TX4) (N := 2) (ci := 4) (l := l) B hl (cc_X4_blank_K l D g a C m hI jx (by omega) jy (by omega)) gX6_rot_X4_blank rfl ⟨rfl, rfl⟩ nm_X4_blank ⟨by decide, by decide⟩ (31 + 4 * jx) (wC_c1 (by omega)) rfl rfl (Nat.le_of_ble_eq_true rfl) dX6_rot_16 rfl rfl (by decide) (by decide) (fun r w1 hr => ?_)
  obtain ⟨rfl, rfl⟩ := hr
  exact z_xr (z_mret B hAe hr dX6_rot_19 (nar_b (CI_z44 hI _ _)) (by decide) (by decide) (by try rw [ejx]; try rw [ejy]; exact ⟨(by exact rfl), rfl, khp2, khp8⟩))
theorem fw_X6_isOpen_X2 : zF wsX6_isOpen RX2 TX2 7 := fun _ h => List.mem_cons_of_mem _ (List.mem_append_left _ (List.mem_append_right _ (h)))
theorem fw_X6_isOpen_X6 : zF wsX6_isOpen RX6 TX6 6 := fun _ h => List.mem_cons_of_mem _ (List.mem_append_left _ (List.mem_append_left _ (List.mem_append_right _ (h))))
set_option maxHeartbeats 4000000 in
set_option maxRecDepth 100000 in
theorem cc_X6_isOpen (l : Launch) (D : va_G) (g : zG) (a : Nat → Nat) (C : zMS) (m : Nat) (hst : l.stackTraces = false) (hI : CI C) (x : Int32) : zThrI l yX6_isOpen wsX6_isOpen { frames := 7, cells := 1, slots := 6, locals := 103 } D (zT g) (wC g a C m) [.ref (a 0), .int (x)] (fun r w' => r = C 21 (nN x) ∧ w' = wC g a C m ∧ (rng x (cK C))) (fun E w' => w' = wC g a C m ∧ (E = "java/lang/IndexOutOfBoundsException" ∧ ¬ (rng x (cK C)))) 1 6 := by
  refine zThrI_of (cc := cX6_isOpen) (maxL := 2) (ret := (some .boolean)) (own := RX6) [(0, .ref (a 0)), (1, .int (x))] (by decide) rfl rfl rfl (Nat.le_of_ble_eq_true rfl) ?_
  intro X A hAe hl B hr hin htab hT
  obtain ⟨b19, b3, b6, b20, b22, b27, b0⟩ := CI_bs hI
  refine z_aload_n B 0 dX6_isOpen_0 rfl rfl ?_
  refine z_iload_n B 1 dX6_isOpen_1 rfl rfl ?_
  refine z_callTV (As := [.int (x)]) (st := []) (C := RX6) (T := TX6) (N := 6) (ci := 6) (l := l) B hAe hT htab hl (cc_X6_needCase l D g a C m hst hI x) gX6_isOpen_X6_needCase rfl ⟨rfl, rfl⟩ nm_X6_needCase ⟨by decide, by decide⟩ 0 rfl rfl rfl (Nat.le_of_ble_eq_true rfl) dX6_isOpen_2 rfl rfl (by decide) (by decide) (by decide) (by decide) (fun E w' h => by exact ⟨h.1, (⟨h.2.1, h.2.2⟩)⟩) (fun w1 hrr => ?_)
  obtain ⟨rfl, hp2⟩ := hrr
  have khp2 := hp2
  obtain ⟨jx, hjx, rfl⟩ := hp2
  have ejx : nN (nI jx) = jx := nN_nI (by omega)
  refine z_aload_n B 0 dX6_isOpen_5 rfl rfl ?_
  refine z_get (C := RX6) (T := TX6) (N := 6) (v := .ref (a 5)) B 0 4 1 fw_X6_isOpen_X6 rfl rfl (by decide) rfl rfl rfl dX6_isOpen_6 ?_
  refine z_get (C := RX2) (T := TX2) (N := 7) (v := .ref (a 21)) B 5 0 2 fw_X6_isOpen_X2 rfl rfl (by decide) rfl rfl rfl dX6_isOpen_9 ?_
  refine z_iload_n B 1 dX6_isOpen_12 rfl rfl ?_
  refine z_zald (g := (C 21)) (i := jx) B 21 1 rfl rfl (by omega) (by decide) dX6_isOpen_13 ?_
  exact z_xr (z_mret B hAe hr dX6_isOpen_14 (nar_b (CI_z21 (C := C) hI _)) (by decide) (by decide) (by try rw [ejx]; exact ⟨(by exact rfl), rfl, khp2⟩))
theorem fw_X6_close_X2 : zF wsX6_close RX2 TX2 7 := fun _ h => List.mem_cons_of_mem _ (List.mem_append_left _ (List.mem_append_left _ (List.mem_append_left _ (List.mem_append_right _ (h)))))
theorem fw_X6_close_X6 : zF wsX6_close RX6 TX6 6 := fun _ h => List.mem_cons_of_mem _ (List.mem_append_left _ (List.mem_append_left _ (List.mem_append_left _ (List.mem_append_left _ (List.mem_append_right _ (h))))))
set_option maxHeartbeats 4000000 in
set_option maxRecDepth 100000 in
theorem cc_X6_close (l : Launch) (D : va_G) (g : zG) (a : Nat → Nat) (C : zMS) (m : Nat) (hst : l.stackTraces = false) (hI : CI C) (x : Int32) : zThrI l yX6_close wsX6_close { frames := 7, cells := 2, slots := 12, locals := 103 } D (zT g) (wC g a C m) [.ref (a 0), .int (x)] (fun r w' => r = nI (zcnt (fun p => cHS C p = (nI 1 <<< (x &&& 31))) (cP C)) ∧ w' = wC g a (up2 C 21 (nN x) (nI 0)) m ∧ (rng x (cK C)) ∧ (¬ C 21 (nN x) = 0)) (fun E w' => w' = wC g a C m ∧ ((E = "java/lang/IndexOutOfBoundsException" ∧ ¬ (rng x (cK C))) ∨ (E = "java/lang/IllegalStateException" ∧ (rng x (cK C)) ∧ ¬ (¬ C 21 (nN x) = 0)))) 2 12 := by
  refine zThrI_of (cc := cX6_close) (maxL := 3) (ret := (some .int)) (own := RX6) [(0, .ref (a 0)), (1, .int (x))] (by decide) rfl rfl rfl (Nat.le_of_ble_eq_true rfl) ?_
  intro X A hAe hl B hr hin htab hT
  obtain ⟨b19, b3, b6, b20, b22, b27, b0⟩ := CI_bs hI
  refine z_aload_n B 0 dX6_close_0 rfl rfl ?_
  refine z_iload_n B 1 dX6_close_1 rfl rfl ?_
  refine z_callTV (As := [.int (x)]) (st := []) (C := RX6) (T := TX6) (N := 6) (ci := 6) (l := l) B hAe hT htab hl (cc_X6_needCase l D g a C m hst hI x) gX6_close_X6_needCase rfl ⟨rfl, rfl⟩ nm_X6_needCase ⟨by decide, by decide⟩ 0 rfl rfl rfl (Nat.le_of_ble_eq_true rfl) dX6_close_2 rfl rfl (by decide) (by decide) (by decide) (by decide) (fun E w' h => by exact ⟨h.1, (Or.inl (⟨h.2.1, h.2.2⟩))⟩) (fun w1 hrr => ?_)
  obtain ⟨rfl, hp2⟩ := hrr
  have khp2 := hp2
  obtain ⟨jx, hjx, rfl⟩ := hp2
  have ejx : nN (nI jx) = jx := nN_nI (by omega)
  refine z_aload_n B 0 dX6_close_5 rfl rfl ?_
  refine z_get (C := RX6) (T := TX6) (N := 6) (v := .ref (a 5)) B 0 4 3 fw_X6_close_X6 rfl rfl (by decide) rfl rfl rfl dX6_close_6 ?_
  refine z_get (C := RX2) (T := TX2) (N := 7) (v := .ref (a 21)) B 5 0 4 fw_X6_close_X2 rfl rfl (by decide) rfl rfl rfl dX6_close_9 ?_
  refine z_iload_n B 1 dX6_close_12 rfl rfl ?_
  refine z_zald (g := (C 21)) (i := jx) B 21 1 rfl rfl (by omega) (by decide) dX6_close_13 ?_
  refine z_if_ne B 27 dX6_close_14 (by decide) (fun zc14 => ?_) (fun zc14 => ?_)
  · refine z_aload_n B 0 dX6_close_27 rfl rfl ?_
    refine z_get (C := RX6) (T := TX6) (N := 6) (v := .ref (a 5)) B 0 4 3 fw_X6_close_X6 rfl rfl (by decide) rfl rfl rfl dX6_close_28 ?_
    refine z_iload_n B 1 dX6_close_31 rfl rfl ?_
    refine z_aload_n B 0 dX6_close_32 rfl rfl ?_
    refine z_get (C := RX6) (T := TX6) (N := 6) (v := .ref (a 3)) B 0 2 5 fw_X6_close_X6 rfl rfl (by decide) rfl rfl rfl dX6_close_33 ?_
    refine z_callP (As := [.int (nI (jx)), .ref (a 3)]) (st := []) (C := RX2) (T := TX2) (N := 7) (ci := 2) (l := l) B hl (cc_X2_countHeldAlone l D g a C m hI (nI (jx))) gX6_close_X2_countHeldAlone rfl ⟨rfl, rfl⟩ nm_X2_countHeldAlone ⟨by decide, by decide⟩ (fun _ h => h) 5 rfl rfl rfl (Nat.le_of_ble_eq_true rfl) dX6_close_36 (by decide) (by decide) (fun r hr => ?_)
    subst hr
    refine z_istore_n (lv1 := [(2, .int (nI (zcnt (fun p => cHS C p = (nI 1 <<< ((nI (jx)) &&& 31))) (cP C)))), (0, .ref (a 0)), (1, .int (nI (jx)))]) B dX6_close_39 rfl (by decide) rfl ?_
    refine z_aload_n B 1 dX6_close_40 rfl rfl ?_
    refine z_get (C := RX6) (T := TX6) (N := 6) (v := .ref (a 5)) B 0 4 3 fw_X6_close_X6 rfl rfl (by decide) rfl rfl rfl dX6_close_41 ?_
    refine z_get (C := RX2) (T := TX2) (N := 7) (v := .ref (a 21)) B 5 0 4 fw_X6_close_X2 rfl rfl (by decide) rfl rfl rfl dX6_close_44 ?_
    refine z_iload_n B 2 dX6_close_47 rfl rfl ?_
    refine z_iconst (v := nI 0) B dX6_close_48 (by decide) ?_
    refine z_zast (g := (C 21)) (i := jx) (w' := wC g a (up2 C 21 jx (nI (0))) m) B 21 1 rfl rfl (by omega) (by decide) (Or.inl rfl) dX6_close_49 (wC_f (by decide) rfl (fun f hf => up2_k (by omega))) ?_
    refine z_iload_n B 0 dX6_close_50 rfl rfl ?_
    exact z_xr (z_mret B hAe hr dX6_close_51 rfl (by decide) (by decide) (by try rw [ejx]; exact ⟨(by exact rfl), rfl, khp2, zc14⟩))
  · have hng : ¬ (¬ C 21 (nN (nI (jx))) = 0) := by rw [ejx]; exact not_not_intro zc14
    refine z_throwS (B := B) (text := "the case is closed") hAe hT (by rw [hl]; exact hst) htab (by decide) (by decide) (List.mem_of_getElem? (i := 1) rfl) (List.mem_of_getElem? (i := 2) rfl) (fun _ h => List.mem_cons_of_mem _ (List.mem_append_left _ (List.mem_append_right _ (h)))) zngS zgdS (by decide) dX6_close_17 dX6_close_20 dX6_close_21 dX6_close_23 dX6_close_26 (by decide) (Nat.le_of_ble_eq_true rfl) (by decide) (by decide) (by decide) (by decide) ?_
    try rw [ejx] at hng
    try rw [ejx]
    exact ⟨rfl, (Or.inr (⟨rfl, khp2, hng⟩))⟩
theorem fw_X6_canStrike_X6 : zF wsX6_canStrike RX6 TX6 6 := fun _ h => List.mem_cons_of_mem _ (List.mem_append_left _ (List.mem_append_left _ (List.mem_append_left _ (List.mem_append_left _ (List.mem_append_right _ (h))))))
set_option maxHeartbeats 4000000 in
set_option maxRecDepth 100000 in
theorem cc_X6_canStrike (l : Launch) (D : va_G) (g : zG) (a : Nat → Nat) (C : zMS) (m : Nat) (hst : l.stackTraces = false) (hI : CI C) (x : Int32) (y : Int32) : zThrI l yX6_canStrike wsX6_canStrike { frames := 7, cells := 2, slots := 12, locals := 103 } D (zT g) (wC g a C m) [.ref (a 0), .int (x), .int (y)] (fun r w' => r = bI (cMay C (nN x) (nN y)) ∧ w' = wC g a C m ∧ (rng x (cK C)) ∧ (rng y (cP C))) (fun E w' => w' = wC g a C m ∧ ((E = "java/lang/IndexOutOfBoundsException" ∧ ¬ (rng x (cK C))) ∨ (E = "java/lang/IndexOutOfBoundsException" ∧ (rng x (cK C)) ∧ ¬ (rng y (cP C))))) 2 12 := by
  refine zThrI_of (cc := cX6_canStrike) (maxL := 3) (ret := (some .boolean)) (own := RX6) [(0, .ref (a 0)), (1, .int (x)), (2, .int (y))] (by decide) rfl rfl rfl (Nat.le_of_ble_eq_true rfl) ?_
  intro X A hAe hl B hr hin htab hT
  obtain ⟨b19, b3, b6, b20, b22, b27, b0⟩ := CI_bs hI
  refine z_aload_n B 0 dX6_canStrike_0 rfl rfl ?_
  refine z_iload_n B 1 dX6_canStrike_1 rfl rfl ?_
  refine z_callTV (As := [.int (x)]) (st := []) (C := RX6) (T := TX6) (N := 6) (ci := 6) (l := l) B hAe hT htab hl (cc_X6_needCase l D g a C m hst hI x) gX6_canStrike_X6_needCase rfl ⟨rfl, rfl⟩ nm_X6_needCase ⟨by decide, by decide⟩ 0 rfl rfl rfl (Nat.le_of_ble_eq_true rfl) dX6_canStrike_2 rfl rfl (by decide) (by decide) (by decide) (by decide) (fun E w' h => by exact ⟨h.1, (Or.inl (⟨h.2.1, h.2.2⟩))⟩) (fun w1 hrr => ?_)
  obtain ⟨rfl, hp2⟩ := hrr
  have khp2 := hp2
  obtain ⟨jx, hjx, rfl⟩ := hp2
  have ejx : nN (nI jx) = jx := nN_nI (by omega)
  refine z_aload_n B 0 dX6_canStrike_5 rfl rfl ?_
  refine z_iload_n B 2 dX6_canStrike_6 rfl rfl ?_
  refine z_callTV (As := [.int (y)]) (st := []) (C := RX6) (T := TX6) (N := 6) (ci := 6) (l := l) B hAe hT htab hl (cc_X6_needPage l D g a C m hst hI y) gX6_canStrike_X6_needPage rfl ⟨rfl, rfl⟩ nm_X6_needPage ⟨by decide, by decide⟩ 0 rfl rfl rfl (Nat.le_of_ble_eq_true rfl) dX6_canStrike_7 rfl rfl (by decide) (by decide) (by decide) (by decide) (fun E w' h => by (try rw [ejx]); exact ⟨h.1, (Or.inr (⟨h.2.1, khp2, h.2.2⟩))⟩) (fun w1 hrr => ?_)
  obtain ⟨rfl, hp7⟩ := hrr
  have khp7 := hp7
  obtain ⟨jy, hjy, rfl⟩ := hp7
  have ejy : nN (nI jy) = jy := nN_nI (by omega)
  refine z_aload_n B 0 dX6_canStrike_10 rfl rfl ?_
  refine z_get (C := RX6) (T := TX6) (N := 6) (v := .ref (a 5)) B 0 4 1 fw_X6_canStrike_X6 rfl rfl (by decide) rfl rfl rfl dX6_canStrike_11 ?_
  refine z_iload_n B 1 dX6_canStrike_14 rfl rfl ?_
  refine z_aload_n B 0 dX6_canStrike_15 rfl rfl ?_
  refine z_get (C := RX6) (T := TX6) (N := 6) (v := .ref (a 3)) B 0 2 2 fw_X6_canStrike_X6 rfl rfl (by decide) rfl rfl rfl dX6_canStrike_16 ?_
  refine z_iload_n B 2 dX6_canStrike_19 rfl rfl ?_
  refine z_callP (As := [.int (nI (jx)), .ref (a 3), .int (nI (jy))]) (st := []) (C := RX2) (T := TX2) (N := 7) (ci := 2) (l := l) B hl (cc_X2_maySentence l D g a C m hI jx (by omega) jy (by omega)) gX6_canStrike_X2_maySentence rfl ⟨rfl, rfl⟩ nm_X2_maySentence ⟨by decide, by decide⟩ (fun _ h => h) 5 rfl rfl rfl (Nat.le_of_ble_eq_true rfl) dX6_canStrike_20 (by decide) (by decide) (fun r hr => ?_)
  subst hr
  exact z_xr (z_mret B hAe hr dX6_canStrike_23 (nar_b (bI_or _)) (by decide) (by decide) (by try rw [ejx]; try rw [ejy]; exact ⟨(by exact rfl), rfl, khp2, khp7⟩))
theorem fw_X6_strike_X6 : zF wsX6_strike RX6 TX6 6 := fun _ h => List.mem_cons_of_mem _ (List.mem_append_left _ (List.mem_append_left _ (List.mem_append_left _ (List.mem_append_left _ (List.mem_append_left _ (List.mem_append_left _ (List.mem_append_left _ (List.mem_append_right _ (h)))))))))
set_option maxHeartbeats 4000000 in
set_option maxRecDepth 100000 in
theorem cc_X6_strike (l : Launch) (D : va_G) (g : zG) (a : Nat → Nat) (C : zMS) (m : Nat) (hst : l.stackTraces = false) (hI : CI C) (hm : 4 * cM C ≤ m) (x : Int32) (y : Int32) : zThrI l yX6_strike wsX6_strike { frames := 7, cells := 3, slots := 18, locals := 103 } D (zT g) (wC g a C m) [.ref (a 0), .int (x), .int (y)] (fun r w' => r = nI (cCF (bvN (stC C (nN y)) (nN y) (cM (stC C (nN y)))) (nN y)) ∧ w' = wC g a (bvN (stC C (nN y)) (nN y) (cM (stC C (nN y)))) m ∧ (rng x (cK C)) ∧ (rng y (cP C)) ∧ (cMay C (nN x) (nN y))) (fun E w' => w' = wC g a C m ∧ ((E = "java/lang/IndexOutOfBoundsException" ∧ ¬ (rng x (cK C))) ∨ (E = "java/lang/IndexOutOfBoundsException" ∧ (rng x (cK C)) ∧ ¬ (rng y (cP C))) ∨ (E = "java/lang/IllegalStateException" ∧ (rng x (cK C)) ∧ (rng y (cP C)) ∧ ¬ (cMay C (nN x) (nN y))))) 3 18 := by
  refine zThrI_of (cc := cX6_strike) (maxL := 3) (ret := (some .int)) (own := RX6) [(0, .ref (a 0)), (1, .int (x)), (2, .int (y))] (by decide) rfl rfl rfl (Nat.le_of_ble_eq_true rfl) ?_
  intro X A hAe hl B hr hin htab hT
  obtain ⟨b19, b3, b6, b20, b22, b27, b0⟩ := CI_bs hI
  refine z_aload_n B 0 dX6_strike_0 rfl rfl ?_
  refine z_iload_n B 1 dX6_strike_1 rfl rfl ?_
  refine z_callTV (As := [.int (x)]) (st := []) (C := RX6) (T := TX6) (N := 6) (ci := 6) (l := l) B hAe hT htab hl (cc_X6_needCase l D g a C m hst hI x) gX6_strike_X6_needCase rfl ⟨rfl, rfl⟩ nm_X6_needCase ⟨by decide, by decide⟩ 0 rfl rfl rfl (Nat.le_of_ble_eq_true rfl) dX6_strike_2 rfl rfl (by decide) (by decide) (by decide) (by decide) (fun E w' h => by exact ⟨h.1, (Or.inl (⟨h.2.1, h.2.2⟩))⟩) (fun w1 hrr => ?_)
  obtain ⟨rfl, hp2⟩ := hrr
  have khp2 := hp2
  obtain ⟨jx, hjx, rfl⟩ := hp2
  have ejx : nN (nI jx) = jx := nN_nI (by omega)
  refine z_aload_n B 0 dX6_strike_5 rfl rfl ?_
  refine z_iload_n B 2 dX6_strike_6 rfl rfl ?_
  refine z_callTV (As := [.int (y)]) (st := []) (C := RX6) (T := TX6) (N := 6) (ci := 6) (l := l) B hAe hT htab hl (cc_X6_needPage l D g a C m hst hI y) gX6_strike_X6_needPage rfl ⟨rfl, rfl⟩ nm_X6_needPage ⟨by decide, by decide⟩ 0 rfl rfl rfl (Nat.le_of_ble_eq_true rfl) dX6_strike_7 rfl rfl (by decide) (by decide) (by decide) (by decide) (fun E w' h => by (try rw [ejx]); exact ⟨h.1, (Or.inr (Or.inl (⟨h.2.1, khp2, h.2.2⟩)))⟩) (fun w1 hrr => ?_)
  obtain ⟨rfl, hp7⟩ := hrr
  have khp7 := hp7
  obtain ⟨jy, hjy, rfl⟩ := hp7
  have ejy : nN (nI jy) = jy := nN_nI (by omega)
  refine z_aload_n B 0 dX6_strike_10 rfl rfl ?_
  refine z_get (C := RX6) (T := TX6) (N := 6) (v := .ref (a 5)) B 0 4 3 fw_X6_strike_X6 rfl rfl (by decide) rfl rfl rfl dX6_strike_11 ?_
  refine z_iload_n B 1 dX6_strike_14 rfl rfl ?_
  refine z_aload_n B 0 dX6_strike_15 rfl rfl ?_
  refine z_get (C := RX6) (T := TX6) (N := 6) (v := .ref (a 3)) B 0 2 4 fw_X6_strike_X6 rfl rfl (by decide) rfl rfl rfl dX6_strike_16 ?_
  refine z_iload_n B 2 dX6_strike_19 rfl rfl ?_
  refine z_callP (As := [.int (nI (jx)), .ref (a 3), .int (nI (jy))]) (st := []) (C := RX2) (T := TX2) (N := 7) (ci := 2) (l := l) B hl (cc_X2_maySentence l D g a C m hI jx (by omega) jy (by omega)) gX6_strike_X2_maySentence rfl ⟨rfl, rfl⟩ nm_X2_maySentence ⟨by decide, by decide⟩ (fun _ h => h) 5 rfl rfl rfl (Nat.le_of_ble_eq_true rfl) dX6_strike_20 (by decide) (by decide) (fun r hr => ?_)
  subst hr
  refine z_ifB_ne B 36 dX6_strike_23 (by decide) (fun zc23 => ?_) (fun zc23 => ?_)
  · refine z_aload_n B 0 dX6_strike_36 rfl rfl ?_
    refine z_get (C := RX6) (T := TX6) (N := 6) (v := .ref (a 3)) B 0 2 4 fw_X6_strike_X6 rfl rfl (by decide) rfl rfl rfl dX6_strike_37 ?_
    refine z_iload_n B 2 dX6_strike_40 rfl rfl ?_
    refine z_callMV (As := [.int (nI (jy))]) (st := []) (C := RX0) (T := TX0) (N := 11) (ci := 0) (l := l) B hl (cc_X0_markStruck l D g a C m hI jy (by omega)) gX6_strike_X0_markStruck rfl ⟨rfl, rfl⟩ nm_X0_markStruck ⟨by decide, by decide⟩ 3 rfl rfl rfl (Nat.le_of_ble_eq_true rfl) dX6_strike_41 rfl rfl (by decide) (by decide) (fun w1 hr => ?_)
    subst hr
    refine z_aload_n B 0 dX6_strike_44 rfl rfl ?_
    refine z_get (C := RX6) (T := TX6) (N := 6) (v := .ref (a 4)) B 0 3 5 fw_X6_strike_X6 rfl rfl (by decide) rfl rfl rfl dX6_strike_45 ?_
    refine z_iload_n B 2 dX6_strike_48 rfl rfl ?_
    refine z_callM (As := [.int (nI (jy))]) (st := []) (C := RX5) (T := TX5) (N := 2) (ci := 5) (l := l) B hl (cc_X5_blankInVault l D g a (blC (up2 C 14 jy (nI 1)) 17 18 jy) m (CI_blC (CI_z hI (by omega) (Or.inr rfl)) (by omega) (by omega)) (cM_cg ((blC_k (by omega)).trans (up2_k (by omega))) hm) jy (by omega)) gX6_strike_X5_blankInVault rfl ⟨rfl, rfl⟩ nm_X5_blankInVault ⟨by decide, by decide⟩ 4 rfl rfl rfl (Nat.le_of_ble_eq_true rfl) dX6_strike_49 rfl rfl (by decide) (by decide) (fun r w1 hr => ?_)
    obtain ⟨rfl, rfl⟩ := hr
    exact z_xr (z_mret B hAe hr dX6_strike_52 rfl (by decide) (by decide) (by try rw [ejx]; try rw [ejy]; exact ⟨(by exact rfl), rfl, khp2, khp7, zc23⟩))
  · have hng : ¬ (cMay C (nN (nI (jx))) (nN (nI (jy)))) := by rw [ejx, ejy]; exact zc23
    refine z_throwS (B := B) (text := "the case can't strike the page") hAe hT (by rw [hl]; exact hst) htab (by decide) (by decide) (List.mem_of_getElem? (i := 1) rfl) (List.mem_of_getElem? (i := 2) rfl) (fun _ h => List.mem_cons_of_mem _ (List.mem_append_left _ (List.mem_append_right _ (h)))) zngS zgdS (by decide) dX6_strike_26 dX6_strike_29 dX6_strike_30 dX6_strike_32 dX6_strike_35 (by decide) (Nat.le_of_ble_eq_true rfl) (by decide) (by decide) (by decide) (by decide) ?_
    try rw [ejx] at hng
    try rw [ejx]
    try rw [ejy] at hng
    try rw [ejy]
    exact ⟨rfl, (Or.inr (Or.inr (⟨rfl, khp2, khp7, hng⟩)))⟩
theorem fw_X6_alter_X0 : zF wsX6_alter RX0 TX0 11 := fun _ h => List.mem_cons_of_mem _ (List.mem_append_left _ (List.mem_append_left _ (List.mem_append_left _ (List.mem_append_left _ (List.mem_append_right _ (h))))))
theorem fw_X6_alter_X6 : zF wsX6_alter RX6 TX6 6 := fun _ h => List.mem_cons_of_mem _ (List.mem_append_left _ (List.mem_append_left _ (List.mem_append_left _ (List.mem_append_left _ (List.mem_append_left _ (List.mem_append_right _ (h)))))))
set_option maxHeartbeats 4000000 in
set_option maxRecDepth 100000 in
theorem cc_X6_alter (l : Launch) (D : va_G) (g : zG) (a : Nat → Nat) (C : zMS) (m : Nat) (hst : l.stackTraces = false) (hI : CI C) (x : Int32) (y : Int32) (z : Int32) : zThrI l yX6_alter wsX6_alter { frames := 7, cells := 3, slots := 18, locals := 103 } D (zT g) (wC g a C m) [.ref (a 0), .int (x), .int (y), .int (z)] (fun r w' => r = C 18 (nN x * 4 + nN y) ∧ w' = wC g a (up2 C 18 (nN x * 4 + nN y) z) m ∧ (rng x (cP C)) ∧ (rng y 4) ∧ ((-10000) ≤ z ∧ z ≤ nI (10000)) ∧ (¬ C 17 (nN x) = 0 ∧ nN y < cL C (nN x))) (fun E w' => w' = wC g a C m ∧ ((E = "java/lang/IndexOutOfBoundsException" ∧ ¬ (rng x (cP C))) ∨ (E = "java/lang/IllegalArgumentException" ∧ (rng x (cP C)) ∧ ¬ (rng y 4)) ∨ (E = "java/lang/IllegalArgumentException" ∧ (rng x (cP C)) ∧ (rng y 4) ∧ ¬ ((-10000) ≤ z ∧ z ≤ nI (10000))) ∨ (E = "java/lang/IllegalStateException" ∧ (rng x (cP C)) ∧ (rng y 4) ∧ ((-10000) ≤ z ∧ z ≤ nI (10000)) ∧ ¬ (¬ C 17 (nN x) = 0 ∧ nN y < cL C (nN x))))) 3 18 := by
  refine zThrI_of (cc := cX6_alter) (maxL := 4) (ret := (some .int)) (own := RX6) [(0, .ref (a 0)), (1, .int (x)), (2, .int (y)), (3, .int (z))] (by decide) rfl rfl rfl (Nat.le_of_ble_eq_true rfl) ?_
  intro X A hAe hl B hr hin htab hT
  obtain ⟨b19, b3, b6, b20, b22, b27, b0⟩ := CI_bs hI
  refine z_aload_n B 0 dX6_alter_0 rfl rfl ?_
  refine z_iload_n B 1 dX6_alter_1 rfl rfl ?_
  refine z_callTV (As := [.int (x)]) (st := []) (C := RX6) (T := TX6) (N := 6) (ci := 6) (l := l) B hAe hT htab hl (cc_X6_needPage l D g a C m hst hI x) gX6_alter_X6_needPage rfl ⟨rfl, rfl⟩ nm_X6_needPage ⟨by decide, by decide⟩ 0 rfl rfl rfl (Nat.le_of_ble_eq_true rfl) dX6_alter_2 rfl rfl (by decide) (by decide) (by decide) (by decide) (fun E w' h => by exact ⟨h.1, (Or.inl (⟨h.2.1, h.2.2⟩))⟩) (fun w1 hrr => ?_)
  obtain ⟨rfl, hp2⟩ := hrr
  have khp2 := hp2
  obtain ⟨jx, hjx, rfl⟩ := hp2
  have ejx : nN (nI jx) = jx := nN_nI (by omega)
  refine z_iload_n B 2 dX6_alter_5 rfl rfl ?_
  refine z_if_lt B 14 dX6_alter_6 (by decide) (fun zc6 => ?_) (fun zc6 => ?_)
  · have hng : ¬ (rng y 4) := by first | exact rng_lt0 (by omega) zc6 | exact rng_ge (by omega) zc11
    refine z_throwS (B := B) (text := "a leg is 0 to 3") hAe hT (by rw [hl]; exact hst) htab (by decide) (by decide) (List.mem_of_getElem? (i := 1) rfl) (List.mem_of_getElem? (i := 2) rfl) (fun _ h => List.mem_cons_of_mem _ (List.mem_append_left _ (List.mem_append_left _ (List.mem_append_right _ (h))))) zngA zgdA (by decide) dX6_alter_14 dX6_alter_17 dX6_alter_18 dX6_alter_20 dX6_alter_23 (by decide) (Nat.le_of_ble_eq_true rfl) (by decide) (by decide) (by decide) (by decide) ?_
    try rw [ejx] at hng
    try rw [ejx]
    exact ⟨rfl, (Or.inr (Or.inl (⟨rfl, khp2, hng⟩)))⟩
  · refine z_iload_n B 2 dX6_alter_9 rfl rfl ?_
    refine z_iconst (v := nI 4) B dX6_alter_10 (by decide) ?_
    refine z_icmp_lt B 24 dX6_alter_11 (by decide) (fun zc11 => ?_) (fun zc11 => ?_)
    · have ry := i_rng (n := 4) (by omega) zc6 (Int32.not_le.mpr zc11)
      have kry := ry
      obtain ⟨jy, hjy, rfl⟩ := ry
      have ejy : nN (nI jy) = jy := nN_nI (by omega)
      refine z_iload_n B 3 dX6_alter_24 rfl rfl ?_
      refine z_callTSV (As := [.int (z)]) (st := []) (l := l) B hAe hT htab hl (cc_X6_needAmount l D g a C m hst hI z) gX6_alter_X6_needAmount rfl ⟨rfl, rfl⟩ nm_X6_needAmount ⟨by decide, by decide⟩ rfl (Nat.le_of_ble_eq_true rfl) dX6_alter_25 rfl rfl (by decide) (by decide) (by decide) (by decide) (fun E w' h => by (try rw [ejx]); (try rw [ejy]); exact ⟨h.1, (Or.inr (Or.inr (Or.inl (⟨h.2.1, khp2, kry, h.2.2⟩))))⟩) (fun w1 hrr => ?_)
      obtain ⟨rfl, hp25⟩ := hrr
      refine z_aload_n B 0 dX6_alter_28 rfl rfl ?_
      refine z_get (C := RX6) (T := TX6) (N := 6) (v := .ref (a 3)) B 0 2 5 fw_X6_alter_X6 rfl rfl (by decide) rfl rfl rfl dX6_alter_29 ?_
      refine z_get (C := RX0) (T := TX0) (N := 11) (v := .ref (a 19)) B 3 9 6 fw_X6_alter_X0 rfl rfl (by decide) rfl rfl rfl dX6_alter_32 ?_
      refine z_iload_n B 1 dX6_alter_35 rfl rfl ?_
      refine z_callP (As := [.int (nI (jx))]) (st := []) (C := RX4) (T := TX4) (N := 2) (ci := 4) (l := l) B hl (cc_X4_isFilled_N l D g a C m hI jx (by omega)) gX6_alter_X4_isFilled rfl ⟨rfl, rfl⟩ nm_X4_isFilled ⟨by decide, by decide⟩ (fun _ h => h) 19 rfl rfl rfl (Nat.le_of_ble_eq_true rfl) dX6_alter_36 (by decide) (by decide) (fun r hr => ?_)
      subst hr
      refine z_if_eq B 55 dX6_alter_39 (by decide) (fun zc39 => ?_) (fun zc39 => ?_)
      · have hng : ¬ (¬ C 17 (nN (nI (jx))) = 0 ∧ nN (nI (jy)) < cL C (nN (nI (jx)))) := by rw [ejx, ejy]; first | exact fun h => h.1 zc39 | exact fun h => absurd h.2 (by omega)
        refine z_throwS (B := B) (text := "no such leg stands on the page") hAe hT (by rw [hl]; exact hst) htab (by decide) (by decide) (List.mem_of_getElem? (i := 3) rfl) (List.mem_of_getElem? (i := 4) rfl) (fun _ h => List.mem_cons_of_mem _ (List.mem_append_left _ (List.mem_append_right _ (h)))) zngS zgdS (by decide) dX6_alter_55 dX6_alter_58 dX6_alter_59 dX6_alter_61 dX6_alter_64 (by decide) (Nat.le_of_ble_eq_true rfl) (by decide) (by decide) (by decide) (by decide) ?_
        try rw [ejx] at hng
        try rw [ejx]
        try rw [ejy] at hng
        try rw [ejy]
        exact ⟨rfl, (Or.inr (Or.inr (Or.inr (⟨rfl, khp2, kry, hp25, hng⟩))))⟩
      · refine z_iload_n B 2 dX6_alter_42 rfl rfl ?_
        refine z_aload_n B 0 dX6_alter_43 rfl rfl ?_
        refine z_get (C := RX6) (T := TX6) (N := 6) (v := .ref (a 3)) B 0 2 5 fw_X6_alter_X6 rfl rfl (by decide) rfl rfl rfl dX6_alter_44 ?_
        refine z_get (C := RX0) (T := TX0) (N := 11) (v := .ref (a 13)) B 3 3 7 fw_X6_alter_X0 rfl rfl (by decide) rfl rfl rfl dX6_alter_47 ?_
        refine z_iload_n B 1 dX6_alter_50 rfl rfl ?_
        refine z_iald (g := (C 10)) (i := jx) B 13 0 rfl rfl (by omega) (by decide) dX6_alter_51 ?_
        refine z_top (y := nI (cL C jx)) (CI_10 (C := C) hI _) ?_
        have := CI_b10 (C := C) hI jx
        refine z_icmpN_lt B 65 dX6_alter_52 (by decide) (by omega) (by omega) (fun zc52 => ?_) (fun zc52 => ?_)
        · refine z_aload_n B 0 dX6_alter_65 rfl rfl ?_
          refine z_get (C := RX6) (T := TX6) (N := 6) (v := .ref (a 3)) B 0 2 5 fw_X6_alter_X6 rfl rfl (by decide) rfl rfl rfl dX6_alter_66 ?_
          refine z_get (C := RX0) (T := TX0) (N := 11) (v := .ref (a 19)) B 3 9 6 fw_X6_alter_X0 rfl rfl (by decide) rfl rfl rfl dX6_alter_69 ?_
          refine z_iload_n B 1 dX6_alter_72 rfl rfl ?_
          refine z_iload_n B 2 dX6_alter_73 rfl rfl ?_
          refine z_iload_n B 3 dX6_alter_74 rfl rfl ?_
          refine z_callM (As := [.int (nI (jx)), .int (nI (jy)), .int (z)]) (st := []) (C := RX4) (T := TX4) (N := 2) (ci := 4) (l := l) B hl (cc_X4_replace_N l D g a C m jx (by omega) jy (by omega) z) gX6_alter_X4_replace rfl ⟨rfl, rfl⟩ nm_X4_replace ⟨by decide, by decide⟩ 19 rfl rfl rfl (Nat.le_of_ble_eq_true rfl) dX6_alter_75 rfl rfl (by decide) (by decide) (fun r w1 hr => ?_)
          obtain ⟨rfl, rfl⟩ := hr
          exact z_xr (z_mret B hAe hr dX6_alter_78 rfl (by decide) (by decide) (by try rw [ejx]; try rw [ejy]; exact ⟨(by exact rfl), rfl, khp2, kry, hp25, (⟨zc39, zc52⟩)⟩))
        · have hng : ¬ (¬ C 17 (nN (nI (jx))) = 0 ∧ nN (nI (jy)) < cL C (nN (nI (jx)))) := by rw [ejx, ejy]; first | exact fun h => h.1 zc39 | exact fun h => absurd h.2 (by omega)
          refine z_throwS (B := B) (text := "no such leg stands on the page") hAe hT (by rw [hl]; exact hst) htab (by decide) (by decide) (List.mem_of_getElem? (i := 3) rfl) (List.mem_of_getElem? (i := 4) rfl) (fun _ h => List.mem_cons_of_mem _ (List.mem_append_left _ (List.mem_append_right _ (h)))) zngS zgdS (by decide) dX6_alter_55 dX6_alter_58 dX6_alter_59 dX6_alter_61 dX6_alter_64 (by decide) (Nat.le_of_ble_eq_true rfl) (by decide) (by decide) (by decide) (by decide) ?_
          try rw [ejx] at hng
          try rw [ejx]
          try rw [ejy] at hng
          try rw [ejy]
          exact ⟨rfl, (Or.inr (Or.inr (Or.inr (⟨rfl, khp2, kry, hp25, hng⟩))))⟩
    · have hng : ¬ (rng y 4) := by first | exact rng_lt0 (by omega) zc6 | exact rng_ge (by omega) zc11
      refine z_throwS (B := B) (text := "a leg is 0 to 3") hAe hT (by rw [hl]; exact hst) htab (by decide) (by decide) (List.mem_of_getElem? (i := 1) rfl) (List.mem_of_getElem? (i := 2) rfl) (fun _ h => List.mem_cons_of_mem _ (List.mem_append_left _ (List.mem_append_left _ (List.mem_append_right _ (h))))) zngA zgdA (by decide) dX6_alter_14 dX6_alter_17 dX6_alter_18 dX6_alter_20 dX6_alter_23 (by decide) (Nat.le_of_ble_eq_true rfl) (by decide) (by decide) (by decide) (by decide) ?_
      try rw [ejx] at hng
      try rw [ejx]
      exact ⟨rfl, (Or.inr (Or.inl (⟨rfl, khp2, hng⟩)))⟩
theorem fw_X6_proven_X0 : zF wsX6_proven RX0 TX0 11 := fun _ h => List.mem_cons_of_mem _ (List.mem_append_left _ (List.mem_append_left _ (List.mem_append_right _ (h))))
theorem fw_X6_proven_X6 : zF wsX6_proven RX6 TX6 6 := fun _ h => List.mem_cons_of_mem _ (List.mem_append_left _ (List.mem_append_left _ (List.mem_append_left _ (List.mem_append_right _ (h)))))
set_option maxHeartbeats 4000000 in
set_option maxRecDepth 100000 in
theorem cc_X6_proven (l : Launch) (D : va_G) (g : zG) (a : Nat → Nat) (C : zMS) (m : Nat) (hst : l.stackTraces = false) (hI : CI C) (x : Int32) (y : Int32) : zThrI l yX6_proven wsX6_proven { frames := 7, cells := 2, slots := 12, locals := 103 } D (zT g) (wC g a C m) [.ref (a 0), .int (x), .int (y)] (fun r w' => r = ifI (¬ C 14 (nN x) = 0) (cSum C 16 (nN x) y) (nI 0) ∧ w' = wC g a C m ∧ (rng x (cP C)) ∧ (rng y 8)) (fun E w' => w' = wC g a C m ∧ ((E = "java/lang/IndexOutOfBoundsException" ∧ ¬ (rng x (cP C))) ∨ (E = "java/lang/IndexOutOfBoundsException" ∧ (rng x (cP C)) ∧ ¬ (rng y 8)))) 2 12 := by
  refine zThrI_of (cc := cX6_proven) (maxL := 3) (ret := (some .int)) (own := RX6) [(0, .ref (a 0)), (1, .int (x)), (2, .int (y))] (by decide) rfl rfl rfl (Nat.le_of_ble_eq_true rfl) ?_
  intro X A hAe hl B hr hin htab hT
  obtain ⟨b19, b3, b6, b20, b22, b27, b0⟩ := CI_bs hI
  refine z_aload_n B 0 dX6_proven_0 rfl rfl ?_
  refine z_iload_n B 1 dX6_proven_1 rfl rfl ?_
  refine z_callTV (As := [.int (x)]) (st := []) (C := RX6) (T := TX6) (N := 6) (ci := 6) (l := l) B hAe hT htab hl (cc_X6_needPage l D g a C m hst hI x) gX6_proven_X6_needPage rfl ⟨rfl, rfl⟩ nm_X6_needPage ⟨by decide, by decide⟩ 0 rfl rfl rfl (Nat.le_of_ble_eq_true rfl) dX6_proven_2 rfl rfl (by decide) (by decide) (by decide) (by decide) (fun E w' h => by exact ⟨h.1, (Or.inl (⟨h.2.1, h.2.2⟩))⟩) (fun w1 hrr => ?_)
  obtain ⟨rfl, hp2⟩ := hrr
  have khp2 := hp2
  obtain ⟨jx, hjx, rfl⟩ := hp2
  have ejx : nN (nI jx) = jx := nN_nI (by omega)
  refine z_iload_n B 2 dX6_proven_5 rfl rfl ?_
  refine z_callTSV (As := [.int (y)]) (st := []) (l := l) B hAe hT htab hl (cc_X6_needAccount l D g a C m hst hI y) gX6_proven_X6_needAccount rfl ⟨rfl, rfl⟩ nm_X6_needAccount ⟨by decide, by decide⟩ rfl (Nat.le_of_ble_eq_true rfl) dX6_proven_6 rfl rfl (by decide) (by decide) (by decide) (by decide) (fun E w' h => by (try rw [ejx]); exact ⟨h.1, (Or.inr (⟨h.2.1, khp2, h.2.2⟩))⟩) (fun w1 hrr => ?_)
  obtain ⟨rfl, hp6⟩ := hrr
  refine z_aload_n B 0 dX6_proven_9 rfl rfl ?_
  refine z_get (C := RX6) (T := TX6) (N := 6) (v := .ref (a 3)) B 0 2 1 fw_X6_proven_X6 rfl rfl (by decide) rfl rfl rfl dX6_proven_10 ?_
  refine z_get (C := RX0) (T := TX0) (N := 11) (v := .ref (a 17)) B 3 7 2 fw_X6_proven_X0 rfl rfl (by decide) rfl rfl rfl dX6_proven_13 ?_
  refine z_iload_n B 1 dX6_proven_16 rfl rfl ?_
  refine z_zald (g := (C 14)) (i := jx) B 17 1 rfl rfl (by omega) (by decide) dX6_proven_17 ?_
  refine z_if_eq B 40 dX6_proven_18 (by decide) (fun zc18 => ?_) (fun zc18 => ?_)
  · refine z_iconst (v := nI 0) B dX6_proven_40 (by decide) ?_
    exact z_xr (z_mret B hAe hr dX6_proven_41 rfl (by decide) (by decide) (by try rw [ejx]; exact ⟨(by first | rw [ifI_t zc18] | rw [ifI_f (not_not_intro zc18)]), rfl, khp2, hp6⟩))
  · refine z_aload_n B 0 dX6_proven_21 rfl rfl ?_
    refine z_get (C := RX6) (T := TX6) (N := 6) (v := .ref (a 3)) B 0 2 1 fw_X6_proven_X6 rfl rfl (by decide) rfl rfl rfl dX6_proven_22 ?_
    refine z_aload_n B 0 dX6_proven_25 rfl rfl ?_
    refine z_get (C := RX6) (T := TX6) (N := 6) (v := .ref (a 3)) B 0 2 1 fw_X6_proven_X6 rfl rfl (by decide) rfl rfl rfl dX6_proven_26 ?_
    refine z_get (C := RX0) (T := TX0) (N := 11) (v := .ref (a 18)) B 3 8 3 fw_X6_proven_X0 rfl rfl (by decide) rfl rfl rfl dX6_proven_29 ?_
    refine z_iload_n B 1 dX6_proven_32 rfl rfl ?_
    refine z_iload_n B 2 dX6_proven_33 rfl rfl ?_
    refine z_callP (As := [.ref (a 18), .int (nI (jx)), .int (y)]) (st := []) (C := RX0) (T := TX0) (N := 11) (ci := 0) (l := l) B hl (cc_X0_sumOn_W l D g a C m hI jx (by omega) y) gX6_proven_X0_sumOn rfl ⟨rfl, rfl⟩ nm_X0_sumOn ⟨by decide, by decide⟩ (fun _ h => h) 3 rfl rfl rfl (Nat.le_of_ble_eq_true rfl) dX6_proven_34 (by decide) (by decide) (fun r hr => ?_)
    subst hr
    refine z_goto B 41 dX6_proven_37 (by decide) ?_
    exact z_xr (z_mret B hAe hr dX6_proven_41 rfl (by decide) (by decide) (by try rw [ejx]; exact ⟨(by first | rw [ifI_t zc18] | rw [ifI_f (not_not_intro zc18)]), rfl, khp2, hp6⟩))
theorem fw_X6_proves_X0 : zF wsX6_proves RX0 TX0 11 := fun _ h => List.mem_cons_of_mem _ (List.mem_append_left _ (List.mem_append_left _ (List.mem_append_left _ (List.mem_append_right _ (h)))))
theorem fw_X6_proves_X6 : zF wsX6_proves RX6 TX6 6 := fun _ h => List.mem_cons_of_mem _ (List.mem_append_left _ (List.mem_append_left _ (List.mem_append_left _ (List.mem_append_left _ (List.mem_append_right _ (h))))))
set_option maxHeartbeats 4000000 in
set_option maxRecDepth 100000 in
theorem cc_X6_proves (l : Launch) (D : va_G) (g : zG) (a : Nat → Nat) (C : zMS) (m : Nat) (hst : l.stackTraces = false) (hI : CI C) (x : Int32) (y : Int32) : zThrI l yX6_proves wsX6_proves { frames := 7, cells := 2, slots := 12, locals := 103 } D (zT g) (wC g a C m) [.ref (a 0), .int (x), .int (y)] (fun r w' => r = bI (fMk (C 1) (C 2) (nMk (nMk (nI 1) (C 7 (nN x))) y) (cD C) = C 9 (nN x)) ∧ w' = wC g a C m ∧ (rng x (cP C)) ∧ (rng y 10000)) (fun E w' => w' = wC g a C m ∧ ((E = "java/lang/IndexOutOfBoundsException" ∧ ¬ (rng x (cP C))) ∨ (E = "java/lang/IllegalArgumentException" ∧ (rng x (cP C)) ∧ ¬ (rng y 10000)))) 2 12 := by
  refine zThrI_of (cc := cX6_proves) (maxL := 3) (ret := (some .boolean)) (own := RX6) [(0, .ref (a 0)), (1, .int (x)), (2, .int (y))] (by decide) rfl rfl rfl (Nat.le_of_ble_eq_true rfl) ?_
  intro X A hAe hl B hr hin htab hT
  obtain ⟨b19, b3, b6, b20, b22, b27, b0⟩ := CI_bs hI
  refine z_aload_n B 0 dX6_proves_0 rfl rfl ?_
  refine z_iload_n B 1 dX6_proves_1 rfl rfl ?_
  refine z_callTV (As := [.int (x)]) (st := []) (C := RX6) (T := TX6) (N := 6) (ci := 6) (l := l) B hAe hT htab hl (cc_X6_needPage l D g a C m hst hI x) gX6_proves_X6_needPage rfl ⟨rfl, rfl⟩ nm_X6_needPage ⟨by decide, by decide⟩ 0 rfl rfl rfl (Nat.le_of_ble_eq_true rfl) dX6_proves_2 rfl rfl (by decide) (by decide) (by decide) (by decide) (fun E w' h => by exact ⟨h.1, (Or.inl (⟨h.2.1, h.2.2⟩))⟩) (fun w1 hrr => ?_)
  obtain ⟨rfl, hp2⟩ := hrr
  have khp2 := hp2
  obtain ⟨jx, hjx, rfl⟩ := hp2
  have ejx : nN (nI jx) = jx := nN_nI (by omega)
  refine z_iload_n B 2 dX6_proves_5 rfl rfl ?_
  refine z_callTSV (As := [.int (y)]) (st := []) (l := l) B hAe hT htab hl (cc_X6_needText l D g a C m hst hI y) gX6_proves_X6_needText rfl ⟨rfl, rfl⟩ nm_X6_needText ⟨by decide, by decide⟩ rfl (Nat.le_of_ble_eq_true rfl) dX6_proves_6 rfl rfl (by decide) (by decide) (by decide) (by decide) (fun E w' h => by (try rw [ejx]); exact ⟨h.1, (Or.inr (⟨h.2.1, khp2, h.2.2⟩))⟩) (fun w1 hrr => ?_)
  obtain ⟨rfl, hp6⟩ := hrr
  refine z_aload_n B 0 dX6_proves_9 rfl rfl ?_
  refine z_get (C := RX6) (T := TX6) (N := 6) (v := .ref (a 1)) B 0 0 1 fw_X6_proves_X6 rfl rfl (by decide) rfl rfl rfl dX6_proves_10 ?_
  refine z_aload_n B 0 dX6_proves_13 rfl rfl ?_
  refine z_get (C := RX6) (T := TX6) (N := 6) (v := .ref (a 3)) B 0 2 2 fw_X6_proves_X6 rfl rfl (by decide) rfl rfl rfl dX6_proves_14 ?_
  refine z_get (C := RX0) (T := TX0) (N := 11) (v := .ref (a 10)) B 3 0 3 fw_X6_proves_X0 rfl rfl (by decide) rfl rfl rfl dX6_proves_17 ?_
  refine z_iload_n B 1 dX6_proves_20 rfl rfl ?_
  refine z_iald (g := (C 7)) (i := jx) B 10 0 rfl rfl (by omega) (by decide) dX6_proves_21 ?_
  refine z_iload_n B 2 dX6_proves_22 rfl rfl ?_
  refine z_callP (As := [.int (C 7 jx), .int (y)]) (st := []) (C := RX3) (T := TX3) (N := 3) (ci := 3) (l := l) B hl (cc_X3_markWith_D l D g a C m (C 7 jx) y (cD C) (CI_3 (C := C) hI) (by omega)) gX6_proves_X3_markWith rfl ⟨rfl, rfl⟩ nm_X3_markWith ⟨by decide, by decide⟩ (fun _ h => h) 1 rfl rfl rfl (Nat.le_of_ble_eq_true rfl) dX6_proves_23 (by decide) (by decide) (fun r hr => ?_)
  subst hr
  refine z_aload_n B 0 dX6_proves_26 rfl rfl ?_
  refine z_get (C := RX6) (T := TX6) (N := 6) (v := .ref (a 3)) B 0 2 2 fw_X6_proves_X6 rfl rfl (by decide) rfl rfl rfl dX6_proves_27 ?_
  refine z_get (C := RX0) (T := TX0) (N := 11) (v := .ref (a 12)) B 3 2 4 fw_X6_proves_X0 rfl rfl (by decide) rfl rfl rfl dX6_proves_30 ?_
  refine z_iload_n B 1 dX6_proves_33 rfl rfl ?_
  refine z_iald (g := (C 9)) (i := jx) B 12 0 rfl rfl (by omega) (by decide) dX6_proves_34 ?_
  refine z_icmp_ne B 42 dX6_proves_35 (by decide) (fun zc35 => ?_) (fun zc35 => ?_)
  · refine z_iconst (v := nI 0) B dX6_proves_42 (by decide) ?_
    exact z_xr (z_mret B hAe hr dX6_proves_43 (nar_b (Or.inl rfl)) (by decide) (by decide) (by try rw [ejx]; exact ⟨(by exact bI_z zc35), rfl, khp2, hp6⟩))
  · refine z_iconst (v := nI 1) B dX6_proves_38 (by decide) ?_
    refine z_goto B 43 dX6_proves_39 (by decide) ?_
    exact z_xr (z_mret B hAe hr dX6_proves_43 (nar_b (Or.inr rfl)) (by decide) (by decide) (by try rw [ejx]; exact ⟨(by exact bI_1 zc35), rfl, khp2, hp6⟩))
