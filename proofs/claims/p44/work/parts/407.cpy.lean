theorem fw_X6_copy_X6 : zF wsX6_copy RX6 TX6 6 := fun _ h => List.mem_cons_of_mem _ (List.mem_append_left _ (List.mem_append_left _ (List.mem_append_left _ (List.mem_append_left _ (List.mem_append_left _ (List.mem_append_right _ (h)))))))
theorem fw_X6_copyFrom_X6 : zF wsX6_copyFrom RX6 TX6 6 := fun _ h => List.mem_cons_of_mem _ (List.mem_append_left _ (List.mem_append_left _ (List.mem_append_left _ (List.mem_append_left _ (List.mem_append_left _ (List.mem_append_left _ (List.mem_append_right _ (h))))))))
set_option maxHeartbeats 4000000 in
set_option maxRecDepth 100000 in
theorem cl_X6_copy (l : Launch) (D : va_G) (g : zG) (a : Nat → Nat) (C : zMS) (hst : l.stackTraces = false) (hI : CI C) (hJ : CJ C) : zThrL l yX6_copy wsX6_copy { frames := 7, cells := 5, slots := 413, locals := 110 } D (zT g) (wC g a C (4 * cM C)) [.ref (a 0)] (fun r w' => mkPost g a C (-1) 0 r w' ∧ (cM C < 16 ∧ zcnt (fun p => cSt C p = 1) (cP C) = 0)) (fun E w' => w' = wC g a C (4 * cM C) ∧ (E = "java/lang/IllegalStateException" ∧ ¬ (cM C < 16 ∧ zcnt (fun p => cSt C p = 1) (cP C) = 0))) 5 413 := by
  refine zThrL_of (cc := cX6_copy) (maxL := 1) (ret := (some .int)) (own := RX6) [(0, .ref (a 0))] (by decide) rfl rfl rfl (Nat.le_of_ble_eq_true rfl) ?_
  intro X A hAe hl B hr hin htab hLF
  have hT := hLF.1
  refine z_aload_n B 0 dX6_copy_0 rfl rfl ?_
  refine z_callTV (As := []) (st := []) (C := RX6) (T := TX6) (N := 6) (ci := 6) (l := l) B hAe hT htab hl (cc_X6_needRoomForCopy l D g a C (4 * cM C) hst hI) gX6_copy_X6_needRoomForCopy rfl ⟨rfl, rfl⟩ nm_X6_needRoomForCopy ⟨by decide, by decide⟩ 0 rfl rfl rfl (Nat.le_of_ble_eq_true rfl) dX6_copy_1 rfl rfl (by decide) (by decide) (by decide) (by decide) (fun E w' h => h) (fun w1 hrr => ?_)
  obtain ⟨rfl, hG⟩ := hrr
  refine z_aload_n B 0 dX6_copy_4 rfl rfl ?_
  refine z_get (C := RX6) (T := TX6) (N := 6) (v := .ref (a 4)) B 0 3 1 fw_X6_copy_X6 rfl rfl (by decide) rfl rfl rfl dX6_copy_5 ?_
  refine z_null B dX6_copy_8 ?_
  refine z_aload_n B 0 dX6_copy_9 rfl rfl ?_
  refine z_get (C := RX6) (T := TX6) (N := 6) (v := .ref (a 3)) B 0 2 2 fw_X6_copy_X6 rfl rfl (by decide) rfl rfl rfl dX6_copy_10 ?_
  refine z_callF (As := [.null, .ref (a 3)]) (st := []) (C := RX5) (T := TX5) (N := 2) (ci := 5) (l := l) B hLF.2.1 hl (cf_X5_make_N l D g a C hI hJ hG.1) gX6_copy_X5_make rfl ⟨rfl, rfl⟩ nm_X5_make ⟨by decide, by decide⟩ 4 rfl rfl rfl (Nat.le_of_ble_eq_true rfl) dX6_copy_13 rfl rfl (by decide) (by decide) (fun r w1 hr1 => ?_)
  exact z_xr (z_mret B hAe hr dX6_copy_16 rfl (by decide) (by decide) ⟨hr1, hG⟩)
set_option maxHeartbeats 4000000 in
set_option maxRecDepth 100000 in
theorem cl_X6_copyFrom (l : Launch) (D : va_G) (g : zG) (a : Nat → Nat) (C : zMS) (hst : l.stackTraces = false) (hI : CI C) (hJ : CJ C) (x : Int32) : zThrL l yX6_copyFrom wsX6_copyFrom { frames := 7, cells := 6, slots := 419, locals := 110 } D (zT g) (wC g a C (4 * cM C)) [.ref (a 0), .int x] (fun r w' => mkPost g a C x (cE C (nN x)) r w' ∧ (cCx C x) ∧ (cM C < 16 ∧ zcnt (fun p => cSt C p = 1) (cP C) = 0)) (fun E w' => w' = wC g a C (4 * cM C) ∧ ((E = "java/lang/IndexOutOfBoundsException" ∧ ¬ (cCx C x)) ∨ (E = "java/lang/IllegalStateException" ∧ (cCx C x) ∧ ¬ (cM C < 16 ∧ zcnt (fun p => cSt C p = 1) (cP C) = 0)))) 6 419 := by
  refine zThrL_of (cc := cX6_copyFrom) (maxL := 3) (ret := (some .int)) (own := RX6) [(0, .ref (a 0)), (1, .int x)] (by decide) rfl rfl rfl (Nat.le_of_ble_eq_true rfl) ?_
  intro X A hAe hl B hr hin htab hLF
  have hT := hLF.1
  have b20 := CI_b20 hI
  refine z_aload_n B 0 dX6_copyFrom_0 rfl rfl ?_
  refine z_iload_n B 1 dX6_copyFrom_1 rfl rfl ?_
  refine z_callTQ (As := [.int x]) (st := []) (C := RX6) (T := TX6) (N := 6) (ci := 6) (l := l) B hAe hT htab hl (cc_X6_needCopy l D g a C (4 * cM C) hst hI x) gX6_copyFrom_X6_needCopy rfl ⟨rfl, rfl⟩ nm_X6_needCopy ⟨by decide, by decide⟩ 0 rfl rfl rfl (Nat.le_of_ble_eq_true rfl) dX6_copyFrom_2 rfl rfl (by decide) (by decide) (by decide) (by decide) (fun E w' h => ⟨h.1, Or.inl h.2⟩) (fun r w1 hrr => ?_)
  obtain ⟨rfl, jx, rfl, hjx, h1jx, rfl⟩ := hrr
  have ejx : nN (nI jx) = jx := nN_nI (by omega)
  have hcx : cCx C (nI jx) := ⟨jx, rfl, hjx, h1jx⟩
  refine z_topv (y := .ref (a (30 + 4 * jx))) rfl ?_
  refine z_astore_n (lv1 := [(2, .ref (a (30 + 4 * jx))), (0, .ref (a 0)), (1, .int (nI jx))]) B dX6_copyFrom_5 rfl (by decide) rfl ?_
  refine z_aload_n B 1 dX6_copyFrom_6 rfl rfl ?_
  refine z_callTV (As := []) (st := []) (C := RX6) (T := TX6) (N := 6) (ci := 6) (l := l) B hAe hT htab hl (cc_X6_needRoomForCopy l D g a C (4 * cM C) hst hI) gX6_copyFrom_X6_needRoomForCopy rfl ⟨rfl, rfl⟩ nm_X6_needRoomForCopy ⟨by decide, by decide⟩ 0 rfl rfl rfl (Nat.le_of_ble_eq_true rfl) dX6_copyFrom_7 rfl rfl (by decide) (by decide) (by decide) (by decide) (fun E w' h => ⟨h.1, Or.inr ⟨h.2.1, hcx, h.2.2⟩⟩) (fun w1 hrr => ?_)
  obtain ⟨rfl, hG⟩ := hrr
  refine z_aload_n B 1 dX6_copyFrom_10 rfl rfl ?_
  refine z_get (C := RX6) (T := TX6) (N := 6) (v := .ref (a 4)) B 0 3 1 fw_X6_copyFrom_X6 rfl rfl (by decide) rfl rfl rfl dX6_copyFrom_11 ?_
  refine z_aload_n B 0 dX6_copyFrom_14 rfl rfl ?_
  refine z_aload_n B 1 dX6_copyFrom_15 rfl rfl ?_
  refine z_get (C := RX6) (T := TX6) (N := 6) (v := .ref (a 3)) B 0 2 2 fw_X6_copyFrom_X6 rfl rfl (by decide) rfl rfl rfl dX6_copyFrom_16 ?_
  refine z_callF (As := [.ref (a (30 + 4 * jx)), .ref (a 3)]) (st := []) (C := RX5) (T := TX5) (N := 2) (ci := 5) (l := l) B hLF.2.1 hl (cf_X5_make_K l D g a C hI hJ hG.1 jx hjx) gX6_copyFrom_X5_make rfl ⟨rfl, rfl⟩ nm_X5_make ⟨by decide, by decide⟩ 4 rfl rfl rfl (Nat.le_of_ble_eq_true rfl) dX6_copyFrom_19 rfl rfl (by decide) (by decide) (fun r w1 hr1 => ?_)
  exact z_xr (z_mret B hAe hr dX6_copyFrom_22 rfl (by decide) (by decide) ⟨by rw [ejx]; exact hr1, hcx, hG⟩)
