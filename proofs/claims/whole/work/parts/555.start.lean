/-! where the law begins -/
theorem INV_z : INV zC0 zC0 := by
  have z0 : nN (nI 0) = 0 := nN_nI (by decide)
  have e : (zC0 5 0) = nI 0 := rfl
  refine ⟨?_, ?_, ⟨rfl, rfl, rfl, rfl, rfl, rfl, fun l hl => ⟨rfl, rfl⟩⟩, fun p hp => absurd hp (by rw [show mP zC0 = 0 from z0]; omega), fun p hp => absurd hp (by rw [show mP zC0 = 0 from z0]; omega), fun p _ _ => ⟨rfl, rfl, rfl, fun l _ => ⟨rfl, rfl⟩⟩, fun k hk => absurd hk (by rw [show mC zC0 = 0 from z0]; omega), ⟨fun c hc => absurd hc (by rw [show mK zC0 = 0 from z0]; omega), fun k hk => absurd hk (by rw [show mH zC0 = 0 from z0]; omega)⟩, ⟨fun p q _ hq => absurd hq (by rw [show mP zC0 = 0 from z0]; omega), fun p hp => absurd hp (by rw [show mP zC0 = 0 from z0]; omega), fun p hp => absurd hp (by rw [show mP zC0 = 0 from z0]; omega)⟩, ⟨fun k hk => absurd hk (by rw [show mC zC0 = 0 from z0]; omega), fun k hk => absurd hk (by rw [show mC zC0 = 0 from z0]; omega)⟩⟩
  · have s : ∀ n : Nat, nI 0 = nI (nN (nI 0)) ∧ nN (nI 0) ≤ n := fun n => ⟨by rw [z0], by rw [z0]; exact Nat.zero_le _⟩
    exact ⟨s 80, s 4, s 16, s 8, s 30, s 400, fun _ => s 4, fun _ => s 80, fun _ => s 80, fun _ => Or.inl rfl, fun _ => Or.inl rfl, fun _ => Or.inl rfl, fun _ => Or.inl rfl, fun _ => Or.inl rfl⟩
  · have s : ∀ n : Nat, nI 0 = nI (nN (nI 0)) ∧ nN (nI 0) ≤ n := fun n => ⟨by rw [z0], by rw [z0]; exact Nat.zero_le _⟩
    exact ⟨s 80, s 4, s 4, s 16, s 8, s 30, s 400, fun _ => s 4, fun _ => s 7, fun _ => s 80, fun _ => s 80, fun _ => Or.inl rfl, fun _ => Or.inl rfl, fun _ => Or.inl rfl, fun _ => Or.inl rfl, fun _ => Or.inl rfl, fun _ => Or.inl rfl, fun _ _ => Or.inl rfl, fun j hj => absurd hj (show ¬ (nI 0 : Int32) = 1 by decide)⟩
set_option maxHeartbeats 4000000 in
set_option maxRecDepth 100000 in
theorem law_walk {X : zX} {l : Launch} {D : va_G} {g : zG} {A : Nat → Prop} {Q : State → Prop} {b L : Nat} {xs : Nat → Int32} (hLw : zLaw X l D g A b L xs) (hL2 : L ≤ 2560) (final : ∀ (w : va_W) (k n : Nat) (lv : List (Nat × Value)), k ≤ 601024 → n ≤ 7293034 → zJ X 7 (zI1 D A (zs X)) Q w k n lv 2512 []) : zJ X 7 (zI1 D A (zs X)) Q [] 0 0 [(0, .ref b)] 0 [] := by
  have hLw' := hLw
  obtain ⟨B, hLF, hX, hbl, hbA, hL, hl, hst⟩ := hLw
  have hNF := hLF.2.1
  refine z_new (C := RX6) (T := TX6) (N := 6) (ci := 6) (fs := [.null, .null, .null, .null, .null, .int (nI 0)]) B inlX6 tyX6 tyX6_ok (List.mem_of_getElem? (i := 0) (by decide +kernel)) (List.mem_of_getElem? (i := 1) (by decide +kernel)) (List.mem_of_getElem? (i := 2) (by decide +kernel)) rfl df_X6 (Nat.le_of_ble_eq_true rfl) (Nat.le_of_ble_eq_true rfl) dL_law_0 (fun q => ?_)
  refine z_dup B dL_law_3 rfl ?_
  refine z_callI (w1 := []) (As := []) (st := [.ref q]) B hNF hl (ci_X6 l D g q) gL_law_X6_init (List.mem_of_getElem? (i := 7) (by decide +kernel)) (List.mem_of_getElem? (i := 2) (by decide +kernel)) (List.mem_of_getElem? (i := 8) (by decide +kernel)) rfl rfl ⟨rfl, rfl⟩ nm_X6_init (by decide) rfl (Nat.le_of_ble_eq_true rfl) dL_law_4 rfl rfl (Nat.le_of_ble_eq_true rfl) (Nat.le_of_ble_eq_true rfl) (fun w1 hw1 => ?_)
  obtain ⟨a, ha, rfl⟩ := hw1
  refine z_w (w' := wC g a zC0 0) rfl ?_
  refine z_astore_n (lv1 := [(1, .ref q), (0, .ref b)]) B dL_law_7 rfl (by decide) rfl ?_
  refine z_new (C := RX7) (T := TX7) (N := 30) (ci := 7) (fs := [.int (nI 0), .int (nI 0), .int (nI 0), .null, .null, .int (nI 0), .null, .null, .null, .null, .null, .null, .null, .null, .null, .int (nI 0), .null, .null, .null, .null, .null, .null, .null, .int (nI 0), .null, .int (nI 0), .null, .null, .null, .null]) B inlX7 tyX7 tyX7_ok (List.mem_of_getElem? (i := 3) (by decide +kernel)) (List.mem_of_getElem? (i := 4) (by decide +kernel)) (List.mem_of_getElem? (i := 5) (by decide +kernel)) rfl df_X7 (Nat.le_of_ble_eq_true rfl) (Nat.le_of_ble_eq_true rfl) dL_law_8 (fun h0 => ?_)
  refine z_dup B dL_law_11 rfl ?_
  refine z_callI (w1 := wC g a zC0 0) (As := []) (st := [.ref h0]) B hNF hl (ci_X7 l D g h0) gL_law_X7_init (List.mem_of_getElem? (i := 77) (by decide +kernel)) (List.mem_of_getElem? (i := 5) (by decide +kernel)) (List.mem_of_getElem? (i := 78) (by decide +kernel)) rfl rfl ⟨rfl, rfl⟩ nm_X7_init (by decide) rfl (Nat.le_of_ble_eq_true rfl) dL_law_12 rfl rfl (Nat.le_of_ble_eq_true rfl) (Nat.le_of_ble_eq_true rfl) (fun w1 hw1 => ?_)
  obtain ⟨am, rfl⟩ := hw1
  refine z_astore_n (lv1 := [(2, .ref h0), (1, .ref q), (0, .ref b)]) B dL_law_15 rfl (by decide) rfl ?_
  refine z_iconst (v := nI 1) B dL_law_16 (by decide) ?_
  refine z_newl B 1 3 rfl (List.mem_of_getElem? (i := 6) (by decide +kernel)) (by decide) (Nat.le_of_ble_eq_true rfl) (Nat.le_of_ble_eq_true rfl) dL_law_17 (fun o => ?_)
  refine z_astore_n (lv1 := [(3, .ref o), (2, .ref h0), (1, .ref q), (0, .ref b)]) B dL_law_19 rfl (by decide) rfl ?_
  refine z_iconst (v := nI 0) B dL_law_20 (by decide) ?_
  refine z_istore (lv1 := [(4, .int (nI 0)), (3, .ref o), (2, .ref h0), (1, .ref q), (0, .ref b)]) B dL_law_21 (by decide) rfl ?_
  refine z_w (w' := wC g a zC0 0 ++ (wM g h0 am zC0 ++ [(o, .inl (g.2.2.2, 1, .inr (.inl (fun _ => 0))))])) (List.append_assoc _ _ _) ?_
  refine z_swap ?_
  refine z_w (w' := wLw g h0 am zC0 o (fun _ => 0) a zC0) (by unfold wLw; rw [List.append_assoc, show 4 * cM zC0 = 0 from rfl]; rfl) ?_
  refine z_loc [4, 3, 2, 1, 0] (lv' := [(0, .ref b), (1, .ref q), (2, .ref h0), (3, .ref o), (4, .int (nI 0))]) rfl ?_
  refine z_wid (k' := 600) (n' := 11000) (by decide) (by decide) ?_
  exact law_loop hLw' final 513 0 600 11000 a zC0 zC0 (fun _ => 0) (by omega) (by omega) (by decide) (by decide) INV_z ha hL2
