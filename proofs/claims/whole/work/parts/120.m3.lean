set_option maxHeartbeats 4000000 in
set_option maxRecDepth 100000 in
theorem c7_noPage (l : Launch) (D : va_G) (g : zG) (h : Nat) (a : Nat → Nat) (M : zMS) (hI : MI M) (x : Int32) : zMutI l yX7_noPage wsX7_noPage { frames := 2, cells := 0, slots := 0, locals := 43 } D (zT g) (wM g h a M) [.ref h, .int (x)] (fun r w' => ∃ M', w' = wM g h a M' ∧ (¬ rng x (mP M) → r = nI 1 ∧ M' = up2 M 0 0 (nI 1)) ∧ (rng x (mP M) → r = nI 0 ∧ M' = up2 M 0 0 (nI 0))) 0 0 := by
  refine zMutI_of (cc := cX7_noPage) (maxL := 2) (ret := (some .boolean)) (own := RX7) [(0, .ref (h)), (1, .int (x))] (by decide) rfl rfl rfl (Nat.le_of_ble_eq_true rfl) ?_
  intro X A hAe hl B hr hin
  obtain ⟨b5, b2, b15, b23, b25, b1⟩ := MI_bs hI
  refine z_aload_n B 0 dX7_noPage_0 rfl rfl ?_
  refine z_aload_n B 0 dX7_noPage_1 rfl rfl ?_
  refine z_iload_n B 1 dX7_noPage_2 rfl rfl ?_
  refine z_callP (As := [.int (x)]) (st := [.ref (h)]) (C := RX7) (T := TX7) (N := 30) (ci := 7) (l := l) B hl (c7_isPage l D g h a M hI x) gX7_noPage_X7_isPage rfl ⟨rfl, rfl⟩ nm_X7_isPage ⟨by decide, by decide⟩ (fun _ h => h) 0 rfl rfl rfl (Nat.le_of_ble_eq_true rfl) dX7_noPage_3 (Nat.zero_le _) (Nat.zero_le _) (fun r hr => ?_)
  subst hr
  refine z_ifB_eq B 13 dX7_noPage_6 (by decide) (fun zc6 => ?_) (fun zc6 => ?_)
  · refine z_iconst (v := nI 1) B dX7_noPage_13 (by decide) ?_
    refine z_callM (As := [.int (nI (1))]) (st := []) (C := RX7) (T := TX7) (N := 30) (ci := 7) (l := l) B hl (c7_refused l D g h a M (nI (1))) gX7_noPage_X7_refused rfl ⟨rfl, rfl⟩ nm_X7_refused ⟨by decide, by decide⟩ 0 rfl rfl rfl (Nat.le_of_ble_eq_true rfl) dX7_noPage_14 rfl rfl (by decide) (by decide) (fun r w1 hr => ?_)
    obtain ⟨hr1, rfl⟩ := hr
    rw [bI_t (show ¬ nI (1) = 0 by decide)] at hr1
    obtain rfl : r = nI 1 := hr1
    exact z_mret B hAe hr dX7_noPage_17 (nar_b (Or.inr rfl)) (by decide) (by decide) (by refine ⟨_, rfl, ?_⟩; refine ⟨?_, ?_⟩ <;> intros <;> first | contradiction | rfl | exact ⟨rfl, rfl⟩ | omega  | exact ⟨bI_1 (by assumption), rfl⟩ | exact ⟨bI_z (by assumption), rfl⟩)
  · refine z_iconst (v := nI 0) B dX7_noPage_9 (by decide) ?_
    refine z_goto B 14 dX7_noPage_10 (by decide) ?_
    refine z_callM (As := [.int (nI (0))]) (st := []) (C := RX7) (T := TX7) (N := 30) (ci := 7) (l := l) B hl (c7_refused l D g h a M (nI (0))) gX7_noPage_X7_refused rfl ⟨rfl, rfl⟩ nm_X7_refused ⟨by decide, by decide⟩ 0 rfl rfl rfl (Nat.le_of_ble_eq_true rfl) dX7_noPage_14 rfl rfl (by decide) (by decide) (fun r w1 hr => ?_)
    obtain ⟨hr1, rfl⟩ := hr
    rw [bI_f (show ¬ ¬ nI (0) = 0 by decide)] at hr1
    obtain rfl : r = nI 0 := hr1
    exact z_mret B hAe hr dX7_noPage_17 (nar_b (Or.inl rfl)) (by decide) (by decide) (by refine ⟨_, rfl, ?_⟩; refine ⟨?_, ?_⟩ <;> intros <;> first | contradiction | rfl | exact ⟨rfl, rfl⟩ | omega  | exact ⟨bI_1 (by assumption), rfl⟩ | exact ⟨bI_z (by assumption), rfl⟩)
set_option maxHeartbeats 4000000 in
set_option maxRecDepth 100000 in
theorem c7_noCopy (l : Launch) (D : va_G) (g : zG) (h : Nat) (a : Nat → Nat) (M : zMS) (hI : MI M) (x : Int32) : zMutI l yX7_noCopy wsX7_noCopy { frames := 2, cells := 0, slots := 0, locals := 43 } D (zT g) (wM g h a M) [.ref h, .int (x)] (fun r w' => ∃ M', w' = wM g h a M' ∧ (¬ pCx M x → r = nI 1 ∧ M' = up2 M 0 0 (nI 1)) ∧ (pCx M x → r = nI 0 ∧ M' = up2 M 0 0 (nI 0))) 0 0 := by
  refine zMutI_of (cc := cX7_noCopy) (maxL := 2) (ret := (some .boolean)) (own := RX7) [(0, .ref (h)), (1, .int (x))] (by decide) rfl rfl rfl (Nat.le_of_ble_eq_true rfl) ?_
  intro X A hAe hl B hr hin
  obtain ⟨b5, b2, b15, b23, b25, b1⟩ := MI_bs hI
  refine z_aload_n B 0 dX7_noCopy_0 rfl rfl ?_
  refine z_aload_n B 0 dX7_noCopy_1 rfl rfl ?_
  refine z_iload_n B 1 dX7_noCopy_2 rfl rfl ?_
  refine z_callP (As := [.int (x)]) (st := [.ref (h)]) (C := RX7) (T := TX7) (N := 30) (ci := 7) (l := l) B hl (c7_isCopy l D g h a M hI x) gX7_noCopy_X7_isCopy rfl ⟨rfl, rfl⟩ nm_X7_isCopy ⟨by decide, by decide⟩ (fun _ h => h) 0 rfl rfl rfl (Nat.le_of_ble_eq_true rfl) dX7_noCopy_3 (Nat.zero_le _) (Nat.zero_le _) (fun r hr => ?_)
  subst hr
  refine z_ifB_eq B 13 dX7_noCopy_6 (by decide) (fun zc6 => ?_) (fun zc6 => ?_)
  · refine z_iconst (v := nI 1) B dX7_noCopy_13 (by decide) ?_
    refine z_callM (As := [.int (nI (1))]) (st := []) (C := RX7) (T := TX7) (N := 30) (ci := 7) (l := l) B hl (c7_refused l D g h a M (nI (1))) gX7_noCopy_X7_refused rfl ⟨rfl, rfl⟩ nm_X7_refused ⟨by decide, by decide⟩ 0 rfl rfl rfl (Nat.le_of_ble_eq_true rfl) dX7_noCopy_14 rfl rfl (by decide) (by decide) (fun r w1 hr => ?_)
    obtain ⟨hr1, rfl⟩ := hr
    rw [bI_t (show ¬ nI (1) = 0 by decide)] at hr1
    obtain rfl : r = nI 1 := hr1
    exact z_mret B hAe hr dX7_noCopy_17 (nar_b (Or.inr rfl)) (by decide) (by decide) (by refine ⟨_, rfl, ?_⟩; refine ⟨?_, ?_⟩ <;> intros <;> first | contradiction | rfl | exact ⟨rfl, rfl⟩ | omega  | exact ⟨bI_1 (by assumption), rfl⟩ | exact ⟨bI_z (by assumption), rfl⟩)
  · refine z_iconst (v := nI 0) B dX7_noCopy_9 (by decide) ?_
    refine z_goto B 14 dX7_noCopy_10 (by decide) ?_
    refine z_callM (As := [.int (nI (0))]) (st := []) (C := RX7) (T := TX7) (N := 30) (ci := 7) (l := l) B hl (c7_refused l D g h a M (nI (0))) gX7_noCopy_X7_refused rfl ⟨rfl, rfl⟩ nm_X7_refused ⟨by decide, by decide⟩ 0 rfl rfl rfl (Nat.le_of_ble_eq_true rfl) dX7_noCopy_14 rfl rfl (by decide) (by decide) (fun r w1 hr => ?_)
    obtain ⟨hr1, rfl⟩ := hr
    rw [bI_f (show ¬ ¬ nI (0) = 0 by decide)] at hr1
    obtain rfl : r = nI 0 := hr1
    exact z_mret B hAe hr dX7_noCopy_17 (nar_b (Or.inl rfl)) (by decide) (by decide) (by refine ⟨_, rfl, ?_⟩; refine ⟨?_, ?_⟩ <;> intros <;> first | contradiction | rfl | exact ⟨rfl, rfl⟩ | omega  | exact ⟨bI_1 (by assumption), rfl⟩ | exact ⟨bI_z (by assumption), rfl⟩)
set_option maxHeartbeats 4000000 in
set_option maxRecDepth 100000 in
theorem c7_noCase (l : Launch) (D : va_G) (g : zG) (h : Nat) (a : Nat → Nat) (M : zMS) (hI : MI M) (x : Int32) : zMutI l yX7_noCase wsX7_noCase { frames := 2, cells := 0, slots := 0, locals := 43 } D (zT g) (wM g h a M) [.ref h, .int (x)] (fun r w' => ∃ M', w' = wM g h a M' ∧ (¬ rng x (mK M) → r = nI 1 ∧ M' = up2 M 0 0 (nI 1)) ∧ (rng x (mK M) → r = nI 0 ∧ M' = up2 M 0 0 (nI 0))) 0 0 := by
  refine zMutI_of (cc := cX7_noCase) (maxL := 2) (ret := (some .boolean)) (own := RX7) [(0, .ref (h)), (1, .int (x))] (by decide) rfl rfl rfl (Nat.le_of_ble_eq_true rfl) ?_
  intro X A hAe hl B hr hin
  obtain ⟨b5, b2, b15, b23, b25, b1⟩ := MI_bs hI
  refine z_aload_n B 0 dX7_noCase_0 rfl rfl ?_
  refine z_aload_n B 0 dX7_noCase_1 rfl rfl ?_
  refine z_iload_n B 1 dX7_noCase_2 rfl rfl ?_
  refine z_callP (As := [.int (x)]) (st := [.ref (h)]) (C := RX7) (T := TX7) (N := 30) (ci := 7) (l := l) B hl (c7_isCase l D g h a M hI x) gX7_noCase_X7_isCase rfl ⟨rfl, rfl⟩ nm_X7_isCase ⟨by decide, by decide⟩ (fun _ h => h) 0 rfl rfl rfl (Nat.le_of_ble_eq_true rfl) dX7_noCase_3 (Nat.zero_le _) (Nat.zero_le _) (fun r hr => ?_)
  subst hr
  refine z_ifB_eq B 13 dX7_noCase_6 (by decide) (fun zc6 => ?_) (fun zc6 => ?_)
  · refine z_iconst (v := nI 1) B dX7_noCase_13 (by decide) ?_
    refine z_callM (As := [.int (nI (1))]) (st := []) (C := RX7) (T := TX7) (N := 30) (ci := 7) (l := l) B hl (c7_refused l D g h a M (nI (1))) gX7_noCase_X7_refused rfl ⟨rfl, rfl⟩ nm_X7_refused ⟨by decide, by decide⟩ 0 rfl rfl rfl (Nat.le_of_ble_eq_true rfl) dX7_noCase_14 rfl rfl (by decide) (by decide) (fun r w1 hr => ?_)
    obtain ⟨hr1, rfl⟩ := hr
    rw [bI_t (show ¬ nI (1) = 0 by decide)] at hr1
    obtain rfl : r = nI 1 := hr1
    exact z_mret B hAe hr dX7_noCase_17 (nar_b (Or.inr rfl)) (by decide) (by decide) (by refine ⟨_, rfl, ?_⟩; refine ⟨?_, ?_⟩ <;> intros <;> first | contradiction | rfl | exact ⟨rfl, rfl⟩ | omega  | exact ⟨bI_1 (by assumption), rfl⟩ | exact ⟨bI_z (by assumption), rfl⟩)
  · refine z_iconst (v := nI 0) B dX7_noCase_9 (by decide) ?_
    refine z_goto B 14 dX7_noCase_10 (by decide) ?_
    refine z_callM (As := [.int (nI (0))]) (st := []) (C := RX7) (T := TX7) (N := 30) (ci := 7) (l := l) B hl (c7_refused l D g h a M (nI (0))) gX7_noCase_X7_refused rfl ⟨rfl, rfl⟩ nm_X7_refused ⟨by decide, by decide⟩ 0 rfl rfl rfl (Nat.le_of_ble_eq_true rfl) dX7_noCase_14 rfl rfl (by decide) (by decide) (fun r w1 hr => ?_)
    obtain ⟨hr1, rfl⟩ := hr
    rw [bI_f (show ¬ ¬ nI (0) = 0 by decide)] at hr1
    obtain rfl : r = nI 0 := hr1
    exact z_mret B hAe hr dX7_noCase_17 (nar_b (Or.inl rfl)) (by decide) (by decide) (by refine ⟨_, rfl, ?_⟩; refine ⟨?_, ?_⟩ <;> intros <;> first | contradiction | rfl | exact ⟨rfl, rfl⟩ | omega  | exact ⟨bI_1 (by assumption), rfl⟩ | exact ⟨bI_z (by assumption), rfl⟩)
theorem fw_X7_noBalance_X7 : zF wsX7_noBalance RX7 TX7 30 := fun _ h => List.mem_cons_of_mem _ (List.mem_append_right _ (h))
set_option maxHeartbeats 4000000 in
set_option maxRecDepth 100000 in
theorem c7_noBalance (l : Launch) (D : va_G) (g : zG) (h : Nat) (a : Nat → Nat) (M : zMS) (hI : MI M) (x : Int32) (y : Int32) : zMutI l yX7_noBalance wsX7_noBalance { frames := 2, cells := 0, slots := 0, locals := 42 } D (zT g) (wM g h a M) [.ref h, .int (x), .int (y)] (fun r w' => ∃ M', w' = wM g h a M' ∧ (¬ rng x 8 → r = nI 1 ∧ M' = up2 M 0 0 (nI 1)) ∧ (rng x 8 → ¬ rng y (mT M + 1) → r = nI 1 ∧ M' = up2 M 0 0 (nI 2)) ∧ (rng x 8 → rng y (mT M + 1) → r = nI 0 ∧ M' = up2 M 0 0 (nI 0))) 0 0 := by
  refine zMutI_of (cc := cX7_noBalance) (maxL := 3) (ret := (some .boolean)) (own := RX7) [(0, .ref (h)), (1, .int (x)), (2, .int (y))] (by decide) rfl rfl rfl (Nat.le_of_ble_eq_true rfl) ?_
  intro X A hAe hl B hr hin
  obtain ⟨b5, b2, b15, b23, b25, b1⟩ := MI_bs hI
  refine z_aload_n B 0 dX7_noBalance_0 rfl rfl ?_
  refine z_iload_n B 1 dX7_noBalance_1 rfl rfl ?_
  refine z_callS (As := [.int (x)]) (st := [.ref (h)]) (l := l) B hl (c7_isAccount l D g h a M x) gX7_noBalance_X7_isAccount rfl ⟨rfl, rfl⟩ nm_X7_isAccount ⟨by decide, by decide⟩ (fun _ h => h) rfl (Nat.le_of_ble_eq_true rfl) dX7_noBalance_2 (Nat.zero_le _) (Nat.zero_le _) (fun r hr => ?_)
  subst hr
  refine z_ifB_ne B 12 dX7_noBalance_5 (by decide) (fun zc5 => ?_) (fun zc5 => ?_)
  · refine z_iload_n B 2 dX7_noBalance_12 rfl rfl ?_
    refine z_iconst (v := nI 0) B dX7_noBalance_13 (by decide) ?_
    refine z_aload_n B 0 dX7_noBalance_14 rfl rfl ?_
    refine z_get (C := RX7) (T := TX7) (N := 30) (v := .int (M 1 0)) B 0 1 1 fw_X7_noBalance_X7 rfl rfl (by decide) rfl rfl rfl dX7_noBalance_15 ?_
    refine z_top (y := nI (mT M)) (MI_1 hI) ?_
    refine z_callS (As := [.int (y), .int (nI (0)), .int (nI (mT M))]) (st := [.ref (h)]) (l := l) B hl (c7_in l D g h a M y (nI (0)) (nI (mT M))) gX7_noBalance_X7_in rfl ⟨rfl, rfl⟩ nm_X7_in ⟨by decide, by decide⟩ (fun _ h => h) rfl (Nat.le_of_ble_eq_true rfl) dX7_noBalance_18 (Nat.zero_le _) (Nat.zero_le _) (fun r hr => ?_)
    rw [bI_cg (rng_in' (by omega))] at hr
    subst hr
    refine z_ifB_eq B 28 dX7_noBalance_21 (by decide) (fun zc21 => ?_) (fun zc21 => ?_)
    · refine z_iconst (v := nI 2) B dX7_noBalance_28 (by decide) ?_
      refine z_callM (As := [.int (nI (2))]) (st := []) (C := RX7) (T := TX7) (N := 30) (ci := 7) (l := l) B hl (c7_refused l D g h a M (nI (2))) gX7_noBalance_X7_refused rfl ⟨rfl, rfl⟩ nm_X7_refused ⟨by decide, by decide⟩ 0 rfl rfl rfl (Nat.le_of_ble_eq_true rfl) dX7_noBalance_29 rfl rfl (by decide) (by decide) (fun r w1 hr => ?_)
      obtain ⟨hr1, rfl⟩ := hr
      rw [bI_t (show ¬ nI (2) = 0 by decide)] at hr1
      obtain rfl : r = nI 1 := hr1
      exact z_mret B hAe hr dX7_noBalance_32 (nar_b (Or.inr rfl)) (by decide) (by decide) (by refine ⟨_, rfl, ?_⟩; refine ⟨?_, ?_, ?_⟩ <;> intros <;> first | contradiction | rfl | exact ⟨rfl, rfl⟩ | omega  | exact ⟨bI_1 (by assumption), rfl⟩ | exact ⟨bI_z (by assumption), rfl⟩)
    · refine z_iconst (v := nI 0) B dX7_noBalance_24 (by decide) ?_
      refine z_goto B 29 dX7_noBalance_25 (by decide) ?_
      refine z_callM (As := [.int (nI (0))]) (st := []) (C := RX7) (T := TX7) (N := 30) (ci := 7) (l := l) B hl (c7_refused l D g h a M (nI (0))) gX7_noBalance_X7_refused rfl ⟨rfl, rfl⟩ nm_X7_refused ⟨by decide, by decide⟩ 0 rfl rfl rfl (Nat.le_of_ble_eq_true rfl) dX7_noBalance_29 rfl rfl (by decide) (by decide) (fun r w1 hr => ?_)
      obtain ⟨hr1, rfl⟩ := hr
      rw [bI_f (show ¬ ¬ nI (0) = 0 by decide)] at hr1
      obtain rfl : r = nI 0 := hr1
      exact z_mret B hAe hr dX7_noBalance_32 (nar_b (Or.inl rfl)) (by decide) (by decide) (by refine ⟨_, rfl, ?_⟩; refine ⟨?_, ?_, ?_⟩ <;> intros <;> first | contradiction | rfl | exact ⟨rfl, rfl⟩ | omega  | exact ⟨bI_1 (by assumption), rfl⟩ | exact ⟨bI_z (by assumption), rfl⟩)
  · refine z_iconst (v := nI 1) B dX7_noBalance_8 (by decide) ?_
    refine z_goto B 29 dX7_noBalance_9 (by decide) ?_
    refine z_callM (As := [.int (nI (1))]) (st := []) (C := RX7) (T := TX7) (N := 30) (ci := 7) (l := l) B hl (c7_refused l D g h a M (nI (1))) gX7_noBalance_X7_refused rfl ⟨rfl, rfl⟩ nm_X7_refused ⟨by decide, by decide⟩ 0 rfl rfl rfl (Nat.le_of_ble_eq_true rfl) dX7_noBalance_29 rfl rfl (by decide) (by decide) (fun r w1 hr => ?_)
    obtain ⟨hr1, rfl⟩ := hr
    rw [bI_t (show ¬ nI (1) = 0 by decide)] at hr1
    obtain rfl : r = nI 1 := hr1
    exact z_mret B hAe hr dX7_noBalance_32 (nar_b (Or.inr rfl)) (by decide) (by decide) (by refine ⟨_, rfl, ?_⟩; refine ⟨?_, ?_, ?_⟩ <;> intros <;> first | contradiction | rfl | exact ⟨rfl, rfl⟩ | omega  | exact ⟨bI_1 (by assumption), rfl⟩ | exact ⟨bI_z (by assumption), rfl⟩)
theorem fw_X7_day_X7 : zF wsX7_day RX7 TX7 30 := fun _ h => List.mem_cons_of_mem _ (List.mem_append_right _ (h))
set_option maxHeartbeats 4000000 in
set_option maxRecDepth 100000 in
theorem c7_day (l : Launch) (D : va_G) (g : zG) (h : Nat) (a : Nat → Nat) (M : zMS) (hI : MI M) : zMutI l yX7_day wsX7_day { frames := 1, cells := 0, slots := 0, locals := 21 } D (zT g) (wM g h a M) [.ref h] (fun r w' => r = nI (mT M) ∧ w' = wM g h a (up2 M 0 0 (nI 0))) 0 0 := by
  refine zMutI_of (cc := cX7_day) (maxL := 1) (ret := (some .int)) (own := RX7) [(0, .ref (h))] (by decide) rfl rfl rfl (Nat.le_of_ble_eq_true rfl) ?_
  intro X A hAe hl B hr hin
  obtain ⟨b5, b2, b15, b23, b25, b1⟩ := MI_bs hI
  refine z_aload_n B 0 dX7_day_0 rfl rfl ?_
  refine z_aload_n B 0 dX7_day_1 rfl rfl ?_
  refine z_get (C := RX7) (T := TX7) (N := 30) (v := .int (M 1 0)) B 0 1 1 fw_X7_day_X7 rfl rfl (by decide) rfl rfl rfl dX7_day_2 ?_
  refine z_top (y := nI (mT M)) (MI_1 hI) ?_
  refine z_callM (As := [.int (nI (mT M))]) (st := []) (C := RX7) (T := TX7) (N := 30) (ci := 7) (l := l) B hl (c7_fine l D g h a M (nI (mT M))) gX7_day_X7_fine rfl ⟨rfl, rfl⟩ nm_X7_fine ⟨by decide, by decide⟩ 0 rfl rfl rfl (Nat.le_of_ble_eq_true rfl) dX7_day_5 rfl rfl (by decide) (by decide) (fun r w1 hr => ?_)
  obtain ⟨rfl, rfl⟩ := hr
  exact z_mret B hAe hr dX7_day_8 rfl (by decide) (by decide) (by exact ⟨rfl, rfl⟩)
theorem fw_X7_pages_X7 : zF wsX7_pages RX7 TX7 30 := fun _ h => List.mem_cons_of_mem _ (List.mem_append_right _ (h))
set_option maxHeartbeats 4000000 in
set_option maxRecDepth 100000 in
theorem c7_pages (l : Launch) (D : va_G) (g : zG) (h : Nat) (a : Nat → Nat) (M : zMS) (hI : MI M) : zMutI l yX7_pages wsX7_pages { frames := 1, cells := 0, slots := 0, locals := 21 } D (zT g) (wM g h a M) [.ref h] (fun r w' => r = nI (mP M) ∧ w' = wM g h a (up2 M 0 0 (nI 0))) 0 0 := by
  refine zMutI_of (cc := cX7_pages) (maxL := 1) (ret := (some .int)) (own := RX7) [(0, .ref (h))] (by decide) rfl rfl rfl (Nat.le_of_ble_eq_true rfl) ?_
  intro X A hAe hl B hr hin
  obtain ⟨b5, b2, b15, b23, b25, b1⟩ := MI_bs hI
  refine z_aload_n B 0 dX7_pages_0 rfl rfl ?_
  refine z_aload_n B 0 dX7_pages_1 rfl rfl ?_
  refine z_get (C := RX7) (T := TX7) (N := 30) (v := .int (M 5 0)) B 0 5 1 fw_X7_pages_X7 rfl rfl (by decide) rfl rfl rfl dX7_pages_2 ?_
  refine z_top (y := nI (mP M)) (MI_5 hI) ?_
  refine z_callM (As := [.int (nI (mP M))]) (st := []) (C := RX7) (T := TX7) (N := 30) (ci := 7) (l := l) B hl (c7_fine l D g h a M (nI (mP M))) gX7_pages_X7_fine rfl ⟨rfl, rfl⟩ nm_X7_fine ⟨by decide, by decide⟩ 0 rfl rfl rfl (Nat.le_of_ble_eq_true rfl) dX7_pages_5 rfl rfl (by decide) (by decide) (fun r w1 hr => ?_)
  obtain ⟨rfl, rfl⟩ := hr
  exact z_mret B hAe hr dX7_pages_8 rfl (by decide) (by decide) (by exact ⟨rfl, rfl⟩)
set_option maxHeartbeats 4000000 in
set_option maxRecDepth 100000 in
theorem c7_copies (l : Launch) (D : va_G) (g : zG) (h : Nat) (a : Nat → Nat) (M : zMS) (hI : MI M) : zMutI l yX7_copies wsX7_copies { frames := 1, cells := 0, slots := 0, locals := 22 } D (zT g) (wM g h a M) [.ref h] (fun r w' => r = nI (zcnt (fun k => M 19 k = 0) (mC M)) ∧ w' = wM g h a (up2 M 0 0 (nI 0))) 0 0 := by
  refine zMutI_of (cc := cX7_copies) (maxL := 1) (ret := (some .int)) (own := RX7) [(0, .ref (h))] (by decide) rfl rfl rfl (Nat.le_of_ble_eq_true rfl) ?_
  intro X A hAe hl B hr hin
  obtain ⟨b5, b2, b15, b23, b25, b1⟩ := MI_bs hI
  refine z_aload_n B 0 dX7_copies_0 rfl rfl ?_
  refine z_aload_n B 0 dX7_copies_1 rfl rfl ?_
  refine z_callP (As := []) (st := [.ref (h)]) (C := RX7) (T := TX7) (N := 30) (ci := 7) (l := l) B hl (c7_copiesThere l D g h a M hI) gX7_copies_X7_copiesThere rfl ⟨rfl, rfl⟩ nm_X7_copiesThere ⟨by decide, by decide⟩ (fun _ h => h) 0 rfl rfl rfl (Nat.le_of_ble_eq_true rfl) dX7_copies_2 (Nat.zero_le _) (Nat.zero_le _) (fun r hr => ?_)
  subst hr
  refine z_callM (As := [.int (nI (zcnt (fun k => M 19 k = 0) (mC M)))]) (st := []) (C := RX7) (T := TX7) (N := 30) (ci := 7) (l := l) B hl (c7_fine l D g h a M (nI (zcnt (fun k => M 19 k = 0) (mC M)))) gX7_copies_X7_fine rfl ⟨rfl, rfl⟩ nm_X7_fine ⟨by decide, by decide⟩ 0 rfl rfl rfl (Nat.le_of_ble_eq_true rfl) dX7_copies_5 rfl rfl (by decide) (by decide) (fun r w1 hr => ?_)
  obtain ⟨rfl, rfl⟩ := hr
  exact z_mret B hAe hr dX7_copies_8 rfl (by decide) (by decide) (by exact ⟨rfl, rfl⟩)
set_option maxHeartbeats 4000000 in
set_option maxRecDepth 100000 in
theorem c7_gaps (l : Launch) (D : va_G) (g : zG) (h : Nat) (a : Nat → Nat) (M : zMS) (hI : MI M) : zMutI l yX7_gaps wsX7_gaps { frames := 1, cells := 0, slots := 0, locals := 22 } D (zT g) (wM g h a M) [.ref h] (fun r w' => r = nI (zcnt (fun p => M 12 p = nI 1) (mP M)) ∧ w' = wM g h a (up2 M 0 0 (nI 0))) 0 0 := by
  refine zMutI_of (cc := cX7_gaps) (maxL := 1) (ret := (some .int)) (own := RX7) [(0, .ref (h))] (by decide) rfl rfl rfl (Nat.le_of_ble_eq_true rfl) ?_
  intro X A hAe hl B hr hin
  obtain ⟨b5, b2, b15, b23, b25, b1⟩ := MI_bs hI
  refine z_aload_n B 0 dX7_gaps_0 rfl rfl ?_
  refine z_aload_n B 0 dX7_gaps_1 rfl rfl ?_
  refine z_callP (As := []) (st := [.ref (h)]) (C := RX7) (T := TX7) (N := 30) (ci := 7) (l := l) B hl (c7_burnt l D g h a M hI) gX7_gaps_X7_burnt rfl ⟨rfl, rfl⟩ nm_X7_burnt ⟨by decide, by decide⟩ (fun _ h => h) 0 rfl rfl rfl (Nat.le_of_ble_eq_true rfl) dX7_gaps_2 (Nat.zero_le _) (Nat.zero_le _) (fun r hr => ?_)
  subst hr
  refine z_callM (As := [.int (nI (zcnt (fun p => M 12 p = nI 1) (mP M)))]) (st := []) (C := RX7) (T := TX7) (N := 30) (ci := 7) (l := l) B hl (c7_fine l D g h a M (nI (zcnt (fun p => M 12 p = nI 1) (mP M)))) gX7_gaps_X7_fine rfl ⟨rfl, rfl⟩ nm_X7_fine ⟨by decide, by decide⟩ 0 rfl rfl rfl (Nat.le_of_ble_eq_true rfl) dX7_gaps_5 rfl rfl (by decide) (by decide) (fun r w1 hr => ?_)
  obtain ⟨rfl, rfl⟩ := hr
  exact z_mret B hAe hr dX7_gaps_8 rfl (by decide) (by decide) (by exact ⟨rfl, rfl⟩)
theorem fw_X7_state_X7 : zF wsX7_state RX7 TX7 30 := fun _ h => List.mem_cons_of_mem _ (List.mem_append_right _ (h))
set_option maxHeartbeats 4000000 in
set_option maxRecDepth 100000 in
theorem c7_state (l : Launch) (D : va_G) (g : zG) (h : Nat) (a : Nat → Nat) (M : zMS) (hI : MI M) (x : Int32) : zMutI l yX7_state wsX7_state { frames := 3, cells := 0, slots := 0, locals := 64 } D (zT g) (wM g h a M) [.ref h, .int (x)] (fun r w' => ∃ M', w' = wM g h a M' ∧ (¬ rng x (mP M) → M' = up2 M 0 0 (nI 1)) ∧ (rng x (mP M) → r = M 12 (nN x) ∧ M' = up2 M 0 0 (nI 0))) 0 0 := by
  refine zMutI_of (cc := cX7_state) (maxL := 2) (ret := (some .int)) (own := RX7) [(0, .ref (h)), (1, .int (x))] (by decide) rfl rfl rfl (Nat.le_of_ble_eq_true rfl) ?_
  intro X A hAe hl B hr hin
  obtain ⟨b5, b2, b15, b23, b25, b1⟩ := MI_bs hI
  refine z_aload_n B 0 dX7_state_0 rfl rfl ?_
  refine z_iload_n B 1 dX7_state_1 rfl rfl ?_
  refine z_callM (As := [.int (x)]) (st := []) (C := RX7) (T := TX7) (N := 30) (ci := 7) (l := l) B hl (c7_noPage l D g h a M hI x) gX7_state_X7_noPage rfl ⟨rfl, rfl⟩ nm_X7_noPage ⟨by decide, by decide⟩ 0 rfl rfl rfl (Nat.le_of_ble_eq_true rfl) dX7_state_2 rfl rfl (by decide) (by decide) (fun r w1 hr => ?_)
  obtain ⟨M1, rfl, hq⟩ := hr
  by_cases kk2_0 : rng x (mP M)
  · have kd2_0 := kk2_0
    have kkk2_0 := kk2_0
    obtain ⟨jx, hjx, rfl⟩ := kk2_0
    obtain ⟨rfl, rfl⟩ := hq.2 kd2_0
    refine z_if_eq B 12 dX7_state_5 (by decide) (fun _ => ?_) (fun h => absurd h (by decide))
    refine z_aload_n B 0 dX7_state_12 rfl rfl ?_
    refine z_get (C := RX7) (T := TX7) (N := 30) (v := .ref (a 12)) B 0 12 1 fw_X7_state_X7 rfl rfl (by decide) rfl rfl rfl dX7_state_13 ?_
    refine z_iload_n B 1 dX7_state_16 rfl rfl ?_
    refine z_iald (g := (M 12)) (i := jx) B 9 0 rfl rfl (by omega) (by decide) dX7_state_17 ?_
    exact z_mret B hAe hr dX7_state_18 rfl (by decide) (by decide) (by refine ⟨_, rfl, ?_⟩; rw [nN_nI (show jx < 2 ^ 31 by omega)]; refine ⟨?_, ?_⟩ <;> intros <;> first | contradiction | rfl | exact ⟨rfl, rfl⟩ | omega  | exact ⟨bI_1 (by assumption), rfl⟩ | exact ⟨bI_z (by assumption), rfl⟩)
  · obtain ⟨rfl, rfl⟩ := hq.1 kk2_0
    refine z_if_eq B 12 dX7_state_5 (by decide) (fun h => absurd h (by decide)) (fun _ => ?_)
    refine z_iconst (v := nI 0) B dX7_state_8 (by decide) ?_
    refine z_goto B 18 dX7_state_9 (by decide) ?_
    exact z_mret B hAe hr dX7_state_18 rfl (by decide) (by decide) (by refine ⟨_, rfl, ?_⟩; refine ⟨?_, ?_⟩ <;> intros <;> first | contradiction | rfl | exact ⟨rfl, rfl⟩ | omega  | exact ⟨bI_1 (by assumption), rfl⟩ | exact ⟨bI_z (by assumption), rfl⟩)
set_option maxHeartbeats 4000000 in
set_option maxRecDepth 100000 in
theorem c7_isTrue (l : Launch) (D : va_G) (g : zG) (h : Nat) (a : Nat → Nat) (M : zMS) (hI : MI M) (x : Int32) : zMutI l yX7_isTrue wsX7_isTrue { frames := 3, cells := 0, slots := 0, locals := 64 } D (zT g) (wM g h a M) [.ref h, .int (x)] (fun r w' => ∃ M', w' = wM g h a M' ∧ (¬ rng x (mP M) → M' = up2 M 0 0 (nI 1)) ∧ (rng x (mP M) → r = bI (pTB M (nN x)) ∧ M' = up2 M 0 0 (nI 0))) 0 0 := by
  refine zMutI_of (cc := cX7_isTrue) (maxL := 2) (ret := (some .boolean)) (own := RX7) [(0, .ref (h)), (1, .int (x))] (by decide) rfl rfl rfl (Nat.le_of_ble_eq_true rfl) ?_
  intro X A hAe hl B hr hin
  obtain ⟨b5, b2, b15, b23, b25, b1⟩ := MI_bs hI
  refine z_aload_n B 0 dX7_isTrue_0 rfl rfl ?_
  refine z_iload_n B 1 dX7_isTrue_1 rfl rfl ?_
  refine z_callM (As := [.int (x)]) (st := []) (C := RX7) (T := TX7) (N := 30) (ci := 7) (l := l) B hl (c7_noPage l D g h a M hI x) gX7_isTrue_X7_noPage rfl ⟨rfl, rfl⟩ nm_X7_noPage ⟨by decide, by decide⟩ 0 rfl rfl rfl (Nat.le_of_ble_eq_true rfl) dX7_isTrue_2 rfl rfl (by decide) (by decide) (fun r w1 hr => ?_)
  obtain ⟨M1, rfl, hq⟩ := hr
  by_cases kk2_0 : rng x (mP M)
  · have kd2_0 := kk2_0
    have kkk2_0 := kk2_0
    obtain ⟨jx, hjx, rfl⟩ := kk2_0
    obtain ⟨rfl, rfl⟩ := hq.2 kd2_0
    refine z_if_ne B 20 dX7_isTrue_5 (by decide) (fun h => absurd h (by decide)) (fun _ => ?_)
    refine z_aload_n B 0 dX7_isTrue_8 rfl rfl ?_
    refine z_iload_n B 1 dX7_isTrue_9 rfl rfl ?_
    refine z_callP (As := [.int (nI (jx))]) (st := []) (C := RX7) (T := TX7) (N := 30) (ci := 7) (l := l) B hl (c7_isTrueInBook l D g h a (up2 M 0 0 (nI 0)) (MI_up0 hI) jx (by omega)) gX7_isTrue_X7_isTrueInBook rfl ⟨rfl, rfl⟩ nm_X7_isTrueInBook ⟨by decide, by decide⟩ (fun _ h => h) 0 rfl rfl rfl (Nat.le_of_ble_eq_true rfl) dX7_isTrue_10 (Nat.zero_le _) (Nat.zero_le _) (fun r hr => ?_)
    change r = bI (pTB M jx) at hr
    subst hr
    refine z_ifB_eq B 20 dX7_isTrue_13 (by decide) (fun zc13 => ?_) (fun zc13 => ?_)
    · refine z_iconst (v := nI 0) B dX7_isTrue_20 (by decide) ?_
      exact z_mret B hAe hr dX7_isTrue_21 (nar_b (Or.inl rfl)) (by decide) (by decide) (by refine ⟨_, rfl, ?_⟩; rw [nN_nI (show jx < 2 ^ 31 by omega)]; refine ⟨?_, ?_⟩ <;> intros <;> first | contradiction | rfl | exact ⟨rfl, rfl⟩ | omega  | exact ⟨bI_1 (by assumption), rfl⟩ | exact ⟨bI_z (by assumption), rfl⟩)
    · refine z_iconst (v := nI 1) B dX7_isTrue_16 (by decide) ?_
      refine z_goto B 21 dX7_isTrue_17 (by decide) ?_
      exact z_mret B hAe hr dX7_isTrue_21 (nar_b (Or.inr rfl)) (by decide) (by decide) (by refine ⟨_, rfl, ?_⟩; rw [nN_nI (show jx < 2 ^ 31 by omega)]; refine ⟨?_, ?_⟩ <;> intros <;> first | contradiction | rfl | exact ⟨rfl, rfl⟩ | omega  | exact ⟨bI_1 (by assumption), rfl⟩ | exact ⟨bI_z (by assumption), rfl⟩)
  · obtain ⟨rfl, rfl⟩ := hq.1 kk2_0
    refine z_if_ne B 20 dX7_isTrue_5 (by decide) (fun _ => ?_) (fun h => absurd h (by decide))
    refine z_iconst (v := nI 0) B dX7_isTrue_20 (by decide) ?_
    exact z_mret B hAe hr dX7_isTrue_21 (nar_b (Or.inl rfl)) (by decide) (by decide) (by refine ⟨_, rfl, ?_⟩; refine ⟨?_, ?_⟩ <;> intros <;> first | contradiction | rfl | exact ⟨rfl, rfl⟩ | omega  | exact ⟨bI_1 (by assumption), rfl⟩ | exact ⟨bI_z (by assumption), rfl⟩)
theorem fw_X7_text_X7 : zF wsX7_text RX7 TX7 30 := fun _ h => List.mem_cons_of_mem _ (List.mem_append_right _ (h))
set_option maxHeartbeats 4000000 in
set_option maxRecDepth 100000 in
theorem c7_text (l : Launch) (D : va_G) (g : zG) (h : Nat) (a : Nat → Nat) (M : zMS) (hI : MI M) (x : Int32) : zMutI l yX7_text wsX7_text { frames := 3, cells := 0, slots := 0, locals := 64 } D (zT g) (wM g h a M) [.ref h, .int (x)] (fun r w' => ∃ M', w' = wM g h a M' ∧ (¬ rng x (mP M) → M' = up2 M 0 0 (nI 1)) ∧ (rng x (mP M) → M 12 (nN x) = 0 → r = M 7 (nN x) ∧ M' = up2 M 0 0 (nI 0)) ∧ (rng x (mP M) → ¬ M 12 (nN x) = 0 → r = -1 ∧ M' = up2 M 0 0 (nI 0))) 0 0 := by
  refine zMutI_of (cc := cX7_text) (maxL := 2) (ret := (some .int)) (own := RX7) [(0, .ref (h)), (1, .int (x))] (by decide) rfl rfl rfl (Nat.le_of_ble_eq_true rfl) ?_
  intro X A hAe hl B hr hin
  obtain ⟨b5, b2, b15, b23, b25, b1⟩ := MI_bs hI
  refine z_aload_n B 0 dX7_text_0 rfl rfl ?_
  refine z_iload_n B 1 dX7_text_1 rfl rfl ?_
  refine z_callM (As := [.int (x)]) (st := []) (C := RX7) (T := TX7) (N := 30) (ci := 7) (l := l) B hl (c7_noPage l D g h a M hI x) gX7_text_X7_noPage rfl ⟨rfl, rfl⟩ nm_X7_noPage ⟨by decide, by decide⟩ 0 rfl rfl rfl (Nat.le_of_ble_eq_true rfl) dX7_text_2 rfl rfl (by decide) (by decide) (fun r w1 hr => ?_)
  obtain ⟨M1, rfl, hq⟩ := hr
  by_cases kk2_0 : rng x (mP M)
  · have kd2_0 := kk2_0
    have kkk2_0 := kk2_0
    obtain ⟨jx, hjx, rfl⟩ := kk2_0
    obtain ⟨rfl, rfl⟩ := hq.2 kd2_0
    refine z_if_eq B 12 dX7_text_5 (by decide) (fun _ => ?_) (fun h => absurd h (by decide))
    refine z_aload_n B 0 dX7_text_12 rfl rfl ?_
    refine z_get (C := RX7) (T := TX7) (N := 30) (v := .ref (a 12)) B 0 12 1 fw_X7_text_X7 rfl rfl (by decide) rfl rfl rfl dX7_text_13 ?_
    refine z_iload_n B 1 dX7_text_16 rfl rfl ?_
    refine z_iald (g := (M 12)) (i := jx) B 9 0 rfl rfl (by omega) (by decide) dX7_text_17 ?_
    refine z_if_ne B 30 dX7_text_18 (by decide) (fun zc18 => ?_) (fun zc18 => ?_)
    · refine z_iconst (v := (-1)) B dX7_text_30 (by decide) ?_
      exact z_mret B hAe hr dX7_text_31 rfl (by decide) (by decide) (by refine ⟨_, rfl, ?_⟩; rw [nN_nI (show jx < 2 ^ 31 by omega)]; refine ⟨?_, ?_, ?_⟩ <;> intros <;> first | contradiction | rfl | exact ⟨rfl, rfl⟩ | omega  | exact ⟨bI_1 (by assumption), rfl⟩ | exact ⟨bI_z (by assumption), rfl⟩)
    · refine z_aload_n B 0 dX7_text_21 rfl rfl ?_
      refine z_get (C := RX7) (T := TX7) (N := 30) (v := .ref (a 7)) B 0 7 2 fw_X7_text_X7 rfl rfl (by decide) rfl rfl rfl dX7_text_22 ?_
      refine z_iload_n B 1 dX7_text_25 rfl rfl ?_
      refine z_iald (g := (M 7)) (i := jx) B 4 0 rfl rfl (by omega) (by decide) dX7_text_26 ?_
      refine z_goto B 31 dX7_text_27 (by decide) ?_
      exact z_mret B hAe hr dX7_text_31 rfl (by decide) (by decide) (by refine ⟨_, rfl, ?_⟩; rw [nN_nI (show jx < 2 ^ 31 by omega)]; refine ⟨?_, ?_, ?_⟩ <;> intros <;> first | contradiction | rfl | exact ⟨rfl, rfl⟩ | omega  | exact ⟨bI_1 (by assumption), rfl⟩ | exact ⟨bI_z (by assumption), rfl⟩)
  · obtain ⟨rfl, rfl⟩ := hq.1 kk2_0
    refine z_if_eq B 12 dX7_text_5 (by decide) (fun h => absurd h (by decide)) (fun _ => ?_)
    refine z_iconst (v := nI 0) B dX7_text_8 (by decide) ?_
    refine z_goto B 31 dX7_text_9 (by decide) ?_
    exact z_mret B hAe hr dX7_text_31 rfl (by decide) (by decide) (by refine ⟨_, rfl, ?_⟩; refine ⟨?_, ?_, ?_⟩ <;> intros <;> first | contradiction | rfl | exact ⟨rfl, rfl⟩ | omega  | exact ⟨bI_1 (by assumption), rfl⟩ | exact ⟨bI_z (by assumption), rfl⟩)
set_option maxHeartbeats 4000000 in
set_option maxRecDepth 100000 in
theorem c7_mark (l : Launch) (D : va_G) (g : zG) (h : Nat) (a : Nat → Nat) (M : zMS) (hI : MI M) (x : Int32) : zMutI l yX7_mark wsX7_mark { frames := 3, cells := 0, slots := 0, locals := 64 } D (zT g) (wM g h a M) [.ref h, .int (x)] (fun r w' => ∃ M', w' = wM g h a M' ∧ (¬ rng x (mP M) → M' = up2 M 0 0 (nI 1)) ∧ (rng x (mP M) → r = mkP M (nN x) ∧ M' = up2 M 0 0 (nI 0))) 0 0 := by
  refine zMutI_of (cc := cX7_mark) (maxL := 2) (ret := (some .int)) (own := RX7) [(0, .ref (h)), (1, .int (x))] (by decide) rfl rfl rfl (Nat.le_of_ble_eq_true rfl) ?_
  intro X A hAe hl B hr hin
  obtain ⟨b5, b2, b15, b23, b25, b1⟩ := MI_bs hI
  refine z_aload_n B 0 dX7_mark_0 rfl rfl ?_
  refine z_iload_n B 1 dX7_mark_1 rfl rfl ?_
  refine z_callM (As := [.int (x)]) (st := []) (C := RX7) (T := TX7) (N := 30) (ci := 7) (l := l) B hl (c7_noPage l D g h a M hI x) gX7_mark_X7_noPage rfl ⟨rfl, rfl⟩ nm_X7_noPage ⟨by decide, by decide⟩ 0 rfl rfl rfl (Nat.le_of_ble_eq_true rfl) dX7_mark_2 rfl rfl (by decide) (by decide) (fun r w1 hr => ?_)
  obtain ⟨M1, rfl, hq⟩ := hr
  by_cases kk2_0 : rng x (mP M)
  · have kd2_0 := kk2_0
    have kkk2_0 := kk2_0
    obtain ⟨jx, hjx, rfl⟩ := kk2_0
    obtain ⟨rfl, rfl⟩ := hq.2 kd2_0
    refine z_if_eq B 12 dX7_mark_5 (by decide) (fun _ => ?_) (fun h => absurd h (by decide))
    refine z_aload_n B 0 dX7_mark_12 rfl rfl ?_
    refine z_iload_n B 1 dX7_mark_13 rfl rfl ?_
    refine z_callP (As := [.int (nI (jx))]) (st := []) (C := RX7) (T := TX7) (N := 30) (ci := 7) (l := l) B hl (c7_markOf l D g h a (up2 M 0 0 (nI 0)) (MI_up0 hI) jx (by omega)) gX7_mark_X7_markOf rfl ⟨rfl, rfl⟩ nm_X7_markOf ⟨by decide, by decide⟩ (fun _ h => h) 0 rfl rfl rfl (Nat.le_of_ble_eq_true rfl) dX7_mark_14 (Nat.zero_le _) (Nat.zero_le _) (fun r hr => ?_)
    change r = mkP M jx at hr
    subst hr
    exact z_mret B hAe hr dX7_mark_17 rfl (by decide) (by decide) (by refine ⟨_, rfl, ?_⟩; rw [nN_nI (show jx < 2 ^ 31 by omega)]; refine ⟨?_, ?_⟩ <;> intros <;> first | contradiction | rfl | exact ⟨rfl, rfl⟩ | omega  | exact ⟨bI_1 (by assumption), rfl⟩ | exact ⟨bI_z (by assumption), rfl⟩)
  · obtain ⟨rfl, rfl⟩ := hq.1 kk2_0
    refine z_if_eq B 12 dX7_mark_5 (by decide) (fun h => absurd h (by decide)) (fun _ => ?_)
    refine z_iconst (v := nI 0) B dX7_mark_8 (by decide) ?_
    refine z_goto B 17 dX7_mark_9 (by decide) ?_
    exact z_mret B hAe hr dX7_mark_17 rfl (by decide) (by decide) (by refine ⟨_, rfl, ?_⟩; refine ⟨?_, ?_⟩ <;> intros <;> first | contradiction | rfl | exact ⟨rfl, rfl⟩ | omega  | exact ⟨bI_1 (by assumption), rfl⟩ | exact ⟨bI_z (by assumption), rfl⟩)
theorem fw_X7_reversal_X7 : zF wsX7_reversal RX7 TX7 30 := fun _ h => List.mem_cons_of_mem _ (List.mem_append_right _ (h))
set_option maxHeartbeats 4000000 in
set_option maxRecDepth 100000 in
theorem c7_reversal (l : Launch) (D : va_G) (g : zG) (h : Nat) (a : Nat → Nat) (M : zMS) (hI : MI M) (x : Int32) : zMutI l yX7_reversal wsX7_reversal { frames := 3, cells := 0, slots := 0, locals := 64 } D (zT g) (wM g h a M) [.ref h, .int (x)] (fun r w' => ∃ M', w' = wM g h a M' ∧ (¬ rng x (mP M) → M' = up2 M 0 0 (nI 1)) ∧ (rng x (mP M) → r = M 13 (nN x) ∧ M' = up2 M 0 0 (nI 0))) 0 0 := by
  refine zMutI_of (cc := cX7_reversal) (maxL := 2) (ret := (some .int)) (own := RX7) [(0, .ref (h)), (1, .int (x))] (by decide) rfl rfl rfl (Nat.le_of_ble_eq_true rfl) ?_
  intro X A hAe hl B hr hin
  obtain ⟨b5, b2, b15, b23, b25, b1⟩ := MI_bs hI
  refine z_aload_n B 0 dX7_reversal_0 rfl rfl ?_
  refine z_iload_n B 1 dX7_reversal_1 rfl rfl ?_
  refine z_callM (As := [.int (x)]) (st := []) (C := RX7) (T := TX7) (N := 30) (ci := 7) (l := l) B hl (c7_noPage l D g h a M hI x) gX7_reversal_X7_noPage rfl ⟨rfl, rfl⟩ nm_X7_noPage ⟨by decide, by decide⟩ 0 rfl rfl rfl (Nat.le_of_ble_eq_true rfl) dX7_reversal_2 rfl rfl (by decide) (by decide) (fun r w1 hr => ?_)
  obtain ⟨M1, rfl, hq⟩ := hr
  by_cases kk2_0 : rng x (mP M)
  · have kd2_0 := kk2_0
    have kkk2_0 := kk2_0
    obtain ⟨jx, hjx, rfl⟩ := kk2_0
    obtain ⟨rfl, rfl⟩ := hq.2 kd2_0
    refine z_if_eq B 12 dX7_reversal_5 (by decide) (fun _ => ?_) (fun h => absurd h (by decide))
    refine z_aload_n B 0 dX7_reversal_12 rfl rfl ?_
    refine z_get (C := RX7) (T := TX7) (N := 30) (v := .ref (a 13)) B 0 13 1 fw_X7_reversal_X7 rfl rfl (by decide) rfl rfl rfl dX7_reversal_13 ?_
    refine z_iload_n B 1 dX7_reversal_16 rfl rfl ?_
    refine z_iald (g := (M 13)) (i := jx) B 10 0 rfl rfl (by omega) (by decide) dX7_reversal_17 ?_
    exact z_mret B hAe hr dX7_reversal_18 rfl (by decide) (by decide) (by refine ⟨_, rfl, ?_⟩; rw [nN_nI (show jx < 2 ^ 31 by omega)]; refine ⟨?_, ?_⟩ <;> intros <;> first | contradiction | rfl | exact ⟨rfl, rfl⟩ | omega  | exact ⟨bI_1 (by assumption), rfl⟩ | exact ⟨bI_z (by assumption), rfl⟩)
  · obtain ⟨rfl, rfl⟩ := hq.1 kk2_0
    refine z_if_eq B 12 dX7_reversal_5 (by decide) (fun h => absurd h (by decide)) (fun _ => ?_)
    refine z_iconst (v := nI 0) B dX7_reversal_8 (by decide) ?_
    refine z_goto B 18 dX7_reversal_9 (by decide) ?_
    exact z_mret B hAe hr dX7_reversal_18 rfl (by decide) (by decide) (by refine ⟨_, rfl, ?_⟩; refine ⟨?_, ?_⟩ <;> intros <;> first | contradiction | rfl | exact ⟨rfl, rfl⟩ | omega  | exact ⟨bI_1 (by assumption), rfl⟩ | exact ⟨bI_z (by assumption), rfl⟩)
theorem fw_X7_proves_X7 : zF wsX7_proves RX7 TX7 30 := fun _ h => List.mem_cons_of_mem _ (List.mem_append_right _ (h))
set_option maxHeartbeats 4000000 in
set_option maxRecDepth 100000 in
theorem c7_proves (l : Launch) (D : va_G) (g : zG) (h : Nat) (a : Nat → Nat) (M : zMS) (hI : MI M) (x : Int32) (y : Int32) : zMutI l yX7_proves wsX7_proves { frames := 2, cells := 0, slots := 0, locals := 44 } D (zT g) (wM g h a M) [.ref h, .int (x), .int (y)] (fun r w' => ∃ M', w' = wM g h a M' ∧ (¬ rng x (mP M) → M' = up2 M 0 0 (nI 1)) ∧ (rng x (mP M) → ¬ rng y 10000 → M' = up2 M 0 0 (nI 2)) ∧ (rng x (mP M) → rng y 10000 → r = bI (mkD M (nN x) y = mkP M (nN x)) ∧ M' = up2 M 0 0 (nI 0))) 0 0 := by
  refine zMutI_of (cc := cX7_proves) (maxL := 5) (ret := (some .boolean)) (own := RX7) [(0, .ref (h)), (1, .int (x)), (2, .int (y))] (by decide) rfl rfl rfl (Nat.le_of_ble_eq_true rfl) ?_
  intro X A hAe hl B hr hin
  obtain ⟨b5, b2, b15, b23, b25, b1⟩ := MI_bs hI
  generalize hQ : (zQe X (va_Qi (fun r w' => ∃ M', w' = wM g h a M' ∧ (¬ rng x (mP M) → M' = up2 M 0 0 (nI 1)) ∧ (rng x (mP M) → ¬ rng y 10000 → M' = up2 M 0 0 (nI 2)) ∧ (rng x (mP M) → rng y 10000 → r = bI (mkD M (nN x) y = mkP M (nN x)) ∧ M' = up2 M 0 0 (nI 0))) (zEnd D (zT g) (wM g h a M) (zs X).heap.size) A) 0 0 A) = Q
  refine z_aload_n B 0 dX7_proves_0 rfl rfl ?_
  refine z_aload_n B 0 dX7_proves_1 rfl rfl ?_
  refine z_iload_n B 1 dX7_proves_2 rfl rfl ?_
  refine z_callP (As := [.int (x)]) (st := [.ref (h)]) (C := RX7) (T := TX7) (N := 30) (ci := 7) (l := l) B hl (c7_isPage l D g h a M hI x) gX7_proves_X7_isPage rfl ⟨rfl, rfl⟩ nm_X7_isPage ⟨by decide, by decide⟩ (fun _ h => h) 0 rfl rfl rfl (Nat.le_of_ble_eq_true rfl) dX7_proves_3 (Nat.zero_le _) (Nat.zero_le _) (fun r hr => ?_)
  subst hr
  refine z_ifB_ne B 13 dX7_proves_6 (by decide) (fun zc6 => ?_) (fun zc6 => ?_)
  · have zkc6 := zc6
    obtain ⟨jx, hjx, rfl⟩ := zc6
    refine z_iload_n B 2 dX7_proves_13 rfl rfl ?_
    refine z_iconst (v := nI 0) B dX7_proves_14 (by decide) ?_
    refine z_sipush (v := nI 9999) B dX7_proves_15 (by decide) ?_
    refine z_callS (As := [.int (y), .int (nI (0)), .int (nI (9999))]) (st := [.ref (h)]) (l := l) B hl (c7_in l D g h a M y (nI (0)) (nI (9999))) gX7_proves_X7_in rfl ⟨rfl, rfl⟩ nm_X7_in ⟨by decide, by decide⟩ (fun _ h => h) rfl (Nat.le_of_ble_eq_true rfl) dX7_proves_18 (Nat.zero_le _) (Nat.zero_le _) (fun r hr => ?_)
    rw [bI_cg (rng_in' (by decide))] at hr
    subst hr
    refine z_ifB_eq B 28 dX7_proves_21 (by decide) (fun zc21 => ?_) (fun zc21 => ?_)
    · refine z_iconst (v := nI 2) B dX7_proves_28 (by decide) ?_
      refine z_callM (As := [.int (nI (2))]) (st := []) (C := RX7) (T := TX7) (N := 30) (ci := 7) (l := l) B hl (c7_refused l D g h a M (nI (2))) gX7_proves_X7_refused rfl ⟨rfl, rfl⟩ nm_X7_refused ⟨by decide, by decide⟩ 0 rfl rfl rfl (Nat.le_of_ble_eq_true rfl) dX7_proves_29 rfl rfl (by decide) (by decide) (fun r w1 hr => ?_)
      obtain ⟨hr1, rfl⟩ := hr
      rw [bI_t (show ¬ nI (2) = 0 by decide)] at hr1
      obtain rfl : r = nI 1 := hr1
      refine z_if_eq B 37 dX7_proves_32 (by decide) (fun h => absurd h (by decide)) (fun _ => ?_)
      refine z_iconst (v := nI 0) B dX7_proves_35 (by decide) ?_
      subst hQ
      exact z_mret B hAe hr dX7_proves_36 (nar_b (Or.inl rfl)) (by decide) (by decide) (by refine ⟨_, rfl, ?_⟩; rw [nN_nI (show jx < 2 ^ 31 by omega)]; refine ⟨?_, ?_, ?_⟩ <;> intros <;> first | contradiction | rfl | exact ⟨rfl, rfl⟩ | omega  | exact ⟨bI_1 (by assumption), rfl⟩ | exact ⟨bI_z (by assumption), rfl⟩)
    · have zkc21 := zc21
      obtain ⟨jy, hjy, rfl⟩ := zc21
      refine z_iconst (v := nI 0) B dX7_proves_24 (by decide) ?_
      refine z_goto B 29 dX7_proves_25 (by decide) ?_
      refine z_callM (As := [.int (nI (0))]) (st := []) (C := RX7) (T := TX7) (N := 30) (ci := 7) (l := l) B hl (c7_refused l D g h a M (nI (0))) gX7_proves_X7_refused rfl ⟨rfl, rfl⟩ nm_X7_refused ⟨by decide, by decide⟩ 0 rfl rfl rfl (Nat.le_of_ble_eq_true rfl) dX7_proves_29 rfl rfl (by decide) (by decide) (fun r w1 hr => ?_)
      obtain ⟨hr1, rfl⟩ := hr
      rw [bI_f (show ¬ ¬ nI (0) = 0 by decide)] at hr1
      obtain rfl : r = nI 0 := hr1
      refine z_if_eq B 37 dX7_proves_32 (by decide) (fun _ => ?_) (fun h => absurd h (by decide))
      refine z_iconst (v := nI 1) B dX7_proves_37 (by decide) ?_
      refine z_aload_n B 0 dX7_proves_38 rfl rfl ?_
      refine z_get (C := RX7) (T := TX7) (N := 30) (v := .ref (a 6)) B 0 6 1 fw_X7_proves_X7 rfl rfl (by decide) rfl rfl rfl dX7_proves_39 ?_
      refine z_iload_n B 1 dX7_proves_42 rfl rfl ?_
      refine z_iald (g := (M 6)) (i := jx) B 3 0 rfl rfl (by omega) (by decide) dX7_proves_43 ?_
      refine z_callS (As := [.int (nI (1)), .int (M 6 jx)]) (st := []) (l := l) B hl (c7_marked l D g h a (up2 M 0 0 (nI (0))) (nI (1)) (M 6 jx)) gX7_proves_X7_marked rfl ⟨rfl, rfl⟩ nm_X7_marked ⟨by decide, by decide⟩ (fun _ h => h) rfl (Nat.le_of_ble_eq_true rfl) dX7_proves_44 (Nat.zero_le _) (Nat.zero_le _) (fun r hr => ?_)
      change r = nMk (nI (1)) (M 6 jx) at hr
      subst hr
      refine z_iload_n B 2 dX7_proves_47 rfl rfl ?_
      refine z_callS (As := [.int (nMk (nI (1)) (M 6 jx)), .int (nI (jy))]) (st := []) (l := l) B hl (c7_marked l D g h a (up2 M 0 0 (nI (0))) (nMk (nI (1)) (M 6 jx)) (nI (jy))) gX7_proves_X7_marked rfl ⟨rfl, rfl⟩ nm_X7_marked ⟨by decide, by decide⟩ (fun _ h => h) rfl (Nat.le_of_ble_eq_true rfl) dX7_proves_48 (Nat.zero_le _) (Nat.zero_le _) (fun r hr => ?_)
      change r = nMk (nMk (nI (1)) (M 6 jx)) (nI (jy)) at hr
      subst hr
      refine z_istore_n (lv1 := [(3, .int (nMk (nMk (nI (1)) (M 6 jx)) (nI (jy)))), (0, .ref (h)), (1, .int (nI (jx))), (2, .int (nI (jy)))]) B dX7_proves_51 rfl (by decide) rfl ?_
      refine z_iconst (v := nI 0) B dX7_proves_52 (by decide) ?_
      refine z_istore (lv1 := [(4, .int (nI (0))), (3, .int (nMk (nMk (nI (1)) (M 6 jx)) (nI (jy)))), (0, .ref (h)), (1, .int (nI (jx))), (2, .int (nI (jy)))]) B dX7_proves_53 (by decide) rfl ?_
      have loop55 : ∀ (n0 i : Nat), i ≤ mD M → mD M + 1 ≤ i + n0 → zJ X 5 (zI1 D A (zs X)) Q (wM g h a (up2 M 0 0 (nI (0)))) 0 0 [(0, .ref (h)), (1, .int (nI (jx))), (2, .int (nI (jy))), (3, .int (fMk (M 3) (M 4) (nMk (nMk (nI 1) (M 6 jx)) (nI jy)) i)), (4, .int (nI (i)))] 55 [] := by
        intro n55
        induction n55 with
        | zero => intro i h1 h2; exact absurd h2 (by omega)
        | succ n55 ih55 =>
          intro i hle55 hn55
          refine z_iload B 4 dX7_proves_55 rfl ?_
          refine z_aload_n B 0 dX7_proves_57 rfl rfl ?_
          refine z_get (C := RX7) (T := TX7) (N := 30) (v := .int (M 2 0)) B 0 2 2 fw_X7_proves_X7 rfl rfl (by decide) rfl rfl rfl dX7_proves_58 ?_
          refine z_top (y := nI (mD M)) (MI_2 hI) ?_
          refine z_icmpN_ge B 96 dX7_proves_61 (by decide) (by omega) (by omega) (fun zc61 => ?_) (fun zc61 => ?_)
          · obtain rfl : i = mD M := by omega
            refine z_iload_n B 3 dX7_proves_96 rfl rfl ?_
            refine z_aload_n B 0 dX7_proves_97 rfl rfl ?_
            refine z_iload_n B 1 dX7_proves_98 rfl rfl ?_
            refine z_callP (As := [.int (nI (jx))]) (st := [.int (fMk (M 3) (M 4) (nMk (nMk (nI 1) (M 6 jx)) (nI jy)) (mD M))]) (C := RX7) (T := TX7) (N := 30) (ci := 7) (l := l) B hl (c7_markOf l D g h a (up2 M 0 0 (nI (0))) (MI_up0 hI) jx (by omega)) gX7_proves_X7_markOf rfl ⟨rfl, rfl⟩ nm_X7_markOf ⟨by decide, by decide⟩ (fun _ h => h) 0 rfl rfl rfl (Nat.le_of_ble_eq_true rfl) dX7_proves_99 (Nat.zero_le _) (Nat.zero_le _) (fun r hr => ?_)
            change r = mkP M jx at hr
            subst hr
            refine z_icmp_ne B 109 dX7_proves_102 (by decide) (fun zc102 => ?_) (fun zc102 => ?_)
            · refine z_iconst (v := nI 0) B dX7_proves_109 (by decide) ?_
              subst hQ
              exact z_mret B hAe hr dX7_proves_110 (nar_b (Or.inl rfl)) (by decide) (by decide) (by refine ⟨_, rfl, ?_⟩; rw [nN_nI (show jx < 2 ^ 31 by omega)]; refine ⟨?_, ?_, ?_⟩ <;> intros <;> first | contradiction | rfl | exact ⟨rfl, rfl⟩ | omega  | exact ⟨bI_1 (by assumption), rfl⟩ | exact ⟨bI_z (by assumption), rfl⟩)
            · refine z_iconst (v := nI 1) B dX7_proves_105 (by decide) ?_
              refine z_goto B 110 dX7_proves_106 (by decide) ?_
              subst hQ
              exact z_mret B hAe hr dX7_proves_110 (nar_b (Or.inr rfl)) (by decide) (by decide) (by refine ⟨_, rfl, ?_⟩; rw [nN_nI (show jx < 2 ^ 31 by omega)]; refine ⟨?_, ?_, ?_⟩ <;> intros <;> first | contradiction | rfl | exact ⟨rfl, rfl⟩ | omega  | exact ⟨bI_1 (by assumption), rfl⟩ | exact ⟨bI_z (by assumption), rfl⟩)
          · refine z_iload_n B 3 dX7_proves_64 rfl rfl ?_
            refine z_aload_n B 0 dX7_proves_65 rfl rfl ?_
            refine z_get (C := RX7) (T := TX7) (N := 30) (v := .ref (a 3)) B 0 3 3 fw_X7_proves_X7 rfl rfl (by decide) rfl rfl rfl dX7_proves_66 ?_
            refine z_iload B 4 dX7_proves_69 rfl ?_
            refine z_iald (g := (M 3)) (i := i) B 1 0 rfl rfl (by omega) (by decide) dX7_proves_71 ?_
            refine z_callS (As := [.int (fMk (M 3) (M 4) (nMk (nMk (nI 1) (M 6 jx)) (nI jy)) i), .int (M 3 i)]) (st := []) (l := l) B hl (c7_marked l D g h a (up2 M 0 0 (nI (0))) (fMk (M 3) (M 4) (nMk (nMk (nI 1) (M 6 jx)) (nI jy)) i) (M 3 i)) gX7_proves_X7_marked rfl ⟨rfl, rfl⟩ nm_X7_marked ⟨by decide, by decide⟩ (fun _ h => h) rfl (Nat.le_of_ble_eq_true rfl) dX7_proves_72 (Nat.zero_le _) (Nat.zero_le _) (fun r hr => ?_)
            change r = nMk (fMk (M 3) (M 4) (nMk (nMk (nI 1) (M 6 jx)) (nI jy)) i) (M 3 i) at hr
            subst hr
            refine z_aload_n B 0 dX7_proves_75 rfl rfl ?_
            refine z_get (C := RX7) (T := TX7) (N := 30) (v := .ref (a 4)) B 0 4 4 fw_X7_proves_X7 rfl rfl (by decide) rfl rfl rfl dX7_proves_76 ?_
            refine z_iload B 4 dX7_proves_79 rfl ?_
            refine z_iald (g := (M 4)) (i := i) B 2 0 rfl rfl (by omega) (by decide) dX7_proves_81 ?_
            refine z_sipush (v := nI 10000) B dX7_proves_82 (by decide) ?_
            refine z_iadd B dX7_proves_85 ?_
            refine z_callS (As := [.int (nMk (fMk (M 3) (M 4) (nMk (nMk (nI 1) (M 6 jx)) (nI jy)) i) (M 3 i)), .int (((M 4 i) + (nI (10000))))]) (st := []) (l := l) B hl (c7_marked l D g h a (up2 M 0 0 (nI (0))) (nMk (fMk (M 3) (M 4) (nMk (nMk (nI 1) (M 6 jx)) (nI jy)) i) (M 3 i)) ((M 4 i) + (nI (10000)))) gX7_proves_X7_marked rfl ⟨rfl, rfl⟩ nm_X7_marked ⟨by decide, by decide⟩ (fun _ h => h) rfl (Nat.le_of_ble_eq_true rfl) dX7_proves_86 (Nat.zero_le _) (Nat.zero_le _) (fun r hr => ?_)
            change r = nMk (nMk (fMk (M 3) (M 4) (nMk (nMk (nI 1) (M 6 jx)) (nI jy)) i) (M 3 i)) ((M 4 i) + (nI (10000))) at hr
            subst hr
            refine z_istore_n (lv1 := [(3, .int (nMk (nMk (fMk (M 3) (M 4) (nMk (nMk (nI 1) (M 6 jx)) (nI jy)) i) (M 3 i)) ((M 4 i) + (nI (10000))))), (0, .ref (h)), (1, .int (nI (jx))), (2, .int (nI (jy))), (4, .int (nI (i)))]) B dX7_proves_89 rfl (by decide) rfl ?_
            refine z_iinc B 4 (lv1 := [(4, .int (nI (i + 1))), (3, .int (nMk (nMk (fMk (M 3) (M 4) (nMk (nMk (nI 1) (M 6 jx)) (nI jy)) i) (M 3 i)) ((M 4 i) + (nI (10000))))), (0, .ref (h)), (1, .int (nI (jx))), (2, .int (nI (jy)))]) dX7_proves_90 rfl (nI_1 _) (by decide) rfl ?_
            refine z_goto B 55 dX7_proves_93 (by decide) ?_
            refine z_loc [2, 3, 4, 1, 0] (lv' := [(0, .ref (h)), (1, .int (nI (jx))), (2, .int (nI (jy))), (3, .int (nMk (nMk (fMk (M 3) (M 4) (nMk (nMk (nI 1) (M 6 jx)) (nI jy)) i) (M 3 i)) ((M 4 i) + (nI (10000))))), (4, .int (nI (i + 1)))]) rfl ?_
            refine z_lvc (lv' := [(0, .ref (h)), (1, .int (nI (jx))), (2, .int (nI (jy))), (3, .int (fMk (M 3) (M 4) (nMk (nMk (nI 1) (M 6 jx)) (nI jy)) (i + 1))), (4, .int (nI ((i + 1))))]) (by rfl) ?_
            exact ih55 (i + 1) (by omega) (by omega)
      refine z_loc [2, 3, 4, 1, 0] (lv' := [(0, .ref (h)), (1, .int (nI (jx))), (2, .int (nI (jy))), (3, .int (nMk (nMk (nI (1)) (M 6 jx)) (nI (jy)))), (4, .int (nI (0)))]) rfl ?_
      refine z_lvc (lv' := [(0, .ref (h)), (1, .int (nI (jx))), (2, .int (nI (jy))), (3, .int (fMk (M 3) (M 4) (nMk (nMk (nI 1) (M 6 jx)) (nI jy)) 0)), (4, .int (nI (0)))]) (by rfl) ?_
      exact loop55 (mD M + 1) 0 (by omega) (by omega)
  · refine z_iconst (v := nI 1) B dX7_proves_9 (by decide) ?_
    refine z_goto B 29 dX7_proves_10 (by decide) ?_
    refine z_callM (As := [.int (nI (1))]) (st := []) (C := RX7) (T := TX7) (N := 30) (ci := 7) (l := l) B hl (c7_refused l D g h a M (nI (1))) gX7_proves_X7_refused rfl ⟨rfl, rfl⟩ nm_X7_refused ⟨by decide, by decide⟩ 0 rfl rfl rfl (Nat.le_of_ble_eq_true rfl) dX7_proves_29 rfl rfl (by decide) (by decide) (fun r w1 hr => ?_)
    obtain ⟨hr1, rfl⟩ := hr
    rw [bI_t (show ¬ nI (1) = 0 by decide)] at hr1
    obtain rfl : r = nI 1 := hr1
    refine z_if_eq B 37 dX7_proves_32 (by decide) (fun h => absurd h (by decide)) (fun _ => ?_)
    refine z_iconst (v := nI 0) B dX7_proves_35 (by decide) ?_
    subst hQ
    exact z_mret B hAe hr dX7_proves_36 (nar_b (Or.inl rfl)) (by decide) (by decide) (by refine ⟨_, rfl, ?_⟩; refine ⟨?_, ?_, ?_⟩ <;> intros <;> first | contradiction | rfl | exact ⟨rfl, rfl⟩ | omega  | exact ⟨bI_1 (by assumption), rfl⟩ | exact ⟨bI_z (by assumption), rfl⟩)
theorem fw_X7_proven_X7 : zF wsX7_proven RX7 TX7 30 := fun _ h => List.mem_cons_of_mem _ (List.mem_append_right _ (h))
set_option maxHeartbeats 4000000 in
set_option maxRecDepth 100000 in
theorem c7_proven (l : Launch) (D : va_G) (g : zG) (h : Nat) (a : Nat → Nat) (M : zMS) (hI : MI M) (x : Int32) (y : Int32) : zMutI l yX7_proven wsX7_proven { frames := 2, cells := 0, slots := 0, locals := 43 } D (zT g) (wM g h a M) [.ref h, .int (x), .int (y)] (fun r w' => ∃ M', w' = wM g h a M' ∧ (¬ rng x (mP M) → M' = up2 M 0 0 (nI 1)) ∧ (rng x (mP M) → ¬ rng y 8 → M' = up2 M 0 0 (nI 1)) ∧ (rng x (mP M) → rng y 8 → M 12 (nN x) = nI 2 → r = sOf M (M 10) (nN x) y ∧ M' = up2 M 0 0 (nI 0)) ∧ (rng x (mP M) → rng y 8 → ¬ M 12 (nN x) = nI 2 → r = nI 0 ∧ M' = up2 M 0 0 (nI 0))) 0 0 := by
  refine zMutI_of (cc := cX7_proven) (maxL := 4) (ret := (some .int)) (own := RX7) [(0, .ref (h)), (1, .int (x)), (2, .int (y))] (by decide) rfl rfl rfl (Nat.le_of_ble_eq_true rfl) ?_
  intro X A hAe hl B hr hin
  obtain ⟨b5, b2, b15, b23, b25, b1⟩ := MI_bs hI
  refine z_aload_n B 0 dX7_proven_0 rfl rfl ?_
  refine z_iload_n B 1 dX7_proven_1 rfl rfl ?_
  refine z_callP (As := [.int (x)]) (st := []) (C := RX7) (T := TX7) (N := 30) (ci := 7) (l := l) B hl (c7_isPage l D g h a M hI x) gX7_proven_X7_isPage rfl ⟨rfl, rfl⟩ nm_X7_isPage ⟨by decide, by decide⟩ (fun _ h => h) 0 rfl rfl rfl (Nat.le_of_ble_eq_true rfl) dX7_proven_2 (Nat.zero_le _) (Nat.zero_le _) (fun r hr => ?_)
  subst hr
  refine z_ifB_eq B 19 dX7_proven_5 (by decide) (fun zc5 => ?_) (fun zc5 => ?_)
  · refine z_iconst (v := nI 0) B dX7_proven_19 (by decide) ?_
    refine z_istore_n (lv1 := [(3, .int (nI (0))), (0, .ref (h)), (1, .int (x)), (2, .int (y))]) B dX7_proven_20 rfl (by decide) rfl ?_
    refine z_aload_n B 1 dX7_proven_21 rfl rfl ?_
    refine z_iload_n B 0 dX7_proven_22 rfl rfl ?_
    refine z_if_eq B 30 dX7_proven_23 (by decide) (fun _ => ?_) (fun h => absurd h (by decide))
    refine z_iconst (v := nI 1) B dX7_proven_30 (by decide) ?_
    refine z_callM (As := [.int (nI (1))]) (st := []) (C := RX7) (T := TX7) (N := 30) (ci := 7) (l := l) B hl (c7_refused l D g h a M (nI (1))) gX7_proven_X7_refused rfl ⟨rfl, rfl⟩ nm_X7_refused ⟨by decide, by decide⟩ 0 rfl rfl rfl (Nat.le_of_ble_eq_true rfl) dX7_proven_31 rfl rfl (by decide) (by decide) (fun r w1 hr => ?_)
    obtain ⟨hr1, rfl⟩ := hr
    rw [bI_t (show ¬ nI (1) = 0 by decide)] at hr1
    obtain rfl : r = nI 1 := hr1
    refine z_if_ne B 47 dX7_proven_34 (by decide) (fun _ => ?_) (fun h => absurd h (by decide))
    refine z_iconst (v := nI 0) B dX7_proven_47 (by decide) ?_
    refine z_goto B 58 dX7_proven_48 (by decide) ?_
    exact z_mret B hAe hr dX7_proven_58 rfl (by decide) (by decide) (by refine ⟨_, rfl, ?_⟩; refine ⟨?_, ?_, ?_, ?_⟩ <;> intros <;> first | contradiction | rfl | exact ⟨rfl, rfl⟩ | omega  | exact ⟨bI_1 (by assumption), rfl⟩ | exact ⟨bI_z (by assumption), rfl⟩)
  · have zkc5 := zc5
    obtain ⟨jx, hjx, rfl⟩ := zc5
    refine z_iload_n B 2 dX7_proven_8 rfl rfl ?_
    refine z_callS (As := [.int (y)]) (st := []) (l := l) B hl (c7_isAccount l D g h a M y) gX7_proven_X7_isAccount rfl ⟨rfl, rfl⟩ nm_X7_isAccount ⟨by decide, by decide⟩ (fun _ h => h) rfl (Nat.le_of_ble_eq_true rfl) dX7_proven_9 (Nat.zero_le _) (Nat.zero_le _) (fun r hr => ?_)
    subst hr
    refine z_ifB_eq B 19 dX7_proven_12 (by decide) (fun zc12 => ?_) (fun zc12 => ?_)
    · refine z_iconst (v := nI 0) B dX7_proven_19 (by decide) ?_
      refine z_istore_n (lv1 := [(3, .int (nI (0))), (0, .ref (h)), (1, .int (nI (jx))), (2, .int (y))]) B dX7_proven_20 rfl (by decide) rfl ?_
      refine z_aload_n B 1 dX7_proven_21 rfl rfl ?_
      refine z_iload_n B 0 dX7_proven_22 rfl rfl ?_
      refine z_if_eq B 30 dX7_proven_23 (by decide) (fun _ => ?_) (fun h => absurd h (by decide))
      refine z_iconst (v := nI 1) B dX7_proven_30 (by decide) ?_
      refine z_callM (As := [.int (nI (1))]) (st := []) (C := RX7) (T := TX7) (N := 30) (ci := 7) (l := l) B hl (c7_refused l D g h a M (nI (1))) gX7_proven_X7_refused rfl ⟨rfl, rfl⟩ nm_X7_refused ⟨by decide, by decide⟩ 0 rfl rfl rfl (Nat.le_of_ble_eq_true rfl) dX7_proven_31 rfl rfl (by decide) (by decide) (fun r w1 hr => ?_)
      obtain ⟨hr1, rfl⟩ := hr
      rw [bI_t (show ¬ nI (1) = 0 by decide)] at hr1
      obtain rfl : r = nI 1 := hr1
      refine z_if_ne B 47 dX7_proven_34 (by decide) (fun _ => ?_) (fun h => absurd h (by decide))
      refine z_iconst (v := nI 0) B dX7_proven_47 (by decide) ?_
      refine z_goto B 58 dX7_proven_48 (by decide) ?_
      exact z_mret B hAe hr dX7_proven_58 rfl (by decide) (by decide) (by refine ⟨_, rfl, ?_⟩; rw [nN_nI (show jx < 2 ^ 31 by omega)]; refine ⟨?_, ?_, ?_, ?_⟩ <;> intros <;> first | contradiction | rfl | exact ⟨rfl, rfl⟩ | omega  | exact ⟨bI_1 (by assumption), rfl⟩ | exact ⟨bI_z (by assumption), rfl⟩)
    · have zkc12 := zc12
      obtain ⟨jy, hjy, rfl⟩ := zc12
      refine z_iconst (v := nI 1) B dX7_proven_15 (by decide) ?_
      refine z_goto B 20 dX7_proven_16 (by decide) ?_
      refine z_istore_n (lv1 := [(3, .int (nI (1))), (0, .ref (h)), (1, .int (nI (jx))), (2, .int (nI (jy)))]) B dX7_proven_20 rfl (by decide) rfl ?_
      refine z_aload_n B 1 dX7_proven_21 rfl rfl ?_
      refine z_iload_n B 0 dX7_proven_22 rfl rfl ?_
      refine z_if_eq B 30 dX7_proven_23 (by decide) (fun h => absurd h (by decide)) (fun _ => ?_)
      refine z_iconst (v := nI 0) B dX7_proven_26 (by decide) ?_
      refine z_goto B 31 dX7_proven_27 (by decide) ?_
      refine z_callM (As := [.int (nI (0))]) (st := []) (C := RX7) (T := TX7) (N := 30) (ci := 7) (l := l) B hl (c7_refused l D g h a M (nI (0))) gX7_proven_X7_refused rfl ⟨rfl, rfl⟩ nm_X7_refused ⟨by decide, by decide⟩ 0 rfl rfl rfl (Nat.le_of_ble_eq_true rfl) dX7_proven_31 rfl rfl (by decide) (by decide) (fun r w1 hr => ?_)
      obtain ⟨hr1, rfl⟩ := hr
      rw [bI_f (show ¬ ¬ nI (0) = 0 by decide)] at hr1
      obtain rfl : r = nI 0 := hr1
      refine z_if_ne B 47 dX7_proven_34 (by decide) (fun h => absurd h (by decide)) (fun _ => ?_)
      refine z_aload_n B 1 dX7_proven_37 rfl rfl ?_
      refine z_get (C := RX7) (T := TX7) (N := 30) (v := .ref (a 12)) B 0 12 1 fw_X7_proven_X7 rfl rfl (by decide) rfl rfl rfl dX7_proven_38 ?_
      refine z_iload_n B 2 dX7_proven_41 rfl rfl ?_
      refine z_iald (g := (M 12)) (i := jx) B 9 0 rfl rfl (by omega) (by decide) dX7_proven_42 ?_
      refine z_iconst (v := nI 2) B dX7_proven_43 (by decide) ?_
      refine z_icmp_eq B 51 dX7_proven_44 (by decide) (fun zc44 => ?_) (fun zc44 => ?_)
      · refine z_aload_n B 1 dX7_proven_51 rfl rfl ?_
        refine z_iload_n B 2 dX7_proven_52 rfl rfl ?_
        refine z_iload_n B 3 dX7_proven_53 rfl rfl ?_
        refine z_iconst (v := nI 1) B dX7_proven_54 (by decide) ?_
        refine z_callP (As := [.int (nI (jx)), .int (nI (jy)), .int (nI (1))]) (st := []) (C := RX7) (T := TX7) (N := 30) (ci := 7) (l := l) B hl (c7_sumOf_W l D g h a (up2 M 0 0 (nI (0))) (MI_up0 hI) jx (by omega) (nI (jy))) gX7_proven_X7_sumOf rfl ⟨rfl, rfl⟩ nm_X7_sumOf ⟨by decide, by decide⟩ (fun _ h => h) 0 rfl rfl rfl (Nat.le_of_ble_eq_true rfl) dX7_proven_55 (Nat.zero_le _) (Nat.zero_le _) (fun r hr => ?_)
        change r = sOf M (M 10) jx (nI (jy)) at hr
        subst hr
        exact z_mret B hAe hr dX7_proven_58 rfl (by decide) (by decide) (by refine ⟨_, rfl, ?_⟩; rw [nN_nI (show jx < 2 ^ 31 by omega)]; refine ⟨?_, ?_, ?_, ?_⟩ <;> intros <;> first | contradiction | rfl | exact ⟨rfl, rfl⟩ | omega  | exact ⟨bI_1 (by assumption), rfl⟩ | exact ⟨bI_z (by assumption), rfl⟩)
      · refine z_iconst (v := nI 0) B dX7_proven_47 (by decide) ?_
        refine z_goto B 58 dX7_proven_48 (by decide) ?_
        exact z_mret B hAe hr dX7_proven_58 rfl (by decide) (by decide) (by refine ⟨_, rfl, ?_⟩; rw [nN_nI (show jx < 2 ^ 31 by omega)]; refine ⟨?_, ?_, ?_, ?_⟩ <;> intros <;> first | contradiction | rfl | exact ⟨rfl, rfl⟩ | omega  | exact ⟨bI_1 (by assumption), rfl⟩ | exact ⟨bI_z (by assumption), rfl⟩)
set_option maxHeartbeats 4000000 in
set_option maxRecDepth 100000 in
theorem c7_balance (l : Launch) (D : va_G) (g : zG) (h : Nat) (a : Nat → Nat) (M : zMS) (hI : MI M) (x : Int32) (y : Int32) : zMutI l yX7_balance wsX7_balance { frames := 3, cells := 0, slots := 0, locals := 64 } D (zT g) (wM g h a M) [.ref h, .int (x), .int (y)] (fun r w' => ∃ M', w' = wM g h a M' ∧ (¬ rng x 8 → M' = up2 M 0 0 (nI 1)) ∧ (rng x 8 → ¬ rng y (mT M + 1) → M' = up2 M 0 0 (nI 2)) ∧ (rng x 8 → rng y (mT M + 1) → r = bOf M x y ∧ M' = up2 M 0 0 (nI 0))) 0 0 := by
  refine zMutI_of (cc := cX7_balance) (maxL := 3) (ret := (some .int)) (own := RX7) [(0, .ref (h)), (1, .int (x)), (2, .int (y))] (by decide) rfl rfl rfl (Nat.le_of_ble_eq_true rfl) ?_
  intro X A hAe hl B hr hin
  obtain ⟨b5, b2, b15, b23, b25, b1⟩ := MI_bs hI
  refine z_aload_n B 0 dX7_balance_0 rfl rfl ?_
  refine z_iload_n B 1 dX7_balance_1 rfl rfl ?_
  refine z_iload_n B 2 dX7_balance_2 rfl rfl ?_
  refine z_callM (As := [.int (x), .int (y)]) (st := []) (C := RX7) (T := TX7) (N := 30) (ci := 7) (l := l) B hl (c7_noBalance l D g h a M hI x y) gX7_balance_X7_noBalance rfl ⟨rfl, rfl⟩ nm_X7_noBalance ⟨by decide, by decide⟩ 0 rfl rfl rfl (Nat.le_of_ble_eq_true rfl) dX7_balance_3 rfl rfl (by decide) (by decide) (fun r w1 hr => ?_)
  obtain ⟨M1, rfl, hq⟩ := hr
  by_cases kk3_0 : rng x 8
  · have kd3_0 := kk3_0
    have kkk3_0 := kk3_0
    obtain ⟨jx, hjx, rfl⟩ := kk3_0
    by_cases kk3_1 : rng y (mT M + 1)
    · have kd3_1 := kk3_1
      have kkk3_1 := kk3_1
      obtain ⟨jy, hjy, rfl⟩ := kk3_1
      obtain ⟨rfl, rfl⟩ := hq.2.2 kd3_0 kd3_1
      refine z_if_eq B 13 dX7_balance_6 (by decide) (fun _ => ?_) (fun h => absurd h (by decide))
      refine z_aload_n B 0 dX7_balance_13 rfl rfl ?_
      refine z_iload_n B 1 dX7_balance_14 rfl rfl ?_
      refine z_iload_n B 2 dX7_balance_15 rfl rfl ?_
      refine z_callP (As := [.int (nI (jx)), .int (nI (jy))]) (st := []) (C := RX7) (T := TX7) (N := 30) (ci := 7) (l := l) B hl (c7_balanceOf l D g h a (up2 M 0 0 (nI 0)) (MI_up0 hI) (nI (jx)) (nI (jy))) gX7_balance_X7_balanceOf rfl ⟨rfl, rfl⟩ nm_X7_balanceOf ⟨by decide, by decide⟩ (fun _ h => h) 0 rfl rfl rfl (Nat.le_of_ble_eq_true rfl) dX7_balance_16 (Nat.zero_le _) (Nat.zero_le _) (fun r hr => ?_)
      change r = bOf M (nI (jx)) (nI (jy)) at hr
      subst hr
      exact z_mret B hAe hr dX7_balance_19 rfl (by decide) (by decide) (by refine ⟨_, rfl, ?_⟩; refine ⟨?_, ?_, ?_⟩ <;> intros <;> first | contradiction | rfl | exact ⟨rfl, rfl⟩ | omega  | exact ⟨bI_1 (by assumption), rfl⟩ | exact ⟨bI_z (by assumption), rfl⟩)
    · obtain ⟨rfl, rfl⟩ := hq.2.1 kd3_0 kk3_1
      refine z_if_eq B 13 dX7_balance_6 (by decide) (fun h => absurd h (by decide)) (fun _ => ?_)
      refine z_iconst (v := nI 0) B dX7_balance_9 (by decide) ?_
      refine z_goto B 19 dX7_balance_10 (by decide) ?_
      exact z_mret B hAe hr dX7_balance_19 rfl (by decide) (by decide) (by refine ⟨_, rfl, ?_⟩; refine ⟨?_, ?_, ?_⟩ <;> intros <;> first | contradiction | rfl | exact ⟨rfl, rfl⟩ | omega  | exact ⟨bI_1 (by assumption), rfl⟩ | exact ⟨bI_z (by assumption), rfl⟩)
  · obtain ⟨rfl, rfl⟩ := hq.1 kk3_0
    refine z_if_eq B 13 dX7_balance_6 (by decide) (fun h => absurd h (by decide)) (fun _ => ?_)
    refine z_iconst (v := nI 0) B dX7_balance_9 (by decide) ?_
    refine z_goto B 19 dX7_balance_10 (by decide) ?_
    exact z_mret B hAe hr dX7_balance_19 rfl (by decide) (by decide) (by refine ⟨_, rfl, ?_⟩; refine ⟨?_, ?_, ?_⟩ <;> intros <;> first | contradiction | rfl | exact ⟨rfl, rfl⟩ | omega  | exact ⟨bI_1 (by assumption), rfl⟩ | exact ⟨bI_z (by assumption), rfl⟩)
theorem fw_X7_balanceByPages_X7 : zF wsX7_balanceByPages RX7 TX7 30 := fun _ h => List.mem_cons_of_mem _ (List.mem_append_right _ (h))
set_option maxHeartbeats 4000000 in
set_option maxRecDepth 100000 in
theorem c7_balanceByPages (l : Launch) (D : va_G) (g : zG) (h : Nat) (a : Nat → Nat) (M : zMS) (hI : MI M) (x : Int32) (y : Int32) : zMutI l yX7_balanceByPages wsX7_balanceByPages { frames := 3, cells := 0, slots := 0, locals := 64 } D (zT g) (wM g h a M) [.ref h, .int (x), .int (y)] (fun r w' => ∃ M', w' = wM g h a M' ∧ (¬ rng x 8 → M' = up2 M 0 0 (nI 1)) ∧ (rng x 8 → ¬ rng y (mT M + 1) → M' = up2 M 0 0 (nI 2)) ∧ (rng x 8 → rng y (mT M + 1) → pBu M y (mP M) → M' = up2 (up2 M 0 0 (nI 0)) 0 0 (nI 3)) ∧ (rng x 8 → rng y (mT M + 1) → ¬ pBu M y (mP M) → r = bPg M x y ∧ M' = up2 (up2 M 0 0 (nI 0)) 0 0 (nI 0))) 0 0 := by
  refine zMutI_of (cc := cX7_balanceByPages) (maxL := 6) (ret := (some .int)) (own := RX7) [(0, .ref (h)), (1, .int (x)), (2, .int (y))] (by decide) rfl rfl rfl (Nat.le_of_ble_eq_true rfl) ?_
  intro X A hAe hl B hr hin
  obtain ⟨b5, b2, b15, b23, b25, b1⟩ := MI_bs hI
  generalize hQ : (zQe X (va_Qi (fun r w' => ∃ M', w' = wM g h a M' ∧ (¬ rng x 8 → M' = up2 M 0 0 (nI 1)) ∧ (rng x 8 → ¬ rng y (mT M + 1) → M' = up2 M 0 0 (nI 2)) ∧ (rng x 8 → rng y (mT M + 1) → pBu M y (mP M) → M' = up2 (up2 M 0 0 (nI 0)) 0 0 (nI 3)) ∧ (rng x 8 → rng y (mT M + 1) → ¬ pBu M y (mP M) → r = bPg M x y ∧ M' = up2 (up2 M 0 0 (nI 0)) 0 0 (nI 0))) (zEnd D (zT g) (wM g h a M) (zs X).heap.size) A) 0 0 A) = Q
  refine z_aload_n B 0 dX7_balanceByPages_0 rfl rfl ?_
  refine z_iload_n B 1 dX7_balanceByPages_1 rfl rfl ?_
  refine z_iload_n B 2 dX7_balanceByPages_2 rfl rfl ?_
  refine z_callM (As := [.int (x), .int (y)]) (st := []) (C := RX7) (T := TX7) (N := 30) (ci := 7) (l := l) B hl (c7_noBalance l D g h a M hI x y) gX7_balanceByPages_X7_noBalance rfl ⟨rfl, rfl⟩ nm_X7_noBalance ⟨by decide, by decide⟩ 0 rfl rfl rfl (Nat.le_of_ble_eq_true rfl) dX7_balanceByPages_3 rfl rfl (by decide) (by decide) (fun r w1 hr => ?_)
  obtain ⟨M1, rfl, hq⟩ := hr
  by_cases kk3_0 : rng x 8
  · have kd3_0 := kk3_0
    have kkk3_0 := kk3_0
    obtain ⟨jx, hjx, rfl⟩ := kk3_0
    by_cases kk3_1 : rng y (mT M + 1)
    · have kd3_1 := kk3_1
      have kkk3_1 := kk3_1
      obtain ⟨jy, hjy, rfl⟩ := kk3_1
      obtain ⟨rfl, rfl⟩ := hq.2.2 kd3_0 kd3_1
      refine z_if_eq B 11 dX7_balanceByPages_6 (by decide) (fun _ => ?_) (fun h => absurd h (by decide))
      refine z_iconst (v := nI 0) B dX7_balanceByPages_11 (by decide) ?_
      refine z_istore_n (lv1 := [(3, .int (nI (0))), (0, .ref (h)), (1, .int (nI (jx))), (2, .int (nI (jy)))]) B dX7_balanceByPages_12 rfl (by decide) rfl ?_
      refine z_iconst (v := nI 0) B dX7_balanceByPages_13 (by decide) ?_
      refine z_istore (lv1 := [(4, .int (nI (0))), (3, .int (nI (0))), (0, .ref (h)), (1, .int (nI (jx))), (2, .int (nI (jy)))]) B dX7_balanceByPages_14 (by decide) rfl ?_
      refine z_iconst (v := nI 0) B dX7_balanceByPages_16 (by decide) ?_
      refine z_istore (lv1 := [(5, .int (nI (0))), (4, .int (nI (0))), (3, .int (nI (0))), (0, .ref (h)), (1, .int (nI (jx))), (2, .int (nI (jy)))]) B dX7_balanceByPages_17 (by decide) rfl ?_
      have loop19 : ∀ (n0 i : Nat), i ≤ mP M → mP M + 1 ≤ i + n0 → zJ X 6 (zI1 D A (zs X)) Q (wM g h a (up2 M 0 0 (nI 0))) 0 0 [(0, .ref (h)), (1, .int (nI (jx))), (2, .int (nI (jy))), (3, .int (zsum (fun p => ifI (nI jy < M 6 p) (nI 0) (ifI (M 12 p = nI 2) (sOf M (M 10) p (nI jx)) (sOf M (M 11) p (nI jx)))) i)), (4, .int (bI (pBu M (nI jy) i))), (5, .int (nI (i)))] 19 [] := by
        intro n19
        induction n19 with
        | zero => intro i h1 h2; exact absurd h2 (by omega)
        | succ n19 ih19 =>
          intro i hle19 hn19
          refine z_iload B 5 dX7_balanceByPages_19 rfl ?_
          refine z_aload_n B 0 dX7_balanceByPages_21 rfl rfl ?_
          refine z_get (C := RX7) (T := TX7) (N := 30) (v := .int (M 5 0)) B 0 5 1 fw_X7_balanceByPages_X7 rfl rfl (by decide) rfl rfl rfl dX7_balanceByPages_22 ?_
          refine z_top (y := nI (mP M)) (MI_5 hI) ?_
          refine z_icmpN_ge B 109 dX7_balanceByPages_25 (by decide) (by omega) (by omega) (fun zc25 => ?_) (fun zc25 => ?_)
          · obtain rfl : i = mP M := by omega
            refine z_aload_n B 0 dX7_balanceByPages_109 rfl rfl ?_
            refine z_iload B 4 dX7_balanceByPages_110 rfl ?_
            refine z_ifB_eq B 119 dX7_balanceByPages_112 (by decide) (fun zc112 => ?_) (fun zc112 => ?_)
            · refine z_iconst (v := nI 0) B dX7_balanceByPages_119 (by decide) ?_
              refine z_callM (As := [.int (nI (0))]) (st := []) (C := RX7) (T := TX7) (N := 30) (ci := 7) (l := l) B hl (c7_refused l D g h a (up2 M 0 0 (nI 0)) (nI (0))) gX7_balanceByPages_X7_refused rfl ⟨rfl, rfl⟩ nm_X7_refused ⟨by decide, by decide⟩ 0 rfl rfl rfl (Nat.le_of_ble_eq_true rfl) dX7_balanceByPages_120 rfl rfl (by decide) (by decide) (fun r w1 hr => ?_)
              obtain ⟨hr1, rfl⟩ := hr
              rw [bI_f (show ¬ ¬ nI (0) = 0 by decide)] at hr1
              obtain rfl : r = nI 0 := hr1
              refine z_if_eq B 130 dX7_balanceByPages_123 (by decide) (fun _ => ?_) (fun h => absurd h (by decide))
              refine z_iload_n B 3 dX7_balanceByPages_130 rfl rfl ?_
              subst hQ
              exact z_mret B hAe hr dX7_balanceByPages_131 rfl (by decide) (by decide) (by refine ⟨_, rfl, ?_⟩; refine ⟨?_, ?_, ?_, ?_⟩ <;> intros <;> first | contradiction | rfl | exact ⟨rfl, rfl⟩ | omega  | exact ⟨bI_1 (by assumption), rfl⟩ | exact ⟨bI_z (by assumption), rfl⟩)
            · refine z_iconst (v := nI 3) B dX7_balanceByPages_115 (by decide) ?_
              refine z_goto B 120 dX7_balanceByPages_116 (by decide) ?_
              refine z_callM (As := [.int (nI (3))]) (st := []) (C := RX7) (T := TX7) (N := 30) (ci := 7) (l := l) B hl (c7_refused l D g h a (up2 M 0 0 (nI 0)) (nI (3))) gX7_balanceByPages_X7_refused rfl ⟨rfl, rfl⟩ nm_X7_refused ⟨by decide, by decide⟩ 0 rfl rfl rfl (Nat.le_of_ble_eq_true rfl) dX7_balanceByPages_120 rfl rfl (by decide) (by decide) (fun r w1 hr => ?_)
              obtain ⟨hr1, rfl⟩ := hr
              rw [bI_t (show ¬ nI (3) = 0 by decide)] at hr1
              obtain rfl : r = nI 1 := hr1
              refine z_if_eq B 130 dX7_balanceByPages_123 (by decide) (fun h => absurd h (by decide)) (fun _ => ?_)
              refine z_iconst (v := nI 0) B dX7_balanceByPages_126 (by decide) ?_
              refine z_goto B 131 dX7_balanceByPages_127 (by decide) ?_
              subst hQ
              exact z_mret B hAe hr dX7_balanceByPages_131 rfl (by decide) (by decide) (by refine ⟨_, rfl, ?_⟩; refine ⟨?_, ?_, ?_, ?_⟩ <;> intros <;> first | contradiction | rfl | exact ⟨rfl, rfl⟩ | omega  | exact ⟨bI_1 (by assumption), rfl⟩ | exact ⟨bI_z (by assumption), rfl⟩)
          · refine z_iload B 4 dX7_balanceByPages_28 rfl ?_
            refine z_ifB_ne B 55 dX7_balanceByPages_30 (by decide) (fun zc30 => ?_) (fun zc30 => ?_)
            · refine z_iconst (v := nI 1) B dX7_balanceByPages_55 (by decide) ?_
              refine z_goto B 60 dX7_balanceByPages_56 (by decide) ?_
              refine z_istore (lv1 := [(4, .int (nI (1))), (0, .ref (h)), (1, .int (nI (jx))), (2, .int (nI (jy))), (3, .int (zsum (fun p => ifI (nI jy < M 6 p) (nI 0) (ifI (M 12 p = nI 2) (sOf M (M 10) p (nI jx)) (sOf M (M 11) p (nI jx)))) i)), (5, .int (nI (i)))]) B dX7_balanceByPages_60 (by decide) rfl ?_
              refine z_iload_n B 4 dX7_balanceByPages_62 rfl rfl ?_
              refine z_aload_n B 1 dX7_balanceByPages_63 rfl rfl ?_
              refine z_get (C := RX7) (T := TX7) (N := 30) (v := .ref (a 6)) B 0 6 2 fw_X7_balanceByPages_X7 rfl rfl (by decide) rfl rfl rfl dX7_balanceByPages_64 ?_
              refine z_iload B 5 dX7_balanceByPages_67 rfl ?_
              refine z_iald (g := (M 6)) (i := i) B 3 0 rfl rfl (by omega) (by decide) dX7_balanceByPages_69 ?_
              refine z_iload_n B 3 dX7_balanceByPages_70 rfl rfl ?_
              refine z_icmp_gt B 100 dX7_balanceByPages_71 (by decide) (fun zc71 => ?_) (fun zc71 => ?_)
              · refine z_iconst (v := nI 0) B dX7_balanceByPages_100 (by decide) ?_
                refine z_iadd B dX7_balanceByPages_101 ?_
                refine z_istore_n (lv1 := [(3, .int (((zsum (fun p => ifI (nI jy < M 6 p) (nI 0) (ifI (M 12 p = nI 2) (sOf M (M 10) p (nI jx)) (sOf M (M 11) p (nI jx)))) i) + (nI (0))))), (4, .int (nI (1))), (0, .ref (h)), (1, .int (nI (jx))), (2, .int (nI (jy))), (5, .int (nI (i)))]) B dX7_balanceByPages_102 rfl (by decide) rfl ?_
                refine z_iinc B 5 (lv1 := [(5, .int (nI (i + 1))), (3, .int (((zsum (fun p => ifI (nI jy < M 6 p) (nI 0) (ifI (M 12 p = nI 2) (sOf M (M 10) p (nI jx)) (sOf M (M 11) p (nI jx)))) i) + (nI (0))))), (4, .int (nI (1))), (0, .ref (h)), (1, .int (nI (jx))), (2, .int (nI (jy)))]) dX7_balanceByPages_103 rfl (nI_1 _) (by decide) rfl ?_
                refine z_goto B 19 dX7_balanceByPages_106 (by decide) ?_
                refine z_loc [3, 4, 5, 1, 2, 0] (lv' := [(0, .ref (h)), (1, .int (nI (jx))), (2, .int (nI (jy))), (3, .int (((zsum (fun p => ifI (nI jy < M 6 p) (nI 0) (ifI (M 12 p = nI 2) (sOf M (M 10) p (nI jx)) (sOf M (M 11) p (nI jx)))) i) + (nI (0))))), (4, .int (nI (1))), (5, .int (nI (i + 1)))]) rfl ?_
                refine z_lvc (lv' := [(0, .ref (h)), (1, .int (nI (jx))), (2, .int (nI (jy))), (3, .int (zsum (fun p => ifI (nI jy < M 6 p) (nI 0) (ifI (M 12 p = nI 2) (sOf M (M 10) p (nI jx)) (sOf M (M 11) p (nI jx)))) (i + 1))), (4, .int (bI (pBu M (nI jy) (i + 1)))), (5, .int (nI ((i + 1))))]) (by (first | rw [bI_t (P := pBu M (nI jy) (i + 1)) (ex_s.mpr (Or.inl zc30))] | rw [bI_t (P := pBu M (nI jy) (i + 1)) (ex_s.mpr (Or.inr ⟨zc41, zc52⟩))] | rw [bI_f (P := pBu M (nI jy) (i + 1)) (fun h => (ex_s.mp h).elim zc30 (fun q => q.1 zc41))] | rw [bI_f (P := pBu M (nI jy) (i + 1)) (fun h => (ex_s.mp h).elim zc30 (fun q => zc52 q.2))]); rw [zsum]; (first | rw [ifI_t zc41] | rw [ifI_f zc41] | rw [ifI_t zc71] | rw [ifI_f zc71]); (first | done | rfl | (rw [ifI_t zc86]; rfl) | (rw [ifI_f zc86]; rfl))) ?_
                exact ih19 (i + 1) (by omega) (by omega)
              · refine z_aload_n B 1 dX7_balanceByPages_74 rfl rfl ?_
                refine z_iload B 5 dX7_balanceByPages_75 rfl ?_
                refine z_iload_n B 2 dX7_balanceByPages_77 rfl rfl ?_
                refine z_aload_n B 1 dX7_balanceByPages_78 rfl rfl ?_
                refine z_get (C := RX7) (T := TX7) (N := 30) (v := .ref (a 12)) B 0 12 3 fw_X7_balanceByPages_X7 rfl rfl (by decide) rfl rfl rfl dX7_balanceByPages_79 ?_
                refine z_iload B 5 dX7_balanceByPages_82 rfl ?_
                refine z_iald (g := (M 12)) (i := i) B 9 0 rfl rfl (by omega) (by decide) dX7_balanceByPages_84 ?_
                refine z_iconst (v := nI 2) B dX7_balanceByPages_85 (by decide) ?_
                refine z_icmp_ne B 93 dX7_balanceByPages_86 (by decide) (fun zc86 => ?_) (fun zc86 => ?_)
                · refine z_iconst (v := nI 0) B dX7_balanceByPages_93 (by decide) ?_
                  refine z_callP (As := [.int (nI (i)), .int (nI (jx)), .int (nI (0))]) (st := [.int (zsum (fun p => ifI (nI jy < M 6 p) (nI 0) (ifI (M 12 p = nI 2) (sOf M (M 10) p (nI jx)) (sOf M (M 11) p (nI jx)))) i)]) (C := RX7) (T := TX7) (N := 30) (ci := 7) (l := l) B hl (c7_sumOf_B l D g h a (up2 M 0 0 (nI 0)) (MI_up0 hI) i (by omega) (nI (jx))) gX7_balanceByPages_X7_sumOf rfl ⟨rfl, rfl⟩ nm_X7_sumOf ⟨by decide, by decide⟩ (fun _ h => h) 0 rfl rfl rfl (Nat.le_of_ble_eq_true rfl) dX7_balanceByPages_94 (Nat.zero_le _) (Nat.zero_le _) (fun r hr => ?_)
                  change r = sOf M (M 11) i (nI (jx)) at hr
                  subst hr
                  refine z_goto B 101 dX7_balanceByPages_97 (by decide) ?_
                  refine z_iadd B dX7_balanceByPages_101 ?_
                  refine z_istore_n (lv1 := [(3, .int (((zsum (fun p => ifI (nI jy < M 6 p) (nI 0) (ifI (M 12 p = nI 2) (sOf M (M 10) p (nI jx)) (sOf M (M 11) p (nI jx)))) i) + (sOf M (M 11) i (nI (jx)))))), (4, .int (nI (1))), (0, .ref (h)), (1, .int (nI (jx))), (2, .int (nI (jy))), (5, .int (nI (i)))]) B dX7_balanceByPages_102 rfl (by decide) rfl ?_
                  refine z_iinc B 5 (lv1 := [(5, .int (nI (i + 1))), (3, .int (((zsum (fun p => ifI (nI jy < M 6 p) (nI 0) (ifI (M 12 p = nI 2) (sOf M (M 10) p (nI jx)) (sOf M (M 11) p (nI jx)))) i) + (sOf M (M 11) i (nI (jx)))))), (4, .int (nI (1))), (0, .ref (h)), (1, .int (nI (jx))), (2, .int (nI (jy)))]) dX7_balanceByPages_103 rfl (nI_1 _) (by decide) rfl ?_
                  refine z_goto B 19 dX7_balanceByPages_106 (by decide) ?_
                  refine z_loc [3, 4, 5, 1, 2, 0] (lv' := [(0, .ref (h)), (1, .int (nI (jx))), (2, .int (nI (jy))), (3, .int (((zsum (fun p => ifI (nI jy < M 6 p) (nI 0) (ifI (M 12 p = nI 2) (sOf M (M 10) p (nI jx)) (sOf M (M 11) p (nI jx)))) i) + (sOf M (M 11) i (nI (jx)))))), (4, .int (nI (1))), (5, .int (nI (i + 1)))]) rfl ?_
                  refine z_lvc (lv' := [(0, .ref (h)), (1, .int (nI (jx))), (2, .int (nI (jy))), (3, .int (zsum (fun p => ifI (nI jy < M 6 p) (nI 0) (ifI (M 12 p = nI 2) (sOf M (M 10) p (nI jx)) (sOf M (M 11) p (nI jx)))) (i + 1))), (4, .int (bI (pBu M (nI jy) (i + 1)))), (5, .int (nI ((i + 1))))]) (by (first | rw [bI_t (P := pBu M (nI jy) (i + 1)) (ex_s.mpr (Or.inl zc30))] | rw [bI_t (P := pBu M (nI jy) (i + 1)) (ex_s.mpr (Or.inr ⟨zc41, zc52⟩))] | rw [bI_f (P := pBu M (nI jy) (i + 1)) (fun h => (ex_s.mp h).elim zc30 (fun q => q.1 zc41))] | rw [bI_f (P := pBu M (nI jy) (i + 1)) (fun h => (ex_s.mp h).elim zc30 (fun q => zc52 q.2))]); rw [zsum]; (first | rw [ifI_t zc41] | rw [ifI_f zc41] | rw [ifI_t zc71] | rw [ifI_f zc71]); (first | done | rfl | (rw [ifI_t zc86]; rfl) | (rw [ifI_f zc86]; rfl))) ?_
                  exact ih19 (i + 1) (by omega) (by omega)
                · refine z_iconst (v := nI 1) B dX7_balanceByPages_89 (by decide) ?_
                  refine z_goto B 94 dX7_balanceByPages_90 (by decide) ?_
                  refine z_callP (As := [.int (nI (i)), .int (nI (jx)), .int (nI (1))]) (st := [.int (zsum (fun p => ifI (nI jy < M 6 p) (nI 0) (ifI (M 12 p = nI 2) (sOf M (M 10) p (nI jx)) (sOf M (M 11) p (nI jx)))) i)]) (C := RX7) (T := TX7) (N := 30) (ci := 7) (l := l) B hl (c7_sumOf_W l D g h a (up2 M 0 0 (nI 0)) (MI_up0 hI) i (by omega) (nI (jx))) gX7_balanceByPages_X7_sumOf rfl ⟨rfl, rfl⟩ nm_X7_sumOf ⟨by decide, by decide⟩ (fun _ h => h) 0 rfl rfl rfl (Nat.le_of_ble_eq_true rfl) dX7_balanceByPages_94 (Nat.zero_le _) (Nat.zero_le _) (fun r hr => ?_)
                  change r = sOf M (M 10) i (nI (jx)) at hr
                  subst hr
                  refine z_goto B 101 dX7_balanceByPages_97 (by decide) ?_
                  refine z_iadd B dX7_balanceByPages_101 ?_
                  refine z_istore_n (lv1 := [(3, .int (((zsum (fun p => ifI (nI jy < M 6 p) (nI 0) (ifI (M 12 p = nI 2) (sOf M (M 10) p (nI jx)) (sOf M (M 11) p (nI jx)))) i) + (sOf M (M 10) i (nI (jx)))))), (4, .int (nI (1))), (0, .ref (h)), (1, .int (nI (jx))), (2, .int (nI (jy))), (5, .int (nI (i)))]) B dX7_balanceByPages_102 rfl (by decide) rfl ?_
                  refine z_iinc B 5 (lv1 := [(5, .int (nI (i + 1))), (3, .int (((zsum (fun p => ifI (nI jy < M 6 p) (nI 0) (ifI (M 12 p = nI 2) (sOf M (M 10) p (nI jx)) (sOf M (M 11) p (nI jx)))) i) + (sOf M (M 10) i (nI (jx)))))), (4, .int (nI (1))), (0, .ref (h)), (1, .int (nI (jx))), (2, .int (nI (jy)))]) dX7_balanceByPages_103 rfl (nI_1 _) (by decide) rfl ?_
                  refine z_goto B 19 dX7_balanceByPages_106 (by decide) ?_
                  refine z_loc [3, 4, 5, 1, 2, 0] (lv' := [(0, .ref (h)), (1, .int (nI (jx))), (2, .int (nI (jy))), (3, .int (((zsum (fun p => ifI (nI jy < M 6 p) (nI 0) (ifI (M 12 p = nI 2) (sOf M (M 10) p (nI jx)) (sOf M (M 11) p (nI jx)))) i) + (sOf M (M 10) i (nI (jx)))))), (4, .int (nI (1))), (5, .int (nI (i + 1)))]) rfl ?_
                  refine z_lvc (lv' := [(0, .ref (h)), (1, .int (nI (jx))), (2, .int (nI (jy))), (3, .int (zsum (fun p => ifI (nI jy < M 6 p) (nI 0) (ifI (M 12 p = nI 2) (sOf M (M 10) p (nI jx)) (sOf M (M 11) p (nI jx)))) (i + 1))), (4, .int (bI (pBu M (nI jy) (i + 1)))), (5, .int (nI ((i + 1))))]) (by (first | rw [bI_t (P := pBu M (nI jy) (i + 1)) (ex_s.mpr (Or.inl zc30))] | rw [bI_t (P := pBu M (nI jy) (i + 1)) (ex_s.mpr (Or.inr ⟨zc41, zc52⟩))] | rw [bI_f (P := pBu M (nI jy) (i + 1)) (fun h => (ex_s.mp h).elim zc30 (fun q => q.1 zc41))] | rw [bI_f (P := pBu M (nI jy) (i + 1)) (fun h => (ex_s.mp h).elim zc30 (fun q => zc52 q.2))]); rw [zsum]; (first | rw [ifI_t zc41] | rw [ifI_f zc41] | rw [ifI_t zc71] | rw [ifI_f zc71]); (first | done | rfl | (rw [ifI_t zc86]; rfl) | (rw [ifI_f zc86]; rfl))) ?_
                  exact ih19 (i + 1) (by omega) (by omega)
            · refine z_aload_n B 0 dX7_balanceByPages_33 rfl rfl ?_
              refine z_get (C := RX7) (T := TX7) (N := 30) (v := .ref (a 6)) B 0 6 2 fw_X7_balanceByPages_X7 rfl rfl (by decide) rfl rfl rfl dX7_balanceByPages_34 ?_
              refine z_iload B 5 dX7_balanceByPages_37 rfl ?_
              refine z_iald (g := (M 6)) (i := i) B 3 0 rfl rfl (by omega) (by decide) dX7_balanceByPages_39 ?_
              refine z_iload_n B 2 dX7_balanceByPages_40 rfl rfl ?_
              refine z_icmp_gt B 59 dX7_balanceByPages_41 (by decide) (fun zc41 => ?_) (fun zc41 => ?_)
              · refine z_iconst (v := nI 0) B dX7_balanceByPages_59 (by decide) ?_
                refine z_istore (lv1 := [(4, .int (nI (0))), (0, .ref (h)), (1, .int (nI (jx))), (2, .int (nI (jy))), (3, .int (zsum (fun p => ifI (nI jy < M 6 p) (nI 0) (ifI (M 12 p = nI 2) (sOf M (M 10) p (nI jx)) (sOf M (M 11) p (nI jx)))) i)), (5, .int (nI (i)))]) B dX7_balanceByPages_60 (by decide) rfl ?_
                refine z_iload_n B 4 dX7_balanceByPages_62 rfl rfl ?_
                refine z_aload_n B 1 dX7_balanceByPages_63 rfl rfl ?_
                refine z_get (C := RX7) (T := TX7) (N := 30) (v := .ref (a 6)) B 0 6 2 fw_X7_balanceByPages_X7 rfl rfl (by decide) rfl rfl rfl dX7_balanceByPages_64 ?_
                refine z_iload B 5 dX7_balanceByPages_67 rfl ?_
                refine z_iald (g := (M 6)) (i := i) B 3 0 rfl rfl (by omega) (by decide) dX7_balanceByPages_69 ?_
                refine z_iload_n B 3 dX7_balanceByPages_70 rfl rfl ?_
                refine z_icmp_gt B 100 dX7_balanceByPages_71 (by decide) (fun _ => ?_) (fun h => absurd zc41 h)
                refine z_iconst (v := nI 0) B dX7_balanceByPages_100 (by decide) ?_
                refine z_iadd B dX7_balanceByPages_101 ?_
                refine z_istore_n (lv1 := [(3, .int (((zsum (fun p => ifI (nI jy < M 6 p) (nI 0) (ifI (M 12 p = nI 2) (sOf M (M 10) p (nI jx)) (sOf M (M 11) p (nI jx)))) i) + (nI (0))))), (4, .int (nI (0))), (0, .ref (h)), (1, .int (nI (jx))), (2, .int (nI (jy))), (5, .int (nI (i)))]) B dX7_balanceByPages_102 rfl (by decide) rfl ?_
                refine z_iinc B 5 (lv1 := [(5, .int (nI (i + 1))), (3, .int (((zsum (fun p => ifI (nI jy < M 6 p) (nI 0) (ifI (M 12 p = nI 2) (sOf M (M 10) p (nI jx)) (sOf M (M 11) p (nI jx)))) i) + (nI (0))))), (4, .int (nI (0))), (0, .ref (h)), (1, .int (nI (jx))), (2, .int (nI (jy)))]) dX7_balanceByPages_103 rfl (nI_1 _) (by decide) rfl ?_
                refine z_goto B 19 dX7_balanceByPages_106 (by decide) ?_
                refine z_loc [3, 4, 5, 1, 2, 0] (lv' := [(0, .ref (h)), (1, .int (nI (jx))), (2, .int (nI (jy))), (3, .int (((zsum (fun p => ifI (nI jy < M 6 p) (nI 0) (ifI (M 12 p = nI 2) (sOf M (M 10) p (nI jx)) (sOf M (M 11) p (nI jx)))) i) + (nI (0))))), (4, .int (nI (0))), (5, .int (nI (i + 1)))]) rfl ?_
                refine z_lvc (lv' := [(0, .ref (h)), (1, .int (nI (jx))), (2, .int (nI (jy))), (3, .int (zsum (fun p => ifI (nI jy < M 6 p) (nI 0) (ifI (M 12 p = nI 2) (sOf M (M 10) p (nI jx)) (sOf M (M 11) p (nI jx)))) (i + 1))), (4, .int (bI (pBu M (nI jy) (i + 1)))), (5, .int (nI ((i + 1))))]) (by (first | rw [bI_t (P := pBu M (nI jy) (i + 1)) (ex_s.mpr (Or.inl zc30))] | rw [bI_t (P := pBu M (nI jy) (i + 1)) (ex_s.mpr (Or.inr ⟨zc41, zc52⟩))] | rw [bI_f (P := pBu M (nI jy) (i + 1)) (fun h => (ex_s.mp h).elim zc30 (fun q => q.1 zc41))] | rw [bI_f (P := pBu M (nI jy) (i + 1)) (fun h => (ex_s.mp h).elim zc30 (fun q => zc52 q.2))]); rw [zsum]; (first | rw [ifI_t zc41] | rw [ifI_f zc41] | rw [ifI_t zc71] | rw [ifI_f zc71]); (first | done | rfl | (rw [ifI_t zc86]; rfl) | (rw [ifI_f zc86]; rfl))) ?_
                exact ih19 (i + 1) (by omega) (by omega)
              · refine z_aload_n B 0 dX7_balanceByPages_44 rfl rfl ?_
                refine z_get (C := RX7) (T := TX7) (N := 30) (v := .ref (a 12)) B 0 12 3 fw_X7_balanceByPages_X7 rfl rfl (by decide) rfl rfl rfl dX7_balanceByPages_45 ?_
                refine z_iload B 5 dX7_balanceByPages_48 rfl ?_
                refine z_iald (g := (M 12)) (i := i) B 9 0 rfl rfl (by omega) (by decide) dX7_balanceByPages_50 ?_
                refine z_iconst (v := nI 1) B dX7_balanceByPages_51 (by decide) ?_
                refine z_icmp_ne B 59 dX7_balanceByPages_52 (by decide) (fun zc52 => ?_) (fun zc52 => ?_)
                · refine z_iconst (v := nI 0) B dX7_balanceByPages_59 (by decide) ?_
                  refine z_istore (lv1 := [(4, .int (nI (0))), (0, .ref (h)), (1, .int (nI (jx))), (2, .int (nI (jy))), (3, .int (zsum (fun p => ifI (nI jy < M 6 p) (nI 0) (ifI (M 12 p = nI 2) (sOf M (M 10) p (nI jx)) (sOf M (M 11) p (nI jx)))) i)), (5, .int (nI (i)))]) B dX7_balanceByPages_60 (by decide) rfl ?_
                  refine z_iload_n B 4 dX7_balanceByPages_62 rfl rfl ?_
                  refine z_aload_n B 1 dX7_balanceByPages_63 rfl rfl ?_
                  refine z_get (C := RX7) (T := TX7) (N := 30) (v := .ref (a 6)) B 0 6 2 fw_X7_balanceByPages_X7 rfl rfl (by decide) rfl rfl rfl dX7_balanceByPages_64 ?_
                  refine z_iload B 5 dX7_balanceByPages_67 rfl ?_
                  refine z_iald (g := (M 6)) (i := i) B 3 0 rfl rfl (by omega) (by decide) dX7_balanceByPages_69 ?_
                  refine z_iload_n B 3 dX7_balanceByPages_70 rfl rfl ?_
                  refine z_icmp_gt B 100 dX7_balanceByPages_71 (by decide) (fun h => absurd h zc41) (fun _ => ?_)
                  refine z_aload_n B 1 dX7_balanceByPages_74 rfl rfl ?_
                  refine z_iload B 5 dX7_balanceByPages_75 rfl ?_
                  refine z_iload_n B 2 dX7_balanceByPages_77 rfl rfl ?_
                  refine z_aload_n B 1 dX7_balanceByPages_78 rfl rfl ?_
                  refine z_get (C := RX7) (T := TX7) (N := 30) (v := .ref (a 12)) B 0 12 3 fw_X7_balanceByPages_X7 rfl rfl (by decide) rfl rfl rfl dX7_balanceByPages_79 ?_
                  refine z_iload B 5 dX7_balanceByPages_82 rfl ?_
                  refine z_iald (g := (M 12)) (i := i) B 9 0 rfl rfl (by omega) (by decide) dX7_balanceByPages_84 ?_
                  refine z_iconst (v := nI 2) B dX7_balanceByPages_85 (by decide) ?_
                  refine z_icmp_ne B 93 dX7_balanceByPages_86 (by decide) (fun zc86 => ?_) (fun zc86 => ?_)
                  · refine z_iconst (v := nI 0) B dX7_balanceByPages_93 (by decide) ?_
                    refine z_callP (As := [.int (nI (i)), .int (nI (jx)), .int (nI (0))]) (st := [.int (zsum (fun p => ifI (nI jy < M 6 p) (nI 0) (ifI (M 12 p = nI 2) (sOf M (M 10) p (nI jx)) (sOf M (M 11) p (nI jx)))) i)]) (C := RX7) (T := TX7) (N := 30) (ci := 7) (l := l) B hl (c7_sumOf_B l D g h a (up2 M 0 0 (nI 0)) (MI_up0 hI) i (by omega) (nI (jx))) gX7_balanceByPages_X7_sumOf rfl ⟨rfl, rfl⟩ nm_X7_sumOf ⟨by decide, by decide⟩ (fun _ h => h) 0 rfl rfl rfl (Nat.le_of_ble_eq_true rfl) dX7_balanceByPages_94 (Nat.zero_le _) (Nat.zero_le _) (fun r hr => ?_)
                    change r = sOf M (M 11) i (nI (jx)) at hr
                    subst hr
                    refine z_goto B 101 dX7_balanceByPages_97 (by decide) ?_
                    refine z_iadd B dX7_balanceByPages_101 ?_
                    refine z_istore_n (lv1 := [(3, .int (((zsum (fun p => ifI (nI jy < M 6 p) (nI 0) (ifI (M 12 p = nI 2) (sOf M (M 10) p (nI jx)) (sOf M (M 11) p (nI jx)))) i) + (sOf M (M 11) i (nI (jx)))))), (4, .int (nI (0))), (0, .ref (h)), (1, .int (nI (jx))), (2, .int (nI (jy))), (5, .int (nI (i)))]) B dX7_balanceByPages_102 rfl (by decide) rfl ?_
                    refine z_iinc B 5 (lv1 := [(5, .int (nI (i + 1))), (3, .int (((zsum (fun p => ifI (nI jy < M 6 p) (nI 0) (ifI (M 12 p = nI 2) (sOf M (M 10) p (nI jx)) (sOf M (M 11) p (nI jx)))) i) + (sOf M (M 11) i (nI (jx)))))), (4, .int (nI (0))), (0, .ref (h)), (1, .int (nI (jx))), (2, .int (nI (jy)))]) dX7_balanceByPages_103 rfl (nI_1 _) (by decide) rfl ?_
                    refine z_goto B 19 dX7_balanceByPages_106 (by decide) ?_
                    refine z_loc [3, 4, 5, 1, 2, 0] (lv' := [(0, .ref (h)), (1, .int (nI (jx))), (2, .int (nI (jy))), (3, .int (((zsum (fun p => ifI (nI jy < M 6 p) (nI 0) (ifI (M 12 p = nI 2) (sOf M (M 10) p (nI jx)) (sOf M (M 11) p (nI jx)))) i) + (sOf M (M 11) i (nI (jx)))))), (4, .int (nI (0))), (5, .int (nI (i + 1)))]) rfl ?_
                    refine z_lvc (lv' := [(0, .ref (h)), (1, .int (nI (jx))), (2, .int (nI (jy))), (3, .int (zsum (fun p => ifI (nI jy < M 6 p) (nI 0) (ifI (M 12 p = nI 2) (sOf M (M 10) p (nI jx)) (sOf M (M 11) p (nI jx)))) (i + 1))), (4, .int (bI (pBu M (nI jy) (i + 1)))), (5, .int (nI ((i + 1))))]) (by (first | rw [bI_t (P := pBu M (nI jy) (i + 1)) (ex_s.mpr (Or.inl zc30))] | rw [bI_t (P := pBu M (nI jy) (i + 1)) (ex_s.mpr (Or.inr ⟨zc41, zc52⟩))] | rw [bI_f (P := pBu M (nI jy) (i + 1)) (fun h => (ex_s.mp h).elim zc30 (fun q => q.1 zc41))] | rw [bI_f (P := pBu M (nI jy) (i + 1)) (fun h => (ex_s.mp h).elim zc30 (fun q => zc52 q.2))]); rw [zsum]; (first | rw [ifI_t zc41] | rw [ifI_f zc41] | rw [ifI_t zc71] | rw [ifI_f zc71]); (first | done | rfl | (rw [ifI_t zc86]; rfl) | (rw [ifI_f zc86]; rfl))) ?_
                    exact ih19 (i + 1) (by omega) (by omega)
                  · refine z_iconst (v := nI 1) B dX7_balanceByPages_89 (by decide) ?_
                    refine z_goto B 94 dX7_balanceByPages_90 (by decide) ?_
                    refine z_callP (As := [.int (nI (i)), .int (nI (jx)), .int (nI (1))]) (st := [.int (zsum (fun p => ifI (nI jy < M 6 p) (nI 0) (ifI (M 12 p = nI 2) (sOf M (M 10) p (nI jx)) (sOf M (M 11) p (nI jx)))) i)]) (C := RX7) (T := TX7) (N := 30) (ci := 7) (l := l) B hl (c7_sumOf_W l D g h a (up2 M 0 0 (nI 0)) (MI_up0 hI) i (by omega) (nI (jx))) gX7_balanceByPages_X7_sumOf rfl ⟨rfl, rfl⟩ nm_X7_sumOf ⟨by decide, by decide⟩ (fun _ h => h) 0 rfl rfl rfl (Nat.le_of_ble_eq_true rfl) dX7_balanceByPages_94 (Nat.zero_le _) (Nat.zero_le _) (fun r hr => ?_)
                    change r = sOf M (M 10) i (nI (jx)) at hr
                    subst hr
                    refine z_goto B 101 dX7_balanceByPages_97 (by decide) ?_
                    refine z_iadd B dX7_balanceByPages_101 ?_
                    refine z_istore_n (lv1 := [(3, .int (((zsum (fun p => ifI (nI jy < M 6 p) (nI 0) (ifI (M 12 p = nI 2) (sOf M (M 10) p (nI jx)) (sOf M (M 11) p (nI jx)))) i) + (sOf M (M 10) i (nI (jx)))))), (4, .int (nI (0))), (0, .ref (h)), (1, .int (nI (jx))), (2, .int (nI (jy))), (5, .int (nI (i)))]) B dX7_balanceByPages_102 rfl (by decide) rfl ?_
                    refine z_iinc B 5 (lv1 := [(5, .int (nI (i + 1))), (3, .int (((zsum (fun p => ifI (nI jy < M 6 p) (nI 0) (ifI (M 12 p = nI 2) (sOf M (M 10) p (nI jx)) (sOf M (M 11) p (nI jx)))) i) + (sOf M (M 10) i (nI (jx)))))), (4, .int (nI (0))), (0, .ref (h)), (1, .int (nI (jx))), (2, .int (nI (jy)))]) dX7_balanceByPages_103 rfl (nI_1 _) (by decide) rfl ?_
                    refine z_goto B 19 dX7_balanceByPages_106 (by decide) ?_
                    refine z_loc [3, 4, 5, 1, 2, 0] (lv' := [(0, .ref (h)), (1, .int (nI (jx))), (2, .int (nI (jy))), (3, .int (((zsum (fun p => ifI (nI jy < M 6 p) (nI 0) (ifI (M 12 p = nI 2) (sOf M (M 10) p (nI jx)) (sOf M (M 11) p (nI jx)))) i) + (sOf M (M 10) i (nI (jx)))))), (4, .int (nI (0))), (5, .int (nI (i + 1)))]) rfl ?_
                    refine z_lvc (lv' := [(0, .ref (h)), (1, .int (nI (jx))), (2, .int (nI (jy))), (3, .int (zsum (fun p => ifI (nI jy < M 6 p) (nI 0) (ifI (M 12 p = nI 2) (sOf M (M 10) p (nI jx)) (sOf M (M 11) p (nI jx)))) (i + 1))), (4, .int (bI (pBu M (nI jy) (i + 1)))), (5, .int (nI ((i + 1))))]) (by (first | rw [bI_t (P := pBu M (nI jy) (i + 1)) (ex_s.mpr (Or.inl zc30))] | rw [bI_t (P := pBu M (nI jy) (i + 1)) (ex_s.mpr (Or.inr ⟨zc41, zc52⟩))] | rw [bI_f (P := pBu M (nI jy) (i + 1)) (fun h => (ex_s.mp h).elim zc30 (fun q => q.1 zc41))] | rw [bI_f (P := pBu M (nI jy) (i + 1)) (fun h => (ex_s.mp h).elim zc30 (fun q => zc52 q.2))]); rw [zsum]; (first | rw [ifI_t zc41] | rw [ifI_f zc41] | rw [ifI_t zc71] | rw [ifI_f zc71]); (first | done | rfl | (rw [ifI_t zc86]; rfl) | (rw [ifI_f zc86]; rfl))) ?_
                    exact ih19 (i + 1) (by omega) (by omega)
                · refine z_iconst (v := nI 1) B dX7_balanceByPages_55 (by decide) ?_
                  refine z_goto B 60 dX7_balanceByPages_56 (by decide) ?_
                  refine z_istore (lv1 := [(4, .int (nI (1))), (0, .ref (h)), (1, .int (nI (jx))), (2, .int (nI (jy))), (3, .int (zsum (fun p => ifI (nI jy < M 6 p) (nI 0) (ifI (M 12 p = nI 2) (sOf M (M 10) p (nI jx)) (sOf M (M 11) p (nI jx)))) i)), (5, .int (nI (i)))]) B dX7_balanceByPages_60 (by decide) rfl ?_
                  refine z_iload_n B 4 dX7_balanceByPages_62 rfl rfl ?_
                  refine z_aload_n B 1 dX7_balanceByPages_63 rfl rfl ?_
                  refine z_get (C := RX7) (T := TX7) (N := 30) (v := .ref (a 6)) B 0 6 2 fw_X7_balanceByPages_X7 rfl rfl (by decide) rfl rfl rfl dX7_balanceByPages_64 ?_
                  refine z_iload B 5 dX7_balanceByPages_67 rfl ?_
                  refine z_iald (g := (M 6)) (i := i) B 3 0 rfl rfl (by omega) (by decide) dX7_balanceByPages_69 ?_
                  refine z_iload_n B 3 dX7_balanceByPages_70 rfl rfl ?_
                  refine z_icmp_gt B 100 dX7_balanceByPages_71 (by decide) (fun h => absurd h zc41) (fun _ => ?_)
                  refine z_aload_n B 1 dX7_balanceByPages_74 rfl rfl ?_
                  refine z_iload B 5 dX7_balanceByPages_75 rfl ?_
                  refine z_iload_n B 2 dX7_balanceByPages_77 rfl rfl ?_
                  refine z_aload_n B 1 dX7_balanceByPages_78 rfl rfl ?_
                  refine z_get (C := RX7) (T := TX7) (N := 30) (v := .ref (a 12)) B 0 12 3 fw_X7_balanceByPages_X7 rfl rfl (by decide) rfl rfl rfl dX7_balanceByPages_79 ?_
                  refine z_iload B 5 dX7_balanceByPages_82 rfl ?_
                  refine z_iald (g := (M 12)) (i := i) B 9 0 rfl rfl (by omega) (by decide) dX7_balanceByPages_84 ?_
                  refine z_iconst (v := nI 2) B dX7_balanceByPages_85 (by decide) ?_
                  refine z_icmp_ne B 93 dX7_balanceByPages_86 (by decide) (fun zc86 => ?_) (fun zc86 => ?_)
                  · refine z_iconst (v := nI 0) B dX7_balanceByPages_93 (by decide) ?_
                    refine z_callP (As := [.int (nI (i)), .int (nI (jx)), .int (nI (0))]) (st := [.int (zsum (fun p => ifI (nI jy < M 6 p) (nI 0) (ifI (M 12 p = nI 2) (sOf M (M 10) p (nI jx)) (sOf M (M 11) p (nI jx)))) i)]) (C := RX7) (T := TX7) (N := 30) (ci := 7) (l := l) B hl (c7_sumOf_B l D g h a (up2 M 0 0 (nI 0)) (MI_up0 hI) i (by omega) (nI (jx))) gX7_balanceByPages_X7_sumOf rfl ⟨rfl, rfl⟩ nm_X7_sumOf ⟨by decide, by decide⟩ (fun _ h => h) 0 rfl rfl rfl (Nat.le_of_ble_eq_true rfl) dX7_balanceByPages_94 (Nat.zero_le _) (Nat.zero_le _) (fun r hr => ?_)
                    change r = sOf M (M 11) i (nI (jx)) at hr
                    subst hr
                    refine z_goto B 101 dX7_balanceByPages_97 (by decide) ?_
                    refine z_iadd B dX7_balanceByPages_101 ?_
                    refine z_istore_n (lv1 := [(3, .int (((zsum (fun p => ifI (nI jy < M 6 p) (nI 0) (ifI (M 12 p = nI 2) (sOf M (M 10) p (nI jx)) (sOf M (M 11) p (nI jx)))) i) + (sOf M (M 11) i (nI (jx)))))), (4, .int (nI (1))), (0, .ref (h)), (1, .int (nI (jx))), (2, .int (nI (jy))), (5, .int (nI (i)))]) B dX7_balanceByPages_102 rfl (by decide) rfl ?_
                    refine z_iinc B 5 (lv1 := [(5, .int (nI (i + 1))), (3, .int (((zsum (fun p => ifI (nI jy < M 6 p) (nI 0) (ifI (M 12 p = nI 2) (sOf M (M 10) p (nI jx)) (sOf M (M 11) p (nI jx)))) i) + (sOf M (M 11) i (nI (jx)))))), (4, .int (nI (1))), (0, .ref (h)), (1, .int (nI (jx))), (2, .int (nI (jy)))]) dX7_balanceByPages_103 rfl (nI_1 _) (by decide) rfl ?_
                    refine z_goto B 19 dX7_balanceByPages_106 (by decide) ?_
                    refine z_loc [3, 4, 5, 1, 2, 0] (lv' := [(0, .ref (h)), (1, .int (nI (jx))), (2, .int (nI (jy))), (3, .int (((zsum (fun p => ifI (nI jy < M 6 p) (nI 0) (ifI (M 12 p = nI 2) (sOf M (M 10) p (nI jx)) (sOf M (M 11) p (nI jx)))) i) + (sOf M (M 11) i (nI (jx)))))), (4, .int (nI (1))), (5, .int (nI (i + 1)))]) rfl ?_
                    refine z_lvc (lv' := [(0, .ref (h)), (1, .int (nI (jx))), (2, .int (nI (jy))), (3, .int (zsum (fun p => ifI (nI jy < M 6 p) (nI 0) (ifI (M 12 p = nI 2) (sOf M (M 10) p (nI jx)) (sOf M (M 11) p (nI jx)))) (i + 1))), (4, .int (bI (pBu M (nI jy) (i + 1)))), (5, .int (nI ((i + 1))))]) (by (first | rw [bI_t (P := pBu M (nI jy) (i + 1)) (ex_s.mpr (Or.inl zc30))] | rw [bI_t (P := pBu M (nI jy) (i + 1)) (ex_s.mpr (Or.inr ⟨zc41, zc52⟩))] | rw [bI_f (P := pBu M (nI jy) (i + 1)) (fun h => (ex_s.mp h).elim zc30 (fun q => q.1 zc41))] | rw [bI_f (P := pBu M (nI jy) (i + 1)) (fun h => (ex_s.mp h).elim zc30 (fun q => zc52 q.2))]); rw [zsum]; (first | rw [ifI_t zc41] | rw [ifI_f zc41] | rw [ifI_t zc71] | rw [ifI_f zc71]); (first | done | rfl | (rw [ifI_t zc86]; rfl) | (rw [ifI_f zc86]; rfl))) ?_
                    exact ih19 (i + 1) (by omega) (by omega)
                  · refine z_iconst (v := nI 1) B dX7_balanceByPages_89 (by decide) ?_
                    refine z_goto B 94 dX7_balanceByPages_90 (by decide) ?_
                    refine z_callP (As := [.int (nI (i)), .int (nI (jx)), .int (nI (1))]) (st := [.int (zsum (fun p => ifI (nI jy < M 6 p) (nI 0) (ifI (M 12 p = nI 2) (sOf M (M 10) p (nI jx)) (sOf M (M 11) p (nI jx)))) i)]) (C := RX7) (T := TX7) (N := 30) (ci := 7) (l := l) B hl (c7_sumOf_W l D g h a (up2 M 0 0 (nI 0)) (MI_up0 hI) i (by omega) (nI (jx))) gX7_balanceByPages_X7_sumOf rfl ⟨rfl, rfl⟩ nm_X7_sumOf ⟨by decide, by decide⟩ (fun _ h => h) 0 rfl rfl rfl (Nat.le_of_ble_eq_true rfl) dX7_balanceByPages_94 (Nat.zero_le _) (Nat.zero_le _) (fun r hr => ?_)
                    change r = sOf M (M 10) i (nI (jx)) at hr
                    subst hr
                    refine z_goto B 101 dX7_balanceByPages_97 (by decide) ?_
                    refine z_iadd B dX7_balanceByPages_101 ?_
                    refine z_istore_n (lv1 := [(3, .int (((zsum (fun p => ifI (nI jy < M 6 p) (nI 0) (ifI (M 12 p = nI 2) (sOf M (M 10) p (nI jx)) (sOf M (M 11) p (nI jx)))) i) + (sOf M (M 10) i (nI (jx)))))), (4, .int (nI (1))), (0, .ref (h)), (1, .int (nI (jx))), (2, .int (nI (jy))), (5, .int (nI (i)))]) B dX7_balanceByPages_102 rfl (by decide) rfl ?_
                    refine z_iinc B 5 (lv1 := [(5, .int (nI (i + 1))), (3, .int (((zsum (fun p => ifI (nI jy < M 6 p) (nI 0) (ifI (M 12 p = nI 2) (sOf M (M 10) p (nI jx)) (sOf M (M 11) p (nI jx)))) i) + (sOf M (M 10) i (nI (jx)))))), (4, .int (nI (1))), (0, .ref (h)), (1, .int (nI (jx))), (2, .int (nI (jy)))]) dX7_balanceByPages_103 rfl (nI_1 _) (by decide) rfl ?_
                    refine z_goto B 19 dX7_balanceByPages_106 (by decide) ?_
                    refine z_loc [3, 4, 5, 1, 2, 0] (lv' := [(0, .ref (h)), (1, .int (nI (jx))), (2, .int (nI (jy))), (3, .int (((zsum (fun p => ifI (nI jy < M 6 p) (nI 0) (ifI (M 12 p = nI 2) (sOf M (M 10) p (nI jx)) (sOf M (M 11) p (nI jx)))) i) + (sOf M (M 10) i (nI (jx)))))), (4, .int (nI (1))), (5, .int (nI (i + 1)))]) rfl ?_
                    refine z_lvc (lv' := [(0, .ref (h)), (1, .int (nI (jx))), (2, .int (nI (jy))), (3, .int (zsum (fun p => ifI (nI jy < M 6 p) (nI 0) (ifI (M 12 p = nI 2) (sOf M (M 10) p (nI jx)) (sOf M (M 11) p (nI jx)))) (i + 1))), (4, .int (bI (pBu M (nI jy) (i + 1)))), (5, .int (nI ((i + 1))))]) (by (first | rw [bI_t (P := pBu M (nI jy) (i + 1)) (ex_s.mpr (Or.inl zc30))] | rw [bI_t (P := pBu M (nI jy) (i + 1)) (ex_s.mpr (Or.inr ⟨zc41, zc52⟩))] | rw [bI_f (P := pBu M (nI jy) (i + 1)) (fun h => (ex_s.mp h).elim zc30 (fun q => q.1 zc41))] | rw [bI_f (P := pBu M (nI jy) (i + 1)) (fun h => (ex_s.mp h).elim zc30 (fun q => zc52 q.2))]); rw [zsum]; (first | rw [ifI_t zc41] | rw [ifI_f zc41] | rw [ifI_t zc71] | rw [ifI_f zc71]); (first | done | rfl | (rw [ifI_t zc86]; rfl) | (rw [ifI_f zc86]; rfl))) ?_
                    exact ih19 (i + 1) (by omega) (by omega)
      refine z_loc [3, 4, 5, 2, 1, 0] (lv' := [(0, .ref (h)), (1, .int (nI (jx))), (2, .int (nI (jy))), (3, .int (nI (0))), (4, .int (nI (0))), (5, .int (nI (0)))]) rfl ?_
      refine z_lvc (lv' := [(0, .ref (h)), (1, .int (nI (jx))), (2, .int (nI (jy))), (3, .int (zsum (fun p => ifI (nI jy < M 6 p) (nI 0) (ifI (M 12 p = nI 2) (sOf M (M 10) p (nI jx)) (sOf M (M 11) p (nI jx)))) 0)), (4, .int (bI (pBu M (nI jy) 0))), (5, .int (nI (0)))]) (by rw [bI_f (P := pBu M (nI jy) 0) (fun h => ex_0.mp h)]; rfl) ?_
      exact loop19 (mP M + 1) 0 (by omega) (by omega)
    · obtain ⟨rfl, rfl⟩ := hq.2.1 kd3_0 kk3_1
      refine z_if_eq B 11 dX7_balanceByPages_6 (by decide) (fun h => absurd h (by decide)) (fun _ => ?_)
      refine z_iconst (v := nI 0) B dX7_balanceByPages_9 (by decide) ?_
      subst hQ
      exact z_mret B hAe hr dX7_balanceByPages_10 rfl (by decide) (by decide) (by refine ⟨_, rfl, ?_⟩; refine ⟨?_, ?_, ?_, ?_⟩ <;> intros <;> first | contradiction | rfl | exact ⟨rfl, rfl⟩ | omega  | exact ⟨bI_1 (by assumption), rfl⟩ | exact ⟨bI_z (by assumption), rfl⟩)
  · obtain ⟨rfl, rfl⟩ := hq.1 kk3_0
    refine z_if_eq B 11 dX7_balanceByPages_6 (by decide) (fun h => absurd h (by decide)) (fun _ => ?_)
    refine z_iconst (v := nI 0) B dX7_balanceByPages_9 (by decide) ?_
    subst hQ
    exact z_mret B hAe hr dX7_balanceByPages_10 rfl (by decide) (by decide) (by refine ⟨_, rfl, ?_⟩; refine ⟨?_, ?_, ?_, ?_⟩ <;> intros <;> first | contradiction | rfl | exact ⟨rfl, rfl⟩ | omega  | exact ⟨bI_1 (by assumption), rfl⟩ | exact ⟨bI_z (by assumption), rfl⟩)
theorem fw_X7_balanceByCopies_X7 : zF wsX7_balanceByCopies RX7 TX7 30 := fun _ h => List.mem_cons_of_mem _ (List.mem_append_right _ (h))
set_option maxHeartbeats 4000000 in
set_option maxRecDepth 100000 in
theorem c7_balanceByCopies (l : Launch) (D : va_G) (g : zG) (h : Nat) (a : Nat → Nat) (M : zMS) (hI : MI M) (x : Int32) (y : Int32) : zMutI l yX7_balanceByCopies wsX7_balanceByCopies { frames := 4, cells := 0, slots := 0, locals := 92 } D (zT g) (wM g h a M) [.ref h, .int (x), .int (y)] (fun r w' => ∃ M', w' = wM g h a M' ∧ (¬ rng x 8 → M' = up2 M 0 0 (nI 1)) ∧ (rng x 8 → ¬ rng y (mT M + 1) → M' = up2 M 0 0 (nI 2)) ∧ (rng x 8 → rng y (mT M + 1) → ¬ pAl M y (mP M) → M' = up2 (up2 M 0 0 (nI 0)) 0 0 (nI 3)) ∧ (rng x 8 → rng y (mT M + 1) → pAl M y (mP M) → r = bOf M x y ∧ M' = up2 (up2 M 0 0 (nI 0)) 0 0 (nI 0))) 0 0 := by
  refine zMutI_of (cc := cX7_balanceByCopies) (maxL := 5) (ret := (some .int)) (own := RX7) [(0, .ref (h)), (1, .int (x)), (2, .int (y))] (by decide) rfl rfl rfl (Nat.le_of_ble_eq_true rfl) ?_
  intro X A hAe hl B hr hin
  obtain ⟨b5, b2, b15, b23, b25, b1⟩ := MI_bs hI
  generalize hQ : (zQe X (va_Qi (fun r w' => ∃ M', w' = wM g h a M' ∧ (¬ rng x 8 → M' = up2 M 0 0 (nI 1)) ∧ (rng x 8 → ¬ rng y (mT M + 1) → M' = up2 M 0 0 (nI 2)) ∧ (rng x 8 → rng y (mT M + 1) → ¬ pAl M y (mP M) → M' = up2 (up2 M 0 0 (nI 0)) 0 0 (nI 3)) ∧ (rng x 8 → rng y (mT M + 1) → pAl M y (mP M) → r = bOf M x y ∧ M' = up2 (up2 M 0 0 (nI 0)) 0 0 (nI 0))) (zEnd D (zT g) (wM g h a M) (zs X).heap.size) A) 0 0 A) = Q
  refine z_aload_n B 0 dX7_balanceByCopies_0 rfl rfl ?_
  refine z_iload_n B 1 dX7_balanceByCopies_1 rfl rfl ?_
  refine z_iload_n B 2 dX7_balanceByCopies_2 rfl rfl ?_
  refine z_callM (As := [.int (x), .int (y)]) (st := []) (C := RX7) (T := TX7) (N := 30) (ci := 7) (l := l) B hl (c7_noBalance l D g h a M hI x y) gX7_balanceByCopies_X7_noBalance rfl ⟨rfl, rfl⟩ nm_X7_noBalance ⟨by decide, by decide⟩ 0 rfl rfl rfl (Nat.le_of_ble_eq_true rfl) dX7_balanceByCopies_3 rfl rfl (by decide) (by decide) (fun r w1 hr => ?_)
  obtain ⟨M1, rfl, hq⟩ := hr
  by_cases kk3_0 : rng x 8
  · have kd3_0 := kk3_0
    have kkk3_0 := kk3_0
    obtain ⟨jx, hjx, rfl⟩ := kk3_0
    by_cases kk3_1 : rng y (mT M + 1)
    · have kd3_1 := kk3_1
      have kkk3_1 := kk3_1
      obtain ⟨jy, hjy, rfl⟩ := kk3_1
      obtain ⟨rfl, rfl⟩ := hq.2.2 kd3_0 kd3_1
      refine z_if_eq B 11 dX7_balanceByCopies_6 (by decide) (fun _ => ?_) (fun h => absurd h (by decide))
      refine z_iconst (v := nI 1) B dX7_balanceByCopies_11 (by decide) ?_
      refine z_istore_n (lv1 := [(3, .int (nI (1))), (0, .ref (h)), (1, .int (nI (jx))), (2, .int (nI (jy)))]) B dX7_balanceByCopies_12 rfl (by decide) rfl ?_
      refine z_iconst (v := nI 0) B dX7_balanceByCopies_13 (by decide) ?_
      refine z_istore (lv1 := [(4, .int (nI (0))), (3, .int (nI (1))), (0, .ref (h)), (1, .int (nI (jx))), (2, .int (nI (jy)))]) B dX7_balanceByCopies_14 (by decide) rfl ?_
      have loop16 : ∀ (n0 i : Nat), i ≤ mP M → mP M + 1 ≤ i + n0 → zJ X 5 (zI1 D A (zs X)) Q (wM g h a (up2 M 0 0 (nI 0))) 0 0 [(0, .ref (h)), (1, .int (nI (jx))), (2, .int (nI (jy))), (3, .int (bI (pAl M (nI jy) i))), (4, .int (nI (i)))] 16 [] := by
        intro n16
        induction n16 with
        | zero => intro i h1 h2; exact absurd h2 (by omega)
        | succ n16 ih16 =>
          intro i hle16 hn16
          refine z_iload B 4 dX7_balanceByCopies_16 rfl ?_
          refine z_aload_n B 0 dX7_balanceByCopies_18 rfl rfl ?_
          refine z_get (C := RX7) (T := TX7) (N := 30) (v := .int (M 5 0)) B 0 5 1 fw_X7_balanceByCopies_X7 rfl rfl (by decide) rfl rfl rfl dX7_balanceByCopies_19 ?_
          refine z_top (y := nI (mP M)) (MI_5 hI) ?_
          refine z_icmpN_ge B 82 dX7_balanceByCopies_22 (by decide) (by omega) (by omega) (fun zc22 => ?_) (fun zc22 => ?_)
          · obtain rfl : i = mP M := by omega
            refine z_aload_n B 0 dX7_balanceByCopies_82 rfl rfl ?_
            refine z_iload_n B 3 dX7_balanceByCopies_83 rfl rfl ?_
            refine z_ifB_eq B 91 dX7_balanceByCopies_84 (by decide) (fun zc84 => ?_) (fun zc84 => ?_)
            · refine z_iconst (v := nI 3) B dX7_balanceByCopies_91 (by decide) ?_
              refine z_callM (As := [.int (nI (3))]) (st := []) (C := RX7) (T := TX7) (N := 30) (ci := 7) (l := l) B hl (c7_refused l D g h a (up2 M 0 0 (nI 0)) (nI (3))) gX7_balanceByCopies_X7_refused rfl ⟨rfl, rfl⟩ nm_X7_refused ⟨by decide, by decide⟩ 0 rfl rfl rfl (Nat.le_of_ble_eq_true rfl) dX7_balanceByCopies_92 rfl rfl (by decide) (by decide) (fun r w1 hr => ?_)
              obtain ⟨hr1, rfl⟩ := hr
              rw [bI_t (show ¬ nI (3) = 0 by decide)] at hr1
              obtain rfl : r = nI 1 := hr1
              refine z_if_eq B 102 dX7_balanceByCopies_95 (by decide) (fun h => absurd h (by decide)) (fun _ => ?_)
              refine z_iconst (v := nI 0) B dX7_balanceByCopies_98 (by decide) ?_
              refine z_goto B 108 dX7_balanceByCopies_99 (by decide) ?_
              subst hQ
              exact z_mret B hAe hr dX7_balanceByCopies_108 rfl (by decide) (by decide) (by refine ⟨_, rfl, ?_⟩; refine ⟨?_, ?_, ?_, ?_⟩ <;> intros <;> first | contradiction | rfl | exact ⟨rfl, rfl⟩ | omega  | exact ⟨bI_1 (by assumption), rfl⟩ | exact ⟨bI_z (by assumption), rfl⟩)
            · refine z_iconst (v := nI 0) B dX7_balanceByCopies_87 (by decide) ?_
              refine z_goto B 92 dX7_balanceByCopies_88 (by decide) ?_
              refine z_callM (As := [.int (nI (0))]) (st := []) (C := RX7) (T := TX7) (N := 30) (ci := 7) (l := l) B hl (c7_refused l D g h a (up2 M 0 0 (nI 0)) (nI (0))) gX7_balanceByCopies_X7_refused rfl ⟨rfl, rfl⟩ nm_X7_refused ⟨by decide, by decide⟩ 0 rfl rfl rfl (Nat.le_of_ble_eq_true rfl) dX7_balanceByCopies_92 rfl rfl (by decide) (by decide) (fun r w1 hr => ?_)
              obtain ⟨hr1, rfl⟩ := hr
              rw [bI_f (show ¬ ¬ nI (0) = 0 by decide)] at hr1
              obtain rfl : r = nI 0 := hr1
              refine z_if_eq B 102 dX7_balanceByCopies_95 (by decide) (fun _ => ?_) (fun h => absurd h (by decide))
              refine z_aload_n B 0 dX7_balanceByCopies_102 rfl rfl ?_
              refine z_iload_n B 1 dX7_balanceByCopies_103 rfl rfl ?_
              refine z_iload_n B 2 dX7_balanceByCopies_104 rfl rfl ?_
              refine z_callP (As := [.int (nI (jx)), .int (nI (jy))]) (st := []) (C := RX7) (T := TX7) (N := 30) (ci := 7) (l := l) B hl (c7_balanceOf l D g h a (up2 (up2 M 0 0 (nI 0)) 0 0 (nI (0))) (MI_up0 hI) (nI (jx)) (nI (jy))) gX7_balanceByCopies_X7_balanceOf rfl ⟨rfl, rfl⟩ nm_X7_balanceOf ⟨by decide, by decide⟩ (fun _ h => h) 0 rfl rfl rfl (Nat.le_of_ble_eq_true rfl) dX7_balanceByCopies_105 (Nat.zero_le _) (Nat.zero_le _) (fun r hr => ?_)
              change r = bOf M (nI (jx)) (nI (jy)) at hr
              subst hr
              subst hQ
              exact z_mret B hAe hr dX7_balanceByCopies_108 rfl (by decide) (by decide) (by refine ⟨_, rfl, ?_⟩; refine ⟨?_, ?_, ?_, ?_⟩ <;> intros <;> first | contradiction | rfl | exact ⟨rfl, rfl⟩ | omega  | exact ⟨bI_1 (by assumption), rfl⟩ | exact ⟨bI_z (by assumption), rfl⟩)
          · refine z_iload_n B 3 dX7_balanceByCopies_25 rfl rfl ?_
            refine z_ifB_eq B 74 dX7_balanceByCopies_26 (by decide) (fun zc26 => ?_) (fun zc26 => ?_)
            · refine z_iconst (v := nI 0) B dX7_balanceByCopies_74 (by decide) ?_
              refine z_istore_n (lv1 := [(3, .int (nI (0))), (0, .ref (h)), (1, .int (nI (jx))), (2, .int (nI (jy))), (4, .int (nI (i)))]) B dX7_balanceByCopies_75 rfl (by decide) rfl ?_
              refine z_iinc B 4 (lv1 := [(4, .int (nI (i + 1))), (3, .int (nI (0))), (0, .ref (h)), (1, .int (nI (jx))), (2, .int (nI (jy)))]) dX7_balanceByCopies_76 rfl (nI_1 _) (by decide) rfl ?_
              refine z_goto B 16 dX7_balanceByCopies_79 (by decide) ?_
              refine z_loc [2, 3, 4, 1, 0] (lv' := [(0, .ref (h)), (1, .int (nI (jx))), (2, .int (nI (jy))), (3, .int (nI (0))), (4, .int (nI (i + 1)))]) rfl ?_
              refine z_lvc (lv' := [(0, .ref (h)), (1, .int (nI (jx))), (2, .int (nI (jy))), (3, .int (bI (pAl M (nI jy) (i + 1)))), (4, .int (nI ((i + 1))))]) (by first | (rw [bI_t (P := pAl M (nI jy) (i + 1)) (all_s.mpr ⟨zc26, Or.inl zc37⟩)]; rfl) | (rw [bI_t (P := pAl M (nI jy) (i + 1)) (all_s.mpr ⟨zc26, Or.inr (Or.inl zc48)⟩)]; rfl) | (rw [bI_t (P := pAl M (nI jy) (i + 1)) (all_s.mpr ⟨zc26, Or.inr (Or.inr (Or.inl zc57))⟩)]; rfl) | (rw [bI_t (P := pAl M (nI jy) (i + 1)) (all_s.mpr ⟨zc26, Or.inr (Or.inr (Or.inr zc67))⟩)]; rfl) | (rw [bI_f (P := pAl M (nI jy) (i + 1)) (fun h => zc26 (all_s.mp h).1)]; rfl) | (rw [bI_f (P := pAl M (nI jy) (i + 1)) (fun h => (all_s.mp h).2.elim zc37 (fun h => h.elim zc48 (fun h => h.elim zc57 zc67)))]; rfl)) ?_
              exact ih16 (i + 1) (by omega) (by omega)
            · refine z_aload_n B 0 dX7_balanceByCopies_29 rfl rfl ?_
              refine z_get (C := RX7) (T := TX7) (N := 30) (v := .ref (a 6)) B 0 6 2 fw_X7_balanceByCopies_X7 rfl rfl (by decide) rfl rfl rfl dX7_balanceByCopies_30 ?_
              refine z_iload B 4 dX7_balanceByCopies_33 rfl ?_
              refine z_iald (g := (M 6)) (i := i) B 3 0 rfl rfl (by omega) (by decide) dX7_balanceByCopies_35 ?_
              refine z_iload_n B 2 dX7_balanceByCopies_36 rfl rfl ?_
              refine z_icmp_gt B 70 dX7_balanceByCopies_37 (by decide) (fun zc37 => ?_) (fun zc37 => ?_)
              · refine z_iconst (v := nI 1) B dX7_balanceByCopies_70 (by decide) ?_
                refine z_goto B 75 dX7_balanceByCopies_71 (by decide) ?_
                refine z_istore_n (lv1 := [(3, .int (nI (1))), (0, .ref (h)), (1, .int (nI (jx))), (2, .int (nI (jy))), (4, .int (nI (i)))]) B dX7_balanceByCopies_75 rfl (by decide) rfl ?_
                refine z_iinc B 4 (lv1 := [(4, .int (nI (i + 1))), (3, .int (nI (1))), (0, .ref (h)), (1, .int (nI (jx))), (2, .int (nI (jy)))]) dX7_balanceByCopies_76 rfl (nI_1 _) (by decide) rfl ?_
                refine z_goto B 16 dX7_balanceByCopies_79 (by decide) ?_
                refine z_loc [2, 3, 4, 1, 0] (lv' := [(0, .ref (h)), (1, .int (nI (jx))), (2, .int (nI (jy))), (3, .int (nI (1))), (4, .int (nI (i + 1)))]) rfl ?_
                refine z_lvc (lv' := [(0, .ref (h)), (1, .int (nI (jx))), (2, .int (nI (jy))), (3, .int (bI (pAl M (nI jy) (i + 1)))), (4, .int (nI ((i + 1))))]) (by first | (rw [bI_t (P := pAl M (nI jy) (i + 1)) (all_s.mpr ⟨zc26, Or.inl zc37⟩)]; rfl) | (rw [bI_t (P := pAl M (nI jy) (i + 1)) (all_s.mpr ⟨zc26, Or.inr (Or.inl zc48)⟩)]; rfl) | (rw [bI_t (P := pAl M (nI jy) (i + 1)) (all_s.mpr ⟨zc26, Or.inr (Or.inr (Or.inl zc57))⟩)]; rfl) | (rw [bI_t (P := pAl M (nI jy) (i + 1)) (all_s.mpr ⟨zc26, Or.inr (Or.inr (Or.inr zc67))⟩)]; rfl) | (rw [bI_f (P := pAl M (nI jy) (i + 1)) (fun h => zc26 (all_s.mp h).1)]; rfl) | (rw [bI_f (P := pAl M (nI jy) (i + 1)) (fun h => (all_s.mp h).2.elim zc37 (fun h => h.elim zc48 (fun h => h.elim zc57 zc67)))]; rfl)) ?_
                exact ih16 (i + 1) (by omega) (by omega)
              · refine z_aload_n B 0 dX7_balanceByCopies_40 rfl rfl ?_
                refine z_get (C := RX7) (T := TX7) (N := 30) (v := .ref (a 12)) B 0 12 3 fw_X7_balanceByCopies_X7 rfl rfl (by decide) rfl rfl rfl dX7_balanceByCopies_41 ?_
                refine z_iload B 4 dX7_balanceByCopies_44 rfl ?_
                refine z_iald (g := (M 12)) (i := i) B 9 0 rfl rfl (by omega) (by decide) dX7_balanceByCopies_46 ?_
                refine z_iconst (v := nI 2) B dX7_balanceByCopies_47 (by decide) ?_
                refine z_icmp_eq B 70 dX7_balanceByCopies_48 (by decide) (fun zc48 => ?_) (fun zc48 => ?_)
                · refine z_iconst (v := nI 1) B dX7_balanceByCopies_70 (by decide) ?_
                  refine z_goto B 75 dX7_balanceByCopies_71 (by decide) ?_
                  refine z_istore_n (lv1 := [(3, .int (nI (1))), (0, .ref (h)), (1, .int (nI (jx))), (2, .int (nI (jy))), (4, .int (nI (i)))]) B dX7_balanceByCopies_75 rfl (by decide) rfl ?_
                  refine z_iinc B 4 (lv1 := [(4, .int (nI (i + 1))), (3, .int (nI (1))), (0, .ref (h)), (1, .int (nI (jx))), (2, .int (nI (jy)))]) dX7_balanceByCopies_76 rfl (nI_1 _) (by decide) rfl ?_
                  refine z_goto B 16 dX7_balanceByCopies_79 (by decide) ?_
                  refine z_loc [2, 3, 4, 1, 0] (lv' := [(0, .ref (h)), (1, .int (nI (jx))), (2, .int (nI (jy))), (3, .int (nI (1))), (4, .int (nI (i + 1)))]) rfl ?_
                  refine z_lvc (lv' := [(0, .ref (h)), (1, .int (nI (jx))), (2, .int (nI (jy))), (3, .int (bI (pAl M (nI jy) (i + 1)))), (4, .int (nI ((i + 1))))]) (by first | (rw [bI_t (P := pAl M (nI jy) (i + 1)) (all_s.mpr ⟨zc26, Or.inl zc37⟩)]; rfl) | (rw [bI_t (P := pAl M (nI jy) (i + 1)) (all_s.mpr ⟨zc26, Or.inr (Or.inl zc48)⟩)]; rfl) | (rw [bI_t (P := pAl M (nI jy) (i + 1)) (all_s.mpr ⟨zc26, Or.inr (Or.inr (Or.inl zc57))⟩)]; rfl) | (rw [bI_t (P := pAl M (nI jy) (i + 1)) (all_s.mpr ⟨zc26, Or.inr (Or.inr (Or.inr zc67))⟩)]; rfl) | (rw [bI_f (P := pAl M (nI jy) (i + 1)) (fun h => zc26 (all_s.mp h).1)]; rfl) | (rw [bI_f (P := pAl M (nI jy) (i + 1)) (fun h => (all_s.mp h).2.elim zc37 (fun h => h.elim zc48 (fun h => h.elim zc57 zc67)))]; rfl)) ?_
                  exact ih16 (i + 1) (by omega) (by omega)
                · refine z_aload_n B 0 dX7_balanceByCopies_51 rfl rfl ?_
                  refine z_iload B 4 dX7_balanceByCopies_52 rfl ?_
                  refine z_callP (As := [.int (nI (i))]) (st := []) (C := RX7) (T := TX7) (N := 30) (ci := 7) (l := l) B hl (c7_isTrueInBook l D g h a (up2 M 0 0 (nI 0)) (MI_up0 hI) i (by omega)) gX7_balanceByCopies_X7_isTrueInBook rfl ⟨rfl, rfl⟩ nm_X7_isTrueInBook ⟨by decide, by decide⟩ (fun _ h => h) 0 rfl rfl rfl (Nat.le_of_ble_eq_true rfl) dX7_balanceByCopies_54 (Nat.zero_le _) (Nat.zero_le _) (fun r hr => ?_)
                  change r = bI (pTB M i) at hr
                  subst hr
                  refine z_ifB_ne B 70 dX7_balanceByCopies_57 (by decide) (fun zc57 => ?_) (fun zc57 => ?_)
                  · refine z_iconst (v := nI 1) B dX7_balanceByCopies_70 (by decide) ?_
                    refine z_goto B 75 dX7_balanceByCopies_71 (by decide) ?_
                    refine z_istore_n (lv1 := [(3, .int (nI (1))), (0, .ref (h)), (1, .int (nI (jx))), (2, .int (nI (jy))), (4, .int (nI (i)))]) B dX7_balanceByCopies_75 rfl (by decide) rfl ?_
                    refine z_iinc B 4 (lv1 := [(4, .int (nI (i + 1))), (3, .int (nI (1))), (0, .ref (h)), (1, .int (nI (jx))), (2, .int (nI (jy)))]) dX7_balanceByCopies_76 rfl (nI_1 _) (by decide) rfl ?_
                    refine z_goto B 16 dX7_balanceByCopies_79 (by decide) ?_
                    refine z_loc [2, 3, 4, 1, 0] (lv' := [(0, .ref (h)), (1, .int (nI (jx))), (2, .int (nI (jy))), (3, .int (nI (1))), (4, .int (nI (i + 1)))]) rfl ?_
                    refine z_lvc (lv' := [(0, .ref (h)), (1, .int (nI (jx))), (2, .int (nI (jy))), (3, .int (bI (pAl M (nI jy) (i + 1)))), (4, .int (nI ((i + 1))))]) (by first | (rw [bI_t (P := pAl M (nI jy) (i + 1)) (all_s.mpr ⟨zc26, Or.inl zc37⟩)]; rfl) | (rw [bI_t (P := pAl M (nI jy) (i + 1)) (all_s.mpr ⟨zc26, Or.inr (Or.inl zc48)⟩)]; rfl) | (rw [bI_t (P := pAl M (nI jy) (i + 1)) (all_s.mpr ⟨zc26, Or.inr (Or.inr (Or.inl zc57))⟩)]; rfl) | (rw [bI_t (P := pAl M (nI jy) (i + 1)) (all_s.mpr ⟨zc26, Or.inr (Or.inr (Or.inr zc67))⟩)]; rfl) | (rw [bI_f (P := pAl M (nI jy) (i + 1)) (fun h => zc26 (all_s.mp h).1)]; rfl) | (rw [bI_f (P := pAl M (nI jy) (i + 1)) (fun h => (all_s.mp h).2.elim zc37 (fun h => h.elim zc48 (fun h => h.elim zc57 zc67)))]; rfl)) ?_
                    exact ih16 (i + 1) (by omega) (by omega)
                  · refine z_aload_n B 0 dX7_balanceByCopies_60 rfl rfl ?_
                    refine z_iload B 4 dX7_balanceByCopies_61 rfl ?_
                    refine z_iconst (v := nI 1) B dX7_balanceByCopies_63 (by decide) ?_
                    refine z_callP (As := [.int (nI (i)), .int (nI (1))]) (st := []) (C := RX7) (T := TX7) (N := 30) (ci := 7) (l := l) B hl (c7_isFound l D g h a (up2 M 0 0 (nI 0)) (MI_up0 hI) i (by omega) (nI (1))) gX7_balanceByCopies_X7_isFound rfl ⟨rfl, rfl⟩ nm_X7_isFound ⟨by decide, by decide⟩ (fun _ h => h) 0 rfl rfl rfl (Nat.le_of_ble_eq_true rfl) dX7_balanceByCopies_64 (Nat.zero_le _) (Nat.zero_le _) (fun r hr => ?_)
                    change r = bI (pFd M i (nI (1))) at hr
                    subst hr
                    refine z_ifB_eq B 74 dX7_balanceByCopies_67 (by decide) (fun zc67 => ?_) (fun zc67 => ?_)
                    · refine z_iconst (v := nI 0) B dX7_balanceByCopies_74 (by decide) ?_
                      refine z_istore_n (lv1 := [(3, .int (nI (0))), (0, .ref (h)), (1, .int (nI (jx))), (2, .int (nI (jy))), (4, .int (nI (i)))]) B dX7_balanceByCopies_75 rfl (by decide) rfl ?_
                      refine z_iinc B 4 (lv1 := [(4, .int (nI (i + 1))), (3, .int (nI (0))), (0, .ref (h)), (1, .int (nI (jx))), (2, .int (nI (jy)))]) dX7_balanceByCopies_76 rfl (nI_1 _) (by decide) rfl ?_
                      refine z_goto B 16 dX7_balanceByCopies_79 (by decide) ?_
                      refine z_loc [2, 3, 4, 1, 0] (lv' := [(0, .ref (h)), (1, .int (nI (jx))), (2, .int (nI (jy))), (3, .int (nI (0))), (4, .int (nI (i + 1)))]) rfl ?_
                      refine z_lvc (lv' := [(0, .ref (h)), (1, .int (nI (jx))), (2, .int (nI (jy))), (3, .int (bI (pAl M (nI jy) (i + 1)))), (4, .int (nI ((i + 1))))]) (by first | (rw [bI_t (P := pAl M (nI jy) (i + 1)) (all_s.mpr ⟨zc26, Or.inl zc37⟩)]; rfl) | (rw [bI_t (P := pAl M (nI jy) (i + 1)) (all_s.mpr ⟨zc26, Or.inr (Or.inl zc48)⟩)]; rfl) | (rw [bI_t (P := pAl M (nI jy) (i + 1)) (all_s.mpr ⟨zc26, Or.inr (Or.inr (Or.inl zc57))⟩)]; rfl) | (rw [bI_t (P := pAl M (nI jy) (i + 1)) (all_s.mpr ⟨zc26, Or.inr (Or.inr (Or.inr zc67))⟩)]; rfl) | (rw [bI_f (P := pAl M (nI jy) (i + 1)) (fun h => zc26 (all_s.mp h).1)]; rfl) | (rw [bI_f (P := pAl M (nI jy) (i + 1)) (fun h => (all_s.mp h).2.elim zc37 (fun h => h.elim zc48 (fun h => h.elim zc57 zc67)))]; rfl)) ?_
                      exact ih16 (i + 1) (by omega) (by omega)
                    · refine z_iconst (v := nI 1) B dX7_balanceByCopies_70 (by decide) ?_
                      refine z_goto B 75 dX7_balanceByCopies_71 (by decide) ?_
                      refine z_istore_n (lv1 := [(3, .int (nI (1))), (0, .ref (h)), (1, .int (nI (jx))), (2, .int (nI (jy))), (4, .int (nI (i)))]) B dX7_balanceByCopies_75 rfl (by decide) rfl ?_
                      refine z_iinc B 4 (lv1 := [(4, .int (nI (i + 1))), (3, .int (nI (1))), (0, .ref (h)), (1, .int (nI (jx))), (2, .int (nI (jy)))]) dX7_balanceByCopies_76 rfl (nI_1 _) (by decide) rfl ?_
                      refine z_goto B 16 dX7_balanceByCopies_79 (by decide) ?_
                      refine z_loc [2, 3, 4, 1, 0] (lv' := [(0, .ref (h)), (1, .int (nI (jx))), (2, .int (nI (jy))), (3, .int (nI (1))), (4, .int (nI (i + 1)))]) rfl ?_
                      refine z_lvc (lv' := [(0, .ref (h)), (1, .int (nI (jx))), (2, .int (nI (jy))), (3, .int (bI (pAl M (nI jy) (i + 1)))), (4, .int (nI ((i + 1))))]) (by first | (rw [bI_t (P := pAl M (nI jy) (i + 1)) (all_s.mpr ⟨zc26, Or.inl zc37⟩)]; rfl) | (rw [bI_t (P := pAl M (nI jy) (i + 1)) (all_s.mpr ⟨zc26, Or.inr (Or.inl zc48)⟩)]; rfl) | (rw [bI_t (P := pAl M (nI jy) (i + 1)) (all_s.mpr ⟨zc26, Or.inr (Or.inr (Or.inl zc57))⟩)]; rfl) | (rw [bI_t (P := pAl M (nI jy) (i + 1)) (all_s.mpr ⟨zc26, Or.inr (Or.inr (Or.inr zc67))⟩)]; rfl) | (rw [bI_f (P := pAl M (nI jy) (i + 1)) (fun h => zc26 (all_s.mp h).1)]; rfl) | (rw [bI_f (P := pAl M (nI jy) (i + 1)) (fun h => (all_s.mp h).2.elim zc37 (fun h => h.elim zc48 (fun h => h.elim zc57 zc67)))]; rfl)) ?_
                      exact ih16 (i + 1) (by omega) (by omega)
      refine z_loc [2, 3, 4, 1, 0] (lv' := [(0, .ref (h)), (1, .int (nI (jx))), (2, .int (nI (jy))), (3, .int (nI (1))), (4, .int (nI (0)))]) rfl ?_
      refine z_lvc (lv' := [(0, .ref (h)), (1, .int (nI (jx))), (2, .int (nI (jy))), (3, .int (bI (pAl M (nI jy) 0))), (4, .int (nI (0)))]) (by rw [bI_t (P := pAl M (nI jy) 0) (all_0.mpr trivial)]; rfl) ?_
      exact loop16 (mP M + 1) 0 (by omega) (by omega)
    · obtain ⟨rfl, rfl⟩ := hq.2.1 kd3_0 kk3_1
      refine z_if_eq B 11 dX7_balanceByCopies_6 (by decide) (fun h => absurd h (by decide)) (fun _ => ?_)
      refine z_iconst (v := nI 0) B dX7_balanceByCopies_9 (by decide) ?_
      subst hQ
      exact z_mret B hAe hr dX7_balanceByCopies_10 rfl (by decide) (by decide) (by refine ⟨_, rfl, ?_⟩; refine ⟨?_, ?_, ?_, ?_⟩ <;> intros <;> first | contradiction | rfl | exact ⟨rfl, rfl⟩ | omega  | exact ⟨bI_1 (by assumption), rfl⟩ | exact ⟨bI_z (by assumption), rfl⟩)
  · obtain ⟨rfl, rfl⟩ := hq.1 kk3_0
    refine z_if_eq B 11 dX7_balanceByCopies_6 (by decide) (fun h => absurd h (by decide)) (fun _ => ?_)
    refine z_iconst (v := nI 0) B dX7_balanceByCopies_9 (by decide) ?_
    subst hQ
    exact z_mret B hAe hr dX7_balanceByCopies_10 rfl (by decide) (by decide) (by refine ⟨_, rfl, ?_⟩; refine ⟨?_, ?_, ?_, ?_⟩ <;> intros <;> first | contradiction | rfl | exact ⟨rfl, rfl⟩ | omega  | exact ⟨bI_1 (by assumption), rfl⟩ | exact ⟨bI_z (by assumption), rfl⟩)
theorem fw_X7_size_X7 : zF wsX7_size RX7 TX7 30 := fun _ h => List.mem_cons_of_mem _ (List.mem_append_right _ (h))
set_option maxHeartbeats 4000000 in
set_option maxRecDepth 100000 in
theorem c7_size (l : Launch) (D : va_G) (g : zG) (h : Nat) (a : Nat → Nat) (M : zMS) (hI : MI M) (x : Int32) : zMutI l yX7_size wsX7_size { frames := 3, cells := 0, slots := 0, locals := 64 } D (zT g) (wM g h a M) [.ref h, .int (x)] (fun r w' => ∃ M', w' = wM g h a M' ∧ (¬ pCx M x → M' = up2 M 0 0 (nI 1)) ∧ (pCx M x → r = nI (mE M (nN x)) - nI (mF M (nN x)) ∧ M' = up2 M 0 0 (nI 0))) 0 0 := by
  refine zMutI_of (cc := cX7_size) (maxL := 2) (ret := (some .int)) (own := RX7) [(0, .ref (h)), (1, .int (x))] (by decide) rfl rfl rfl (Nat.le_of_ble_eq_true rfl) ?_
  intro X A hAe hl B hr hin
  obtain ⟨b5, b2, b15, b23, b25, b1⟩ := MI_bs hI
  refine z_aload_n B 0 dX7_size_0 rfl rfl ?_
  refine z_iload_n B 1 dX7_size_1 rfl rfl ?_
  refine z_callM (As := [.int (x)]) (st := []) (C := RX7) (T := TX7) (N := 30) (ci := 7) (l := l) B hl (c7_noCopy l D g h a M hI x) gX7_size_X7_noCopy rfl ⟨rfl, rfl⟩ nm_X7_noCopy ⟨by decide, by decide⟩ 0 rfl rfl rfl (Nat.le_of_ble_eq_true rfl) dX7_size_2 rfl rfl (by decide) (by decide) (fun r w1 hr => ?_)
  obtain ⟨M1, rfl, hq⟩ := hr
  by_cases kk2_0 : pCx M x
  · have kd2_0 := kk2_0
    have kkk2_0 := kk2_0
    obtain ⟨jx, rfl, hjx⟩ := kk2_0
    have hbjx : jx < 16 := by have := hjx.1; omega
    obtain ⟨rfl, rfl⟩ := hq.2 kd2_0
    refine z_if_eq B 12 dX7_size_5 (by decide) (fun _ => ?_) (fun h => absurd h (by decide))
    refine z_aload_n B 0 dX7_size_12 rfl rfl ?_
    refine z_get (C := RX7) (T := TX7) (N := 30) (v := .ref (a 18)) B 0 18 1 fw_X7_size_X7 rfl rfl (by decide) rfl rfl rfl dX7_size_13 ?_
    refine z_iload_n B 1 dX7_size_16 rfl rfl ?_
    refine z_iald (g := (M 18)) (i := jx) B 14 0 rfl rfl (by omega) (by decide) dX7_size_17 ?_
    refine z_top (y := nI (mE M jx)) (MI_18 hI _) ?_
    have := MI_b18 hI jx
    refine z_aload_n B 0 dX7_size_18 rfl rfl ?_
    refine z_get (C := RX7) (T := TX7) (N := 30) (v := .ref (a 17)) B 0 17 2 fw_X7_size_X7 rfl rfl (by decide) rfl rfl rfl dX7_size_19 ?_
    refine z_iload_n B 1 dX7_size_22 rfl rfl ?_
    refine z_iald (g := (M 17)) (i := jx) B 13 0 rfl rfl (by omega) (by decide) dX7_size_23 ?_
    refine z_top (y := nI (mF M jx)) (MI_17 hI _) ?_
    have := MI_b17 hI jx
    refine z_isub B dX7_size_24 ?_
    exact z_mret B hAe hr dX7_size_25 rfl (by decide) (by decide) (by refine ⟨_, rfl, ?_⟩; rw [nN_nI (show jx < 2 ^ 31 by omega)]; refine ⟨?_, ?_⟩ <;> intros <;> first | contradiction | rfl | exact ⟨rfl, rfl⟩ | omega  | exact ⟨bI_1 (by assumption), rfl⟩ | exact ⟨bI_z (by assumption), rfl⟩)
  · obtain ⟨rfl, rfl⟩ := hq.1 kk2_0
    refine z_if_eq B 12 dX7_size_5 (by decide) (fun h => absurd h (by decide)) (fun _ => ?_)
    refine z_iconst (v := nI 0) B dX7_size_8 (by decide) ?_
    refine z_goto B 25 dX7_size_9 (by decide) ?_
    exact z_mret B hAe hr dX7_size_25 rfl (by decide) (by decide) (by refine ⟨_, rfl, ?_⟩; refine ⟨?_, ?_⟩ <;> intros <;> first | contradiction | rfl | exact ⟨rfl, rfl⟩ | omega  | exact ⟨bI_1 (by assumption), rfl⟩ | exact ⟨bI_z (by assumption), rfl⟩)
theorem fw_X7_isInVault_X7 : zF wsX7_isInVault RX7 TX7 30 := fun _ h => List.mem_cons_of_mem _ (List.mem_append_right _ (h))
set_option maxHeartbeats 4000000 in
set_option maxRecDepth 100000 in
theorem c7_isInVault (l : Launch) (D : va_G) (g : zG) (h : Nat) (a : Nat → Nat) (M : zMS) (hI : MI M) (x : Int32) : zMutI l yX7_isInVault wsX7_isInVault { frames := 3, cells := 0, slots := 0, locals := 64 } D (zT g) (wM g h a M) [.ref h, .int (x)] (fun r w' => ∃ M', w' = wM g h a M' ∧ (¬ pCx M x → M' = up2 M 0 0 (nI 1)) ∧ (pCx M x → r = bI (M 20 (nN x) = 0) ∧ M' = up2 M 0 0 (nI 0))) 0 0 := by
  refine zMutI_of (cc := cX7_isInVault) (maxL := 2) (ret := (some .boolean)) (own := RX7) [(0, .ref (h)), (1, .int (x))] (by decide) rfl rfl rfl (Nat.le_of_ble_eq_true rfl) ?_
  intro X A hAe hl B hr hin
  obtain ⟨b5, b2, b15, b23, b25, b1⟩ := MI_bs hI
  refine z_aload_n B 0 dX7_isInVault_0 rfl rfl ?_
  refine z_iload_n B 1 dX7_isInVault_1 rfl rfl ?_
  refine z_callM (As := [.int (x)]) (st := []) (C := RX7) (T := TX7) (N := 30) (ci := 7) (l := l) B hl (c7_noCopy l D g h a M hI x) gX7_isInVault_X7_noCopy rfl ⟨rfl, rfl⟩ nm_X7_noCopy ⟨by decide, by decide⟩ 0 rfl rfl rfl (Nat.le_of_ble_eq_true rfl) dX7_isInVault_2 rfl rfl (by decide) (by decide) (fun r w1 hr => ?_)
  obtain ⟨M1, rfl, hq⟩ := hr
  by_cases kk2_0 : pCx M x
  · have kd2_0 := kk2_0
    have kkk2_0 := kk2_0
    obtain ⟨jx, rfl, hjx⟩ := kk2_0
    have hbjx : jx < 16 := by have := hjx.1; omega
    obtain ⟨rfl, rfl⟩ := hq.2 kd2_0
    refine z_if_ne B 21 dX7_isInVault_5 (by decide) (fun h => absurd h (by decide)) (fun _ => ?_)
    refine z_aload_n B 0 dX7_isInVault_8 rfl rfl ?_
    refine z_get (C := RX7) (T := TX7) (N := 30) (v := .ref (a 20)) B 0 20 1 fw_X7_isInVault_X7 rfl rfl (by decide) rfl rfl rfl dX7_isInVault_9 ?_
    refine z_iload_n B 1 dX7_isInVault_12 rfl rfl ?_
    refine z_zald (g := (M 20)) (i := jx) B 16 1 rfl rfl (by omega) (by decide) dX7_isInVault_13 ?_
    refine z_if_ne B 21 dX7_isInVault_14 (by decide) (fun zc14 => ?_) (fun zc14 => ?_)
    · refine z_iconst (v := nI 0) B dX7_isInVault_21 (by decide) ?_
      exact z_mret B hAe hr dX7_isInVault_22 (nar_b (Or.inl rfl)) (by decide) (by decide) (by refine ⟨_, rfl, ?_⟩; rw [nN_nI (show jx < 2 ^ 31 by omega)]; refine ⟨?_, ?_⟩ <;> intros <;> first | contradiction | rfl | exact ⟨rfl, rfl⟩ | omega  | exact ⟨bI_1 (by assumption), rfl⟩ | exact ⟨bI_z (by assumption), rfl⟩)
    · refine z_iconst (v := nI 1) B dX7_isInVault_17 (by decide) ?_
      refine z_goto B 22 dX7_isInVault_18 (by decide) ?_
      exact z_mret B hAe hr dX7_isInVault_22 (nar_b (Or.inr rfl)) (by decide) (by decide) (by refine ⟨_, rfl, ?_⟩; rw [nN_nI (show jx < 2 ^ 31 by omega)]; refine ⟨?_, ?_⟩ <;> intros <;> first | contradiction | rfl | exact ⟨rfl, rfl⟩ | omega  | exact ⟨bI_1 (by assumption), rfl⟩ | exact ⟨bI_z (by assumption), rfl⟩)
  · obtain ⟨rfl, rfl⟩ := hq.1 kk2_0
    refine z_if_ne B 21 dX7_isInVault_5 (by decide) (fun _ => ?_) (fun h => absurd h (by decide))
    refine z_iconst (v := nI 0) B dX7_isInVault_21 (by decide) ?_
    exact z_mret B hAe hr dX7_isInVault_22 (nar_b (Or.inl rfl)) (by decide) (by decide) (by refine ⟨_, rfl, ?_⟩; refine ⟨?_, ?_⟩ <;> intros <;> first | contradiction | rfl | exact ⟨rfl, rfl⟩ | omega  | exact ⟨bI_1 (by assumption), rfl⟩ | exact ⟨bI_z (by assumption), rfl⟩)
set_option maxHeartbeats 4000000 in
set_option maxRecDepth 100000 in
theorem c7_stands (l : Launch) (D : va_G) (g : zG) (h : Nat) (a : Nat → Nat) (M : zMS) (hI : MI M) (x : Int32) (y : Int32) : zMutI l yX7_stands wsX7_stands { frames := 3, cells := 0, slots := 0, locals := 65 } D (zT g) (wM g h a M) [.ref h, .int (x), .int (y)] (fun r w' => ∃ M', w' = wM g h a M' ∧ (¬ pBo M x y → M' = up2 M 0 0 (nI 1)) ∧ (pBo M x y → r = bI (pSt M (nN x) (nN y)) ∧ M' = up2 M 0 0 (nI 0))) 0 0 := by
  refine zMutI_of (cc := cX7_stands) (maxL := 3) (ret := (some .boolean)) (own := RX7) [(0, .ref (h)), (1, .int (x)), (2, .int (y))] (by decide) rfl rfl rfl (Nat.le_of_ble_eq_true rfl) ?_
  intro X A hAe hl B hr hin
  obtain ⟨b5, b2, b15, b23, b25, b1⟩ := MI_bs hI
  refine z_aload_n B 0 dX7_stands_0 rfl rfl ?_
  refine z_aload_n B 0 dX7_stands_1 rfl rfl ?_
  refine z_iload_n B 1 dX7_stands_2 rfl rfl ?_
  refine z_iload_n B 2 dX7_stands_3 rfl rfl ?_
  refine z_callP (As := [.int (x), .int (y)]) (st := [.ref (h)]) (C := RX7) (T := TX7) (N := 30) (ci := 7) (l := l) B hl (c7_areBoth l D g h a M hI x y) gX7_stands_X7_areBoth rfl ⟨rfl, rfl⟩ nm_X7_areBoth ⟨by decide, by decide⟩ (fun _ h => h) 0 rfl rfl rfl (Nat.le_of_ble_eq_true rfl) dX7_stands_4 (Nat.zero_le _) (Nat.zero_le _) (fun r hr => ?_)
  subst hr
  refine z_ifB_eq B 14 dX7_stands_7 (by decide) (fun zc7 => ?_) (fun zc7 => ?_)
  · refine z_iconst (v := nI 1) B dX7_stands_14 (by decide) ?_
    refine z_callM (As := [.int (nI (1))]) (st := []) (C := RX7) (T := TX7) (N := 30) (ci := 7) (l := l) B hl (c7_refused l D g h a M (nI (1))) gX7_stands_X7_refused rfl ⟨rfl, rfl⟩ nm_X7_refused ⟨by decide, by decide⟩ 0 rfl rfl rfl (Nat.le_of_ble_eq_true rfl) dX7_stands_15 rfl rfl (by decide) (by decide) (fun r w1 hr => ?_)
    obtain ⟨hr1, rfl⟩ := hr
    rw [bI_t (show ¬ nI (1) = 0 by decide)] at hr1
    obtain rfl : r = nI 1 := hr1
    refine z_if_ne B 34 dX7_stands_18 (by decide) (fun _ => ?_) (fun h => absurd h (by decide))
    refine z_iconst (v := nI 0) B dX7_stands_34 (by decide) ?_
    exact z_mret B hAe hr dX7_stands_35 (nar_b (Or.inl rfl)) (by decide) (by decide) (by refine ⟨_, rfl, ?_⟩; refine ⟨?_, ?_⟩ <;> intros <;> first | contradiction | rfl | exact ⟨rfl, rfl⟩ | omega  | exact ⟨bI_1 (by assumption), rfl⟩ | exact ⟨bI_z (by assumption), rfl⟩)
  · have zkc7 := zc7
    obtain ⟨jx, jy, rfl, rfl, hjx, hjy, hbo⟩ := zc7
    have hbjx : jx < 16 := by have := hjx.1; omega
    refine z_iconst (v := nI 0) B dX7_stands_10 (by decide) ?_
    refine z_goto B 15 dX7_stands_11 (by decide) ?_
    refine z_callM (As := [.int (nI (0))]) (st := []) (C := RX7) (T := TX7) (N := 30) (ci := 7) (l := l) B hl (c7_refused l D g h a M (nI (0))) gX7_stands_X7_refused rfl ⟨rfl, rfl⟩ nm_X7_refused ⟨by decide, by decide⟩ 0 rfl rfl rfl (Nat.le_of_ble_eq_true rfl) dX7_stands_15 rfl rfl (by decide) (by decide) (fun r w1 hr => ?_)
    obtain ⟨hr1, rfl⟩ := hr
    rw [bI_f (show ¬ ¬ nI (0) = 0 by decide)] at hr1
    obtain rfl : r = nI 0 := hr1
    refine z_if_ne B 34 dX7_stands_18 (by decide) (fun h => absurd h (by decide)) (fun _ => ?_)
    refine z_aload_n B 0 dX7_stands_21 rfl rfl ?_
    refine z_iload_n B 1 dX7_stands_22 rfl rfl ?_
    refine z_iload_n B 2 dX7_stands_23 rfl rfl ?_
    refine z_callP (As := [.int (nI (jx)), .int (nI (jy))]) (st := []) (C := RX7) (T := TX7) (N := 30) (ci := 7) (l := l) B hl (c7_standsIn l D g h a (up2 M 0 0 (nI (0))) (MI_up0 hI) jx (by omega) jy (by omega)) gX7_stands_X7_standsIn rfl ⟨rfl, rfl⟩ nm_X7_standsIn ⟨by decide, by decide⟩ (fun _ h => h) 0 rfl rfl rfl (Nat.le_of_ble_eq_true rfl) dX7_stands_24 (Nat.zero_le _) (Nat.zero_le _) (fun r hr => ?_)
    change r = bI (pSt M jx jy) at hr
    subst hr
    refine z_ifB_eq B 34 dX7_stands_27 (by decide) (fun zc27 => ?_) (fun zc27 => ?_)
    · refine z_iconst (v := nI 0) B dX7_stands_34 (by decide) ?_
      exact z_mret B hAe hr dX7_stands_35 (nar_b (Or.inl rfl)) (by decide) (by decide) (by refine ⟨_, rfl, ?_⟩; rw [nN_nI (show jx < 2 ^ 31 by omega)]; rw [nN_nI (show jy < 2 ^ 31 by omega)]; refine ⟨?_, ?_⟩ <;> intros <;> first | contradiction | rfl | exact ⟨rfl, rfl⟩ | omega  | exact ⟨bI_1 (by assumption), rfl⟩ | exact ⟨bI_z (by assumption), rfl⟩)
    · refine z_iconst (v := nI 1) B dX7_stands_30 (by decide) ?_
      refine z_goto B 35 dX7_stands_31 (by decide) ?_
      exact z_mret B hAe hr dX7_stands_35 (nar_b (Or.inr rfl)) (by decide) (by decide) (by refine ⟨_, rfl, ?_⟩; rw [nN_nI (show jx < 2 ^ 31 by omega)]; rw [nN_nI (show jy < 2 ^ 31 by omega)]; refine ⟨?_, ?_⟩ <;> intros <;> first | contradiction | rfl | exact ⟨rfl, rfl⟩ | omega  | exact ⟨bI_1 (by assumption), rfl⟩ | exact ⟨bI_z (by assumption), rfl⟩)
theorem fw_X7_copiesOf_X7 : zF wsX7_copiesOf RX7 TX7 30 := fun _ h => List.mem_cons_of_mem _ (List.mem_append_right _ (h))
set_option maxHeartbeats 4000000 in
set_option maxRecDepth 100000 in
theorem c7_copiesOf (l : Launch) (D : va_G) (g : zG) (h : Nat) (a : Nat → Nat) (M : zMS) (hI : MI M) (x : Int32) : zMutI l yX7_copiesOf wsX7_copiesOf { frames := 3, cells := 0, slots := 0, locals := 64 } D (zT g) (wM g h a M) [.ref h, .int (x)] (fun r w' => ∃ M', w' = wM g h a M' ∧ (¬ rng x (mP M) → M' = up2 M 0 0 (nI 1)) ∧ (rng x (mP M) → r = nI (zcnt (fun k => M 19 k = 0 ∧ pSt M k (nN x)) (mC M)) ∧ M' = up2 M 0 0 (nI 0))) 0 0 := by
  refine zMutI_of (cc := cX7_copiesOf) (maxL := 4) (ret := (some .int)) (own := RX7) [(0, .ref (h)), (1, .int (x))] (by decide) rfl rfl rfl (Nat.le_of_ble_eq_true rfl) ?_
  intro X A hAe hl B hr hin
  obtain ⟨b5, b2, b15, b23, b25, b1⟩ := MI_bs hI
  generalize hQ : (zQe X (va_Qi (fun r w' => ∃ M', w' = wM g h a M' ∧ (¬ rng x (mP M) → M' = up2 M 0 0 (nI 1)) ∧ (rng x (mP M) → r = nI (zcnt (fun k => M 19 k = 0 ∧ pSt M k (nN x)) (mC M)) ∧ M' = up2 M 0 0 (nI 0))) (zEnd D (zT g) (wM g h a M) (zs X).heap.size) A) 0 0 A) = Q
  refine z_aload_n B 0 dX7_copiesOf_0 rfl rfl ?_
  refine z_iload_n B 1 dX7_copiesOf_1 rfl rfl ?_
  refine z_callM (As := [.int (x)]) (st := []) (C := RX7) (T := TX7) (N := 30) (ci := 7) (l := l) B hl (c7_noPage l D g h a M hI x) gX7_copiesOf_X7_noPage rfl ⟨rfl, rfl⟩ nm_X7_noPage ⟨by decide, by decide⟩ 0 rfl rfl rfl (Nat.le_of_ble_eq_true rfl) dX7_copiesOf_2 rfl rfl (by decide) (by decide) (fun r w1 hr => ?_)
  obtain ⟨M1, rfl, hq⟩ := hr
  by_cases kk2_0 : rng x (mP M)
  · have kd2_0 := kk2_0
    have kkk2_0 := kk2_0
    obtain ⟨jx, hjx, rfl⟩ := kk2_0
    obtain ⟨rfl, rfl⟩ := hq.2 kd2_0
    refine z_if_eq B 10 dX7_copiesOf_5 (by decide) (fun _ => ?_) (fun h => absurd h (by decide))
    refine z_iconst (v := nI 0) B dX7_copiesOf_10 (by decide) ?_
    refine z_istore_n (lv1 := [(2, .int (nI (0))), (0, .ref (h)), (1, .int (nI (jx)))]) B dX7_copiesOf_11 rfl (by decide) rfl ?_
    refine z_iconst (v := nI 0) B dX7_copiesOf_12 (by decide) ?_
    refine z_istore_n (lv1 := [(3, .int (nI (0))), (2, .int (nI (0))), (0, .ref (h)), (1, .int (nI (jx)))]) B dX7_copiesOf_13 rfl (by decide) rfl ?_
    have loop14 : ∀ (n0 i : Nat), i ≤ mC M → mC M + 1 ≤ i + n0 → zJ X 4 (zI1 D A (zs X)) Q (wM g h a (up2 M 0 0 (nI 0))) 0 0 [(0, .ref (h)), (1, .int (nI (jx))), (2, .int (nI (zcnt (fun k => M 19 k = 0 ∧ pSt M k jx) i))), (3, .int (nI (i)))] 14 [] := by
      intro n14
      induction n14 with
      | zero => intro i h1 h2; exact absurd h2 (by omega)
      | succ n14 ih14 =>
        intro i hle14 hn14
        refine z_iload_n B 3 dX7_copiesOf_14 rfl rfl ?_
        refine z_aload_n B 0 dX7_copiesOf_15 rfl rfl ?_
        refine z_get (C := RX7) (T := TX7) (N := 30) (v := .int (M 15 0)) B 0 15 1 fw_X7_copiesOf_X7 rfl rfl (by decide) rfl rfl rfl dX7_copiesOf_16 ?_
        refine z_top (y := nI (mC M)) (MI_15 hI) ?_
        refine z_icmpN_ge B 54 dX7_copiesOf_19 (by decide) (by omega) (by omega) (fun zc19 => ?_) (fun zc19 => ?_)
        · obtain rfl : i = mC M := by omega
          refine z_iload_n B 2 dX7_copiesOf_54 rfl rfl ?_
          subst hQ
          exact z_mret B hAe hr dX7_copiesOf_55 rfl (by decide) (by decide) (by refine ⟨_, rfl, ?_⟩; rw [nN_nI (show jx < 2 ^ 31 by omega)]; refine ⟨?_, ?_⟩ <;> intros <;> first | contradiction | rfl | exact ⟨rfl, rfl⟩ | omega  | exact ⟨bI_1 (by assumption), rfl⟩ | exact ⟨bI_z (by assumption), rfl⟩)
        · refine z_iload_n B 2 dX7_copiesOf_22 rfl rfl ?_
          refine z_aload_n B 0 dX7_copiesOf_23 rfl rfl ?_
          refine z_get (C := RX7) (T := TX7) (N := 30) (v := .ref (a 19)) B 0 19 2 fw_X7_copiesOf_X7 rfl rfl (by decide) rfl rfl rfl dX7_copiesOf_24 ?_
          refine z_iload_n B 3 dX7_copiesOf_27 rfl rfl ?_
          refine z_zald (g := (M 19)) (i := i) B 15 1 rfl rfl (by omega) (by decide) dX7_copiesOf_28 ?_
          refine z_if_ne B 45 dX7_copiesOf_29 (by decide) (fun zc29 => ?_) (fun zc29 => ?_)
          · refine z_iconst (v := nI 0) B dX7_copiesOf_45 (by decide) ?_
            refine z_iaddN B dX7_copiesOf_46 ?_
            refine z_istore_n (lv1 := [(2, .int (nI (zcnt (fun k => M 19 k = 0 ∧ pSt M k jx) i + 0))), (0, .ref (h)), (1, .int (nI (jx))), (3, .int (nI (i)))]) B dX7_copiesOf_47 rfl (by decide) rfl ?_
            refine z_iinc B 3 (lv1 := [(3, .int (nI (i + 1))), (2, .int (nI (zcnt (fun k => M 19 k = 0 ∧ pSt M k jx) i + 0))), (0, .ref (h)), (1, .int (nI (jx)))]) dX7_copiesOf_48 rfl (nI_1 _) (by decide) rfl ?_
            refine z_goto B 14 dX7_copiesOf_51 (by decide) ?_
            refine z_loc [2, 3, 1, 0] (lv' := [(0, .ref (h)), (1, .int (nI (jx))), (2, .int (nI (zcnt (fun k => M 19 k = 0 ∧ pSt M k jx) i + 0))), (3, .int (nI (i + 1)))]) rfl ?_
            refine z_lvc (lv' := [(0, .ref (h)), (1, .int (nI (jx))), (2, .int (nI (zcnt (fun k => M 19 k = 0 ∧ pSt M k jx) (i + 1)))), (3, .int (nI ((i + 1))))]) (by first | rw [zcnt_y (P := fun k => M 19 k = 0 ∧ pSt M k jx) ⟨zc29, zc38⟩] | (rw [← zcnt_n (P := fun k => M 19 k = 0 ∧ pSt M k jx) (fun h => zc29 h.1)]; rfl) | (rw [← zcnt_n (P := fun k => M 19 k = 0 ∧ pSt M k jx) (fun h => zc38 h.2)]; rfl)) ?_
            exact ih14 (i + 1) (by omega) (by omega)
          · refine z_aload_n B 0 dX7_copiesOf_32 rfl rfl ?_
            refine z_iload_n B 3 dX7_copiesOf_33 rfl rfl ?_
            refine z_iload_n B 1 dX7_copiesOf_34 rfl rfl ?_
            refine z_callP (As := [.int (nI (i)), .int (nI (jx))]) (st := [.int (nI (zcnt (fun k => M 19 k = 0 ∧ pSt M k jx) i))]) (C := RX7) (T := TX7) (N := 30) (ci := 7) (l := l) B hl (c7_standsIn l D g h a (up2 M 0 0 (nI 0)) (MI_up0 hI) i (by omega) jx (by omega)) gX7_copiesOf_X7_standsIn rfl ⟨rfl, rfl⟩ nm_X7_standsIn ⟨by decide, by decide⟩ (fun _ h => h) 0 rfl rfl rfl (Nat.le_of_ble_eq_true rfl) dX7_copiesOf_35 (Nat.zero_le _) (Nat.zero_le _) (fun r hr => ?_)
            change r = bI (pSt M i jx) at hr
            subst hr
            refine z_ifB_eq B 45 dX7_copiesOf_38 (by decide) (fun zc38 => ?_) (fun zc38 => ?_)
            · refine z_iconst (v := nI 0) B dX7_copiesOf_45 (by decide) ?_
              refine z_iaddN B dX7_copiesOf_46 ?_
              refine z_istore_n (lv1 := [(2, .int (nI (zcnt (fun k => M 19 k = 0 ∧ pSt M k jx) i + 0))), (0, .ref (h)), (1, .int (nI (jx))), (3, .int (nI (i)))]) B dX7_copiesOf_47 rfl (by decide) rfl ?_
              refine z_iinc B 3 (lv1 := [(3, .int (nI (i + 1))), (2, .int (nI (zcnt (fun k => M 19 k = 0 ∧ pSt M k jx) i + 0))), (0, .ref (h)), (1, .int (nI (jx)))]) dX7_copiesOf_48 rfl (nI_1 _) (by decide) rfl ?_
              refine z_goto B 14 dX7_copiesOf_51 (by decide) ?_
              refine z_loc [2, 3, 1, 0] (lv' := [(0, .ref (h)), (1, .int (nI (jx))), (2, .int (nI (zcnt (fun k => M 19 k = 0 ∧ pSt M k jx) i + 0))), (3, .int (nI (i + 1)))]) rfl ?_
              refine z_lvc (lv' := [(0, .ref (h)), (1, .int (nI (jx))), (2, .int (nI (zcnt (fun k => M 19 k = 0 ∧ pSt M k jx) (i + 1)))), (3, .int (nI ((i + 1))))]) (by first | rw [zcnt_y (P := fun k => M 19 k = 0 ∧ pSt M k jx) ⟨zc29, zc38⟩] | (rw [← zcnt_n (P := fun k => M 19 k = 0 ∧ pSt M k jx) (fun h => zc29 h.1)]; rfl) | (rw [← zcnt_n (P := fun k => M 19 k = 0 ∧ pSt M k jx) (fun h => zc38 h.2)]; rfl)) ?_
              exact ih14 (i + 1) (by omega) (by omega)
            · refine z_iconst (v := nI 1) B dX7_copiesOf_41 (by decide) ?_
              refine z_goto B 46 dX7_copiesOf_42 (by decide) ?_
              refine z_iaddN B dX7_copiesOf_46 ?_
              refine z_istore_n (lv1 := [(2, .int (nI (zcnt (fun k => M 19 k = 0 ∧ pSt M k jx) i + 1))), (0, .ref (h)), (1, .int (nI (jx))), (3, .int (nI (i)))]) B dX7_copiesOf_47 rfl (by decide) rfl ?_
              refine z_iinc B 3 (lv1 := [(3, .int (nI (i + 1))), (2, .int (nI (zcnt (fun k => M 19 k = 0 ∧ pSt M k jx) i + 1))), (0, .ref (h)), (1, .int (nI (jx)))]) dX7_copiesOf_48 rfl (nI_1 _) (by decide) rfl ?_
              refine z_goto B 14 dX7_copiesOf_51 (by decide) ?_
              refine z_loc [2, 3, 1, 0] (lv' := [(0, .ref (h)), (1, .int (nI (jx))), (2, .int (nI (zcnt (fun k => M 19 k = 0 ∧ pSt M k jx) i + 1))), (3, .int (nI (i + 1)))]) rfl ?_
              refine z_lvc (lv' := [(0, .ref (h)), (1, .int (nI (jx))), (2, .int (nI (zcnt (fun k => M 19 k = 0 ∧ pSt M k jx) (i + 1)))), (3, .int (nI ((i + 1))))]) (by first | rw [zcnt_y (P := fun k => M 19 k = 0 ∧ pSt M k jx) ⟨zc29, zc38⟩] | (rw [← zcnt_n (P := fun k => M 19 k = 0 ∧ pSt M k jx) (fun h => zc29 h.1)]; rfl) | (rw [← zcnt_n (P := fun k => M 19 k = 0 ∧ pSt M k jx) (fun h => zc38 h.2)]; rfl)) ?_
              exact ih14 (i + 1) (by omega) (by omega)
    refine z_loc [2, 3, 1, 0] (lv' := [(0, .ref (h)), (1, .int (nI (jx))), (2, .int (nI (0))), (3, .int (nI (0)))]) rfl ?_
    refine z_lvc (lv' := [(0, .ref (h)), (1, .int (nI (jx))), (2, .int (nI (zcnt (fun k => M 19 k = 0 ∧ pSt M k jx) 0))), (3, .int (nI (0)))]) (by rfl) ?_
    exact loop14 (mC M + 1) 0 (by omega) (by omega)
  · obtain ⟨rfl, rfl⟩ := hq.1 kk2_0
    refine z_if_eq B 10 dX7_copiesOf_5 (by decide) (fun h => absurd h (by decide)) (fun _ => ?_)
    refine z_iconst (v := nI 0) B dX7_copiesOf_8 (by decide) ?_
    subst hQ
    exact z_mret B hAe hr dX7_copiesOf_9 rfl (by decide) (by decide) (by refine ⟨_, rfl, ?_⟩; refine ⟨?_, ?_⟩ <;> intros <;> first | contradiction | rfl | exact ⟨rfl, rfl⟩ | omega  | exact ⟨bI_1 (by assumption), rfl⟩ | exact ⟨bI_z (by assumption), rfl⟩)
set_option maxHeartbeats 4000000 in
set_option maxRecDepth 100000 in
theorem c7_canRestore (l : Launch) (D : va_G) (g : zG) (h : Nat) (a : Nat → Nat) (M : zMS) (hI : MI M) (hJ : MJ M) (x : Int32) : zMutI l yX7_canRestore wsX7_canRestore { frames := 3, cells := 0, slots := 0, locals := 64 } D (zT g) (wM g h a M) [.ref h, .int (x)] (fun r w' => ∃ M', w' = wM g h a M' ∧ (¬ pCx M x → M' = up2 M 0 0 (nI 1)) ∧ (pCx M x → r = bI (pWh M (nN x)) ∧ M' = up2 M 0 0 (nI 0))) 0 0 := by
  refine zMutI_of (cc := cX7_canRestore) (maxL := 2) (ret := (some .boolean)) (own := RX7) [(0, .ref (h)), (1, .int (x))] (by decide) rfl rfl rfl (Nat.le_of_ble_eq_true rfl) ?_
  intro X A hAe hl B hr hin
  obtain ⟨b5, b2, b15, b23, b25, b1⟩ := MI_bs hI
  refine z_aload_n B 0 dX7_canRestore_0 rfl rfl ?_
  refine z_iload_n B 1 dX7_canRestore_1 rfl rfl ?_
  refine z_callM (As := [.int (x)]) (st := []) (C := RX7) (T := TX7) (N := 30) (ci := 7) (l := l) B hl (c7_noCopy l D g h a M hI x) gX7_canRestore_X7_noCopy rfl ⟨rfl, rfl⟩ nm_X7_noCopy ⟨by decide, by decide⟩ 0 rfl rfl rfl (Nat.le_of_ble_eq_true rfl) dX7_canRestore_2 rfl rfl (by decide) (by decide) (fun r w1 hr => ?_)
  obtain ⟨M1, rfl, hq⟩ := hr
  by_cases kk2_0 : pCx M x
  · have kd2_0 := kk2_0
    have kkk2_0 := kk2_0
    obtain ⟨jx, rfl, hjx⟩ := kk2_0
    have hbjx : jx < 16 := by have := hjx.1; omega
    obtain ⟨rfl, rfl⟩ := hq.2 kd2_0
    refine z_if_ne B 20 dX7_canRestore_5 (by decide) (fun h => absurd h (by decide)) (fun _ => ?_)
    refine z_aload_n B 0 dX7_canRestore_8 rfl rfl ?_
    refine z_iload_n B 1 dX7_canRestore_9 rfl rfl ?_
    refine z_callP (As := [.int (nI (jx))]) (st := []) (C := RX7) (T := TX7) (N := 30) (ci := 7) (l := l) B hl (c7_isWhole l D g h a (up2 M 0 0 (nI 0)) (MI_up0 hI) (MJ_up0 hJ) jx hjx.1) gX7_canRestore_X7_isWhole rfl ⟨rfl, rfl⟩ nm_X7_isWhole ⟨by decide, by decide⟩ (fun _ h => h) 0 rfl rfl rfl (Nat.le_of_ble_eq_true rfl) dX7_canRestore_10 (Nat.zero_le _) (Nat.zero_le _) (fun r hr => ?_)
    change r = bI (pWh M jx) at hr
    subst hr
    refine z_ifB_eq B 20 dX7_canRestore_13 (by decide) (fun zc13 => ?_) (fun zc13 => ?_)
    · refine z_iconst (v := nI 0) B dX7_canRestore_20 (by decide) ?_
      exact z_mret B hAe hr dX7_canRestore_21 (nar_b (Or.inl rfl)) (by decide) (by decide) (by refine ⟨_, rfl, ?_⟩; rw [nN_nI (show jx < 2 ^ 31 by omega)]; refine ⟨?_, ?_⟩ <;> intros <;> first | contradiction | rfl | exact ⟨rfl, rfl⟩ | omega  | exact ⟨bI_1 (by assumption), rfl⟩ | exact ⟨bI_z (by assumption), rfl⟩)
    · refine z_iconst (v := nI 1) B dX7_canRestore_16 (by decide) ?_
      refine z_goto B 21 dX7_canRestore_17 (by decide) ?_
      exact z_mret B hAe hr dX7_canRestore_21 (nar_b (Or.inr rfl)) (by decide) (by decide) (by refine ⟨_, rfl, ?_⟩; rw [nN_nI (show jx < 2 ^ 31 by omega)]; refine ⟨?_, ?_⟩ <;> intros <;> first | contradiction | rfl | exact ⟨rfl, rfl⟩ | omega  | exact ⟨bI_1 (by assumption), rfl⟩ | exact ⟨bI_z (by assumption), rfl⟩)
  · obtain ⟨rfl, rfl⟩ := hq.1 kk2_0
    refine z_if_ne B 20 dX7_canRestore_5 (by decide) (fun _ => ?_) (fun h => absurd h (by decide))
    refine z_iconst (v := nI 0) B dX7_canRestore_20 (by decide) ?_
    exact z_mret B hAe hr dX7_canRestore_21 (nar_b (Or.inl rfl)) (by decide) (by decide) (by refine ⟨_, rfl, ?_⟩; refine ⟨?_, ?_⟩ <;> intros <;> first | contradiction | rfl | exact ⟨rfl, rfl⟩ | omega  | exact ⟨bI_1 (by assumption), rfl⟩ | exact ⟨bI_z (by assumption), rfl⟩)
theorem fw_X7_lost_X7 : zF wsX7_lost RX7 TX7 30 := fun _ h => List.mem_cons_of_mem _ (List.mem_append_right _ (h))
set_option maxHeartbeats 4000000 in
set_option maxRecDepth 100000 in
theorem c7_lost (l : Launch) (D : va_G) (g : zG) (h : Nat) (a : Nat → Nat) (M : zMS) (hI : MI M) : zMutI l yX7_lost wsX7_lost { frames := 4, cells := 0, slots := 0, locals := 92 } D (zT g) (wM g h a M) [.ref h] (fun r w' => r = nI (zcnt (fun p => M 12 p = nI 1 ∧ ¬ pFd M p (nI 0)) (mP M)) ∧ w' = wM g h a (up2 M 0 0 (nI 0))) 0 0 := by
  refine zMutI_of (cc := cX7_lost) (maxL := 3) (ret := (some .int)) (own := RX7) [(0, .ref (h))] (by decide) rfl rfl rfl (Nat.le_of_ble_eq_true rfl) ?_
  intro X A hAe hl B hr hin
  obtain ⟨b5, b2, b15, b23, b25, b1⟩ := MI_bs hI
  generalize hQ : (zQe X (va_Qi (fun r w' => r = nI (zcnt (fun p => M 12 p = nI 1 ∧ ¬ pFd M p (nI 0)) (mP M)) ∧ w' = wM g h a (up2 M 0 0 (nI 0))) (zEnd D (zT g) (wM g h a M) (zs X).heap.size) A) 0 0 A) = Q
  refine z_iconst (v := nI 0) B dX7_lost_0 (by decide) ?_
  refine z_istore_n (lv1 := [(1, .int (nI (0))), (0, .ref (h))]) B dX7_lost_1 rfl (by decide) rfl ?_
  refine z_iconst (v := nI 0) B dX7_lost_2 (by decide) ?_
  refine z_istore_n (lv1 := [(2, .int (nI (0))), (1, .int (nI (0))), (0, .ref (h))]) B dX7_lost_3 rfl (by decide) rfl ?_
  have loop4 : ∀ (n0 i : Nat), i ≤ mP M → mP M + 1 ≤ i + n0 → zJ X 3 (zI1 D A (zs X)) Q (wM g h a M) 0 0 [(0, .ref (h)), (1, .int (nI (zcnt (fun p => M 12 p = nI 1 ∧ ¬ pFd M p (nI 0)) i))), (2, .int (nI (i)))] 4 [] := by
    intro n4
    induction n4 with
    | zero => intro i h1 h2; exact absurd h2 (by omega)
    | succ n4 ih4 =>
      intro i hle4 hn4
      refine z_iload_n B 2 dX7_lost_4 rfl rfl ?_
      refine z_aload_n B 0 dX7_lost_5 rfl rfl ?_
      refine z_get (C := RX7) (T := TX7) (N := 30) (v := .int (M 5 0)) B 0 5 1 fw_X7_lost_X7 rfl rfl (by decide) rfl rfl rfl dX7_lost_6 ?_
      refine z_top (y := nI (mP M)) (MI_5 hI) ?_
      refine z_icmpN_ge B 45 dX7_lost_9 (by decide) (by omega) (by omega) (fun zc9 => ?_) (fun zc9 => ?_)
      · obtain rfl : i = mP M := by omega
        refine z_aload_n B 0 dX7_lost_45 rfl rfl ?_
        refine z_iload_n B 1 dX7_lost_46 rfl rfl ?_
        refine z_callM (As := [.int (nI (zcnt (fun p => M 12 p = nI 1 ∧ ¬ pFd M p (nI 0)) (mP M)))]) (st := []) (C := RX7) (T := TX7) (N := 30) (ci := 7) (l := l) B hl (c7_fine l D g h a M (nI (zcnt (fun p => M 12 p = nI 1 ∧ ¬ pFd M p (nI 0)) (mP M)))) gX7_lost_X7_fine rfl ⟨rfl, rfl⟩ nm_X7_fine ⟨by decide, by decide⟩ 0 rfl rfl rfl (Nat.le_of_ble_eq_true rfl) dX7_lost_47 rfl rfl (by decide) (by decide) (fun r w1 hr => ?_)
        obtain ⟨rfl, rfl⟩ := hr
        subst hQ
        exact z_mret B hAe hr dX7_lost_50 rfl (by decide) (by decide) (by exact ⟨rfl, rfl⟩)
      · refine z_iload_n B 1 dX7_lost_12 rfl rfl ?_
        refine z_aload_n B 0 dX7_lost_13 rfl rfl ?_
        refine z_get (C := RX7) (T := TX7) (N := 30) (v := .ref (a 12)) B 0 12 2 fw_X7_lost_X7 rfl rfl (by decide) rfl rfl rfl dX7_lost_14 ?_
        refine z_iload_n B 2 dX7_lost_17 rfl rfl ?_
        refine z_iald (g := (M 12)) (i := i) B 9 0 rfl rfl (by omega) (by decide) dX7_lost_18 ?_
        refine z_iconst (v := nI 1) B dX7_lost_19 (by decide) ?_
        refine z_icmp_ne B 36 dX7_lost_20 (by decide) (fun zc20 => ?_) (fun zc20 => ?_)
        · refine z_iconst (v := nI 0) B dX7_lost_36 (by decide) ?_
          refine z_iaddN B dX7_lost_37 ?_
          refine z_istore_n (lv1 := [(1, .int (nI (zcnt (fun p => M 12 p = nI 1 ∧ ¬ pFd M p (nI 0)) i + 0))), (0, .ref (h)), (2, .int (nI (i)))]) B dX7_lost_38 rfl (by decide) rfl ?_
          refine z_iinc B 2 (lv1 := [(2, .int (nI (i + 1))), (1, .int (nI (zcnt (fun p => M 12 p = nI 1 ∧ ¬ pFd M p (nI 0)) i + 0))), (0, .ref (h))]) dX7_lost_39 rfl (nI_1 _) (by decide) rfl ?_
          refine z_goto B 4 dX7_lost_42 (by decide) ?_
          refine z_loc [2, 1, 0] (lv' := [(0, .ref (h)), (1, .int (nI (zcnt (fun p => M 12 p = nI 1 ∧ ¬ pFd M p (nI 0)) i + 0))), (2, .int (nI (i + 1)))]) rfl ?_
          refine z_lvc (lv' := [(0, .ref (h)), (1, .int (nI (zcnt (fun p => M 12 p = nI 1 ∧ ¬ pFd M p (nI 0)) (i + 1)))), (2, .int (nI ((i + 1))))]) (by first | rw [zcnt_y (P := fun p => M 12 p = nI 1 ∧ ¬ pFd M p (nI 0)) ⟨zc20, zc29⟩] | (rw [← zcnt_n (P := fun p => M 12 p = nI 1 ∧ ¬ pFd M p (nI 0)) (fun h => zc20 h.1)]; rfl) | (rw [← zcnt_n (P := fun p => M 12 p = nI 1 ∧ ¬ pFd M p (nI 0)) (fun h => h.2 zc29)]; rfl)) ?_
          exact ih4 (i + 1) (by omega) (by omega)
        · refine z_aload_n B 0 dX7_lost_23 rfl rfl ?_
          refine z_iload_n B 2 dX7_lost_24 rfl rfl ?_
          refine z_iconst (v := nI 0) B dX7_lost_25 (by decide) ?_
          refine z_callP (As := [.int (nI (i)), .int (nI (0))]) (st := [.int (nI (zcnt (fun p => M 12 p = nI 1 ∧ ¬ pFd M p (nI 0)) i))]) (C := RX7) (T := TX7) (N := 30) (ci := 7) (l := l) B hl (c7_isFound l D g h a M hI i (by omega) (nI (0))) gX7_lost_X7_isFound rfl ⟨rfl, rfl⟩ nm_X7_isFound ⟨by decide, by decide⟩ (fun _ h => h) 0 rfl rfl rfl (Nat.le_of_ble_eq_true rfl) dX7_lost_26 (Nat.zero_le _) (Nat.zero_le _) (fun r hr => ?_)
          subst hr
          refine z_ifB_ne B 36 dX7_lost_29 (by decide) (fun zc29 => ?_) (fun zc29 => ?_)
          · refine z_iconst (v := nI 0) B dX7_lost_36 (by decide) ?_
            refine z_iaddN B dX7_lost_37 ?_
            refine z_istore_n (lv1 := [(1, .int (nI (zcnt (fun p => M 12 p = nI 1 ∧ ¬ pFd M p (nI 0)) i + 0))), (0, .ref (h)), (2, .int (nI (i)))]) B dX7_lost_38 rfl (by decide) rfl ?_
            refine z_iinc B 2 (lv1 := [(2, .int (nI (i + 1))), (1, .int (nI (zcnt (fun p => M 12 p = nI 1 ∧ ¬ pFd M p (nI 0)) i + 0))), (0, .ref (h))]) dX7_lost_39 rfl (nI_1 _) (by decide) rfl ?_
            refine z_goto B 4 dX7_lost_42 (by decide) ?_
            refine z_loc [2, 1, 0] (lv' := [(0, .ref (h)), (1, .int (nI (zcnt (fun p => M 12 p = nI 1 ∧ ¬ pFd M p (nI 0)) i + 0))), (2, .int (nI (i + 1)))]) rfl ?_
            refine z_lvc (lv' := [(0, .ref (h)), (1, .int (nI (zcnt (fun p => M 12 p = nI 1 ∧ ¬ pFd M p (nI 0)) (i + 1)))), (2, .int (nI ((i + 1))))]) (by first | rw [zcnt_y (P := fun p => M 12 p = nI 1 ∧ ¬ pFd M p (nI 0)) ⟨zc20, zc29⟩] | (rw [← zcnt_n (P := fun p => M 12 p = nI 1 ∧ ¬ pFd M p (nI 0)) (fun h => zc20 h.1)]; rfl) | (rw [← zcnt_n (P := fun p => M 12 p = nI 1 ∧ ¬ pFd M p (nI 0)) (fun h => h.2 zc29)]; rfl)) ?_
            exact ih4 (i + 1) (by omega) (by omega)
          · refine z_iconst (v := nI 1) B dX7_lost_32 (by decide) ?_
            refine z_goto B 37 dX7_lost_33 (by decide) ?_
            refine z_iaddN B dX7_lost_37 ?_
            refine z_istore_n (lv1 := [(1, .int (nI (zcnt (fun p => M 12 p = nI 1 ∧ ¬ pFd M p (nI 0)) i + 1))), (0, .ref (h)), (2, .int (nI (i)))]) B dX7_lost_38 rfl (by decide) rfl ?_
            refine z_iinc B 2 (lv1 := [(2, .int (nI (i + 1))), (1, .int (nI (zcnt (fun p => M 12 p = nI 1 ∧ ¬ pFd M p (nI 0)) i + 1))), (0, .ref (h))]) dX7_lost_39 rfl (nI_1 _) (by decide) rfl ?_
            refine z_goto B 4 dX7_lost_42 (by decide) ?_
            refine z_loc [2, 1, 0] (lv' := [(0, .ref (h)), (1, .int (nI (zcnt (fun p => M 12 p = nI 1 ∧ ¬ pFd M p (nI 0)) i + 1))), (2, .int (nI (i + 1)))]) rfl ?_
            refine z_lvc (lv' := [(0, .ref (h)), (1, .int (nI (zcnt (fun p => M 12 p = nI 1 ∧ ¬ pFd M p (nI 0)) (i + 1)))), (2, .int (nI ((i + 1))))]) (by first | rw [zcnt_y (P := fun p => M 12 p = nI 1 ∧ ¬ pFd M p (nI 0)) ⟨zc20, zc29⟩] | (rw [← zcnt_n (P := fun p => M 12 p = nI 1 ∧ ¬ pFd M p (nI 0)) (fun h => zc20 h.1)]; rfl) | (rw [← zcnt_n (P := fun p => M 12 p = nI 1 ∧ ¬ pFd M p (nI 0)) (fun h => h.2 zc29)]; rfl)) ?_
            exact ih4 (i + 1) (by omega) (by omega)
  refine z_loc [2, 1, 0] (lv' := [(0, .ref (h)), (1, .int (nI (0))), (2, .int (nI (0)))]) rfl ?_
  refine z_lvc (lv' := [(0, .ref (h)), (1, .int (nI (zcnt (fun p => M 12 p = nI 1 ∧ ¬ pFd M p (nI 0)) 0))), (2, .int (nI (0)))]) (by rfl) ?_
  exact loop4 (mP M + 1) 0 (by omega) (by omega)
theorem fw_X7_audit_X7 : zF wsX7_audit RX7 TX7 30 := fun _ h => List.mem_cons_of_mem _ (List.mem_append_right _ (h))
set_option maxHeartbeats 4000000 in
set_option maxRecDepth 100000 in
theorem c7_audit (l : Launch) (D : va_G) (g : zG) (h : Nat) (a : Nat → Nat) (M : zMS) (hI : MI M) (hJ : MJ M) (x : Int32) : zMutI l yX7_audit wsX7_audit { frames := 3, cells := 0, slots := 0, locals := 64 } D (zT g) (wM g h a M) [.ref h, .int (x)] (fun r w' => ∃ M', w' = wM g h a M' ∧ (¬ pCx M x → M' = up2 M 0 0 (nI 1)) ∧ (pCx M x → r = nI (zcnt (fun q => ¬ pSm M (nN x) (mF M (nN x) + q)) (mE M (nN x) - mF M (nN x))) ∧ M' = up2 M 0 0 (nI 0))) 0 0 := by
  refine zMutI_of (cc := cX7_audit) (maxL := 7) (ret := (some .int)) (own := RX7) [(0, .ref (h)), (1, .int (x))] (by decide) rfl rfl rfl (Nat.le_of_ble_eq_true rfl) ?_
  intro X A hAe hl B hr hin
  obtain ⟨b5, b2, b15, b23, b25, b1⟩ := MI_bs hI
  generalize hQ : (zQe X (va_Qi (fun r w' => ∃ M', w' = wM g h a M' ∧ (¬ pCx M x → M' = up2 M 0 0 (nI 1)) ∧ (pCx M x → r = nI (zcnt (fun q => ¬ pSm M (nN x) (mF M (nN x) + q)) (mE M (nN x) - mF M (nN x))) ∧ M' = up2 M 0 0 (nI 0))) (zEnd D (zT g) (wM g h a M) (zs X).heap.size) A) 0 0 A) = Q
  refine z_aload_n B 0 dX7_audit_0 rfl rfl ?_
  refine z_iload_n B 1 dX7_audit_1 rfl rfl ?_
  refine z_callM (As := [.int (x)]) (st := []) (C := RX7) (T := TX7) (N := 30) (ci := 7) (l := l) B hl (c7_noCopy l D g h a M hI x) gX7_audit_X7_noCopy rfl ⟨rfl, rfl⟩ nm_X7_noCopy ⟨by decide, by decide⟩ 0 rfl rfl rfl (Nat.le_of_ble_eq_true rfl) dX7_audit_2 rfl rfl (by decide) (by decide) (fun r w1 hr => ?_)
  obtain ⟨M1, rfl, hq⟩ := hr
  by_cases kk2_0 : pCx M x
  · have kd2_0 := kk2_0
    have kkk2_0 := kk2_0
    obtain ⟨jx, rfl, hjx⟩ := kk2_0
    have hbjx : jx < 16 := by have := hjx.1; omega
    obtain ⟨rfl, rfl⟩ := hq.2 kd2_0
    refine z_if_eq B 10 dX7_audit_5 (by decide) (fun _ => ?_) (fun h => absurd h (by decide))
    refine z_iconst (v := nI 0) B dX7_audit_10 (by decide) ?_
    refine z_istore_n (lv1 := [(2, .int (nI (0))), (0, .ref (h)), (1, .int (nI (jx)))]) B dX7_audit_11 rfl (by decide) rfl ?_
    refine z_aload_n B 1 dX7_audit_12 rfl rfl ?_
    refine z_get (C := RX7) (T := TX7) (N := 30) (v := .ref (a 17)) B 0 17 1 fw_X7_audit_X7 rfl rfl (by decide) rfl rfl rfl dX7_audit_13 ?_
    refine z_iload_n B 2 dX7_audit_16 rfl rfl ?_
    refine z_iald (g := (M 17)) (i := jx) B 13 0 rfl rfl (by omega) (by decide) dX7_audit_17 ?_
    refine z_top (y := nI (mF M jx)) (MI_17 hI _) ?_
    have := MI_b17 hI jx
    refine z_istore_n (lv1 := [(3, .int (nI (mF M jx))), (2, .int (nI (0))), (0, .ref (h)), (1, .int (nI (jx)))]) B dX7_audit_18 rfl (by decide) rfl ?_
    have hEE := hJ.2 jx hjx.1
    have loop19 : ∀ (n0 i : Nat), i ≤ mE M jx - mF M jx → mE M jx - mF M jx + 1 ≤ i + n0 → zJ X 7 (zI1 D A (zs X)) Q (wM g h a (up2 M 0 0 (nI 0))) 0 0 [(0, .ref (h)), (1, .int (nI (jx))), (2, .int (nI (zcnt (fun q => ¬ pSm M jx (mF M jx + q)) i))), (3, .int (nI (mF M jx + i)))] 19 [] := by
      intro n19
      induction n19 with
      | zero => intro i h1 h2; exact absurd h2 (by omega)
      | succ n19 ih19 =>
        intro i hle19 hn19
        refine z_iload_n B 3 dX7_audit_19 rfl rfl ?_
        refine z_aload_n B 0 dX7_audit_20 rfl rfl ?_
        refine z_get (C := RX7) (T := TX7) (N := 30) (v := .ref (a 18)) B 0 18 2 fw_X7_audit_X7 rfl rfl (by decide) rfl rfl rfl dX7_audit_21 ?_
        refine z_iload_n B 1 dX7_audit_24 rfl rfl ?_
        refine z_iald (g := (M 18)) (i := jx) B 14 0 rfl rfl (by omega) (by decide) dX7_audit_25 ?_
        refine z_top (y := nI (mE M jx)) (MI_18 hI _) ?_
        have := MI_b18 hI jx
        refine z_icmpN_ge B 154 dX7_audit_26 (by decide) (by omega) (by omega) (fun zc26 => ?_) (fun zc26 => ?_)
        · obtain rfl : i = mE M jx - mF M jx := by omega
          refine z_iload_n B 2 dX7_audit_154 rfl rfl ?_
          subst hQ
          exact z_mret B hAe hr dX7_audit_155 rfl (by decide) (by decide) (by refine ⟨_, rfl, ?_⟩; rw [nN_nI (show jx < 2 ^ 31 by omega)]; refine ⟨?_, ?_⟩ <;> intros <;> first | contradiction | rfl | exact ⟨rfl, rfl⟩ | omega  | exact ⟨bI_1 (by assumption), rfl⟩ | exact ⟨bI_z (by assumption), rfl⟩)
        · refine z_aload_n B 0 dX7_audit_29 rfl rfl ?_
          refine z_get (C := RX7) (T := TX7) (N := 30) (v := .ref (a 12)) B 0 12 3 fw_X7_audit_X7 rfl rfl (by decide) rfl rfl rfl dX7_audit_30 ?_
          refine z_iload_n B 3 dX7_audit_33 rfl rfl ?_
          refine z_iald (g := (M 12)) (i := mF M jx + i) B 9 0 rfl rfl (by omega) (by decide) dX7_audit_34 ?_
          refine z_if_ne B 42 dX7_audit_35 (by decide) (fun zc35 => ?_) (fun zc35 => ?_)
          · refine z_iconst (v := nI 0) B dX7_audit_42 (by decide) ?_
            refine z_istore (lv1 := [(4, .int (nI (0))), (0, .ref (h)), (1, .int (nI (jx))), (2, .int (nI (zcnt (fun q => ¬ pSm M jx (mF M jx + q)) i))), (3, .int (nI (mF M jx + i)))]) B dX7_audit_43 (by decide) rfl ?_
            refine z_iload B 0 dX7_audit_45 rfl ?_
            refine z_aload_n B 1 dX7_audit_47 rfl rfl ?_
            refine z_get (C := RX7) (T := TX7) (N := 30) (v := .ref (a 21)) B 0 21 4 fw_X7_audit_X7 rfl rfl (by decide) rfl rfl rfl dX7_audit_48 ?_
            refine z_bipush (v := nI 80) B dX7_audit_51 (by decide) ?_
            refine z_iload_n B 2 dX7_audit_53 rfl rfl ?_
            refine z_imulN B dX7_audit_54 ?_
            refine z_iload_n B 4 dX7_audit_55 rfl rfl ?_
            refine z_iaddN B dX7_audit_56 ?_
            refine z_zald (g := (M 21)) (i := 80 * jx + (mF M jx + i)) B 17 1 rfl rfl (by omega) (by decide) dX7_audit_57 ?_
            refine z_icmp_ne B 65 dX7_audit_58 (by decide) (fun zc58 => ?_) (fun zc58 => ?_)
            · refine z_iconst (v := nI 0) B dX7_audit_65 (by decide) ?_
              refine z_istore (lv1 := [(5, .int (nI (0))), (4, .int (nI (0))), (0, .ref (h)), (1, .int (nI (jx))), (2, .int (nI (zcnt (fun q => ¬ pSm M jx (mF M jx + q)) i))), (3, .int (nI (mF M jx + i)))]) B dX7_audit_66 (by decide) rfl ?_
              refine z_iconst (v := nI 0) B dX7_audit_68 (by decide) ?_
              refine z_istore (lv1 := [(6, .int (nI (0))), (5, .int (nI (0))), (4, .int (nI (0))), (0, .ref (h)), (1, .int (nI (jx))), (2, .int (nI (zcnt (fun q => ¬ pSm M jx (mF M jx + q)) i))), (3, .int (nI (mF M jx + i)))]) B dX7_audit_69 (by decide) rfl ?_
              refine z_iload B 0 dX7_audit_71 rfl ?_
              refine z_aload_n B 3 dX7_audit_73 rfl rfl ?_
              refine z_get (C := RX7) (T := TX7) (N := 30) (v := .ref (a 8)) B 0 8 5 fw_X7_audit_X7 rfl rfl (by decide) rfl rfl rfl dX7_audit_74 ?_
              refine z_iload_n B 6 dX7_audit_77 rfl rfl ?_
              refine z_iald (g := (M 8)) (i := mF M jx + i) B 5 0 rfl rfl (by omega) (by decide) dX7_audit_78 ?_
              refine z_top (y := nI (mL M (mF M jx + i))) (MI_8 hI _) ?_
              have := MI_b8 hI (mF M jx + i)
              refine z_icmpN_ge B 135 dX7_audit_79 (by decide) (by omega) (by omega) (fun zc79 => ?_) (fun zc79 => ?_)
              · refine z_iload_n B 5 dX7_audit_135 rfl rfl ?_
                refine z_iload B 1 dX7_audit_136 rfl ?_
                refine z_if_eq B 145 dX7_audit_138 (by decide) (fun _ => ?_) (fun h => absurd h (by decide))
                refine z_iconst (v := nI 1) B dX7_audit_145 (by decide) ?_
                refine z_iaddN B dX7_audit_146 ?_
                refine z_istore_n (lv1 := [(2, .int (nI (zcnt (fun q => ¬ pSm M jx (mF M jx + q)) i + 1))), (6, .int (nI (0))), (5, .int (nI (0))), (4, .int (nI (0))), (0, .ref (h)), (1, .int (nI (jx))), (3, .int (nI (mF M jx + i)))]) B dX7_audit_147 rfl (by decide) rfl ?_
                refine z_iinc B 6 (lv1 := [(3, .int (nI (mF M jx + i + 1))), (2, .int (nI (zcnt (fun q => ¬ pSm M jx (mF M jx + q)) i + 1))), (6, .int (nI (0))), (5, .int (nI (0))), (4, .int (nI (0))), (0, .ref (h)), (1, .int (nI (jx)))]) dX7_audit_148 rfl (nI_1 _) (by decide) rfl ?_
                refine z_goto B 19 dX7_audit_151 (by decide) ?_
                refine z_loc [5, 6, 1, 0] (lv' := [(0, .ref (h)), (1, .int (nI (jx))), (2, .int (nI (zcnt (fun q => ¬ pSm M jx (mF M jx + q)) i + 1))), (3, .int (nI (mF M jx + i + 1)))]) rfl ?_
                refine z_lvc (lv' := [(0, .ref (h)), (1, .int (nI (jx))), (2, .int (nI (zcnt (fun q => ¬ pSm M jx (mF M jx + q)) (i + 1)))), (3, .int (nI (mF M jx + (i + 1))))]) (by first | (have q : (bI (M 12 (mF M jx + i) = 0) = M 21 (80 * jx + (mF M jx + i))) ∧ ∀ l, l < mL M (mF M jx + i) → M 22 (4 * (80 * jx + (mF M jx + i)) + l) = M 11 (4 * (mF M jx + i) + l) := zc138; rw [← zcnt_n (P := fun q => ¬ pSm M jx (mF M jx + q)) (not_not_intro ⟨q.1, fun _ => q.2⟩)]; rfl) | (have q : ¬ ((bI (M 12 (mF M jx + i) = 0) = M 21 (80 * jx + (mF M jx + i))) ∧ ∀ l, l < mL M (mF M jx + i) → M 22 (4 * (80 * jx + (mF M jx + i)) + l) = M 11 (4 * (mF M jx + i) + l)) := zc138; have zq3 : M 12 (mF M jx + i) = 0 := zc35; rw [zcnt_y (P := fun q => ¬ pSm M jx (mF M jx + q)) (fun h => q ⟨h.1, h.2 zq3⟩)] <;> rfl) | (have zq3 : ¬ M 12 (mF M jx + i) = 0 := zc35; have q : nI 0 = M 21 (80 * jx + (mF M jx + i)) := zc58; rw [← zcnt_n (P := fun q => ¬ pSm M jx (mF M jx + q)) (not_not_intro ⟨(bI_f zq3).trans q, fun h => absurd h zq3⟩)]; rfl) | (have zq3 : ¬ M 12 (mF M jx + i) = 0 := zc35; have q : ¬ nI 0 = M 21 (80 * jx + (mF M jx + i)) := zc58; rw [zcnt_y (P := fun q => ¬ pSm M jx (mF M jx + q)) (fun h => q ((bI_f zq3).symm.trans h.1))] <;> rfl)) ?_
                exact ih19 (i + 1) (by omega) (by omega)
              · refine z_iload B 2 dX7_audit_82 rfl ?_
                refine z_if_eq B 135 dX7_audit_84 (by decide) (fun _ => ?_) (fun h => absurd h (by decide))
                refine z_iload_n B 5 dX7_audit_135 rfl rfl ?_
                refine z_iload B 1 dX7_audit_136 rfl ?_
                refine z_if_eq B 145 dX7_audit_138 (by decide) (fun _ => ?_) (fun h => absurd h (by decide))
                refine z_iconst (v := nI 1) B dX7_audit_145 (by decide) ?_
                refine z_iaddN B dX7_audit_146 ?_
                refine z_istore_n (lv1 := [(2, .int (nI (zcnt (fun q => ¬ pSm M jx (mF M jx + q)) i + 1))), (6, .int (nI (0))), (5, .int (nI (0))), (4, .int (nI (0))), (0, .ref (h)), (1, .int (nI (jx))), (3, .int (nI (mF M jx + i)))]) B dX7_audit_147 rfl (by decide) rfl ?_
                refine z_iinc B 6 (lv1 := [(3, .int (nI (mF M jx + i + 1))), (2, .int (nI (zcnt (fun q => ¬ pSm M jx (mF M jx + q)) i + 1))), (6, .int (nI (0))), (5, .int (nI (0))), (4, .int (nI (0))), (0, .ref (h)), (1, .int (nI (jx)))]) dX7_audit_148 rfl (nI_1 _) (by decide) rfl ?_
                refine z_goto B 19 dX7_audit_151 (by decide) ?_
                refine z_loc [5, 6, 1, 0] (lv' := [(0, .ref (h)), (1, .int (nI (jx))), (2, .int (nI (zcnt (fun q => ¬ pSm M jx (mF M jx + q)) i + 1))), (3, .int (nI (mF M jx + i + 1)))]) rfl ?_
                refine z_lvc (lv' := [(0, .ref (h)), (1, .int (nI (jx))), (2, .int (nI (zcnt (fun q => ¬ pSm M jx (mF M jx + q)) (i + 1)))), (3, .int (nI (mF M jx + (i + 1))))]) (by first | (have q : (bI (M 12 (mF M jx + i) = 0) = M 21 (80 * jx + (mF M jx + i))) ∧ ∀ l, l < mL M (mF M jx + i) → M 22 (4 * (80 * jx + (mF M jx + i)) + l) = M 11 (4 * (mF M jx + i) + l) := zc138; rw [← zcnt_n (P := fun q => ¬ pSm M jx (mF M jx + q)) (not_not_intro ⟨q.1, fun _ => q.2⟩)]; rfl) | (have q : ¬ ((bI (M 12 (mF M jx + i) = 0) = M 21 (80 * jx + (mF M jx + i))) ∧ ∀ l, l < mL M (mF M jx + i) → M 22 (4 * (80 * jx + (mF M jx + i)) + l) = M 11 (4 * (mF M jx + i) + l)) := zc138; have zq3 : M 12 (mF M jx + i) = 0 := zc35; rw [zcnt_y (P := fun q => ¬ pSm M jx (mF M jx + q)) (fun h => q ⟨h.1, h.2 zq3⟩)] <;> rfl) | (have zq3 : ¬ M 12 (mF M jx + i) = 0 := zc35; have q : nI 0 = M 21 (80 * jx + (mF M jx + i)) := zc58; rw [← zcnt_n (P := fun q => ¬ pSm M jx (mF M jx + q)) (not_not_intro ⟨(bI_f zq3).trans q, fun h => absurd h zq3⟩)]; rfl) | (have zq3 : ¬ M 12 (mF M jx + i) = 0 := zc35; have q : ¬ nI 0 = M 21 (80 * jx + (mF M jx + i)) := zc58; rw [zcnt_y (P := fun q => ¬ pSm M jx (mF M jx + q)) (fun h => q ((bI_f zq3).symm.trans h.1))] <;> rfl)) ?_
                exact ih19 (i + 1) (by omega) (by omega)
            · refine z_iconst (v := nI 1) B dX7_audit_61 (by decide) ?_
              refine z_goto B 66 dX7_audit_62 (by decide) ?_
              refine z_istore (lv1 := [(5, .int (nI (1))), (4, .int (nI (0))), (0, .ref (h)), (1, .int (nI (jx))), (2, .int (nI (zcnt (fun q => ¬ pSm M jx (mF M jx + q)) i))), (3, .int (nI (mF M jx + i)))]) B dX7_audit_66 (by decide) rfl ?_
              refine z_iconst (v := nI 0) B dX7_audit_68 (by decide) ?_
              refine z_istore (lv1 := [(6, .int (nI (0))), (5, .int (nI (1))), (4, .int (nI (0))), (0, .ref (h)), (1, .int (nI (jx))), (2, .int (nI (zcnt (fun q => ¬ pSm M jx (mF M jx + q)) i))), (3, .int (nI (mF M jx + i)))]) B dX7_audit_69 (by decide) rfl ?_
              refine z_iload B 0 dX7_audit_71 rfl ?_
              refine z_aload_n B 3 dX7_audit_73 rfl rfl ?_
              refine z_get (C := RX7) (T := TX7) (N := 30) (v := .ref (a 8)) B 0 8 5 fw_X7_audit_X7 rfl rfl (by decide) rfl rfl rfl dX7_audit_74 ?_
              refine z_iload_n B 6 dX7_audit_77 rfl rfl ?_
              refine z_iald (g := (M 8)) (i := mF M jx + i) B 5 0 rfl rfl (by omega) (by decide) dX7_audit_78 ?_
              refine z_top (y := nI (mL M (mF M jx + i))) (MI_8 hI _) ?_
              have := MI_b8 hI (mF M jx + i)
              refine z_icmpN_ge B 135 dX7_audit_79 (by decide) (by omega) (by omega) (fun zc79 => ?_) (fun zc79 => ?_)
              · refine z_iload_n B 5 dX7_audit_135 rfl rfl ?_
                refine z_iload B 1 dX7_audit_136 rfl ?_
                refine z_if_eq B 145 dX7_audit_138 (by decide) (fun h => absurd h (by decide)) (fun _ => ?_)
                refine z_iconst (v := nI 0) B dX7_audit_141 (by decide) ?_
                refine z_goto B 146 dX7_audit_142 (by decide) ?_
                refine z_iaddN B dX7_audit_146 ?_
                refine z_istore_n (lv1 := [(2, .int (nI (zcnt (fun q => ¬ pSm M jx (mF M jx + q)) i + 0))), (6, .int (nI (0))), (5, .int (nI (1))), (4, .int (nI (0))), (0, .ref (h)), (1, .int (nI (jx))), (3, .int (nI (mF M jx + i)))]) B dX7_audit_147 rfl (by decide) rfl ?_
                refine z_iinc B 6 (lv1 := [(3, .int (nI (mF M jx + i + 1))), (2, .int (nI (zcnt (fun q => ¬ pSm M jx (mF M jx + q)) i + 0))), (6, .int (nI (0))), (5, .int (nI (1))), (4, .int (nI (0))), (0, .ref (h)), (1, .int (nI (jx)))]) dX7_audit_148 rfl (nI_1 _) (by decide) rfl ?_
                refine z_goto B 19 dX7_audit_151 (by decide) ?_
                refine z_loc [5, 6, 1, 0] (lv' := [(0, .ref (h)), (1, .int (nI (jx))), (2, .int (nI (zcnt (fun q => ¬ pSm M jx (mF M jx + q)) i + 0))), (3, .int (nI (mF M jx + i + 1)))]) rfl ?_
                refine z_lvc (lv' := [(0, .ref (h)), (1, .int (nI (jx))), (2, .int (nI (zcnt (fun q => ¬ pSm M jx (mF M jx + q)) (i + 1)))), (3, .int (nI (mF M jx + (i + 1))))]) (by first | (have q : (bI (M 12 (mF M jx + i) = 0) = M 21 (80 * jx + (mF M jx + i))) ∧ ∀ l, l < mL M (mF M jx + i) → M 22 (4 * (80 * jx + (mF M jx + i)) + l) = M 11 (4 * (mF M jx + i) + l) := zc138; rw [← zcnt_n (P := fun q => ¬ pSm M jx (mF M jx + q)) (not_not_intro ⟨q.1, fun _ => q.2⟩)]; rfl) | (have q : ¬ ((bI (M 12 (mF M jx + i) = 0) = M 21 (80 * jx + (mF M jx + i))) ∧ ∀ l, l < mL M (mF M jx + i) → M 22 (4 * (80 * jx + (mF M jx + i)) + l) = M 11 (4 * (mF M jx + i) + l)) := zc138; have zq3 : M 12 (mF M jx + i) = 0 := zc35; rw [zcnt_y (P := fun q => ¬ pSm M jx (mF M jx + q)) (fun h => q ⟨h.1, h.2 zq3⟩)] <;> rfl) | (have zq3 : ¬ M 12 (mF M jx + i) = 0 := zc35; have q : nI 0 = M 21 (80 * jx + (mF M jx + i)) := zc58; rw [← zcnt_n (P := fun q => ¬ pSm M jx (mF M jx + q)) (not_not_intro ⟨(bI_f zq3).trans q, fun h => absurd h zq3⟩)]; rfl) | (have zq3 : ¬ M 12 (mF M jx + i) = 0 := zc35; have q : ¬ nI 0 = M 21 (80 * jx + (mF M jx + i)) := zc58; rw [zcnt_y (P := fun q => ¬ pSm M jx (mF M jx + q)) (fun h => q ((bI_f zq3).symm.trans h.1))] <;> rfl)) ?_
                exact ih19 (i + 1) (by omega) (by omega)
              · refine z_iload B 2 dX7_audit_82 rfl ?_
                refine z_if_eq B 135 dX7_audit_84 (by decide) (fun _ => ?_) (fun h => absurd h (by decide))
                refine z_iload_n B 5 dX7_audit_135 rfl rfl ?_
                refine z_iload B 1 dX7_audit_136 rfl ?_
                refine z_if_eq B 145 dX7_audit_138 (by decide) (fun h => absurd h (by decide)) (fun _ => ?_)
                refine z_iconst (v := nI 0) B dX7_audit_141 (by decide) ?_
                refine z_goto B 146 dX7_audit_142 (by decide) ?_
                refine z_iaddN B dX7_audit_146 ?_
                refine z_istore_n (lv1 := [(2, .int (nI (zcnt (fun q => ¬ pSm M jx (mF M jx + q)) i + 0))), (6, .int (nI (0))), (5, .int (nI (1))), (4, .int (nI (0))), (0, .ref (h)), (1, .int (nI (jx))), (3, .int (nI (mF M jx + i)))]) B dX7_audit_147 rfl (by decide) rfl ?_
                refine z_iinc B 6 (lv1 := [(3, .int (nI (mF M jx + i + 1))), (2, .int (nI (zcnt (fun q => ¬ pSm M jx (mF M jx + q)) i + 0))), (6, .int (nI (0))), (5, .int (nI (1))), (4, .int (nI (0))), (0, .ref (h)), (1, .int (nI (jx)))]) dX7_audit_148 rfl (nI_1 _) (by decide) rfl ?_
                refine z_goto B 19 dX7_audit_151 (by decide) ?_
                refine z_loc [5, 6, 1, 0] (lv' := [(0, .ref (h)), (1, .int (nI (jx))), (2, .int (nI (zcnt (fun q => ¬ pSm M jx (mF M jx + q)) i + 0))), (3, .int (nI (mF M jx + i + 1)))]) rfl ?_
                refine z_lvc (lv' := [(0, .ref (h)), (1, .int (nI (jx))), (2, .int (nI (zcnt (fun q => ¬ pSm M jx (mF M jx + q)) (i + 1)))), (3, .int (nI (mF M jx + (i + 1))))]) (by first | (have q : (bI (M 12 (mF M jx + i) = 0) = M 21 (80 * jx + (mF M jx + i))) ∧ ∀ l, l < mL M (mF M jx + i) → M 22 (4 * (80 * jx + (mF M jx + i)) + l) = M 11 (4 * (mF M jx + i) + l) := zc138; rw [← zcnt_n (P := fun q => ¬ pSm M jx (mF M jx + q)) (not_not_intro ⟨q.1, fun _ => q.2⟩)]; rfl) | (have q : ¬ ((bI (M 12 (mF M jx + i) = 0) = M 21 (80 * jx + (mF M jx + i))) ∧ ∀ l, l < mL M (mF M jx + i) → M 22 (4 * (80 * jx + (mF M jx + i)) + l) = M 11 (4 * (mF M jx + i) + l)) := zc138; have zq3 : M 12 (mF M jx + i) = 0 := zc35; rw [zcnt_y (P := fun q => ¬ pSm M jx (mF M jx + q)) (fun h => q ⟨h.1, h.2 zq3⟩)] <;> rfl) | (have zq3 : ¬ M 12 (mF M jx + i) = 0 := zc35; have q : nI 0 = M 21 (80 * jx + (mF M jx + i)) := zc58; rw [← zcnt_n (P := fun q => ¬ pSm M jx (mF M jx + q)) (not_not_intro ⟨(bI_f zq3).trans q, fun h => absurd h zq3⟩)]; rfl) | (have zq3 : ¬ M 12 (mF M jx + i) = 0 := zc35; have q : ¬ nI 0 = M 21 (80 * jx + (mF M jx + i)) := zc58; rw [zcnt_y (P := fun q => ¬ pSm M jx (mF M jx + q)) (fun h => q ((bI_f zq3).symm.trans h.1))] <;> rfl)) ?_
                exact ih19 (i + 1) (by omega) (by omega)
          · refine z_iconst (v := nI 1) B dX7_audit_38 (by decide) ?_
            refine z_goto B 43 dX7_audit_39 (by decide) ?_
            refine z_istore (lv1 := [(4, .int (nI (1))), (0, .ref (h)), (1, .int (nI (jx))), (2, .int (nI (zcnt (fun q => ¬ pSm M jx (mF M jx + q)) i))), (3, .int (nI (mF M jx + i)))]) B dX7_audit_43 (by decide) rfl ?_
            refine z_iload B 0 dX7_audit_45 rfl ?_
            refine z_aload_n B 1 dX7_audit_47 rfl rfl ?_
            refine z_get (C := RX7) (T := TX7) (N := 30) (v := .ref (a 21)) B 0 21 4 fw_X7_audit_X7 rfl rfl (by decide) rfl rfl rfl dX7_audit_48 ?_
            refine z_bipush (v := nI 80) B dX7_audit_51 (by decide) ?_
            refine z_iload_n B 2 dX7_audit_53 rfl rfl ?_
            refine z_imulN B dX7_audit_54 ?_
            refine z_iload_n B 4 dX7_audit_55 rfl rfl ?_
            refine z_iaddN B dX7_audit_56 ?_
            refine z_zald (g := (M 21)) (i := 80 * jx + (mF M jx + i)) B 17 1 rfl rfl (by omega) (by decide) dX7_audit_57 ?_
            refine z_icmp_ne B 65 dX7_audit_58 (by decide) (fun zc58 => ?_) (fun zc58 => ?_)
            · refine z_iconst (v := nI 0) B dX7_audit_65 (by decide) ?_
              refine z_istore (lv1 := [(5, .int (nI (0))), (4, .int (nI (1))), (0, .ref (h)), (1, .int (nI (jx))), (2, .int (nI (zcnt (fun q => ¬ pSm M jx (mF M jx + q)) i))), (3, .int (nI (mF M jx + i)))]) B dX7_audit_66 (by decide) rfl ?_
              refine z_iconst (v := nI 0) B dX7_audit_68 (by decide) ?_
              refine z_istore (lv1 := [(6, .int (nI (0))), (5, .int (nI (0))), (4, .int (nI (1))), (0, .ref (h)), (1, .int (nI (jx))), (2, .int (nI (zcnt (fun q => ¬ pSm M jx (mF M jx + q)) i))), (3, .int (nI (mF M jx + i)))]) B dX7_audit_69 (by decide) rfl ?_
              have bL := MI_b8 hI (mF M jx + i)
              have loop71 : ∀ (n0 i2 : Nat), i2 ≤ mL M (mF M jx + i) → mL M (mF M jx + i) + 1 ≤ i2 + n0 → zJ X 7 (zI1 D A (zs X)) Q (wM g h a (up2 M 0 0 (nI 0))) 0 0 [(0, .ref (h)), (1, .int (nI (jx))), (2, .int (nI (zcnt (fun q => ¬ pSm M jx (mF M jx + q)) i))), (3, .int (nI (mF M jx + i))), (4, .int (nI (1))), (5, .int (bI ((bI (M 12 (mF M jx + i) = 0) = M 21 (80 * jx + (mF M jx + i))) ∧ ∀ l, l < i2 → M 22 (4 * (80 * jx + (mF M jx + i)) + l) = M 11 (4 * (mF M jx + i) + l)))), (6, .int (nI (i2)))] 71 [] := by
                intro n71
                induction n71 with
                | zero => intro i2 h1 h2; exact absurd h2 (by omega)
                | succ n71 ih71 =>
                  intro i2 hle71 hn71
                  refine z_iload B 6 dX7_audit_71 rfl ?_
                  refine z_aload_n B 0 dX7_audit_73 rfl rfl ?_
                  refine z_get (C := RX7) (T := TX7) (N := 30) (v := .ref (a 8)) B 0 8 5 fw_X7_audit_X7 rfl rfl (by decide) rfl rfl rfl dX7_audit_74 ?_
                  refine z_iload_n B 3 dX7_audit_77 rfl rfl ?_
                  refine z_iald (g := (M 8)) (i := mF M jx + i) B 5 0 rfl rfl (by omega) (by decide) dX7_audit_78 ?_
                  refine z_top (y := nI (mL M (mF M jx + i))) (MI_8 hI _) ?_
                  have := MI_b8 hI (mF M jx + i)
                  refine z_icmpN_ge B 135 dX7_audit_79 (by decide) (by omega) (by omega) (fun zc79 => ?_) (fun zc79 => ?_)
                  · obtain rfl : i2 = mL M (mF M jx + i) := by omega
                    refine z_iload_n B 2 dX7_audit_135 rfl rfl ?_
                    refine z_iload B 5 dX7_audit_136 rfl ?_
                    refine z_ifB_eq B 145 dX7_audit_138 (by decide) (fun zc138 => ?_) (fun zc138 => ?_)
                    · refine z_iconst (v := nI 1) B dX7_audit_145 (by decide) ?_
                      refine z_iaddN B dX7_audit_146 ?_
                      refine z_istore_n (lv1 := [(2, .int (nI (zcnt (fun q => ¬ pSm M jx (mF M jx + q)) i + 1))), (0, .ref (h)), (1, .int (nI (jx))), (3, .int (nI (mF M jx + i))), (4, .int (nI (1))), (5, .int (bI ((bI (M 12 (mF M jx + i) = 0) = M 21 (80 * jx + (mF M jx + i))) ∧ ∀ l, l < (mL M (mF M jx + i)) → M 22 (4 * (80 * jx + (mF M jx + i)) + l) = M 11 (4 * (mF M jx + i) + l)))), (6, .int (nI ((mL M (mF M jx + i)))))]) B dX7_audit_147 rfl (by decide) rfl ?_
                      refine z_iinc B 3 (lv1 := [(3, .int (nI (mF M jx + i + 1))), (2, .int (nI (zcnt (fun q => ¬ pSm M jx (mF M jx + q)) i + 1))), (0, .ref (h)), (1, .int (nI (jx))), (4, .int (nI (1))), (5, .int (bI ((bI (M 12 (mF M jx + i) = 0) = M 21 (80 * jx + (mF M jx + i))) ∧ ∀ l, l < (mL M (mF M jx + i)) → M 22 (4 * (80 * jx + (mF M jx + i)) + l) = M 11 (4 * (mF M jx + i) + l)))), (6, .int (nI ((mL M (mF M jx + i)))))]) dX7_audit_148 rfl (nI_1 _) (by decide) rfl ?_
                      refine z_goto B 19 dX7_audit_151 (by decide) ?_
                      refine z_loc [2, 3, 1, 0] (lv' := [(0, .ref (h)), (1, .int (nI (jx))), (2, .int (nI (zcnt (fun q => ¬ pSm M jx (mF M jx + q)) i + 1))), (3, .int (nI (mF M jx + i + 1)))]) rfl ?_
                      refine z_lvc (lv' := [(0, .ref (h)), (1, .int (nI (jx))), (2, .int (nI (zcnt (fun q => ¬ pSm M jx (mF M jx + q)) (i + 1)))), (3, .int (nI (mF M jx + (i + 1))))]) (by first | (have q : (bI (M 12 (mF M jx + i) = 0) = M 21 (80 * jx + (mF M jx + i))) ∧ ∀ l, l < mL M (mF M jx + i) → M 22 (4 * (80 * jx + (mF M jx + i)) + l) = M 11 (4 * (mF M jx + i) + l) := zc138; rw [← zcnt_n (P := fun q => ¬ pSm M jx (mF M jx + q)) (not_not_intro ⟨q.1, fun _ => q.2⟩)]; rfl) | (have q : ¬ ((bI (M 12 (mF M jx + i) = 0) = M 21 (80 * jx + (mF M jx + i))) ∧ ∀ l, l < mL M (mF M jx + i) → M 22 (4 * (80 * jx + (mF M jx + i)) + l) = M 11 (4 * (mF M jx + i) + l)) := zc138; have zq3 : M 12 (mF M jx + i) = 0 := zc35; rw [zcnt_y (P := fun q => ¬ pSm M jx (mF M jx + q)) (fun h => q ⟨h.1, h.2 zq3⟩)] <;> rfl) | (have zq3 : ¬ M 12 (mF M jx + i) = 0 := zc35; have q : nI 0 = M 21 (80 * jx + (mF M jx + i)) := zc58; rw [← zcnt_n (P := fun q => ¬ pSm M jx (mF M jx + q)) (not_not_intro ⟨(bI_f zq3).trans q, fun h => absurd h zq3⟩)]; rfl) | (have zq3 : ¬ M 12 (mF M jx + i) = 0 := zc35; have q : ¬ nI 0 = M 21 (80 * jx + (mF M jx + i)) := zc58; rw [zcnt_y (P := fun q => ¬ pSm M jx (mF M jx + q)) (fun h => q ((bI_f zq3).symm.trans h.1))] <;> rfl)) ?_
                      exact ih19 (i + 1) (by omega) (by omega)
                    · refine z_iconst (v := nI 0) B dX7_audit_141 (by decide) ?_
                      refine z_goto B 146 dX7_audit_142 (by decide) ?_
                      refine z_iaddN B dX7_audit_146 ?_
                      refine z_istore_n (lv1 := [(2, .int (nI (zcnt (fun q => ¬ pSm M jx (mF M jx + q)) i + 0))), (0, .ref (h)), (1, .int (nI (jx))), (3, .int (nI (mF M jx + i))), (4, .int (nI (1))), (5, .int (bI ((bI (M 12 (mF M jx + i) = 0) = M 21 (80 * jx + (mF M jx + i))) ∧ ∀ l, l < (mL M (mF M jx + i)) → M 22 (4 * (80 * jx + (mF M jx + i)) + l) = M 11 (4 * (mF M jx + i) + l)))), (6, .int (nI ((mL M (mF M jx + i)))))]) B dX7_audit_147 rfl (by decide) rfl ?_
                      refine z_iinc B 3 (lv1 := [(3, .int (nI (mF M jx + i + 1))), (2, .int (nI (zcnt (fun q => ¬ pSm M jx (mF M jx + q)) i + 0))), (0, .ref (h)), (1, .int (nI (jx))), (4, .int (nI (1))), (5, .int (bI ((bI (M 12 (mF M jx + i) = 0) = M 21 (80 * jx + (mF M jx + i))) ∧ ∀ l, l < (mL M (mF M jx + i)) → M 22 (4 * (80 * jx + (mF M jx + i)) + l) = M 11 (4 * (mF M jx + i) + l)))), (6, .int (nI ((mL M (mF M jx + i)))))]) dX7_audit_148 rfl (nI_1 _) (by decide) rfl ?_
                      refine z_goto B 19 dX7_audit_151 (by decide) ?_
                      refine z_loc [2, 3, 1, 0] (lv' := [(0, .ref (h)), (1, .int (nI (jx))), (2, .int (nI (zcnt (fun q => ¬ pSm M jx (mF M jx + q)) i + 0))), (3, .int (nI (mF M jx + i + 1)))]) rfl ?_
                      refine z_lvc (lv' := [(0, .ref (h)), (1, .int (nI (jx))), (2, .int (nI (zcnt (fun q => ¬ pSm M jx (mF M jx + q)) (i + 1)))), (3, .int (nI (mF M jx + (i + 1))))]) (by first | (have q : (bI (M 12 (mF M jx + i) = 0) = M 21 (80 * jx + (mF M jx + i))) ∧ ∀ l, l < mL M (mF M jx + i) → M 22 (4 * (80 * jx + (mF M jx + i)) + l) = M 11 (4 * (mF M jx + i) + l) := zc138; rw [← zcnt_n (P := fun q => ¬ pSm M jx (mF M jx + q)) (not_not_intro ⟨q.1, fun _ => q.2⟩)]; rfl) | (have q : ¬ ((bI (M 12 (mF M jx + i) = 0) = M 21 (80 * jx + (mF M jx + i))) ∧ ∀ l, l < mL M (mF M jx + i) → M 22 (4 * (80 * jx + (mF M jx + i)) + l) = M 11 (4 * (mF M jx + i) + l)) := zc138; have zq3 : M 12 (mF M jx + i) = 0 := zc35; rw [zcnt_y (P := fun q => ¬ pSm M jx (mF M jx + q)) (fun h => q ⟨h.1, h.2 zq3⟩)] <;> rfl) | (have zq3 : ¬ M 12 (mF M jx + i) = 0 := zc35; have q : nI 0 = M 21 (80 * jx + (mF M jx + i)) := zc58; rw [← zcnt_n (P := fun q => ¬ pSm M jx (mF M jx + q)) (not_not_intro ⟨(bI_f zq3).trans q, fun h => absurd h zq3⟩)]; rfl) | (have zq3 : ¬ M 12 (mF M jx + i) = 0 := zc35; have q : ¬ nI 0 = M 21 (80 * jx + (mF M jx + i)) := zc58; rw [zcnt_y (P := fun q => ¬ pSm M jx (mF M jx + q)) (fun h => q ((bI_f zq3).symm.trans h.1))] <;> rfl)) ?_
                      exact ih19 (i + 1) (by omega) (by omega)
                  · refine z_iload B 4 dX7_audit_82 rfl ?_
                    refine z_if_eq B 135 dX7_audit_84 (by decide) (fun h => absurd h (by decide)) (fun _ => ?_)
                    refine z_iload B 5 dX7_audit_87 rfl ?_
                    refine z_ifB_eq B 126 dX7_audit_89 (by decide) (fun zc89 => ?_) (fun zc89 => ?_)
                    · refine z_iconst (v := nI 0) B dX7_audit_126 (by decide) ?_
                      refine z_istore (lv1 := [(5, .int (nI (0))), (0, .ref (h)), (1, .int (nI (jx))), (2, .int (nI (zcnt (fun q => ¬ pSm M jx (mF M jx + q)) i))), (3, .int (nI (mF M jx + i))), (4, .int (nI (1))), (6, .int (nI (i2)))]) B dX7_audit_127 (by decide) rfl ?_
                      refine z_iinc B 6 (lv1 := [(6, .int (nI (i2 + 1))), (5, .int (nI (0))), (0, .ref (h)), (1, .int (nI (jx))), (2, .int (nI (zcnt (fun q => ¬ pSm M jx (mF M jx + q)) i))), (3, .int (nI (mF M jx + i))), (4, .int (nI (1)))]) dX7_audit_129 rfl (nI_1 _) (by decide) rfl ?_
                      refine z_goto B 71 dX7_audit_132 (by decide) ?_
                      refine z_loc [2, 3, 4, 5, 6, 1, 0] (lv' := [(0, .ref (h)), (1, .int (nI (jx))), (2, .int (nI (zcnt (fun q => ¬ pSm M jx (mF M jx + q)) i))), (3, .int (nI (mF M jx + i))), (4, .int (nI (1))), (5, .int (nI (0))), (6, .int (nI (i2 + 1)))]) rfl ?_
                      refine z_lvc (lv' := [(0, .ref (h)), (1, .int (nI (jx))), (2, .int (nI (zcnt (fun q => ¬ pSm M jx (mF M jx + q)) i))), (3, .int (nI (mF M jx + i))), (4, .int (nI (1))), (5, .int (bI ((bI (M 12 (mF M jx + i) = 0) = M 21 (80 * jx + (mF M jx + i))) ∧ ∀ l, l < (i2 + 1) → M 22 (4 * (80 * jx + (mF M jx + i)) + l) = M 11 (4 * (mF M jx + i) + l)))), (6, .int (nI ((i2 + 1))))]) (by first | (have q : (bI (M 12 (mF M jx + i) = 0) = M 21 (80 * jx + (mF M jx + i))) ∧ ∀ l, l < i2 → M 22 (4 * (80 * jx + (mF M jx + i)) + l) = M 11 (4 * (mF M jx + i) + l) := zc89; have zq1 : M 22 (4 * (80 * jx + (mF M jx + i)) + i2) = M 11 (4 * (mF M jx + i) + i2) := zc119; rw [bI_t (P := _ ∧ _) ⟨q.1, all_s.mpr ⟨q.2, zq1⟩⟩]; rfl) | (have q : ¬ ((bI (M 12 (mF M jx + i) = 0) = M 21 (80 * jx + (mF M jx + i))) ∧ ∀ l, l < i2 → M 22 (4 * (80 * jx + (mF M jx + i)) + l) = M 11 (4 * (mF M jx + i) + l)) := zc89; rw [bI_f (P := _ ∧ _) (fun h => q ⟨h.1, (all_s.mp h.2).1⟩)]; rfl) | (have zq1 : ¬ (M 22 (4 * (80 * jx + (mF M jx + i)) + i2) = M 11 (4 * (mF M jx + i) + i2)) := zc119; rw [bI_f (P := _ ∧ _) (fun h => zq1 (all_s.mp h.2).2)]; rfl)) ?_
                      exact ih71 (i2 + 1) (by omega) (by omega)
                    · refine z_aload_n B 0 dX7_audit_92 rfl rfl ?_
                      refine z_get (C := RX7) (T := TX7) (N := 30) (v := .ref (a 22)) B 0 22 6 fw_X7_audit_X7 rfl rfl (by decide) rfl rfl rfl dX7_audit_93 ?_
                      refine z_iconst (v := nI 4) B dX7_audit_96 (by decide) ?_
                      refine z_bipush (v := nI 80) B dX7_audit_97 (by decide) ?_
                      refine z_iload_n B 1 dX7_audit_99 rfl rfl ?_
                      refine z_imulN B dX7_audit_100 ?_
                      refine z_iload_n B 3 dX7_audit_101 rfl rfl ?_
                      refine z_iaddN B dX7_audit_102 ?_
                      refine z_imulN B dX7_audit_103 ?_
                      refine z_iload B 6 dX7_audit_104 rfl ?_
                      refine z_iaddN B dX7_audit_106 ?_
                      refine z_iald (g := (M 22)) (i := 4 * (80 * jx + (mF M jx + i)) + i2) B 18 0 rfl rfl (by omega) (by decide) dX7_audit_107 ?_
                      refine z_aload_n B 0 dX7_audit_108 rfl rfl ?_
                      refine z_get (C := RX7) (T := TX7) (N := 30) (v := .ref (a 11)) B 0 11 7 fw_X7_audit_X7 rfl rfl (by decide) rfl rfl rfl dX7_audit_109 ?_
                      refine z_iconst (v := nI 4) B dX7_audit_112 (by decide) ?_
                      refine z_iload_n B 3 dX7_audit_113 rfl rfl ?_
                      refine z_imulN B dX7_audit_114 ?_
                      refine z_iload B 6 dX7_audit_115 rfl ?_
                      refine z_iaddN B dX7_audit_117 ?_
                      refine z_iald (g := (M 11)) (i := 4 * (mF M jx + i) + i2) B 8 0 rfl rfl (by omega) (by decide) dX7_audit_118 ?_
                      refine z_icmp_ne B 126 dX7_audit_119 (by decide) (fun zc119 => ?_) (fun zc119 => ?_)
                      · refine z_iconst (v := nI 0) B dX7_audit_126 (by decide) ?_
                        refine z_istore (lv1 := [(5, .int (nI (0))), (0, .ref (h)), (1, .int (nI (jx))), (2, .int (nI (zcnt (fun q => ¬ pSm M jx (mF M jx + q)) i))), (3, .int (nI (mF M jx + i))), (4, .int (nI (1))), (6, .int (nI (i2)))]) B dX7_audit_127 (by decide) rfl ?_
                        refine z_iinc B 6 (lv1 := [(6, .int (nI (i2 + 1))), (5, .int (nI (0))), (0, .ref (h)), (1, .int (nI (jx))), (2, .int (nI (zcnt (fun q => ¬ pSm M jx (mF M jx + q)) i))), (3, .int (nI (mF M jx + i))), (4, .int (nI (1)))]) dX7_audit_129 rfl (nI_1 _) (by decide) rfl ?_
                        refine z_goto B 71 dX7_audit_132 (by decide) ?_
                        refine z_loc [2, 3, 4, 5, 6, 1, 0] (lv' := [(0, .ref (h)), (1, .int (nI (jx))), (2, .int (nI (zcnt (fun q => ¬ pSm M jx (mF M jx + q)) i))), (3, .int (nI (mF M jx + i))), (4, .int (nI (1))), (5, .int (nI (0))), (6, .int (nI (i2 + 1)))]) rfl ?_
                        refine z_lvc (lv' := [(0, .ref (h)), (1, .int (nI (jx))), (2, .int (nI (zcnt (fun q => ¬ pSm M jx (mF M jx + q)) i))), (3, .int (nI (mF M jx + i))), (4, .int (nI (1))), (5, .int (bI ((bI (M 12 (mF M jx + i) = 0) = M 21 (80 * jx + (mF M jx + i))) ∧ ∀ l, l < (i2 + 1) → M 22 (4 * (80 * jx + (mF M jx + i)) + l) = M 11 (4 * (mF M jx + i) + l)))), (6, .int (nI ((i2 + 1))))]) (by first | (have q : (bI (M 12 (mF M jx + i) = 0) = M 21 (80 * jx + (mF M jx + i))) ∧ ∀ l, l < i2 → M 22 (4 * (80 * jx + (mF M jx + i)) + l) = M 11 (4 * (mF M jx + i) + l) := zc89; have zq1 : M 22 (4 * (80 * jx + (mF M jx + i)) + i2) = M 11 (4 * (mF M jx + i) + i2) := zc119; rw [bI_t (P := _ ∧ _) ⟨q.1, all_s.mpr ⟨q.2, zq1⟩⟩]; rfl) | (have q : ¬ ((bI (M 12 (mF M jx + i) = 0) = M 21 (80 * jx + (mF M jx + i))) ∧ ∀ l, l < i2 → M 22 (4 * (80 * jx + (mF M jx + i)) + l) = M 11 (4 * (mF M jx + i) + l)) := zc89; rw [bI_f (P := _ ∧ _) (fun h => q ⟨h.1, (all_s.mp h.2).1⟩)]; rfl) | (have zq1 : ¬ (M 22 (4 * (80 * jx + (mF M jx + i)) + i2) = M 11 (4 * (mF M jx + i) + i2)) := zc119; rw [bI_f (P := _ ∧ _) (fun h => zq1 (all_s.mp h.2).2)]; rfl)) ?_
                        exact ih71 (i2 + 1) (by omega) (by omega)
                      · refine z_iconst (v := nI 1) B dX7_audit_122 (by decide) ?_
                        refine z_goto B 127 dX7_audit_123 (by decide) ?_
                        refine z_istore (lv1 := [(5, .int (nI (1))), (0, .ref (h)), (1, .int (nI (jx))), (2, .int (nI (zcnt (fun q => ¬ pSm M jx (mF M jx + q)) i))), (3, .int (nI (mF M jx + i))), (4, .int (nI (1))), (6, .int (nI (i2)))]) B dX7_audit_127 (by decide) rfl ?_
                        refine z_iinc B 6 (lv1 := [(6, .int (nI (i2 + 1))), (5, .int (nI (1))), (0, .ref (h)), (1, .int (nI (jx))), (2, .int (nI (zcnt (fun q => ¬ pSm M jx (mF M jx + q)) i))), (3, .int (nI (mF M jx + i))), (4, .int (nI (1)))]) dX7_audit_129 rfl (nI_1 _) (by decide) rfl ?_
                        refine z_goto B 71 dX7_audit_132 (by decide) ?_
                        refine z_loc [2, 3, 4, 5, 6, 1, 0] (lv' := [(0, .ref (h)), (1, .int (nI (jx))), (2, .int (nI (zcnt (fun q => ¬ pSm M jx (mF M jx + q)) i))), (3, .int (nI (mF M jx + i))), (4, .int (nI (1))), (5, .int (nI (1))), (6, .int (nI (i2 + 1)))]) rfl ?_
                        refine z_lvc (lv' := [(0, .ref (h)), (1, .int (nI (jx))), (2, .int (nI (zcnt (fun q => ¬ pSm M jx (mF M jx + q)) i))), (3, .int (nI (mF M jx + i))), (4, .int (nI (1))), (5, .int (bI ((bI (M 12 (mF M jx + i) = 0) = M 21 (80 * jx + (mF M jx + i))) ∧ ∀ l, l < (i2 + 1) → M 22 (4 * (80 * jx + (mF M jx + i)) + l) = M 11 (4 * (mF M jx + i) + l)))), (6, .int (nI ((i2 + 1))))]) (by first | (have q : (bI (M 12 (mF M jx + i) = 0) = M 21 (80 * jx + (mF M jx + i))) ∧ ∀ l, l < i2 → M 22 (4 * (80 * jx + (mF M jx + i)) + l) = M 11 (4 * (mF M jx + i) + l) := zc89; have zq1 : M 22 (4 * (80 * jx + (mF M jx + i)) + i2) = M 11 (4 * (mF M jx + i) + i2) := zc119; rw [bI_t (P := _ ∧ _) ⟨q.1, all_s.mpr ⟨q.2, zq1⟩⟩]; rfl) | (have q : ¬ ((bI (M 12 (mF M jx + i) = 0) = M 21 (80 * jx + (mF M jx + i))) ∧ ∀ l, l < i2 → M 22 (4 * (80 * jx + (mF M jx + i)) + l) = M 11 (4 * (mF M jx + i) + l)) := zc89; rw [bI_f (P := _ ∧ _) (fun h => q ⟨h.1, (all_s.mp h.2).1⟩)]; rfl) | (have zq1 : ¬ (M 22 (4 * (80 * jx + (mF M jx + i)) + i2) = M 11 (4 * (mF M jx + i) + i2)) := zc119; rw [bI_f (P := _ ∧ _) (fun h => zq1 (all_s.mp h.2).2)]; rfl)) ?_
                        exact ih71 (i2 + 1) (by omega) (by omega)
              refine z_loc [3, 4, 5, 6, 2, 1, 0] (lv' := [(0, .ref (h)), (1, .int (nI (jx))), (2, .int (nI (zcnt (fun q => ¬ pSm M jx (mF M jx + q)) i))), (3, .int (nI (mF M jx + i))), (4, .int (nI (1))), (5, .int (nI (0))), (6, .int (nI (0)))]) rfl ?_
              refine z_lvc (lv' := [(0, .ref (h)), (1, .int (nI (jx))), (2, .int (nI (zcnt (fun q => ¬ pSm M jx (mF M jx + q)) i))), (3, .int (nI (mF M jx + i))), (4, .int (nI (1))), (5, .int (bI ((bI (M 12 (mF M jx + i) = 0) = M 21 (80 * jx + (mF M jx + i))) ∧ ∀ l, l < 0 → M 22 (4 * (80 * jx + (mF M jx + i)) + l) = M 11 (4 * (mF M jx + i) + l)))), (6, .int (nI (0)))]) (by first | (have q : nI 1 = M 21 (80 * jx + (mF M jx + i)) := zc58; rw [bI_t (P := _ ∧ _) ⟨(bI_t zc35).trans q, all_0.mpr trivial⟩]; rfl) | (have q : ¬ nI 1 = M 21 (80 * jx + (mF M jx + i)) := zc58; rw [bI_f (P := _ ∧ _) (fun h => q ((bI_t zc35).symm.trans h.1))]; rfl)) ?_
              exact loop71 (mL M (mF M jx + i) + 1) 0 (by omega) (by omega)
            · refine z_iconst (v := nI 1) B dX7_audit_61 (by decide) ?_
              refine z_goto B 66 dX7_audit_62 (by decide) ?_
              refine z_istore (lv1 := [(5, .int (nI (1))), (4, .int (nI (1))), (0, .ref (h)), (1, .int (nI (jx))), (2, .int (nI (zcnt (fun q => ¬ pSm M jx (mF M jx + q)) i))), (3, .int (nI (mF M jx + i)))]) B dX7_audit_66 (by decide) rfl ?_
              refine z_iconst (v := nI 0) B dX7_audit_68 (by decide) ?_
              refine z_istore (lv1 := [(6, .int (nI (0))), (5, .int (nI (1))), (4, .int (nI (1))), (0, .ref (h)), (1, .int (nI (jx))), (2, .int (nI (zcnt (fun q => ¬ pSm M jx (mF M jx + q)) i))), (3, .int (nI (mF M jx + i)))]) B dX7_audit_69 (by decide) rfl ?_
              have bL := MI_b8 hI (mF M jx + i)
              have loop71 : ∀ (n0 i2 : Nat), i2 ≤ mL M (mF M jx + i) → mL M (mF M jx + i) + 1 ≤ i2 + n0 → zJ X 7 (zI1 D A (zs X)) Q (wM g h a (up2 M 0 0 (nI 0))) 0 0 [(0, .ref (h)), (1, .int (nI (jx))), (2, .int (nI (zcnt (fun q => ¬ pSm M jx (mF M jx + q)) i))), (3, .int (nI (mF M jx + i))), (4, .int (nI (1))), (5, .int (bI ((bI (M 12 (mF M jx + i) = 0) = M 21 (80 * jx + (mF M jx + i))) ∧ ∀ l, l < i2 → M 22 (4 * (80 * jx + (mF M jx + i)) + l) = M 11 (4 * (mF M jx + i) + l)))), (6, .int (nI (i2)))] 71 [] := by
                intro n71
                induction n71 with
                | zero => intro i2 h1 h2; exact absurd h2 (by omega)
                | succ n71 ih71 =>
                  intro i2 hle71 hn71
                  refine z_iload B 6 dX7_audit_71 rfl ?_
                  refine z_aload_n B 0 dX7_audit_73 rfl rfl ?_
                  refine z_get (C := RX7) (T := TX7) (N := 30) (v := .ref (a 8)) B 0 8 5 fw_X7_audit_X7 rfl rfl (by decide) rfl rfl rfl dX7_audit_74 ?_
                  refine z_iload_n B 3 dX7_audit_77 rfl rfl ?_
                  refine z_iald (g := (M 8)) (i := mF M jx + i) B 5 0 rfl rfl (by omega) (by decide) dX7_audit_78 ?_
                  refine z_top (y := nI (mL M (mF M jx + i))) (MI_8 hI _) ?_
                  have := MI_b8 hI (mF M jx + i)
                  refine z_icmpN_ge B 135 dX7_audit_79 (by decide) (by omega) (by omega) (fun zc79 => ?_) (fun zc79 => ?_)
                  · obtain rfl : i2 = mL M (mF M jx + i) := by omega
                    refine z_iload_n B 2 dX7_audit_135 rfl rfl ?_
                    refine z_iload B 5 dX7_audit_136 rfl ?_
                    refine z_ifB_eq B 145 dX7_audit_138 (by decide) (fun zc138 => ?_) (fun zc138 => ?_)
                    · refine z_iconst (v := nI 1) B dX7_audit_145 (by decide) ?_
                      refine z_iaddN B dX7_audit_146 ?_
                      refine z_istore_n (lv1 := [(2, .int (nI (zcnt (fun q => ¬ pSm M jx (mF M jx + q)) i + 1))), (0, .ref (h)), (1, .int (nI (jx))), (3, .int (nI (mF M jx + i))), (4, .int (nI (1))), (5, .int (bI ((bI (M 12 (mF M jx + i) = 0) = M 21 (80 * jx + (mF M jx + i))) ∧ ∀ l, l < (mL M (mF M jx + i)) → M 22 (4 * (80 * jx + (mF M jx + i)) + l) = M 11 (4 * (mF M jx + i) + l)))), (6, .int (nI ((mL M (mF M jx + i)))))]) B dX7_audit_147 rfl (by decide) rfl ?_
                      refine z_iinc B 3 (lv1 := [(3, .int (nI (mF M jx + i + 1))), (2, .int (nI (zcnt (fun q => ¬ pSm M jx (mF M jx + q)) i + 1))), (0, .ref (h)), (1, .int (nI (jx))), (4, .int (nI (1))), (5, .int (bI ((bI (M 12 (mF M jx + i) = 0) = M 21 (80 * jx + (mF M jx + i))) ∧ ∀ l, l < (mL M (mF M jx + i)) → M 22 (4 * (80 * jx + (mF M jx + i)) + l) = M 11 (4 * (mF M jx + i) + l)))), (6, .int (nI ((mL M (mF M jx + i)))))]) dX7_audit_148 rfl (nI_1 _) (by decide) rfl ?_
                      refine z_goto B 19 dX7_audit_151 (by decide) ?_
                      refine z_loc [2, 3, 1, 0] (lv' := [(0, .ref (h)), (1, .int (nI (jx))), (2, .int (nI (zcnt (fun q => ¬ pSm M jx (mF M jx + q)) i + 1))), (3, .int (nI (mF M jx + i + 1)))]) rfl ?_
                      refine z_lvc (lv' := [(0, .ref (h)), (1, .int (nI (jx))), (2, .int (nI (zcnt (fun q => ¬ pSm M jx (mF M jx + q)) (i + 1)))), (3, .int (nI (mF M jx + (i + 1))))]) (by first | (have q : (bI (M 12 (mF M jx + i) = 0) = M 21 (80 * jx + (mF M jx + i))) ∧ ∀ l, l < mL M (mF M jx + i) → M 22 (4 * (80 * jx + (mF M jx + i)) + l) = M 11 (4 * (mF M jx + i) + l) := zc138; rw [← zcnt_n (P := fun q => ¬ pSm M jx (mF M jx + q)) (not_not_intro ⟨q.1, fun _ => q.2⟩)]; rfl) | (have q : ¬ ((bI (M 12 (mF M jx + i) = 0) = M 21 (80 * jx + (mF M jx + i))) ∧ ∀ l, l < mL M (mF M jx + i) → M 22 (4 * (80 * jx + (mF M jx + i)) + l) = M 11 (4 * (mF M jx + i) + l)) := zc138; have zq3 : M 12 (mF M jx + i) = 0 := zc35; rw [zcnt_y (P := fun q => ¬ pSm M jx (mF M jx + q)) (fun h => q ⟨h.1, h.2 zq3⟩)] <;> rfl) | (have zq3 : ¬ M 12 (mF M jx + i) = 0 := zc35; have q : nI 0 = M 21 (80 * jx + (mF M jx + i)) := zc58; rw [← zcnt_n (P := fun q => ¬ pSm M jx (mF M jx + q)) (not_not_intro ⟨(bI_f zq3).trans q, fun h => absurd h zq3⟩)]; rfl) | (have zq3 : ¬ M 12 (mF M jx + i) = 0 := zc35; have q : ¬ nI 0 = M 21 (80 * jx + (mF M jx + i)) := zc58; rw [zcnt_y (P := fun q => ¬ pSm M jx (mF M jx + q)) (fun h => q ((bI_f zq3).symm.trans h.1))] <;> rfl)) ?_
                      exact ih19 (i + 1) (by omega) (by omega)
                    · refine z_iconst (v := nI 0) B dX7_audit_141 (by decide) ?_
                      refine z_goto B 146 dX7_audit_142 (by decide) ?_
                      refine z_iaddN B dX7_audit_146 ?_
                      refine z_istore_n (lv1 := [(2, .int (nI (zcnt (fun q => ¬ pSm M jx (mF M jx + q)) i + 0))), (0, .ref (h)), (1, .int (nI (jx))), (3, .int (nI (mF M jx + i))), (4, .int (nI (1))), (5, .int (bI ((bI (M 12 (mF M jx + i) = 0) = M 21 (80 * jx + (mF M jx + i))) ∧ ∀ l, l < (mL M (mF M jx + i)) → M 22 (4 * (80 * jx + (mF M jx + i)) + l) = M 11 (4 * (mF M jx + i) + l)))), (6, .int (nI ((mL M (mF M jx + i)))))]) B dX7_audit_147 rfl (by decide) rfl ?_
                      refine z_iinc B 3 (lv1 := [(3, .int (nI (mF M jx + i + 1))), (2, .int (nI (zcnt (fun q => ¬ pSm M jx (mF M jx + q)) i + 0))), (0, .ref (h)), (1, .int (nI (jx))), (4, .int (nI (1))), (5, .int (bI ((bI (M 12 (mF M jx + i) = 0) = M 21 (80 * jx + (mF M jx + i))) ∧ ∀ l, l < (mL M (mF M jx + i)) → M 22 (4 * (80 * jx + (mF M jx + i)) + l) = M 11 (4 * (mF M jx + i) + l)))), (6, .int (nI ((mL M (mF M jx + i)))))]) dX7_audit_148 rfl (nI_1 _) (by decide) rfl ?_
                      refine z_goto B 19 dX7_audit_151 (by decide) ?_
                      refine z_loc [2, 3, 1, 0] (lv' := [(0, .ref (h)), (1, .int (nI (jx))), (2, .int (nI (zcnt (fun q => ¬ pSm M jx (mF M jx + q)) i + 0))), (3, .int (nI (mF M jx + i + 1)))]) rfl ?_
                      refine z_lvc (lv' := [(0, .ref (h)), (1, .int (nI (jx))), (2, .int (nI (zcnt (fun q => ¬ pSm M jx (mF M jx + q)) (i + 1)))), (3, .int (nI (mF M jx + (i + 1))))]) (by first | (have q : (bI (M 12 (mF M jx + i) = 0) = M 21 (80 * jx + (mF M jx + i))) ∧ ∀ l, l < mL M (mF M jx + i) → M 22 (4 * (80 * jx + (mF M jx + i)) + l) = M 11 (4 * (mF M jx + i) + l) := zc138; rw [← zcnt_n (P := fun q => ¬ pSm M jx (mF M jx + q)) (not_not_intro ⟨q.1, fun _ => q.2⟩)]; rfl) | (have q : ¬ ((bI (M 12 (mF M jx + i) = 0) = M 21 (80 * jx + (mF M jx + i))) ∧ ∀ l, l < mL M (mF M jx + i) → M 22 (4 * (80 * jx + (mF M jx + i)) + l) = M 11 (4 * (mF M jx + i) + l)) := zc138; have zq3 : M 12 (mF M jx + i) = 0 := zc35; rw [zcnt_y (P := fun q => ¬ pSm M jx (mF M jx + q)) (fun h => q ⟨h.1, h.2 zq3⟩)] <;> rfl) | (have zq3 : ¬ M 12 (mF M jx + i) = 0 := zc35; have q : nI 0 = M 21 (80 * jx + (mF M jx + i)) := zc58; rw [← zcnt_n (P := fun q => ¬ pSm M jx (mF M jx + q)) (not_not_intro ⟨(bI_f zq3).trans q, fun h => absurd h zq3⟩)]; rfl) | (have zq3 : ¬ M 12 (mF M jx + i) = 0 := zc35; have q : ¬ nI 0 = M 21 (80 * jx + (mF M jx + i)) := zc58; rw [zcnt_y (P := fun q => ¬ pSm M jx (mF M jx + q)) (fun h => q ((bI_f zq3).symm.trans h.1))] <;> rfl)) ?_
                      exact ih19 (i + 1) (by omega) (by omega)
                  · refine z_iload B 4 dX7_audit_82 rfl ?_
                    refine z_if_eq B 135 dX7_audit_84 (by decide) (fun h => absurd h (by decide)) (fun _ => ?_)
                    refine z_iload B 5 dX7_audit_87 rfl ?_
                    refine z_ifB_eq B 126 dX7_audit_89 (by decide) (fun zc89 => ?_) (fun zc89 => ?_)
                    · refine z_iconst (v := nI 0) B dX7_audit_126 (by decide) ?_
                      refine z_istore (lv1 := [(5, .int (nI (0))), (0, .ref (h)), (1, .int (nI (jx))), (2, .int (nI (zcnt (fun q => ¬ pSm M jx (mF M jx + q)) i))), (3, .int (nI (mF M jx + i))), (4, .int (nI (1))), (6, .int (nI (i2)))]) B dX7_audit_127 (by decide) rfl ?_
                      refine z_iinc B 6 (lv1 := [(6, .int (nI (i2 + 1))), (5, .int (nI (0))), (0, .ref (h)), (1, .int (nI (jx))), (2, .int (nI (zcnt (fun q => ¬ pSm M jx (mF M jx + q)) i))), (3, .int (nI (mF M jx + i))), (4, .int (nI (1)))]) dX7_audit_129 rfl (nI_1 _) (by decide) rfl ?_
                      refine z_goto B 71 dX7_audit_132 (by decide) ?_
                      refine z_loc [2, 3, 4, 5, 6, 1, 0] (lv' := [(0, .ref (h)), (1, .int (nI (jx))), (2, .int (nI (zcnt (fun q => ¬ pSm M jx (mF M jx + q)) i))), (3, .int (nI (mF M jx + i))), (4, .int (nI (1))), (5, .int (nI (0))), (6, .int (nI (i2 + 1)))]) rfl ?_
                      refine z_lvc (lv' := [(0, .ref (h)), (1, .int (nI (jx))), (2, .int (nI (zcnt (fun q => ¬ pSm M jx (mF M jx + q)) i))), (3, .int (nI (mF M jx + i))), (4, .int (nI (1))), (5, .int (bI ((bI (M 12 (mF M jx + i) = 0) = M 21 (80 * jx + (mF M jx + i))) ∧ ∀ l, l < (i2 + 1) → M 22 (4 * (80 * jx + (mF M jx + i)) + l) = M 11 (4 * (mF M jx + i) + l)))), (6, .int (nI ((i2 + 1))))]) (by first | (have q : (bI (M 12 (mF M jx + i) = 0) = M 21 (80 * jx + (mF M jx + i))) ∧ ∀ l, l < i2 → M 22 (4 * (80 * jx + (mF M jx + i)) + l) = M 11 (4 * (mF M jx + i) + l) := zc89; have zq1 : M 22 (4 * (80 * jx + (mF M jx + i)) + i2) = M 11 (4 * (mF M jx + i) + i2) := zc119; rw [bI_t (P := _ ∧ _) ⟨q.1, all_s.mpr ⟨q.2, zq1⟩⟩]; rfl) | (have q : ¬ ((bI (M 12 (mF M jx + i) = 0) = M 21 (80 * jx + (mF M jx + i))) ∧ ∀ l, l < i2 → M 22 (4 * (80 * jx + (mF M jx + i)) + l) = M 11 (4 * (mF M jx + i) + l)) := zc89; rw [bI_f (P := _ ∧ _) (fun h => q ⟨h.1, (all_s.mp h.2).1⟩)]; rfl) | (have zq1 : ¬ (M 22 (4 * (80 * jx + (mF M jx + i)) + i2) = M 11 (4 * (mF M jx + i) + i2)) := zc119; rw [bI_f (P := _ ∧ _) (fun h => zq1 (all_s.mp h.2).2)]; rfl)) ?_
                      exact ih71 (i2 + 1) (by omega) (by omega)
                    · refine z_aload_n B 0 dX7_audit_92 rfl rfl ?_
                      refine z_get (C := RX7) (T := TX7) (N := 30) (v := .ref (a 22)) B 0 22 6 fw_X7_audit_X7 rfl rfl (by decide) rfl rfl rfl dX7_audit_93 ?_
                      refine z_iconst (v := nI 4) B dX7_audit_96 (by decide) ?_
                      refine z_bipush (v := nI 80) B dX7_audit_97 (by decide) ?_
                      refine z_iload_n B 1 dX7_audit_99 rfl rfl ?_
                      refine z_imulN B dX7_audit_100 ?_
                      refine z_iload_n B 3 dX7_audit_101 rfl rfl ?_
                      refine z_iaddN B dX7_audit_102 ?_
                      refine z_imulN B dX7_audit_103 ?_
                      refine z_iload B 6 dX7_audit_104 rfl ?_
                      refine z_iaddN B dX7_audit_106 ?_
                      refine z_iald (g := (M 22)) (i := 4 * (80 * jx + (mF M jx + i)) + i2) B 18 0 rfl rfl (by omega) (by decide) dX7_audit_107 ?_
                      refine z_aload_n B 0 dX7_audit_108 rfl rfl ?_
                      refine z_get (C := RX7) (T := TX7) (N := 30) (v := .ref (a 11)) B 0 11 7 fw_X7_audit_X7 rfl rfl (by decide) rfl rfl rfl dX7_audit_109 ?_
                      refine z_iconst (v := nI 4) B dX7_audit_112 (by decide) ?_
                      refine z_iload_n B 3 dX7_audit_113 rfl rfl ?_
                      refine z_imulN B dX7_audit_114 ?_
                      refine z_iload B 6 dX7_audit_115 rfl ?_
                      refine z_iaddN B dX7_audit_117 ?_
                      refine z_iald (g := (M 11)) (i := 4 * (mF M jx + i) + i2) B 8 0 rfl rfl (by omega) (by decide) dX7_audit_118 ?_
                      refine z_icmp_ne B 126 dX7_audit_119 (by decide) (fun zc119 => ?_) (fun zc119 => ?_)
                      · refine z_iconst (v := nI 0) B dX7_audit_126 (by decide) ?_
                        refine z_istore (lv1 := [(5, .int (nI (0))), (0, .ref (h)), (1, .int (nI (jx))), (2, .int (nI (zcnt (fun q => ¬ pSm M jx (mF M jx + q)) i))), (3, .int (nI (mF M jx + i))), (4, .int (nI (1))), (6, .int (nI (i2)))]) B dX7_audit_127 (by decide) rfl ?_
                        refine z_iinc B 6 (lv1 := [(6, .int (nI (i2 + 1))), (5, .int (nI (0))), (0, .ref (h)), (1, .int (nI (jx))), (2, .int (nI (zcnt (fun q => ¬ pSm M jx (mF M jx + q)) i))), (3, .int (nI (mF M jx + i))), (4, .int (nI (1)))]) dX7_audit_129 rfl (nI_1 _) (by decide) rfl ?_
                        refine z_goto B 71 dX7_audit_132 (by decide) ?_
                        refine z_loc [2, 3, 4, 5, 6, 1, 0] (lv' := [(0, .ref (h)), (1, .int (nI (jx))), (2, .int (nI (zcnt (fun q => ¬ pSm M jx (mF M jx + q)) i))), (3, .int (nI (mF M jx + i))), (4, .int (nI (1))), (5, .int (nI (0))), (6, .int (nI (i2 + 1)))]) rfl ?_
                        refine z_lvc (lv' := [(0, .ref (h)), (1, .int (nI (jx))), (2, .int (nI (zcnt (fun q => ¬ pSm M jx (mF M jx + q)) i))), (3, .int (nI (mF M jx + i))), (4, .int (nI (1))), (5, .int (bI ((bI (M 12 (mF M jx + i) = 0) = M 21 (80 * jx + (mF M jx + i))) ∧ ∀ l, l < (i2 + 1) → M 22 (4 * (80 * jx + (mF M jx + i)) + l) = M 11 (4 * (mF M jx + i) + l)))), (6, .int (nI ((i2 + 1))))]) (by first | (have q : (bI (M 12 (mF M jx + i) = 0) = M 21 (80 * jx + (mF M jx + i))) ∧ ∀ l, l < i2 → M 22 (4 * (80 * jx + (mF M jx + i)) + l) = M 11 (4 * (mF M jx + i) + l) := zc89; have zq1 : M 22 (4 * (80 * jx + (mF M jx + i)) + i2) = M 11 (4 * (mF M jx + i) + i2) := zc119; rw [bI_t (P := _ ∧ _) ⟨q.1, all_s.mpr ⟨q.2, zq1⟩⟩]; rfl) | (have q : ¬ ((bI (M 12 (mF M jx + i) = 0) = M 21 (80 * jx + (mF M jx + i))) ∧ ∀ l, l < i2 → M 22 (4 * (80 * jx + (mF M jx + i)) + l) = M 11 (4 * (mF M jx + i) + l)) := zc89; rw [bI_f (P := _ ∧ _) (fun h => q ⟨h.1, (all_s.mp h.2).1⟩)]; rfl) | (have zq1 : ¬ (M 22 (4 * (80 * jx + (mF M jx + i)) + i2) = M 11 (4 * (mF M jx + i) + i2)) := zc119; rw [bI_f (P := _ ∧ _) (fun h => zq1 (all_s.mp h.2).2)]; rfl)) ?_
                        exact ih71 (i2 + 1) (by omega) (by omega)
                      · refine z_iconst (v := nI 1) B dX7_audit_122 (by decide) ?_
                        refine z_goto B 127 dX7_audit_123 (by decide) ?_
                        refine z_istore (lv1 := [(5, .int (nI (1))), (0, .ref (h)), (1, .int (nI (jx))), (2, .int (nI (zcnt (fun q => ¬ pSm M jx (mF M jx + q)) i))), (3, .int (nI (mF M jx + i))), (4, .int (nI (1))), (6, .int (nI (i2)))]) B dX7_audit_127 (by decide) rfl ?_
                        refine z_iinc B 6 (lv1 := [(6, .int (nI (i2 + 1))), (5, .int (nI (1))), (0, .ref (h)), (1, .int (nI (jx))), (2, .int (nI (zcnt (fun q => ¬ pSm M jx (mF M jx + q)) i))), (3, .int (nI (mF M jx + i))), (4, .int (nI (1)))]) dX7_audit_129 rfl (nI_1 _) (by decide) rfl ?_
                        refine z_goto B 71 dX7_audit_132 (by decide) ?_
                        refine z_loc [2, 3, 4, 5, 6, 1, 0] (lv' := [(0, .ref (h)), (1, .int (nI (jx))), (2, .int (nI (zcnt (fun q => ¬ pSm M jx (mF M jx + q)) i))), (3, .int (nI (mF M jx + i))), (4, .int (nI (1))), (5, .int (nI (1))), (6, .int (nI (i2 + 1)))]) rfl ?_
                        refine z_lvc (lv' := [(0, .ref (h)), (1, .int (nI (jx))), (2, .int (nI (zcnt (fun q => ¬ pSm M jx (mF M jx + q)) i))), (3, .int (nI (mF M jx + i))), (4, .int (nI (1))), (5, .int (bI ((bI (M 12 (mF M jx + i) = 0) = M 21 (80 * jx + (mF M jx + i))) ∧ ∀ l, l < (i2 + 1) → M 22 (4 * (80 * jx + (mF M jx + i)) + l) = M 11 (4 * (mF M jx + i) + l)))), (6, .int (nI ((i2 + 1))))]) (by first | (have q : (bI (M 12 (mF M jx + i) = 0) = M 21 (80 * jx + (mF M jx + i))) ∧ ∀ l, l < i2 → M 22 (4 * (80 * jx + (mF M jx + i)) + l) = M 11 (4 * (mF M jx + i) + l) := zc89; have zq1 : M 22 (4 * (80 * jx + (mF M jx + i)) + i2) = M 11 (4 * (mF M jx + i) + i2) := zc119; rw [bI_t (P := _ ∧ _) ⟨q.1, all_s.mpr ⟨q.2, zq1⟩⟩]; rfl) | (have q : ¬ ((bI (M 12 (mF M jx + i) = 0) = M 21 (80 * jx + (mF M jx + i))) ∧ ∀ l, l < i2 → M 22 (4 * (80 * jx + (mF M jx + i)) + l) = M 11 (4 * (mF M jx + i) + l)) := zc89; rw [bI_f (P := _ ∧ _) (fun h => q ⟨h.1, (all_s.mp h.2).1⟩)]; rfl) | (have zq1 : ¬ (M 22 (4 * (80 * jx + (mF M jx + i)) + i2) = M 11 (4 * (mF M jx + i) + i2)) := zc119; rw [bI_f (P := _ ∧ _) (fun h => zq1 (all_s.mp h.2).2)]; rfl)) ?_
                        exact ih71 (i2 + 1) (by omega) (by omega)
              refine z_loc [3, 4, 5, 6, 2, 1, 0] (lv' := [(0, .ref (h)), (1, .int (nI (jx))), (2, .int (nI (zcnt (fun q => ¬ pSm M jx (mF M jx + q)) i))), (3, .int (nI (mF M jx + i))), (4, .int (nI (1))), (5, .int (nI (1))), (6, .int (nI (0)))]) rfl ?_
              refine z_lvc (lv' := [(0, .ref (h)), (1, .int (nI (jx))), (2, .int (nI (zcnt (fun q => ¬ pSm M jx (mF M jx + q)) i))), (3, .int (nI (mF M jx + i))), (4, .int (nI (1))), (5, .int (bI ((bI (M 12 (mF M jx + i) = 0) = M 21 (80 * jx + (mF M jx + i))) ∧ ∀ l, l < 0 → M 22 (4 * (80 * jx + (mF M jx + i)) + l) = M 11 (4 * (mF M jx + i) + l)))), (6, .int (nI (0)))]) (by first | (have q : nI 1 = M 21 (80 * jx + (mF M jx + i)) := zc58; rw [bI_t (P := _ ∧ _) ⟨(bI_t zc35).trans q, all_0.mpr trivial⟩]; rfl) | (have q : ¬ nI 1 = M 21 (80 * jx + (mF M jx + i)) := zc58; rw [bI_f (P := _ ∧ _) (fun h => q ((bI_t zc35).symm.trans h.1))]; rfl)) ?_
              exact loop71 (mL M (mF M jx + i) + 1) 0 (by omega) (by omega)
    refine z_loc [2, 3, 1, 0] (lv' := [(0, .ref (h)), (1, .int (nI (jx))), (2, .int (nI (0))), (3, .int (nI (mF M jx)))]) rfl ?_
    refine z_lvc (lv' := [(0, .ref (h)), (1, .int (nI (jx))), (2, .int (nI (zcnt (fun q => ¬ pSm M jx (mF M jx + q)) 0))), (3, .int (nI (mF M jx + 0)))]) (by rfl) ?_
    exact loop19 (mE M jx - mF M jx + 1) 0 (by omega) (by omega)
  · obtain ⟨rfl, rfl⟩ := hq.1 kk2_0
    refine z_if_eq B 10 dX7_audit_5 (by decide) (fun h => absurd h (by decide)) (fun _ => ?_)
    refine z_iconst (v := nI 0) B dX7_audit_8 (by decide) ?_
    subst hQ
    exact z_mret B hAe hr dX7_audit_9 rfl (by decide) (by decide) (by refine ⟨_, rfl, ?_⟩; refine ⟨?_, ?_⟩ <;> intros <;> first | contradiction | rfl | exact ⟨rfl, rfl⟩ | omega  | exact ⟨bI_1 (by assumption), rfl⟩ | exact ⟨bI_z (by assumption), rfl⟩)
theorem fw_X7_isOpen_X7 : zF wsX7_isOpen RX7 TX7 30 := fun _ h => List.mem_cons_of_mem _ (List.mem_append_right _ (h))
set_option maxHeartbeats 4000000 in
set_option maxRecDepth 100000 in
theorem c7_isOpen (l : Launch) (D : va_G) (g : zG) (h : Nat) (a : Nat → Nat) (M : zMS) (hI : MI M) (x : Int32) : zMutI l yX7_isOpen wsX7_isOpen { frames := 3, cells := 0, slots := 0, locals := 64 } D (zT g) (wM g h a M) [.ref h, .int (x)] (fun r w' => ∃ M', w' = wM g h a M' ∧ (¬ rng x (mK M) → M' = up2 M 0 0 (nI 1)) ∧ (rng x (mK M) → r = bI (M 24 (nN x) = 0) ∧ M' = up2 M 0 0 (nI 0))) 0 0 := by
  refine zMutI_of (cc := cX7_isOpen) (maxL := 2) (ret := (some .boolean)) (own := RX7) [(0, .ref (h)), (1, .int (x))] (by decide) rfl rfl rfl (Nat.le_of_ble_eq_true rfl) ?_
  intro X A hAe hl B hr hin
  obtain ⟨b5, b2, b15, b23, b25, b1⟩ := MI_bs hI
  refine z_aload_n B 0 dX7_isOpen_0 rfl rfl ?_
  refine z_iload_n B 1 dX7_isOpen_1 rfl rfl ?_
  refine z_callM (As := [.int (x)]) (st := []) (C := RX7) (T := TX7) (N := 30) (ci := 7) (l := l) B hl (c7_noCase l D g h a M hI x) gX7_isOpen_X7_noCase rfl ⟨rfl, rfl⟩ nm_X7_noCase ⟨by decide, by decide⟩ 0 rfl rfl rfl (Nat.le_of_ble_eq_true rfl) dX7_isOpen_2 rfl rfl (by decide) (by decide) (fun r w1 hr => ?_)
  obtain ⟨M1, rfl, hq⟩ := hr
  by_cases kk2_0 : rng x (mK M)
  · have kd2_0 := kk2_0
    have kkk2_0 := kk2_0
    obtain ⟨jx, hjx, rfl⟩ := kk2_0
    obtain ⟨rfl, rfl⟩ := hq.2 kd2_0
    refine z_if_ne B 21 dX7_isOpen_5 (by decide) (fun h => absurd h (by decide)) (fun _ => ?_)
    refine z_aload_n B 0 dX7_isOpen_8 rfl rfl ?_
    refine z_get (C := RX7) (T := TX7) (N := 30) (v := .ref (a 24)) B 0 24 1 fw_X7_isOpen_X7 rfl rfl (by decide) rfl rfl rfl dX7_isOpen_9 ?_
    refine z_iload_n B 1 dX7_isOpen_12 rfl rfl ?_
    refine z_zald (g := (M 24)) (i := jx) B 19 1 rfl rfl (by omega) (by decide) dX7_isOpen_13 ?_
    refine z_if_ne B 21 dX7_isOpen_14 (by decide) (fun zc14 => ?_) (fun zc14 => ?_)
    · refine z_iconst (v := nI 0) B dX7_isOpen_21 (by decide) ?_
      exact z_mret B hAe hr dX7_isOpen_22 (nar_b (Or.inl rfl)) (by decide) (by decide) (by refine ⟨_, rfl, ?_⟩; rw [nN_nI (show jx < 2 ^ 31 by omega)]; refine ⟨?_, ?_⟩ <;> intros <;> first | contradiction | rfl | exact ⟨rfl, rfl⟩ | omega  | exact ⟨bI_1 (by assumption), rfl⟩ | exact ⟨bI_z (by assumption), rfl⟩)
    · refine z_iconst (v := nI 1) B dX7_isOpen_17 (by decide) ?_
      refine z_goto B 22 dX7_isOpen_18 (by decide) ?_
      exact z_mret B hAe hr dX7_isOpen_22 (nar_b (Or.inr rfl)) (by decide) (by decide) (by refine ⟨_, rfl, ?_⟩; rw [nN_nI (show jx < 2 ^ 31 by omega)]; refine ⟨?_, ?_⟩ <;> intros <;> first | contradiction | rfl | exact ⟨rfl, rfl⟩ | omega  | exact ⟨bI_1 (by assumption), rfl⟩ | exact ⟨bI_z (by assumption), rfl⟩)
  · obtain ⟨rfl, rfl⟩ := hq.1 kk2_0
    refine z_if_ne B 21 dX7_isOpen_5 (by decide) (fun _ => ?_) (fun h => absurd h (by decide))
    refine z_iconst (v := nI 0) B dX7_isOpen_21 (by decide) ?_
    exact z_mret B hAe hr dX7_isOpen_22 (nar_b (Or.inl rfl)) (by decide) (by decide) (by refine ⟨_, rfl, ?_⟩; refine ⟨?_, ?_⟩ <;> intros <;> first | contradiction | rfl | exact ⟨rfl, rfl⟩ | omega  | exact ⟨bI_1 (by assumption), rfl⟩ | exact ⟨bI_z (by assumption), rfl⟩)
set_option maxHeartbeats 4000000 in
set_option maxRecDepth 100000 in
theorem c7_holders (l : Launch) (D : va_G) (g : zG) (h : Nat) (a : Nat → Nat) (M : zMS) (hI : MI M) (x : Int32) : zMutI l yX7_holders wsX7_holders { frames := 3, cells := 0, slots := 0, locals := 70 } D (zT g) (wM g h a M) [.ref h, .int (x)] (fun r w' => ∃ M', w' = wM g h a M' ∧ (¬ rng x (mP M) → M' = up2 M 0 0 (nI 1)) ∧ (rng x (mP M) → r = hS M (nN x) ∧ M' = up2 M 0 0 (nI 0))) 0 0 := by
  refine zMutI_of (cc := cX7_holders) (maxL := 2) (ret := (some .int)) (own := RX7) [(0, .ref (h)), (1, .int (x))] (by decide) rfl rfl rfl (Nat.le_of_ble_eq_true rfl) ?_
  intro X A hAe hl B hr hin
  obtain ⟨b5, b2, b15, b23, b25, b1⟩ := MI_bs hI
  refine z_aload_n B 0 dX7_holders_0 rfl rfl ?_
  refine z_iload_n B 1 dX7_holders_1 rfl rfl ?_
  refine z_callM (As := [.int (x)]) (st := []) (C := RX7) (T := TX7) (N := 30) (ci := 7) (l := l) B hl (c7_noPage l D g h a M hI x) gX7_holders_X7_noPage rfl ⟨rfl, rfl⟩ nm_X7_noPage ⟨by decide, by decide⟩ 0 rfl rfl rfl (Nat.le_of_ble_eq_true rfl) dX7_holders_2 rfl rfl (by decide) (by decide) (fun r w1 hr => ?_)
  obtain ⟨M1, rfl, hq⟩ := hr
  by_cases kk2_0 : rng x (mP M)
  · have kd2_0 := kk2_0
    have kkk2_0 := kk2_0
    obtain ⟨jx, hjx, rfl⟩ := kk2_0
    obtain ⟨rfl, rfl⟩ := hq.2 kd2_0
    refine z_if_eq B 12 dX7_holders_5 (by decide) (fun _ => ?_) (fun h => absurd h (by decide))
    refine z_aload_n B 0 dX7_holders_12 rfl rfl ?_
    refine z_iload_n B 1 dX7_holders_13 rfl rfl ?_
    refine z_callP (As := [.int (nI (jx))]) (st := []) (C := RX7) (T := TX7) (N := 30) (ci := 7) (l := l) B hl (c7_holdersOf l D g h a (up2 M 0 0 (nI 0)) (MI_up0 hI) jx (by omega)) gX7_holders_X7_holdersOf rfl ⟨rfl, rfl⟩ nm_X7_holdersOf ⟨by decide, by decide⟩ (fun _ h => h) 0 rfl rfl rfl (Nat.le_of_ble_eq_true rfl) dX7_holders_14 (Nat.zero_le _) (Nat.zero_le _) (fun r hr => ?_)
    change r = hS M jx at hr
    subst hr
    exact z_mret B hAe hr dX7_holders_17 rfl (by decide) (by decide) (by refine ⟨_, rfl, ?_⟩; rw [nN_nI (show jx < 2 ^ 31 by omega)]; refine ⟨?_, ?_⟩ <;> intros <;> first | contradiction | rfl | exact ⟨rfl, rfl⟩ | omega  | exact ⟨bI_1 (by assumption), rfl⟩ | exact ⟨bI_z (by assumption), rfl⟩)
  · obtain ⟨rfl, rfl⟩ := hq.1 kk2_0
    refine z_if_eq B 12 dX7_holders_5 (by decide) (fun h => absurd h (by decide)) (fun _ => ?_)
    refine z_iconst (v := nI 0) B dX7_holders_8 (by decide) ?_
    refine z_goto B 17 dX7_holders_9 (by decide) ?_
    exact z_mret B hAe hr dX7_holders_17 rfl (by decide) (by decide) (by refine ⟨_, rfl, ?_⟩; refine ⟨?_, ?_⟩ <;> intros <;> first | contradiction | rfl | exact ⟨rfl, rfl⟩ | omega  | exact ⟨bI_1 (by assumption), rfl⟩ | exact ⟨bI_z (by assumption), rfl⟩)
set_option maxHeartbeats 4000000 in
set_option maxRecDepth 100000 in
theorem c7_canStrike (l : Launch) (D : va_G) (g : zG) (h : Nat) (a : Nat → Nat) (M : zMS) (hI : MI M) (x : Int32) (y : Int32) : zMutI l yX7_canStrike wsX7_canStrike { frames := 4, cells := 0, slots := 0, locals := 92 } D (zT g) (wM g h a M) [.ref h, .int (x), .int (y)] (fun r w' => ∃ M', w' = wM g h a M' ∧ (¬ rng x (mK M) → M' = up2 M 0 0 (nI 1)) ∧ (rng x (mK M) → ¬ rng y (mP M) → M' = up2 M 0 0 (nI 1)) ∧ (rng x (mK M) → rng y (mP M) → r = bI (pMay M (nN x) (nN y)) ∧ M' = up2 M 0 0 (nI 0))) 0 0 := by
  refine zMutI_of (cc := cX7_canStrike) (maxL := 4) (ret := (some .boolean)) (own := RX7) [(0, .ref (h)), (1, .int (x)), (2, .int (y))] (by decide) rfl rfl rfl (Nat.le_of_ble_eq_true rfl) ?_
  intro X A hAe hl B hr hin
  obtain ⟨b5, b2, b15, b23, b25, b1⟩ := MI_bs hI
  refine z_aload_n B 0 dX7_canStrike_0 rfl rfl ?_
  refine z_iload_n B 1 dX7_canStrike_1 rfl rfl ?_
  refine z_callP (As := [.int (x)]) (st := []) (C := RX7) (T := TX7) (N := 30) (ci := 7) (l := l) B hl (c7_isCase l D g h a M hI x) gX7_canStrike_X7_isCase rfl ⟨rfl, rfl⟩ nm_X7_isCase ⟨by decide, by decide⟩ (fun _ h => h) 0 rfl rfl rfl (Nat.le_of_ble_eq_true rfl) dX7_canStrike_2 (Nat.zero_le _) (Nat.zero_le _) (fun r hr => ?_)
  subst hr
  refine z_ifB_eq B 20 dX7_canStrike_5 (by decide) (fun zc5 => ?_) (fun zc5 => ?_)
  · refine z_iconst (v := nI 0) B dX7_canStrike_20 (by decide) ?_
    refine z_istore_n (lv1 := [(3, .int (nI (0))), (0, .ref (h)), (1, .int (x)), (2, .int (y))]) B dX7_canStrike_21 rfl (by decide) rfl ?_
    refine z_aload_n B 1 dX7_canStrike_22 rfl rfl ?_
    refine z_iload_n B 0 dX7_canStrike_23 rfl rfl ?_
    refine z_if_eq B 31 dX7_canStrike_24 (by decide) (fun _ => ?_) (fun h => absurd h (by decide))
    refine z_iconst (v := nI 1) B dX7_canStrike_31 (by decide) ?_
    refine z_callM (As := [.int (nI (1))]) (st := []) (C := RX7) (T := TX7) (N := 30) (ci := 7) (l := l) B hl (c7_refused l D g h a M (nI (1))) gX7_canStrike_X7_refused rfl ⟨rfl, rfl⟩ nm_X7_refused ⟨by decide, by decide⟩ 0 rfl rfl rfl (Nat.le_of_ble_eq_true rfl) dX7_canStrike_32 rfl rfl (by decide) (by decide) (fun r w1 hr => ?_)
    obtain ⟨hr1, rfl⟩ := hr
    rw [bI_t (show ¬ nI (1) = 0 by decide)] at hr1
    obtain rfl : r = nI 1 := hr1
    refine z_if_ne B 51 dX7_canStrike_35 (by decide) (fun _ => ?_) (fun h => absurd h (by decide))
    refine z_iconst (v := nI 0) B dX7_canStrike_51 (by decide) ?_
    exact z_mret B hAe hr dX7_canStrike_52 (nar_b (Or.inl rfl)) (by decide) (by decide) (by refine ⟨_, rfl, ?_⟩; refine ⟨?_, ?_, ?_⟩ <;> intros <;> first | contradiction | rfl | exact ⟨rfl, rfl⟩ | omega  | exact ⟨bI_1 (by assumption), rfl⟩ | exact ⟨bI_z (by assumption), rfl⟩)
  · have zkc5 := zc5
    obtain ⟨jx, hjx, rfl⟩ := zc5
    refine z_aload_n B 0 dX7_canStrike_8 rfl rfl ?_
    refine z_iload_n B 2 dX7_canStrike_9 rfl rfl ?_
    refine z_callP (As := [.int (y)]) (st := []) (C := RX7) (T := TX7) (N := 30) (ci := 7) (l := l) B hl (c7_isPage l D g h a M hI y) gX7_canStrike_X7_isPage rfl ⟨rfl, rfl⟩ nm_X7_isPage ⟨by decide, by decide⟩ (fun _ h => h) 0 rfl rfl rfl (Nat.le_of_ble_eq_true rfl) dX7_canStrike_10 (Nat.zero_le _) (Nat.zero_le _) (fun r hr => ?_)
    subst hr
    refine z_ifB_eq B 20 dX7_canStrike_13 (by decide) (fun zc13 => ?_) (fun zc13 => ?_)
    · refine z_iconst (v := nI 0) B dX7_canStrike_20 (by decide) ?_
      refine z_istore_n (lv1 := [(3, .int (nI (0))), (0, .ref (h)), (1, .int (nI (jx))), (2, .int (y))]) B dX7_canStrike_21 rfl (by decide) rfl ?_
      refine z_aload_n B 1 dX7_canStrike_22 rfl rfl ?_
      refine z_iload_n B 0 dX7_canStrike_23 rfl rfl ?_
      refine z_if_eq B 31 dX7_canStrike_24 (by decide) (fun _ => ?_) (fun h => absurd h (by decide))
      refine z_iconst (v := nI 1) B dX7_canStrike_31 (by decide) ?_
      refine z_callM (As := [.int (nI (1))]) (st := []) (C := RX7) (T := TX7) (N := 30) (ci := 7) (l := l) B hl (c7_refused l D g h a M (nI (1))) gX7_canStrike_X7_refused rfl ⟨rfl, rfl⟩ nm_X7_refused ⟨by decide, by decide⟩ 0 rfl rfl rfl (Nat.le_of_ble_eq_true rfl) dX7_canStrike_32 rfl rfl (by decide) (by decide) (fun r w1 hr => ?_)
      obtain ⟨hr1, rfl⟩ := hr
      rw [bI_t (show ¬ nI (1) = 0 by decide)] at hr1
      obtain rfl : r = nI 1 := hr1
      refine z_if_ne B 51 dX7_canStrike_35 (by decide) (fun _ => ?_) (fun h => absurd h (by decide))
      refine z_iconst (v := nI 0) B dX7_canStrike_51 (by decide) ?_
      exact z_mret B hAe hr dX7_canStrike_52 (nar_b (Or.inl rfl)) (by decide) (by decide) (by refine ⟨_, rfl, ?_⟩; rw [nN_nI (show jx < 2 ^ 31 by omega)]; refine ⟨?_, ?_, ?_⟩ <;> intros <;> first | contradiction | rfl | exact ⟨rfl, rfl⟩ | omega  | exact ⟨bI_1 (by assumption), rfl⟩ | exact ⟨bI_z (by assumption), rfl⟩)
    · have zkc13 := zc13
      obtain ⟨jy, hjy, rfl⟩ := zc13
      refine z_iconst (v := nI 1) B dX7_canStrike_16 (by decide) ?_
      refine z_goto B 21 dX7_canStrike_17 (by decide) ?_
      refine z_istore_n (lv1 := [(3, .int (nI (1))), (0, .ref (h)), (1, .int (nI (jx))), (2, .int (nI (jy)))]) B dX7_canStrike_21 rfl (by decide) rfl ?_
      refine z_aload_n B 1 dX7_canStrike_22 rfl rfl ?_
      refine z_iload_n B 0 dX7_canStrike_23 rfl rfl ?_
      refine z_if_eq B 31 dX7_canStrike_24 (by decide) (fun h => absurd h (by decide)) (fun _ => ?_)
      refine z_iconst (v := nI 0) B dX7_canStrike_27 (by decide) ?_
      refine z_goto B 32 dX7_canStrike_28 (by decide) ?_
      refine z_callM (As := [.int (nI (0))]) (st := []) (C := RX7) (T := TX7) (N := 30) (ci := 7) (l := l) B hl (c7_refused l D g h a M (nI (0))) gX7_canStrike_X7_refused rfl ⟨rfl, rfl⟩ nm_X7_refused ⟨by decide, by decide⟩ 0 rfl rfl rfl (Nat.le_of_ble_eq_true rfl) dX7_canStrike_32 rfl rfl (by decide) (by decide) (fun r w1 hr => ?_)
      obtain ⟨hr1, rfl⟩ := hr
      rw [bI_f (show ¬ ¬ nI (0) = 0 by decide)] at hr1
      obtain rfl : r = nI 0 := hr1
      refine z_if_ne B 51 dX7_canStrike_35 (by decide) (fun h => absurd h (by decide)) (fun _ => ?_)
      refine z_aload_n B 1 dX7_canStrike_38 rfl rfl ?_
      refine z_iload_n B 2 dX7_canStrike_39 rfl rfl ?_
      refine z_iload_n B 3 dX7_canStrike_40 rfl rfl ?_
      refine z_callP (As := [.int (nI (jx)), .int (nI (jy))]) (st := []) (C := RX7) (T := TX7) (N := 30) (ci := 7) (l := l) B hl (c7_may l D g h a (up2 M 0 0 (nI (0))) (MI_up0 hI) jx (by omega) jy (by omega)) gX7_canStrike_X7_may rfl ⟨rfl, rfl⟩ nm_X7_may ⟨by decide, by decide⟩ (fun _ h => h) 0 rfl rfl rfl (Nat.le_of_ble_eq_true rfl) dX7_canStrike_41 (Nat.zero_le _) (Nat.zero_le _) (fun r hr => ?_)
      change r = bI (pMay M jx jy) at hr
      subst hr
      refine z_ifB_eq B 51 dX7_canStrike_44 (by decide) (fun zc44 => ?_) (fun zc44 => ?_)
      · refine z_iconst (v := nI 0) B dX7_canStrike_51 (by decide) ?_
        exact z_mret B hAe hr dX7_canStrike_52 (nar_b (Or.inl rfl)) (by decide) (by decide) (by refine ⟨_, rfl, ?_⟩; rw [nN_nI (show jx < 2 ^ 31 by omega)]; rw [nN_nI (show jy < 2 ^ 31 by omega)]; refine ⟨?_, ?_, ?_⟩ <;> intros <;> first | contradiction | rfl | exact ⟨rfl, rfl⟩ | omega  | exact ⟨bI_1 (by assumption), rfl⟩ | exact ⟨bI_z (by assumption), rfl⟩)
      · refine z_iconst (v := nI 1) B dX7_canStrike_47 (by decide) ?_
        refine z_goto B 52 dX7_canStrike_48 (by decide) ?_
        exact z_mret B hAe hr dX7_canStrike_52 (nar_b (Or.inr rfl)) (by decide) (by decide) (by refine ⟨_, rfl, ?_⟩; rw [nN_nI (show jx < 2 ^ 31 by omega)]; rw [nN_nI (show jy < 2 ^ 31 by omega)]; refine ⟨?_, ?_, ?_⟩ <;> intros <;> first | contradiction | rfl | exact ⟨rfl, rfl⟩ | omega  | exact ⟨bI_1 (by assumption), rfl⟩ | exact ⟨bI_z (by assumption), rfl⟩)
