theorem fw_X7_leg_X7 : zF wsX7_leg RX7 TX7 30 := fun _ h => List.mem_cons_of_mem _ (List.mem_append_right _ (h))
set_option maxHeartbeats 4000000 in
set_option maxRecDepth 100000 in
theorem c7_leg (l : Launch) (D : va_G) (g : zG) (h : Nat) (a : Nat → Nat) (M : zMS) (hI : MI M) (x : Int32) (y : Int32) : zMutI l yX7_leg wsX7_leg { frames := 2, cells := 0, slots := 0, locals := 42 } D (zT g) (wM g h a M) [.ref h, .int (x), .int (y)] (fun r w' => ∃ M', w' = wM g h a M' ∧ (¬ rng x 8 → M' = up2 M 0 0 (nI 1)) ∧ (rng x 8 → ¬ ((-10000) ≤ y ∧ y ≤ nI (10000)) → M' = up2 M 0 0 (nI 2)) ∧ (rng x 8 → ((-10000) ≤ y ∧ y ≤ nI (10000)) → y = 0 → M' = up2 M 0 0 (nI 2)) ∧ (rng x 8 → ((-10000) ≤ y ∧ y ≤ nI (10000)) → ¬ y = 0 → mD M = 4 → M' = up2 M 0 0 (nI 3)) ∧ (rng x 8 → ((-10000) ≤ y ∧ y ≤ nI (10000)) → ¬ y = 0 → mD M ≠ 4 → r = nI (mD M + 1) ∧ M' = lgM M x y)) 0 0 := by
  refine zMutI_of (cc := cX7_leg) (maxL := 4) (ret := (some .int)) (own := RX7) [(0, .ref (h)), (1, .int (x)), (2, .int (y))] (by decide) rfl rfl rfl (Nat.le_of_ble_eq_true rfl) ?_
  intro X A hAe hl B hr hin
  obtain ⟨b5, b2, b15, b23, b25, b1⟩ := MI_bs hI
  refine z_iload_n B 2 dX7_leg_0 rfl rfl ?_
  refine z_sipush (v := (-10000)) B dX7_leg_1 (by decide) ?_
  refine z_sipush (v := nI 10000) B dX7_leg_4 (by decide) ?_
  refine z_callS (As := [.int (y), .int ((-10000)), .int (nI (10000))]) (st := []) (l := l) B hl (c7_in l D g h a M y (-10000) (nI (10000))) gX7_leg_X7_in rfl ⟨rfl, rfl⟩ nm_X7_in ⟨by decide, by decide⟩ (fun _ h => h) rfl (Nat.le_of_ble_eq_true rfl) dX7_leg_7 (Nat.zero_le _) (Nat.zero_le _) (fun r hr => ?_)
  subst hr
  refine z_ifB_eq B 21 dX7_leg_10 (by decide) (fun zc10 => ?_) (fun zc10 => ?_)
  · refine z_iconst (v := nI 0) B dX7_leg_21 (by decide) ?_
    refine z_istore_n (lv1 := [(3, .int (nI (0))), (0, .ref (h)), (1, .int (x)), (2, .int (y))]) B dX7_leg_22 rfl (by decide) rfl ?_
    refine z_aload_n B 1 dX7_leg_23 rfl rfl ?_
    refine z_iload_n B 2 dX7_leg_24 rfl rfl ?_
    refine z_callS (As := [.int (x)]) (st := [.ref (h)]) (l := l) B hl (c7_isAccount l D g h a M x) gX7_leg_X7_isAccount rfl ⟨rfl, rfl⟩ nm_X7_isAccount ⟨by decide, by decide⟩ (fun _ h => h) rfl (Nat.le_of_ble_eq_true rfl) dX7_leg_25 (Nat.zero_le _) (Nat.zero_le _) (fun r hr => ?_)
    subst hr
    refine z_ifB_ne B 35 dX7_leg_28 (by decide) (fun zc28 => ?_) (fun zc28 => ?_)
    · have zkc28 := zc28
      obtain ⟨jx, hjx, rfl⟩ := zc28
      refine z_iload_n B 0 dX7_leg_35 rfl rfl ?_
      refine z_if_ne B 43 dX7_leg_36 (by decide) (fun h => absurd h (by decide)) (fun _ => ?_)
      refine z_iconst (v := nI 2) B dX7_leg_39 (by decide) ?_
      refine z_goto B 56 dX7_leg_40 (by decide) ?_
      refine z_callM (As := [.int (nI (2))]) (st := []) (C := RX7) (T := TX7) (N := 30) (ci := 7) (l := l) B hl (c7_refused l D g h a M (nI (2))) gX7_leg_X7_refused rfl ⟨rfl, rfl⟩ nm_X7_refused ⟨by decide, by decide⟩ 0 rfl rfl rfl (Nat.le_of_ble_eq_true rfl) dX7_leg_56 rfl rfl (by decide) (by decide) (fun r w1 hr => ?_)
      obtain ⟨hr1, rfl⟩ := hr
      rw [bI_t (show ¬ nI (2) = 0 by decide)] at hr1
      obtain rfl : r = nI 1 := hr1
      refine z_if_eq B 64 dX7_leg_59 (by decide) (fun h => absurd h (by decide)) (fun _ => ?_)
      refine z_iconst (v := nI 0) B dX7_leg_62 (by decide) ?_
      exact z_mret B hAe hr dX7_leg_63 rfl (by decide) (by decide) (by refine ⟨_, rfl, ?_⟩; refine ⟨?_, ?_, ?_, ?_, ?_⟩ <;> intros <;> first | contradiction | rfl | exact ⟨rfl, rfl⟩ | omega  | exact ⟨bI_1 (by assumption), rfl⟩ | exact ⟨bI_z (by assumption), rfl⟩)
    · refine z_iconst (v := nI 1) B dX7_leg_31 (by decide) ?_
      refine z_goto B 56 dX7_leg_32 (by decide) ?_
      refine z_callM (As := [.int (nI (1))]) (st := []) (C := RX7) (T := TX7) (N := 30) (ci := 7) (l := l) B hl (c7_refused l D g h a M (nI (1))) gX7_leg_X7_refused rfl ⟨rfl, rfl⟩ nm_X7_refused ⟨by decide, by decide⟩ 0 rfl rfl rfl (Nat.le_of_ble_eq_true rfl) dX7_leg_56 rfl rfl (by decide) (by decide) (fun r w1 hr => ?_)
      obtain ⟨hr1, rfl⟩ := hr
      rw [bI_t (show ¬ nI (1) = 0 by decide)] at hr1
      obtain rfl : r = nI 1 := hr1
      refine z_if_eq B 64 dX7_leg_59 (by decide) (fun h => absurd h (by decide)) (fun _ => ?_)
      refine z_iconst (v := nI 0) B dX7_leg_62 (by decide) ?_
      exact z_mret B hAe hr dX7_leg_63 rfl (by decide) (by decide) (by refine ⟨_, rfl, ?_⟩; refine ⟨?_, ?_, ?_, ?_, ?_⟩ <;> intros <;> first | contradiction | rfl | exact ⟨rfl, rfl⟩ | omega  | exact ⟨bI_1 (by assumption), rfl⟩ | exact ⟨bI_z (by assumption), rfl⟩)
  · refine z_iload_n B 2 dX7_leg_13 rfl rfl ?_
    refine z_if_eq B 21 dX7_leg_14 (by decide) (fun zc14 => ?_) (fun zc14 => ?_)
    · refine z_iconst (v := nI 0) B dX7_leg_21 (by decide) ?_
      refine z_istore_n (lv1 := [(3, .int (nI (0))), (0, .ref (h)), (1, .int (x)), (2, .int (y))]) B dX7_leg_22 rfl (by decide) rfl ?_
      refine z_aload_n B 1 dX7_leg_23 rfl rfl ?_
      refine z_iload_n B 2 dX7_leg_24 rfl rfl ?_
      refine z_callS (As := [.int (x)]) (st := [.ref (h)]) (l := l) B hl (c7_isAccount l D g h a M x) gX7_leg_X7_isAccount rfl ⟨rfl, rfl⟩ nm_X7_isAccount ⟨by decide, by decide⟩ (fun _ h => h) rfl (Nat.le_of_ble_eq_true rfl) dX7_leg_25 (Nat.zero_le _) (Nat.zero_le _) (fun r hr => ?_)
      subst hr
      refine z_ifB_ne B 35 dX7_leg_28 (by decide) (fun zc28 => ?_) (fun zc28 => ?_)
      · have zkc28 := zc28
        obtain ⟨jx, hjx, rfl⟩ := zc28
        refine z_iload_n B 0 dX7_leg_35 rfl rfl ?_
        refine z_if_ne B 43 dX7_leg_36 (by decide) (fun h => absurd h (by decide)) (fun _ => ?_)
        refine z_iconst (v := nI 2) B dX7_leg_39 (by decide) ?_
        refine z_goto B 56 dX7_leg_40 (by decide) ?_
        refine z_callM (As := [.int (nI (2))]) (st := []) (C := RX7) (T := TX7) (N := 30) (ci := 7) (l := l) B hl (c7_refused l D g h a M (nI (2))) gX7_leg_X7_refused rfl ⟨rfl, rfl⟩ nm_X7_refused ⟨by decide, by decide⟩ 0 rfl rfl rfl (Nat.le_of_ble_eq_true rfl) dX7_leg_56 rfl rfl (by decide) (by decide) (fun r w1 hr => ?_)
        obtain ⟨hr1, rfl⟩ := hr
        rw [bI_t (show ¬ nI (2) = 0 by decide)] at hr1
        obtain rfl : r = nI 1 := hr1
        refine z_if_eq B 64 dX7_leg_59 (by decide) (fun h => absurd h (by decide)) (fun _ => ?_)
        refine z_iconst (v := nI 0) B dX7_leg_62 (by decide) ?_
        exact z_mret B hAe hr dX7_leg_63 rfl (by decide) (by decide) (by refine ⟨_, rfl, ?_⟩; refine ⟨?_, ?_, ?_, ?_, ?_⟩ <;> intros <;> first | contradiction | rfl | exact ⟨rfl, rfl⟩ | omega  | exact ⟨bI_1 (by assumption), rfl⟩ | exact ⟨bI_z (by assumption), rfl⟩)
      · refine z_iconst (v := nI 1) B dX7_leg_31 (by decide) ?_
        refine z_goto B 56 dX7_leg_32 (by decide) ?_
        refine z_callM (As := [.int (nI (1))]) (st := []) (C := RX7) (T := TX7) (N := 30) (ci := 7) (l := l) B hl (c7_refused l D g h a M (nI (1))) gX7_leg_X7_refused rfl ⟨rfl, rfl⟩ nm_X7_refused ⟨by decide, by decide⟩ 0 rfl rfl rfl (Nat.le_of_ble_eq_true rfl) dX7_leg_56 rfl rfl (by decide) (by decide) (fun r w1 hr => ?_)
        obtain ⟨hr1, rfl⟩ := hr
        rw [bI_t (show ¬ nI (1) = 0 by decide)] at hr1
        obtain rfl : r = nI 1 := hr1
        refine z_if_eq B 64 dX7_leg_59 (by decide) (fun h => absurd h (by decide)) (fun _ => ?_)
        refine z_iconst (v := nI 0) B dX7_leg_62 (by decide) ?_
        exact z_mret B hAe hr dX7_leg_63 rfl (by decide) (by decide) (by refine ⟨_, rfl, ?_⟩; refine ⟨?_, ?_, ?_, ?_, ?_⟩ <;> intros <;> first | contradiction | rfl | exact ⟨rfl, rfl⟩ | omega  | exact ⟨bI_1 (by assumption), rfl⟩ | exact ⟨bI_z (by assumption), rfl⟩)
    · refine z_iconst (v := nI 1) B dX7_leg_17 (by decide) ?_
      refine z_goto B 22 dX7_leg_18 (by decide) ?_
      refine z_istore_n (lv1 := [(3, .int (nI (1))), (0, .ref (h)), (1, .int (x)), (2, .int (y))]) B dX7_leg_22 rfl (by decide) rfl ?_
      refine z_aload_n B 1 dX7_leg_23 rfl rfl ?_
      refine z_iload_n B 2 dX7_leg_24 rfl rfl ?_
      refine z_callS (As := [.int (x)]) (st := [.ref (h)]) (l := l) B hl (c7_isAccount l D g h a M x) gX7_leg_X7_isAccount rfl ⟨rfl, rfl⟩ nm_X7_isAccount ⟨by decide, by decide⟩ (fun _ h => h) rfl (Nat.le_of_ble_eq_true rfl) dX7_leg_25 (Nat.zero_le _) (Nat.zero_le _) (fun r hr => ?_)
      subst hr
      refine z_ifB_ne B 35 dX7_leg_28 (by decide) (fun zc28 => ?_) (fun zc28 => ?_)
      · have zkc28 := zc28
        obtain ⟨jx, hjx, rfl⟩ := zc28
        refine z_iload_n B 0 dX7_leg_35 rfl rfl ?_
        refine z_if_ne B 43 dX7_leg_36 (by decide) (fun _ => ?_) (fun h => absurd h (by decide))
        refine z_aload_n B 1 dX7_leg_43 rfl rfl ?_
        refine z_get (C := RX7) (T := TX7) (N := 30) (v := .int (M 2 0)) B 0 2 1 fw_X7_leg_X7 rfl rfl (by decide) rfl rfl rfl dX7_leg_44 ?_
        refine z_top (y := nI (mD M)) (MI_2 hI) ?_
        refine z_iconst (v := nI 4) B dX7_leg_47 (by decide) ?_
        refine z_icmpN_ne B 55 dX7_leg_48 (by decide) (by omega) (by omega) (fun zc48 => ?_) (fun zc48 => ?_)
        · refine z_iconst (v := nI 0) B dX7_leg_55 (by decide) ?_
          refine z_callM (As := [.int (nI (0))]) (st := []) (C := RX7) (T := TX7) (N := 30) (ci := 7) (l := l) B hl (c7_refused l D g h a M (nI (0))) gX7_leg_X7_refused rfl ⟨rfl, rfl⟩ nm_X7_refused ⟨by decide, by decide⟩ 0 rfl rfl rfl (Nat.le_of_ble_eq_true rfl) dX7_leg_56 rfl rfl (by decide) (by decide) (fun r w1 hr => ?_)
          obtain ⟨hr1, rfl⟩ := hr
          rw [bI_f (show ¬ ¬ nI (0) = 0 by decide)] at hr1
          obtain rfl : r = nI 0 := hr1
          refine z_if_eq B 64 dX7_leg_59 (by decide) (fun _ => ?_) (fun h => absurd h (by decide))
          refine z_aload_n B 1 dX7_leg_64 rfl rfl ?_
          refine z_get (C := RX7) (T := TX7) (N := 30) (v := .ref (a 3)) B 0 3 2 fw_X7_leg_X7 rfl rfl (by decide) rfl rfl rfl dX7_leg_65 ?_
          refine z_aload_n B 1 dX7_leg_68 rfl rfl ?_
          refine z_get (C := RX7) (T := TX7) (N := 30) (v := .int (M 2 0)) B 0 2 1 fw_X7_leg_X7 rfl rfl (by decide) rfl rfl rfl dX7_leg_69 ?_
          refine z_top (y := nI (mD M)) (MI_2 hI) ?_
          refine z_iload_n B 2 dX7_leg_72 rfl rfl ?_
          refine z_iast (g := (M 3)) (i := mD M) (w' := wM g h a (up2 (up2 M 0 0 (nI (0))) 3 (mD M) (nI (jx)))) B 1 0 rfl rfl (by omega) (by decide) dX7_leg_73 rfl ?_
          refine z_aload_n B 1 dX7_leg_74 rfl rfl ?_
          refine z_get (C := RX7) (T := TX7) (N := 30) (v := .ref (a 4)) B 0 4 3 fw_X7_leg_X7 rfl rfl (by decide) rfl rfl rfl dX7_leg_75 ?_
          refine z_aload_n B 1 dX7_leg_78 rfl rfl ?_
          refine z_get (C := RX7) (T := TX7) (N := 30) (v := .int (M 2 0)) B 0 2 1 fw_X7_leg_X7 rfl rfl (by decide) rfl rfl rfl dX7_leg_79 ?_
          refine z_top (y := nI (mD M)) (MI_2 hI) ?_
          refine z_iload_n B 3 dX7_leg_82 rfl rfl ?_
          refine z_iast (g := (M 4)) (i := mD M) (w' := wM g h a (up2 (up2 (up2 M 0 0 (nI (0))) 3 (mD M) (nI (jx))) 4 (mD M) y)) B 2 0 rfl rfl (by omega) (by decide) dX7_leg_83 rfl ?_
          refine z_aload_n B 1 dX7_leg_84 rfl rfl ?_
          refine z_dup B dX7_leg_85 rfl ?_
          refine z_get (C := RX7) (T := TX7) (N := 30) (v := .int (M 2 0)) B 0 2 1 fw_X7_leg_X7 rfl rfl (by decide) rfl rfl rfl dX7_leg_86 ?_
          refine z_top (y := nI (mD M)) (MI_2 hI) ?_
          refine z_iconst (v := nI 1) B dX7_leg_89 (by decide) ?_
          refine z_iaddN B dX7_leg_90 ?_
          refine z_put (C := RX7) (T := TX7) (N := 30) (w' := wM g h a (up2 (up2 (up2 (up2 M 0 0 (nI (0))) 3 (mD M) (nI (jx))) 4 (mD M) y) 2 0 (nI (mD M + 1)))) B 0 2 1 fw_X7_leg_X7 tyX7 tyX7_ok nmX7 rfl rfl (by decide) rfl rfl rfl rfl rfl (Nat.le_of_ble_eq_true rfl) dX7_leg_91 rfl ?_
          refine z_aload_n B 1 dX7_leg_94 rfl rfl ?_
          refine z_get (C := RX7) (T := TX7) (N := 30) (v := .int (nI (mD M + 1))) B 0 2 1 fw_X7_leg_X7 rfl rfl (by decide) rfl rfl rfl dX7_leg_95 ?_
          exact z_mret B hAe hr dX7_leg_98 rfl (by decide) (by decide) (by refine ⟨_, rfl, ?_⟩; refine ⟨?_, ?_, ?_, ?_, ?_⟩ <;> intros <;> first | contradiction | rfl | exact ⟨rfl, rfl⟩ | omega  | exact ⟨bI_1 (by assumption), rfl⟩ | exact ⟨bI_z (by assumption), rfl⟩)
        · refine z_iconst (v := nI 3) B dX7_leg_51 (by decide) ?_
          refine z_goto B 56 dX7_leg_52 (by decide) ?_
          refine z_callM (As := [.int (nI (3))]) (st := []) (C := RX7) (T := TX7) (N := 30) (ci := 7) (l := l) B hl (c7_refused l D g h a M (nI (3))) gX7_leg_X7_refused rfl ⟨rfl, rfl⟩ nm_X7_refused ⟨by decide, by decide⟩ 0 rfl rfl rfl (Nat.le_of_ble_eq_true rfl) dX7_leg_56 rfl rfl (by decide) (by decide) (fun r w1 hr => ?_)
          obtain ⟨hr1, rfl⟩ := hr
          rw [bI_t (show ¬ nI (3) = 0 by decide)] at hr1
          obtain rfl : r = nI 1 := hr1
          refine z_if_eq B 64 dX7_leg_59 (by decide) (fun h => absurd h (by decide)) (fun _ => ?_)
          refine z_iconst (v := nI 0) B dX7_leg_62 (by decide) ?_
          exact z_mret B hAe hr dX7_leg_63 rfl (by decide) (by decide) (by refine ⟨_, rfl, ?_⟩; refine ⟨?_, ?_, ?_, ?_, ?_⟩ <;> intros <;> first | contradiction | rfl | exact ⟨rfl, rfl⟩ | omega  | exact ⟨bI_1 (by assumption), rfl⟩ | exact ⟨bI_z (by assumption), rfl⟩)
      · refine z_iconst (v := nI 1) B dX7_leg_31 (by decide) ?_
        refine z_goto B 56 dX7_leg_32 (by decide) ?_
        refine z_callM (As := [.int (nI (1))]) (st := []) (C := RX7) (T := TX7) (N := 30) (ci := 7) (l := l) B hl (c7_refused l D g h a M (nI (1))) gX7_leg_X7_refused rfl ⟨rfl, rfl⟩ nm_X7_refused ⟨by decide, by decide⟩ 0 rfl rfl rfl (Nat.le_of_ble_eq_true rfl) dX7_leg_56 rfl rfl (by decide) (by decide) (fun r w1 hr => ?_)
        obtain ⟨hr1, rfl⟩ := hr
        rw [bI_t (show ¬ nI (1) = 0 by decide)] at hr1
        obtain rfl : r = nI 1 := hr1
        refine z_if_eq B 64 dX7_leg_59 (by decide) (fun h => absurd h (by decide)) (fun _ => ?_)
        refine z_iconst (v := nI 0) B dX7_leg_62 (by decide) ?_
        exact z_mret B hAe hr dX7_leg_63 rfl (by decide) (by decide) (by refine ⟨_, rfl, ?_⟩; refine ⟨?_, ?_, ?_, ?_, ?_⟩ <;> intros <;> first | contradiction | rfl | exact ⟨rfl, rfl⟩ | omega  | exact ⟨bI_1 (by assumption), rfl⟩ | exact ⟨bI_z (by assumption), rfl⟩)
theorem fw_X7_wipe_X7 : zF wsX7_wipe RX7 TX7 30 := fun _ h => List.mem_cons_of_mem _ (List.mem_append_right _ (h))
set_option maxHeartbeats 4000000 in
set_option maxRecDepth 100000 in
theorem c7_wipe (l : Launch) (D : va_G) (g : zG) (h : Nat) (a : Nat → Nat) (M : zMS) (hI : MI M) : zMutI l yX7_wipe wsX7_wipe { frames := 1, cells := 0, slots := 0, locals := 21 } D (zT g) (wM g h a M) [.ref h] (fun r w' => r = nI (mD M) ∧ w' = wM g h a (up2 (up2 M 2 0 (nI 0)) 0 0 (nI 0))) 0 0 := by
  refine zMutI_of (cc := cX7_wipe) (maxL := 2) (ret := (some .int)) (own := RX7) [(0, .ref (h))] (by decide) rfl rfl rfl (Nat.le_of_ble_eq_true rfl) ?_
  intro X A hAe hl B hr hin
  obtain ⟨b5, b2, b15, b23, b25, b1⟩ := MI_bs hI
  refine z_aload_n B 0 dX7_wipe_0 rfl rfl ?_
  refine z_get (C := RX7) (T := TX7) (N := 30) (v := .int (M 2 0)) B 0 2 1 fw_X7_wipe_X7 rfl rfl (by decide) rfl rfl rfl dX7_wipe_1 ?_
  refine z_top (y := nI (mD M)) (MI_2 hI) ?_
  refine z_istore_n (lv1 := [(1, .int (nI (mD M))), (0, .ref (h))]) B dX7_wipe_4 rfl (by decide) rfl ?_
  refine z_aload_n B 1 dX7_wipe_5 rfl rfl ?_
  refine z_iconst (v := nI 0) B dX7_wipe_6 (by decide) ?_
  refine z_put (C := RX7) (T := TX7) (N := 30) (w' := wM g h a (up2 M 2 0 (nI (0)))) B 0 2 1 fw_X7_wipe_X7 tyX7 tyX7_ok nmX7 rfl rfl (by decide) rfl rfl rfl rfl rfl (Nat.le_of_ble_eq_true rfl) dX7_wipe_7 rfl ?_
  refine z_aload_n B 1 dX7_wipe_10 rfl rfl ?_
  refine z_iload_n B 0 dX7_wipe_11 rfl rfl ?_
  refine z_callM (As := [.int (nI (mD M))]) (st := []) (C := RX7) (T := TX7) (N := 30) (ci := 7) (l := l) B hl (c7_fine l D g h a (up2 M 2 0 (nI (0))) (nI (mD M))) gX7_wipe_X7_fine rfl ⟨rfl, rfl⟩ nm_X7_fine ⟨by decide, by decide⟩ 0 rfl rfl rfl (Nat.le_of_ble_eq_true rfl) dX7_wipe_12 rfl rfl (by decide) (by decide) (fun r w1 hr => ?_)
  obtain ⟨rfl, rfl⟩ := hr
  exact z_mret B hAe hr dX7_wipe_15 rfl (by decide) (by decide) (by exact ⟨rfl, rfl⟩)
theorem fw_X7_begin_X7 : zF wsX7_begin RX7 TX7 30 := fun _ h => List.mem_cons_of_mem _ (List.mem_append_right _ (h))
set_option maxHeartbeats 4000000 in
set_option maxRecDepth 100000 in
theorem c7_begin (l : Launch) (D : va_G) (g : zG) (h : Nat) (a : Nat → Nat) (M : zMS) (hI : MI M) (x : Int32) (hp : mP M < 80) : zMutV l yX7_begin wsX7_begin { frames := 0, cells := 0, slots := 0, locals := 0 } D (zT g) (wM g h a M) [.ref h, .int (x)] (fun w' => w' = wM g h a (bgM M x)) 0 0 := by
  refine zMutV_of (cc := cX7_begin) (maxL := 2) (ret := none) (own := RX7) [(0, .ref (h)), (1, .int (x))] (by decide) rfl rfl rfl (Nat.le_of_ble_eq_true rfl) ?_
  intro X A hAe hl B hr hin
  obtain ⟨b5, b2, b15, b23, b25, b1⟩ := MI_bs hI
  refine z_aload_n B 0 dX7_begin_0 rfl rfl ?_
  refine z_get (C := RX7) (T := TX7) (N := 30) (v := .ref (a 6)) B 0 6 1 fw_X7_begin_X7 rfl rfl (by decide) rfl rfl rfl dX7_begin_1 ?_
  refine z_aload_n B 0 dX7_begin_4 rfl rfl ?_
  refine z_get (C := RX7) (T := TX7) (N := 30) (v := .int (M 5 0)) B 0 5 2 fw_X7_begin_X7 rfl rfl (by decide) rfl rfl rfl dX7_begin_5 ?_
  refine z_top (y := nI (mP M)) (MI_5 hI) ?_
  refine z_aload_n B 0 dX7_begin_8 rfl rfl ?_
  refine z_get (C := RX7) (T := TX7) (N := 30) (v := .int (M 1 0)) B 0 1 3 fw_X7_begin_X7 rfl rfl (by decide) rfl rfl rfl dX7_begin_9 ?_
  refine z_top (y := nI (mT M)) (MI_1 hI) ?_
  refine z_iast (g := (M 6)) (i := mP M) (w' := wM g h a (up2 M 6 (mP M) (nI (mT M)))) B 3 0 rfl rfl (by omega) (by decide) dX7_begin_12 rfl ?_
  refine z_aload_n B 0 dX7_begin_13 rfl rfl ?_
  refine z_get (C := RX7) (T := TX7) (N := 30) (v := .ref (a 7)) B 0 7 4 fw_X7_begin_X7 rfl rfl (by decide) rfl rfl rfl dX7_begin_14 ?_
  refine z_aload_n B 0 dX7_begin_17 rfl rfl ?_
  refine z_get (C := RX7) (T := TX7) (N := 30) (v := .int (M 5 0)) B 0 5 2 fw_X7_begin_X7 rfl rfl (by decide) rfl rfl rfl dX7_begin_18 ?_
  refine z_top (y := nI (mP M)) (MI_5 hI) ?_
  refine z_iload_n B 1 dX7_begin_21 rfl rfl ?_
  refine z_iast (g := (M 7)) (i := mP M) (w' := wM g h a (up2 (up2 M 6 (mP M) (nI (mT M))) 7 (mP M) x)) B 4 0 rfl rfl (by omega) (by decide) dX7_begin_22 rfl ?_
  refine z_aload_n B 0 dX7_begin_23 rfl rfl ?_
  refine z_get (C := RX7) (T := TX7) (N := 30) (v := .ref (a 8)) B 0 8 5 fw_X7_begin_X7 rfl rfl (by decide) rfl rfl rfl dX7_begin_24 ?_
  refine z_aload_n B 0 dX7_begin_27 rfl rfl ?_
  refine z_get (C := RX7) (T := TX7) (N := 30) (v := .int (M 5 0)) B 0 5 2 fw_X7_begin_X7 rfl rfl (by decide) rfl rfl rfl dX7_begin_28 ?_
  refine z_top (y := nI (mP M)) (MI_5 hI) ?_
  refine z_iconst (v := nI 0) B dX7_begin_31 (by decide) ?_
  refine z_iast (g := (M 8)) (i := mP M) (w' := wM g h a (up2 (up2 (up2 M 6 (mP M) (nI (mT M))) 7 (mP M) x) 8 (mP M) (nI (0)))) B 5 0 rfl rfl (by omega) (by decide) dX7_begin_32 rfl ?_
  refine z_aload_n B 0 dX7_begin_33 rfl rfl ?_
  refine z_get (C := RX7) (T := TX7) (N := 30) (v := .ref (a 12)) B 0 12 6 fw_X7_begin_X7 rfl rfl (by decide) rfl rfl rfl dX7_begin_34 ?_
  refine z_aload_n B 0 dX7_begin_37 rfl rfl ?_
  refine z_get (C := RX7) (T := TX7) (N := 30) (v := .int (M 5 0)) B 0 5 2 fw_X7_begin_X7 rfl rfl (by decide) rfl rfl rfl dX7_begin_38 ?_
  refine z_top (y := nI (mP M)) (MI_5 hI) ?_
  refine z_iconst (v := nI 0) B dX7_begin_41 (by decide) ?_
  refine z_iast (g := (M 12)) (i := mP M) (w' := wM g h a (up2 (up2 (up2 (up2 M 6 (mP M) (nI (mT M))) 7 (mP M) x) 8 (mP M) (nI (0))) 12 (mP M) (nI (0)))) B 9 0 rfl rfl (by omega) (by decide) dX7_begin_42 rfl ?_
  refine z_aload_n B 0 dX7_begin_43 rfl rfl ?_
  refine z_get (C := RX7) (T := TX7) (N := 30) (v := .ref (a 13)) B 0 13 7 fw_X7_begin_X7 rfl rfl (by decide) rfl rfl rfl dX7_begin_44 ?_
  refine z_aload_n B 0 dX7_begin_47 rfl rfl ?_
  refine z_get (C := RX7) (T := TX7) (N := 30) (v := .int (M 5 0)) B 0 5 2 fw_X7_begin_X7 rfl rfl (by decide) rfl rfl rfl dX7_begin_48 ?_
  refine z_top (y := nI (mP M)) (MI_5 hI) ?_
  refine z_iconst (v := (-1)) B dX7_begin_51 (by decide) ?_
  refine z_iast (g := (M 13)) (i := mP M) (w' := wM g h a (up2 (up2 (up2 (up2 (up2 M 6 (mP M) (nI (mT M))) 7 (mP M) x) 8 (mP M) (nI (0))) 12 (mP M) (nI (0))) 13 (mP M) (-1))) B 10 0 rfl rfl (by omega) (by decide) dX7_begin_52 rfl ?_
  refine z_aload_n B 0 dX7_begin_53 rfl rfl ?_
  refine z_dup B dX7_begin_54 rfl ?_
  refine z_get (C := RX7) (T := TX7) (N := 30) (v := .int (M 5 0)) B 0 5 2 fw_X7_begin_X7 rfl rfl (by decide) rfl rfl rfl dX7_begin_55 ?_
  refine z_top (y := nI (mP M)) (MI_5 hI) ?_
  refine z_iconst (v := nI 1) B dX7_begin_58 (by decide) ?_
  refine z_iaddN B dX7_begin_59 ?_
  refine z_put (C := RX7) (T := TX7) (N := 30) (w' := wM g h a (up2 (up2 (up2 (up2 (up2 (up2 M 6 (mP M) (nI (mT M))) 7 (mP M) x) 8 (mP M) (nI (0))) 12 (mP M) (nI (0))) 13 (mP M) (-1)) 5 0 (nI (mP M + 1)))) B 0 5 2 fw_X7_begin_X7 tyX7 tyX7_ok nmX7 rfl rfl (by decide) rfl rfl rfl rfl rfl (Nat.le_of_ble_eq_true rfl) dX7_begin_60 rfl ?_
  exact z_vret B hAe hr dX7_begin_63 (by decide) (by decide) (by rfl)
theorem fw_X7_put_X7 : zF wsX7_put RX7 TX7 30 := fun _ h => List.mem_cons_of_mem _ (List.mem_append_right _ (h))
set_option maxHeartbeats 4000000 in
set_option maxRecDepth 100000 in
theorem c7_put (l : Launch) (D : va_G) (g : zG) (h : Nat) (a : Nat → Nat) (M : zMS) (x : Int32) (y : Int32) (q : Nat) (k : Nat) (hq : M 5 0 = nI (q + 1)) (hq2 : q < 80) (hk : M 8 q = nI k) (hk2 : k < 4) : zMutV l yX7_put wsX7_put { frames := 0, cells := 0, slots := 0, locals := 0 } D (zT g) (wM g h a M) [.ref h, .int (x), .int (y)] (fun w' => w' = wM g h a (ptM M q k x y)) 0 0 := by
  refine zMutV_of (cc := cX7_put) (maxL := 5) (ret := none) (own := RX7) [(0, .ref (h)), (1, .int (x)), (2, .int (y))] (by decide) rfl rfl rfl (Nat.le_of_ble_eq_true rfl) ?_
  intro X A hAe hl B hr hin
  refine z_aload_n B 0 dX7_put_0 rfl rfl ?_
  refine z_get (C := RX7) (T := TX7) (N := 30) (v := .int (M 5 0)) B 0 5 1 fw_X7_put_X7 rfl rfl (by decide) rfl rfl rfl dX7_put_1 ?_
  refine z_top (y := nI (q + 1)) hq ?_
  refine z_iconst (v := nI 1) B dX7_put_4 (by decide) ?_
  refine z_isubN B dX7_put_5 (by omega) ?_
  refine z_top (y := nI (q)) rfl ?_
  refine z_istore_n (lv1 := [(3, .int (nI (q))), (0, .ref (h)), (1, .int (x)), (2, .int (y))]) B dX7_put_6 rfl (by decide) rfl ?_
  refine z_iconst (v := nI 4) B dX7_put_7 (by decide) ?_
  refine z_iload_n B 0 dX7_put_8 rfl rfl ?_
  refine z_imulN B dX7_put_9 ?_
  refine z_aload_n B 1 dX7_put_10 rfl rfl ?_
  refine z_get (C := RX7) (T := TX7) (N := 30) (v := .ref (a 8)) B 0 8 2 fw_X7_put_X7 rfl rfl (by decide) rfl rfl rfl dX7_put_11 ?_
  refine z_iload_n B 0 dX7_put_14 rfl rfl ?_
  refine z_iald (g := (M 8)) (i := q) B 5 0 rfl rfl (by omega) (by decide) dX7_put_15 ?_
  refine z_top (y := nI (k)) hk ?_
  refine z_iaddN B dX7_put_16 ?_
  refine z_istore (lv1 := [(4, .int (nI (4 * q + k))), (3, .int (nI (q))), (0, .ref (h)), (1, .int (x)), (2, .int (y))]) B dX7_put_17 (by decide) rfl ?_
  refine z_aload_n B 2 dX7_put_19 rfl rfl ?_
  refine z_get (C := RX7) (T := TX7) (N := 30) (v := .ref (a 9)) B 0 9 3 fw_X7_put_X7 rfl rfl (by decide) rfl rfl rfl dX7_put_20 ?_
  refine z_iload B 0 dX7_put_23 rfl ?_
  refine z_iload_n B 3 dX7_put_25 rfl rfl ?_
  refine z_iast (g := (M 9)) (i := 4 * q + k) (w' := wM g h a (up2 M 9 (4 * q + k) x)) B 6 0 rfl rfl (by omega) (by decide) dX7_put_26 rfl ?_
  refine z_aload_n B 2 dX7_put_27 rfl rfl ?_
  refine z_get (C := RX7) (T := TX7) (N := 30) (v := .ref (a 10)) B 0 10 4 fw_X7_put_X7 rfl rfl (by decide) rfl rfl rfl dX7_put_28 ?_
  refine z_iload B 0 dX7_put_31 rfl ?_
  refine z_iload_n B 4 dX7_put_33 rfl rfl ?_
  refine z_iast (g := (M 10)) (i := 4 * q + k) (w' := wM g h a (up2 (up2 M 9 (4 * q + k) x) 10 (4 * q + k) y)) B 7 0 rfl rfl (by omega) (by decide) dX7_put_34 rfl ?_
  refine z_aload_n B 2 dX7_put_35 rfl rfl ?_
  refine z_get (C := RX7) (T := TX7) (N := 30) (v := .ref (a 11)) B 0 11 5 fw_X7_put_X7 rfl rfl (by decide) rfl rfl rfl dX7_put_36 ?_
  refine z_iload B 0 dX7_put_39 rfl ?_
  refine z_iload_n B 4 dX7_put_41 rfl rfl ?_
  refine z_iast (g := (M 11)) (i := 4 * q + k) (w' := wM g h a (up2 (up2 (up2 M 9 (4 * q + k) x) 10 (4 * q + k) y) 11 (4 * q + k) y)) B 8 0 rfl rfl (by omega) (by decide) dX7_put_42 rfl ?_
  refine z_aload_n B 2 dX7_put_43 rfl rfl ?_
  refine z_get (C := RX7) (T := TX7) (N := 30) (v := .ref (a 8)) B 0 8 2 fw_X7_put_X7 rfl rfl (by decide) rfl rfl rfl dX7_put_44 ?_
  refine z_iload_n B 1 dX7_put_47 rfl rfl ?_
  refine z_dup2 B dX7_put_48 rfl rfl ?_
  refine z_iald (g := (M 8)) (i := q) B 5 0 rfl rfl (by omega) (by decide) dX7_put_49 ?_
  refine z_top (y := nI (k)) hk ?_
  refine z_iconst (v := nI 1) B dX7_put_50 (by decide) ?_
  refine z_iaddN B dX7_put_51 ?_
  refine z_iast (g := (M 8)) (i := q) (w' := wM g h a (up2 (up2 (up2 (up2 M 9 (4 * q + k) x) 10 (4 * q + k) y) 11 (4 * q + k) y) 8 q (nI (k + 1)))) B 5 0 rfl rfl (by omega) (by decide) dX7_put_52 rfl ?_
  exact z_vret B hAe hr dX7_put_53 (by decide) (by decide) (by rfl)
theorem fw_X7_write_X7 : zF wsX7_write RX7 TX7 30 := fun _ h => List.mem_cons_of_mem _ (List.mem_append_right _ (h))
set_option maxHeartbeats 4000000 in
set_option maxRecDepth 100000 in
theorem c7_write (l : Launch) (D : va_G) (g : zG) (h : Nat) (a : Nat → Nat) (M : zMS) (hI : MI M) (x : Int32) : zMutI l yX7_write wsX7_write { frames := 1, cells := 0, slots := 0, locals := 24 } D (zT g) (wM g h a M) [.ref h, .int (x)] (fun r w' => ∃ M', w' = wM g h a M' ∧ (¬ rng x 10000 → M' = up2 M 0 0 (nI 1)) ∧ (rng x 10000 → mD M < 2 → M' = up2 M 0 0 (nI 2)) ∧ (rng x 10000 → 2 ≤ mD M → ¬ zsum (M 4) (mD M) = 0 → M' = up2 M 0 0 (nI 2)) ∧ (rng x 10000 → 2 ≤ mD M → zsum (M 4) (mD M) = 0 → 80 ≤ mP M → M' = up2 M 0 0 (nI 2)) ∧ (rng x 10000 → 2 ≤ mD M → zsum (M 4) (mD M) = 0 → mP M < 80 → r = nI (mP M) ∧ M' = wrM M x)) 0 0 := by
  refine zMutI_of (cc := cX7_write) (maxL := 4) (ret := (some .int)) (own := RX7) [(0, .ref (h)), (1, .int (x))] (by decide) rfl rfl rfl (Nat.le_of_ble_eq_true rfl) ?_
  intro X A hAe hl B hr hin
  obtain ⟨b5, b2, b15, b23, b25, b1⟩ := MI_bs hI
  generalize hQ : (zQe X (va_Qi (fun r w' => ∃ M', w' = wM g h a M' ∧ (¬ rng x 10000 → M' = up2 M 0 0 (nI 1)) ∧ (rng x 10000 → mD M < 2 → M' = up2 M 0 0 (nI 2)) ∧ (rng x 10000 → 2 ≤ mD M → ¬ zsum (M 4) (mD M) = 0 → M' = up2 M 0 0 (nI 2)) ∧ (rng x 10000 → 2 ≤ mD M → zsum (M 4) (mD M) = 0 → 80 ≤ mP M → M' = up2 M 0 0 (nI 2)) ∧ (rng x 10000 → 2 ≤ mD M → zsum (M 4) (mD M) = 0 → mP M < 80 → r = nI (mP M) ∧ M' = wrM M x)) (zEnd D (zT g) (wM g h a M) (zs X).heap.size) A) 0 0 A) = Q
  refine z_aload_n B 0 dX7_write_0 rfl rfl ?_
  refine z_get (C := RX7) (T := TX7) (N := 30) (v := .int (M 2 0)) B 0 2 1 fw_X7_write_X7 rfl rfl (by decide) rfl rfl rfl dX7_write_1 ?_
  refine z_top (y := nI (mD M)) (MI_2 hI) ?_
  refine z_iconst (v := nI 2) B dX7_write_4 (by decide) ?_
  refine z_icmpN_lt B 28 dX7_write_5 (by decide) (by omega) (by omega) (fun zc5 => ?_) (fun zc5 => ?_)
  · refine z_iconst (v := nI 0) B dX7_write_28 (by decide) ?_
    refine z_istore_n (lv1 := [(2, .int (nI (0))), (0, .ref (h)), (1, .int (x))]) B dX7_write_29 rfl (by decide) rfl ?_
    refine z_aload_n B 1 dX7_write_30 rfl rfl ?_
    refine z_iload_n B 2 dX7_write_31 rfl rfl ?_
    refine z_iconst (v := nI 0) B dX7_write_32 (by decide) ?_
    refine z_sipush (v := nI 9999) B dX7_write_33 (by decide) ?_
    refine z_callS (As := [.int (x), .int (nI (0)), .int (nI (9999))]) (st := [.ref (h)]) (l := l) B hl (c7_in l D g h a M x (nI (0)) (nI (9999))) gX7_write_X7_in rfl ⟨rfl, rfl⟩ nm_X7_in ⟨by decide, by decide⟩ (fun _ h => h) rfl (Nat.le_of_ble_eq_true rfl) dX7_write_36 (Nat.zero_le _) (Nat.zero_le _) (fun r hr => ?_)
    rw [bI_cg (rng_in' (by decide))] at hr
    subst hr
    refine z_ifB_ne B 46 dX7_write_39 (by decide) (fun zc39 => ?_) (fun zc39 => ?_)
    · have zkc39 := zc39
      obtain ⟨jx, hjx, rfl⟩ := zc39
      refine z_iload_n B 0 dX7_write_46 rfl rfl ?_
      refine z_if_eq B 54 dX7_write_47 (by decide) (fun _ => ?_) (fun h => absurd h (by decide))
      refine z_iconst (v := nI 2) B dX7_write_54 (by decide) ?_
      refine z_callM (As := [.int (nI (2))]) (st := []) (C := RX7) (T := TX7) (N := 30) (ci := 7) (l := l) B hl (c7_refused l D g h a M (nI (2))) gX7_write_X7_refused rfl ⟨rfl, rfl⟩ nm_X7_refused ⟨by decide, by decide⟩ 0 rfl rfl rfl (Nat.le_of_ble_eq_true rfl) dX7_write_55 rfl rfl (by decide) (by decide) (fun r w1 hr => ?_)
      obtain ⟨hr1, rfl⟩ := hr
      rw [bI_t (show ¬ nI (2) = 0 by decide)] at hr1
      obtain rfl : r = nI 1 := hr1
      refine z_if_eq B 63 dX7_write_58 (by decide) (fun h => absurd h (by decide)) (fun _ => ?_)
      refine z_iconst (v := nI 0) B dX7_write_61 (by decide) ?_
      subst hQ
      exact z_mret B hAe hr dX7_write_62 rfl (by decide) (by decide) (by refine ⟨_, rfl, ?_⟩; refine ⟨?_, ?_, ?_, ?_, ?_⟩ <;> intros <;> first | contradiction | rfl | exact ⟨rfl, rfl⟩ | omega  | exact ⟨bI_1 (by assumption), rfl⟩ | exact ⟨bI_z (by assumption), rfl⟩)
    · refine z_iconst (v := nI 1) B dX7_write_42 (by decide) ?_
      refine z_goto B 55 dX7_write_43 (by decide) ?_
      refine z_callM (As := [.int (nI (1))]) (st := []) (C := RX7) (T := TX7) (N := 30) (ci := 7) (l := l) B hl (c7_refused l D g h a M (nI (1))) gX7_write_X7_refused rfl ⟨rfl, rfl⟩ nm_X7_refused ⟨by decide, by decide⟩ 0 rfl rfl rfl (Nat.le_of_ble_eq_true rfl) dX7_write_55 rfl rfl (by decide) (by decide) (fun r w1 hr => ?_)
      obtain ⟨hr1, rfl⟩ := hr
      rw [bI_t (show ¬ nI (1) = 0 by decide)] at hr1
      obtain rfl : r = nI 1 := hr1
      refine z_if_eq B 63 dX7_write_58 (by decide) (fun h => absurd h (by decide)) (fun _ => ?_)
      refine z_iconst (v := nI 0) B dX7_write_61 (by decide) ?_
      subst hQ
      exact z_mret B hAe hr dX7_write_62 rfl (by decide) (by decide) (by refine ⟨_, rfl, ?_⟩; refine ⟨?_, ?_, ?_, ?_, ?_⟩ <;> intros <;> first | contradiction | rfl | exact ⟨rfl, rfl⟩ | omega  | exact ⟨bI_1 (by assumption), rfl⟩ | exact ⟨bI_z (by assumption), rfl⟩)
  · refine z_aload_n B 0 dX7_write_8 rfl rfl ?_
    refine z_callP (As := []) (st := []) (C := RX7) (T := TX7) (N := 30) (ci := 7) (l := l) B hl (c7_draftSum l D g h a M hI) gX7_write_X7_draftSum rfl ⟨rfl, rfl⟩ nm_X7_draftSum ⟨by decide, by decide⟩ (fun _ h => h) 0 rfl rfl rfl (Nat.le_of_ble_eq_true rfl) dX7_write_9 (Nat.zero_le _) (Nat.zero_le _) (fun r hr => ?_)
    subst hr
    refine z_if_ne B 28 dX7_write_12 (by decide) (fun zc12 => ?_) (fun zc12 => ?_)
    · refine z_iconst (v := nI 0) B dX7_write_28 (by decide) ?_
      refine z_istore_n (lv1 := [(2, .int (nI (0))), (0, .ref (h)), (1, .int (x))]) B dX7_write_29 rfl (by decide) rfl ?_
      refine z_aload_n B 1 dX7_write_30 rfl rfl ?_
      refine z_iload_n B 2 dX7_write_31 rfl rfl ?_
      refine z_iconst (v := nI 0) B dX7_write_32 (by decide) ?_
      refine z_sipush (v := nI 9999) B dX7_write_33 (by decide) ?_
      refine z_callS (As := [.int (x), .int (nI (0)), .int (nI (9999))]) (st := [.ref (h)]) (l := l) B hl (c7_in l D g h a M x (nI (0)) (nI (9999))) gX7_write_X7_in rfl ⟨rfl, rfl⟩ nm_X7_in ⟨by decide, by decide⟩ (fun _ h => h) rfl (Nat.le_of_ble_eq_true rfl) dX7_write_36 (Nat.zero_le _) (Nat.zero_le _) (fun r hr => ?_)
      rw [bI_cg (rng_in' (by decide))] at hr
      subst hr
      refine z_ifB_ne B 46 dX7_write_39 (by decide) (fun zc39 => ?_) (fun zc39 => ?_)
      · have zkc39 := zc39
        obtain ⟨jx, hjx, rfl⟩ := zc39
        refine z_iload_n B 0 dX7_write_46 rfl rfl ?_
        refine z_if_eq B 54 dX7_write_47 (by decide) (fun _ => ?_) (fun h => absurd h (by decide))
        refine z_iconst (v := nI 2) B dX7_write_54 (by decide) ?_
        refine z_callM (As := [.int (nI (2))]) (st := []) (C := RX7) (T := TX7) (N := 30) (ci := 7) (l := l) B hl (c7_refused l D g h a M (nI (2))) gX7_write_X7_refused rfl ⟨rfl, rfl⟩ nm_X7_refused ⟨by decide, by decide⟩ 0 rfl rfl rfl (Nat.le_of_ble_eq_true rfl) dX7_write_55 rfl rfl (by decide) (by decide) (fun r w1 hr => ?_)
        obtain ⟨hr1, rfl⟩ := hr
        rw [bI_t (show ¬ nI (2) = 0 by decide)] at hr1
        obtain rfl : r = nI 1 := hr1
        refine z_if_eq B 63 dX7_write_58 (by decide) (fun h => absurd h (by decide)) (fun _ => ?_)
        refine z_iconst (v := nI 0) B dX7_write_61 (by decide) ?_
        subst hQ
        exact z_mret B hAe hr dX7_write_62 rfl (by decide) (by decide) (by refine ⟨_, rfl, ?_⟩; refine ⟨?_, ?_, ?_, ?_, ?_⟩ <;> intros <;> first | contradiction | rfl | exact ⟨rfl, rfl⟩ | omega  | exact ⟨bI_1 (by assumption), rfl⟩ | exact ⟨bI_z (by assumption), rfl⟩)
      · refine z_iconst (v := nI 1) B dX7_write_42 (by decide) ?_
        refine z_goto B 55 dX7_write_43 (by decide) ?_
        refine z_callM (As := [.int (nI (1))]) (st := []) (C := RX7) (T := TX7) (N := 30) (ci := 7) (l := l) B hl (c7_refused l D g h a M (nI (1))) gX7_write_X7_refused rfl ⟨rfl, rfl⟩ nm_X7_refused ⟨by decide, by decide⟩ 0 rfl rfl rfl (Nat.le_of_ble_eq_true rfl) dX7_write_55 rfl rfl (by decide) (by decide) (fun r w1 hr => ?_)
        obtain ⟨hr1, rfl⟩ := hr
        rw [bI_t (show ¬ nI (1) = 0 by decide)] at hr1
        obtain rfl : r = nI 1 := hr1
        refine z_if_eq B 63 dX7_write_58 (by decide) (fun h => absurd h (by decide)) (fun _ => ?_)
        refine z_iconst (v := nI 0) B dX7_write_61 (by decide) ?_
        subst hQ
        exact z_mret B hAe hr dX7_write_62 rfl (by decide) (by decide) (by refine ⟨_, rfl, ?_⟩; refine ⟨?_, ?_, ?_, ?_, ?_⟩ <;> intros <;> first | contradiction | rfl | exact ⟨rfl, rfl⟩ | omega  | exact ⟨bI_1 (by assumption), rfl⟩ | exact ⟨bI_z (by assumption), rfl⟩)
    · refine z_aload_n B 0 dX7_write_15 rfl rfl ?_
      refine z_get (C := RX7) (T := TX7) (N := 30) (v := .int (M 5 0)) B 0 5 2 fw_X7_write_X7 rfl rfl (by decide) rfl rfl rfl dX7_write_16 ?_
      refine z_top (y := nI (mP M)) (MI_5 hI) ?_
      refine z_bipush (v := nI 80) B dX7_write_19 (by decide) ?_
      refine z_icmpN_ge B 28 dX7_write_21 (by decide) (by omega) (by omega) (fun zc21 => ?_) (fun zc21 => ?_)
      · refine z_iconst (v := nI 0) B dX7_write_28 (by decide) ?_
        refine z_istore_n (lv1 := [(2, .int (nI (0))), (0, .ref (h)), (1, .int (x))]) B dX7_write_29 rfl (by decide) rfl ?_
        refine z_aload_n B 1 dX7_write_30 rfl rfl ?_
        refine z_iload_n B 2 dX7_write_31 rfl rfl ?_
        refine z_iconst (v := nI 0) B dX7_write_32 (by decide) ?_
        refine z_sipush (v := nI 9999) B dX7_write_33 (by decide) ?_
        refine z_callS (As := [.int (x), .int (nI (0)), .int (nI (9999))]) (st := [.ref (h)]) (l := l) B hl (c7_in l D g h a M x (nI (0)) (nI (9999))) gX7_write_X7_in rfl ⟨rfl, rfl⟩ nm_X7_in ⟨by decide, by decide⟩ (fun _ h => h) rfl (Nat.le_of_ble_eq_true rfl) dX7_write_36 (Nat.zero_le _) (Nat.zero_le _) (fun r hr => ?_)
        rw [bI_cg (rng_in' (by decide))] at hr
        subst hr
        refine z_ifB_ne B 46 dX7_write_39 (by decide) (fun zc39 => ?_) (fun zc39 => ?_)
        · have zkc39 := zc39
          obtain ⟨jx, hjx, rfl⟩ := zc39
          refine z_iload_n B 0 dX7_write_46 rfl rfl ?_
          refine z_if_eq B 54 dX7_write_47 (by decide) (fun _ => ?_) (fun h => absurd h (by decide))
          refine z_iconst (v := nI 2) B dX7_write_54 (by decide) ?_
          refine z_callM (As := [.int (nI (2))]) (st := []) (C := RX7) (T := TX7) (N := 30) (ci := 7) (l := l) B hl (c7_refused l D g h a M (nI (2))) gX7_write_X7_refused rfl ⟨rfl, rfl⟩ nm_X7_refused ⟨by decide, by decide⟩ 0 rfl rfl rfl (Nat.le_of_ble_eq_true rfl) dX7_write_55 rfl rfl (by decide) (by decide) (fun r w1 hr => ?_)
          obtain ⟨hr1, rfl⟩ := hr
          rw [bI_t (show ¬ nI (2) = 0 by decide)] at hr1
          obtain rfl : r = nI 1 := hr1
          refine z_if_eq B 63 dX7_write_58 (by decide) (fun h => absurd h (by decide)) (fun _ => ?_)
          refine z_iconst (v := nI 0) B dX7_write_61 (by decide) ?_
          subst hQ
          exact z_mret B hAe hr dX7_write_62 rfl (by decide) (by decide) (by refine ⟨_, rfl, ?_⟩; refine ⟨?_, ?_, ?_, ?_, ?_⟩ <;> intros <;> first | contradiction | rfl | exact ⟨rfl, rfl⟩ | omega  | exact ⟨bI_1 (by assumption), rfl⟩ | exact ⟨bI_z (by assumption), rfl⟩)
        · refine z_iconst (v := nI 1) B dX7_write_42 (by decide) ?_
          refine z_goto B 55 dX7_write_43 (by decide) ?_
          refine z_callM (As := [.int (nI (1))]) (st := []) (C := RX7) (T := TX7) (N := 30) (ci := 7) (l := l) B hl (c7_refused l D g h a M (nI (1))) gX7_write_X7_refused rfl ⟨rfl, rfl⟩ nm_X7_refused ⟨by decide, by decide⟩ 0 rfl rfl rfl (Nat.le_of_ble_eq_true rfl) dX7_write_55 rfl rfl (by decide) (by decide) (fun r w1 hr => ?_)
          obtain ⟨hr1, rfl⟩ := hr
          rw [bI_t (show ¬ nI (1) = 0 by decide)] at hr1
          obtain rfl : r = nI 1 := hr1
          refine z_if_eq B 63 dX7_write_58 (by decide) (fun h => absurd h (by decide)) (fun _ => ?_)
          refine z_iconst (v := nI 0) B dX7_write_61 (by decide) ?_
          subst hQ
          exact z_mret B hAe hr dX7_write_62 rfl (by decide) (by decide) (by refine ⟨_, rfl, ?_⟩; refine ⟨?_, ?_, ?_, ?_, ?_⟩ <;> intros <;> first | contradiction | rfl | exact ⟨rfl, rfl⟩ | omega  | exact ⟨bI_1 (by assumption), rfl⟩ | exact ⟨bI_z (by assumption), rfl⟩)
      · refine z_iconst (v := nI 1) B dX7_write_24 (by decide) ?_
        refine z_goto B 29 dX7_write_25 (by decide) ?_
        refine z_istore_n (lv1 := [(2, .int (nI (1))), (0, .ref (h)), (1, .int (x))]) B dX7_write_29 rfl (by decide) rfl ?_
        refine z_aload_n B 1 dX7_write_30 rfl rfl ?_
        refine z_iload_n B 2 dX7_write_31 rfl rfl ?_
        refine z_iconst (v := nI 0) B dX7_write_32 (by decide) ?_
        refine z_sipush (v := nI 9999) B dX7_write_33 (by decide) ?_
        refine z_callS (As := [.int (x), .int (nI (0)), .int (nI (9999))]) (st := [.ref (h)]) (l := l) B hl (c7_in l D g h a M x (nI (0)) (nI (9999))) gX7_write_X7_in rfl ⟨rfl, rfl⟩ nm_X7_in ⟨by decide, by decide⟩ (fun _ h => h) rfl (Nat.le_of_ble_eq_true rfl) dX7_write_36 (Nat.zero_le _) (Nat.zero_le _) (fun r hr => ?_)
        rw [bI_cg (rng_in' (by decide))] at hr
        subst hr
        refine z_ifB_ne B 46 dX7_write_39 (by decide) (fun zc39 => ?_) (fun zc39 => ?_)
        · have zkc39 := zc39
          obtain ⟨jx, hjx, rfl⟩ := zc39
          refine z_iload_n B 0 dX7_write_46 rfl rfl ?_
          refine z_if_eq B 54 dX7_write_47 (by decide) (fun h => absurd h (by decide)) (fun _ => ?_)
          refine z_iconst (v := nI 0) B dX7_write_50 (by decide) ?_
          refine z_goto B 55 dX7_write_51 (by decide) ?_
          refine z_callM (As := [.int (nI (0))]) (st := []) (C := RX7) (T := TX7) (N := 30) (ci := 7) (l := l) B hl (c7_refused l D g h a M (nI (0))) gX7_write_X7_refused rfl ⟨rfl, rfl⟩ nm_X7_refused ⟨by decide, by decide⟩ 0 rfl rfl rfl (Nat.le_of_ble_eq_true rfl) dX7_write_55 rfl rfl (by decide) (by decide) (fun r w1 hr => ?_)
          obtain ⟨hr1, rfl⟩ := hr
          rw [bI_f (show ¬ ¬ nI (0) = 0 by decide)] at hr1
          obtain rfl : r = nI 0 := hr1
          refine z_if_eq B 63 dX7_write_58 (by decide) (fun _ => ?_) (fun h => absurd h (by decide))
          refine z_aload_n B 1 dX7_write_63 rfl rfl ?_
          refine z_iload_n B 2 dX7_write_64 rfl rfl ?_
          refine z_callMV (As := [.int (nI (jx))]) (st := []) (C := RX7) (T := TX7) (N := 30) (ci := 7) (l := l) B hl (c7_begin l D g h a (up2 M 0 0 (nI (0))) (MI_up0 hI) (nI (jx)) (show mP (up2 M 0 0 (nI (0))) < 80 from (by omega : mP M < 80))) gX7_write_X7_begin rfl ⟨rfl, rfl⟩ nm_X7_begin ⟨by decide, by decide⟩ 0 rfl rfl rfl (Nat.le_of_ble_eq_true rfl) dX7_write_65 rfl rfl (by decide) (by decide) (fun w1 hr => ?_)
          subst hr
          refine z_iconst (v := nI 0) B dX7_write_68 (by decide) ?_
          refine z_istore_n (lv1 := [(3, .int (nI (0))), (2, .int (nI (1))), (0, .ref (h)), (1, .int (nI (jx)))]) B dX7_write_69 rfl (by decide) rfl ?_
          have loop70 : ∀ (n0 i : Nat), i ≤ mD M → mD M + 1 ≤ i + n0 → zJ X 4 (zI1 D A (zs X)) Q (wM g h a (ptN (bgM (up2 M 0 0 (nI (0))) (nI jx)) (mP M) (M 3) (M 4) i)) 0 0 [(0, .ref (h)), (1, .int (nI (jx))), (2, .int (nI (1))), (3, .int (nI (i)))] 70 [] := by
            intro n70
            induction n70 with
            | zero => intro i h1 h2; exact absurd h2 (by omega)
            | succ n70 ih70 =>
              intro i hle70 hn70
              refine z_iload_n B 3 dX7_write_70 rfl rfl ?_
              refine z_aload_n B 0 dX7_write_71 rfl rfl ?_
              refine z_get (C := RX7) (T := TX7) (N := 30) (v := .int ((ptN (bgM (up2 M 0 0 (nI (0))) (nI jx)) (mP M) (M 3) (M 4) i) 2 0)) B 0 2 1 fw_X7_write_X7 rfl rfl (by decide) rfl rfl rfl dX7_write_72 ?_
              refine z_top (y := nI (mD M)) ((congrFun (ptN_k (bgM (up2 M 0 0 (nI (0))) (nI jx)) (mP M) (M 3) (M 4) (k := 2) (by decide) i) 0).trans (MI_2 (M := M) hI)) ?_
              refine z_icmpN_ge B 100 dX7_write_75 (by decide) (by omega) (by omega) (fun zc75 => ?_) (fun zc75 => ?_)
              · obtain rfl : i = mD M := by omega
                refine z_aload_n B 0 dX7_write_100 rfl rfl ?_
                refine z_iconst (v := nI 0) B dX7_write_101 (by decide) ?_
                refine z_put (C := RX7) (T := TX7) (N := 30) (w' := wM g h a (up2 (ptN (bgM (up2 M 0 0 (nI (0))) (nI jx)) (mP M) (M 3) (M 4) (mD M)) 2 0 (nI (0)))) B 0 2 1 fw_X7_write_X7 tyX7 tyX7_ok nmX7 rfl rfl (by decide) rfl rfl rfl rfl rfl (Nat.le_of_ble_eq_true rfl) dX7_write_102 rfl ?_
                refine z_aload_n B 0 dX7_write_105 rfl rfl ?_
                refine z_get (C := RX7) (T := TX7) (N := 30) (v := .int ((ptN (bgM (up2 M 0 0 (nI (0))) (nI jx)) (mP M) (M 3) (M 4) (mD M)) 5 0)) B 0 5 2 fw_X7_write_X7 rfl rfl (by decide) rfl rfl rfl dX7_write_106 ?_
                refine z_top (y := nI (mP M + 1)) (congrFun (ptN_k (bgM (up2 M 0 0 (nI (0))) (nI jx)) (mP M) (M 3) (M 4) (k := 5) (by decide) (mD M)) 0) ?_
                refine z_iconst (v := nI 1) B dX7_write_109 (by decide) ?_
                refine z_isubN B dX7_write_110 (by omega) ?_
                refine z_top (y := nI (mP M)) rfl ?_
                subst hQ
                exact z_mret B hAe hr dX7_write_111 rfl (by decide) (by decide) (by refine ⟨_, rfl, ?_⟩; refine ⟨?_, ?_, ?_, ?_, ?_⟩ <;> intros <;> first | contradiction | rfl | exact ⟨rfl, rfl⟩ | omega  | exact ⟨bI_1 (by assumption), rfl⟩ | exact ⟨bI_z (by assumption), rfl⟩)
              · refine z_aload_n B 0 dX7_write_78 rfl rfl ?_
                refine z_aload_n B 0 dX7_write_79 rfl rfl ?_
                refine z_get (C := RX7) (T := TX7) (N := 30) (v := .ref (a 3)) B 0 3 3 fw_X7_write_X7 rfl rfl (by decide) rfl rfl rfl dX7_write_80 ?_
                refine z_iload_n B 3 dX7_write_83 rfl rfl ?_
                refine z_iald (g := ((ptN (bgM (up2 M 0 0 (nI (0))) (nI jx)) (mP M) (M 3) (M 4) i) 3)) (i := i) B 1 0 rfl rfl (by omega) (by decide) dX7_write_84 ?_
                refine z_top (y := M 3 i) (congrFun (ptN_k (bgM (up2 M 0 0 (nI (0))) (nI jx)) (mP M) (M 3) (M 4) (k := 3) (by decide) i) _) ?_
                refine z_aload_n B 0 dX7_write_85 rfl rfl ?_
                refine z_get (C := RX7) (T := TX7) (N := 30) (v := .ref (a 4)) B 0 4 4 fw_X7_write_X7 rfl rfl (by decide) rfl rfl rfl dX7_write_86 ?_
                refine z_iload_n B 3 dX7_write_89 rfl rfl ?_
                refine z_iald (g := ((ptN (bgM (up2 M 0 0 (nI (0))) (nI jx)) (mP M) (M 3) (M 4) i) 4)) (i := i) B 2 0 rfl rfl (by omega) (by decide) dX7_write_90 ?_
                refine z_top (y := M 4 i) (congrFun (ptN_k (bgM (up2 M 0 0 (nI (0))) (nI jx)) (mP M) (M 3) (M 4) (k := 4) (by decide) i) _) ?_
                refine z_callMV (As := [.int (M 3 i), .int (M 4 i)]) (st := []) (C := RX7) (T := TX7) (N := 30) (ci := 7) (l := l) B hl (c7_put l D g h a (ptN (bgM (up2 M 0 0 (nI (0))) (nI jx)) (mP M) (M 3) (M 4) i) (M 3 i) (M 4 i) (mP M) i (congrFun (ptN_k (bgM (up2 M 0 0 (nI (0))) (nI jx)) (mP M) (M 3) (M 4) (k := 5) (by decide) i) 0) (by omega) (ptN_8 (bgM (up2 M 0 0 (nI (0))) (nI jx)) (mP M) (M 3) (M 4) bgM_8 i) (by omega)) gX7_write_X7_put rfl ⟨rfl, rfl⟩ nm_X7_put ⟨by decide, by decide⟩ 0 rfl rfl rfl (Nat.le_of_ble_eq_true rfl) dX7_write_91 rfl rfl (by decide) (by decide) (fun w1 hr => ?_)
                subst hr
                refine z_iinc B 3 (lv1 := [(3, .int (nI (i + 1))), (0, .ref (h)), (1, .int (nI (jx))), (2, .int (nI (1)))]) dX7_write_94 rfl (nI_1 _) (by decide) rfl ?_
                refine z_goto B 70 dX7_write_97 (by decide) ?_
                refine z_loc [1, 2, 3, 0] (lv' := [(0, .ref (h)), (1, .int (nI (jx))), (2, .int (nI (1))), (3, .int (nI (i + 1)))]) rfl ?_
                refine z_lvc (lv' := [(0, .ref (h)), (1, .int (nI (jx))), (2, .int (nI (1))), (3, .int (nI ((i + 1))))]) (by rfl) ?_
                refine z_w (w' := wM g h a (ptN (bgM (up2 M 0 0 (nI (0))) (nI jx)) (mP M) (M 3) (M 4) (i + 1))) (by rfl) ?_
                exact ih70 (i + 1) (by omega) (by omega)
          refine z_loc [2, 3, 1, 0] (lv' := [(0, .ref (h)), (1, .int (nI (jx))), (2, .int (nI (1))), (3, .int (nI (0)))]) rfl ?_
          refine z_w (w' := wM g h a (ptN (bgM (up2 M 0 0 (nI (0))) (nI jx)) (mP M) (M 3) (M 4) 0)) (by rfl) ?_
          exact loop70 (mD M + 1) 0 (by omega) (by omega)
        · refine z_iconst (v := nI 1) B dX7_write_42 (by decide) ?_
          refine z_goto B 55 dX7_write_43 (by decide) ?_
          refine z_callM (As := [.int (nI (1))]) (st := []) (C := RX7) (T := TX7) (N := 30) (ci := 7) (l := l) B hl (c7_refused l D g h a M (nI (1))) gX7_write_X7_refused rfl ⟨rfl, rfl⟩ nm_X7_refused ⟨by decide, by decide⟩ 0 rfl rfl rfl (Nat.le_of_ble_eq_true rfl) dX7_write_55 rfl rfl (by decide) (by decide) (fun r w1 hr => ?_)
          obtain ⟨hr1, rfl⟩ := hr
          rw [bI_t (show ¬ nI (1) = 0 by decide)] at hr1
          obtain rfl : r = nI 1 := hr1
          refine z_if_eq B 63 dX7_write_58 (by decide) (fun h => absurd h (by decide)) (fun _ => ?_)
          refine z_iconst (v := nI 0) B dX7_write_61 (by decide) ?_
          subst hQ
          exact z_mret B hAe hr dX7_write_62 rfl (by decide) (by decide) (by refine ⟨_, rfl, ?_⟩; refine ⟨?_, ?_, ?_, ?_, ?_⟩ <;> intros <;> first | contradiction | rfl | exact ⟨rfl, rfl⟩ | omega  | exact ⟨bI_1 (by assumption), rfl⟩ | exact ⟨bI_z (by assumption), rfl⟩)
theorem fw_X7_reverse_X7 : zF wsX7_reverse RX7 TX7 30 := fun _ h => List.mem_cons_of_mem _ (List.mem_append_right _ (h))
set_option maxHeartbeats 4000000 in
set_option maxRecDepth 100000 in
theorem c7_reverse (l : Launch) (D : va_G) (g : zG) (h : Nat) (a : Nat → Nat) (M : zMS) (hI : MI M) (x : Int32) : zMutI l yX7_reverse wsX7_reverse { frames := 2, cells := 0, slots := 0, locals := 43 } D (zT g) (wM g h a M) [.ref h, .int (x)] (fun r w' => ∃ M', w' = wM g h a M' ∧ (¬ rng x (mP M) → M' = up2 M 0 0 (nI 1)) ∧ (rng x (mP M) → ¬ pTB M (nN x) → M' = up2 M 0 0 (nI 2)) ∧ (rng x (mP M) → pTB M (nN x) → ¬ M 13 (nN x) = (-1) → M' = up2 M 0 0 (nI 2)) ∧ (rng x (mP M) → pTB M (nN x) → M 13 (nN x) = (-1) → ¬ M 14 (nN x) = 0 → M' = up2 M 0 0 (nI 2)) ∧ (rng x (mP M) → pTB M (nN x) → M 13 (nN x) = (-1) → M 14 (nN x) = 0 → 80 ≤ mP M → M' = up2 M 0 0 (nI 2)) ∧ (rng x (mP M) → pTB M (nN x) → M 13 (nN x) = (-1) → M 14 (nN x) = 0 → mP M < 80 → r = nI (mP M) ∧ M' = rvM M (nN x))) 0 0 := by
  refine zMutI_of (cc := cX7_reverse) (maxL := 5) (ret := (some .int)) (own := RX7) [(0, .ref (h)), (1, .int (x))] (by decide) rfl rfl rfl (Nat.le_of_ble_eq_true rfl) ?_
  intro X A hAe hl B hr hin
  obtain ⟨b5, b2, b15, b23, b25, b1⟩ := MI_bs hI
  generalize hQ : (zQe X (va_Qi (fun r w' => ∃ M', w' = wM g h a M' ∧ (¬ rng x (mP M) → M' = up2 M 0 0 (nI 1)) ∧ (rng x (mP M) → ¬ pTB M (nN x) → M' = up2 M 0 0 (nI 2)) ∧ (rng x (mP M) → pTB M (nN x) → ¬ M 13 (nN x) = (-1) → M' = up2 M 0 0 (nI 2)) ∧ (rng x (mP M) → pTB M (nN x) → M 13 (nN x) = (-1) → ¬ M 14 (nN x) = 0 → M' = up2 M 0 0 (nI 2)) ∧ (rng x (mP M) → pTB M (nN x) → M 13 (nN x) = (-1) → M 14 (nN x) = 0 → 80 ≤ mP M → M' = up2 M 0 0 (nI 2)) ∧ (rng x (mP M) → pTB M (nN x) → M 13 (nN x) = (-1) → M 14 (nN x) = 0 → mP M < 80 → r = nI (mP M) ∧ M' = rvM M (nN x))) (zEnd D (zT g) (wM g h a M) (zs X).heap.size) A) 0 0 A) = Q
  refine z_aload_n B 0 dX7_reverse_0 rfl rfl ?_
  refine z_iload_n B 1 dX7_reverse_1 rfl rfl ?_
  refine z_callP (As := [.int (x)]) (st := []) (C := RX7) (T := TX7) (N := 30) (ci := 7) (l := l) B hl (c7_isPage l D g h a M hI x) gX7_reverse_X7_isPage rfl ⟨rfl, rfl⟩ nm_X7_isPage ⟨by decide, by decide⟩ (fun _ h => h) 0 rfl rfl rfl (Nat.le_of_ble_eq_true rfl) dX7_reverse_2 (Nat.zero_le _) (Nat.zero_le _) (fun r hr => ?_)
  subst hr
  refine z_ifB_eq B 48 dX7_reverse_5 (by decide) (fun zc5 => ?_) (fun zc5 => ?_)
  · refine z_iconst (v := nI 0) B dX7_reverse_48 (by decide) ?_
    refine z_istore_n (lv1 := [(2, .int (nI (0))), (0, .ref (h)), (1, .int (x))]) B dX7_reverse_49 rfl (by decide) rfl ?_
    refine z_aload_n B 1 dX7_reverse_50 rfl rfl ?_
    refine z_aload_n B 1 dX7_reverse_51 rfl rfl ?_
    refine z_iload_n B 2 dX7_reverse_52 rfl rfl ?_
    refine z_callP (As := [.int (x)]) (st := [.ref (h)]) (C := RX7) (T := TX7) (N := 30) (ci := 7) (l := l) B hl (c7_isPage l D g h a M hI x) gX7_reverse_X7_isPage rfl ⟨rfl, rfl⟩ nm_X7_isPage ⟨by decide, by decide⟩ (fun _ h => h) 0 rfl rfl rfl (Nat.le_of_ble_eq_true rfl) dX7_reverse_53 (Nat.zero_le _) (Nat.zero_le _) (fun r hr => ?_)
    subst hr
    refine z_ifB_ne B 63 dX7_reverse_56 (by decide) (fun h => absurd h zc5) (fun _ => ?_)
    refine z_iconst (v := nI 1) B dX7_reverse_59 (by decide) ?_
    refine z_goto B 72 dX7_reverse_60 (by decide) ?_
    refine z_callM (As := [.int (nI (1))]) (st := []) (C := RX7) (T := TX7) (N := 30) (ci := 7) (l := l) B hl (c7_refused l D g h a M (nI (1))) gX7_reverse_X7_refused rfl ⟨rfl, rfl⟩ nm_X7_refused ⟨by decide, by decide⟩ 0 rfl rfl rfl (Nat.le_of_ble_eq_true rfl) dX7_reverse_72 rfl rfl (by decide) (by decide) (fun r w1 hr => ?_)
    obtain ⟨hr1, rfl⟩ := hr
    rw [bI_t (show ¬ nI (1) = 0 by decide)] at hr1
    obtain rfl : r = nI 1 := hr1
    refine z_if_eq B 80 dX7_reverse_75 (by decide) (fun h => absurd h (by decide)) (fun _ => ?_)
    refine z_iconst (v := nI 0) B dX7_reverse_78 (by decide) ?_
    subst hQ
    exact z_mret B hAe hr dX7_reverse_79 rfl (by decide) (by decide) (by refine ⟨_, rfl, ?_⟩; refine ⟨?_, ?_, ?_, ?_, ?_, ?_⟩ <;> intros <;> first | contradiction | rfl | exact ⟨rfl, rfl⟩ | omega  | exact ⟨bI_1 (by assumption), rfl⟩ | exact ⟨bI_z (by assumption), rfl⟩)
  · have zkc5 := zc5
    obtain ⟨jx, hjx, rfl⟩ := zc5
    refine z_aload_n B 0 dX7_reverse_8 rfl rfl ?_
    refine z_iload_n B 1 dX7_reverse_9 rfl rfl ?_
    refine z_callP (As := [.int (nI (jx))]) (st := []) (C := RX7) (T := TX7) (N := 30) (ci := 7) (l := l) B hl (c7_isTrueInBook l D g h a M hI jx (by omega)) gX7_reverse_X7_isTrueInBook rfl ⟨rfl, rfl⟩ nm_X7_isTrueInBook ⟨by decide, by decide⟩ (fun _ h => h) 0 rfl rfl rfl (Nat.le_of_ble_eq_true rfl) dX7_reverse_10 (Nat.zero_le _) (Nat.zero_le _) (fun r hr => ?_)
    subst hr
    refine z_ifB_eq B 48 dX7_reverse_13 (by decide) (fun zc13 => ?_) (fun zc13 => ?_)
    · refine z_iconst (v := nI 0) B dX7_reverse_48 (by decide) ?_
      refine z_istore_n (lv1 := [(2, .int (nI (0))), (0, .ref (h)), (1, .int (nI (jx)))]) B dX7_reverse_49 rfl (by decide) rfl ?_
      refine z_aload_n B 1 dX7_reverse_50 rfl rfl ?_
      refine z_aload_n B 1 dX7_reverse_51 rfl rfl ?_
      refine z_iload_n B 2 dX7_reverse_52 rfl rfl ?_
      refine z_callP (As := [.int (nI (jx))]) (st := [.ref (h)]) (C := RX7) (T := TX7) (N := 30) (ci := 7) (l := l) B hl (c7_isPage l D g h a M hI (nI (jx))) gX7_reverse_X7_isPage rfl ⟨rfl, rfl⟩ nm_X7_isPage ⟨by decide, by decide⟩ (fun _ h => h) 0 rfl rfl rfl (Nat.le_of_ble_eq_true rfl) dX7_reverse_53 (Nat.zero_le _) (Nat.zero_le _) (fun r hr => ?_)
      subst hr
      refine z_ifB_ne B 63 dX7_reverse_56 (by decide) (fun _ => ?_) (fun h => absurd zkc5 h)
      refine z_iload_n B 0 dX7_reverse_63 rfl rfl ?_
      refine z_if_eq B 71 dX7_reverse_64 (by decide) (fun _ => ?_) (fun h => absurd h (by decide))
      refine z_iconst (v := nI 2) B dX7_reverse_71 (by decide) ?_
      refine z_callM (As := [.int (nI (2))]) (st := []) (C := RX7) (T := TX7) (N := 30) (ci := 7) (l := l) B hl (c7_refused l D g h a M (nI (2))) gX7_reverse_X7_refused rfl ⟨rfl, rfl⟩ nm_X7_refused ⟨by decide, by decide⟩ 0 rfl rfl rfl (Nat.le_of_ble_eq_true rfl) dX7_reverse_72 rfl rfl (by decide) (by decide) (fun r w1 hr => ?_)
      obtain ⟨hr1, rfl⟩ := hr
      rw [bI_t (show ¬ nI (2) = 0 by decide)] at hr1
      obtain rfl : r = nI 1 := hr1
      refine z_if_eq B 80 dX7_reverse_75 (by decide) (fun h => absurd h (by decide)) (fun _ => ?_)
      refine z_iconst (v := nI 0) B dX7_reverse_78 (by decide) ?_
      subst hQ
      exact z_mret B hAe hr dX7_reverse_79 rfl (by decide) (by decide) (by refine ⟨_, rfl, ?_⟩; rw [nN_nI (show jx < 2 ^ 31 by omega)]; refine ⟨?_, ?_, ?_, ?_, ?_, ?_⟩ <;> intros <;> first | contradiction | rfl | exact ⟨rfl, rfl⟩ | omega  | exact ⟨bI_1 (by assumption), rfl⟩ | exact ⟨bI_z (by assumption), rfl⟩)
    · refine z_aload_n B 0 dX7_reverse_16 rfl rfl ?_
      refine z_get (C := RX7) (T := TX7) (N := 30) (v := .ref (a 13)) B 0 13 1 fw_X7_reverse_X7 rfl rfl (by decide) rfl rfl rfl dX7_reverse_17 ?_
      refine z_iload_n B 1 dX7_reverse_20 rfl rfl ?_
      refine z_iald (g := (M 13)) (i := jx) B 10 0 rfl rfl (by omega) (by decide) dX7_reverse_21 ?_
      refine z_iconst (v := (-1)) B dX7_reverse_22 (by decide) ?_
      refine z_icmp_ne B 48 dX7_reverse_23 (by decide) (fun zc23 => ?_) (fun zc23 => ?_)
      · refine z_iconst (v := nI 0) B dX7_reverse_48 (by decide) ?_
        refine z_istore_n (lv1 := [(2, .int (nI (0))), (0, .ref (h)), (1, .int (nI (jx)))]) B dX7_reverse_49 rfl (by decide) rfl ?_
        refine z_aload_n B 1 dX7_reverse_50 rfl rfl ?_
        refine z_aload_n B 1 dX7_reverse_51 rfl rfl ?_
        refine z_iload_n B 2 dX7_reverse_52 rfl rfl ?_
        refine z_callP (As := [.int (nI (jx))]) (st := [.ref (h)]) (C := RX7) (T := TX7) (N := 30) (ci := 7) (l := l) B hl (c7_isPage l D g h a M hI (nI (jx))) gX7_reverse_X7_isPage rfl ⟨rfl, rfl⟩ nm_X7_isPage ⟨by decide, by decide⟩ (fun _ h => h) 0 rfl rfl rfl (Nat.le_of_ble_eq_true rfl) dX7_reverse_53 (Nat.zero_le _) (Nat.zero_le _) (fun r hr => ?_)
        subst hr
        refine z_ifB_ne B 63 dX7_reverse_56 (by decide) (fun _ => ?_) (fun h => absurd zkc5 h)
        refine z_iload_n B 0 dX7_reverse_63 rfl rfl ?_
        refine z_if_eq B 71 dX7_reverse_64 (by decide) (fun _ => ?_) (fun h => absurd h (by decide))
        refine z_iconst (v := nI 2) B dX7_reverse_71 (by decide) ?_
        refine z_callM (As := [.int (nI (2))]) (st := []) (C := RX7) (T := TX7) (N := 30) (ci := 7) (l := l) B hl (c7_refused l D g h a M (nI (2))) gX7_reverse_X7_refused rfl ⟨rfl, rfl⟩ nm_X7_refused ⟨by decide, by decide⟩ 0 rfl rfl rfl (Nat.le_of_ble_eq_true rfl) dX7_reverse_72 rfl rfl (by decide) (by decide) (fun r w1 hr => ?_)
        obtain ⟨hr1, rfl⟩ := hr
        rw [bI_t (show ¬ nI (2) = 0 by decide)] at hr1
        obtain rfl : r = nI 1 := hr1
        refine z_if_eq B 80 dX7_reverse_75 (by decide) (fun h => absurd h (by decide)) (fun _ => ?_)
        refine z_iconst (v := nI 0) B dX7_reverse_78 (by decide) ?_
        subst hQ
        exact z_mret B hAe hr dX7_reverse_79 rfl (by decide) (by decide) (by refine ⟨_, rfl, ?_⟩; rw [nN_nI (show jx < 2 ^ 31 by omega)]; refine ⟨?_, ?_, ?_, ?_, ?_, ?_⟩ <;> intros <;> first | contradiction | rfl | exact ⟨rfl, rfl⟩ | omega  | exact ⟨bI_1 (by assumption), rfl⟩ | exact ⟨bI_z (by assumption), rfl⟩)
      · refine z_aload_n B 0 dX7_reverse_26 rfl rfl ?_
        refine z_get (C := RX7) (T := TX7) (N := 30) (v := .ref (a 14)) B 0 14 2 fw_X7_reverse_X7 rfl rfl (by decide) rfl rfl rfl dX7_reverse_27 ?_
        refine z_iload_n B 1 dX7_reverse_30 rfl rfl ?_
        refine z_zald (g := (M 14)) (i := jx) B 11 1 rfl rfl (by omega) (by decide) dX7_reverse_31 ?_
        refine z_if_ne B 48 dX7_reverse_32 (by decide) (fun zc32 => ?_) (fun zc32 => ?_)
        · refine z_iconst (v := nI 0) B dX7_reverse_48 (by decide) ?_
          refine z_istore_n (lv1 := [(2, .int (nI (0))), (0, .ref (h)), (1, .int (nI (jx)))]) B dX7_reverse_49 rfl (by decide) rfl ?_
          refine z_aload_n B 1 dX7_reverse_50 rfl rfl ?_
          refine z_aload_n B 1 dX7_reverse_51 rfl rfl ?_
          refine z_iload_n B 2 dX7_reverse_52 rfl rfl ?_
          refine z_callP (As := [.int (nI (jx))]) (st := [.ref (h)]) (C := RX7) (T := TX7) (N := 30) (ci := 7) (l := l) B hl (c7_isPage l D g h a M hI (nI (jx))) gX7_reverse_X7_isPage rfl ⟨rfl, rfl⟩ nm_X7_isPage ⟨by decide, by decide⟩ (fun _ h => h) 0 rfl rfl rfl (Nat.le_of_ble_eq_true rfl) dX7_reverse_53 (Nat.zero_le _) (Nat.zero_le _) (fun r hr => ?_)
          subst hr
          refine z_ifB_ne B 63 dX7_reverse_56 (by decide) (fun _ => ?_) (fun h => absurd zkc5 h)
          refine z_iload_n B 0 dX7_reverse_63 rfl rfl ?_
          refine z_if_eq B 71 dX7_reverse_64 (by decide) (fun _ => ?_) (fun h => absurd h (by decide))
          refine z_iconst (v := nI 2) B dX7_reverse_71 (by decide) ?_
          refine z_callM (As := [.int (nI (2))]) (st := []) (C := RX7) (T := TX7) (N := 30) (ci := 7) (l := l) B hl (c7_refused l D g h a M (nI (2))) gX7_reverse_X7_refused rfl ⟨rfl, rfl⟩ nm_X7_refused ⟨by decide, by decide⟩ 0 rfl rfl rfl (Nat.le_of_ble_eq_true rfl) dX7_reverse_72 rfl rfl (by decide) (by decide) (fun r w1 hr => ?_)
          obtain ⟨hr1, rfl⟩ := hr
          rw [bI_t (show ¬ nI (2) = 0 by decide)] at hr1
          obtain rfl : r = nI 1 := hr1
          refine z_if_eq B 80 dX7_reverse_75 (by decide) (fun h => absurd h (by decide)) (fun _ => ?_)
          refine z_iconst (v := nI 0) B dX7_reverse_78 (by decide) ?_
          subst hQ
          exact z_mret B hAe hr dX7_reverse_79 rfl (by decide) (by decide) (by refine ⟨_, rfl, ?_⟩; rw [nN_nI (show jx < 2 ^ 31 by omega)]; refine ⟨?_, ?_, ?_, ?_, ?_, ?_⟩ <;> intros <;> first | contradiction | rfl | exact ⟨rfl, rfl⟩ | omega  | exact ⟨bI_1 (by assumption), rfl⟩ | exact ⟨bI_z (by assumption), rfl⟩)
        · refine z_aload_n B 0 dX7_reverse_35 rfl rfl ?_
          refine z_get (C := RX7) (T := TX7) (N := 30) (v := .int (M 5 0)) B 0 5 3 fw_X7_reverse_X7 rfl rfl (by decide) rfl rfl rfl dX7_reverse_36 ?_
          refine z_top (y := nI (mP M)) (MI_5 hI) ?_
          refine z_bipush (v := nI 80) B dX7_reverse_39 (by decide) ?_
          refine z_icmpN_ge B 48 dX7_reverse_41 (by decide) (by omega) (by omega) (fun zc41 => ?_) (fun zc41 => ?_)
          · refine z_iconst (v := nI 0) B dX7_reverse_48 (by decide) ?_
            refine z_istore_n (lv1 := [(2, .int (nI (0))), (0, .ref (h)), (1, .int (nI (jx)))]) B dX7_reverse_49 rfl (by decide) rfl ?_
            refine z_aload_n B 1 dX7_reverse_50 rfl rfl ?_
            refine z_aload_n B 1 dX7_reverse_51 rfl rfl ?_
            refine z_iload_n B 2 dX7_reverse_52 rfl rfl ?_
            refine z_callP (As := [.int (nI (jx))]) (st := [.ref (h)]) (C := RX7) (T := TX7) (N := 30) (ci := 7) (l := l) B hl (c7_isPage l D g h a M hI (nI (jx))) gX7_reverse_X7_isPage rfl ⟨rfl, rfl⟩ nm_X7_isPage ⟨by decide, by decide⟩ (fun _ h => h) 0 rfl rfl rfl (Nat.le_of_ble_eq_true rfl) dX7_reverse_53 (Nat.zero_le _) (Nat.zero_le _) (fun r hr => ?_)
            subst hr
            refine z_ifB_ne B 63 dX7_reverse_56 (by decide) (fun _ => ?_) (fun h => absurd zkc5 h)
            refine z_iload_n B 0 dX7_reverse_63 rfl rfl ?_
            refine z_if_eq B 71 dX7_reverse_64 (by decide) (fun _ => ?_) (fun h => absurd h (by decide))
            refine z_iconst (v := nI 2) B dX7_reverse_71 (by decide) ?_
            refine z_callM (As := [.int (nI (2))]) (st := []) (C := RX7) (T := TX7) (N := 30) (ci := 7) (l := l) B hl (c7_refused l D g h a M (nI (2))) gX7_reverse_X7_refused rfl ⟨rfl, rfl⟩ nm_X7_refused ⟨by decide, by decide⟩ 0 rfl rfl rfl (Nat.le_of_ble_eq_true rfl) dX7_reverse_72 rfl rfl (by decide) (by decide) (fun r w1 hr => ?_)
            obtain ⟨hr1, rfl⟩ := hr
            rw [bI_t (show ¬ nI (2) = 0 by decide)] at hr1
            obtain rfl : r = nI 1 := hr1
            refine z_if_eq B 80 dX7_reverse_75 (by decide) (fun h => absurd h (by decide)) (fun _ => ?_)
            refine z_iconst (v := nI 0) B dX7_reverse_78 (by decide) ?_
            subst hQ
            exact z_mret B hAe hr dX7_reverse_79 rfl (by decide) (by decide) (by refine ⟨_, rfl, ?_⟩; rw [nN_nI (show jx < 2 ^ 31 by omega)]; refine ⟨?_, ?_, ?_, ?_, ?_, ?_⟩ <;> intros <;> first | contradiction | rfl | exact ⟨rfl, rfl⟩ | omega  | exact ⟨bI_1 (by assumption), rfl⟩ | exact ⟨bI_z (by assumption), rfl⟩)
          · refine z_iconst (v := nI 1) B dX7_reverse_44 (by decide) ?_
            refine z_goto B 49 dX7_reverse_45 (by decide) ?_
            refine z_istore_n (lv1 := [(2, .int (nI (1))), (0, .ref (h)), (1, .int (nI (jx)))]) B dX7_reverse_49 rfl (by decide) rfl ?_
            refine z_aload_n B 1 dX7_reverse_50 rfl rfl ?_
            refine z_aload_n B 1 dX7_reverse_51 rfl rfl ?_
            refine z_iload_n B 2 dX7_reverse_52 rfl rfl ?_
            refine z_callP (As := [.int (nI (jx))]) (st := [.ref (h)]) (C := RX7) (T := TX7) (N := 30) (ci := 7) (l := l) B hl (c7_isPage l D g h a M hI (nI (jx))) gX7_reverse_X7_isPage rfl ⟨rfl, rfl⟩ nm_X7_isPage ⟨by decide, by decide⟩ (fun _ h => h) 0 rfl rfl rfl (Nat.le_of_ble_eq_true rfl) dX7_reverse_53 (Nat.zero_le _) (Nat.zero_le _) (fun r hr => ?_)
            subst hr
            refine z_ifB_ne B 63 dX7_reverse_56 (by decide) (fun _ => ?_) (fun h => absurd zkc5 h)
            refine z_iload_n B 0 dX7_reverse_63 rfl rfl ?_
            refine z_if_eq B 71 dX7_reverse_64 (by decide) (fun h => absurd h (by decide)) (fun _ => ?_)
            refine z_iconst (v := nI 0) B dX7_reverse_67 (by decide) ?_
            refine z_goto B 72 dX7_reverse_68 (by decide) ?_
            refine z_callM (As := [.int (nI (0))]) (st := []) (C := RX7) (T := TX7) (N := 30) (ci := 7) (l := l) B hl (c7_refused l D g h a M (nI (0))) gX7_reverse_X7_refused rfl ⟨rfl, rfl⟩ nm_X7_refused ⟨by decide, by decide⟩ 0 rfl rfl rfl (Nat.le_of_ble_eq_true rfl) dX7_reverse_72 rfl rfl (by decide) (by decide) (fun r w1 hr => ?_)
            obtain ⟨hr1, rfl⟩ := hr
            rw [bI_f (show ¬ ¬ nI (0) = 0 by decide)] at hr1
            obtain rfl : r = nI 0 := hr1
            refine z_if_eq B 80 dX7_reverse_75 (by decide) (fun _ => ?_) (fun h => absurd h (by decide))
            refine z_aload_n B 1 dX7_reverse_80 rfl rfl ?_
            refine z_get (C := RX7) (T := TX7) (N := 30) (v := .int (M 5 0)) B 0 5 3 fw_X7_reverse_X7 rfl rfl (by decide) rfl rfl rfl dX7_reverse_81 ?_
            refine z_top (y := nI (mP M)) (MI_5 hI) ?_
            refine z_istore_n (lv1 := [(3, .int (nI (mP M))), (2, .int (nI (1))), (0, .ref (h)), (1, .int (nI (jx)))]) B dX7_reverse_84 rfl (by decide) rfl ?_
            refine z_aload_n B 2 dX7_reverse_85 rfl rfl ?_
            refine z_aload_n B 2 dX7_reverse_86 rfl rfl ?_
            refine z_get (C := RX7) (T := TX7) (N := 30) (v := .ref (a 7)) B 0 7 4 fw_X7_reverse_X7 rfl rfl (by decide) rfl rfl rfl dX7_reverse_87 ?_
            refine z_iload_n B 3 dX7_reverse_90 rfl rfl ?_
            refine z_iald (g := (M 7)) (i := jx) B 4 0 rfl rfl (by omega) (by decide) dX7_reverse_91 ?_
            refine z_callMV (As := [.int (M 7 jx)]) (st := []) (C := RX7) (T := TX7) (N := 30) (ci := 7) (l := l) B hl (c7_begin l D g h a (up2 M 0 0 (nI (0))) (MI_up0 hI) (M 7 jx) (show mP (up2 M 0 0 (nI (0))) < 80 from (by omega : mP M < 80))) gX7_reverse_X7_begin rfl ⟨rfl, rfl⟩ nm_X7_begin ⟨by decide, by decide⟩ 0 rfl rfl rfl (Nat.le_of_ble_eq_true rfl) dX7_reverse_92 rfl rfl (by decide) (by decide) (fun w1 hr => ?_)
            subst hr
            refine z_iconst (v := nI 4) B dX7_reverse_95 (by decide) ?_
            refine z_iload_n B 3 dX7_reverse_96 rfl rfl ?_
            refine z_imulN B dX7_reverse_97 ?_
            refine z_istore (lv1 := [(4, .int (nI (4 * jx))), (3, .int (nI (mP M))), (2, .int (nI (1))), (0, .ref (h)), (1, .int (nI (jx)))]) B dX7_reverse_98 (by decide) rfl ?_
            have bL := MI_b8 hI jx
            have loop100 : ∀ (n0 i : Nat), i ≤ mL M jx → mL M jx + 1 ≤ i + n0 → zJ X 5 (zI1 D A (zs X)) Q (wM g h a (ptN (bgM (up2 M 0 0 (nI (0))) (M 7 jx)) (mP M) (fun l => M 9 (4 * jx + l)) (fun l => -(M 10 (4 * jx + l))) i)) 0 0 [(0, .ref (h)), (1, .int (nI (jx))), (2, .int (nI (1))), (3, .int (nI (mP M))), (4, .int (nI (4 * jx + i)))] 100 [] := by
              intro n100
              induction n100 with
              | zero => intro i h1 h2; exact absurd h2 (by omega)
              | succ n100 ih100 =>
                intro i hle100 hn100
                refine z_iload B 4 dX7_reverse_100 rfl ?_
                refine z_iconst (v := nI 4) B dX7_reverse_102 (by decide) ?_
                refine z_iload_n B 1 dX7_reverse_103 rfl rfl ?_
                refine z_imulN B dX7_reverse_104 ?_
                refine z_aload_n B 0 dX7_reverse_105 rfl rfl ?_
                refine z_get (C := RX7) (T := TX7) (N := 30) (v := .ref (a 8)) B 0 8 5 fw_X7_reverse_X7 rfl rfl (by decide) rfl rfl rfl dX7_reverse_106 ?_
                refine z_iload_n B 1 dX7_reverse_109 rfl rfl ?_
                refine z_iald (g := ((ptN (bgM (up2 M 0 0 (nI (0))) (M 7 jx)) (mP M) (fun l => M 9 (4 * jx + l)) (fun l => -(M 10 (4 * jx + l))) i) 8)) (i := jx) B 5 0 rfl rfl (by omega) (by decide) dX7_reverse_110 ?_
                refine z_top (y := nI (mL M jx)) ((ptN_p (bgM (up2 M 0 0 (nI (0))) (M 7 jx)) (mP M) (fun l => M 9 (4 * jx + l)) (fun l => -(M 10 (4 * jx + l))) (q := jx) (by omega) i).trans ((up2_o8 (by omega)).trans (MI_8 hI jx))) ?_
                refine z_iaddN B dX7_reverse_111 ?_
                refine z_icmpN_ge B 140 dX7_reverse_112 (by decide) (by omega) (by omega) (fun zc112 => ?_) (fun zc112 => ?_)
                · obtain rfl : i = mL M jx := by omega
                  refine z_aload_n B 0 dX7_reverse_140 rfl rfl ?_
                  refine z_get (C := RX7) (T := TX7) (N := 30) (v := .ref (a 14)) B 0 14 2 fw_X7_reverse_X7 rfl rfl (by decide) rfl rfl rfl dX7_reverse_141 ?_
                  refine z_iload_n B 3 dX7_reverse_144 rfl rfl ?_
                  refine z_iconst (v := nI 1) B dX7_reverse_145 (by decide) ?_
                  refine z_zast (g := ((ptN (bgM (up2 M 0 0 (nI (0))) (M 7 jx)) (mP M) (fun l => M 9 (4 * jx + l)) (fun l => -(M 10 (4 * jx + l))) (mL M jx)) 14)) (i := mP M) (w' := wM g h a (up2 (ptN (bgM (up2 M 0 0 (nI (0))) (M 7 jx)) (mP M) (fun l => M 9 (4 * jx + l)) (fun l => -(M 10 (4 * jx + l))) (mL M jx)) 14 (mP M) (nI (1)))) B 11 1 rfl rfl (by omega) (by decide) (Or.inr rfl) dX7_reverse_146 rfl ?_
                  refine z_aload_n B 0 dX7_reverse_147 rfl rfl ?_
                  refine z_get (C := RX7) (T := TX7) (N := 30) (v := .ref (a 13)) B 0 13 1 fw_X7_reverse_X7 rfl rfl (by decide) rfl rfl rfl dX7_reverse_148 ?_
                  refine z_iload_n B 1 dX7_reverse_151 rfl rfl ?_
                  refine z_iload_n B 3 dX7_reverse_152 rfl rfl ?_
                  refine z_iast (g := ((ptN (bgM (up2 M 0 0 (nI (0))) (M 7 jx)) (mP M) (fun l => M 9 (4 * jx + l)) (fun l => -(M 10 (4 * jx + l))) (mL M jx)) 13)) (i := jx) (w' := wM g h a (up2 (up2 (ptN (bgM (up2 M 0 0 (nI (0))) (M 7 jx)) (mP M) (fun l => M 9 (4 * jx + l)) (fun l => -(M 10 (4 * jx + l))) (mL M jx)) 14 (mP M) (nI (1))) 13 jx (nI (mP M)))) B 10 0 rfl rfl (by omega) (by decide) dX7_reverse_153 rfl ?_
                  refine z_iload_n B 3 dX7_reverse_154 rfl rfl ?_
                  subst hQ
                  exact z_mret B hAe hr dX7_reverse_155 rfl (by decide) (by decide) (by refine ⟨_, rfl, ?_⟩; rw [nN_nI (show jx < 2 ^ 31 by omega)]; refine ⟨?_, ?_, ?_, ?_, ?_, ?_⟩ <;> intros <;> first | contradiction | rfl | exact ⟨rfl, rfl⟩ | omega  | exact ⟨bI_1 (by assumption), rfl⟩ | exact ⟨bI_z (by assumption), rfl⟩)
                · refine z_aload_n B 0 dX7_reverse_115 rfl rfl ?_
                  refine z_aload_n B 0 dX7_reverse_116 rfl rfl ?_
                  refine z_get (C := RX7) (T := TX7) (N := 30) (v := .ref (a 9)) B 0 9 6 fw_X7_reverse_X7 rfl rfl (by decide) rfl rfl rfl dX7_reverse_117 ?_
                  refine z_iload B 4 dX7_reverse_120 rfl ?_
                  refine z_iald (g := ((ptN (bgM (up2 M 0 0 (nI (0))) (M 7 jx)) (mP M) (fun l => M 9 (4 * jx + l)) (fun l => -(M 10 (4 * jx + l))) i) 9)) (i := 4 * jx + i) B 6 0 rfl rfl (by omega) (by decide) dX7_reverse_122 ?_
                  refine z_top (y := M 9 (4 * jx + i)) (ptN_o (bgM (up2 M 0 0 (nI (0))) (M 7 jx)) (mP M) (fun l => M 9 (4 * jx + l)) (fun l => -(M 10 (4 * jx + l))) (k := 9) (q := 4 * jx + i) (by omega) (by omega) i) ?_
                  refine z_aload_n B 0 dX7_reverse_123 rfl rfl ?_
                  refine z_get (C := RX7) (T := TX7) (N := 30) (v := .ref (a 10)) B 0 10 7 fw_X7_reverse_X7 rfl rfl (by decide) rfl rfl rfl dX7_reverse_124 ?_
                  refine z_iload B 4 dX7_reverse_127 rfl ?_
                  refine z_iald (g := ((ptN (bgM (up2 M 0 0 (nI (0))) (M 7 jx)) (mP M) (fun l => M 9 (4 * jx + l)) (fun l => -(M 10 (4 * jx + l))) i) 10)) (i := 4 * jx + i) B 7 0 rfl rfl (by omega) (by decide) dX7_reverse_129 ?_
                  refine z_top (y := M 10 (4 * jx + i)) (ptN_o (bgM (up2 M 0 0 (nI (0))) (M 7 jx)) (mP M) (fun l => M 9 (4 * jx + l)) (fun l => -(M 10 (4 * jx + l))) (k := 10) (q := 4 * jx + i) (by omega) (by omega) i) ?_
                  refine z_ineg B dX7_reverse_130 ?_
                  refine z_callMV (As := [.int (M 9 (4 * jx + i)), .int ((-(M 10 (4 * jx + i))))]) (st := []) (C := RX7) (T := TX7) (N := 30) (ci := 7) (l := l) B hl (c7_put l D g h a (ptN (bgM (up2 M 0 0 (nI (0))) (M 7 jx)) (mP M) (fun l => M 9 (4 * jx + l)) (fun l => -(M 10 (4 * jx + l))) i) (M 9 (4 * jx + i)) (-(M 10 (4 * jx + i))) (mP M) i (congrFun (ptN_k (bgM (up2 M 0 0 (nI (0))) (M 7 jx)) (mP M) (fun l => M 9 (4 * jx + l)) (fun l => -(M 10 (4 * jx + l))) (k := 5) (by decide) i) 0) (by omega) (ptN_8 (bgM (up2 M 0 0 (nI (0))) (M 7 jx)) (mP M) (fun l => M 9 (4 * jx + l)) (fun l => -(M 10 (4 * jx + l))) bgM_8 i) (by omega)) gX7_reverse_X7_put rfl ⟨rfl, rfl⟩ nm_X7_put ⟨by decide, by decide⟩ 0 rfl rfl rfl (Nat.le_of_ble_eq_true rfl) dX7_reverse_131 rfl rfl (by decide) (by decide) (fun w1 hr => ?_)
                  subst hr
                  refine z_iinc B 4 (lv1 := [(4, .int (nI (4 * jx + i + 1))), (0, .ref (h)), (1, .int (nI (jx))), (2, .int (nI (1))), (3, .int (nI (mP M)))]) dX7_reverse_134 rfl (nI_1 _) (by decide) rfl ?_
                  refine z_goto B 100 dX7_reverse_137 (by decide) ?_
                  refine z_loc [1, 2, 3, 4, 0] (lv' := [(0, .ref (h)), (1, .int (nI (jx))), (2, .int (nI (1))), (3, .int (nI (mP M))), (4, .int (nI (4 * jx + i + 1)))]) rfl ?_
                  refine z_lvc (lv' := [(0, .ref (h)), (1, .int (nI (jx))), (2, .int (nI (1))), (3, .int (nI (mP M))), (4, .int (nI (4 * jx + (i + 1))))]) (by rfl) ?_
                  refine z_w (w' := wM g h a (ptN (bgM (up2 M 0 0 (nI (0))) (M 7 jx)) (mP M) (fun l => M 9 (4 * jx + l)) (fun l => -(M 10 (4 * jx + l))) (i + 1))) (by rfl) ?_
                  exact ih100 (i + 1) (by omega) (by omega)
            refine z_loc [3, 4, 2, 1, 0] (lv' := [(0, .ref (h)), (1, .int (nI (jx))), (2, .int (nI (1))), (3, .int (nI (mP M))), (4, .int (nI (4 * jx)))]) rfl ?_
            refine z_lvc (lv' := [(0, .ref (h)), (1, .int (nI (jx))), (2, .int (nI (1))), (3, .int (nI (mP M))), (4, .int (nI (4 * jx + 0)))]) (by rfl) ?_
            refine z_w (w' := wM g h a (ptN (bgM (up2 M 0 0 (nI (0))) (M 7 jx)) (mP M) (fun l => M 9 (4 * jx + l)) (fun l => -(M 10 (4 * jx + l))) 0)) (by rfl) ?_
            exact loop100 (mL M jx + 1) 0 (by omega) (by omega)
theorem fw_X7_pass_X7 : zF wsX7_pass RX7 TX7 30 := fun _ h => List.mem_cons_of_mem _ (List.mem_append_right _ (h))
set_option maxHeartbeats 4000000 in
set_option maxRecDepth 100000 in
theorem c7_pass (l : Launch) (D : va_G) (g : zG) (h : Nat) (a : Nat → Nat) (M : zMS) (hI : MI M) (x : Int32) : zMutI l yX7_pass wsX7_pass { frames := 1, cells := 0, slots := 0, locals := 22 } D (zT g) (wM g h a M) [.ref h, .int (x)] (fun r w' => ∃ M', w' = wM g h a M' ∧ (¬ (nI (1) ≤ x ∧ x ≤ nI (100)) → M' = up2 M 0 0 (nI 1)) ∧ ((nI (1) ≤ x ∧ x ≤ nI (100)) → ¬ (nI (mT M) + x) ≤ nI (400) → M' = up2 M 0 0 (nI 2)) ∧ ((nI (1) ≤ x ∧ x ≤ nI (100)) → (nI (mT M) + x) ≤ nI (400) → r = nI (mT M) + x ∧ M' = up2 (up2 M 0 0 (nI 0)) 1 0 (nI (mT M) + x))) 0 0 := by
  refine zMutI_of (cc := cX7_pass) (maxL := 2) (ret := (some .int)) (own := RX7) [(0, .ref (h)), (1, .int (x))] (by decide) rfl rfl rfl (Nat.le_of_ble_eq_true rfl) ?_
  intro X A hAe hl B hr hin
  obtain ⟨b5, b2, b15, b23, b25, b1⟩ := MI_bs hI
  refine z_aload_n B 0 dX7_pass_0 rfl rfl ?_
  refine z_iload_n B 1 dX7_pass_1 rfl rfl ?_
  refine z_iconst (v := nI 1) B dX7_pass_2 (by decide) ?_
  refine z_bipush (v := nI 100) B dX7_pass_3 (by decide) ?_
  refine z_callS (As := [.int (x), .int (nI (1)), .int (nI (100))]) (st := [.ref (h)]) (l := l) B hl (c7_in l D g h a M x (nI (1)) (nI (100))) gX7_pass_X7_in rfl ⟨rfl, rfl⟩ nm_X7_in ⟨by decide, by decide⟩ (fun _ h => h) rfl (Nat.le_of_ble_eq_true rfl) dX7_pass_5 (Nat.zero_le _) (Nat.zero_le _) (fun r hr => ?_)
  subst hr
  refine z_ifB_ne B 15 dX7_pass_8 (by decide) (fun zc8 => ?_) (fun zc8 => ?_)
  · refine z_aload_n B 0 dX7_pass_15 rfl rfl ?_
    refine z_get (C := RX7) (T := TX7) (N := 30) (v := .int (M 1 0)) B 0 1 1 fw_X7_pass_X7 rfl rfl (by decide) rfl rfl rfl dX7_pass_16 ?_
    refine z_top (y := nI (mT M)) (MI_1 hI) ?_
    refine z_iload_n B 1 dX7_pass_19 rfl rfl ?_
    refine z_iadd B dX7_pass_20 ?_
    refine z_sipush (v := nI 400) B dX7_pass_21 (by decide) ?_
    refine z_icmp_le B 31 dX7_pass_24 (by decide) (fun zc24 => ?_) (fun zc24 => ?_)
    · refine z_iconst (v := nI 0) B dX7_pass_31 (by decide) ?_
      refine z_callM (As := [.int (nI (0))]) (st := []) (C := RX7) (T := TX7) (N := 30) (ci := 7) (l := l) B hl (c7_refused l D g h a M (nI (0))) gX7_pass_X7_refused rfl ⟨rfl, rfl⟩ nm_X7_refused ⟨by decide, by decide⟩ 0 rfl rfl rfl (Nat.le_of_ble_eq_true rfl) dX7_pass_32 rfl rfl (by decide) (by decide) (fun r w1 hr => ?_)
      obtain ⟨hr1, rfl⟩ := hr
      rw [bI_f (show ¬ ¬ nI (0) = 0 by decide)] at hr1
      obtain rfl : r = nI 0 := hr1
      refine z_if_eq B 40 dX7_pass_35 (by decide) (fun _ => ?_) (fun h => absurd h (by decide))
      refine z_aload_n B 0 dX7_pass_40 rfl rfl ?_
      refine z_dup B dX7_pass_41 rfl ?_
      refine z_get (C := RX7) (T := TX7) (N := 30) (v := .int (M 1 0)) B 0 1 1 fw_X7_pass_X7 rfl rfl (by decide) rfl rfl rfl dX7_pass_42 ?_
      refine z_top (y := nI (mT M)) (MI_1 hI) ?_
      refine z_iload_n B 1 dX7_pass_45 rfl rfl ?_
      refine z_iadd B dX7_pass_46 ?_
      refine z_put (C := RX7) (T := TX7) (N := 30) (w' := wM g h a (up2 (up2 M 0 0 (nI (0))) 1 0 ((nI (mT M)) + x))) B 0 1 1 fw_X7_pass_X7 tyX7 tyX7_ok nmX7 rfl rfl (by decide) rfl rfl rfl rfl rfl (Nat.le_of_ble_eq_true rfl) dX7_pass_47 rfl ?_
      refine z_aload_n B 0 dX7_pass_50 rfl rfl ?_
      refine z_get (C := RX7) (T := TX7) (N := 30) (v := .int (((nI (mT M)) + x))) B 0 1 1 fw_X7_pass_X7 rfl rfl (by decide) rfl rfl rfl dX7_pass_51 ?_
      exact z_mret B hAe hr dX7_pass_54 rfl (by decide) (by decide) (by refine ⟨_, rfl, ?_⟩; refine ⟨?_, ?_, ?_⟩ <;> intros <;> first | contradiction | rfl | exact ⟨rfl, rfl⟩ | omega  | exact ⟨bI_1 (by assumption), rfl⟩ | exact ⟨bI_z (by assumption), rfl⟩)
    · refine z_iconst (v := nI 2) B dX7_pass_27 (by decide) ?_
      refine z_goto B 32 dX7_pass_28 (by decide) ?_
      refine z_callM (As := [.int (nI (2))]) (st := []) (C := RX7) (T := TX7) (N := 30) (ci := 7) (l := l) B hl (c7_refused l D g h a M (nI (2))) gX7_pass_X7_refused rfl ⟨rfl, rfl⟩ nm_X7_refused ⟨by decide, by decide⟩ 0 rfl rfl rfl (Nat.le_of_ble_eq_true rfl) dX7_pass_32 rfl rfl (by decide) (by decide) (fun r w1 hr => ?_)
      obtain ⟨hr1, rfl⟩ := hr
      rw [bI_t (show ¬ nI (2) = 0 by decide)] at hr1
      obtain rfl : r = nI 1 := hr1
      refine z_if_eq B 40 dX7_pass_35 (by decide) (fun h => absurd h (by decide)) (fun _ => ?_)
      refine z_iconst (v := nI 0) B dX7_pass_38 (by decide) ?_
      exact z_mret B hAe hr dX7_pass_39 rfl (by decide) (by decide) (by refine ⟨_, rfl, ?_⟩; refine ⟨?_, ?_, ?_⟩ <;> intros <;> first | contradiction | rfl | exact ⟨rfl, rfl⟩ | omega  | exact ⟨bI_1 (by assumption), rfl⟩ | exact ⟨bI_z (by assumption), rfl⟩)
  · refine z_iconst (v := nI 1) B dX7_pass_11 (by decide) ?_
    refine z_goto B 32 dX7_pass_12 (by decide) ?_
    refine z_callM (As := [.int (nI (1))]) (st := []) (C := RX7) (T := TX7) (N := 30) (ci := 7) (l := l) B hl (c7_refused l D g h a M (nI (1))) gX7_pass_X7_refused rfl ⟨rfl, rfl⟩ nm_X7_refused ⟨by decide, by decide⟩ 0 rfl rfl rfl (Nat.le_of_ble_eq_true rfl) dX7_pass_32 rfl rfl (by decide) (by decide) (fun r w1 hr => ?_)
    obtain ⟨hr1, rfl⟩ := hr
    rw [bI_t (show ¬ nI (1) = 0 by decide)] at hr1
    obtain rfl : r = nI 1 := hr1
    refine z_if_eq B 40 dX7_pass_35 (by decide) (fun h => absurd h (by decide)) (fun _ => ?_)
    refine z_iconst (v := nI 0) B dX7_pass_38 (by decide) ?_
    exact z_mret B hAe hr dX7_pass_39 rfl (by decide) (by decide) (by refine ⟨_, rfl, ?_⟩; refine ⟨?_, ?_, ?_⟩ <;> intros <;> first | contradiction | rfl | exact ⟨rfl, rfl⟩ | omega  | exact ⟨bI_1 (by assumption), rfl⟩ | exact ⟨bI_z (by assumption), rfl⟩)
theorem fw_X7_burn_X7 : zF wsX7_burn RX7 TX7 30 := fun _ h => List.mem_cons_of_mem _ (List.mem_append_right _ (h))
set_option maxHeartbeats 4000000 in
set_option maxRecDepth 100000 in
theorem c7_burn (l : Launch) (D : va_G) (g : zG) (h : Nat) (a : Nat → Nat) (M : zMS) (hI : MI M) (x : Int32) (y : Int32) : zMutI l yX7_burn wsX7_burn { frames := 2, cells := 0, slots := 0, locals := 43 } D (zT g) (wM g h a M) [.ref h, .int (x), .int (y)] (fun r w' => ∃ M', w' = wM g h a M' ∧ (¬ rng x (mP M) → M' = up2 M 0 0 (nI 1)) ∧ (rng x (mP M) → ¬ rng y (mP M) → M' = up2 M 0 0 (nI 1)) ∧ (rng x (mP M) → rng y (mP M) → nN y < nN x → M' = up2 M 0 0 (nI 2)) ∧ (rng x (mP M) → rng y (mP M) → nN x ≤ nN y → r = nI (zcnt (fun l => M 12 (nN x + l) = 0) (nN y + 1 - nN x)) ∧ M' = buN (up2 M 0 0 (nI 0)) (nN x) (nN y + 1 - nN x))) 0 0 := by
  refine zMutI_of (cc := cX7_burn) (maxL := 6) (ret := (some .int)) (own := RX7) [(0, .ref (h)), (1, .int (x)), (2, .int (y))] (by decide) rfl rfl rfl (Nat.le_of_ble_eq_true rfl) ?_
  intro X A hAe hl B hr hin
  obtain ⟨b5, b2, b15, b23, b25, b1⟩ := MI_bs hI
  generalize hQ : (zQe X (va_Qi (fun r w' => ∃ M', w' = wM g h a M' ∧ (¬ rng x (mP M) → M' = up2 M 0 0 (nI 1)) ∧ (rng x (mP M) → ¬ rng y (mP M) → M' = up2 M 0 0 (nI 1)) ∧ (rng x (mP M) → rng y (mP M) → nN y < nN x → M' = up2 M 0 0 (nI 2)) ∧ (rng x (mP M) → rng y (mP M) → nN x ≤ nN y → r = nI (zcnt (fun l => M 12 (nN x + l) = 0) (nN y + 1 - nN x)) ∧ M' = buN (up2 M 0 0 (nI 0)) (nN x) (nN y + 1 - nN x))) (zEnd D (zT g) (wM g h a M) (zs X).heap.size) A) 0 0 A) = Q
  refine z_aload_n B 0 dX7_burn_0 rfl rfl ?_
  refine z_iload_n B 1 dX7_burn_1 rfl rfl ?_
  refine z_callP (As := [.int (x)]) (st := []) (C := RX7) (T := TX7) (N := 30) (ci := 7) (l := l) B hl (c7_isPage l D g h a M hI x) gX7_burn_X7_isPage rfl ⟨rfl, rfl⟩ nm_X7_isPage ⟨by decide, by decide⟩ (fun _ h => h) 0 rfl rfl rfl (Nat.le_of_ble_eq_true rfl) dX7_burn_2 (Nat.zero_le _) (Nat.zero_le _) (fun r hr => ?_)
  subst hr
  refine z_ifB_eq B 20 dX7_burn_5 (by decide) (fun zc5 => ?_) (fun zc5 => ?_)
  · refine z_iconst (v := nI 0) B dX7_burn_20 (by decide) ?_
    refine z_istore_n (lv1 := [(3, .int (nI (0))), (0, .ref (h)), (1, .int (x)), (2, .int (y))]) B dX7_burn_21 rfl (by decide) rfl ?_
    refine z_aload_n B 1 dX7_burn_22 rfl rfl ?_
    refine z_iload_n B 0 dX7_burn_23 rfl rfl ?_
    refine z_if_ne B 31 dX7_burn_24 (by decide) (fun h => absurd h (by decide)) (fun _ => ?_)
    refine z_iconst (v := nI 1) B dX7_burn_27 (by decide) ?_
    refine z_goto B 41 dX7_burn_28 (by decide) ?_
    refine z_callM (As := [.int (nI (1))]) (st := []) (C := RX7) (T := TX7) (N := 30) (ci := 7) (l := l) B hl (c7_refused l D g h a M (nI (1))) gX7_burn_X7_refused rfl ⟨rfl, rfl⟩ nm_X7_refused ⟨by decide, by decide⟩ 0 rfl rfl rfl (Nat.le_of_ble_eq_true rfl) dX7_burn_41 rfl rfl (by decide) (by decide) (fun r w1 hr => ?_)
    obtain ⟨hr1, rfl⟩ := hr
    rw [bI_t (show ¬ nI (1) = 0 by decide)] at hr1
    obtain rfl : r = nI 1 := hr1
    refine z_if_eq B 49 dX7_burn_44 (by decide) (fun h => absurd h (by decide)) (fun _ => ?_)
    refine z_iconst (v := nI 0) B dX7_burn_47 (by decide) ?_
    subst hQ
    exact z_mret B hAe hr dX7_burn_48 rfl (by decide) (by decide) (by refine ⟨_, rfl, ?_⟩; refine ⟨?_, ?_, ?_, ?_⟩ <;> intros <;> first | contradiction | rfl | exact ⟨rfl, rfl⟩ | omega  | exact ⟨bI_1 (by assumption), rfl⟩ | exact ⟨bI_z (by assumption), rfl⟩)
  · have zkc5 := zc5
    obtain ⟨jx, hjx, rfl⟩ := zc5
    refine z_aload_n B 0 dX7_burn_8 rfl rfl ?_
    refine z_iload_n B 2 dX7_burn_9 rfl rfl ?_
    refine z_callP (As := [.int (y)]) (st := []) (C := RX7) (T := TX7) (N := 30) (ci := 7) (l := l) B hl (c7_isPage l D g h a M hI y) gX7_burn_X7_isPage rfl ⟨rfl, rfl⟩ nm_X7_isPage ⟨by decide, by decide⟩ (fun _ h => h) 0 rfl rfl rfl (Nat.le_of_ble_eq_true rfl) dX7_burn_10 (Nat.zero_le _) (Nat.zero_le _) (fun r hr => ?_)
    subst hr
    refine z_ifB_eq B 20 dX7_burn_13 (by decide) (fun zc13 => ?_) (fun zc13 => ?_)
    · refine z_iconst (v := nI 0) B dX7_burn_20 (by decide) ?_
      refine z_istore_n (lv1 := [(3, .int (nI (0))), (0, .ref (h)), (1, .int (nI (jx))), (2, .int (y))]) B dX7_burn_21 rfl (by decide) rfl ?_
      refine z_aload_n B 1 dX7_burn_22 rfl rfl ?_
      refine z_iload_n B 0 dX7_burn_23 rfl rfl ?_
      refine z_if_ne B 31 dX7_burn_24 (by decide) (fun h => absurd h (by decide)) (fun _ => ?_)
      refine z_iconst (v := nI 1) B dX7_burn_27 (by decide) ?_
      refine z_goto B 41 dX7_burn_28 (by decide) ?_
      refine z_callM (As := [.int (nI (1))]) (st := []) (C := RX7) (T := TX7) (N := 30) (ci := 7) (l := l) B hl (c7_refused l D g h a M (nI (1))) gX7_burn_X7_refused rfl ⟨rfl, rfl⟩ nm_X7_refused ⟨by decide, by decide⟩ 0 rfl rfl rfl (Nat.le_of_ble_eq_true rfl) dX7_burn_41 rfl rfl (by decide) (by decide) (fun r w1 hr => ?_)
      obtain ⟨hr1, rfl⟩ := hr
      rw [bI_t (show ¬ nI (1) = 0 by decide)] at hr1
      obtain rfl : r = nI 1 := hr1
      refine z_if_eq B 49 dX7_burn_44 (by decide) (fun h => absurd h (by decide)) (fun _ => ?_)
      refine z_iconst (v := nI 0) B dX7_burn_47 (by decide) ?_
      subst hQ
      exact z_mret B hAe hr dX7_burn_48 rfl (by decide) (by decide) (by refine ⟨_, rfl, ?_⟩; rw [nN_nI (show jx < 2 ^ 31 by omega)]; refine ⟨?_, ?_, ?_, ?_⟩ <;> intros <;> first | contradiction | rfl | exact ⟨rfl, rfl⟩ | omega  | exact ⟨bI_1 (by assumption), rfl⟩ | exact ⟨bI_z (by assumption), rfl⟩)
    · have zkc13 := zc13
      obtain ⟨jy, hjy, rfl⟩ := zc13
      refine z_iconst (v := nI 1) B dX7_burn_16 (by decide) ?_
      refine z_goto B 21 dX7_burn_17 (by decide) ?_
      refine z_istore_n (lv1 := [(3, .int (nI (1))), (0, .ref (h)), (1, .int (nI (jx))), (2, .int (nI (jy)))]) B dX7_burn_21 rfl (by decide) rfl ?_
      refine z_aload_n B 1 dX7_burn_22 rfl rfl ?_
      refine z_iload_n B 0 dX7_burn_23 rfl rfl ?_
      refine z_if_ne B 31 dX7_burn_24 (by decide) (fun _ => ?_) (fun h => absurd h (by decide))
      refine z_iload_n B 3 dX7_burn_31 rfl rfl ?_
      refine z_iload_n B 2 dX7_burn_32 rfl rfl ?_
      refine z_icmpN_ge B 40 dX7_burn_33 (by decide) (by omega) (by omega) (fun zc33 => ?_) (fun zc33 => ?_)
      · refine z_iconst (v := nI 0) B dX7_burn_40 (by decide) ?_
        refine z_callM (As := [.int (nI (0))]) (st := []) (C := RX7) (T := TX7) (N := 30) (ci := 7) (l := l) B hl (c7_refused l D g h a M (nI (0))) gX7_burn_X7_refused rfl ⟨rfl, rfl⟩ nm_X7_refused ⟨by decide, by decide⟩ 0 rfl rfl rfl (Nat.le_of_ble_eq_true rfl) dX7_burn_41 rfl rfl (by decide) (by decide) (fun r w1 hr => ?_)
        obtain ⟨hr1, rfl⟩ := hr
        rw [bI_f (show ¬ ¬ nI (0) = 0 by decide)] at hr1
        obtain rfl : r = nI 0 := hr1
        refine z_if_eq B 49 dX7_burn_44 (by decide) (fun _ => ?_) (fun h => absurd h (by decide))
        refine z_iconst (v := nI 0) B dX7_burn_49 (by decide) ?_
        refine z_istore (lv1 := [(4, .int (nI (0))), (3, .int (nI (1))), (0, .ref (h)), (1, .int (nI (jx))), (2, .int (nI (jy)))]) B dX7_burn_50 (by decide) rfl ?_
        refine z_iload_n B 3 dX7_burn_52 rfl rfl ?_
        refine z_istore (lv1 := [(5, .int (nI (jx))), (4, .int (nI (0))), (3, .int (nI (1))), (0, .ref (h)), (1, .int (nI (jx))), (2, .int (nI (jy)))]) B dX7_burn_53 (by decide) rfl ?_
        have loop55 : ∀ (n0 i : Nat), i ≤ jy + 1 - jx → jy + 1 - jx + 1 ≤ i + n0 → zJ X 6 (zI1 D A (zs X)) Q (wM g h a (buN (up2 M 0 0 (nI (0))) jx i)) 0 0 [(0, .ref (h)), (1, .int (nI (jx))), (2, .int (nI (jy))), (3, .int (nI (1))), (4, .int (nI (zcnt (fun l => M 12 (jx + l) = 0) i))), (5, .int (nI (jx + i)))] 55 [] := by
          intro n55
          induction n55 with
          | zero => intro i h1 h2; exact absurd h2 (by omega)
          | succ n55 ih55 =>
            intro i hle55 hn55
            refine z_iload B 5 dX7_burn_55 rfl ?_
            refine z_iload_n B 2 dX7_burn_57 rfl rfl ?_
            refine z_icmpN_gt B 115 dX7_burn_58 (by decide) (by omega) (by omega) (fun zc58 => ?_) (fun zc58 => ?_)
            · obtain rfl : i = jy + 1 - jx := by omega
              refine z_iload B 4 dX7_burn_115 rfl ?_
              subst hQ
              exact z_mret B hAe hr dX7_burn_117 rfl (by decide) (by decide) (by refine ⟨_, rfl, ?_⟩; rw [nN_nI (show jx < 2 ^ 31 by omega)]; rw [nN_nI (show jy < 2 ^ 31 by omega)]; refine ⟨?_, ?_, ?_, ?_⟩ <;> intros <;> first | contradiction | rfl | exact ⟨rfl, rfl⟩ | omega  | exact ⟨bI_1 (by assumption), rfl⟩ | exact ⟨bI_z (by assumption), rfl⟩)
            · refine z_iload B 4 dX7_burn_61 rfl ?_
              refine z_aload_n B 0 dX7_burn_63 rfl rfl ?_
              refine z_get (C := RX7) (T := TX7) (N := 30) (v := .ref (a 12)) B 0 12 1 fw_X7_burn_X7 rfl rfl (by decide) rfl rfl rfl dX7_burn_64 ?_
              refine z_iload B 5 dX7_burn_67 rfl ?_
              refine z_iald (g := ((buN (up2 M 0 0 (nI (0))) jx i) 12)) (i := jx + i) B 9 0 rfl rfl (by omega) (by decide) dX7_burn_69 ?_
              refine z_top (y := M 12 (jx + i)) (buN_o (up2 M 0 0 (nI (0))) jx i (Or.inr (Nat.le_refl _))) ?_
              refine z_if_ne B 77 dX7_burn_70 (by decide) (fun zc70 => ?_) (fun zc70 => ?_)
              · refine z_iconst (v := nI 0) B dX7_burn_77 (by decide) ?_
                refine z_iaddN B dX7_burn_78 ?_
                refine z_istore (lv1 := [(4, .int (nI (zcnt (fun l => M 12 (jx + l) = 0) i + 0))), (0, .ref (h)), (1, .int (nI (jx))), (2, .int (nI (jy))), (3, .int (nI (1))), (5, .int (nI (jx + i)))]) B dX7_burn_79 (by decide) rfl ?_
                refine z_aload_n B 1 dX7_burn_81 rfl rfl ?_
                refine z_get (C := RX7) (T := TX7) (N := 30) (v := .ref (a 12)) B 0 12 1 fw_X7_burn_X7 rfl rfl (by decide) rfl rfl rfl dX7_burn_82 ?_
                refine z_iload B 5 dX7_burn_85 rfl ?_
                refine z_aload_n B 1 dX7_burn_87 rfl rfl ?_
                refine z_get (C := RX7) (T := TX7) (N := 30) (v := .ref (a 12)) B 0 12 1 fw_X7_burn_X7 rfl rfl (by decide) rfl rfl rfl dX7_burn_88 ?_
                refine z_iload B 5 dX7_burn_91 rfl ?_
                refine z_iald (g := ((buN (up2 M 0 0 (nI (0))) jx i) 12)) (i := jx + i) B 9 0 rfl rfl (by omega) (by decide) dX7_burn_93 ?_
                refine z_top (y := M 12 (jx + i)) (buN_o (up2 M 0 0 (nI (0))) jx i (Or.inr (Nat.le_refl _))) ?_
                refine z_if_ne B 101 dX7_burn_94 (by decide) (fun _ => ?_) (fun h => absurd h zc70)
                refine z_aload_n B 1 dX7_burn_101 rfl rfl ?_
                refine z_get (C := RX7) (T := TX7) (N := 30) (v := .ref (a 12)) B 0 12 1 fw_X7_burn_X7 rfl rfl (by decide) rfl rfl rfl dX7_burn_102 ?_
                refine z_iload B 5 dX7_burn_105 rfl ?_
                refine z_iald (g := ((buN (up2 M 0 0 (nI (0))) jx i) 12)) (i := jx + i) B 9 0 rfl rfl (by omega) (by decide) dX7_burn_107 ?_
                refine z_top (y := M 12 (jx + i)) (buN_o (up2 M 0 0 (nI (0))) jx i (Or.inr (Nat.le_refl _))) ?_
                refine z_iast (g := ((buN (up2 M 0 0 (nI (0))) jx i) 12)) (i := jx + i) (w' := wM g h a (up2 (buN (up2 M 0 0 (nI (0))) jx i) 12 (jx + i) (M 12 (jx + i)))) B 9 0 rfl rfl (by omega) (by decide) dX7_burn_108 rfl ?_
                refine z_iinc B 5 (lv1 := [(5, .int (nI (jx + i + 1))), (4, .int (nI (zcnt (fun l => M 12 (jx + l) = 0) i + 0))), (0, .ref (h)), (1, .int (nI (jx))), (2, .int (nI (jy))), (3, .int (nI (1)))]) dX7_burn_109 rfl (nI_1 _) (by decide) rfl ?_
                refine z_goto B 55 dX7_burn_112 (by decide) ?_
                refine z_loc [2, 3, 4, 5, 1, 0] (lv' := [(0, .ref (h)), (1, .int (nI (jx))), (2, .int (nI (jy))), (3, .int (nI (1))), (4, .int (nI (zcnt (fun l => M 12 (jx + l) = 0) i + 0))), (5, .int (nI (jx + i + 1)))]) rfl ?_
                refine z_lvc (lv' := [(0, .ref (h)), (1, .int (nI (jx))), (2, .int (nI (jy))), (3, .int (nI (1))), (4, .int (nI (zcnt (fun l => M 12 (jx + l) = 0) (i + 1)))), (5, .int (nI (jx + (i + 1))))]) (by first | (rw [zcnt_y (P := fun l => M 12 (jx + l) = 0) zc70] <;> rfl) | (rw [← zcnt_n (P := fun l => M 12 (jx + l) = 0) zc70] <;> rfl)) ?_
                refine z_w (w' := wM g h a (buN (up2 M 0 0 (nI (0))) jx (i + 1))) (by first | rw [buN, ifI_t (show (up2 M 0 0 (nI (0))) 12 (jx + i) = 0 from zc70)] | (rw [buN, ifI_f (show ¬ (up2 M 0 0 (nI (0))) 12 (jx + i) = 0 from zc70)]; rfl)) ?_
                exact ih55 (i + 1) (by omega) (by omega)
              · refine z_iconst (v := nI 1) B dX7_burn_73 (by decide) ?_
                refine z_goto B 78 dX7_burn_74 (by decide) ?_
                refine z_iaddN B dX7_burn_78 ?_
                refine z_istore (lv1 := [(4, .int (nI (zcnt (fun l => M 12 (jx + l) = 0) i + 1))), (0, .ref (h)), (1, .int (nI (jx))), (2, .int (nI (jy))), (3, .int (nI (1))), (5, .int (nI (jx + i)))]) B dX7_burn_79 (by decide) rfl ?_
                refine z_aload_n B 1 dX7_burn_81 rfl rfl ?_
                refine z_get (C := RX7) (T := TX7) (N := 30) (v := .ref (a 12)) B 0 12 1 fw_X7_burn_X7 rfl rfl (by decide) rfl rfl rfl dX7_burn_82 ?_
                refine z_iload B 5 dX7_burn_85 rfl ?_
                refine z_aload_n B 1 dX7_burn_87 rfl rfl ?_
                refine z_get (C := RX7) (T := TX7) (N := 30) (v := .ref (a 12)) B 0 12 1 fw_X7_burn_X7 rfl rfl (by decide) rfl rfl rfl dX7_burn_88 ?_
                refine z_iload B 5 dX7_burn_91 rfl ?_
                refine z_iald (g := ((buN (up2 M 0 0 (nI (0))) jx i) 12)) (i := jx + i) B 9 0 rfl rfl (by omega) (by decide) dX7_burn_93 ?_
                refine z_top (y := M 12 (jx + i)) (buN_o (up2 M 0 0 (nI (0))) jx i (Or.inr (Nat.le_refl _))) ?_
                refine z_if_ne B 101 dX7_burn_94 (by decide) (fun h => absurd zc70 h) (fun _ => ?_)
                refine z_iconst (v := nI 1) B dX7_burn_97 (by decide) ?_
                refine z_goto B 108 dX7_burn_98 (by decide) ?_
                refine z_iast (g := ((buN (up2 M 0 0 (nI (0))) jx i) 12)) (i := jx + i) (w' := wM g h a (up2 (buN (up2 M 0 0 (nI (0))) jx i) 12 (jx + i) (nI (1)))) B 9 0 rfl rfl (by omega) (by decide) dX7_burn_108 rfl ?_
                refine z_iinc B 5 (lv1 := [(5, .int (nI (jx + i + 1))), (4, .int (nI (zcnt (fun l => M 12 (jx + l) = 0) i + 1))), (0, .ref (h)), (1, .int (nI (jx))), (2, .int (nI (jy))), (3, .int (nI (1)))]) dX7_burn_109 rfl (nI_1 _) (by decide) rfl ?_
                refine z_goto B 55 dX7_burn_112 (by decide) ?_
                refine z_loc [2, 3, 4, 5, 1, 0] (lv' := [(0, .ref (h)), (1, .int (nI (jx))), (2, .int (nI (jy))), (3, .int (nI (1))), (4, .int (nI (zcnt (fun l => M 12 (jx + l) = 0) i + 1))), (5, .int (nI (jx + i + 1)))]) rfl ?_
                refine z_lvc (lv' := [(0, .ref (h)), (1, .int (nI (jx))), (2, .int (nI (jy))), (3, .int (nI (1))), (4, .int (nI (zcnt (fun l => M 12 (jx + l) = 0) (i + 1)))), (5, .int (nI (jx + (i + 1))))]) (by first | (rw [zcnt_y (P := fun l => M 12 (jx + l) = 0) zc70] <;> rfl) | (rw [← zcnt_n (P := fun l => M 12 (jx + l) = 0) zc70] <;> rfl)) ?_
                refine z_w (w' := wM g h a (buN (up2 M 0 0 (nI (0))) jx (i + 1))) (by first | rw [buN, ifI_t (show (up2 M 0 0 (nI (0))) 12 (jx + i) = 0 from zc70)] | (rw [buN, ifI_f (show ¬ (up2 M 0 0 (nI (0))) 12 (jx + i) = 0 from zc70)]; rfl)) ?_
                exact ih55 (i + 1) (by omega) (by omega)
        refine z_loc [3, 4, 5, 2, 1, 0] (lv' := [(0, .ref (h)), (1, .int (nI (jx))), (2, .int (nI (jy))), (3, .int (nI (1))), (4, .int (nI (0))), (5, .int (nI (jx)))]) rfl ?_
        refine z_lvc (lv' := [(0, .ref (h)), (1, .int (nI (jx))), (2, .int (nI (jy))), (3, .int (nI (1))), (4, .int (nI (zcnt (fun l => M 12 (jx + l) = 0) 0))), (5, .int (nI (jx + 0)))]) (by rfl) ?_
        refine z_w (w' := wM g h a (buN (up2 M 0 0 (nI (0))) jx 0)) (by rfl) ?_
        exact loop55 (jy + 1 - jx + 1) 0 (by omega) (by omega)
      · refine z_iconst (v := nI 2) B dX7_burn_36 (by decide) ?_
        refine z_goto B 41 dX7_burn_37 (by decide) ?_
        refine z_callM (As := [.int (nI (2))]) (st := []) (C := RX7) (T := TX7) (N := 30) (ci := 7) (l := l) B hl (c7_refused l D g h a M (nI (2))) gX7_burn_X7_refused rfl ⟨rfl, rfl⟩ nm_X7_refused ⟨by decide, by decide⟩ 0 rfl rfl rfl (Nat.le_of_ble_eq_true rfl) dX7_burn_41 rfl rfl (by decide) (by decide) (fun r w1 hr => ?_)
        obtain ⟨hr1, rfl⟩ := hr
        rw [bI_t (show ¬ nI (2) = 0 by decide)] at hr1
        obtain rfl : r = nI 1 := hr1
        refine z_if_eq B 49 dX7_burn_44 (by decide) (fun h => absurd h (by decide)) (fun _ => ?_)
        refine z_iconst (v := nI 0) B dX7_burn_47 (by decide) ?_
        subst hQ
        exact z_mret B hAe hr dX7_burn_48 rfl (by decide) (by decide) (by refine ⟨_, rfl, ?_⟩; rw [nN_nI (show jx < 2 ^ 31 by omega)]; rw [nN_nI (show jy < 2 ^ 31 by omega)]; refine ⟨?_, ?_, ?_, ?_⟩ <;> intros <;> first | contradiction | rfl | exact ⟨rfl, rfl⟩ | omega  | exact ⟨bI_1 (by assumption), rfl⟩ | exact ⟨bI_z (by assumption), rfl⟩)
theorem fw_X7_alter_X7 : zF wsX7_alter RX7 TX7 30 := fun _ h => List.mem_cons_of_mem _ (List.mem_append_right _ (h))
set_option maxHeartbeats 4000000 in
set_option maxRecDepth 100000 in
theorem c7_alter (l : Launch) (D : va_G) (g : zG) (h : Nat) (a : Nat → Nat) (M : zMS) (hI : MI M) (x : Int32) (y : Int32) (z : Int32) : zMutI l yX7_alter wsX7_alter { frames := 2, cells := 0, slots := 0, locals := 43 } D (zT g) (wM g h a M) [.ref h, .int (x), .int (y), .int (z)] (fun r w' => ∃ M', w' = wM g h a M' ∧ (¬ rng x (mP M) → M' = up2 M 0 0 (nI 1)) ∧ (rng x (mP M) → ¬ rng y 4 → M' = up2 M 0 0 (nI 2)) ∧ (rng x (mP M) → rng y 4 → ¬ ((-10000) ≤ z ∧ z ≤ nI (10000)) → M' = up2 M 0 0 (nI 2)) ∧ (rng x (mP M) → rng y 4 → ((-10000) ≤ z ∧ z ≤ nI (10000)) → ¬ M 12 (nN x) = 0 → M' = up2 M 0 0 (nI 3)) ∧ (rng x (mP M) → rng y 4 → ((-10000) ≤ z ∧ z ≤ nI (10000)) → M 12 (nN x) = 0 → mL M (nN x) ≤ nN y → M' = up2 M 0 0 (nI 3)) ∧ (rng x (mP M) → rng y 4 → ((-10000) ≤ z ∧ z ≤ nI (10000)) → M 12 (nN x) = 0 → nN y < mL M (nN x) → r = M 11 (4 * nN x + nN y) ∧ M' = up2 (up2 M 0 0 (nI 0)) 11 (4 * nN x + nN y) z)) 0 0 := by
  refine zMutI_of (cc := cX7_alter) (maxL := 7) (ret := (some .int)) (own := RX7) [(0, .ref (h)), (1, .int (x)), (2, .int (y)), (3, .int (z))] (by decide) rfl rfl rfl (Nat.le_of_ble_eq_true rfl) ?_
  intro X A hAe hl B hr hin
  obtain ⟨b5, b2, b15, b23, b25, b1⟩ := MI_bs hI
  refine z_iload_n B 2 dX7_alter_0 rfl rfl ?_
  refine z_iconst (v := nI 0) B dX7_alter_1 (by decide) ?_
  refine z_iconst (v := nI 3) B dX7_alter_2 (by decide) ?_
  refine z_callS (As := [.int (y), .int (nI (0)), .int (nI (3))]) (st := []) (l := l) B hl (c7_in l D g h a M y (nI (0)) (nI (3))) gX7_alter_X7_in rfl ⟨rfl, rfl⟩ nm_X7_in ⟨by decide, by decide⟩ (fun _ h => h) rfl (Nat.le_of_ble_eq_true rfl) dX7_alter_3 (Nat.zero_le _) (Nat.zero_le _) (fun r hr => ?_)
  rw [bI_cg (rng_in' (by decide))] at hr
  subst hr
  refine z_ifB_eq B 26 dX7_alter_6 (by decide) (fun zc6 => ?_) (fun zc6 => ?_)
  · refine z_iconst (v := nI 0) B dX7_alter_26 (by decide) ?_
    refine z_istore (lv1 := [(4, .int (nI (0))), (0, .ref (h)), (1, .int (x)), (2, .int (y)), (3, .int (z))]) B dX7_alter_27 (by decide) rfl ?_
    refine z_aload_n B 1 dX7_alter_29 rfl rfl ?_
    refine z_iload_n B 2 dX7_alter_30 rfl rfl ?_
    refine z_callP (As := [.int (x)]) (st := []) (C := RX7) (T := TX7) (N := 30) (ci := 7) (l := l) B hl (c7_isPage l D g h a M hI x) gX7_alter_X7_isPage rfl ⟨rfl, rfl⟩ nm_X7_isPage ⟨by decide, by decide⟩ (fun _ h => h) 0 rfl rfl rfl (Nat.le_of_ble_eq_true rfl) dX7_alter_31 (Nat.zero_le _) (Nat.zero_le _) (fun r hr => ?_)
    subst hr
    refine z_ifB_eq B 65 dX7_alter_34 (by decide) (fun zc34 => ?_) (fun zc34 => ?_)
    · refine z_iconst (v := nI 0) B dX7_alter_65 (by decide) ?_
      refine z_istore (lv1 := [(5, .int (nI (0))), (4, .int (nI (0))), (0, .ref (h)), (1, .int (x)), (2, .int (y)), (3, .int (z))]) B dX7_alter_66 (by decide) rfl ?_
      refine z_aload_n B 2 dX7_alter_68 rfl rfl ?_
      refine z_aload_n B 2 dX7_alter_69 rfl rfl ?_
      refine z_iload_n B 3 dX7_alter_70 rfl rfl ?_
      refine z_callP (As := [.int (x)]) (st := [.ref (h)]) (C := RX7) (T := TX7) (N := 30) (ci := 7) (l := l) B hl (c7_isPage l D g h a M hI x) gX7_alter_X7_isPage rfl ⟨rfl, rfl⟩ nm_X7_isPage ⟨by decide, by decide⟩ (fun _ h => h) 0 rfl rfl rfl (Nat.le_of_ble_eq_true rfl) dX7_alter_71 (Nat.zero_le _) (Nat.zero_le _) (fun r hr => ?_)
      subst hr
      refine z_ifB_ne B 81 dX7_alter_74 (by decide) (fun h => absurd h zc34) (fun _ => ?_)
      refine z_iconst (v := nI 1) B dX7_alter_77 (by decide) ?_
      refine z_goto B 100 dX7_alter_78 (by decide) ?_
      refine z_callM (As := [.int (nI (1))]) (st := []) (C := RX7) (T := TX7) (N := 30) (ci := 7) (l := l) B hl (c7_refused l D g h a M (nI (1))) gX7_alter_X7_refused rfl ⟨rfl, rfl⟩ nm_X7_refused ⟨by decide, by decide⟩ 0 rfl rfl rfl (Nat.le_of_ble_eq_true rfl) dX7_alter_100 rfl rfl (by decide) (by decide) (fun r w1 hr => ?_)
      obtain ⟨hr1, rfl⟩ := hr
      rw [bI_t (show ¬ nI (1) = 0 by decide)] at hr1
      obtain rfl : r = nI 1 := hr1
      refine z_if_eq B 108 dX7_alter_103 (by decide) (fun h => absurd h (by decide)) (fun _ => ?_)
      refine z_iconst (v := nI 0) B dX7_alter_106 (by decide) ?_
      exact z_mret B hAe hr dX7_alter_107 rfl (by decide) (by decide) (by refine ⟨_, rfl, ?_⟩; refine ⟨?_, ?_, ?_, ?_, ?_, ?_⟩ <;> intros <;> first | contradiction | rfl | exact ⟨rfl, rfl⟩ | omega  | exact ⟨bI_1 (by assumption), rfl⟩ | exact ⟨bI_z (by assumption), rfl⟩)
    · have zkc34 := zc34
      obtain ⟨jx, hjx, rfl⟩ := zc34
      refine z_iload B 0 dX7_alter_37 rfl ?_
      refine z_if_eq B 65 dX7_alter_39 (by decide) (fun _ => ?_) (fun h => absurd h (by decide))
      refine z_iconst (v := nI 0) B dX7_alter_65 (by decide) ?_
      refine z_istore (lv1 := [(5, .int (nI (0))), (4, .int (nI (0))), (0, .ref (h)), (1, .int (nI (jx))), (2, .int (y)), (3, .int (z))]) B dX7_alter_66 (by decide) rfl ?_
      refine z_aload_n B 2 dX7_alter_68 rfl rfl ?_
      refine z_aload_n B 2 dX7_alter_69 rfl rfl ?_
      refine z_iload_n B 3 dX7_alter_70 rfl rfl ?_
      refine z_callP (As := [.int (nI (jx))]) (st := [.ref (h)]) (C := RX7) (T := TX7) (N := 30) (ci := 7) (l := l) B hl (c7_isPage l D g h a M hI (nI (jx))) gX7_alter_X7_isPage rfl ⟨rfl, rfl⟩ nm_X7_isPage ⟨by decide, by decide⟩ (fun _ h => h) 0 rfl rfl rfl (Nat.le_of_ble_eq_true rfl) dX7_alter_71 (Nat.zero_le _) (Nat.zero_le _) (fun r hr => ?_)
      subst hr
      refine z_ifB_ne B 81 dX7_alter_74 (by decide) (fun _ => ?_) (fun h => absurd zkc34 h)
      refine z_iload B 1 dX7_alter_81 rfl ?_
      refine z_if_ne B 90 dX7_alter_83 (by decide) (fun h => absurd h (by decide)) (fun _ => ?_)
      refine z_iconst (v := nI 2) B dX7_alter_86 (by decide) ?_
      refine z_goto B 100 dX7_alter_87 (by decide) ?_
      refine z_callM (As := [.int (nI (2))]) (st := []) (C := RX7) (T := TX7) (N := 30) (ci := 7) (l := l) B hl (c7_refused l D g h a M (nI (2))) gX7_alter_X7_refused rfl ⟨rfl, rfl⟩ nm_X7_refused ⟨by decide, by decide⟩ 0 rfl rfl rfl (Nat.le_of_ble_eq_true rfl) dX7_alter_100 rfl rfl (by decide) (by decide) (fun r w1 hr => ?_)
      obtain ⟨hr1, rfl⟩ := hr
      rw [bI_t (show ¬ nI (2) = 0 by decide)] at hr1
      obtain rfl : r = nI 1 := hr1
      refine z_if_eq B 108 dX7_alter_103 (by decide) (fun h => absurd h (by decide)) (fun _ => ?_)
      refine z_iconst (v := nI 0) B dX7_alter_106 (by decide) ?_
      exact z_mret B hAe hr dX7_alter_107 rfl (by decide) (by decide) (by refine ⟨_, rfl, ?_⟩; rw [nN_nI (show jx < 2 ^ 31 by omega)]; refine ⟨?_, ?_, ?_, ?_, ?_, ?_⟩ <;> intros <;> first | contradiction | rfl | exact ⟨rfl, rfl⟩ | omega  | exact ⟨bI_1 (by assumption), rfl⟩ | exact ⟨bI_z (by assumption), rfl⟩)
  · have zkc6 := zc6
    obtain ⟨jy, hjy, rfl⟩ := zc6
    refine z_iload_n B 3 dX7_alter_9 rfl rfl ?_
    refine z_sipush (v := (-10000)) B dX7_alter_10 (by decide) ?_
    refine z_sipush (v := nI 10000) B dX7_alter_13 (by decide) ?_
    refine z_callS (As := [.int (z), .int ((-10000)), .int (nI (10000))]) (st := []) (l := l) B hl (c7_in l D g h a M z (-10000) (nI (10000))) gX7_alter_X7_in rfl ⟨rfl, rfl⟩ nm_X7_in ⟨by decide, by decide⟩ (fun _ h => h) rfl (Nat.le_of_ble_eq_true rfl) dX7_alter_16 (Nat.zero_le _) (Nat.zero_le _) (fun r hr => ?_)
    subst hr
    refine z_ifB_eq B 26 dX7_alter_19 (by decide) (fun zc19 => ?_) (fun zc19 => ?_)
    · refine z_iconst (v := nI 0) B dX7_alter_26 (by decide) ?_
      refine z_istore (lv1 := [(4, .int (nI (0))), (0, .ref (h)), (1, .int (x)), (2, .int (nI (jy))), (3, .int (z))]) B dX7_alter_27 (by decide) rfl ?_
      refine z_aload_n B 1 dX7_alter_29 rfl rfl ?_
      refine z_iload_n B 2 dX7_alter_30 rfl rfl ?_
      refine z_callP (As := [.int (x)]) (st := []) (C := RX7) (T := TX7) (N := 30) (ci := 7) (l := l) B hl (c7_isPage l D g h a M hI x) gX7_alter_X7_isPage rfl ⟨rfl, rfl⟩ nm_X7_isPage ⟨by decide, by decide⟩ (fun _ h => h) 0 rfl rfl rfl (Nat.le_of_ble_eq_true rfl) dX7_alter_31 (Nat.zero_le _) (Nat.zero_le _) (fun r hr => ?_)
      subst hr
      refine z_ifB_eq B 65 dX7_alter_34 (by decide) (fun zc34 => ?_) (fun zc34 => ?_)
      · refine z_iconst (v := nI 0) B dX7_alter_65 (by decide) ?_
        refine z_istore (lv1 := [(5, .int (nI (0))), (4, .int (nI (0))), (0, .ref (h)), (1, .int (x)), (2, .int (nI (jy))), (3, .int (z))]) B dX7_alter_66 (by decide) rfl ?_
        refine z_aload_n B 2 dX7_alter_68 rfl rfl ?_
        refine z_aload_n B 2 dX7_alter_69 rfl rfl ?_
        refine z_iload_n B 3 dX7_alter_70 rfl rfl ?_
        refine z_callP (As := [.int (x)]) (st := [.ref (h)]) (C := RX7) (T := TX7) (N := 30) (ci := 7) (l := l) B hl (c7_isPage l D g h a M hI x) gX7_alter_X7_isPage rfl ⟨rfl, rfl⟩ nm_X7_isPage ⟨by decide, by decide⟩ (fun _ h => h) 0 rfl rfl rfl (Nat.le_of_ble_eq_true rfl) dX7_alter_71 (Nat.zero_le _) (Nat.zero_le _) (fun r hr => ?_)
        subst hr
        refine z_ifB_ne B 81 dX7_alter_74 (by decide) (fun h => absurd h zc34) (fun _ => ?_)
        refine z_iconst (v := nI 1) B dX7_alter_77 (by decide) ?_
        refine z_goto B 100 dX7_alter_78 (by decide) ?_
        refine z_callM (As := [.int (nI (1))]) (st := []) (C := RX7) (T := TX7) (N := 30) (ci := 7) (l := l) B hl (c7_refused l D g h a M (nI (1))) gX7_alter_X7_refused rfl ⟨rfl, rfl⟩ nm_X7_refused ⟨by decide, by decide⟩ 0 rfl rfl rfl (Nat.le_of_ble_eq_true rfl) dX7_alter_100 rfl rfl (by decide) (by decide) (fun r w1 hr => ?_)
        obtain ⟨hr1, rfl⟩ := hr
        rw [bI_t (show ¬ nI (1) = 0 by decide)] at hr1
        obtain rfl : r = nI 1 := hr1
        refine z_if_eq B 108 dX7_alter_103 (by decide) (fun h => absurd h (by decide)) (fun _ => ?_)
        refine z_iconst (v := nI 0) B dX7_alter_106 (by decide) ?_
        exact z_mret B hAe hr dX7_alter_107 rfl (by decide) (by decide) (by refine ⟨_, rfl, ?_⟩; rw [nN_nI (show jy < 2 ^ 31 by omega)]; refine ⟨?_, ?_, ?_, ?_, ?_, ?_⟩ <;> intros <;> first | contradiction | rfl | exact ⟨rfl, rfl⟩ | omega  | exact ⟨bI_1 (by assumption), rfl⟩ | exact ⟨bI_z (by assumption), rfl⟩)
      · have zkc34 := zc34
        obtain ⟨jx, hjx, rfl⟩ := zc34
        refine z_iload B 0 dX7_alter_37 rfl ?_
        refine z_if_eq B 65 dX7_alter_39 (by decide) (fun _ => ?_) (fun h => absurd h (by decide))
        refine z_iconst (v := nI 0) B dX7_alter_65 (by decide) ?_
        refine z_istore (lv1 := [(5, .int (nI (0))), (4, .int (nI (0))), (0, .ref (h)), (1, .int (nI (jx))), (2, .int (nI (jy))), (3, .int (z))]) B dX7_alter_66 (by decide) rfl ?_
        refine z_aload_n B 2 dX7_alter_68 rfl rfl ?_
        refine z_aload_n B 2 dX7_alter_69 rfl rfl ?_
        refine z_iload_n B 3 dX7_alter_70 rfl rfl ?_
        refine z_callP (As := [.int (nI (jx))]) (st := [.ref (h)]) (C := RX7) (T := TX7) (N := 30) (ci := 7) (l := l) B hl (c7_isPage l D g h a M hI (nI (jx))) gX7_alter_X7_isPage rfl ⟨rfl, rfl⟩ nm_X7_isPage ⟨by decide, by decide⟩ (fun _ h => h) 0 rfl rfl rfl (Nat.le_of_ble_eq_true rfl) dX7_alter_71 (Nat.zero_le _) (Nat.zero_le _) (fun r hr => ?_)
        subst hr
        refine z_ifB_ne B 81 dX7_alter_74 (by decide) (fun _ => ?_) (fun h => absurd zkc34 h)
        refine z_iload B 1 dX7_alter_81 rfl ?_
        refine z_if_ne B 90 dX7_alter_83 (by decide) (fun h => absurd h (by decide)) (fun _ => ?_)
        refine z_iconst (v := nI 2) B dX7_alter_86 (by decide) ?_
        refine z_goto B 100 dX7_alter_87 (by decide) ?_
        refine z_callM (As := [.int (nI (2))]) (st := []) (C := RX7) (T := TX7) (N := 30) (ci := 7) (l := l) B hl (c7_refused l D g h a M (nI (2))) gX7_alter_X7_refused rfl ⟨rfl, rfl⟩ nm_X7_refused ⟨by decide, by decide⟩ 0 rfl rfl rfl (Nat.le_of_ble_eq_true rfl) dX7_alter_100 rfl rfl (by decide) (by decide) (fun r w1 hr => ?_)
        obtain ⟨hr1, rfl⟩ := hr
        rw [bI_t (show ¬ nI (2) = 0 by decide)] at hr1
        obtain rfl : r = nI 1 := hr1
        refine z_if_eq B 108 dX7_alter_103 (by decide) (fun h => absurd h (by decide)) (fun _ => ?_)
        refine z_iconst (v := nI 0) B dX7_alter_106 (by decide) ?_
        exact z_mret B hAe hr dX7_alter_107 rfl (by decide) (by decide) (by refine ⟨_, rfl, ?_⟩; rw [nN_nI (show jy < 2 ^ 31 by omega)]; rw [nN_nI (show jx < 2 ^ 31 by omega)]; refine ⟨?_, ?_, ?_, ?_, ?_, ?_⟩ <;> intros <;> first | contradiction | rfl | exact ⟨rfl, rfl⟩ | omega  | exact ⟨bI_1 (by assumption), rfl⟩ | exact ⟨bI_z (by assumption), rfl⟩)
    · refine z_iconst (v := nI 1) B dX7_alter_22 (by decide) ?_
      refine z_goto B 27 dX7_alter_23 (by decide) ?_
      refine z_istore (lv1 := [(4, .int (nI (1))), (0, .ref (h)), (1, .int (x)), (2, .int (nI (jy))), (3, .int (z))]) B dX7_alter_27 (by decide) rfl ?_
      refine z_aload_n B 1 dX7_alter_29 rfl rfl ?_
      refine z_iload_n B 2 dX7_alter_30 rfl rfl ?_
      refine z_callP (As := [.int (x)]) (st := []) (C := RX7) (T := TX7) (N := 30) (ci := 7) (l := l) B hl (c7_isPage l D g h a M hI x) gX7_alter_X7_isPage rfl ⟨rfl, rfl⟩ nm_X7_isPage ⟨by decide, by decide⟩ (fun _ h => h) 0 rfl rfl rfl (Nat.le_of_ble_eq_true rfl) dX7_alter_31 (Nat.zero_le _) (Nat.zero_le _) (fun r hr => ?_)
      subst hr
      refine z_ifB_eq B 65 dX7_alter_34 (by decide) (fun zc34 => ?_) (fun zc34 => ?_)
      · refine z_iconst (v := nI 0) B dX7_alter_65 (by decide) ?_
        refine z_istore (lv1 := [(5, .int (nI (0))), (4, .int (nI (1))), (0, .ref (h)), (1, .int (x)), (2, .int (nI (jy))), (3, .int (z))]) B dX7_alter_66 (by decide) rfl ?_
        refine z_aload_n B 2 dX7_alter_68 rfl rfl ?_
        refine z_aload_n B 2 dX7_alter_69 rfl rfl ?_
        refine z_iload_n B 3 dX7_alter_70 rfl rfl ?_
        refine z_callP (As := [.int (x)]) (st := [.ref (h)]) (C := RX7) (T := TX7) (N := 30) (ci := 7) (l := l) B hl (c7_isPage l D g h a M hI x) gX7_alter_X7_isPage rfl ⟨rfl, rfl⟩ nm_X7_isPage ⟨by decide, by decide⟩ (fun _ h => h) 0 rfl rfl rfl (Nat.le_of_ble_eq_true rfl) dX7_alter_71 (Nat.zero_le _) (Nat.zero_le _) (fun r hr => ?_)
        subst hr
        refine z_ifB_ne B 81 dX7_alter_74 (by decide) (fun h => absurd h zc34) (fun _ => ?_)
        refine z_iconst (v := nI 1) B dX7_alter_77 (by decide) ?_
        refine z_goto B 100 dX7_alter_78 (by decide) ?_
        refine z_callM (As := [.int (nI (1))]) (st := []) (C := RX7) (T := TX7) (N := 30) (ci := 7) (l := l) B hl (c7_refused l D g h a M (nI (1))) gX7_alter_X7_refused rfl ⟨rfl, rfl⟩ nm_X7_refused ⟨by decide, by decide⟩ 0 rfl rfl rfl (Nat.le_of_ble_eq_true rfl) dX7_alter_100 rfl rfl (by decide) (by decide) (fun r w1 hr => ?_)
        obtain ⟨hr1, rfl⟩ := hr
        rw [bI_t (show ¬ nI (1) = 0 by decide)] at hr1
        obtain rfl : r = nI 1 := hr1
        refine z_if_eq B 108 dX7_alter_103 (by decide) (fun h => absurd h (by decide)) (fun _ => ?_)
        refine z_iconst (v := nI 0) B dX7_alter_106 (by decide) ?_
        exact z_mret B hAe hr dX7_alter_107 rfl (by decide) (by decide) (by refine ⟨_, rfl, ?_⟩; rw [nN_nI (show jy < 2 ^ 31 by omega)]; refine ⟨?_, ?_, ?_, ?_, ?_, ?_⟩ <;> intros <;> first | contradiction | rfl | exact ⟨rfl, rfl⟩ | omega  | exact ⟨bI_1 (by assumption), rfl⟩ | exact ⟨bI_z (by assumption), rfl⟩)
      · have zkc34 := zc34
        obtain ⟨jx, hjx, rfl⟩ := zc34
        refine z_iload B 0 dX7_alter_37 rfl ?_
        refine z_if_eq B 65 dX7_alter_39 (by decide) (fun h => absurd h (by decide)) (fun _ => ?_)
        refine z_aload_n B 1 dX7_alter_42 rfl rfl ?_
        refine z_get (C := RX7) (T := TX7) (N := 30) (v := .ref (a 12)) B 0 12 1 fw_X7_alter_X7 rfl rfl (by decide) rfl rfl rfl dX7_alter_43 ?_
        refine z_iload_n B 2 dX7_alter_46 rfl rfl ?_
        refine z_iald (g := (M 12)) (i := jx) B 9 0 rfl rfl (by omega) (by decide) dX7_alter_47 ?_
        refine z_if_ne B 65 dX7_alter_48 (by decide) (fun zc48 => ?_) (fun zc48 => ?_)
        · refine z_iconst (v := nI 0) B dX7_alter_65 (by decide) ?_
          refine z_istore (lv1 := [(5, .int (nI (0))), (4, .int (nI (1))), (0, .ref (h)), (1, .int (nI (jx))), (2, .int (nI (jy))), (3, .int (z))]) B dX7_alter_66 (by decide) rfl ?_
          refine z_aload_n B 2 dX7_alter_68 rfl rfl ?_
          refine z_aload_n B 2 dX7_alter_69 rfl rfl ?_
          refine z_iload_n B 3 dX7_alter_70 rfl rfl ?_
          refine z_callP (As := [.int (nI (jx))]) (st := [.ref (h)]) (C := RX7) (T := TX7) (N := 30) (ci := 7) (l := l) B hl (c7_isPage l D g h a M hI (nI (jx))) gX7_alter_X7_isPage rfl ⟨rfl, rfl⟩ nm_X7_isPage ⟨by decide, by decide⟩ (fun _ h => h) 0 rfl rfl rfl (Nat.le_of_ble_eq_true rfl) dX7_alter_71 (Nat.zero_le _) (Nat.zero_le _) (fun r hr => ?_)
          subst hr
          refine z_ifB_ne B 81 dX7_alter_74 (by decide) (fun _ => ?_) (fun h => absurd zkc34 h)
          refine z_iload B 1 dX7_alter_81 rfl ?_
          refine z_if_ne B 90 dX7_alter_83 (by decide) (fun _ => ?_) (fun h => absurd h (by decide))
          refine z_iload B 0 dX7_alter_90 rfl ?_
          refine z_if_eq B 99 dX7_alter_92 (by decide) (fun _ => ?_) (fun h => absurd h (by decide))
          refine z_iconst (v := nI 3) B dX7_alter_99 (by decide) ?_
          refine z_callM (As := [.int (nI (3))]) (st := []) (C := RX7) (T := TX7) (N := 30) (ci := 7) (l := l) B hl (c7_refused l D g h a M (nI (3))) gX7_alter_X7_refused rfl ⟨rfl, rfl⟩ nm_X7_refused ⟨by decide, by decide⟩ 0 rfl rfl rfl (Nat.le_of_ble_eq_true rfl) dX7_alter_100 rfl rfl (by decide) (by decide) (fun r w1 hr => ?_)
          obtain ⟨hr1, rfl⟩ := hr
          rw [bI_t (show ¬ nI (3) = 0 by decide)] at hr1
          obtain rfl : r = nI 1 := hr1
          refine z_if_eq B 108 dX7_alter_103 (by decide) (fun h => absurd h (by decide)) (fun _ => ?_)
          refine z_iconst (v := nI 0) B dX7_alter_106 (by decide) ?_
          exact z_mret B hAe hr dX7_alter_107 rfl (by decide) (by decide) (by refine ⟨_, rfl, ?_⟩; rw [nN_nI (show jy < 2 ^ 31 by omega)]; rw [nN_nI (show jx < 2 ^ 31 by omega)]; refine ⟨?_, ?_, ?_, ?_, ?_, ?_⟩ <;> intros <;> first | contradiction | rfl | exact ⟨rfl, rfl⟩ | omega  | exact ⟨bI_1 (by assumption), rfl⟩ | exact ⟨bI_z (by assumption), rfl⟩)
        · refine z_iload_n B 3 dX7_alter_51 rfl rfl ?_
          refine z_aload_n B 1 dX7_alter_52 rfl rfl ?_
          refine z_get (C := RX7) (T := TX7) (N := 30) (v := .ref (a 8)) B 0 8 2 fw_X7_alter_X7 rfl rfl (by decide) rfl rfl rfl dX7_alter_53 ?_
          refine z_iload_n B 2 dX7_alter_56 rfl rfl ?_
          refine z_iald (g := (M 8)) (i := jx) B 5 0 rfl rfl (by omega) (by decide) dX7_alter_57 ?_
          refine z_top (y := nI (mL M jx)) (MI_8 hI _) ?_
          have := MI_b8 hI jx
          refine z_icmpN_ge B 65 dX7_alter_58 (by decide) (by omega) (by omega) (fun zc58 => ?_) (fun zc58 => ?_)
          · refine z_iconst (v := nI 0) B dX7_alter_65 (by decide) ?_
            refine z_istore (lv1 := [(5, .int (nI (0))), (4, .int (nI (1))), (0, .ref (h)), (1, .int (nI (jx))), (2, .int (nI (jy))), (3, .int (z))]) B dX7_alter_66 (by decide) rfl ?_
            refine z_aload_n B 2 dX7_alter_68 rfl rfl ?_
            refine z_aload_n B 2 dX7_alter_69 rfl rfl ?_
            refine z_iload_n B 3 dX7_alter_70 rfl rfl ?_
            refine z_callP (As := [.int (nI (jx))]) (st := [.ref (h)]) (C := RX7) (T := TX7) (N := 30) (ci := 7) (l := l) B hl (c7_isPage l D g h a M hI (nI (jx))) gX7_alter_X7_isPage rfl ⟨rfl, rfl⟩ nm_X7_isPage ⟨by decide, by decide⟩ (fun _ h => h) 0 rfl rfl rfl (Nat.le_of_ble_eq_true rfl) dX7_alter_71 (Nat.zero_le _) (Nat.zero_le _) (fun r hr => ?_)
            subst hr
            refine z_ifB_ne B 81 dX7_alter_74 (by decide) (fun _ => ?_) (fun h => absurd zkc34 h)
            refine z_iload B 1 dX7_alter_81 rfl ?_
            refine z_if_ne B 90 dX7_alter_83 (by decide) (fun _ => ?_) (fun h => absurd h (by decide))
            refine z_iload B 0 dX7_alter_90 rfl ?_
            refine z_if_eq B 99 dX7_alter_92 (by decide) (fun _ => ?_) (fun h => absurd h (by decide))
            refine z_iconst (v := nI 3) B dX7_alter_99 (by decide) ?_
            refine z_callM (As := [.int (nI (3))]) (st := []) (C := RX7) (T := TX7) (N := 30) (ci := 7) (l := l) B hl (c7_refused l D g h a M (nI (3))) gX7_alter_X7_refused rfl ⟨rfl, rfl⟩ nm_X7_refused ⟨by decide, by decide⟩ 0 rfl rfl rfl (Nat.le_of_ble_eq_true rfl) dX7_alter_100 rfl rfl (by decide) (by decide) (fun r w1 hr => ?_)
            obtain ⟨hr1, rfl⟩ := hr
            rw [bI_t (show ¬ nI (3) = 0 by decide)] at hr1
            obtain rfl : r = nI 1 := hr1
            refine z_if_eq B 108 dX7_alter_103 (by decide) (fun h => absurd h (by decide)) (fun _ => ?_)
            refine z_iconst (v := nI 0) B dX7_alter_106 (by decide) ?_
            exact z_mret B hAe hr dX7_alter_107 rfl (by decide) (by decide) (by refine ⟨_, rfl, ?_⟩; rw [nN_nI (show jy < 2 ^ 31 by omega)]; rw [nN_nI (show jx < 2 ^ 31 by omega)]; refine ⟨?_, ?_, ?_, ?_, ?_, ?_⟩ <;> intros <;> first | contradiction | rfl | exact ⟨rfl, rfl⟩ | omega  | exact ⟨bI_1 (by assumption), rfl⟩ | exact ⟨bI_z (by assumption), rfl⟩)
          · refine z_iconst (v := nI 1) B dX7_alter_61 (by decide) ?_
            refine z_goto B 66 dX7_alter_62 (by decide) ?_
            refine z_istore (lv1 := [(5, .int (nI (1))), (4, .int (nI (1))), (0, .ref (h)), (1, .int (nI (jx))), (2, .int (nI (jy))), (3, .int (z))]) B dX7_alter_66 (by decide) rfl ?_
            refine z_aload_n B 2 dX7_alter_68 rfl rfl ?_
            refine z_aload_n B 2 dX7_alter_69 rfl rfl ?_
            refine z_iload_n B 3 dX7_alter_70 rfl rfl ?_
            refine z_callP (As := [.int (nI (jx))]) (st := [.ref (h)]) (C := RX7) (T := TX7) (N := 30) (ci := 7) (l := l) B hl (c7_isPage l D g h a M hI (nI (jx))) gX7_alter_X7_isPage rfl ⟨rfl, rfl⟩ nm_X7_isPage ⟨by decide, by decide⟩ (fun _ h => h) 0 rfl rfl rfl (Nat.le_of_ble_eq_true rfl) dX7_alter_71 (Nat.zero_le _) (Nat.zero_le _) (fun r hr => ?_)
            subst hr
            refine z_ifB_ne B 81 dX7_alter_74 (by decide) (fun _ => ?_) (fun h => absurd zkc34 h)
            refine z_iload B 1 dX7_alter_81 rfl ?_
            refine z_if_ne B 90 dX7_alter_83 (by decide) (fun _ => ?_) (fun h => absurd h (by decide))
            refine z_iload B 0 dX7_alter_90 rfl ?_
            refine z_if_eq B 99 dX7_alter_92 (by decide) (fun h => absurd h (by decide)) (fun _ => ?_)
            refine z_iconst (v := nI 0) B dX7_alter_95 (by decide) ?_
            refine z_goto B 100 dX7_alter_96 (by decide) ?_
            refine z_callM (As := [.int (nI (0))]) (st := []) (C := RX7) (T := TX7) (N := 30) (ci := 7) (l := l) B hl (c7_refused l D g h a M (nI (0))) gX7_alter_X7_refused rfl ⟨rfl, rfl⟩ nm_X7_refused ⟨by decide, by decide⟩ 0 rfl rfl rfl (Nat.le_of_ble_eq_true rfl) dX7_alter_100 rfl rfl (by decide) (by decide) (fun r w1 hr => ?_)
            obtain ⟨hr1, rfl⟩ := hr
            rw [bI_f (show ¬ ¬ nI (0) = 0 by decide)] at hr1
            obtain rfl : r = nI 0 := hr1
            refine z_if_eq B 108 dX7_alter_103 (by decide) (fun _ => ?_) (fun h => absurd h (by decide))
            refine z_aload_n B 2 dX7_alter_108 rfl rfl ?_
            refine z_get (C := RX7) (T := TX7) (N := 30) (v := .ref (a 11)) B 0 11 3 fw_X7_alter_X7 rfl rfl (by decide) rfl rfl rfl dX7_alter_109 ?_
            refine z_iconst (v := nI 4) B dX7_alter_112 (by decide) ?_
            refine z_iload_n B 3 dX7_alter_113 rfl rfl ?_
            refine z_imulN B dX7_alter_114 ?_
            refine z_iload_n B 4 dX7_alter_115 rfl rfl ?_
            refine z_iaddN B dX7_alter_116 ?_
            refine z_iald (g := (M 11)) (i := 4 * jx + jy) B 8 0 rfl rfl (by omega) (by decide) dX7_alter_117 ?_
            refine z_istore (lv1 := [(6, .int (M 11 (4 * jx + jy))), (5, .int (nI (1))), (4, .int (nI (1))), (0, .ref (h)), (1, .int (nI (jx))), (2, .int (nI (jy))), (3, .int (z))]) B dX7_alter_118 (by decide) rfl ?_
            refine z_aload_n B 3 dX7_alter_120 rfl rfl ?_
            refine z_get (C := RX7) (T := TX7) (N := 30) (v := .ref (a 11)) B 0 11 3 fw_X7_alter_X7 rfl rfl (by decide) rfl rfl rfl dX7_alter_121 ?_
            refine z_iconst (v := nI 4) B dX7_alter_124 (by decide) ?_
            refine z_iload_n B 4 dX7_alter_125 rfl rfl ?_
            refine z_imulN B dX7_alter_126 ?_
            refine z_iload_n B 5 dX7_alter_127 rfl rfl ?_
            refine z_iaddN B dX7_alter_128 ?_
            refine z_iload_n B 6 dX7_alter_129 rfl rfl ?_
            refine z_iast (g := (M 11)) (i := 4 * jx + jy) (w' := wM g h a (up2 (up2 M 0 0 (nI (0))) 11 (4 * jx + jy) z)) B 8 0 rfl rfl (by omega) (by decide) dX7_alter_130 rfl ?_
            refine z_iload B 0 dX7_alter_131 rfl ?_
            exact z_mret B hAe hr dX7_alter_133 rfl (by decide) (by decide) (by refine ⟨_, rfl, ?_⟩; rw [nN_nI (show jy < 2 ^ 31 by omega)]; rw [nN_nI (show jx < 2 ^ 31 by omega)]; refine ⟨?_, ?_, ?_, ?_, ?_, ?_⟩ <;> intros <;> first | contradiction | rfl | exact ⟨rfl, rfl⟩ | omega  | exact ⟨bI_1 (by assumption), rfl⟩ | exact ⟨bI_z (by assumption), rfl⟩)
theorem fw_X7_makeCopy_X7 : zF wsX7_makeCopy RX7 TX7 30 := fun _ h => List.mem_cons_of_mem _ (List.mem_append_right _ (h))
set_option maxHeartbeats 4000000 in
set_option maxRecDepth 100000 in
theorem c7_makeCopy (l : Launch) (D : va_G) (g : zG) (h : Nat) (a : Nat → Nat) (M : zMS) (hI : MI M) (x : Int32) (f : Nat) (hc : mC M < 16) (hf : f ≤ mP M) : zMutI l yX7_makeCopy wsX7_makeCopy { frames := 0, cells := 0, slots := 0, locals := 0 } D (zT g) (wM g h a M) [.ref h, .int (x), .int (nI (f))] (fun r w' => r = nI (mC M) ∧ w' = wM g h a (mcM M x f)) 0 0 := by
  refine zMutI_of (cc := cX7_makeCopy) (maxL := 6) (ret := (some .int)) (own := RX7) [(0, .ref (h)), (1, .int (x)), (2, .int (nI (f)))] (by decide) rfl rfl rfl (Nat.le_of_ble_eq_true rfl) ?_
  intro X A hAe hl B hr hin
  obtain ⟨b5, b2, b15, b23, b25, b1⟩ := MI_bs hI
  generalize hQ : (zQe X (va_Qi (fun r w' => r = nI (mC M) ∧ w' = wM g h a (mcM M x f)) (zEnd D (zT g) (wM g h a M) (zs X).heap.size) A) 0 0 A) = Q
  refine z_aload_n B 0 dX7_makeCopy_0 rfl rfl ?_
  refine z_get (C := RX7) (T := TX7) (N := 30) (v := .int (M 15 0)) B 0 15 1 fw_X7_makeCopy_X7 rfl rfl (by decide) rfl rfl rfl dX7_makeCopy_1 ?_
  refine z_top (y := nI (mC M)) (MI_15 hI) ?_
  refine z_istore_n (lv1 := [(3, .int (nI (mC M))), (0, .ref (h)), (1, .int (x)), (2, .int (nI (f)))]) B dX7_makeCopy_4 rfl (by decide) rfl ?_
  refine z_aload_n B 1 dX7_makeCopy_5 rfl rfl ?_
  refine z_get (C := RX7) (T := TX7) (N := 30) (v := .ref (a 16)) B 0 16 2 fw_X7_makeCopy_X7 rfl rfl (by decide) rfl rfl rfl dX7_makeCopy_6 ?_
  refine z_iload_n B 0 dX7_makeCopy_9 rfl rfl ?_
  refine z_iload_n B 2 dX7_makeCopy_10 rfl rfl ?_
  refine z_iast (g := (M 16)) (i := mC M) (w' := wM g h a (up2 M 16 (mC M) x)) B 12 0 rfl rfl (by omega) (by decide) dX7_makeCopy_11 rfl ?_
  refine z_aload_n B 1 dX7_makeCopy_12 rfl rfl ?_
  refine z_get (C := RX7) (T := TX7) (N := 30) (v := .ref (a 17)) B 0 17 3 fw_X7_makeCopy_X7 rfl rfl (by decide) rfl rfl rfl dX7_makeCopy_13 ?_
  refine z_iload_n B 0 dX7_makeCopy_16 rfl rfl ?_
  refine z_iload_n B 3 dX7_makeCopy_17 rfl rfl ?_
  refine z_iast (g := (M 17)) (i := mC M) (w' := wM g h a (up2 (up2 M 16 (mC M) x) 17 (mC M) (nI (f)))) B 13 0 rfl rfl (by omega) (by decide) dX7_makeCopy_18 rfl ?_
  refine z_aload_n B 1 dX7_makeCopy_19 rfl rfl ?_
  refine z_get (C := RX7) (T := TX7) (N := 30) (v := .ref (a 18)) B 0 18 4 fw_X7_makeCopy_X7 rfl rfl (by decide) rfl rfl rfl dX7_makeCopy_20 ?_
  refine z_iload_n B 0 dX7_makeCopy_23 rfl rfl ?_
  refine z_aload_n B 1 dX7_makeCopy_24 rfl rfl ?_
  refine z_get (C := RX7) (T := TX7) (N := 30) (v := .int (M 5 0)) B 0 5 5 fw_X7_makeCopy_X7 rfl rfl (by decide) rfl rfl rfl dX7_makeCopy_25 ?_
  refine z_top (y := nI (mP M)) (MI_5 hI) ?_
  refine z_iast (g := (M 18)) (i := mC M) (w' := wM g h a (up2 (up2 (up2 M 16 (mC M) x) 17 (mC M) (nI (f))) 18 (mC M) (nI (mP M)))) B 14 0 rfl rfl (by omega) (by decide) dX7_makeCopy_28 rfl ?_
  refine z_aload_n B 1 dX7_makeCopy_29 rfl rfl ?_
  refine z_get (C := RX7) (T := TX7) (N := 30) (v := .ref (a 19)) B 0 19 6 fw_X7_makeCopy_X7 rfl rfl (by decide) rfl rfl rfl dX7_makeCopy_30 ?_
  refine z_iload_n B 0 dX7_makeCopy_33 rfl rfl ?_
  refine z_iconst (v := nI 0) B dX7_makeCopy_34 (by decide) ?_
  refine z_zast (g := (M 19)) (i := mC M) (w' := wM g h a (up2 (up2 (up2 (up2 M 16 (mC M) x) 17 (mC M) (nI (f))) 18 (mC M) (nI (mP M))) 19 (mC M) (nI (0)))) B 15 1 rfl rfl (by omega) (by decide) (Or.inl rfl) dX7_makeCopy_35 rfl ?_
  refine z_aload_n B 1 dX7_makeCopy_36 rfl rfl ?_
  refine z_get (C := RX7) (T := TX7) (N := 30) (v := .ref (a 20)) B 0 20 7 fw_X7_makeCopy_X7 rfl rfl (by decide) rfl rfl rfl dX7_makeCopy_37 ?_
  refine z_iload_n B 0 dX7_makeCopy_40 rfl rfl ?_
  refine z_iconst (v := nI 0) B dX7_makeCopy_41 (by decide) ?_
  refine z_zast (g := (M 20)) (i := mC M) (w' := wM g h a (up2 (up2 (up2 (up2 (up2 M 16 (mC M) x) 17 (mC M) (nI (f))) 18 (mC M) (nI (mP M))) 19 (mC M) (nI (0))) 20 (mC M) (nI (0)))) B 16 1 rfl rfl (by omega) (by decide) (Or.inl rfl) dX7_makeCopy_42 rfl ?_
  refine z_iload_n B 3 dX7_makeCopy_43 rfl rfl ?_
  refine z_istore (lv1 := [(4, .int (nI (f))), (3, .int (nI (mC M))), (0, .ref (h)), (1, .int (x)), (2, .int (nI (f)))]) B dX7_makeCopy_44 (by decide) rfl ?_
  have loop46 : ∀ (n0 i : Nat), i ≤ mP M - f → mP M - f + 1 ≤ i + n0 → zJ X 6 (zI1 D A (zs X)) Q (wM g h a (cpN (mc0 M x f) (mC M) f i)) 0 0 [(0, .ref (h)), (1, .int (x)), (2, .int (nI (f))), (3, .int (nI (mC M))), (4, .int (nI (f + i)))] 46 [] := by
    intro n46
    induction n46 with
    | zero => intro i h1 h2; exact absurd h2 (by omega)
    | succ n46 ih46 =>
      intro i hle46 hn46
      refine z_iload B 4 dX7_makeCopy_46 rfl ?_
      refine z_aload_n B 0 dX7_makeCopy_48 rfl rfl ?_
      refine z_get (C := RX7) (T := TX7) (N := 30) (v := .int ((cpN (mc0 M x f) (mC M) f i) 5 0)) B 0 5 5 fw_X7_makeCopy_X7 rfl rfl (by decide) rfl rfl rfl dX7_makeCopy_49 ?_
      refine z_top (y := nI (mP M)) ((congrFun (cpN_k (mc0 M x f) (mC M) f (k := 5) (by decide) i) 0).trans (MI_5 (M := M) hI)) ?_
      refine z_icmpN_ge B 132 dX7_makeCopy_52 (by decide) (by omega) (by omega) (fun zc52 => ?_) (fun zc52 => ?_)
      · obtain rfl : i = mP M - f := by omega
        refine z_aload_n B 0 dX7_makeCopy_132 rfl rfl ?_
        refine z_dup B dX7_makeCopy_133 rfl ?_
        refine z_get (C := RX7) (T := TX7) (N := 30) (v := .int ((cpN (mc0 M x f) (mC M) f (mP M - f)) 15 0)) B 0 15 1 fw_X7_makeCopy_X7 rfl rfl (by decide) rfl rfl rfl dX7_makeCopy_134 ?_
        refine z_top (y := nI (mC M)) ((congrFun (cpN_k (mc0 M x f) (mC M) f (k := 15) (by decide) (mP M - f)) 0).trans (MI_15 (M := M) hI)) ?_
        refine z_iconst (v := nI 1) B dX7_makeCopy_137 (by decide) ?_
        refine z_iaddN B dX7_makeCopy_138 ?_
        refine z_put (C := RX7) (T := TX7) (N := 30) (w' := wM g h a (up2 (cpN (mc0 M x f) (mC M) f (mP M - f)) 15 0 (nI (mC M + 1)))) B 0 15 1 fw_X7_makeCopy_X7 tyX7 tyX7_ok nmX7 rfl rfl (by decide) rfl rfl rfl rfl rfl (Nat.le_of_ble_eq_true rfl) dX7_makeCopy_139 rfl ?_
        refine z_iload_n B 3 dX7_makeCopy_142 rfl rfl ?_
        subst hQ
        exact z_mret B hAe hr dX7_makeCopy_143 rfl (by decide) (by decide) (by exact ⟨rfl, rfl⟩)
      · refine z_aload_n B 0 dX7_makeCopy_55 rfl rfl ?_
        refine z_get (C := RX7) (T := TX7) (N := 30) (v := .ref (a 21)) B 0 21 8 fw_X7_makeCopy_X7 rfl rfl (by decide) rfl rfl rfl dX7_makeCopy_56 ?_
        refine z_bipush (v := nI 80) B dX7_makeCopy_59 (by decide) ?_
        refine z_iload_n B 3 dX7_makeCopy_61 rfl rfl ?_
        refine z_imulN B dX7_makeCopy_62 ?_
        refine z_iload B 4 dX7_makeCopy_63 rfl ?_
        refine z_iaddN B dX7_makeCopy_65 ?_
        refine z_aload_n B 0 dX7_makeCopy_66 rfl rfl ?_
        refine z_get (C := RX7) (T := TX7) (N := 30) (v := .ref (a 12)) B 0 12 9 fw_X7_makeCopy_X7 rfl rfl (by decide) rfl rfl rfl dX7_makeCopy_67 ?_
        refine z_iload B 4 dX7_makeCopy_70 rfl ?_
        refine z_iald (g := ((cpN (mc0 M x f) (mC M) f i) 12)) (i := f + i) B 9 0 rfl rfl (by omega) (by decide) dX7_makeCopy_72 ?_
        refine z_top (y := M 12 (f + i)) (congrFun (cpN_k (mc0 M x f) (mC M) f (k := 12) (by decide) i) _) ?_
        refine z_if_ne B 80 dX7_makeCopy_73 (by decide) (fun zc73 => ?_) (fun zc73 => ?_)
        · refine z_iconst (v := nI 0) B dX7_makeCopy_80 (by decide) ?_
          refine z_zast (g := ((cpN (mc0 M x f) (mC M) f i) 21)) (i := 80 * (mC M) + (f + i)) (w' := wM g h a (up2 (cpN (mc0 M x f) (mC M) f i) 21 (80 * (mC M) + (f + i)) (nI (0)))) B 17 1 rfl rfl (by omega) (by decide) (Or.inl rfl) dX7_makeCopy_81 rfl ?_
          refine z_iconst (v := nI 0) B dX7_makeCopy_82 (by decide) ?_
          refine z_istore (lv1 := [(5, .int (nI (0))), (0, .ref (h)), (1, .int (x)), (2, .int (nI (f))), (3, .int (nI (mC M))), (4, .int (nI (f + i)))]) B dX7_makeCopy_83 (by decide) rfl ?_
          have loop85 : ∀ (n0 i2 : Nat), i2 ≤ 4 → 4 + 1 ≤ i2 + n0 → zJ X 6 (zI1 D A (zs X)) Q (wM g h a (cpL (cpH (cpN (mc0 M x f) (mC M) f i) (mC M) (f + i)) (mC M) (f + i) i2)) 0 0 [(0, .ref (h)), (1, .int (x)), (2, .int (nI (f))), (3, .int (nI (mC M))), (4, .int (nI (f + i))), (5, .int (nI (i2)))] 85 [] := by
            intro n85
            induction n85 with
            | zero => intro i2 h1 h2; exact absurd h2 (by omega)
            | succ n85 ih85 =>
              intro i2 hle85 hn85
              refine z_iload B 5 dX7_makeCopy_85 rfl ?_
              refine z_iconst (v := nI 4) B dX7_makeCopy_87 (by decide) ?_
              refine z_icmpN_ge B 126 dX7_makeCopy_88 (by decide) (by omega) (by omega) (fun zc88 => ?_) (fun zc88 => ?_)
              · obtain rfl : i2 = 4 := by omega
                refine z_iinc B 4 (lv1 := [(4, .int (nI (f + i + 1))), (0, .ref (h)), (1, .int (x)), (2, .int (nI (f))), (3, .int (nI (mC M))), (5, .int (nI (4)))]) dX7_makeCopy_126 rfl (nI_1 _) (by decide) rfl ?_
                refine z_goto B 46 dX7_makeCopy_129 (by decide) ?_
                refine z_loc [1, 2, 3, 4, 0] (lv' := [(0, .ref (h)), (1, .int (x)), (2, .int (nI (f))), (3, .int (nI (mC M))), (4, .int (nI (f + i + 1)))]) rfl ?_
                refine z_lvc (lv' := [(0, .ref (h)), (1, .int (x)), (2, .int (nI (f))), (3, .int (nI (mC M))), (4, .int (nI (f + (i + 1))))]) (by rfl) ?_
                refine z_w (w' := wM g h a (cpN (mc0 M x f) (mC M) f (i + 1))) (by rfl) ?_
                exact ih46 (i + 1) (by omega) (by omega)
              · refine z_aload_n B 0 dX7_makeCopy_91 rfl rfl ?_
                refine z_get (C := RX7) (T := TX7) (N := 30) (v := .ref (a 22)) B 0 22 10 fw_X7_makeCopy_X7 rfl rfl (by decide) rfl rfl rfl dX7_makeCopy_92 ?_
                refine z_iconst (v := nI 4) B dX7_makeCopy_95 (by decide) ?_
                refine z_bipush (v := nI 80) B dX7_makeCopy_96 (by decide) ?_
                refine z_iload_n B 3 dX7_makeCopy_98 rfl rfl ?_
                refine z_imulN B dX7_makeCopy_99 ?_
                refine z_iload B 4 dX7_makeCopy_100 rfl ?_
                refine z_iaddN B dX7_makeCopy_102 ?_
                refine z_imulN B dX7_makeCopy_103 ?_
                refine z_iload B 5 dX7_makeCopy_104 rfl ?_
                refine z_iaddN B dX7_makeCopy_106 ?_
                refine z_aload_n B 0 dX7_makeCopy_107 rfl rfl ?_
                refine z_get (C := RX7) (T := TX7) (N := 30) (v := .ref (a 11)) B 0 11 11 fw_X7_makeCopy_X7 rfl rfl (by decide) rfl rfl rfl dX7_makeCopy_108 ?_
                refine z_iconst (v := nI 4) B dX7_makeCopy_111 (by decide) ?_
                refine z_iload B 4 dX7_makeCopy_112 rfl ?_
                refine z_imulN B dX7_makeCopy_114 ?_
                refine z_iload B 5 dX7_makeCopy_115 rfl ?_
                refine z_iaddN B dX7_makeCopy_117 ?_
                refine z_iald (g := ((cpL (cpH (cpN (mc0 M x f) (mC M) f i) (mC M) (f + i)) (mC M) (f + i) i2) 11)) (i := 4 * (f + i) + i2) B 8 0 rfl rfl (by omega) (by decide) dX7_makeCopy_118 ?_
                refine z_top (y := (cpH (cpN (mc0 M x f) (mC M) f i) (mC M) (f + i)) 11 (4 * (f + i) + i2)) (congrFun (cpL_k (cpH (cpN (mc0 M x f) (mC M) f i) (mC M) (f + i)) (mC M) (f + i) (k := 11) (by decide) i2) _) ?_
                refine z_iast (g := ((cpL (cpH (cpN (mc0 M x f) (mC M) f i) (mC M) (f + i)) (mC M) (f + i) i2) 22)) (i := 4 * (80 * (mC M) + (f + i)) + i2) (w' := wM g h a (up2 (cpL (cpH (cpN (mc0 M x f) (mC M) f i) (mC M) (f + i)) (mC M) (f + i) i2) 22 (4 * (80 * (mC M) + (f + i)) + i2) ((cpH (cpN (mc0 M x f) (mC M) f i) (mC M) (f + i)) 11 (4 * (f + i) + i2)))) B 18 0 rfl rfl (by omega) (by decide) dX7_makeCopy_119 rfl ?_
                refine z_iinc B 5 (lv1 := [(5, .int (nI (i2 + 1))), (0, .ref (h)), (1, .int (x)), (2, .int (nI (f))), (3, .int (nI (mC M))), (4, .int (nI (f + i)))]) dX7_makeCopy_120 rfl (nI_1 _) (by decide) rfl ?_
                refine z_goto B 85 dX7_makeCopy_123 (by decide) ?_
                refine z_loc [1, 2, 3, 4, 5, 0] (lv' := [(0, .ref (h)), (1, .int (x)), (2, .int (nI (f))), (3, .int (nI (mC M))), (4, .int (nI (f + i))), (5, .int (nI (i2 + 1)))]) rfl ?_
                refine z_lvc (lv' := [(0, .ref (h)), (1, .int (x)), (2, .int (nI (f))), (3, .int (nI (mC M))), (4, .int (nI (f + i))), (5, .int (nI ((i2 + 1))))]) (by rfl) ?_
                refine z_w (w' := wM g h a (cpL (cpH (cpN (mc0 M x f) (mC M) f i) (mC M) (f + i)) (mC M) (f + i) (i2 + 1))) (by rfl) ?_
                exact ih85 (i2 + 1) (by omega) (by omega)
          refine z_loc [1, 2, 3, 4, 5, 0] (lv' := [(0, .ref (h)), (1, .int (x)), (2, .int (nI (f))), (3, .int (nI (mC M))), (4, .int (nI (f + i))), (5, .int (nI (0)))]) rfl ?_
          refine z_w (w' := wM g h a (cpL (cpH (cpN (mc0 M x f) (mC M) f i) (mC M) (f + i)) (mC M) (f + i) 0)) (by first | (rw [cpL, cpH, bI_t ((show cpN (mc0 M x f) (mC M) f i 12 (f + i) = 0 ↔ M 12 (f + i) = 0 from by rw [cpN_k (mc0 M x f) (mC M) f (k := 12) (by decide) i]; rfl).mpr zc73)]; rfl) | (rw [cpL, cpH, bI_f (fun e => zc73 ((show cpN (mc0 M x f) (mC M) f i 12 (f + i) = 0 ↔ M 12 (f + i) = 0 from by rw [cpN_k (mc0 M x f) (mC M) f (k := 12) (by decide) i]; rfl).mp e))]; rfl)) ?_
          exact loop85 (4 + 1) 0 (by omega) (by omega)
        · refine z_iconst (v := nI 1) B dX7_makeCopy_76 (by decide) ?_
          refine z_goto B 81 dX7_makeCopy_77 (by decide) ?_
          refine z_zast (g := ((cpN (mc0 M x f) (mC M) f i) 21)) (i := 80 * (mC M) + (f + i)) (w' := wM g h a (up2 (cpN (mc0 M x f) (mC M) f i) 21 (80 * (mC M) + (f + i)) (nI (1)))) B 17 1 rfl rfl (by omega) (by decide) (Or.inr rfl) dX7_makeCopy_81 rfl ?_
          refine z_iconst (v := nI 0) B dX7_makeCopy_82 (by decide) ?_
          refine z_istore (lv1 := [(5, .int (nI (0))), (0, .ref (h)), (1, .int (x)), (2, .int (nI (f))), (3, .int (nI (mC M))), (4, .int (nI (f + i)))]) B dX7_makeCopy_83 (by decide) rfl ?_
          have loop85 : ∀ (n0 i2 : Nat), i2 ≤ 4 → 4 + 1 ≤ i2 + n0 → zJ X 6 (zI1 D A (zs X)) Q (wM g h a (cpL (cpH (cpN (mc0 M x f) (mC M) f i) (mC M) (f + i)) (mC M) (f + i) i2)) 0 0 [(0, .ref (h)), (1, .int (x)), (2, .int (nI (f))), (3, .int (nI (mC M))), (4, .int (nI (f + i))), (5, .int (nI (i2)))] 85 [] := by
            intro n85
            induction n85 with
            | zero => intro i2 h1 h2; exact absurd h2 (by omega)
            | succ n85 ih85 =>
              intro i2 hle85 hn85
              refine z_iload B 5 dX7_makeCopy_85 rfl ?_
              refine z_iconst (v := nI 4) B dX7_makeCopy_87 (by decide) ?_
              refine z_icmpN_ge B 126 dX7_makeCopy_88 (by decide) (by omega) (by omega) (fun zc88 => ?_) (fun zc88 => ?_)
              · obtain rfl : i2 = 4 := by omega
                refine z_iinc B 4 (lv1 := [(4, .int (nI (f + i + 1))), (0, .ref (h)), (1, .int (x)), (2, .int (nI (f))), (3, .int (nI (mC M))), (5, .int (nI (4)))]) dX7_makeCopy_126 rfl (nI_1 _) (by decide) rfl ?_
                refine z_goto B 46 dX7_makeCopy_129 (by decide) ?_
                refine z_loc [1, 2, 3, 4, 0] (lv' := [(0, .ref (h)), (1, .int (x)), (2, .int (nI (f))), (3, .int (nI (mC M))), (4, .int (nI (f + i + 1)))]) rfl ?_
                refine z_lvc (lv' := [(0, .ref (h)), (1, .int (x)), (2, .int (nI (f))), (3, .int (nI (mC M))), (4, .int (nI (f + (i + 1))))]) (by rfl) ?_
                refine z_w (w' := wM g h a (cpN (mc0 M x f) (mC M) f (i + 1))) (by rfl) ?_
                exact ih46 (i + 1) (by omega) (by omega)
              · refine z_aload_n B 0 dX7_makeCopy_91 rfl rfl ?_
                refine z_get (C := RX7) (T := TX7) (N := 30) (v := .ref (a 22)) B 0 22 10 fw_X7_makeCopy_X7 rfl rfl (by decide) rfl rfl rfl dX7_makeCopy_92 ?_
                refine z_iconst (v := nI 4) B dX7_makeCopy_95 (by decide) ?_
                refine z_bipush (v := nI 80) B dX7_makeCopy_96 (by decide) ?_
                refine z_iload_n B 3 dX7_makeCopy_98 rfl rfl ?_
                refine z_imulN B dX7_makeCopy_99 ?_
                refine z_iload B 4 dX7_makeCopy_100 rfl ?_
                refine z_iaddN B dX7_makeCopy_102 ?_
                refine z_imulN B dX7_makeCopy_103 ?_
                refine z_iload B 5 dX7_makeCopy_104 rfl ?_
                refine z_iaddN B dX7_makeCopy_106 ?_
                refine z_aload_n B 0 dX7_makeCopy_107 rfl rfl ?_
                refine z_get (C := RX7) (T := TX7) (N := 30) (v := .ref (a 11)) B 0 11 11 fw_X7_makeCopy_X7 rfl rfl (by decide) rfl rfl rfl dX7_makeCopy_108 ?_
                refine z_iconst (v := nI 4) B dX7_makeCopy_111 (by decide) ?_
                refine z_iload B 4 dX7_makeCopy_112 rfl ?_
                refine z_imulN B dX7_makeCopy_114 ?_
                refine z_iload B 5 dX7_makeCopy_115 rfl ?_
                refine z_iaddN B dX7_makeCopy_117 ?_
                refine z_iald (g := ((cpL (cpH (cpN (mc0 M x f) (mC M) f i) (mC M) (f + i)) (mC M) (f + i) i2) 11)) (i := 4 * (f + i) + i2) B 8 0 rfl rfl (by omega) (by decide) dX7_makeCopy_118 ?_
                refine z_top (y := (cpH (cpN (mc0 M x f) (mC M) f i) (mC M) (f + i)) 11 (4 * (f + i) + i2)) (congrFun (cpL_k (cpH (cpN (mc0 M x f) (mC M) f i) (mC M) (f + i)) (mC M) (f + i) (k := 11) (by decide) i2) _) ?_
                refine z_iast (g := ((cpL (cpH (cpN (mc0 M x f) (mC M) f i) (mC M) (f + i)) (mC M) (f + i) i2) 22)) (i := 4 * (80 * (mC M) + (f + i)) + i2) (w' := wM g h a (up2 (cpL (cpH (cpN (mc0 M x f) (mC M) f i) (mC M) (f + i)) (mC M) (f + i) i2) 22 (4 * (80 * (mC M) + (f + i)) + i2) ((cpH (cpN (mc0 M x f) (mC M) f i) (mC M) (f + i)) 11 (4 * (f + i) + i2)))) B 18 0 rfl rfl (by omega) (by decide) dX7_makeCopy_119 rfl ?_
                refine z_iinc B 5 (lv1 := [(5, .int (nI (i2 + 1))), (0, .ref (h)), (1, .int (x)), (2, .int (nI (f))), (3, .int (nI (mC M))), (4, .int (nI (f + i)))]) dX7_makeCopy_120 rfl (nI_1 _) (by decide) rfl ?_
                refine z_goto B 85 dX7_makeCopy_123 (by decide) ?_
                refine z_loc [1, 2, 3, 4, 5, 0] (lv' := [(0, .ref (h)), (1, .int (x)), (2, .int (nI (f))), (3, .int (nI (mC M))), (4, .int (nI (f + i))), (5, .int (nI (i2 + 1)))]) rfl ?_
                refine z_lvc (lv' := [(0, .ref (h)), (1, .int (x)), (2, .int (nI (f))), (3, .int (nI (mC M))), (4, .int (nI (f + i))), (5, .int (nI ((i2 + 1))))]) (by rfl) ?_
                refine z_w (w' := wM g h a (cpL (cpH (cpN (mc0 M x f) (mC M) f i) (mC M) (f + i)) (mC M) (f + i) (i2 + 1))) (by rfl) ?_
                exact ih85 (i2 + 1) (by omega) (by omega)
          refine z_loc [1, 2, 3, 4, 5, 0] (lv' := [(0, .ref (h)), (1, .int (x)), (2, .int (nI (f))), (3, .int (nI (mC M))), (4, .int (nI (f + i))), (5, .int (nI (0)))]) rfl ?_
          refine z_w (w' := wM g h a (cpL (cpH (cpN (mc0 M x f) (mC M) f i) (mC M) (f + i)) (mC M) (f + i) 0)) (by first | (rw [cpL, cpH, bI_t ((show cpN (mc0 M x f) (mC M) f i 12 (f + i) = 0 ↔ M 12 (f + i) = 0 from by rw [cpN_k (mc0 M x f) (mC M) f (k := 12) (by decide) i]; rfl).mpr zc73)]; rfl) | (rw [cpL, cpH, bI_f (fun e => zc73 ((show cpN (mc0 M x f) (mC M) f i 12 (f + i) = 0 ↔ M 12 (f + i) = 0 from by rw [cpN_k (mc0 M x f) (mC M) f (k := 12) (by decide) i]; rfl).mp e))]; rfl)) ?_
          exact loop85 (4 + 1) 0 (by omega) (by omega)
  refine z_loc [2, 3, 4, 1, 0] (lv' := [(0, .ref (h)), (1, .int (x)), (2, .int (nI (f))), (3, .int (nI (mC M))), (4, .int (nI (f)))]) rfl ?_
  refine z_lvc (lv' := [(0, .ref (h)), (1, .int (x)), (2, .int (nI (f))), (3, .int (nI (mC M))), (4, .int (nI (f + 0)))]) (by rfl) ?_
  refine z_w (w' := wM g h a (cpN (mc0 M x f) (mC M) f 0)) (by rfl) ?_
  exact loop46 (mP M - f + 1) 0 (by omega) (by omega)
theorem fw_X7_copy_X7 : zF wsX7_copy RX7 TX7 30 := fun _ h => List.mem_cons_of_mem _ (List.mem_append_right _ (h))
set_option maxHeartbeats 4000000 in
set_option maxRecDepth 100000 in
theorem c7_copy (l : Launch) (D : va_G) (g : zG) (h : Nat) (a : Nat → Nat) (M : zMS) (hI : MI M) : zMutI l yX7_copy wsX7_copy { frames := 1, cells := 0, slots := 0, locals := 25 } D (zT g) (wM g h a M) [.ref h] (fun r w' => ∃ M', w' = wM g h a M' ∧ (mC M = 16 → M' = up2 M 0 0 (nI 1)) ∧ (mC M ≠ 16 → 0 < zcnt (fun p => M 12 p = nI 1) (mP M) → M' = up2 M 0 0 (nI 1)) ∧ (mC M ≠ 16 → zcnt (fun p => M 12 p = nI 1) (mP M) = 0 → r = nI (mC M) ∧ M' = mcM (up2 M 0 0 (nI 0)) (-1) 0)) 0 0 := by
  refine zMutI_of (cc := cX7_copy) (maxL := 1) (ret := (some .int)) (own := RX7) [(0, .ref (h))] (by decide) rfl rfl rfl (Nat.le_of_ble_eq_true rfl) ?_
  intro X A hAe hl B hr hin
  obtain ⟨b5, b2, b15, b23, b25, b1⟩ := MI_bs hI
  have bz := zcnt_le (fun p => M 12 p = nI 1) (mP M)
  refine z_aload_n B 0 dX7_copy_0 rfl rfl ?_
  refine z_aload_n B 0 dX7_copy_1 rfl rfl ?_
  refine z_get (C := RX7) (T := TX7) (N := 30) (v := .int (M 15 0)) B 0 15 1 fw_X7_copy_X7 rfl rfl (by decide) rfl rfl rfl dX7_copy_2 ?_
  refine z_top (y := nI (mC M)) (MI_15 hI) ?_
  refine z_bipush (v := nI 16) B dX7_copy_5 (by decide) ?_
  refine z_icmpN_eq B 17 dX7_copy_7 (by decide) (by omega) (by omega) (fun zc7 => ?_) (fun zc7 => ?_)
  · refine z_iconst (v := nI 1) B dX7_copy_17 (by decide) ?_
    refine z_goto B 22 dX7_copy_18 (by decide) ?_
    refine z_callM (As := [.int (nI (1))]) (st := []) (C := RX7) (T := TX7) (N := 30) (ci := 7) (l := l) B hl (c7_refused l D g h a M (nI (1))) gX7_copy_X7_refused rfl ⟨rfl, rfl⟩ nm_X7_refused ⟨by decide, by decide⟩ 0 rfl rfl rfl (Nat.le_of_ble_eq_true rfl) dX7_copy_22 rfl rfl (by decide) (by decide) (fun r w1 hr => ?_)
    obtain ⟨hr1, rfl⟩ := hr
    rw [bI_t (show ¬ nI (1) = 0 by decide)] at hr1
    obtain rfl : r = nI 1 := hr1
    refine z_if_eq B 32 dX7_copy_25 (by decide) (fun h => absurd h (by decide)) (fun _ => ?_)
    refine z_iconst (v := nI 0) B dX7_copy_28 (by decide) ?_
    refine z_goto B 38 dX7_copy_29 (by decide) ?_
    exact z_mret B hAe hr dX7_copy_38 rfl (by decide) (by decide) (by refine ⟨_, rfl, ?_⟩; refine ⟨?_, ?_, ?_⟩ <;> intros <;> first | contradiction | rfl | exact ⟨rfl, rfl⟩ | omega  | exact ⟨bI_1 (by assumption), rfl⟩ | exact ⟨bI_z (by assumption), rfl⟩)
  · refine z_aload_n B 0 dX7_copy_10 rfl rfl ?_
    refine z_callP (As := []) (st := [.ref (h)]) (C := RX7) (T := TX7) (N := 30) (ci := 7) (l := l) B hl (c7_burnt l D g h a M hI) gX7_copy_X7_burnt rfl ⟨rfl, rfl⟩ nm_X7_burnt ⟨by decide, by decide⟩ (fun _ h => h) 0 rfl rfl rfl (Nat.le_of_ble_eq_true rfl) dX7_copy_11 (Nat.zero_le _) (Nat.zero_le _) (fun r hr => ?_)
    subst hr
    refine z_ifN_le B 21 dX7_copy_14 (by decide) (by omega) (fun zc14 => ?_) (fun zc14 => ?_)
    · refine z_iconst (v := nI 0) B dX7_copy_21 (by decide) ?_
      refine z_callM (As := [.int (nI (0))]) (st := []) (C := RX7) (T := TX7) (N := 30) (ci := 7) (l := l) B hl (c7_refused l D g h a M (nI (0))) gX7_copy_X7_refused rfl ⟨rfl, rfl⟩ nm_X7_refused ⟨by decide, by decide⟩ 0 rfl rfl rfl (Nat.le_of_ble_eq_true rfl) dX7_copy_22 rfl rfl (by decide) (by decide) (fun r w1 hr => ?_)
      obtain ⟨hr1, rfl⟩ := hr
      rw [bI_f (show ¬ ¬ nI (0) = 0 by decide)] at hr1
      obtain rfl : r = nI 0 := hr1
      refine z_if_eq B 32 dX7_copy_25 (by decide) (fun _ => ?_) (fun h => absurd h (by decide))
      refine z_aload_n B 0 dX7_copy_32 rfl rfl ?_
      refine z_iconst (v := (-1)) B dX7_copy_33 (by decide) ?_
      refine z_iconst (v := nI 0) B dX7_copy_34 (by decide) ?_
      refine z_callM (As := [.int ((-1)), .int (nI (0))]) (st := []) (C := RX7) (T := TX7) (N := 30) (ci := 7) (l := l) B hl (c7_makeCopy l D g h a (up2 M 0 0 (nI (0))) (MI_up0 hI) (-1) 0 (show mC (up2 M 0 0 (nI (0))) < 16 from (by omega : mC M < 16)) (show 0 ≤ mP (up2 M 0 0 (nI (0))) from (Nat.zero_le _))) gX7_copy_X7_makeCopy rfl ⟨rfl, rfl⟩ nm_X7_makeCopy ⟨by decide, by decide⟩ 0 rfl rfl rfl (Nat.le_of_ble_eq_true rfl) dX7_copy_35 rfl rfl (by decide) (by decide) (fun r w1 hr => ?_)
      obtain ⟨rfl, rfl⟩ := hr
      exact z_mret B hAe hr dX7_copy_38 rfl (by decide) (by decide) (by refine ⟨_, rfl, ?_⟩; refine ⟨?_, ?_, ?_⟩ <;> intros <;> first | contradiction | rfl | exact ⟨rfl, rfl⟩ | omega  | exact ⟨bI_1 (by assumption), rfl⟩ | exact ⟨bI_z (by assumption), rfl⟩)
    · refine z_iconst (v := nI 1) B dX7_copy_17 (by decide) ?_
      refine z_goto B 22 dX7_copy_18 (by decide) ?_
      refine z_callM (As := [.int (nI (1))]) (st := []) (C := RX7) (T := TX7) (N := 30) (ci := 7) (l := l) B hl (c7_refused l D g h a M (nI (1))) gX7_copy_X7_refused rfl ⟨rfl, rfl⟩ nm_X7_refused ⟨by decide, by decide⟩ 0 rfl rfl rfl (Nat.le_of_ble_eq_true rfl) dX7_copy_22 rfl rfl (by decide) (by decide) (fun r w1 hr => ?_)
      obtain ⟨hr1, rfl⟩ := hr
      rw [bI_t (show ¬ nI (1) = 0 by decide)] at hr1
      obtain rfl : r = nI 1 := hr1
      refine z_if_eq B 32 dX7_copy_25 (by decide) (fun h => absurd h (by decide)) (fun _ => ?_)
      refine z_iconst (v := nI 0) B dX7_copy_28 (by decide) ?_
      refine z_goto B 38 dX7_copy_29 (by decide) ?_
      exact z_mret B hAe hr dX7_copy_38 rfl (by decide) (by decide) (by refine ⟨_, rfl, ?_⟩; refine ⟨?_, ?_, ?_⟩ <;> intros <;> first | contradiction | rfl | exact ⟨rfl, rfl⟩ | omega  | exact ⟨bI_1 (by assumption), rfl⟩ | exact ⟨bI_z (by assumption), rfl⟩)
theorem fw_X7_copyFrom_X7 : zF wsX7_copyFrom RX7 TX7 30 := fun _ h => List.mem_cons_of_mem _ (List.mem_append_right _ (h))
set_option maxHeartbeats 4000000 in
set_option maxRecDepth 100000 in
theorem c7_copyFrom (l : Launch) (D : va_G) (g : zG) (h : Nat) (a : Nat → Nat) (M : zMS) (hI : MI M) (hJ : MJ M) (x : Int32) : zMutI l yX7_copyFrom wsX7_copyFrom { frames := 2, cells := 0, slots := 0, locals := 43 } D (zT g) (wM g h a M) [.ref h, .int (x)] (fun r w' => ∃ M', w' = wM g h a M' ∧ (¬ pCx M x → M' = up2 M 0 0 (nI 1)) ∧ (pCx M x → mC M = 16 → M' = up2 M 0 0 (nI 2)) ∧ (pCx M x → mC M ≠ 16 → 0 < zcnt (fun p => M 12 p = nI 1) (mP M) → M' = up2 M 0 0 (nI 2)) ∧ (pCx M x → mC M ≠ 16 → zcnt (fun p => M 12 p = nI 1) (mP M) = 0 → r = nI (mC M) ∧ M' = mcM (up2 M 0 0 (nI 0)) x (mE M (nN x)))) 0 0 := by
  refine zMutI_of (cc := cX7_copyFrom) (maxL := 2) (ret := (some .int)) (own := RX7) [(0, .ref (h)), (1, .int (x))] (by decide) rfl rfl rfl (Nat.le_of_ble_eq_true rfl) ?_
  intro X A hAe hl B hr hin
  obtain ⟨b5, b2, b15, b23, b25, b1⟩ := MI_bs hI
  have bz := zcnt_le (fun p => M 12 p = nI 1) (mP M)
  refine z_aload_n B 0 dX7_copyFrom_0 rfl rfl ?_
  refine z_aload_n B 0 dX7_copyFrom_1 rfl rfl ?_
  refine z_iload_n B 1 dX7_copyFrom_2 rfl rfl ?_
  refine z_callP (As := [.int (x)]) (st := [.ref (h)]) (C := RX7) (T := TX7) (N := 30) (ci := 7) (l := l) B hl (c7_isCopy l D g h a M hI x) gX7_copyFrom_X7_isCopy rfl ⟨rfl, rfl⟩ nm_X7_isCopy ⟨by decide, by decide⟩ (fun _ h => h) 0 rfl rfl rfl (Nat.le_of_ble_eq_true rfl) dX7_copyFrom_3 (Nat.zero_le _) (Nat.zero_le _) (fun r hr => ?_)
  subst hr
  refine z_ifB_ne B 13 dX7_copyFrom_6 (by decide) (fun zc6 => ?_) (fun zc6 => ?_)
  · have zkc6 := zc6
    obtain ⟨jx, rfl, hjx⟩ := zc6
    have hbjx : jx < 16 := by have := hjx.1; omega
    refine z_aload_n B 0 dX7_copyFrom_13 rfl rfl ?_
    refine z_get (C := RX7) (T := TX7) (N := 30) (v := .int (M 15 0)) B 0 15 1 fw_X7_copyFrom_X7 rfl rfl (by decide) rfl rfl rfl dX7_copyFrom_14 ?_
    refine z_top (y := nI (mC M)) (MI_15 hI) ?_
    refine z_bipush (v := nI 16) B dX7_copyFrom_17 (by decide) ?_
    refine z_icmpN_eq B 29 dX7_copyFrom_19 (by decide) (by omega) (by omega) (fun zc19 => ?_) (fun zc19 => ?_)
    · refine z_iconst (v := nI 2) B dX7_copyFrom_29 (by decide) ?_
      refine z_goto B 34 dX7_copyFrom_30 (by decide) ?_
      refine z_callM (As := [.int (nI (2))]) (st := []) (C := RX7) (T := TX7) (N := 30) (ci := 7) (l := l) B hl (c7_refused l D g h a M (nI (2))) gX7_copyFrom_X7_refused rfl ⟨rfl, rfl⟩ nm_X7_refused ⟨by decide, by decide⟩ 0 rfl rfl rfl (Nat.le_of_ble_eq_true rfl) dX7_copyFrom_34 rfl rfl (by decide) (by decide) (fun r w1 hr => ?_)
      obtain ⟨hr1, rfl⟩ := hr
      rw [bI_t (show ¬ nI (2) = 0 by decide)] at hr1
      obtain rfl : r = nI 1 := hr1
      refine z_if_eq B 44 dX7_copyFrom_37 (by decide) (fun h => absurd h (by decide)) (fun _ => ?_)
      refine z_iconst (v := nI 0) B dX7_copyFrom_40 (by decide) ?_
      refine z_goto B 55 dX7_copyFrom_41 (by decide) ?_
      exact z_mret B hAe hr dX7_copyFrom_55 rfl (by decide) (by decide) (by refine ⟨_, rfl, ?_⟩; rw [nN_nI (show jx < 2 ^ 31 by omega)]; refine ⟨?_, ?_, ?_, ?_⟩ <;> intros <;> first | contradiction | rfl | exact ⟨rfl, rfl⟩ | omega  | exact ⟨bI_1 (by assumption), rfl⟩ | exact ⟨bI_z (by assumption), rfl⟩)
    · refine z_aload_n B 0 dX7_copyFrom_22 rfl rfl ?_
      refine z_callP (As := []) (st := [.ref (h)]) (C := RX7) (T := TX7) (N := 30) (ci := 7) (l := l) B hl (c7_burnt l D g h a M hI) gX7_copyFrom_X7_burnt rfl ⟨rfl, rfl⟩ nm_X7_burnt ⟨by decide, by decide⟩ (fun _ h => h) 0 rfl rfl rfl (Nat.le_of_ble_eq_true rfl) dX7_copyFrom_23 (Nat.zero_le _) (Nat.zero_le _) (fun r hr => ?_)
      subst hr
      refine z_ifN_le B 33 dX7_copyFrom_26 (by decide) (by omega) (fun zc26 => ?_) (fun zc26 => ?_)
      · refine z_iconst (v := nI 0) B dX7_copyFrom_33 (by decide) ?_
        refine z_callM (As := [.int (nI (0))]) (st := []) (C := RX7) (T := TX7) (N := 30) (ci := 7) (l := l) B hl (c7_refused l D g h a M (nI (0))) gX7_copyFrom_X7_refused rfl ⟨rfl, rfl⟩ nm_X7_refused ⟨by decide, by decide⟩ 0 rfl rfl rfl (Nat.le_of_ble_eq_true rfl) dX7_copyFrom_34 rfl rfl (by decide) (by decide) (fun r w1 hr => ?_)
        obtain ⟨hr1, rfl⟩ := hr
        rw [bI_f (show ¬ ¬ nI (0) = 0 by decide)] at hr1
        obtain rfl : r = nI 0 := hr1
        refine z_if_eq B 44 dX7_copyFrom_37 (by decide) (fun _ => ?_) (fun h => absurd h (by decide))
        refine z_aload_n B 0 dX7_copyFrom_44 rfl rfl ?_
        refine z_iload_n B 1 dX7_copyFrom_45 rfl rfl ?_
        refine z_aload_n B 0 dX7_copyFrom_46 rfl rfl ?_
        refine z_get (C := RX7) (T := TX7) (N := 30) (v := .ref (a 18)) B 0 18 2 fw_X7_copyFrom_X7 rfl rfl (by decide) rfl rfl rfl dX7_copyFrom_47 ?_
        refine z_iload_n B 1 dX7_copyFrom_50 rfl rfl ?_
        refine z_iald (g := (M 18)) (i := jx) B 14 0 rfl rfl (by omega) (by decide) dX7_copyFrom_51 ?_
        refine z_top (y := nI (mE M jx)) (MI_18 hI _) ?_
        have := MI_b18 hI jx
        refine z_callM (As := [.int (nI (jx)), .int (nI (mE M jx))]) (st := []) (C := RX7) (T := TX7) (N := 30) (ci := 7) (l := l) B hl (c7_makeCopy l D g h a (up2 M 0 0 (nI (0))) (MI_up0 hI) (nI (jx)) (mE M jx) (show mC (up2 M 0 0 (nI (0))) < 16 from (by omega : mC M < 16)) (show (mE M jx) ≤ mP (up2 M 0 0 (nI (0))) from (hJ.2 _ hjx.1).2)) gX7_copyFrom_X7_makeCopy rfl ⟨rfl, rfl⟩ nm_X7_makeCopy ⟨by decide, by decide⟩ 0 rfl rfl rfl (Nat.le_of_ble_eq_true rfl) dX7_copyFrom_52 rfl rfl (by decide) (by decide) (fun r w1 hr => ?_)
        obtain ⟨rfl, rfl⟩ := hr
        exact z_mret B hAe hr dX7_copyFrom_55 rfl (by decide) (by decide) (by refine ⟨_, rfl, ?_⟩; rw [nN_nI (show jx < 2 ^ 31 by omega)]; refine ⟨?_, ?_, ?_, ?_⟩ <;> intros <;> first | contradiction | rfl | exact ⟨rfl, rfl⟩ | omega  | exact ⟨bI_1 (by assumption), rfl⟩ | exact ⟨bI_z (by assumption), rfl⟩)
      · refine z_iconst (v := nI 2) B dX7_copyFrom_29 (by decide) ?_
        refine z_goto B 34 dX7_copyFrom_30 (by decide) ?_
        refine z_callM (As := [.int (nI (2))]) (st := []) (C := RX7) (T := TX7) (N := 30) (ci := 7) (l := l) B hl (c7_refused l D g h a M (nI (2))) gX7_copyFrom_X7_refused rfl ⟨rfl, rfl⟩ nm_X7_refused ⟨by decide, by decide⟩ 0 rfl rfl rfl (Nat.le_of_ble_eq_true rfl) dX7_copyFrom_34 rfl rfl (by decide) (by decide) (fun r w1 hr => ?_)
        obtain ⟨hr1, rfl⟩ := hr
        rw [bI_t (show ¬ nI (2) = 0 by decide)] at hr1
        obtain rfl : r = nI 1 := hr1
        refine z_if_eq B 44 dX7_copyFrom_37 (by decide) (fun h => absurd h (by decide)) (fun _ => ?_)
        refine z_iconst (v := nI 0) B dX7_copyFrom_40 (by decide) ?_
        refine z_goto B 55 dX7_copyFrom_41 (by decide) ?_
        exact z_mret B hAe hr dX7_copyFrom_55 rfl (by decide) (by decide) (by refine ⟨_, rfl, ?_⟩; rw [nN_nI (show jx < 2 ^ 31 by omega)]; refine ⟨?_, ?_, ?_, ?_⟩ <;> intros <;> first | contradiction | rfl | exact ⟨rfl, rfl⟩ | omega  | exact ⟨bI_1 (by assumption), rfl⟩ | exact ⟨bI_z (by assumption), rfl⟩)
  · refine z_iconst (v := nI 1) B dX7_copyFrom_9 (by decide) ?_
    refine z_goto B 34 dX7_copyFrom_10 (by decide) ?_
    refine z_callM (As := [.int (nI (1))]) (st := []) (C := RX7) (T := TX7) (N := 30) (ci := 7) (l := l) B hl (c7_refused l D g h a M (nI (1))) gX7_copyFrom_X7_refused rfl ⟨rfl, rfl⟩ nm_X7_refused ⟨by decide, by decide⟩ 0 rfl rfl rfl (Nat.le_of_ble_eq_true rfl) dX7_copyFrom_34 rfl rfl (by decide) (by decide) (fun r w1 hr => ?_)
    obtain ⟨hr1, rfl⟩ := hr
    rw [bI_t (show ¬ nI (1) = 0 by decide)] at hr1
    obtain rfl : r = nI 1 := hr1
    refine z_if_eq B 44 dX7_copyFrom_37 (by decide) (fun h => absurd h (by decide)) (fun _ => ?_)
    refine z_iconst (v := nI 0) B dX7_copyFrom_40 (by decide) ?_
    refine z_goto B 55 dX7_copyFrom_41 (by decide) ?_
    exact z_mret B hAe hr dX7_copyFrom_55 rfl (by decide) (by decide) (by refine ⟨_, rfl, ?_⟩; refine ⟨?_, ?_, ?_, ?_⟩ <;> intros <;> first | contradiction | rfl | exact ⟨rfl, rfl⟩ | omega  | exact ⟨bI_1 (by assumption), rfl⟩ | exact ⟨bI_z (by assumption), rfl⟩)
