theorem fw_X7_carry_X7 : zF wsX7_carry RX7 TX7 30 := fun _ h => List.mem_cons_of_mem _ (List.mem_append_right _ (h))
set_option maxHeartbeats 4000000 in
set_option maxRecDepth 100000 in
theorem c7_carry_0 (l : Launch) (D : va_G) (g : zG) (h : Nat) (a : Nat → Nat) (M : zMS) (hI : MI M) (x : Int32) : zMutI l yX7_carry wsX7_carry { frames := 2, cells := 0, slots := 0, locals := 43 } D (zT g) (wM g h a M) [.ref h, .int (x), .int (nI (0))] (fun r w' => ∃ M', w' = wM g h a M' ∧ (¬ pCx M x → M' = up2 M 0 0 (nI 1)) ∧ (pCx M x → r = nI 0 ∧ M' = up2 (up2 M 0 0 (nI 0)) 20 (nN x) (nI 1))) 0 0 := by
  refine zMutI_of (cc := cX7_carry) (maxL := 5) (ret := (some .int)) (own := RX7) [(0, .ref (h)), (1, .int (x)), (2, .int (nI (0)))] (by decide) rfl rfl rfl (Nat.le_of_ble_eq_true rfl) ?_
  intro X A hAe hl B hr hin
  obtain ⟨b5, b2, b15, b23, b25, b1⟩ := MI_bs hI
  refine z_aload_n B 0 dX7_carry_0 rfl rfl ?_
  refine z_aload_n B 0 dX7_carry_1 rfl rfl ?_
  refine z_iload_n B 1 dX7_carry_2 rfl rfl ?_
  refine z_callP (As := [.int (x)]) (st := [.ref (h)]) (C := RX7) (T := TX7) (N := 30) (ci := 7) (l := l) B hl (c7_isCopy l D g h a M hI x) gX7_carry_X7_isCopy rfl ⟨rfl, rfl⟩ nm_X7_isCopy ⟨by decide, by decide⟩ (fun _ h => h) 0 rfl rfl rfl (Nat.le_of_ble_eq_true rfl) dX7_carry_3 (Nat.zero_le _) (Nat.zero_le _) (fun r hr => ?_)
  subst hr
  refine z_ifB_eq B 13 dX7_carry_6 (by decide) (fun zc6 => ?_) (fun zc6 => ?_)
  · refine z_iconst (v := nI 1) B dX7_carry_13 (by decide) ?_
    refine z_callM (As := [.int (nI (1))]) (st := []) (C := RX7) (T := TX7) (N := 30) (ci := 7) (l := l) B hl (c7_refused l D g h a M (nI (1))) gX7_carry_X7_refused rfl ⟨rfl, rfl⟩ nm_X7_refused ⟨by decide, by decide⟩ 0 rfl rfl rfl (Nat.le_of_ble_eq_true rfl) dX7_carry_14 rfl rfl (by decide) (by decide) (fun r w1 hr => ?_)
    obtain ⟨hr1, rfl⟩ := hr
    rw [bI_t (show ¬ nI (1) = 0 by decide)] at hr1
    obtain rfl : r = nI 1 := hr1
    refine z_if_eq B 22 dX7_carry_17 (by decide) (fun h => absurd h (by decide)) (fun _ => ?_)
    refine z_iconst (v := nI 0) B dX7_carry_20 (by decide) ?_
    exact z_mret B hAe hr dX7_carry_21 rfl (by decide) (by decide) (by refine ⟨_, rfl, ?_⟩; refine ⟨?_, ?_⟩ <;> intros <;> first | contradiction | rfl | exact ⟨rfl, rfl⟩ | omega  | exact ⟨bI_1 (by assumption), rfl⟩ | exact ⟨bI_z (by assumption), rfl⟩)
  · have zkc6 := zc6
    obtain ⟨jx, rfl, hjx⟩ := zc6
    have hbjx : jx < 16 := by have := hjx.1; omega
    refine z_iconst (v := nI 0) B dX7_carry_9 (by decide) ?_
    refine z_goto B 14 dX7_carry_10 (by decide) ?_
    refine z_callM (As := [.int (nI (0))]) (st := []) (C := RX7) (T := TX7) (N := 30) (ci := 7) (l := l) B hl (c7_refused l D g h a M (nI (0))) gX7_carry_X7_refused rfl ⟨rfl, rfl⟩ nm_X7_refused ⟨by decide, by decide⟩ 0 rfl rfl rfl (Nat.le_of_ble_eq_true rfl) dX7_carry_14 rfl rfl (by decide) (by decide) (fun r w1 hr => ?_)
    obtain ⟨hr1, rfl⟩ := hr
    rw [bI_f (show ¬ ¬ nI (0) = 0 by decide)] at hr1
    obtain rfl : r = nI 0 := hr1
    refine z_if_eq B 22 dX7_carry_17 (by decide) (fun _ => ?_) (fun h => absurd h (by decide))
    refine z_iconst (v := nI 0) B dX7_carry_22 (by decide) ?_
    refine z_istore_n (lv1 := [(3, .int (nI (0))), (0, .ref (h)), (1, .int (nI (jx))), (2, .int (nI (0)))]) B dX7_carry_23 rfl (by decide) rfl ?_
    refine z_iconst (v := nI 0) B dX7_carry_24 (by decide) ?_
    refine z_istore (lv1 := [(4, .int (nI (0))), (3, .int (nI (0))), (0, .ref (h)), (1, .int (nI (jx))), (2, .int (nI (0)))]) B dX7_carry_25 (by decide) rfl ?_
    refine z_iload B 0 dX7_carry_27 rfl ?_
    refine z_aload_n B 2 dX7_carry_29 rfl rfl ?_
    refine z_get (C := RX7) (T := TX7) (N := 30) (v := .int (M 5 0)) B 0 5 1 fw_X7_carry_X7 rfl rfl (by decide) rfl rfl rfl dX7_carry_30 ?_
    refine z_top (y := nI (mP M)) (MI_5 hI) ?_
    refine z_icmpN_ge B 83 dX7_carry_33 (by decide) (by omega) (by omega) (fun zc33 => ?_) (fun zc33 => ?_)
    · refine z_aload_n B 2 dX7_carry_83 rfl rfl ?_
      refine z_get (C := RX7) (T := TX7) (N := 30) (v := .ref (a 20)) B 0 20 4 fw_X7_carry_X7 rfl rfl (by decide) rfl rfl rfl dX7_carry_84 ?_
      refine z_iload_n B 3 dX7_carry_87 rfl rfl ?_
      refine z_iload_n B 4 dX7_carry_88 rfl rfl ?_
      refine z_if_ne B 96 dX7_carry_89 (by decide) (fun h => absurd h (by decide)) (fun _ => ?_)
      refine z_iconst (v := nI 1) B dX7_carry_92 (by decide) ?_
      refine z_goto B 97 dX7_carry_93 (by decide) ?_
      refine z_zast (g := (M 20)) (i := jx) (w' := wM g h a (up2 (up2 M 0 0 (nI (0))) 20 jx (nI (1)))) B 16 1 rfl rfl (by omega) (by decide) (Or.inr rfl) dX7_carry_97 rfl ?_
      refine z_iload_n B 1 dX7_carry_98 rfl rfl ?_
      exact z_mret B hAe hr dX7_carry_99 rfl (by decide) (by decide) (by refine ⟨_, rfl, ?_⟩; rw [nN_nI (show jx < 2 ^ 31 by omega)]; refine ⟨?_, ?_⟩ <;> intros <;> first | contradiction | rfl | exact ⟨rfl, rfl⟩ | omega  | exact ⟨bI_1 (by assumption), rfl⟩ | exact ⟨bI_z (by assumption), rfl⟩)
    · refine z_iload_n B 4 dX7_carry_36 rfl rfl ?_
      refine z_if_eq B 83 dX7_carry_37 (by decide) (fun _ => ?_) (fun h => absurd h (by decide))
      refine z_aload_n B 2 dX7_carry_83 rfl rfl ?_
      refine z_get (C := RX7) (T := TX7) (N := 30) (v := .ref (a 20)) B 0 20 4 fw_X7_carry_X7 rfl rfl (by decide) rfl rfl rfl dX7_carry_84 ?_
      refine z_iload_n B 3 dX7_carry_87 rfl rfl ?_
      refine z_iload_n B 4 dX7_carry_88 rfl rfl ?_
      refine z_if_ne B 96 dX7_carry_89 (by decide) (fun h => absurd h (by decide)) (fun _ => ?_)
      refine z_iconst (v := nI 1) B dX7_carry_92 (by decide) ?_
      refine z_goto B 97 dX7_carry_93 (by decide) ?_
      refine z_zast (g := (M 20)) (i := jx) (w' := wM g h a (up2 (up2 M 0 0 (nI (0))) 20 jx (nI (1)))) B 16 1 rfl rfl (by omega) (by decide) (Or.inr rfl) dX7_carry_97 rfl ?_
      refine z_iload_n B 1 dX7_carry_98 rfl rfl ?_
      exact z_mret B hAe hr dX7_carry_99 rfl (by decide) (by decide) (by refine ⟨_, rfl, ?_⟩; rw [nN_nI (show jx < 2 ^ 31 by omega)]; refine ⟨?_, ?_⟩ <;> intros <;> first | contradiction | rfl | exact ⟨rfl, rfl⟩ | omega  | exact ⟨bI_1 (by assumption), rfl⟩ | exact ⟨bI_z (by assumption), rfl⟩)
set_option maxHeartbeats 4000000 in
set_option maxRecDepth 100000 in
theorem c7_carry_1 (l : Launch) (D : va_G) (g : zG) (h : Nat) (a : Nat → Nat) (M : zMS) (hI : MI M) (x : Int32) : zMutI l yX7_carry wsX7_carry { frames := 2, cells := 0, slots := 0, locals := 44 } D (zT g) (wM g h a M) [.ref h, .int (x), .int (nI (1))] (fun r w' => ∃ M', w' = wM g h a M' ∧ (¬ pCx M x → M' = up2 M 0 0 (nI 1)) ∧ (pCx M x → r = nI (zcnt (fun p => M 12 p = nI 2 ∧ pSt M (nN x) p) (mP M)) ∧ M' = up2 (caN (up2 M 0 0 (nI 0)) (nN x) (mP M)) 20 (nN x) (nI 0))) 0 0 := by
  refine zMutI_of (cc := cX7_carry) (maxL := 5) (ret := (some .int)) (own := RX7) [(0, .ref (h)), (1, .int (x)), (2, .int (nI (1)))] (by decide) rfl rfl rfl (Nat.le_of_ble_eq_true rfl) ?_
  intro X A hAe hl B hr hin
  obtain ⟨b5, b2, b15, b23, b25, b1⟩ := MI_bs hI
  generalize hQ : (zQe X (va_Qi (fun r w' => ∃ M', w' = wM g h a M' ∧ (¬ pCx M x → M' = up2 M 0 0 (nI 1)) ∧ (pCx M x → r = nI (zcnt (fun p => M 12 p = nI 2 ∧ pSt M (nN x) p) (mP M)) ∧ M' = up2 (caN (up2 M 0 0 (nI 0)) (nN x) (mP M)) 20 (nN x) (nI 0))) (zEnd D (zT g) (wM g h a M) (zs X).heap.size) A) 0 0 A) = Q
  refine z_aload_n B 0 dX7_carry_0 rfl rfl ?_
  refine z_aload_n B 0 dX7_carry_1 rfl rfl ?_
  refine z_iload_n B 1 dX7_carry_2 rfl rfl ?_
  refine z_callP (As := [.int (x)]) (st := [.ref (h)]) (C := RX7) (T := TX7) (N := 30) (ci := 7) (l := l) B hl (c7_isCopy l D g h a M hI x) gX7_carry_X7_isCopy rfl ⟨rfl, rfl⟩ nm_X7_isCopy ⟨by decide, by decide⟩ (fun _ h => h) 0 rfl rfl rfl (Nat.le_of_ble_eq_true rfl) dX7_carry_3 (Nat.zero_le _) (Nat.zero_le _) (fun r hr => ?_)
  subst hr
  refine z_ifB_eq B 13 dX7_carry_6 (by decide) (fun zc6 => ?_) (fun zc6 => ?_)
  · refine z_iconst (v := nI 1) B dX7_carry_13 (by decide) ?_
    refine z_callM (As := [.int (nI (1))]) (st := []) (C := RX7) (T := TX7) (N := 30) (ci := 7) (l := l) B hl (c7_refused l D g h a M (nI (1))) gX7_carry_X7_refused rfl ⟨rfl, rfl⟩ nm_X7_refused ⟨by decide, by decide⟩ 0 rfl rfl rfl (Nat.le_of_ble_eq_true rfl) dX7_carry_14 rfl rfl (by decide) (by decide) (fun r w1 hr => ?_)
    obtain ⟨hr1, rfl⟩ := hr
    rw [bI_t (show ¬ nI (1) = 0 by decide)] at hr1
    obtain rfl : r = nI 1 := hr1
    refine z_if_eq B 22 dX7_carry_17 (by decide) (fun h => absurd h (by decide)) (fun _ => ?_)
    refine z_iconst (v := nI 0) B dX7_carry_20 (by decide) ?_
    subst hQ
    exact z_mret B hAe hr dX7_carry_21 rfl (by decide) (by decide) (by refine ⟨_, rfl, ?_⟩; refine ⟨?_, ?_⟩ <;> intros <;> first | contradiction | rfl | exact ⟨rfl, rfl⟩ | omega  | exact ⟨bI_1 (by assumption), rfl⟩ | exact ⟨bI_z (by assumption), rfl⟩)
  · have zkc6 := zc6
    obtain ⟨jx, rfl, hjx⟩ := zc6
    have hbjx : jx < 16 := by have := hjx.1; omega
    refine z_iconst (v := nI 0) B dX7_carry_9 (by decide) ?_
    refine z_goto B 14 dX7_carry_10 (by decide) ?_
    refine z_callM (As := [.int (nI (0))]) (st := []) (C := RX7) (T := TX7) (N := 30) (ci := 7) (l := l) B hl (c7_refused l D g h a M (nI (0))) gX7_carry_X7_refused rfl ⟨rfl, rfl⟩ nm_X7_refused ⟨by decide, by decide⟩ 0 rfl rfl rfl (Nat.le_of_ble_eq_true rfl) dX7_carry_14 rfl rfl (by decide) (by decide) (fun r w1 hr => ?_)
    obtain ⟨hr1, rfl⟩ := hr
    rw [bI_f (show ¬ ¬ nI (0) = 0 by decide)] at hr1
    obtain rfl : r = nI 0 := hr1
    refine z_if_eq B 22 dX7_carry_17 (by decide) (fun _ => ?_) (fun h => absurd h (by decide))
    refine z_iconst (v := nI 0) B dX7_carry_22 (by decide) ?_
    refine z_istore_n (lv1 := [(3, .int (nI (0))), (0, .ref (h)), (1, .int (nI (jx))), (2, .int (nI (1)))]) B dX7_carry_23 rfl (by decide) rfl ?_
    refine z_iconst (v := nI 0) B dX7_carry_24 (by decide) ?_
    refine z_istore (lv1 := [(4, .int (nI (0))), (3, .int (nI (0))), (0, .ref (h)), (1, .int (nI (jx))), (2, .int (nI (1)))]) B dX7_carry_25 (by decide) rfl ?_
    have loop27 : ∀ (n0 i : Nat), i ≤ mP M → mP M + 1 ≤ i + n0 → zJ X 5 (zI1 D A (zs X)) Q (wM g h a (caN (up2 M 0 0 (nI (0))) jx i)) 0 0 [(0, .ref (h)), (1, .int (nI (jx))), (2, .int (nI (1))), (3, .int (nI (zcnt (fun p => M 12 p = nI 2 ∧ pSt M jx p) i))), (4, .int (nI (i)))] 27 [] := by
      intro n27
      induction n27 with
      | zero => intro i h1 h2; exact absurd h2 (by omega)
      | succ n27 ih27 =>
        intro i hle27 hn27
        refine z_iload B 4 dX7_carry_27 rfl ?_
        refine z_aload_n B 0 dX7_carry_29 rfl rfl ?_
        refine z_get (C := RX7) (T := TX7) (N := 30) (v := .int ((caN (up2 M 0 0 (nI (0))) jx i) 5 0)) B 0 5 1 fw_X7_carry_X7 rfl rfl (by decide) rfl rfl rfl dX7_carry_30 ?_
        refine z_top (y := nI (mP M)) ((congrFun (caN_k (up2 M 0 0 (nI (0))) jx (k := 5) (by decide) i) 0).trans (MI_5 (M := M) hI)) ?_
        refine z_icmpN_ge B 83 dX7_carry_33 (by decide) (by omega) (by omega) (fun zc33 => ?_) (fun zc33 => ?_)
        · obtain rfl : i = mP M := by omega
          refine z_aload_n B 0 dX7_carry_83 rfl rfl ?_
          refine z_get (C := RX7) (T := TX7) (N := 30) (v := .ref (a 20)) B 0 20 4 fw_X7_carry_X7 rfl rfl (by decide) rfl rfl rfl dX7_carry_84 ?_
          refine z_iload_n B 1 dX7_carry_87 rfl rfl ?_
          refine z_iload_n B 2 dX7_carry_88 rfl rfl ?_
          refine z_if_ne B 96 dX7_carry_89 (by decide) (fun _ => ?_) (fun h => absurd h (by decide))
          refine z_iconst (v := nI 0) B dX7_carry_96 (by decide) ?_
          refine z_zast (g := ((caN (up2 M 0 0 (nI (0))) jx (mP M)) 20)) (i := jx) (w' := wM g h a (up2 (caN (up2 M 0 0 (nI (0))) jx (mP M)) 20 jx (nI (0)))) B 16 1 rfl rfl (by omega) (by decide) (Or.inl rfl) dX7_carry_97 rfl ?_
          refine z_iload_n B 3 dX7_carry_98 rfl rfl ?_
          subst hQ
          exact z_mret B hAe hr dX7_carry_99 rfl (by decide) (by decide) (by refine ⟨_, rfl, ?_⟩; rw [nN_nI (show jx < 2 ^ 31 by omega)]; refine ⟨?_, ?_⟩ <;> intros <;> first | contradiction | rfl | exact ⟨rfl, rfl⟩ | omega  | exact ⟨bI_1 (by assumption), rfl⟩ | exact ⟨bI_z (by assumption), rfl⟩)
        · refine z_iload_n B 2 dX7_carry_36 rfl rfl ?_
          refine z_if_eq B 83 dX7_carry_37 (by decide) (fun h => absurd h (by decide)) (fun _ => ?_)
          refine z_aload_n B 0 dX7_carry_40 rfl rfl ?_
          refine z_get (C := RX7) (T := TX7) (N := 30) (v := .ref (a 12)) B 0 12 2 fw_X7_carry_X7 rfl rfl (by decide) rfl rfl rfl dX7_carry_41 ?_
          refine z_iload B 4 dX7_carry_44 rfl ?_
          refine z_iald (g := ((caN (up2 M 0 0 (nI (0))) jx i) 12)) (i := i) B 9 0 rfl rfl (by omega) (by decide) dX7_carry_46 ?_
          refine z_top (y := M 12 i) (congrFun (caN_k (up2 M 0 0 (nI (0))) jx (k := 12) (by decide) i) _) ?_
          refine z_iconst (v := nI 2) B dX7_carry_47 (by decide) ?_
          refine z_icmp_ne B 77 dX7_carry_48 (by decide) (fun zc48 => ?_) (fun zc48 => ?_)
          · refine z_iinc B 4 (lv1 := [(4, .int (nI (i + 1))), (0, .ref (h)), (1, .int (nI (jx))), (2, .int (nI (1))), (3, .int (nI (zcnt (fun p => M 12 p = nI 2 ∧ pSt M jx p) i)))]) dX7_carry_77 rfl (nI_1 _) (by decide) rfl ?_
            refine z_goto B 27 dX7_carry_80 (by decide) ?_
            refine z_loc [1, 2, 3, 4, 0] (lv' := [(0, .ref (h)), (1, .int (nI (jx))), (2, .int (nI (1))), (3, .int (nI (zcnt (fun p => M 12 p = nI 2 ∧ pSt M jx p) i))), (4, .int (nI (i + 1)))]) rfl ?_
            refine z_lvc (lv' := [(0, .ref (h)), (1, .int (nI (jx))), (2, .int (nI (1))), (3, .int (nI (zcnt (fun p => M 12 p = nI 2 ∧ pSt M jx p) (i + 1)))), (4, .int (nI ((i + 1))))]) (by first | (rw [zcnt_y (P := fun p => M 12 p = nI 2 ∧ pSt M jx p) ⟨zc48, zc58⟩] <;> rfl) | (rw [← zcnt_n (P := fun p => M 12 p = nI 2 ∧ pSt M jx p) (fun h => zc48 h.1)] <;> rfl) | (rw [← zcnt_n (P := fun p => M 12 p = nI 2 ∧ pSt M jx p) (fun h => zc58 h.2)] <;> rfl)) ?_
            refine z_w (w' := wM g h a (caN (up2 M 0 0 (nI (0))) jx (i + 1))) (by first | exact congrArg (wM g h a) (caN_y (M := up2 M 0 0 (nI (0))) ⟨zc48, zc58⟩) | exact congrArg (wM g h a) (caN_n (M := up2 M 0 0 (nI (0))) (fun q => zc48 q.1)) | exact congrArg (wM g h a) (caN_n (M := up2 M 0 0 (nI (0))) (fun q => zc58 q.2))) ?_
            exact ih27 (i + 1) (by omega) (by omega)
          · refine z_aload_n B 0 dX7_carry_51 rfl rfl ?_
            refine z_iload_n B 1 dX7_carry_52 rfl rfl ?_
            refine z_iload B 4 dX7_carry_53 rfl ?_
            refine z_callP (As := [.int (nI (jx)), .int (nI (i))]) (st := []) (C := RX7) (T := TX7) (N := 30) (ci := 7) (l := l) B hl (c7_standsIn l D g h a (caN (up2 M 0 0 (nI (0))) jx i) (MI_caN (MI_up0 hI) i) jx (by omega) i (by omega)) gX7_carry_X7_standsIn rfl ⟨rfl, rfl⟩ nm_X7_standsIn ⟨by decide, by decide⟩ (fun _ h => h) 0 rfl rfl rfl (Nat.le_of_ble_eq_true rfl) dX7_carry_55 (Nat.zero_le _) (Nat.zero_le _) (fun r hr => ?_)
            subst hr
            refine z_top (y := bI (pSt M jx i)) (by rw [caN_St]; rfl) ?_
            refine z_ifB_eq B 77 dX7_carry_58 (by decide) (fun zc58 => ?_) (fun zc58 => ?_)
            · refine z_iinc B 4 (lv1 := [(4, .int (nI (i + 1))), (0, .ref (h)), (1, .int (nI (jx))), (2, .int (nI (1))), (3, .int (nI (zcnt (fun p => M 12 p = nI 2 ∧ pSt M jx p) i)))]) dX7_carry_77 rfl (nI_1 _) (by decide) rfl ?_
              refine z_goto B 27 dX7_carry_80 (by decide) ?_
              refine z_loc [1, 2, 3, 4, 0] (lv' := [(0, .ref (h)), (1, .int (nI (jx))), (2, .int (nI (1))), (3, .int (nI (zcnt (fun p => M 12 p = nI 2 ∧ pSt M jx p) i))), (4, .int (nI (i + 1)))]) rfl ?_
              refine z_lvc (lv' := [(0, .ref (h)), (1, .int (nI (jx))), (2, .int (nI (1))), (3, .int (nI (zcnt (fun p => M 12 p = nI 2 ∧ pSt M jx p) (i + 1)))), (4, .int (nI ((i + 1))))]) (by first | (rw [zcnt_y (P := fun p => M 12 p = nI 2 ∧ pSt M jx p) ⟨zc48, zc58⟩] <;> rfl) | (rw [← zcnt_n (P := fun p => M 12 p = nI 2 ∧ pSt M jx p) (fun h => zc48 h.1)] <;> rfl) | (rw [← zcnt_n (P := fun p => M 12 p = nI 2 ∧ pSt M jx p) (fun h => zc58 h.2)] <;> rfl)) ?_
              refine z_w (w' := wM g h a (caN (up2 M 0 0 (nI (0))) jx (i + 1))) (by first | exact congrArg (wM g h a) (caN_y (M := up2 M 0 0 (nI (0))) ⟨zc48, zc58⟩) | exact congrArg (wM g h a) (caN_n (M := up2 M 0 0 (nI (0))) (fun q => zc48 q.1)) | exact congrArg (wM g h a) (caN_n (M := up2 M 0 0 (nI (0))) (fun q => zc58 q.2))) ?_
              exact ih27 (i + 1) (by omega) (by omega)
            · refine z_aload_n B 0 dX7_carry_61 rfl rfl ?_
              refine z_get (C := RX7) (T := TX7) (N := 30) (v := .ref (a 21)) B 0 21 3 fw_X7_carry_X7 rfl rfl (by decide) rfl rfl rfl dX7_carry_62 ?_
              refine z_bipush (v := nI 80) B dX7_carry_65 (by decide) ?_
              refine z_iload_n B 1 dX7_carry_67 rfl rfl ?_
              refine z_imulN B dX7_carry_68 ?_
              refine z_iload B 4 dX7_carry_69 rfl ?_
              refine z_iaddN B dX7_carry_71 ?_
              refine z_iconst (v := nI 0) B dX7_carry_72 (by decide) ?_
              refine z_zast (g := ((caN (up2 M 0 0 (nI (0))) jx i) 21)) (i := 80 * jx + i) (w' := wM g h a (up2 (caN (up2 M 0 0 (nI (0))) jx i) 21 (80 * jx + i) (nI (0)))) B 17 1 rfl rfl (by omega) (by decide) (Or.inl rfl) dX7_carry_73 rfl ?_
              refine z_iinc B 3 (lv1 := [(3, .int (nI (zcnt (fun p => M 12 p = nI 2 ∧ pSt M jx p) i + 1))), (0, .ref (h)), (1, .int (nI (jx))), (2, .int (nI (1))), (4, .int (nI (i)))]) dX7_carry_74 rfl (nI_1 _) (by decide) rfl ?_
              refine z_iinc B 4 (lv1 := [(4, .int (nI (i + 1))), (3, .int (nI (zcnt (fun p => M 12 p = nI 2 ∧ pSt M jx p) i + 1))), (0, .ref (h)), (1, .int (nI (jx))), (2, .int (nI (1)))]) dX7_carry_77 rfl (nI_1 _) (by decide) rfl ?_
              refine z_goto B 27 dX7_carry_80 (by decide) ?_
              refine z_loc [2, 3, 4, 1, 0] (lv' := [(0, .ref (h)), (1, .int (nI (jx))), (2, .int (nI (1))), (3, .int (nI (zcnt (fun p => M 12 p = nI 2 ∧ pSt M jx p) i + 1))), (4, .int (nI (i + 1)))]) rfl ?_
              refine z_lvc (lv' := [(0, .ref (h)), (1, .int (nI (jx))), (2, .int (nI (1))), (3, .int (nI (zcnt (fun p => M 12 p = nI 2 ∧ pSt M jx p) (i + 1)))), (4, .int (nI ((i + 1))))]) (by first | (rw [zcnt_y (P := fun p => M 12 p = nI 2 ∧ pSt M jx p) ⟨zc48, zc58⟩] <;> rfl) | (rw [← zcnt_n (P := fun p => M 12 p = nI 2 ∧ pSt M jx p) (fun h => zc48 h.1)] <;> rfl) | (rw [← zcnt_n (P := fun p => M 12 p = nI 2 ∧ pSt M jx p) (fun h => zc58 h.2)] <;> rfl)) ?_
              refine z_w (w' := wM g h a (caN (up2 M 0 0 (nI (0))) jx (i + 1))) (by first | exact congrArg (wM g h a) (caN_y (M := up2 M 0 0 (nI (0))) ⟨zc48, zc58⟩) | exact congrArg (wM g h a) (caN_n (M := up2 M 0 0 (nI (0))) (fun q => zc48 q.1)) | exact congrArg (wM g h a) (caN_n (M := up2 M 0 0 (nI (0))) (fun q => zc58 q.2))) ?_
              exact ih27 (i + 1) (by omega) (by omega)
    refine z_loc [2, 3, 4, 1, 0] (lv' := [(0, .ref (h)), (1, .int (nI (jx))), (2, .int (nI (1))), (3, .int (nI (0))), (4, .int (nI (0)))]) rfl ?_
    refine z_lvc (lv' := [(0, .ref (h)), (1, .int (nI (jx))), (2, .int (nI (1))), (3, .int (nI (zcnt (fun p => M 12 p = nI 2 ∧ pSt M jx p) 0))), (4, .int (nI (0)))]) (by rfl) ?_
    refine z_w (w' := wM g h a (caN (up2 M 0 0 (nI (0))) jx 0)) (by rfl) ?_
    exact loop27 (mP M + 1) 0 (by omega) (by omega)
theorem fw_X7_rot_X7 : zF wsX7_rot RX7 TX7 30 := fun _ h => List.mem_cons_of_mem _ (List.mem_append_right _ (h))
set_option maxHeartbeats 4000000 in
set_option maxRecDepth 100000 in
theorem c7_rot (l : Launch) (D : va_G) (g : zG) (h : Nat) (a : Nat → Nat) (M : zMS) (hI : MI M) (x : Int32) (y : Int32) : zMutI l yX7_rot wsX7_rot { frames := 3, cells := 0, slots := 0, locals := 65 } D (zT g) (wM g h a M) [.ref h, .int (x), .int (y)] (fun r w' => ∃ M', w' = wM g h a M' ∧ (¬ pBo M x y → M' = up2 M 0 0 (nI 1)) ∧ (pBo M x y → r = M 21 (80 * nN x + nN y) ∧ M' = up2 (up2 M 0 0 (nI 0)) 21 (80 * nN x + nN y) (nI 0))) 0 0 := by
  refine zMutI_of (cc := cX7_rot) (maxL := 4) (ret := (some .boolean)) (own := RX7) [(0, .ref (h)), (1, .int (x)), (2, .int (y))] (by decide) rfl rfl rfl (Nat.le_of_ble_eq_true rfl) ?_
  intro X A hAe hl B hr hin
  obtain ⟨b5, b2, b15, b23, b25, b1⟩ := MI_bs hI
  refine z_aload_n B 0 dX7_rot_0 rfl rfl ?_
  refine z_aload_n B 0 dX7_rot_1 rfl rfl ?_
  refine z_iload_n B 1 dX7_rot_2 rfl rfl ?_
  refine z_iload_n B 2 dX7_rot_3 rfl rfl ?_
  refine z_callP (As := [.int (x), .int (y)]) (st := [.ref (h)]) (C := RX7) (T := TX7) (N := 30) (ci := 7) (l := l) B hl (c7_areBoth l D g h a M hI x y) gX7_rot_X7_areBoth rfl ⟨rfl, rfl⟩ nm_X7_areBoth ⟨by decide, by decide⟩ (fun _ h => h) 0 rfl rfl rfl (Nat.le_of_ble_eq_true rfl) dX7_rot_4 (Nat.zero_le _) (Nat.zero_le _) (fun r hr => ?_)
  subst hr
  refine z_ifB_eq B 14 dX7_rot_7 (by decide) (fun zc7 => ?_) (fun zc7 => ?_)
  · refine z_iconst (v := nI 1) B dX7_rot_14 (by decide) ?_
    refine z_callM (As := [.int (nI (1))]) (st := []) (C := RX7) (T := TX7) (N := 30) (ci := 7) (l := l) B hl (c7_refused l D g h a M (nI (1))) gX7_rot_X7_refused rfl ⟨rfl, rfl⟩ nm_X7_refused ⟨by decide, by decide⟩ 0 rfl rfl rfl (Nat.le_of_ble_eq_true rfl) dX7_rot_15 rfl rfl (by decide) (by decide) (fun r w1 hr => ?_)
    obtain ⟨hr1, rfl⟩ := hr
    rw [bI_t (show ¬ nI (1) = 0 by decide)] at hr1
    obtain rfl : r = nI 1 := hr1
    refine z_if_eq B 23 dX7_rot_18 (by decide) (fun h => absurd h (by decide)) (fun _ => ?_)
    refine z_iconst (v := nI 0) B dX7_rot_21 (by decide) ?_
    exact z_mret B hAe hr dX7_rot_22 (nar_b (Or.inl rfl)) (by decide) (by decide) (by refine ⟨_, rfl, ?_⟩; refine ⟨?_, ?_⟩ <;> intros <;> first | contradiction | rfl | exact ⟨rfl, rfl⟩ | omega  | exact ⟨bI_1 (by assumption), rfl⟩ | exact ⟨bI_z (by assumption), rfl⟩)
  · have zkc7 := zc7
    obtain ⟨jx, jy, rfl, rfl, hjx, hjy, hbo⟩ := zc7
    have hbjx : jx < 16 := by have := hjx.1; omega
    refine z_iconst (v := nI 0) B dX7_rot_10 (by decide) ?_
    refine z_goto B 15 dX7_rot_11 (by decide) ?_
    refine z_callM (As := [.int (nI (0))]) (st := []) (C := RX7) (T := TX7) (N := 30) (ci := 7) (l := l) B hl (c7_refused l D g h a M (nI (0))) gX7_rot_X7_refused rfl ⟨rfl, rfl⟩ nm_X7_refused ⟨by decide, by decide⟩ 0 rfl rfl rfl (Nat.le_of_ble_eq_true rfl) dX7_rot_15 rfl rfl (by decide) (by decide) (fun r w1 hr => ?_)
    obtain ⟨hr1, rfl⟩ := hr
    rw [bI_f (show ¬ ¬ nI (0) = 0 by decide)] at hr1
    obtain rfl : r = nI 0 := hr1
    refine z_if_eq B 23 dX7_rot_18 (by decide) (fun _ => ?_) (fun h => absurd h (by decide))
    refine z_aload_n B 0 dX7_rot_23 rfl rfl ?_
    refine z_get (C := RX7) (T := TX7) (N := 30) (v := .ref (a 21)) B 0 21 1 fw_X7_rot_X7 rfl rfl (by decide) rfl rfl rfl dX7_rot_24 ?_
    refine z_bipush (v := nI 80) B dX7_rot_27 (by decide) ?_
    refine z_iload_n B 1 dX7_rot_29 rfl rfl ?_
    refine z_imulN B dX7_rot_30 ?_
    refine z_iload_n B 2 dX7_rot_31 rfl rfl ?_
    refine z_iaddN B dX7_rot_32 ?_
    refine z_zald (g := (M 21)) (i := 80 * jx + jy) B 17 1 rfl rfl (by omega) (by decide) dX7_rot_33 ?_
    refine z_istore_n (lv1 := [(3, .int (M 21 (80 * jx + jy))), (0, .ref (h)), (1, .int (nI (jx))), (2, .int (nI (jy)))]) B dX7_rot_34 rfl (by decide) rfl ?_
    refine z_aload_n B 1 dX7_rot_35 rfl rfl ?_
    refine z_get (C := RX7) (T := TX7) (N := 30) (v := .ref (a 21)) B 0 21 1 fw_X7_rot_X7 rfl rfl (by decide) rfl rfl rfl dX7_rot_36 ?_
    refine z_bipush (v := nI 80) B dX7_rot_39 (by decide) ?_
    refine z_iload_n B 2 dX7_rot_41 rfl rfl ?_
    refine z_imulN B dX7_rot_42 ?_
    refine z_iload_n B 3 dX7_rot_43 rfl rfl ?_
    refine z_iaddN B dX7_rot_44 ?_
    refine z_iconst (v := nI 0) B dX7_rot_45 (by decide) ?_
    refine z_zast (g := (M 21)) (i := 80 * jx + jy) (w' := wM g h a (up2 (up2 M 0 0 (nI (0))) 21 (80 * jx + jy) (nI (0)))) B 17 1 rfl rfl (by omega) (by decide) (Or.inl rfl) dX7_rot_46 rfl ?_
    refine z_iload_n B 0 dX7_rot_47 rfl rfl ?_
    exact z_mret B hAe hr dX7_rot_48 (nar_b (MI_z21 hI _)) (by decide) (by decide) (by refine ⟨_, rfl, ?_⟩; rw [nN_nI (show jx < 2 ^ 31 by omega)]; rw [nN_nI (show jy < 2 ^ 31 by omega)]; refine ⟨?_, ?_⟩ <;> intros <;> first | contradiction | rfl | exact ⟨rfl, rfl⟩ | omega  | exact ⟨bI_1 (by assumption), rfl⟩ | exact ⟨bI_z (by assumption), rfl⟩)
theorem fw_X7_throwAway_X7 : zF wsX7_throwAway RX7 TX7 30 := fun _ h => List.mem_cons_of_mem _ (List.mem_append_right _ (h))
set_option maxHeartbeats 4000000 in
set_option maxRecDepth 100000 in
theorem c7_throwAway (l : Launch) (D : va_G) (g : zG) (h : Nat) (a : Nat → Nat) (M : zMS) (hI : MI M) (x : Int32) : zMutI l yX7_throwAway wsX7_throwAway { frames := 3, cells := 0, slots := 0, locals := 70 } D (zT g) (wM g h a M) [.ref h, .int (x)] (fun r w' => ∃ M', w' = wM g h a M' ∧ (¬ pCx M x → M' = up2 M 0 0 (nI 1)) ∧ (pCx M x → pBase M x → M' = up2 M 0 0 (nI 2)) ∧ (pCx M x → ¬ pBase M x → pBl M (nN x) (mP M) → M' = up2 M 0 0 (nI 2)) ∧ (pCx M x → ¬ pBase M x → ¬ pBl M (nN x) (mP M) → r = nI (zcnt (fun k => (up2 M 19 (nN x) (nI 1)) 19 k = 0) (mC M)) ∧ M' = up2 (up2 M 0 0 (nI 0)) 19 (nN x) (nI 1))) 0 0 := by
  refine zMutI_of (cc := cX7_throwAway) (maxL := 4) (ret := (some .int)) (own := RX7) [(0, .ref (h)), (1, .int (x))] (by decide) rfl rfl rfl (Nat.le_of_ble_eq_true rfl) ?_
  intro X A hAe hl B hr hin
  obtain ⟨b5, b2, b15, b23, b25, b1⟩ := MI_bs hI
  generalize hQ : (zQe X (va_Qi (fun r w' => ∃ M', w' = wM g h a M' ∧ (¬ pCx M x → M' = up2 M 0 0 (nI 1)) ∧ (pCx M x → pBase M x → M' = up2 M 0 0 (nI 2)) ∧ (pCx M x → ¬ pBase M x → pBl M (nN x) (mP M) → M' = up2 M 0 0 (nI 2)) ∧ (pCx M x → ¬ pBase M x → ¬ pBl M (nN x) (mP M) → r = nI (zcnt (fun k => (up2 M 19 (nN x) (nI 1)) 19 k = 0) (mC M)) ∧ M' = up2 (up2 M 0 0 (nI 0)) 19 (nN x) (nI 1))) (zEnd D (zT g) (wM g h a M) (zs X).heap.size) A) 0 0 A) = Q
  refine z_aload_n B 0 dX7_throwAway_0 rfl rfl ?_
  refine z_iload_n B 1 dX7_throwAway_1 rfl rfl ?_
  refine z_callP (As := [.int (x)]) (st := []) (C := RX7) (T := TX7) (N := 30) (ci := 7) (l := l) B hl (c7_isCopy l D g h a M hI x) gX7_throwAway_X7_isCopy rfl ⟨rfl, rfl⟩ nm_X7_isCopy ⟨by decide, by decide⟩ (fun _ h => h) 0 rfl rfl rfl (Nat.le_of_ble_eq_true rfl) dX7_throwAway_2 (Nat.zero_le _) (Nat.zero_le _) (fun r hr => ?_)
  subst hr
  refine z_ifB_eq B 20 dX7_throwAway_5 (by decide) (fun zc5 => ?_) (fun zc5 => ?_)
  · refine z_iconst (v := nI 0) B dX7_throwAway_20 (by decide) ?_
    refine z_istore_n (lv1 := [(2, .int (nI (0))), (0, .ref (h)), (1, .int (x))]) B dX7_throwAway_21 rfl (by decide) rfl ?_
    refine z_iconst (v := nI 0) B dX7_throwAway_22 (by decide) ?_
    refine z_istore_n (lv1 := [(3, .int (nI (0))), (2, .int (nI (0))), (0, .ref (h)), (1, .int (x))]) B dX7_throwAway_23 rfl (by decide) rfl ?_
    refine z_iload_n B 1 dX7_throwAway_24 rfl rfl ?_
    refine z_if_eq B 65 dX7_throwAway_25 (by decide) (fun _ => ?_) (fun h => absurd h (by decide))
    refine z_aload_n B 2 dX7_throwAway_65 rfl rfl ?_
    refine z_aload_n B 2 dX7_throwAway_66 rfl rfl ?_
    refine z_iload_n B 3 dX7_throwAway_67 rfl rfl ?_
    refine z_callP (As := [.int (x)]) (st := [.ref (h)]) (C := RX7) (T := TX7) (N := 30) (ci := 7) (l := l) B hl (c7_isCopy l D g h a M hI x) gX7_throwAway_X7_isCopy rfl ⟨rfl, rfl⟩ nm_X7_isCopy ⟨by decide, by decide⟩ (fun _ h => h) 0 rfl rfl rfl (Nat.le_of_ble_eq_true rfl) dX7_throwAway_68 (Nat.zero_le _) (Nat.zero_le _) (fun r hr => ?_)
    subst hr
    refine z_ifB_ne B 78 dX7_throwAway_71 (by decide) (fun h => absurd h zc5) (fun _ => ?_)
    refine z_iconst (v := nI 1) B dX7_throwAway_74 (by decide) ?_
    refine z_goto B 87 dX7_throwAway_75 (by decide) ?_
    refine z_callM (As := [.int (nI (1))]) (st := []) (C := RX7) (T := TX7) (N := 30) (ci := 7) (l := l) B hl (c7_refused l D g h a M (nI (1))) gX7_throwAway_X7_refused rfl ⟨rfl, rfl⟩ nm_X7_refused ⟨by decide, by decide⟩ 0 rfl rfl rfl (Nat.le_of_ble_eq_true rfl) dX7_throwAway_87 rfl rfl (by decide) (by decide) (fun r w1 hr => ?_)
    obtain ⟨hr1, rfl⟩ := hr
    rw [bI_t (show ¬ nI (1) = 0 by decide)] at hr1
    obtain rfl : r = nI 1 := hr1
    refine z_if_eq B 95 dX7_throwAway_90 (by decide) (fun h => absurd h (by decide)) (fun _ => ?_)
    refine z_iconst (v := nI 0) B dX7_throwAway_93 (by decide) ?_
    subst hQ
    exact z_mret B hAe hr dX7_throwAway_94 rfl (by decide) (by decide) (by refine ⟨_, rfl, ?_⟩; refine ⟨?_, ?_, ?_, ?_⟩ <;> intros <;> first | contradiction | rfl | exact ⟨rfl, rfl⟩ | omega  | exact ⟨bI_1 (by assumption), rfl⟩ | exact ⟨bI_z (by assumption), rfl⟩)
  · have zkc5 := zc5
    obtain ⟨jx, rfl, hjx⟩ := zc5
    have hbjx : jx < 16 := by have := hjx.1; omega
    refine z_aload_n B 0 dX7_throwAway_8 rfl rfl ?_
    refine z_iload_n B 1 dX7_throwAway_9 rfl rfl ?_
    refine z_callP (As := [.int (nI (jx))]) (st := []) (C := RX7) (T := TX7) (N := 30) (ci := 7) (l := l) B hl (c7_isBase l D g h a M hI (nI (jx))) gX7_throwAway_X7_isBase rfl ⟨rfl, rfl⟩ nm_X7_isBase ⟨by decide, by decide⟩ (fun _ h => h) 0 rfl rfl rfl (Nat.le_of_ble_eq_true rfl) dX7_throwAway_10 (Nat.zero_le _) (Nat.zero_le _) (fun r hr => ?_)
    subst hr
    refine z_ifB_ne B 20 dX7_throwAway_13 (by decide) (fun zc13 => ?_) (fun zc13 => ?_)
    · refine z_iconst (v := nI 0) B dX7_throwAway_20 (by decide) ?_
      refine z_istore_n (lv1 := [(2, .int (nI (0))), (0, .ref (h)), (1, .int (nI (jx)))]) B dX7_throwAway_21 rfl (by decide) rfl ?_
      refine z_iconst (v := nI 0) B dX7_throwAway_22 (by decide) ?_
      refine z_istore_n (lv1 := [(3, .int (nI (0))), (2, .int (nI (0))), (0, .ref (h)), (1, .int (nI (jx)))]) B dX7_throwAway_23 rfl (by decide) rfl ?_
      refine z_iload_n B 1 dX7_throwAway_24 rfl rfl ?_
      refine z_if_eq B 65 dX7_throwAway_25 (by decide) (fun _ => ?_) (fun h => absurd h (by decide))
      refine z_aload_n B 2 dX7_throwAway_65 rfl rfl ?_
      refine z_aload_n B 2 dX7_throwAway_66 rfl rfl ?_
      refine z_iload_n B 3 dX7_throwAway_67 rfl rfl ?_
      refine z_callP (As := [.int (nI (jx))]) (st := [.ref (h)]) (C := RX7) (T := TX7) (N := 30) (ci := 7) (l := l) B hl (c7_isCopy l D g h a M hI (nI (jx))) gX7_throwAway_X7_isCopy rfl ⟨rfl, rfl⟩ nm_X7_isCopy ⟨by decide, by decide⟩ (fun _ h => h) 0 rfl rfl rfl (Nat.le_of_ble_eq_true rfl) dX7_throwAway_68 (Nat.zero_le _) (Nat.zero_le _) (fun r hr => ?_)
      subst hr
      refine z_ifB_ne B 78 dX7_throwAway_71 (by decide) (fun _ => ?_) (fun h => absurd zkc5 h)
      refine z_iload_n B 1 dX7_throwAway_78 rfl rfl ?_
      refine z_if_eq B 86 dX7_throwAway_79 (by decide) (fun _ => ?_) (fun h => absurd h (by decide))
      refine z_iconst (v := nI 2) B dX7_throwAway_86 (by decide) ?_
      refine z_callM (As := [.int (nI (2))]) (st := []) (C := RX7) (T := TX7) (N := 30) (ci := 7) (l := l) B hl (c7_refused l D g h a M (nI (2))) gX7_throwAway_X7_refused rfl ⟨rfl, rfl⟩ nm_X7_refused ⟨by decide, by decide⟩ 0 rfl rfl rfl (Nat.le_of_ble_eq_true rfl) dX7_throwAway_87 rfl rfl (by decide) (by decide) (fun r w1 hr => ?_)
      obtain ⟨hr1, rfl⟩ := hr
      rw [bI_t (show ¬ nI (2) = 0 by decide)] at hr1
      obtain rfl : r = nI 1 := hr1
      refine z_if_eq B 95 dX7_throwAway_90 (by decide) (fun h => absurd h (by decide)) (fun _ => ?_)
      refine z_iconst (v := nI 0) B dX7_throwAway_93 (by decide) ?_
      subst hQ
      exact z_mret B hAe hr dX7_throwAway_94 rfl (by decide) (by decide) (by refine ⟨_, rfl, ?_⟩; rw [nN_nI (show jx < 2 ^ 31 by omega)]; refine ⟨?_, ?_, ?_, ?_⟩ <;> intros <;> first | contradiction | rfl | exact ⟨rfl, rfl⟩ | omega  | exact ⟨bI_1 (by assumption), rfl⟩ | exact ⟨bI_z (by assumption), rfl⟩)
    · refine z_iconst (v := nI 1) B dX7_throwAway_16 (by decide) ?_
      refine z_goto B 21 dX7_throwAway_17 (by decide) ?_
      refine z_istore_n (lv1 := [(2, .int (nI (1))), (0, .ref (h)), (1, .int (nI (jx)))]) B dX7_throwAway_21 rfl (by decide) rfl ?_
      refine z_iconst (v := nI 0) B dX7_throwAway_22 (by decide) ?_
      refine z_istore_n (lv1 := [(3, .int (nI (0))), (2, .int (nI (1))), (0, .ref (h)), (1, .int (nI (jx)))]) B dX7_throwAway_23 rfl (by decide) rfl ?_
      have loop24 : ∀ (n0 i : Nat), i ≤ mP M → mP M + 1 ≤ i + n0 → zJ X 4 (zI1 D A (zs X)) Q (wM g h a M) 0 0 [(0, .ref (h)), (1, .int (nI (jx))), (2, .int (bI (¬ pBl M jx i))), (3, .int (nI (i)))] 24 [] := by
        intro n24
        induction n24 with
        | zero => intro i h1 h2; exact absurd h2 (by omega)
        | succ n24 ih24 =>
          intro i hle24 hn24
          refine z_iload_n B 2 dX7_throwAway_24 rfl rfl ?_
          refine z_ifNB_eq B 65 dX7_throwAway_25 (by decide) (fun zc25 => ?_) (fun zc25 => ?_)
          · have hbl : pBl M jx (mP M) := by obtain ⟨p, hp, hh⟩ := zc25; exact ⟨p, by omega, hh⟩
            refine z_aload_n B 0 dX7_throwAway_65 rfl rfl ?_
            refine z_aload_n B 0 dX7_throwAway_66 rfl rfl ?_
            refine z_iload_n B 1 dX7_throwAway_67 rfl rfl ?_
            refine z_callP (As := [.int (nI (jx))]) (st := [.ref (h)]) (C := RX7) (T := TX7) (N := 30) (ci := 7) (l := l) B hl (c7_isCopy l D g h a M hI (nI (jx))) gX7_throwAway_X7_isCopy rfl ⟨rfl, rfl⟩ nm_X7_isCopy ⟨by decide, by decide⟩ (fun _ h => h) 0 rfl rfl rfl (Nat.le_of_ble_eq_true rfl) dX7_throwAway_68 (Nat.zero_le _) (Nat.zero_le _) (fun r hr => ?_)
            subst hr
            refine z_ifB_ne B 78 dX7_throwAway_71 (by decide) (fun _ => ?_) (fun h => absurd zkc5 h)
            refine z_iload_n B 2 dX7_throwAway_78 rfl rfl ?_
            refine z_ifNB_eq B 86 dX7_throwAway_79 (by decide) (fun _ => ?_) (fun h => absurd zc25 h)
            refine z_iconst (v := nI 2) B dX7_throwAway_86 (by decide) ?_
            refine z_callM (As := [.int (nI (2))]) (st := []) (C := RX7) (T := TX7) (N := 30) (ci := 7) (l := l) B hl (c7_refused l D g h a M (nI (2))) gX7_throwAway_X7_refused rfl ⟨rfl, rfl⟩ nm_X7_refused ⟨by decide, by decide⟩ 0 rfl rfl rfl (Nat.le_of_ble_eq_true rfl) dX7_throwAway_87 rfl rfl (by decide) (by decide) (fun r w1 hr => ?_)
            obtain ⟨hr1, rfl⟩ := hr
            rw [bI_t (show ¬ nI (2) = 0 by decide)] at hr1
            obtain rfl : r = nI 1 := hr1
            refine z_if_eq B 95 dX7_throwAway_90 (by decide) (fun h => absurd h (by decide)) (fun _ => ?_)
            refine z_iconst (v := nI 0) B dX7_throwAway_93 (by decide) ?_
            subst hQ
            exact z_mret B hAe hr dX7_throwAway_94 rfl (by decide) (by decide) (by refine ⟨_, rfl, ?_⟩; rw [nN_nI (show jx < 2 ^ 31 by omega)]; refine ⟨?_, ?_, ?_, ?_⟩ <;> intros <;> first | contradiction | rfl | exact ⟨rfl, rfl⟩ | omega  | exact ⟨bI_1 (by assumption), rfl⟩ | exact ⟨bI_z (by assumption), rfl⟩)
          · refine z_iload_n B 3 dX7_throwAway_28 rfl rfl ?_
            refine z_aload_n B 0 dX7_throwAway_29 rfl rfl ?_
            refine z_get (C := RX7) (T := TX7) (N := 30) (v := .int (M 5 0)) B 0 5 1 fw_X7_throwAway_X7 rfl rfl (by decide) rfl rfl rfl dX7_throwAway_30 ?_
            refine z_top (y := nI (mP M)) (MI_5 hI) ?_
            refine z_icmpN_ge B 65 dX7_throwAway_33 (by decide) (by omega) (by omega) (fun zc33 => ?_) (fun zc33 => ?_)
            · obtain rfl : i = mP M := by omega
              refine z_aload_n B 0 dX7_throwAway_65 rfl rfl ?_
              refine z_aload_n B 0 dX7_throwAway_66 rfl rfl ?_
              refine z_iload_n B 1 dX7_throwAway_67 rfl rfl ?_
              refine z_callP (As := [.int (nI (jx))]) (st := [.ref (h)]) (C := RX7) (T := TX7) (N := 30) (ci := 7) (l := l) B hl (c7_isCopy l D g h a M hI (nI (jx))) gX7_throwAway_X7_isCopy rfl ⟨rfl, rfl⟩ nm_X7_isCopy ⟨by decide, by decide⟩ (fun _ h => h) 0 rfl rfl rfl (Nat.le_of_ble_eq_true rfl) dX7_throwAway_68 (Nat.zero_le _) (Nat.zero_le _) (fun r hr => ?_)
              subst hr
              refine z_ifB_ne B 78 dX7_throwAway_71 (by decide) (fun _ => ?_) (fun h => absurd zkc5 h)
              refine z_iload_n B 2 dX7_throwAway_78 rfl rfl ?_
              refine z_ifNB_eq B 86 dX7_throwAway_79 (by decide) (fun h => absurd h zc25) (fun _ => ?_)
              refine z_iconst (v := nI 0) B dX7_throwAway_82 (by decide) ?_
              refine z_goto B 87 dX7_throwAway_83 (by decide) ?_
              refine z_callM (As := [.int (nI (0))]) (st := []) (C := RX7) (T := TX7) (N := 30) (ci := 7) (l := l) B hl (c7_refused l D g h a M (nI (0))) gX7_throwAway_X7_refused rfl ⟨rfl, rfl⟩ nm_X7_refused ⟨by decide, by decide⟩ 0 rfl rfl rfl (Nat.le_of_ble_eq_true rfl) dX7_throwAway_87 rfl rfl (by decide) (by decide) (fun r w1 hr => ?_)
              obtain ⟨hr1, rfl⟩ := hr
              rw [bI_f (show ¬ ¬ nI (0) = 0 by decide)] at hr1
              obtain rfl : r = nI 0 := hr1
              refine z_if_eq B 95 dX7_throwAway_90 (by decide) (fun _ => ?_) (fun h => absurd h (by decide))
              refine z_aload_n B 0 dX7_throwAway_95 rfl rfl ?_
              refine z_get (C := RX7) (T := TX7) (N := 30) (v := .ref (a 19)) B 0 19 2 fw_X7_throwAway_X7 rfl rfl (by decide) rfl rfl rfl dX7_throwAway_96 ?_
              refine z_iload_n B 1 dX7_throwAway_99 rfl rfl ?_
              refine z_iconst (v := nI 1) B dX7_throwAway_100 (by decide) ?_
              refine z_zast (g := (M 19)) (i := jx) (w' := wM g h a (up2 (up2 M 0 0 (nI (0))) 19 jx (nI (1)))) B 15 1 rfl rfl (by omega) (by decide) (Or.inr rfl) dX7_throwAway_101 rfl ?_
              refine z_aload_n B 0 dX7_throwAway_102 rfl rfl ?_
              refine z_callP (As := []) (st := []) (C := RX7) (T := TX7) (N := 30) (ci := 7) (l := l) B hl (c7_copiesThere l D g h a (up2 (up2 M 0 0 (nI (0))) 19 jx (nI (1))) (MI_ub (MI_up0 hI) (by omega) (Or.inr rfl))) gX7_throwAway_X7_copiesThere rfl ⟨rfl, rfl⟩ nm_X7_copiesThere ⟨by decide, by decide⟩ (fun _ h => h) 0 rfl rfl rfl (Nat.le_of_ble_eq_true rfl) dX7_throwAway_103 (Nat.zero_le _) (Nat.zero_le _) (fun r hr => ?_)
              subst hr
              subst hQ
              exact z_mret B hAe hr dX7_throwAway_106 rfl (by decide) (by decide) (by refine ⟨_, rfl, ?_⟩; rw [nN_nI (show jx < 2 ^ 31 by omega)]; refine ⟨?_, ?_, ?_, ?_⟩ <;> intros <;> first | contradiction | rfl | exact ⟨rfl, rfl⟩ | omega  | exact ⟨bI_1 (by assumption), rfl⟩ | exact ⟨bI_z (by assumption), rfl⟩)
            · refine z_aload_n B 0 dX7_throwAway_36 rfl rfl ?_
              refine z_iload_n B 1 dX7_throwAway_37 rfl rfl ?_
              refine z_iload_n B 3 dX7_throwAway_38 rfl rfl ?_
              refine z_callP (As := [.int (nI (jx)), .int (nI (i))]) (st := []) (C := RX7) (T := TX7) (N := 30) (ci := 7) (l := l) B hl (c7_standsIn l D g h a M hI jx (by omega) i (by omega)) gX7_throwAway_X7_standsIn rfl ⟨rfl, rfl⟩ nm_X7_standsIn ⟨by decide, by decide⟩ (fun _ h => h) 0 rfl rfl rfl (Nat.le_of_ble_eq_true rfl) dX7_throwAway_39 (Nat.zero_le _) (Nat.zero_le _) (fun r hr => ?_)
              subst hr
              refine z_ifB_eq B 53 dX7_throwAway_42 (by decide) (fun zc42 => ?_) (fun zc42 => ?_)
              · refine z_iconst (v := nI 1) B dX7_throwAway_53 (by decide) ?_
                refine z_goto B 58 dX7_throwAway_54 (by decide) ?_
                refine z_istore_n (lv1 := [(2, .int (nI (1))), (0, .ref (h)), (1, .int (nI (jx))), (3, .int (nI (i)))]) B dX7_throwAway_58 rfl (by decide) rfl ?_
                refine z_iinc B 3 (lv1 := [(3, .int (nI (i + 1))), (2, .int (nI (1))), (0, .ref (h)), (1, .int (nI (jx)))]) dX7_throwAway_59 rfl (nI_1 _) (by decide) rfl ?_
                refine z_goto B 24 dX7_throwAway_62 (by decide) ?_
                refine z_loc [2, 3, 1, 0] (lv' := [(0, .ref (h)), (1, .int (nI (jx))), (2, .int (nI (1))), (3, .int (nI (i + 1)))]) rfl ?_
                refine z_lvc (lv' := [(0, .ref (h)), (1, .int (nI (jx))), (2, .int (bI (¬ pBl M jx (i + 1)))), (3, .int (nI ((i + 1))))]) (by first | (have q : ¬ pSt M jx i := zc42; rw [bI_t (P := ¬ pBl M jx (i + 1)) (fun h => (ex_s.mp h).elim zc25 (fun p => q p.1))] <;> rfl) | (have q : hS M i = 0 := zc50; rw [bI_t (P := ¬ pBl M jx (i + 1)) (fun h => (ex_s.mp h).elim zc25 (fun p => p.2 q))] <;> rfl) | (rw [bI_f (P := ¬ pBl M jx (i + 1)) (not_not_intro (ex_s.mpr (Or.inr ⟨zc42, zc50⟩)))] <;> rfl)) ?_
                exact ih24 (i + 1) (by omega) (by omega)
              · refine z_aload_n B 0 dX7_throwAway_45 rfl rfl ?_
                refine z_iload_n B 3 dX7_throwAway_46 rfl rfl ?_
                refine z_callP (As := [.int (nI (i))]) (st := []) (C := RX7) (T := TX7) (N := 30) (ci := 7) (l := l) B hl (c7_holdersOf l D g h a M hI i (by omega)) gX7_throwAway_X7_holdersOf rfl ⟨rfl, rfl⟩ nm_X7_holdersOf ⟨by decide, by decide⟩ (fun _ h => h) 0 rfl rfl rfl (Nat.le_of_ble_eq_true rfl) dX7_throwAway_47 (Nat.zero_le _) (Nat.zero_le _) (fun r hr => ?_)
                subst hr
                refine z_if_ne B 57 dX7_throwAway_50 (by decide) (fun zc50 => ?_) (fun zc50 => ?_)
                · refine z_iconst (v := nI 0) B dX7_throwAway_57 (by decide) ?_
                  refine z_istore_n (lv1 := [(2, .int (nI (0))), (0, .ref (h)), (1, .int (nI (jx))), (3, .int (nI (i)))]) B dX7_throwAway_58 rfl (by decide) rfl ?_
                  refine z_iinc B 3 (lv1 := [(3, .int (nI (i + 1))), (2, .int (nI (0))), (0, .ref (h)), (1, .int (nI (jx)))]) dX7_throwAway_59 rfl (nI_1 _) (by decide) rfl ?_
                  refine z_goto B 24 dX7_throwAway_62 (by decide) ?_
                  refine z_loc [2, 3, 1, 0] (lv' := [(0, .ref (h)), (1, .int (nI (jx))), (2, .int (nI (0))), (3, .int (nI (i + 1)))]) rfl ?_
                  refine z_lvc (lv' := [(0, .ref (h)), (1, .int (nI (jx))), (2, .int (bI (¬ pBl M jx (i + 1)))), (3, .int (nI ((i + 1))))]) (by first | (have q : ¬ pSt M jx i := zc42; rw [bI_t (P := ¬ pBl M jx (i + 1)) (fun h => (ex_s.mp h).elim zc25 (fun p => q p.1))] <;> rfl) | (have q : hS M i = 0 := zc50; rw [bI_t (P := ¬ pBl M jx (i + 1)) (fun h => (ex_s.mp h).elim zc25 (fun p => p.2 q))] <;> rfl) | (rw [bI_f (P := ¬ pBl M jx (i + 1)) (not_not_intro (ex_s.mpr (Or.inr ⟨zc42, zc50⟩)))] <;> rfl)) ?_
                  exact ih24 (i + 1) (by omega) (by omega)
                · refine z_iconst (v := nI 1) B dX7_throwAway_53 (by decide) ?_
                  refine z_goto B 58 dX7_throwAway_54 (by decide) ?_
                  refine z_istore_n (lv1 := [(2, .int (nI (1))), (0, .ref (h)), (1, .int (nI (jx))), (3, .int (nI (i)))]) B dX7_throwAway_58 rfl (by decide) rfl ?_
                  refine z_iinc B 3 (lv1 := [(3, .int (nI (i + 1))), (2, .int (nI (1))), (0, .ref (h)), (1, .int (nI (jx)))]) dX7_throwAway_59 rfl (nI_1 _) (by decide) rfl ?_
                  refine z_goto B 24 dX7_throwAway_62 (by decide) ?_
                  refine z_loc [2, 3, 1, 0] (lv' := [(0, .ref (h)), (1, .int (nI (jx))), (2, .int (nI (1))), (3, .int (nI (i + 1)))]) rfl ?_
                  refine z_lvc (lv' := [(0, .ref (h)), (1, .int (nI (jx))), (2, .int (bI (¬ pBl M jx (i + 1)))), (3, .int (nI ((i + 1))))]) (by first | (have q : ¬ pSt M jx i := zc42; rw [bI_t (P := ¬ pBl M jx (i + 1)) (fun h => (ex_s.mp h).elim zc25 (fun p => q p.1))] <;> rfl) | (have q : hS M i = 0 := zc50; rw [bI_t (P := ¬ pBl M jx (i + 1)) (fun h => (ex_s.mp h).elim zc25 (fun p => p.2 q))] <;> rfl) | (rw [bI_f (P := ¬ pBl M jx (i + 1)) (not_not_intro (ex_s.mpr (Or.inr ⟨zc42, zc50⟩)))] <;> rfl)) ?_
                  exact ih24 (i + 1) (by omega) (by omega)
      refine z_loc [2, 3, 1, 0] (lv' := [(0, .ref (h)), (1, .int (nI (jx))), (2, .int (nI (1))), (3, .int (nI (0)))]) rfl ?_
      refine z_lvc (lv' := [(0, .ref (h)), (1, .int (nI (jx))), (2, .int (bI (¬ pBl M jx 0))), (3, .int (nI (0)))]) (by rw [bI_t (P := ¬ pBl M jx 0) (fun h => ex_0.mp h)]; rfl) ?_
      exact loop24 (mP M + 1) 0 (by omega) (by omega)
theorem fw_X7_restore_X7 : zF wsX7_restore RX7 TX7 30 := fun _ h => List.mem_cons_of_mem _ (List.mem_append_right _ (h))
set_option maxHeartbeats 4000000 in
set_option maxRecDepth 100000 in
theorem c7_restore (l : Launch) (D : va_G) (g : zG) (h : Nat) (a : Nat → Nat) (M : zMS) (hI : MI M) (hJ : MJ M) (x : Int32) : zMutI l yX7_restore wsX7_restore { frames := 3, cells := 0, slots := 0, locals := 68 } D (zT g) (wM g h a M) [.ref h, .int (x)] (fun r w' => ∃ M', w' = wM g h a M' ∧ (¬ pCx M x → M' = up2 M 0 0 (nI 1)) ∧ (pCx M x → ¬ pWh M (nN x) → M' = up2 M 0 0 (nI 2)) ∧ (pCx M x → pWh M (nN x) → r = nI (rsB (mP M) (chN (M 16) (nN x)) (up2 M 0 0 (nI 0))) ∧ M' = rsA (mP M) (chN (M 16) (nN x)) (up2 M 0 0 (nI 0)))) 0 0 := by
  refine zMutI_of (cc := cX7_restore) (maxL := 6) (ret := (some .int)) (own := RX7) [(0, .ref (h)), (1, .int (x))] (by decide) rfl rfl rfl (Nat.le_of_ble_eq_true rfl) ?_
  intro X A hAe hl B hr hin
  obtain ⟨b5, b2, b15, b23, b25, b1⟩ := MI_bs hI
  generalize hQ : (zQe X (va_Qi (fun r w' => ∃ M', w' = wM g h a M' ∧ (¬ pCx M x → M' = up2 M 0 0 (nI 1)) ∧ (pCx M x → ¬ pWh M (nN x) → M' = up2 M 0 0 (nI 2)) ∧ (pCx M x → pWh M (nN x) → r = nI (rsB (mP M) (chN (M 16) (nN x)) (up2 M 0 0 (nI 0))) ∧ M' = rsA (mP M) (chN (M 16) (nN x)) (up2 M 0 0 (nI 0)))) (zEnd D (zT g) (wM g h a M) (zs X).heap.size) A) 0 0 A) = Q
  refine z_aload_n B 0 dX7_restore_0 rfl rfl ?_
  refine z_aload_n B 0 dX7_restore_1 rfl rfl ?_
  refine z_iload_n B 1 dX7_restore_2 rfl rfl ?_
  refine z_callP (As := [.int (x)]) (st := [.ref (h)]) (C := RX7) (T := TX7) (N := 30) (ci := 7) (l := l) B hl (c7_isCopy l D g h a M hI x) gX7_restore_X7_isCopy rfl ⟨rfl, rfl⟩ nm_X7_isCopy ⟨by decide, by decide⟩ (fun _ h => h) 0 rfl rfl rfl (Nat.le_of_ble_eq_true rfl) dX7_restore_3 (Nat.zero_le _) (Nat.zero_le _) (fun r hr => ?_)
  subst hr
  refine z_ifB_ne B 13 dX7_restore_6 (by decide) (fun zc6 => ?_) (fun zc6 => ?_)
  · have zkc6 := zc6
    obtain ⟨jx, rfl, hjx⟩ := zc6
    have hbjx : jx < 16 := by have := hjx.1; omega
    refine z_aload_n B 0 dX7_restore_13 rfl rfl ?_
    refine z_iload_n B 1 dX7_restore_14 rfl rfl ?_
    refine z_callP (As := [.int (nI (jx))]) (st := [.ref (h)]) (C := RX7) (T := TX7) (N := 30) (ci := 7) (l := l) B hl (c7_isWhole l D g h a M hI hJ jx hjx.1) gX7_restore_X7_isWhole rfl ⟨rfl, rfl⟩ nm_X7_isWhole ⟨by decide, by decide⟩ (fun _ h => h) 0 rfl rfl rfl (Nat.le_of_ble_eq_true rfl) dX7_restore_15 (Nat.zero_le _) (Nat.zero_le _) (fun r hr => ?_)
    subst hr
    refine z_ifB_eq B 25 dX7_restore_18 (by decide) (fun zc18 => ?_) (fun zc18 => ?_)
    · refine z_iconst (v := nI 2) B dX7_restore_25 (by decide) ?_
      refine z_callM (As := [.int (nI (2))]) (st := []) (C := RX7) (T := TX7) (N := 30) (ci := 7) (l := l) B hl (c7_refused l D g h a M (nI (2))) gX7_restore_X7_refused rfl ⟨rfl, rfl⟩ nm_X7_refused ⟨by decide, by decide⟩ 0 rfl rfl rfl (Nat.le_of_ble_eq_true rfl) dX7_restore_26 rfl rfl (by decide) (by decide) (fun r w1 hr => ?_)
      obtain ⟨hr1, rfl⟩ := hr
      rw [bI_t (show ¬ nI (2) = 0 by decide)] at hr1
      obtain rfl : r = nI 1 := hr1
      refine z_if_eq B 34 dX7_restore_29 (by decide) (fun h => absurd h (by decide)) (fun _ => ?_)
      refine z_iconst (v := nI 0) B dX7_restore_32 (by decide) ?_
      subst hQ
      exact z_mret B hAe hr dX7_restore_33 rfl (by decide) (by decide) (by refine ⟨_, rfl, ?_⟩; rw [nN_nI (show jx < 2 ^ 31 by omega)]; refine ⟨?_, ?_, ?_⟩ <;> intros <;> first | contradiction | rfl | exact ⟨rfl, rfl⟩ | omega  | (exact ⟨by rw [hL0, ← hB1]; rfl, by rw [hL0, ← hA1]; rfl⟩) | exact ⟨bI_1 (by assumption), rfl⟩ | exact ⟨bI_z (by assumption), rfl⟩)
    · obtain ⟨L0, hL0, hL1⟩ := hJ.1 jx hjx.1
      refine z_iconst (v := nI 0) B dX7_restore_21 (by decide) ?_
      refine z_goto B 26 dX7_restore_22 (by decide) ?_
      refine z_callM (As := [.int (nI (0))]) (st := []) (C := RX7) (T := TX7) (N := 30) (ci := 7) (l := l) B hl (c7_refused l D g h a M (nI (0))) gX7_restore_X7_refused rfl ⟨rfl, rfl⟩ nm_X7_refused ⟨by decide, by decide⟩ 0 rfl rfl rfl (Nat.le_of_ble_eq_true rfl) dX7_restore_26 rfl rfl (by decide) (by decide) (fun r w1 hr => ?_)
      obtain ⟨hr1, rfl⟩ := hr
      rw [bI_f (show ¬ ¬ nI (0) = 0 by decide)] at hr1
      obtain rfl : r = nI 0 := hr1
      refine z_if_eq B 34 dX7_restore_29 (by decide) (fun _ => ?_) (fun h => absurd h (by decide))
      refine z_iconst (v := nI 0) B dX7_restore_34 (by decide) ?_
      refine z_istore_n (lv1 := [(2, .int (nI (0))), (0, .ref (h)), (1, .int (nI (jx)))]) B dX7_restore_35 rfl (by decide) rfl ?_
      refine z_iload_n B 2 dX7_restore_36 rfl rfl ?_
      refine z_istore_n (lv1 := [(3, .int (nI (jx))), (2, .int (nI (0))), (0, .ref (h)), (1, .int (nI (jx)))]) B dX7_restore_37 rfl (by decide) rfl ?_
      have loop38 : ∀ (L : List Nat) (M1 : zMS) (t : Nat), isCh (mC M) (M 16) L → MI M1 → (∀ k, k ≠ 0 ∧ k ≠ 11 ∧ k ≠ 12 → M1 k = M k) → rsA (mP M) L M1 = rsA (mP M) (jx :: L0) (up2 M 0 0 (nI (0))) → t + rsB (mP M) L M1 = rsB (mP M) (jx :: L0) (up2 M 0 0 (nI (0))) → zJ X 6 (zI1 D A (zs X)) Q (wM g h a M1) 0 0 [(0, .ref (h)), (1, .int (nI (jx))), (2, .int (nI (t))), (3, .int (hdI L))] 38 [] := by
        intro L
        induction L with
        | nil =>
          intro M1 t hch hI1 hk hA1 hB1
          refine z_lvc (lv' := [(0, .ref (h)), (1, .int (nI (jx))), (2, .int (nI (t))), (3, .int ((-1)))]) rfl ?_
          refine z_iload_n B 3 dX7_restore_38 rfl rfl ?_
          refine z_iconst (v := (-1)) B dX7_restore_39 (by decide) ?_
          refine z_icmp_eq B 149 dX7_restore_40 (by decide) (fun _ => ?_) (fun h => absurd rfl h)
          refine z_iload_n B 2 dX7_restore_149 rfl rfl ?_
          subst hQ
          exact z_mret B hAe hr dX7_restore_150 rfl (by decide) (by decide) (by refine ⟨_, rfl, ?_⟩; rw [nN_nI (show jx < 2 ^ 31 by omega)]; refine ⟨?_, ?_, ?_⟩ <;> intros <;> first | contradiction | rfl | exact ⟨rfl, rfl⟩ | omega  | (exact ⟨by rw [hL0, ← hB1]; rfl, by rw [hL0, ← hA1]; rfl⟩) | exact ⟨bI_1 (by assumption), rfl⟩ | exact ⟨bI_z (by assumption), rfl⟩)
        | cons d L ih38 =>
          intro M1 t hch hI1 hk hA1 hB1
          obtain ⟨hd, hf, hch⟩ := hch
          refine z_lvc (lv' := [(0, .ref (h)), (1, .int (nI (jx))), (2, .int (nI (t))), (3, .int (nI (d)))]) rfl ?_
          refine z_iload_n B 3 dX7_restore_38 rfl rfl ?_
          refine z_iconst (v := (-1)) B dX7_restore_39 (by decide) ?_
          refine z_icmp_eq B 149 dX7_restore_40 (by decide) (fun h => absurd h (nI_nm1 (by omega))) (fun _ => ?_)
          refine z_iconst (v := nI 0) B dX7_restore_43 (by decide) ?_
          refine z_istore (lv1 := [(4, .int (nI (0))), (0, .ref (h)), (1, .int (nI (jx))), (2, .int (nI (t))), (3, .int (nI (d)))]) B dX7_restore_44 (by decide) rfl ?_
          have loop46 : ∀ (n0 i : Nat), i ≤ mP M → mP M + 1 ≤ i + n0 → zJ X 6 (zI1 D A (zs X)) Q (wM g h a (rsN M1 d i)) 0 0 [(0, .ref (h)), (1, .int (nI (jx))), (2, .int (nI (t + rsK M1 d i))), (3, .int (nI (d))), (4, .int (nI (i)))] 46 [] := by
            intro n46
            induction n46 with
            | zero => intro i h1 h2; exact absurd h2 (by omega)
            | succ n46 ih46 =>
              intro i hle46 hn46
              refine z_iload B 4 dX7_restore_46 rfl ?_
              refine z_aload_n B 0 dX7_restore_48 rfl rfl ?_
              refine z_get (C := RX7) (T := TX7) (N := 30) (v := .int ((rsN M1 d i) 5 0)) B 0 5 1 fw_X7_restore_X7 rfl rfl (by decide) rfl rfl rfl dX7_restore_49 ?_
              refine z_top (y := nI (mP M)) ((congrFun ((rsN_k M1 d (k := 5) (by decide) i).trans (hk 5 (by decide))) 0).trans (MI_5 (M := M) hI)) ?_
              refine z_icmpN_ge B 139 dX7_restore_52 (by decide) (by omega) (by omega) (fun zc52 => ?_) (fun zc52 => ?_)
              · obtain rfl : i = mP M := by omega
                refine z_aload_n B 0 dX7_restore_139 rfl rfl ?_
                refine z_get (C := RX7) (T := TX7) (N := 30) (v := .ref (a 16)) B 0 16 5 fw_X7_restore_X7 rfl rfl (by decide) rfl rfl rfl dX7_restore_140 ?_
                refine z_iload_n B 3 dX7_restore_143 rfl rfl ?_
                refine z_iald (g := ((rsN M1 d (mP M)) 16)) (i := d) B 12 0 rfl rfl (by omega) (by decide) dX7_restore_144 ?_
                refine z_top (y := M 16 d) (congrFun ((rsN_k M1 d (k := 16) (by decide) (mP M)).trans (hk 16 (by decide))) _) ?_
                refine z_istore_n (lv1 := [(3, .int (M 16 d)), (0, .ref (h)), (1, .int (nI (jx))), (2, .int (nI (t + rsK M1 d (mP M)))), (4, .int (nI ((mP M))))]) B dX7_restore_145 rfl (by decide) rfl ?_
                refine z_goto B 38 dX7_restore_146 (by decide) ?_
                refine z_loc [1, 2, 3, 0] (lv' := [(0, .ref (h)), (1, .int (nI (jx))), (2, .int (nI (t + rsK M1 d (mP M)))), (3, .int (M 16 d))]) rfl ?_
                refine z_lvc (lv' := [(0, .ref (h)), (1, .int (nI (jx))), (2, .int (nI ((t + rsK M1 d (mP M))))), (3, .int (hdI L))]) (by rw [hf]) ?_
                exact ih38 (rsN M1 d (mP M)) (t + rsK M1 d (mP M)) hch (MI_rsN hI1) (fun k hk2 => (rsN_k M1 d (by omega) _).trans (hk k hk2)) (hA1) (by rw [← hB1]; exact Nat.add_assoc _ _ _)
              · refine z_aload_n B 0 dX7_restore_55 rfl rfl ?_
                refine z_get (C := RX7) (T := TX7) (N := 30) (v := .ref (a 12)) B 0 12 2 fw_X7_restore_X7 rfl rfl (by decide) rfl rfl rfl dX7_restore_56 ?_
                refine z_iload B 4 dX7_restore_59 rfl ?_
                refine z_iald (g := ((rsN M1 d i) 12)) (i := i) B 9 0 rfl rfl (by omega) (by decide) dX7_restore_61 ?_
                refine z_iconst (v := nI 2) B dX7_restore_62 (by decide) ?_
                refine z_icmp_eq B 133 dX7_restore_63 (by decide) (fun zc63 => ?_) (fun zc63 => ?_)
                · refine z_iinc B 4 (lv1 := [(4, .int (nI (i + 1))), (0, .ref (h)), (1, .int (nI (jx))), (2, .int (nI (t + rsK M1 d i))), (3, .int (nI (d)))]) dX7_restore_133 rfl (nI_1 _) (by decide) rfl ?_
                  refine z_goto B 46 dX7_restore_136 (by decide) ?_
                  refine z_loc [1, 2, 3, 4, 0] (lv' := [(0, .ref (h)), (1, .int (nI (jx))), (2, .int (nI (t + rsK M1 d i))), (3, .int (nI (d))), (4, .int (nI (i + 1)))]) rfl ?_
                  refine z_lvc (lv' := [(0, .ref (h)), (1, .int (nI (jx))), (2, .int (nI (t + rsK M1 d (i + 1)))), (3, .int (nI (d))), (4, .int (nI ((i + 1))))]) (by first | (have q : rsC (rsN M1 d i) d i := ⟨zc63, zc72, zc82⟩; rw [rsK, ifN_t q] <;> rfl) | (have q : ¬ rsC (rsN M1 d i) d i := (fun q => q.1 zc63); rw [rsK, ifN_f q] <;> rfl) | (have q : ¬ rsC (rsN M1 d i) d i := (fun q => q.2.1 zc72); rw [rsK, ifN_f q] <;> rfl) | (have q : ¬ rsC (rsN M1 d i) d i := (fun q => zc82 q.2.2); rw [rsK, ifN_f q] <;> rfl)) ?_
                  refine z_w (w' := wM g h a (rsN M1 d (i + 1))) (by first | (have q : rsC (rsN M1 d i) d i := ⟨zc63, zc72, zc82⟩; exact congrArg (wM g h a) (rs1_y q).symm) | (have q : ¬ rsC (rsN M1 d i) d i := (fun q => q.1 zc63); exact congrArg (wM g h a) (rs1_n q).symm) | (have q : ¬ rsC (rsN M1 d i) d i := (fun q => q.2.1 zc72); exact congrArg (wM g h a) (rs1_n q).symm) | (have q : ¬ rsC (rsN M1 d i) d i := (fun q => zc82 q.2.2); exact congrArg (wM g h a) (rs1_n q).symm)) ?_
                  exact ih46 (i + 1) (by omega) (by omega)
                · refine z_aload_n B 0 dX7_restore_66 rfl rfl ?_
                  refine z_iload B 4 dX7_restore_67 rfl ?_
                  refine z_callP (As := [.int (nI (i))]) (st := []) (C := RX7) (T := TX7) (N := 30) (ci := 7) (l := l) B hl (c7_isTrueInBook l D g h a (rsN M1 d i) (MI_rsN hI1) i (by omega)) gX7_restore_X7_isTrueInBook rfl ⟨rfl, rfl⟩ nm_X7_isTrueInBook ⟨by decide, by decide⟩ (fun _ h => h) 0 rfl rfl rfl (Nat.le_of_ble_eq_true rfl) dX7_restore_69 (Nat.zero_le _) (Nat.zero_le _) (fun r hr => ?_)
                  subst hr
                  refine z_ifB_ne B 133 dX7_restore_72 (by decide) (fun zc72 => ?_) (fun zc72 => ?_)
                  · refine z_iinc B 4 (lv1 := [(4, .int (nI (i + 1))), (0, .ref (h)), (1, .int (nI (jx))), (2, .int (nI (t + rsK M1 d i))), (3, .int (nI (d)))]) dX7_restore_133 rfl (nI_1 _) (by decide) rfl ?_
                    refine z_goto B 46 dX7_restore_136 (by decide) ?_
                    refine z_loc [1, 2, 3, 4, 0] (lv' := [(0, .ref (h)), (1, .int (nI (jx))), (2, .int (nI (t + rsK M1 d i))), (3, .int (nI (d))), (4, .int (nI (i + 1)))]) rfl ?_
                    refine z_lvc (lv' := [(0, .ref (h)), (1, .int (nI (jx))), (2, .int (nI (t + rsK M1 d (i + 1)))), (3, .int (nI (d))), (4, .int (nI ((i + 1))))]) (by first | (have q : rsC (rsN M1 d i) d i := ⟨zc63, zc72, zc82⟩; rw [rsK, ifN_t q] <;> rfl) | (have q : ¬ rsC (rsN M1 d i) d i := (fun q => q.1 zc63); rw [rsK, ifN_f q] <;> rfl) | (have q : ¬ rsC (rsN M1 d i) d i := (fun q => q.2.1 zc72); rw [rsK, ifN_f q] <;> rfl) | (have q : ¬ rsC (rsN M1 d i) d i := (fun q => zc82 q.2.2); rw [rsK, ifN_f q] <;> rfl)) ?_
                    refine z_w (w' := wM g h a (rsN M1 d (i + 1))) (by first | (have q : rsC (rsN M1 d i) d i := ⟨zc63, zc72, zc82⟩; exact congrArg (wM g h a) (rs1_y q).symm) | (have q : ¬ rsC (rsN M1 d i) d i := (fun q => q.1 zc63); exact congrArg (wM g h a) (rs1_n q).symm) | (have q : ¬ rsC (rsN M1 d i) d i := (fun q => q.2.1 zc72); exact congrArg (wM g h a) (rs1_n q).symm) | (have q : ¬ rsC (rsN M1 d i) d i := (fun q => zc82 q.2.2); exact congrArg (wM g h a) (rs1_n q).symm)) ?_
                    exact ih46 (i + 1) (by omega) (by omega)
                  · refine z_aload_n B 0 dX7_restore_75 rfl rfl ?_
                    refine z_iload_n B 3 dX7_restore_76 rfl rfl ?_
                    refine z_iload B 4 dX7_restore_77 rfl ?_
                    refine z_callP (As := [.int (nI (d)), .int (nI (i))]) (st := []) (C := RX7) (T := TX7) (N := 30) (ci := 7) (l := l) B hl (c7_isTrueIn l D g h a (rsN M1 d i) (MI_rsN hI1) d (by omega) i (by omega)) gX7_restore_X7_isTrueIn rfl ⟨rfl, rfl⟩ nm_X7_isTrueIn ⟨by decide, by decide⟩ (fun _ h => h) 0 rfl rfl rfl (Nat.le_of_ble_eq_true rfl) dX7_restore_79 (Nat.zero_le _) (Nat.zero_le _) (fun r hr => ?_)
                    subst hr
                    refine z_ifB_eq B 133 dX7_restore_82 (by decide) (fun zc82 => ?_) (fun zc82 => ?_)
                    · refine z_iinc B 4 (lv1 := [(4, .int (nI (i + 1))), (0, .ref (h)), (1, .int (nI (jx))), (2, .int (nI (t + rsK M1 d i))), (3, .int (nI (d)))]) dX7_restore_133 rfl (nI_1 _) (by decide) rfl ?_
                      refine z_goto B 46 dX7_restore_136 (by decide) ?_
                      refine z_loc [1, 2, 3, 4, 0] (lv' := [(0, .ref (h)), (1, .int (nI (jx))), (2, .int (nI (t + rsK M1 d i))), (3, .int (nI (d))), (4, .int (nI (i + 1)))]) rfl ?_
                      refine z_lvc (lv' := [(0, .ref (h)), (1, .int (nI (jx))), (2, .int (nI (t + rsK M1 d (i + 1)))), (3, .int (nI (d))), (4, .int (nI ((i + 1))))]) (by first | (have q : rsC (rsN M1 d i) d i := ⟨zc63, zc72, zc82⟩; rw [rsK, ifN_t q] <;> rfl) | (have q : ¬ rsC (rsN M1 d i) d i := (fun q => q.1 zc63); rw [rsK, ifN_f q] <;> rfl) | (have q : ¬ rsC (rsN M1 d i) d i := (fun q => q.2.1 zc72); rw [rsK, ifN_f q] <;> rfl) | (have q : ¬ rsC (rsN M1 d i) d i := (fun q => zc82 q.2.2); rw [rsK, ifN_f q] <;> rfl)) ?_
                      refine z_w (w' := wM g h a (rsN M1 d (i + 1))) (by first | (have q : rsC (rsN M1 d i) d i := ⟨zc63, zc72, zc82⟩; exact congrArg (wM g h a) (rs1_y q).symm) | (have q : ¬ rsC (rsN M1 d i) d i := (fun q => q.1 zc63); exact congrArg (wM g h a) (rs1_n q).symm) | (have q : ¬ rsC (rsN M1 d i) d i := (fun q => q.2.1 zc72); exact congrArg (wM g h a) (rs1_n q).symm) | (have q : ¬ rsC (rsN M1 d i) d i := (fun q => zc82 q.2.2); exact congrArg (wM g h a) (rs1_n q).symm)) ?_
                      exact ih46 (i + 1) (by omega) (by omega)
                    · refine z_aload_n B 0 dX7_restore_85 rfl rfl ?_
                      refine z_get (C := RX7) (T := TX7) (N := 30) (v := .ref (a 12)) B 0 12 2 fw_X7_restore_X7 rfl rfl (by decide) rfl rfl rfl dX7_restore_86 ?_
                      refine z_iload B 4 dX7_restore_89 rfl ?_
                      refine z_iconst (v := nI 0) B dX7_restore_91 (by decide) ?_
                      refine z_iast (g := ((rsN M1 d i) 12)) (i := i) (w' := wM g h a (up2 (rsN M1 d i) 12 i (nI (0)))) B 9 0 rfl rfl (by omega) (by decide) dX7_restore_92 rfl ?_
                      refine z_iconst (v := nI 4) B dX7_restore_93 (by decide) ?_
                      refine z_iload B 4 dX7_restore_94 rfl ?_
                      refine z_imulN B dX7_restore_96 ?_
                      refine z_istore (lv1 := [(5, .int (nI (4 * i))), (0, .ref (h)), (1, .int (nI (jx))), (2, .int (nI (t + rsK M1 d i))), (3, .int (nI (d))), (4, .int (nI (i)))]) B dX7_restore_97 (by decide) rfl ?_
                      have loop99 : ∀ (n0 i2 : Nat), i2 ≤ 4 → 4 + 1 ≤ i2 + n0 → zJ X 6 (zI1 D A (zs X)) Q (wM g h a (rsL (up2 (rsN M1 d i) 12 i (nI (0))) i i2)) 0 0 [(0, .ref (h)), (1, .int (nI (jx))), (2, .int (nI (t + rsK M1 d i))), (3, .int (nI (d))), (4, .int (nI (i))), (5, .int (nI (4 * i + i2)))] 99 [] := by
                        intro n99
                        induction n99 with
                        | zero => intro i2 h1 h2; exact absurd h2 (by omega)
                        | succ n99 ih99 =>
                          intro i2 hle99 hn99
                          refine z_iload B 5 dX7_restore_99 rfl ?_
                          refine z_iconst (v := nI 4) B dX7_restore_101 (by decide) ?_
                          refine z_iload B 4 dX7_restore_102 rfl ?_
                          refine z_imulN B dX7_restore_104 ?_
                          refine z_iconst (v := nI 4) B dX7_restore_105 (by decide) ?_
                          refine z_iaddN B dX7_restore_106 ?_
                          refine z_icmpN_ge B 130 dX7_restore_107 (by decide) (by omega) (by omega) (fun zc107 => ?_) (fun zc107 => ?_)
                          · obtain rfl : i2 = 4 := by omega
                            refine z_iinc B 2 (lv1 := [(2, .int (nI (t + rsK M1 d i + 1))), (0, .ref (h)), (1, .int (nI (jx))), (3, .int (nI (d))), (4, .int (nI (i))), (5, .int (nI (4 * i + 4)))]) dX7_restore_130 rfl (nI_1 _) (by decide) rfl ?_
                            refine z_iinc B 4 (lv1 := [(4, .int (nI (i + 1))), (2, .int (nI (t + rsK M1 d i + 1))), (0, .ref (h)), (1, .int (nI (jx))), (3, .int (nI (d))), (5, .int (nI (4 * i + 4)))]) dX7_restore_133 rfl (nI_1 _) (by decide) rfl ?_
                            refine z_goto B 46 dX7_restore_136 (by decide) ?_
                            refine z_loc [2, 3, 1, 4, 0] (lv' := [(0, .ref (h)), (1, .int (nI (jx))), (2, .int (nI (t + rsK M1 d i + 1))), (3, .int (nI (d))), (4, .int (nI (i + 1)))]) rfl ?_
                            refine z_lvc (lv' := [(0, .ref (h)), (1, .int (nI (jx))), (2, .int (nI (t + rsK M1 d (i + 1)))), (3, .int (nI (d))), (4, .int (nI ((i + 1))))]) (by first | (have q : rsC (rsN M1 d i) d i := ⟨zc63, zc72, zc82⟩; rw [rsK, ifN_t q] <;> rfl) | (have q : ¬ rsC (rsN M1 d i) d i := (fun q => q.1 zc63); rw [rsK, ifN_f q] <;> rfl) | (have q : ¬ rsC (rsN M1 d i) d i := (fun q => q.2.1 zc72); rw [rsK, ifN_f q] <;> rfl) | (have q : ¬ rsC (rsN M1 d i) d i := (fun q => zc82 q.2.2); rw [rsK, ifN_f q] <;> rfl)) ?_
                            refine z_w (w' := wM g h a (rsN M1 d (i + 1))) (by first | (have q : rsC (rsN M1 d i) d i := ⟨zc63, zc72, zc82⟩; exact congrArg (wM g h a) (rs1_y q).symm) | (have q : ¬ rsC (rsN M1 d i) d i := (fun q => q.1 zc63); exact congrArg (wM g h a) (rs1_n q).symm) | (have q : ¬ rsC (rsN M1 d i) d i := (fun q => q.2.1 zc72); exact congrArg (wM g h a) (rs1_n q).symm) | (have q : ¬ rsC (rsN M1 d i) d i := (fun q => zc82 q.2.2); exact congrArg (wM g h a) (rs1_n q).symm)) ?_
                            exact ih46 (i + 1) (by omega) (by omega)
                          · refine z_aload_n B 0 dX7_restore_110 rfl rfl ?_
                            refine z_get (C := RX7) (T := TX7) (N := 30) (v := .ref (a 11)) B 0 11 3 fw_X7_restore_X7 rfl rfl (by decide) rfl rfl rfl dX7_restore_111 ?_
                            refine z_iload B 5 dX7_restore_114 rfl ?_
                            refine z_aload_n B 0 dX7_restore_116 rfl rfl ?_
                            refine z_get (C := RX7) (T := TX7) (N := 30) (v := .ref (a 10)) B 0 10 4 fw_X7_restore_X7 rfl rfl (by decide) rfl rfl rfl dX7_restore_117 ?_
                            refine z_iload B 5 dX7_restore_120 rfl ?_
                            refine z_iald (g := ((rsL (up2 (rsN M1 d i) 12 i (nI (0))) i i2) 10)) (i := 4 * i + i2) B 7 0 rfl rfl (by omega) (by decide) dX7_restore_122 ?_
                            refine z_top (y := (up2 (rsN M1 d i) 12 i (nI (0))) 10 (4 * i + i2)) (congrFun (rsL_k (up2 (rsN M1 d i) 12 i (nI (0))) i (k := 10) (by decide) i2) _) ?_
                            refine z_iast (g := ((rsL (up2 (rsN M1 d i) 12 i (nI (0))) i i2) 11)) (i := 4 * i + i2) (w' := wM g h a (up2 (rsL (up2 (rsN M1 d i) 12 i (nI (0))) i i2) 11 (4 * i + i2) ((up2 (rsN M1 d i) 12 i (nI (0))) 10 (4 * i + i2)))) B 8 0 rfl rfl (by omega) (by decide) dX7_restore_123 rfl ?_
                            refine z_iinc B 5 (lv1 := [(5, .int (nI (4 * i + i2 + 1))), (0, .ref (h)), (1, .int (nI (jx))), (2, .int (nI (t + rsK M1 d i))), (3, .int (nI (d))), (4, .int (nI (i)))]) dX7_restore_124 rfl (nI_1 _) (by decide) rfl ?_
                            refine z_goto B 99 dX7_restore_127 (by decide) ?_
                            refine z_loc [1, 2, 3, 4, 5, 0] (lv' := [(0, .ref (h)), (1, .int (nI (jx))), (2, .int (nI (t + rsK M1 d i))), (3, .int (nI (d))), (4, .int (nI (i))), (5, .int (nI (4 * i + i2 + 1)))]) rfl ?_
                            refine z_lvc (lv' := [(0, .ref (h)), (1, .int (nI (jx))), (2, .int (nI (t + rsK M1 d i))), (3, .int (nI (d))), (4, .int (nI (i))), (5, .int (nI (4 * i + (i2 + 1))))]) (by rfl) ?_
                            refine z_w (w' := wM g h a (rsL (up2 (rsN M1 d i) 12 i (nI (0))) i (i2 + 1))) (by rfl) ?_
                            exact ih99 (i2 + 1) (by omega) (by omega)
                      refine z_loc [1, 2, 3, 4, 5, 0] (lv' := [(0, .ref (h)), (1, .int (nI (jx))), (2, .int (nI (t + rsK M1 d i))), (3, .int (nI (d))), (4, .int (nI (i))), (5, .int (nI (4 * i)))]) rfl ?_
                      refine z_lvc (lv' := [(0, .ref (h)), (1, .int (nI (jx))), (2, .int (nI (t + rsK M1 d i))), (3, .int (nI (d))), (4, .int (nI (i))), (5, .int (nI (4 * i + 0)))]) (by rfl) ?_
                      refine z_w (w' := wM g h a (rsL (up2 (rsN M1 d i) 12 i (nI (0))) i 0)) (by rfl) ?_
                      exact loop99 (4 + 1) 0 (by omega) (by omega)
          refine z_loc [1, 2, 3, 4, 0] (lv' := [(0, .ref (h)), (1, .int (nI (jx))), (2, .int (nI (t))), (3, .int (nI (d))), (4, .int (nI (0)))]) rfl ?_
          refine z_lvc (lv' := [(0, .ref (h)), (1, .int (nI (jx))), (2, .int (nI (t + rsK M1 d 0))), (3, .int (nI (d))), (4, .int (nI (0)))]) (by rfl) ?_
          refine z_w (w' := wM g h a (rsN M1 d 0)) (by rfl) ?_
          exact loop46 (mP M + 1) 0 (by omega) (by omega)
      refine z_loc [2, 3, 1, 0] (lv' := [(0, .ref (h)), (1, .int (nI (jx))), (2, .int (nI (0))), (3, .int (nI (jx)))]) rfl ?_
      refine z_lvc (lv' := [(0, .ref (h)), (1, .int (nI (jx))), (2, .int (nI (0))), (3, .int (hdI (jx :: L0)))]) (by rfl) ?_
      exact loop38 (jx :: L0) (up2 M 0 0 (nI (0))) 0 hL1 (MI_up0 hI) (fun k hk => up2_k hk.1) (rfl) (Nat.zero_add _)
  · refine z_iconst (v := nI 1) B dX7_restore_9 (by decide) ?_
    refine z_goto B 26 dX7_restore_10 (by decide) ?_
    refine z_callM (As := [.int (nI (1))]) (st := []) (C := RX7) (T := TX7) (N := 30) (ci := 7) (l := l) B hl (c7_refused l D g h a M (nI (1))) gX7_restore_X7_refused rfl ⟨rfl, rfl⟩ nm_X7_refused ⟨by decide, by decide⟩ 0 rfl rfl rfl (Nat.le_of_ble_eq_true rfl) dX7_restore_26 rfl rfl (by decide) (by decide) (fun r w1 hr => ?_)
    obtain ⟨hr1, rfl⟩ := hr
    rw [bI_t (show ¬ nI (1) = 0 by decide)] at hr1
    obtain rfl : r = nI 1 := hr1
    refine z_if_eq B 34 dX7_restore_29 (by decide) (fun h => absurd h (by decide)) (fun _ => ?_)
    refine z_iconst (v := nI 0) B dX7_restore_32 (by decide) ?_
    subst hQ
    exact z_mret B hAe hr dX7_restore_33 rfl (by decide) (by decide) (by refine ⟨_, rfl, ?_⟩; refine ⟨?_, ?_, ?_⟩ <;> intros <;> first | contradiction | rfl | exact ⟨rfl, rfl⟩ | omega  | (exact ⟨by rw [hL0, ← hB1]; rfl, by rw [hL0, ← hA1]; rfl⟩) | exact ⟨bI_1 (by assumption), rfl⟩ | exact ⟨bI_z (by assumption), rfl⟩)
theorem fw_X7_open_X7 : zF wsX7_open RX7 TX7 30 := fun _ h => List.mem_cons_of_mem _ (List.mem_append_right _ (h))
set_option maxHeartbeats 4000000 in
set_option maxRecDepth 100000 in
theorem c7_open (l : Launch) (D : va_G) (g : zG) (h : Nat) (a : Nat → Nat) (M : zMS) (hI : MI M) : zMutI l yX7_open wsX7_open { frames := 1, cells := 0, slots := 0, locals := 21 } D (zT g) (wM g h a M) [.ref h] (fun r w' => ∃ M', w' = wM g h a M' ∧ (mK M = 8 → M' = up2 M 0 0 (nI 1)) ∧ (mK M ≠ 8 → r = nI (mK M) ∧ M' = up2 (up2 (up2 M 0 0 (nI 0)) 24 (mK M) (nI 0)) 23 0 (nI (mK M + 1)))) 0 0 := by
  refine zMutI_of (cc := cX7_open) (maxL := 1) (ret := (some .int)) (own := RX7) [(0, .ref (h))] (by decide) rfl rfl rfl (Nat.le_of_ble_eq_true rfl) ?_
  intro X A hAe hl B hr hin
  obtain ⟨b5, b2, b15, b23, b25, b1⟩ := MI_bs hI
  refine z_aload_n B 0 dX7_open_0 rfl rfl ?_
  refine z_aload_n B 0 dX7_open_1 rfl rfl ?_
  refine z_get (C := RX7) (T := TX7) (N := 30) (v := .int (M 23 0)) B 0 23 1 fw_X7_open_X7 rfl rfl (by decide) rfl rfl rfl dX7_open_2 ?_
  refine z_top (y := nI (mK M)) (MI_23 hI) ?_
  refine z_bipush (v := nI 8) B dX7_open_5 (by decide) ?_
  refine z_icmpN_ne B 14 dX7_open_7 (by decide) (by omega) (by omega) (fun zc7 => ?_) (fun zc7 => ?_)
  · refine z_iconst (v := nI 0) B dX7_open_14 (by decide) ?_
    refine z_callM (As := [.int (nI (0))]) (st := []) (C := RX7) (T := TX7) (N := 30) (ci := 7) (l := l) B hl (c7_refused l D g h a M (nI (0))) gX7_open_X7_refused rfl ⟨rfl, rfl⟩ nm_X7_refused ⟨by decide, by decide⟩ 0 rfl rfl rfl (Nat.le_of_ble_eq_true rfl) dX7_open_15 rfl rfl (by decide) (by decide) (fun r w1 hr => ?_)
    obtain ⟨hr1, rfl⟩ := hr
    rw [bI_f (show ¬ ¬ nI (0) = 0 by decide)] at hr1
    obtain rfl : r = nI 0 := hr1
    refine z_if_eq B 23 dX7_open_18 (by decide) (fun _ => ?_) (fun h => absurd h (by decide))
    refine z_aload_n B 0 dX7_open_23 rfl rfl ?_
    refine z_get (C := RX7) (T := TX7) (N := 30) (v := .ref (a 24)) B 0 24 2 fw_X7_open_X7 rfl rfl (by decide) rfl rfl rfl dX7_open_24 ?_
    refine z_aload_n B 0 dX7_open_27 rfl rfl ?_
    refine z_get (C := RX7) (T := TX7) (N := 30) (v := .int (M 23 0)) B 0 23 1 fw_X7_open_X7 rfl rfl (by decide) rfl rfl rfl dX7_open_28 ?_
    refine z_top (y := nI (mK M)) (MI_23 hI) ?_
    refine z_iconst (v := nI 0) B dX7_open_31 (by decide) ?_
    refine z_zast (g := (M 24)) (i := mK M) (w' := wM g h a (up2 (up2 M 0 0 (nI (0))) 24 (mK M) (nI (0)))) B 19 1 rfl rfl (by omega) (by decide) (Or.inl rfl) dX7_open_32 rfl ?_
    refine z_aload_n B 0 dX7_open_33 rfl rfl ?_
    refine z_dup B dX7_open_34 rfl ?_
    refine z_get (C := RX7) (T := TX7) (N := 30) (v := .int (M 23 0)) B 0 23 1 fw_X7_open_X7 rfl rfl (by decide) rfl rfl rfl dX7_open_35 ?_
    refine z_top (y := nI (mK M)) (MI_23 hI) ?_
    refine z_iconst (v := nI 1) B dX7_open_38 (by decide) ?_
    refine z_iaddN B dX7_open_39 ?_
    refine z_put (C := RX7) (T := TX7) (N := 30) (w' := wM g h a (up2 (up2 (up2 M 0 0 (nI (0))) 24 (mK M) (nI (0))) 23 0 (nI (mK M + 1)))) B 0 23 1 fw_X7_open_X7 tyX7 tyX7_ok nmX7 rfl rfl (by decide) rfl rfl rfl rfl rfl (Nat.le_of_ble_eq_true rfl) dX7_open_40 rfl ?_
    refine z_aload_n B 0 dX7_open_43 rfl rfl ?_
    refine z_get (C := RX7) (T := TX7) (N := 30) (v := .int (nI (mK M + 1))) B 0 23 1 fw_X7_open_X7 rfl rfl (by decide) rfl rfl rfl dX7_open_44 ?_
    refine z_iconst (v := nI 1) B dX7_open_47 (by decide) ?_
    refine z_isubN B dX7_open_48 (by omega) ?_
    refine z_top (y := nI (mK M)) rfl ?_
    exact z_mret B hAe hr dX7_open_49 rfl (by decide) (by decide) (by refine ⟨_, rfl, ?_⟩; refine ⟨?_, ?_⟩ <;> intros <;> first | contradiction | rfl | exact ⟨rfl, rfl⟩ | omega  | exact ⟨bI_1 (by assumption), rfl⟩ | exact ⟨bI_z (by assumption), rfl⟩)
  · refine z_iconst (v := nI 1) B dX7_open_10 (by decide) ?_
    refine z_goto B 15 dX7_open_11 (by decide) ?_
    refine z_callM (As := [.int (nI (1))]) (st := []) (C := RX7) (T := TX7) (N := 30) (ci := 7) (l := l) B hl (c7_refused l D g h a M (nI (1))) gX7_open_X7_refused rfl ⟨rfl, rfl⟩ nm_X7_refused ⟨by decide, by decide⟩ 0 rfl rfl rfl (Nat.le_of_ble_eq_true rfl) dX7_open_15 rfl rfl (by decide) (by decide) (fun r w1 hr => ?_)
    obtain ⟨hr1, rfl⟩ := hr
    rw [bI_t (show ¬ nI (1) = 0 by decide)] at hr1
    obtain rfl : r = nI 1 := hr1
    refine z_if_eq B 23 dX7_open_18 (by decide) (fun h => absurd h (by decide)) (fun _ => ?_)
    refine z_iconst (v := nI 0) B dX7_open_21 (by decide) ?_
    exact z_mret B hAe hr dX7_open_22 rfl (by decide) (by decide) (by refine ⟨_, rfl, ?_⟩; refine ⟨?_, ?_⟩ <;> intros <;> first | contradiction | rfl | exact ⟨rfl, rfl⟩ | omega  | exact ⟨bI_1 (by assumption), rfl⟩ | exact ⟨bI_z (by assumption), rfl⟩)
theorem fw_X7_close_X7 : zF wsX7_close RX7 TX7 30 := fun _ h => List.mem_cons_of_mem _ (List.mem_append_right _ (h))
set_option maxHeartbeats 4000000 in
set_option maxRecDepth 100000 in
theorem c7_close (l : Launch) (D : va_G) (g : zG) (h : Nat) (a : Nat → Nat) (M : zMS) (hI : MI M) (x : Int32) : zMutI l yX7_close wsX7_close { frames := 3, cells := 0, slots := 0, locals := 70 } D (zT g) (wM g h a M) [.ref h, .int (x)] (fun r w' => ∃ M', w' = wM g h a M' ∧ (¬ rng x (mK M) → M' = up2 M 0 0 (nI 1)) ∧ (rng x (mK M) → ¬ M 24 (nN x) = 0 → M' = up2 M 0 0 (nI 2)) ∧ (rng x (mK M) → M 24 (nN x) = 0 → r = nI (zcnt (fun p => hS M p = (nI (1) <<< (x &&& 31))) (mP M)) ∧ M' = up2 (up2 M 0 0 (nI 0)) 24 (nN x) (nI 1))) 0 0 := by
  refine zMutI_of (cc := cX7_close) (maxL := 4) (ret := (some .int)) (own := RX7) [(0, .ref (h)), (1, .int (x))] (by decide) rfl rfl rfl (Nat.le_of_ble_eq_true rfl) ?_
  intro X A hAe hl B hr hin
  obtain ⟨b5, b2, b15, b23, b25, b1⟩ := MI_bs hI
  generalize hQ : (zQe X (va_Qi (fun r w' => ∃ M', w' = wM g h a M' ∧ (¬ rng x (mK M) → M' = up2 M 0 0 (nI 1)) ∧ (rng x (mK M) → ¬ M 24 (nN x) = 0 → M' = up2 M 0 0 (nI 2)) ∧ (rng x (mK M) → M 24 (nN x) = 0 → r = nI (zcnt (fun p => hS M p = (nI (1) <<< (x &&& 31))) (mP M)) ∧ M' = up2 (up2 M 0 0 (nI 0)) 24 (nN x) (nI 1))) (zEnd D (zT g) (wM g h a M) (zs X).heap.size) A) 0 0 A) = Q
  refine z_aload_n B 0 dX7_close_0 rfl rfl ?_
  refine z_aload_n B 0 dX7_close_1 rfl rfl ?_
  refine z_iload_n B 1 dX7_close_2 rfl rfl ?_
  refine z_callP (As := [.int (x)]) (st := [.ref (h)]) (C := RX7) (T := TX7) (N := 30) (ci := 7) (l := l) B hl (c7_isCase l D g h a M hI x) gX7_close_X7_isCase rfl ⟨rfl, rfl⟩ nm_X7_isCase ⟨by decide, by decide⟩ (fun _ h => h) 0 rfl rfl rfl (Nat.le_of_ble_eq_true rfl) dX7_close_3 (Nat.zero_le _) (Nat.zero_le _) (fun r hr => ?_)
  subst hr
  refine z_ifB_ne B 13 dX7_close_6 (by decide) (fun zc6 => ?_) (fun zc6 => ?_)
  · have zkc6 := zc6
    obtain ⟨jx, hjx, rfl⟩ := zc6
    refine z_aload_n B 0 dX7_close_13 rfl rfl ?_
    refine z_get (C := RX7) (T := TX7) (N := 30) (v := .ref (a 24)) B 0 24 1 fw_X7_close_X7 rfl rfl (by decide) rfl rfl rfl dX7_close_14 ?_
    refine z_iload_n B 1 dX7_close_17 rfl rfl ?_
    refine z_zald (g := (M 24)) (i := jx) B 19 1 rfl rfl (by omega) (by decide) dX7_close_18 ?_
    refine z_if_eq B 26 dX7_close_19 (by decide) (fun zc19 => ?_) (fun zc19 => ?_)
    · refine z_iconst (v := nI 0) B dX7_close_26 (by decide) ?_
      refine z_callM (As := [.int (nI (0))]) (st := []) (C := RX7) (T := TX7) (N := 30) (ci := 7) (l := l) B hl (c7_refused l D g h a M (nI (0))) gX7_close_X7_refused rfl ⟨rfl, rfl⟩ nm_X7_refused ⟨by decide, by decide⟩ 0 rfl rfl rfl (Nat.le_of_ble_eq_true rfl) dX7_close_27 rfl rfl (by decide) (by decide) (fun r w1 hr => ?_)
      obtain ⟨hr1, rfl⟩ := hr
      rw [bI_f (show ¬ ¬ nI (0) = 0 by decide)] at hr1
      obtain rfl : r = nI 0 := hr1
      refine z_if_eq B 35 dX7_close_30 (by decide) (fun _ => ?_) (fun h => absurd h (by decide))
      refine z_iconst (v := nI 0) B dX7_close_35 (by decide) ?_
      refine z_istore_n (lv1 := [(2, .int (nI (0))), (0, .ref (h)), (1, .int (nI (jx)))]) B dX7_close_36 rfl (by decide) rfl ?_
      refine z_iconst (v := nI 0) B dX7_close_37 (by decide) ?_
      refine z_istore_n (lv1 := [(3, .int (nI (0))), (2, .int (nI (0))), (0, .ref (h)), (1, .int (nI (jx)))]) B dX7_close_38 rfl (by decide) rfl ?_
      have loop39 : ∀ (n0 i : Nat), i ≤ mP M → mP M + 1 ≤ i + n0 → zJ X 4 (zI1 D A (zs X)) Q (wM g h a (up2 M 0 0 (nI (0)))) 0 0 [(0, .ref (h)), (1, .int (nI (jx))), (2, .int (nI (zcnt (fun p => hS M p = (nI (1) <<< ((nI (jx)) &&& 31))) i))), (3, .int (nI (i)))] 39 [] := by
        intro n39
        induction n39 with
        | zero => intro i h1 h2; exact absurd h2 (by omega)
        | succ n39 ih39 =>
          intro i hle39 hn39
          refine z_iload_n B 3 dX7_close_39 rfl rfl ?_
          refine z_aload_n B 0 dX7_close_40 rfl rfl ?_
          refine z_get (C := RX7) (T := TX7) (N := 30) (v := .int (M 5 0)) B 0 5 2 fw_X7_close_X7 rfl rfl (by decide) rfl rfl rfl dX7_close_41 ?_
          refine z_top (y := nI (mP M)) (MI_5 hI) ?_
          refine z_icmpN_ge B 72 dX7_close_44 (by decide) (by omega) (by omega) (fun zc44 => ?_) (fun zc44 => ?_)
          · obtain rfl : i = mP M := by omega
            refine z_aload_n B 0 dX7_close_72 rfl rfl ?_
            refine z_get (C := RX7) (T := TX7) (N := 30) (v := .ref (a 24)) B 0 24 1 fw_X7_close_X7 rfl rfl (by decide) rfl rfl rfl dX7_close_73 ?_
            refine z_iload_n B 1 dX7_close_76 rfl rfl ?_
            refine z_iconst (v := nI 1) B dX7_close_77 (by decide) ?_
            refine z_zast (g := (M 24)) (i := jx) (w' := wM g h a (up2 (up2 M 0 0 (nI (0))) 24 jx (nI (1)))) B 19 1 rfl rfl (by omega) (by decide) (Or.inr rfl) dX7_close_78 rfl ?_
            refine z_iload_n B 2 dX7_close_79 rfl rfl ?_
            subst hQ
            exact z_mret B hAe hr dX7_close_80 rfl (by decide) (by decide) (by refine ⟨_, rfl, ?_⟩; rw [nN_nI (show jx < 2 ^ 31 by omega)]; refine ⟨?_, ?_, ?_⟩ <;> intros <;> first | contradiction | rfl | exact ⟨rfl, rfl⟩ | omega  | exact ⟨bI_1 (by assumption), rfl⟩ | exact ⟨bI_z (by assumption), rfl⟩)
          · refine z_iload_n B 2 dX7_close_47 rfl rfl ?_
            refine z_aload_n B 0 dX7_close_48 rfl rfl ?_
            refine z_iload_n B 3 dX7_close_49 rfl rfl ?_
            refine z_callP (As := [.int (nI (i))]) (st := [.int (nI (zcnt (fun p => hS M p = (nI (1) <<< ((nI (jx)) &&& 31))) i))]) (C := RX7) (T := TX7) (N := 30) (ci := 7) (l := l) B hl (c7_holdersOf l D g h a (up2 M 0 0 (nI (0))) (MI_up0 hI) i (by omega)) gX7_close_X7_holdersOf rfl ⟨rfl, rfl⟩ nm_X7_holdersOf ⟨by decide, by decide⟩ (fun _ h => h) 0 rfl rfl rfl (Nat.le_of_ble_eq_true rfl) dX7_close_50 (Nat.zero_le _) (Nat.zero_le _) (fun r hr => ?_)
            change r = hS M i at hr
            subst hr
            refine z_iconst (v := nI 1) B dX7_close_53 (by decide) ?_
            refine z_iload_n B 1 dX7_close_54 rfl rfl ?_
            refine z_ishl B dX7_close_55 ?_
            refine z_icmp_ne B 63 dX7_close_56 (by decide) (fun zc56 => ?_) (fun zc56 => ?_)
            · refine z_iconst (v := nI 0) B dX7_close_63 (by decide) ?_
              refine z_iaddN B dX7_close_64 ?_
              refine z_istore_n (lv1 := [(2, .int (nI (zcnt (fun p => hS M p = (nI (1) <<< ((nI (jx)) &&& 31))) i + 0))), (0, .ref (h)), (1, .int (nI (jx))), (3, .int (nI (i)))]) B dX7_close_65 rfl (by decide) rfl ?_
              refine z_iinc B 3 (lv1 := [(3, .int (nI (i + 1))), (2, .int (nI (zcnt (fun p => hS M p = (nI (1) <<< ((nI (jx)) &&& 31))) i + 0))), (0, .ref (h)), (1, .int (nI (jx)))]) dX7_close_66 rfl (nI_1 _) (by decide) rfl ?_
              refine z_goto B 39 dX7_close_69 (by decide) ?_
              refine z_loc [2, 3, 1, 0] (lv' := [(0, .ref (h)), (1, .int (nI (jx))), (2, .int (nI (zcnt (fun p => hS M p = (nI (1) <<< ((nI (jx)) &&& 31))) i + 0))), (3, .int (nI (i + 1)))]) rfl ?_
              refine z_lvc (lv' := [(0, .ref (h)), (1, .int (nI (jx))), (2, .int (nI (zcnt (fun p => hS M p = (nI (1) <<< ((nI (jx)) &&& 31))) (i + 1)))), (3, .int (nI ((i + 1))))]) (by first | (rw [zcnt_y (P := fun p => hS M p = (nI (1) <<< ((nI (jx)) &&& 31))) zc56] <;> rfl) | (rw [← zcnt_n (P := fun p => hS M p = (nI (1) <<< ((nI (jx)) &&& 31))) zc56] <;> rfl)) ?_
              exact ih39 (i + 1) (by omega) (by omega)
            · refine z_iconst (v := nI 1) B dX7_close_59 (by decide) ?_
              refine z_goto B 64 dX7_close_60 (by decide) ?_
              refine z_iaddN B dX7_close_64 ?_
              refine z_istore_n (lv1 := [(2, .int (nI (zcnt (fun p => hS M p = (nI (1) <<< ((nI (jx)) &&& 31))) i + 1))), (0, .ref (h)), (1, .int (nI (jx))), (3, .int (nI (i)))]) B dX7_close_65 rfl (by decide) rfl ?_
              refine z_iinc B 3 (lv1 := [(3, .int (nI (i + 1))), (2, .int (nI (zcnt (fun p => hS M p = (nI (1) <<< ((nI (jx)) &&& 31))) i + 1))), (0, .ref (h)), (1, .int (nI (jx)))]) dX7_close_66 rfl (nI_1 _) (by decide) rfl ?_
              refine z_goto B 39 dX7_close_69 (by decide) ?_
              refine z_loc [2, 3, 1, 0] (lv' := [(0, .ref (h)), (1, .int (nI (jx))), (2, .int (nI (zcnt (fun p => hS M p = (nI (1) <<< ((nI (jx)) &&& 31))) i + 1))), (3, .int (nI (i + 1)))]) rfl ?_
              refine z_lvc (lv' := [(0, .ref (h)), (1, .int (nI (jx))), (2, .int (nI (zcnt (fun p => hS M p = (nI (1) <<< ((nI (jx)) &&& 31))) (i + 1)))), (3, .int (nI ((i + 1))))]) (by first | (rw [zcnt_y (P := fun p => hS M p = (nI (1) <<< ((nI (jx)) &&& 31))) zc56] <;> rfl) | (rw [← zcnt_n (P := fun p => hS M p = (nI (1) <<< ((nI (jx)) &&& 31))) zc56] <;> rfl)) ?_
              exact ih39 (i + 1) (by omega) (by omega)
      refine z_loc [2, 3, 1, 0] (lv' := [(0, .ref (h)), (1, .int (nI (jx))), (2, .int (nI (0))), (3, .int (nI (0)))]) rfl ?_
      refine z_lvc (lv' := [(0, .ref (h)), (1, .int (nI (jx))), (2, .int (nI (zcnt (fun p => hS M p = (nI (1) <<< ((nI (jx)) &&& 31))) 0))), (3, .int (nI (0)))]) (by rfl) ?_
      exact loop39 (mP M + 1) 0 (by omega) (by omega)
    · refine z_iconst (v := nI 2) B dX7_close_22 (by decide) ?_
      refine z_goto B 27 dX7_close_23 (by decide) ?_
      refine z_callM (As := [.int (nI (2))]) (st := []) (C := RX7) (T := TX7) (N := 30) (ci := 7) (l := l) B hl (c7_refused l D g h a M (nI (2))) gX7_close_X7_refused rfl ⟨rfl, rfl⟩ nm_X7_refused ⟨by decide, by decide⟩ 0 rfl rfl rfl (Nat.le_of_ble_eq_true rfl) dX7_close_27 rfl rfl (by decide) (by decide) (fun r w1 hr => ?_)
      obtain ⟨hr1, rfl⟩ := hr
      rw [bI_t (show ¬ nI (2) = 0 by decide)] at hr1
      obtain rfl : r = nI 1 := hr1
      refine z_if_eq B 35 dX7_close_30 (by decide) (fun h => absurd h (by decide)) (fun _ => ?_)
      refine z_iconst (v := nI 0) B dX7_close_33 (by decide) ?_
      subst hQ
      exact z_mret B hAe hr dX7_close_34 rfl (by decide) (by decide) (by refine ⟨_, rfl, ?_⟩; rw [nN_nI (show jx < 2 ^ 31 by omega)]; refine ⟨?_, ?_, ?_⟩ <;> intros <;> first | contradiction | rfl | exact ⟨rfl, rfl⟩ | omega  | exact ⟨bI_1 (by assumption), rfl⟩ | exact ⟨bI_z (by assumption), rfl⟩)
  · refine z_iconst (v := nI 1) B dX7_close_9 (by decide) ?_
    refine z_goto B 27 dX7_close_10 (by decide) ?_
    refine z_callM (As := [.int (nI (1))]) (st := []) (C := RX7) (T := TX7) (N := 30) (ci := 7) (l := l) B hl (c7_refused l D g h a M (nI (1))) gX7_close_X7_refused rfl ⟨rfl, rfl⟩ nm_X7_refused ⟨by decide, by decide⟩ 0 rfl rfl rfl (Nat.le_of_ble_eq_true rfl) dX7_close_27 rfl rfl (by decide) (by decide) (fun r w1 hr => ?_)
    obtain ⟨hr1, rfl⟩ := hr
    rw [bI_t (show ¬ nI (1) = 0 by decide)] at hr1
    obtain rfl : r = nI 1 := hr1
    refine z_if_eq B 35 dX7_close_30 (by decide) (fun h => absurd h (by decide)) (fun _ => ?_)
    refine z_iconst (v := nI 0) B dX7_close_33 (by decide) ?_
    subst hQ
    exact z_mret B hAe hr dX7_close_34 rfl (by decide) (by decide) (by refine ⟨_, rfl, ?_⟩; refine ⟨?_, ?_, ?_⟩ <;> intros <;> first | contradiction | rfl | exact ⟨rfl, rfl⟩ | omega  | exact ⟨bI_1 (by assumption), rfl⟩ | exact ⟨bI_z (by assumption), rfl⟩)
theorem fw_X7_hold_X7 : zF wsX7_hold RX7 TX7 30 := fun _ h => List.mem_cons_of_mem _ (List.mem_append_right _ (h))
set_option maxHeartbeats 4000000 in
set_option maxRecDepth 100000 in
theorem c7_hold (l : Launch) (D : va_G) (g : zG) (h : Nat) (a : Nat → Nat) (M : zMS) (hI : MI M) (x : Int32) (y : Int32) (f : Int32) (t : Int32) : zMutI l yX7_hold wsX7_hold { frames := 2, cells := 0, slots := 0, locals := 47 } D (zT g) (wM g h a M) [.ref h, .int (x), .int (y), .int (f), .int (t)] (fun r w' => ∃ M', w' = wM g h a M' ∧ (¬ rng x (mK M) → M' = up2 M 0 0 (nI 1)) ∧ (rng x (mK M) → ¬ rng y 8 → M' = up2 M 0 0 (nI 1)) ∧ (rng x (mK M) → rng y 8 → ¬ rng f 401 → M' = up2 M 0 0 (nI 2)) ∧ (rng x (mK M) → rng y 8 → rng f 401 → ¬ (f ≤ t ∧ t ≤ nI (400)) → M' = up2 M 0 0 (nI 2)) ∧ (rng x (mK M) → rng y 8 → rng f 401 → (f ≤ t ∧ t ≤ nI (400)) → ¬ M 24 (nN x) = 0 → M' = up2 M 0 0 (nI 3)) ∧ (rng x (mK M) → rng y 8 → rng f 401 → (f ≤ t ∧ t ≤ nI (400)) → M 24 (nN x) = 0 → 30 ≤ mH M → M' = up2 M 0 0 (nI 3)) ∧ (rng x (mK M) → rng y 8 → rng f 401 → (f ≤ t ∧ t ≤ nI (400)) → M 24 (nN x) = 0 → mH M < 30 → r = nI (zcnt (fun p => pRe (hoM M x y f t) x p) (mP M)) ∧ M' = hoM M x y f t)) 0 0 := by
  refine zMutI_of (cc := cX7_hold) (maxL := 10) (ret := (some .int)) (own := RX7) [(0, .ref (h)), (1, .int (x)), (2, .int (y)), (3, .int (f)), (4, .int (t))] (by decide) rfl rfl rfl (Nat.le_of_ble_eq_true rfl) ?_
  intro X A hAe hl B hr hin
  obtain ⟨b5, b2, b15, b23, b25, b1⟩ := MI_bs hI
  generalize hQ : (zQe X (va_Qi (fun r w' => ∃ M', w' = wM g h a M' ∧ (¬ rng x (mK M) → M' = up2 M 0 0 (nI 1)) ∧ (rng x (mK M) → ¬ rng y 8 → M' = up2 M 0 0 (nI 1)) ∧ (rng x (mK M) → rng y 8 → ¬ rng f 401 → M' = up2 M 0 0 (nI 2)) ∧ (rng x (mK M) → rng y 8 → rng f 401 → ¬ (f ≤ t ∧ t ≤ nI (400)) → M' = up2 M 0 0 (nI 2)) ∧ (rng x (mK M) → rng y 8 → rng f 401 → (f ≤ t ∧ t ≤ nI (400)) → ¬ M 24 (nN x) = 0 → M' = up2 M 0 0 (nI 3)) ∧ (rng x (mK M) → rng y 8 → rng f 401 → (f ≤ t ∧ t ≤ nI (400)) → M 24 (nN x) = 0 → 30 ≤ mH M → M' = up2 M 0 0 (nI 3)) ∧ (rng x (mK M) → rng y 8 → rng f 401 → (f ≤ t ∧ t ≤ nI (400)) → M 24 (nN x) = 0 → mH M < 30 → r = nI (zcnt (fun p => pRe (hoM M x y f t) x p) (mP M)) ∧ M' = hoM M x y f t)) (zEnd D (zT g) (wM g h a M) (zs X).heap.size) A) 0 0 A) = Q
  refine z_aload_n B 0 dX7_hold_0 rfl rfl ?_
  refine z_iload_n B 1 dX7_hold_1 rfl rfl ?_
  refine z_callP (As := [.int (x)]) (st := []) (C := RX7) (T := TX7) (N := 30) (ci := 7) (l := l) B hl (c7_isCase l D g h a M hI x) gX7_hold_X7_isCase rfl ⟨rfl, rfl⟩ nm_X7_isCase ⟨by decide, by decide⟩ (fun _ h => h) 0 rfl rfl rfl (Nat.le_of_ble_eq_true rfl) dX7_hold_2 (Nat.zero_le _) (Nat.zero_le _) (fun r hr => ?_)
  subst hr
  refine z_ifB_eq B 19 dX7_hold_5 (by decide) (fun zc5 => ?_) (fun zc5 => ?_)
  · refine z_iconst (v := nI 0) B dX7_hold_19 (by decide) ?_
    refine z_istore (lv1 := [(5, .int (nI (0))), (0, .ref (h)), (1, .int (x)), (2, .int (y)), (3, .int (f)), (4, .int (t))]) B dX7_hold_20 (by decide) rfl ?_
    refine z_iload_n B 4 dX7_hold_22 rfl rfl ?_
    refine z_iconst (v := nI 0) B dX7_hold_23 (by decide) ?_
    refine z_sipush (v := nI 400) B dX7_hold_24 (by decide) ?_
    refine z_callS (As := [.int (f), .int (nI (0)), .int (nI (400))]) (st := []) (l := l) B hl (c7_in l D g h a M f (nI (0)) (nI (400))) gX7_hold_X7_in rfl ⟨rfl, rfl⟩ nm_X7_in ⟨by decide, by decide⟩ (fun _ h => h) rfl (Nat.le_of_ble_eq_true rfl) dX7_hold_27 (Nat.zero_le _) (Nat.zero_le _) (fun r hr => ?_)
    rw [bI_cg (rng_in' (by decide))] at hr
    subst hr
    refine z_ifB_eq B 49 dX7_hold_30 (by decide) (fun zc30 => ?_) (fun zc30 => ?_)
    · refine z_iconst (v := nI 0) B dX7_hold_49 (by decide) ?_
      refine z_istore (lv1 := [(6, .int (nI (0))), (5, .int (nI (0))), (0, .ref (h)), (1, .int (x)), (2, .int (y)), (3, .int (f)), (4, .int (t))]) B dX7_hold_50 (by decide) rfl ?_
      refine z_iload B 1 dX7_hold_52 rfl ?_
      refine z_if_eq B 84 dX7_hold_54 (by decide) (fun _ => ?_) (fun h => absurd h (by decide))
      refine z_iconst (v := nI 0) B dX7_hold_84 (by decide) ?_
      refine z_istore (lv1 := [(7, .int (nI (0))), (6, .int (nI (0))), (5, .int (nI (0))), (0, .ref (h)), (1, .int (x)), (2, .int (y)), (3, .int (f)), (4, .int (t))]) B dX7_hold_85 (by decide) rfl ?_
      refine z_aload_n B 3 dX7_hold_87 rfl rfl ?_
      refine z_iload B 2 dX7_hold_88 rfl ?_
      refine z_if_ne B 97 dX7_hold_90 (by decide) (fun h => absurd h (by decide)) (fun _ => ?_)
      refine z_iconst (v := nI 1) B dX7_hold_93 (by decide) ?_
      refine z_goto B 116 dX7_hold_94 (by decide) ?_
      refine z_callM (As := [.int (nI (1))]) (st := []) (C := RX7) (T := TX7) (N := 30) (ci := 7) (l := l) B hl (c7_refused l D g h a M (nI (1))) gX7_hold_X7_refused rfl ⟨rfl, rfl⟩ nm_X7_refused ⟨by decide, by decide⟩ 0 rfl rfl rfl (Nat.le_of_ble_eq_true rfl) dX7_hold_116 rfl rfl (by decide) (by decide) (fun r w1 hr => ?_)
      obtain ⟨hr1, rfl⟩ := hr
      rw [bI_t (show ¬ nI (1) = 0 by decide)] at hr1
      obtain rfl : r = nI 1 := hr1
      refine z_if_eq B 124 dX7_hold_119 (by decide) (fun h => absurd h (by decide)) (fun _ => ?_)
      refine z_iconst (v := nI 0) B dX7_hold_122 (by decide) ?_
      subst hQ
      exact z_mret B hAe hr dX7_hold_123 rfl (by decide) (by decide) (by refine ⟨_, rfl, ?_⟩; refine ⟨?_, ?_, ?_, ?_, ?_, ?_, ?_⟩ <;> intros <;> first | contradiction | rfl | exact ⟨rfl, rfl⟩ | omega  | exact ⟨bI_1 (by assumption), rfl⟩ | exact ⟨bI_z (by assumption), rfl⟩)
    · have zkc30 := zc30
      obtain ⟨jf, hjf, rfl⟩ := zc30
      refine z_iload B 5 dX7_hold_33 rfl ?_
      refine z_iload_n B 4 dX7_hold_35 rfl rfl ?_
      refine z_sipush (v := nI 400) B dX7_hold_36 (by decide) ?_
      refine z_callS (As := [.int (t), .int (nI (jf)), .int (nI (400))]) (st := []) (l := l) B hl (c7_in l D g h a M t (nI (jf)) (nI (400))) gX7_hold_X7_in rfl ⟨rfl, rfl⟩ nm_X7_in ⟨by decide, by decide⟩ (fun _ h => h) rfl (Nat.le_of_ble_eq_true rfl) dX7_hold_39 (Nat.zero_le _) (Nat.zero_le _) (fun r hr => ?_)
      subst hr
      refine z_ifB_eq B 49 dX7_hold_42 (by decide) (fun zc42 => ?_) (fun zc42 => ?_)
      · refine z_iconst (v := nI 0) B dX7_hold_49 (by decide) ?_
        refine z_istore (lv1 := [(6, .int (nI (0))), (5, .int (nI (0))), (0, .ref (h)), (1, .int (x)), (2, .int (y)), (3, .int (nI (jf))), (4, .int (t))]) B dX7_hold_50 (by decide) rfl ?_
        refine z_iload B 1 dX7_hold_52 rfl ?_
        refine z_if_eq B 84 dX7_hold_54 (by decide) (fun _ => ?_) (fun h => absurd h (by decide))
        refine z_iconst (v := nI 0) B dX7_hold_84 (by decide) ?_
        refine z_istore (lv1 := [(7, .int (nI (0))), (6, .int (nI (0))), (5, .int (nI (0))), (0, .ref (h)), (1, .int (x)), (2, .int (y)), (3, .int (nI (jf))), (4, .int (t))]) B dX7_hold_85 (by decide) rfl ?_
        refine z_aload_n B 3 dX7_hold_87 rfl rfl ?_
        refine z_iload B 2 dX7_hold_88 rfl ?_
        refine z_if_ne B 97 dX7_hold_90 (by decide) (fun h => absurd h (by decide)) (fun _ => ?_)
        refine z_iconst (v := nI 1) B dX7_hold_93 (by decide) ?_
        refine z_goto B 116 dX7_hold_94 (by decide) ?_
        refine z_callM (As := [.int (nI (1))]) (st := []) (C := RX7) (T := TX7) (N := 30) (ci := 7) (l := l) B hl (c7_refused l D g h a M (nI (1))) gX7_hold_X7_refused rfl ⟨rfl, rfl⟩ nm_X7_refused ⟨by decide, by decide⟩ 0 rfl rfl rfl (Nat.le_of_ble_eq_true rfl) dX7_hold_116 rfl rfl (by decide) (by decide) (fun r w1 hr => ?_)
        obtain ⟨hr1, rfl⟩ := hr
        rw [bI_t (show ¬ nI (1) = 0 by decide)] at hr1
        obtain rfl : r = nI 1 := hr1
        refine z_if_eq B 124 dX7_hold_119 (by decide) (fun h => absurd h (by decide)) (fun _ => ?_)
        refine z_iconst (v := nI 0) B dX7_hold_122 (by decide) ?_
        subst hQ
        exact z_mret B hAe hr dX7_hold_123 rfl (by decide) (by decide) (by refine ⟨_, rfl, ?_⟩; refine ⟨?_, ?_, ?_, ?_, ?_, ?_, ?_⟩ <;> intros <;> first | contradiction | rfl | exact ⟨rfl, rfl⟩ | omega  | exact ⟨bI_1 (by assumption), rfl⟩ | exact ⟨bI_z (by assumption), rfl⟩)
      · refine z_iconst (v := nI 1) B dX7_hold_45 (by decide) ?_
        refine z_goto B 50 dX7_hold_46 (by decide) ?_
        refine z_istore (lv1 := [(6, .int (nI (1))), (5, .int (nI (0))), (0, .ref (h)), (1, .int (x)), (2, .int (y)), (3, .int (nI (jf))), (4, .int (t))]) B dX7_hold_50 (by decide) rfl ?_
        refine z_iload B 1 dX7_hold_52 rfl ?_
        refine z_if_eq B 84 dX7_hold_54 (by decide) (fun _ => ?_) (fun h => absurd h (by decide))
        refine z_iconst (v := nI 0) B dX7_hold_84 (by decide) ?_
        refine z_istore (lv1 := [(7, .int (nI (0))), (6, .int (nI (1))), (5, .int (nI (0))), (0, .ref (h)), (1, .int (x)), (2, .int (y)), (3, .int (nI (jf))), (4, .int (t))]) B dX7_hold_85 (by decide) rfl ?_
        refine z_aload_n B 3 dX7_hold_87 rfl rfl ?_
        refine z_iload B 2 dX7_hold_88 rfl ?_
        refine z_if_ne B 97 dX7_hold_90 (by decide) (fun h => absurd h (by decide)) (fun _ => ?_)
        refine z_iconst (v := nI 1) B dX7_hold_93 (by decide) ?_
        refine z_goto B 116 dX7_hold_94 (by decide) ?_
        refine z_callM (As := [.int (nI (1))]) (st := []) (C := RX7) (T := TX7) (N := 30) (ci := 7) (l := l) B hl (c7_refused l D g h a M (nI (1))) gX7_hold_X7_refused rfl ⟨rfl, rfl⟩ nm_X7_refused ⟨by decide, by decide⟩ 0 rfl rfl rfl (Nat.le_of_ble_eq_true rfl) dX7_hold_116 rfl rfl (by decide) (by decide) (fun r w1 hr => ?_)
        obtain ⟨hr1, rfl⟩ := hr
        rw [bI_t (show ¬ nI (1) = 0 by decide)] at hr1
        obtain rfl : r = nI 1 := hr1
        refine z_if_eq B 124 dX7_hold_119 (by decide) (fun h => absurd h (by decide)) (fun _ => ?_)
        refine z_iconst (v := nI 0) B dX7_hold_122 (by decide) ?_
        subst hQ
        exact z_mret B hAe hr dX7_hold_123 rfl (by decide) (by decide) (by refine ⟨_, rfl, ?_⟩; refine ⟨?_, ?_, ?_, ?_, ?_, ?_, ?_⟩ <;> intros <;> first | contradiction | rfl | exact ⟨rfl, rfl⟩ | omega  | exact ⟨bI_1 (by assumption), rfl⟩ | exact ⟨bI_z (by assumption), rfl⟩)
  · have zkc5 := zc5
    obtain ⟨jx, hjx, rfl⟩ := zc5
    refine z_iload_n B 2 dX7_hold_8 rfl rfl ?_
    refine z_callS (As := [.int (y)]) (st := []) (l := l) B hl (c7_isAccount l D g h a M y) gX7_hold_X7_isAccount rfl ⟨rfl, rfl⟩ nm_X7_isAccount ⟨by decide, by decide⟩ (fun _ h => h) rfl (Nat.le_of_ble_eq_true rfl) dX7_hold_9 (Nat.zero_le _) (Nat.zero_le _) (fun r hr => ?_)
    subst hr
    refine z_ifB_eq B 19 dX7_hold_12 (by decide) (fun zc12 => ?_) (fun zc12 => ?_)
    · refine z_iconst (v := nI 0) B dX7_hold_19 (by decide) ?_
      refine z_istore (lv1 := [(5, .int (nI (0))), (0, .ref (h)), (1, .int (nI (jx))), (2, .int (y)), (3, .int (f)), (4, .int (t))]) B dX7_hold_20 (by decide) rfl ?_
      refine z_iload_n B 4 dX7_hold_22 rfl rfl ?_
      refine z_iconst (v := nI 0) B dX7_hold_23 (by decide) ?_
      refine z_sipush (v := nI 400) B dX7_hold_24 (by decide) ?_
      refine z_callS (As := [.int (f), .int (nI (0)), .int (nI (400))]) (st := []) (l := l) B hl (c7_in l D g h a M f (nI (0)) (nI (400))) gX7_hold_X7_in rfl ⟨rfl, rfl⟩ nm_X7_in ⟨by decide, by decide⟩ (fun _ h => h) rfl (Nat.le_of_ble_eq_true rfl) dX7_hold_27 (Nat.zero_le _) (Nat.zero_le _) (fun r hr => ?_)
      rw [bI_cg (rng_in' (by decide))] at hr
      subst hr
      refine z_ifB_eq B 49 dX7_hold_30 (by decide) (fun zc30 => ?_) (fun zc30 => ?_)
      · refine z_iconst (v := nI 0) B dX7_hold_49 (by decide) ?_
        refine z_istore (lv1 := [(6, .int (nI (0))), (5, .int (nI (0))), (0, .ref (h)), (1, .int (nI (jx))), (2, .int (y)), (3, .int (f)), (4, .int (t))]) B dX7_hold_50 (by decide) rfl ?_
        refine z_iload B 1 dX7_hold_52 rfl ?_
        refine z_if_eq B 84 dX7_hold_54 (by decide) (fun _ => ?_) (fun h => absurd h (by decide))
        refine z_iconst (v := nI 0) B dX7_hold_84 (by decide) ?_
        refine z_istore (lv1 := [(7, .int (nI (0))), (6, .int (nI (0))), (5, .int (nI (0))), (0, .ref (h)), (1, .int (nI (jx))), (2, .int (y)), (3, .int (f)), (4, .int (t))]) B dX7_hold_85 (by decide) rfl ?_
        refine z_aload_n B 3 dX7_hold_87 rfl rfl ?_
        refine z_iload B 2 dX7_hold_88 rfl ?_
        refine z_if_ne B 97 dX7_hold_90 (by decide) (fun h => absurd h (by decide)) (fun _ => ?_)
        refine z_iconst (v := nI 1) B dX7_hold_93 (by decide) ?_
        refine z_goto B 116 dX7_hold_94 (by decide) ?_
        refine z_callM (As := [.int (nI (1))]) (st := []) (C := RX7) (T := TX7) (N := 30) (ci := 7) (l := l) B hl (c7_refused l D g h a M (nI (1))) gX7_hold_X7_refused rfl ⟨rfl, rfl⟩ nm_X7_refused ⟨by decide, by decide⟩ 0 rfl rfl rfl (Nat.le_of_ble_eq_true rfl) dX7_hold_116 rfl rfl (by decide) (by decide) (fun r w1 hr => ?_)
        obtain ⟨hr1, rfl⟩ := hr
        rw [bI_t (show ¬ nI (1) = 0 by decide)] at hr1
        obtain rfl : r = nI 1 := hr1
        refine z_if_eq B 124 dX7_hold_119 (by decide) (fun h => absurd h (by decide)) (fun _ => ?_)
        refine z_iconst (v := nI 0) B dX7_hold_122 (by decide) ?_
        subst hQ
        exact z_mret B hAe hr dX7_hold_123 rfl (by decide) (by decide) (by refine ⟨_, rfl, ?_⟩; rw [nN_nI (show jx < 2 ^ 31 by omega)]; refine ⟨?_, ?_, ?_, ?_, ?_, ?_, ?_⟩ <;> intros <;> first | contradiction | rfl | exact ⟨rfl, rfl⟩ | omega  | exact ⟨bI_1 (by assumption), rfl⟩ | exact ⟨bI_z (by assumption), rfl⟩)
      · have zkc30 := zc30
        obtain ⟨jf, hjf, rfl⟩ := zc30
        refine z_iload B 5 dX7_hold_33 rfl ?_
        refine z_iload_n B 4 dX7_hold_35 rfl rfl ?_
        refine z_sipush (v := nI 400) B dX7_hold_36 (by decide) ?_
        refine z_callS (As := [.int (t), .int (nI (jf)), .int (nI (400))]) (st := []) (l := l) B hl (c7_in l D g h a M t (nI (jf)) (nI (400))) gX7_hold_X7_in rfl ⟨rfl, rfl⟩ nm_X7_in ⟨by decide, by decide⟩ (fun _ h => h) rfl (Nat.le_of_ble_eq_true rfl) dX7_hold_39 (Nat.zero_le _) (Nat.zero_le _) (fun r hr => ?_)
        subst hr
        refine z_ifB_eq B 49 dX7_hold_42 (by decide) (fun zc42 => ?_) (fun zc42 => ?_)
        · refine z_iconst (v := nI 0) B dX7_hold_49 (by decide) ?_
          refine z_istore (lv1 := [(6, .int (nI (0))), (5, .int (nI (0))), (0, .ref (h)), (1, .int (nI (jx))), (2, .int (y)), (3, .int (nI (jf))), (4, .int (t))]) B dX7_hold_50 (by decide) rfl ?_
          refine z_iload B 1 dX7_hold_52 rfl ?_
          refine z_if_eq B 84 dX7_hold_54 (by decide) (fun _ => ?_) (fun h => absurd h (by decide))
          refine z_iconst (v := nI 0) B dX7_hold_84 (by decide) ?_
          refine z_istore (lv1 := [(7, .int (nI (0))), (6, .int (nI (0))), (5, .int (nI (0))), (0, .ref (h)), (1, .int (nI (jx))), (2, .int (y)), (3, .int (nI (jf))), (4, .int (t))]) B dX7_hold_85 (by decide) rfl ?_
          refine z_aload_n B 3 dX7_hold_87 rfl rfl ?_
          refine z_iload B 2 dX7_hold_88 rfl ?_
          refine z_if_ne B 97 dX7_hold_90 (by decide) (fun h => absurd h (by decide)) (fun _ => ?_)
          refine z_iconst (v := nI 1) B dX7_hold_93 (by decide) ?_
          refine z_goto B 116 dX7_hold_94 (by decide) ?_
          refine z_callM (As := [.int (nI (1))]) (st := []) (C := RX7) (T := TX7) (N := 30) (ci := 7) (l := l) B hl (c7_refused l D g h a M (nI (1))) gX7_hold_X7_refused rfl ⟨rfl, rfl⟩ nm_X7_refused ⟨by decide, by decide⟩ 0 rfl rfl rfl (Nat.le_of_ble_eq_true rfl) dX7_hold_116 rfl rfl (by decide) (by decide) (fun r w1 hr => ?_)
          obtain ⟨hr1, rfl⟩ := hr
          rw [bI_t (show ¬ nI (1) = 0 by decide)] at hr1
          obtain rfl : r = nI 1 := hr1
          refine z_if_eq B 124 dX7_hold_119 (by decide) (fun h => absurd h (by decide)) (fun _ => ?_)
          refine z_iconst (v := nI 0) B dX7_hold_122 (by decide) ?_
          subst hQ
          exact z_mret B hAe hr dX7_hold_123 rfl (by decide) (by decide) (by refine ⟨_, rfl, ?_⟩; rw [nN_nI (show jx < 2 ^ 31 by omega)]; refine ⟨?_, ?_, ?_, ?_, ?_, ?_, ?_⟩ <;> intros <;> first | contradiction | rfl | exact ⟨rfl, rfl⟩ | omega  | exact ⟨bI_1 (by assumption), rfl⟩ | exact ⟨bI_z (by assumption), rfl⟩)
        · refine z_iconst (v := nI 1) B dX7_hold_45 (by decide) ?_
          refine z_goto B 50 dX7_hold_46 (by decide) ?_
          refine z_istore (lv1 := [(6, .int (nI (1))), (5, .int (nI (0))), (0, .ref (h)), (1, .int (nI (jx))), (2, .int (y)), (3, .int (nI (jf))), (4, .int (t))]) B dX7_hold_50 (by decide) rfl ?_
          refine z_iload B 1 dX7_hold_52 rfl ?_
          refine z_if_eq B 84 dX7_hold_54 (by decide) (fun _ => ?_) (fun h => absurd h (by decide))
          refine z_iconst (v := nI 0) B dX7_hold_84 (by decide) ?_
          refine z_istore (lv1 := [(7, .int (nI (0))), (6, .int (nI (1))), (5, .int (nI (0))), (0, .ref (h)), (1, .int (nI (jx))), (2, .int (y)), (3, .int (nI (jf))), (4, .int (t))]) B dX7_hold_85 (by decide) rfl ?_
          refine z_aload_n B 3 dX7_hold_87 rfl rfl ?_
          refine z_iload B 2 dX7_hold_88 rfl ?_
          refine z_if_ne B 97 dX7_hold_90 (by decide) (fun h => absurd h (by decide)) (fun _ => ?_)
          refine z_iconst (v := nI 1) B dX7_hold_93 (by decide) ?_
          refine z_goto B 116 dX7_hold_94 (by decide) ?_
          refine z_callM (As := [.int (nI (1))]) (st := []) (C := RX7) (T := TX7) (N := 30) (ci := 7) (l := l) B hl (c7_refused l D g h a M (nI (1))) gX7_hold_X7_refused rfl ⟨rfl, rfl⟩ nm_X7_refused ⟨by decide, by decide⟩ 0 rfl rfl rfl (Nat.le_of_ble_eq_true rfl) dX7_hold_116 rfl rfl (by decide) (by decide) (fun r w1 hr => ?_)
          obtain ⟨hr1, rfl⟩ := hr
          rw [bI_t (show ¬ nI (1) = 0 by decide)] at hr1
          obtain rfl : r = nI 1 := hr1
          refine z_if_eq B 124 dX7_hold_119 (by decide) (fun h => absurd h (by decide)) (fun _ => ?_)
          refine z_iconst (v := nI 0) B dX7_hold_122 (by decide) ?_
          subst hQ
          exact z_mret B hAe hr dX7_hold_123 rfl (by decide) (by decide) (by refine ⟨_, rfl, ?_⟩; rw [nN_nI (show jx < 2 ^ 31 by omega)]; refine ⟨?_, ?_, ?_, ?_, ?_, ?_, ?_⟩ <;> intros <;> first | contradiction | rfl | exact ⟨rfl, rfl⟩ | omega  | exact ⟨bI_1 (by assumption), rfl⟩ | exact ⟨bI_z (by assumption), rfl⟩)
    · have zkc12 := zc12
      obtain ⟨jy, hjy, rfl⟩ := zc12
      refine z_iconst (v := nI 1) B dX7_hold_15 (by decide) ?_
      refine z_goto B 20 dX7_hold_16 (by decide) ?_
      refine z_istore (lv1 := [(5, .int (nI (1))), (0, .ref (h)), (1, .int (nI (jx))), (2, .int (nI (jy))), (3, .int (f)), (4, .int (t))]) B dX7_hold_20 (by decide) rfl ?_
      refine z_iload_n B 4 dX7_hold_22 rfl rfl ?_
      refine z_iconst (v := nI 0) B dX7_hold_23 (by decide) ?_
      refine z_sipush (v := nI 400) B dX7_hold_24 (by decide) ?_
      refine z_callS (As := [.int (f), .int (nI (0)), .int (nI (400))]) (st := []) (l := l) B hl (c7_in l D g h a M f (nI (0)) (nI (400))) gX7_hold_X7_in rfl ⟨rfl, rfl⟩ nm_X7_in ⟨by decide, by decide⟩ (fun _ h => h) rfl (Nat.le_of_ble_eq_true rfl) dX7_hold_27 (Nat.zero_le _) (Nat.zero_le _) (fun r hr => ?_)
      rw [bI_cg (rng_in' (by decide))] at hr
      subst hr
      refine z_ifB_eq B 49 dX7_hold_30 (by decide) (fun zc30 => ?_) (fun zc30 => ?_)
      · refine z_iconst (v := nI 0) B dX7_hold_49 (by decide) ?_
        refine z_istore (lv1 := [(6, .int (nI (0))), (5, .int (nI (1))), (0, .ref (h)), (1, .int (nI (jx))), (2, .int (nI (jy))), (3, .int (f)), (4, .int (t))]) B dX7_hold_50 (by decide) rfl ?_
        refine z_iload B 1 dX7_hold_52 rfl ?_
        refine z_if_eq B 84 dX7_hold_54 (by decide) (fun h => absurd h (by decide)) (fun _ => ?_)
        refine z_iload B 0 dX7_hold_57 rfl ?_
        refine z_if_eq B 84 dX7_hold_59 (by decide) (fun _ => ?_) (fun h => absurd h (by decide))
        refine z_iconst (v := nI 0) B dX7_hold_84 (by decide) ?_
        refine z_istore (lv1 := [(7, .int (nI (0))), (6, .int (nI (0))), (5, .int (nI (1))), (0, .ref (h)), (1, .int (nI (jx))), (2, .int (nI (jy))), (3, .int (f)), (4, .int (t))]) B dX7_hold_85 (by decide) rfl ?_
        refine z_aload_n B 3 dX7_hold_87 rfl rfl ?_
        refine z_iload B 2 dX7_hold_88 rfl ?_
        refine z_if_ne B 97 dX7_hold_90 (by decide) (fun _ => ?_) (fun h => absurd h (by decide))
        refine z_iload B 1 dX7_hold_97 rfl ?_
        refine z_if_ne B 106 dX7_hold_99 (by decide) (fun h => absurd h (by decide)) (fun _ => ?_)
        refine z_iconst (v := nI 2) B dX7_hold_102 (by decide) ?_
        refine z_goto B 116 dX7_hold_103 (by decide) ?_
        refine z_callM (As := [.int (nI (2))]) (st := []) (C := RX7) (T := TX7) (N := 30) (ci := 7) (l := l) B hl (c7_refused l D g h a M (nI (2))) gX7_hold_X7_refused rfl ⟨rfl, rfl⟩ nm_X7_refused ⟨by decide, by decide⟩ 0 rfl rfl rfl (Nat.le_of_ble_eq_true rfl) dX7_hold_116 rfl rfl (by decide) (by decide) (fun r w1 hr => ?_)
        obtain ⟨hr1, rfl⟩ := hr
        rw [bI_t (show ¬ nI (2) = 0 by decide)] at hr1
        obtain rfl : r = nI 1 := hr1
        refine z_if_eq B 124 dX7_hold_119 (by decide) (fun h => absurd h (by decide)) (fun _ => ?_)
        refine z_iconst (v := nI 0) B dX7_hold_122 (by decide) ?_
        subst hQ
        exact z_mret B hAe hr dX7_hold_123 rfl (by decide) (by decide) (by refine ⟨_, rfl, ?_⟩; rw [nN_nI (show jx < 2 ^ 31 by omega)]; refine ⟨?_, ?_, ?_, ?_, ?_, ?_, ?_⟩ <;> intros <;> first | contradiction | rfl | exact ⟨rfl, rfl⟩ | omega  | exact ⟨bI_1 (by assumption), rfl⟩ | exact ⟨bI_z (by assumption), rfl⟩)
      · have zkc30 := zc30
        obtain ⟨jf, hjf, rfl⟩ := zc30
        refine z_iload B 5 dX7_hold_33 rfl ?_
        refine z_iload_n B 4 dX7_hold_35 rfl rfl ?_
        refine z_sipush (v := nI 400) B dX7_hold_36 (by decide) ?_
        refine z_callS (As := [.int (t), .int (nI (jf)), .int (nI (400))]) (st := []) (l := l) B hl (c7_in l D g h a M t (nI (jf)) (nI (400))) gX7_hold_X7_in rfl ⟨rfl, rfl⟩ nm_X7_in ⟨by decide, by decide⟩ (fun _ h => h) rfl (Nat.le_of_ble_eq_true rfl) dX7_hold_39 (Nat.zero_le _) (Nat.zero_le _) (fun r hr => ?_)
        subst hr
        refine z_ifB_eq B 49 dX7_hold_42 (by decide) (fun zc42 => ?_) (fun zc42 => ?_)
        · refine z_iconst (v := nI 0) B dX7_hold_49 (by decide) ?_
          refine z_istore (lv1 := [(6, .int (nI (0))), (5, .int (nI (1))), (0, .ref (h)), (1, .int (nI (jx))), (2, .int (nI (jy))), (3, .int (nI (jf))), (4, .int (t))]) B dX7_hold_50 (by decide) rfl ?_
          refine z_iload B 1 dX7_hold_52 rfl ?_
          refine z_if_eq B 84 dX7_hold_54 (by decide) (fun h => absurd h (by decide)) (fun _ => ?_)
          refine z_iload B 0 dX7_hold_57 rfl ?_
          refine z_if_eq B 84 dX7_hold_59 (by decide) (fun _ => ?_) (fun h => absurd h (by decide))
          refine z_iconst (v := nI 0) B dX7_hold_84 (by decide) ?_
          refine z_istore (lv1 := [(7, .int (nI (0))), (6, .int (nI (0))), (5, .int (nI (1))), (0, .ref (h)), (1, .int (nI (jx))), (2, .int (nI (jy))), (3, .int (nI (jf))), (4, .int (t))]) B dX7_hold_85 (by decide) rfl ?_
          refine z_aload_n B 3 dX7_hold_87 rfl rfl ?_
          refine z_iload B 2 dX7_hold_88 rfl ?_
          refine z_if_ne B 97 dX7_hold_90 (by decide) (fun _ => ?_) (fun h => absurd h (by decide))
          refine z_iload B 1 dX7_hold_97 rfl ?_
          refine z_if_ne B 106 dX7_hold_99 (by decide) (fun h => absurd h (by decide)) (fun _ => ?_)
          refine z_iconst (v := nI 2) B dX7_hold_102 (by decide) ?_
          refine z_goto B 116 dX7_hold_103 (by decide) ?_
          refine z_callM (As := [.int (nI (2))]) (st := []) (C := RX7) (T := TX7) (N := 30) (ci := 7) (l := l) B hl (c7_refused l D g h a M (nI (2))) gX7_hold_X7_refused rfl ⟨rfl, rfl⟩ nm_X7_refused ⟨by decide, by decide⟩ 0 rfl rfl rfl (Nat.le_of_ble_eq_true rfl) dX7_hold_116 rfl rfl (by decide) (by decide) (fun r w1 hr => ?_)
          obtain ⟨hr1, rfl⟩ := hr
          rw [bI_t (show ¬ nI (2) = 0 by decide)] at hr1
          obtain rfl : r = nI 1 := hr1
          refine z_if_eq B 124 dX7_hold_119 (by decide) (fun h => absurd h (by decide)) (fun _ => ?_)
          refine z_iconst (v := nI 0) B dX7_hold_122 (by decide) ?_
          subst hQ
          exact z_mret B hAe hr dX7_hold_123 rfl (by decide) (by decide) (by refine ⟨_, rfl, ?_⟩; rw [nN_nI (show jx < 2 ^ 31 by omega)]; refine ⟨?_, ?_, ?_, ?_, ?_, ?_, ?_⟩ <;> intros <;> first | contradiction | rfl | exact ⟨rfl, rfl⟩ | omega  | exact ⟨bI_1 (by assumption), rfl⟩ | exact ⟨bI_z (by assumption), rfl⟩)
        · refine z_iconst (v := nI 1) B dX7_hold_45 (by decide) ?_
          refine z_goto B 50 dX7_hold_46 (by decide) ?_
          refine z_istore (lv1 := [(6, .int (nI (1))), (5, .int (nI (1))), (0, .ref (h)), (1, .int (nI (jx))), (2, .int (nI (jy))), (3, .int (nI (jf))), (4, .int (t))]) B dX7_hold_50 (by decide) rfl ?_
          refine z_iload B 1 dX7_hold_52 rfl ?_
          refine z_if_eq B 84 dX7_hold_54 (by decide) (fun h => absurd h (by decide)) (fun _ => ?_)
          refine z_iload B 0 dX7_hold_57 rfl ?_
          refine z_if_eq B 84 dX7_hold_59 (by decide) (fun h => absurd h (by decide)) (fun _ => ?_)
          refine z_aload_n B 2 dX7_hold_62 rfl rfl ?_
          refine z_get (C := RX7) (T := TX7) (N := 30) (v := .ref (a 24)) B 0 24 1 fw_X7_hold_X7 rfl rfl (by decide) rfl rfl rfl dX7_hold_63 ?_
          refine z_iload_n B 3 dX7_hold_66 rfl rfl ?_
          refine z_zald (g := (M 24)) (i := jx) B 19 1 rfl rfl (by omega) (by decide) dX7_hold_67 ?_
          refine z_if_ne B 84 dX7_hold_68 (by decide) (fun zc68 => ?_) (fun zc68 => ?_)
          · refine z_iconst (v := nI 0) B dX7_hold_84 (by decide) ?_
            refine z_istore (lv1 := [(7, .int (nI (0))), (6, .int (nI (1))), (5, .int (nI (1))), (0, .ref (h)), (1, .int (nI (jx))), (2, .int (nI (jy))), (3, .int (nI (jf))), (4, .int (t))]) B dX7_hold_85 (by decide) rfl ?_
            refine z_aload_n B 3 dX7_hold_87 rfl rfl ?_
            refine z_iload B 2 dX7_hold_88 rfl ?_
            refine z_if_ne B 97 dX7_hold_90 (by decide) (fun _ => ?_) (fun h => absurd h (by decide))
            refine z_iload B 1 dX7_hold_97 rfl ?_
            refine z_if_ne B 106 dX7_hold_99 (by decide) (fun _ => ?_) (fun h => absurd h (by decide))
            refine z_iload B 0 dX7_hold_106 rfl ?_
            refine z_if_eq B 115 dX7_hold_108 (by decide) (fun _ => ?_) (fun h => absurd h (by decide))
            refine z_iconst (v := nI 3) B dX7_hold_115 (by decide) ?_
            refine z_callM (As := [.int (nI (3))]) (st := []) (C := RX7) (T := TX7) (N := 30) (ci := 7) (l := l) B hl (c7_refused l D g h a M (nI (3))) gX7_hold_X7_refused rfl ⟨rfl, rfl⟩ nm_X7_refused ⟨by decide, by decide⟩ 0 rfl rfl rfl (Nat.le_of_ble_eq_true rfl) dX7_hold_116 rfl rfl (by decide) (by decide) (fun r w1 hr => ?_)
            obtain ⟨hr1, rfl⟩ := hr
            rw [bI_t (show ¬ nI (3) = 0 by decide)] at hr1
            obtain rfl : r = nI 1 := hr1
            refine z_if_eq B 124 dX7_hold_119 (by decide) (fun h => absurd h (by decide)) (fun _ => ?_)
            refine z_iconst (v := nI 0) B dX7_hold_122 (by decide) ?_
            subst hQ
            exact z_mret B hAe hr dX7_hold_123 rfl (by decide) (by decide) (by refine ⟨_, rfl, ?_⟩; rw [nN_nI (show jx < 2 ^ 31 by omega)]; refine ⟨?_, ?_, ?_, ?_, ?_, ?_, ?_⟩ <;> intros <;> first | contradiction | rfl | exact ⟨rfl, rfl⟩ | omega  | exact ⟨bI_1 (by assumption), rfl⟩ | exact ⟨bI_z (by assumption), rfl⟩)
          · refine z_aload_n B 2 dX7_hold_71 rfl rfl ?_
            refine z_get (C := RX7) (T := TX7) (N := 30) (v := .int (M 25 0)) B 0 25 2 fw_X7_hold_X7 rfl rfl (by decide) rfl rfl rfl dX7_hold_72 ?_
            refine z_top (y := nI (mH M)) (MI_25 hI) ?_
            refine z_bipush (v := nI 30) B dX7_hold_75 (by decide) ?_
            refine z_icmpN_ge B 84 dX7_hold_77 (by decide) (by omega) (by omega) (fun zc77 => ?_) (fun zc77 => ?_)
            · refine z_iconst (v := nI 0) B dX7_hold_84 (by decide) ?_
              refine z_istore (lv1 := [(7, .int (nI (0))), (6, .int (nI (1))), (5, .int (nI (1))), (0, .ref (h)), (1, .int (nI (jx))), (2, .int (nI (jy))), (3, .int (nI (jf))), (4, .int (t))]) B dX7_hold_85 (by decide) rfl ?_
              refine z_aload_n B 3 dX7_hold_87 rfl rfl ?_
              refine z_iload B 2 dX7_hold_88 rfl ?_
              refine z_if_ne B 97 dX7_hold_90 (by decide) (fun _ => ?_) (fun h => absurd h (by decide))
              refine z_iload B 1 dX7_hold_97 rfl ?_
              refine z_if_ne B 106 dX7_hold_99 (by decide) (fun _ => ?_) (fun h => absurd h (by decide))
              refine z_iload B 0 dX7_hold_106 rfl ?_
              refine z_if_eq B 115 dX7_hold_108 (by decide) (fun _ => ?_) (fun h => absurd h (by decide))
              refine z_iconst (v := nI 3) B dX7_hold_115 (by decide) ?_
              refine z_callM (As := [.int (nI (3))]) (st := []) (C := RX7) (T := TX7) (N := 30) (ci := 7) (l := l) B hl (c7_refused l D g h a M (nI (3))) gX7_hold_X7_refused rfl ⟨rfl, rfl⟩ nm_X7_refused ⟨by decide, by decide⟩ 0 rfl rfl rfl (Nat.le_of_ble_eq_true rfl) dX7_hold_116 rfl rfl (by decide) (by decide) (fun r w1 hr => ?_)
              obtain ⟨hr1, rfl⟩ := hr
              rw [bI_t (show ¬ nI (3) = 0 by decide)] at hr1
              obtain rfl : r = nI 1 := hr1
              refine z_if_eq B 124 dX7_hold_119 (by decide) (fun h => absurd h (by decide)) (fun _ => ?_)
              refine z_iconst (v := nI 0) B dX7_hold_122 (by decide) ?_
              subst hQ
              exact z_mret B hAe hr dX7_hold_123 rfl (by decide) (by decide) (by refine ⟨_, rfl, ?_⟩; rw [nN_nI (show jx < 2 ^ 31 by omega)]; refine ⟨?_, ?_, ?_, ?_, ?_, ?_, ?_⟩ <;> intros <;> first | contradiction | rfl | exact ⟨rfl, rfl⟩ | omega  | exact ⟨bI_1 (by assumption), rfl⟩ | exact ⟨bI_z (by assumption), rfl⟩)
            · refine z_iconst (v := nI 1) B dX7_hold_80 (by decide) ?_
              refine z_goto B 85 dX7_hold_81 (by decide) ?_
              refine z_istore (lv1 := [(7, .int (nI (1))), (6, .int (nI (1))), (5, .int (nI (1))), (0, .ref (h)), (1, .int (nI (jx))), (2, .int (nI (jy))), (3, .int (nI (jf))), (4, .int (t))]) B dX7_hold_85 (by decide) rfl ?_
              refine z_aload_n B 3 dX7_hold_87 rfl rfl ?_
              refine z_iload B 2 dX7_hold_88 rfl ?_
              refine z_if_ne B 97 dX7_hold_90 (by decide) (fun _ => ?_) (fun h => absurd h (by decide))
              refine z_iload B 1 dX7_hold_97 rfl ?_
              refine z_if_ne B 106 dX7_hold_99 (by decide) (fun _ => ?_) (fun h => absurd h (by decide))
              refine z_iload B 0 dX7_hold_106 rfl ?_
              refine z_if_eq B 115 dX7_hold_108 (by decide) (fun h => absurd h (by decide)) (fun _ => ?_)
              refine z_iconst (v := nI 0) B dX7_hold_111 (by decide) ?_
              refine z_goto B 116 dX7_hold_112 (by decide) ?_
              refine z_callM (As := [.int (nI (0))]) (st := []) (C := RX7) (T := TX7) (N := 30) (ci := 7) (l := l) B hl (c7_refused l D g h a M (nI (0))) gX7_hold_X7_refused rfl ⟨rfl, rfl⟩ nm_X7_refused ⟨by decide, by decide⟩ 0 rfl rfl rfl (Nat.le_of_ble_eq_true rfl) dX7_hold_116 rfl rfl (by decide) (by decide) (fun r w1 hr => ?_)
              obtain ⟨hr1, rfl⟩ := hr
              rw [bI_f (show ¬ ¬ nI (0) = 0 by decide)] at hr1
              obtain rfl : r = nI 0 := hr1
              refine z_if_eq B 124 dX7_hold_119 (by decide) (fun _ => ?_) (fun h => absurd h (by decide))
              refine z_aload_n B 3 dX7_hold_124 rfl rfl ?_
              refine z_get (C := RX7) (T := TX7) (N := 30) (v := .ref (a 26)) B 0 26 3 fw_X7_hold_X7 rfl rfl (by decide) rfl rfl rfl dX7_hold_125 ?_
              refine z_aload_n B 3 dX7_hold_128 rfl rfl ?_
              refine z_get (C := RX7) (T := TX7) (N := 30) (v := .int (M 25 0)) B 0 25 2 fw_X7_hold_X7 rfl rfl (by decide) rfl rfl rfl dX7_hold_129 ?_
              refine z_top (y := nI (mH M)) (MI_25 hI) ?_
              refine z_iload_n B 4 dX7_hold_132 rfl rfl ?_
              refine z_iast (g := (M 26)) (i := mH M) (w' := wM g h a (up2 (up2 M 0 0 (nI (0))) 26 (mH M) (nI (jx)))) B 20 0 rfl rfl (by omega) (by decide) dX7_hold_133 rfl ?_
              refine z_aload_n B 3 dX7_hold_134 rfl rfl ?_
              refine z_get (C := RX7) (T := TX7) (N := 30) (v := .ref (a 27)) B 0 27 4 fw_X7_hold_X7 rfl rfl (by decide) rfl rfl rfl dX7_hold_135 ?_
              refine z_aload_n B 3 dX7_hold_138 rfl rfl ?_
              refine z_get (C := RX7) (T := TX7) (N := 30) (v := .int (M 25 0)) B 0 25 2 fw_X7_hold_X7 rfl rfl (by decide) rfl rfl rfl dX7_hold_139 ?_
              refine z_top (y := nI (mH M)) (MI_25 hI) ?_
              refine z_iload_n B 5 dX7_hold_142 rfl rfl ?_
              refine z_iast (g := (M 27)) (i := mH M) (w' := wM g h a (up2 (up2 (up2 M 0 0 (nI (0))) 26 (mH M) (nI (jx))) 27 (mH M) (nI (jy)))) B 21 0 rfl rfl (by omega) (by decide) dX7_hold_143 rfl ?_
              refine z_aload_n B 3 dX7_hold_144 rfl rfl ?_
              refine z_get (C := RX7) (T := TX7) (N := 30) (v := .ref (a 28)) B 0 28 5 fw_X7_hold_X7 rfl rfl (by decide) rfl rfl rfl dX7_hold_145 ?_
              refine z_aload_n B 3 dX7_hold_148 rfl rfl ?_
              refine z_get (C := RX7) (T := TX7) (N := 30) (v := .int (M 25 0)) B 0 25 2 fw_X7_hold_X7 rfl rfl (by decide) rfl rfl rfl dX7_hold_149 ?_
              refine z_top (y := nI (mH M)) (MI_25 hI) ?_
              refine z_iload_n B 6 dX7_hold_152 rfl rfl ?_
              refine z_iast (g := (M 28)) (i := mH M) (w' := wM g h a (up2 (up2 (up2 (up2 M 0 0 (nI (0))) 26 (mH M) (nI (jx))) 27 (mH M) (nI (jy))) 28 (mH M) (nI (jf)))) B 22 0 rfl rfl (by omega) (by decide) dX7_hold_153 rfl ?_
              refine z_aload_n B 3 dX7_hold_154 rfl rfl ?_
              refine z_get (C := RX7) (T := TX7) (N := 30) (v := .ref (a 29)) B 0 29 6 fw_X7_hold_X7 rfl rfl (by decide) rfl rfl rfl dX7_hold_155 ?_
              refine z_aload_n B 3 dX7_hold_158 rfl rfl ?_
              refine z_get (C := RX7) (T := TX7) (N := 30) (v := .int (M 25 0)) B 0 25 2 fw_X7_hold_X7 rfl rfl (by decide) rfl rfl rfl dX7_hold_159 ?_
              refine z_top (y := nI (mH M)) (MI_25 hI) ?_
              refine z_iload B 7 dX7_hold_162 rfl ?_
              refine z_iast (g := (M 29)) (i := mH M) (w' := wM g h a (up2 (up2 (up2 (up2 (up2 M 0 0 (nI (0))) 26 (mH M) (nI (jx))) 27 (mH M) (nI (jy))) 28 (mH M) (nI (jf))) 29 (mH M) t)) B 23 0 rfl rfl (by omega) (by decide) dX7_hold_164 rfl ?_
              refine z_aload_n B 3 dX7_hold_165 rfl rfl ?_
              refine z_dup B dX7_hold_166 rfl ?_
              refine z_get (C := RX7) (T := TX7) (N := 30) (v := .int (M 25 0)) B 0 25 2 fw_X7_hold_X7 rfl rfl (by decide) rfl rfl rfl dX7_hold_167 ?_
              refine z_top (y := nI (mH M)) (MI_25 hI) ?_
              refine z_iconst (v := nI 1) B dX7_hold_170 (by decide) ?_
              refine z_iaddN B dX7_hold_171 ?_
              refine z_put (C := RX7) (T := TX7) (N := 30) (w' := wM g h a (up2 (up2 (up2 (up2 (up2 (up2 M 0 0 (nI (0))) 26 (mH M) (nI (jx))) 27 (mH M) (nI (jy))) 28 (mH M) (nI (jf))) 29 (mH M) t) 25 0 (nI (mH M + 1)))) B 0 25 2 fw_X7_hold_X7 tyX7 tyX7_ok nmX7 rfl rfl (by decide) rfl rfl rfl rfl rfl (Nat.le_of_ble_eq_true rfl) dX7_hold_172 rfl ?_
              refine z_iconst (v := nI 0) B dX7_hold_175 (by decide) ?_
              refine z_istore (lv1 := [(8, .int (nI (0))), (7, .int (nI (1))), (6, .int (nI (1))), (5, .int (nI (1))), (0, .ref (h)), (1, .int (nI (jx))), (2, .int (nI (jy))), (3, .int (nI (jf))), (4, .int (t))]) B dX7_hold_176 (by decide) rfl ?_
              refine z_iconst (v := nI 0) B dX7_hold_178 (by decide) ?_
              refine z_istore (lv1 := [(9, .int (nI (0))), (8, .int (nI (0))), (7, .int (nI (1))), (6, .int (nI (1))), (5, .int (nI (1))), (0, .ref (h)), (1, .int (nI (jx))), (2, .int (nI (jy))), (3, .int (nI (jf))), (4, .int (t))]) B dX7_hold_179 (by decide) rfl ?_
              have loop181 : ∀ (n0 i : Nat), i ≤ mP M → mP M + 1 ≤ i + n0 → zJ X 10 (zI1 D A (zs X)) Q (wM g h a (hoM M (nI (jx)) (nI (jy)) (nI (jf)) t)) 0 0 [(0, .ref (h)), (1, .int (nI (jx))), (2, .int (nI (jy))), (3, .int (nI (jf))), (4, .int (t)), (5, .int (nI (1))), (6, .int (nI (1))), (7, .int (nI (1))), (8, .int (nI (zcnt (fun p => pRe (hoM M (nI (jx)) (nI (jy)) (nI (jf)) t) (nI (jx)) p) i))), (9, .int (nI (i)))] 181 [] := by
                intro n181
                induction n181 with
                | zero => intro i h1 h2; exact absurd h2 (by omega)
                | succ n181 ih181 =>
                  intro i hle181 hn181
                  refine z_iload B 9 dX7_hold_181 rfl ?_
                  refine z_aload_n B 0 dX7_hold_183 rfl rfl ?_
                  refine z_get (C := RX7) (T := TX7) (N := 30) (v := .int (M 5 0)) B 0 5 7 fw_X7_hold_X7 rfl rfl (by decide) rfl rfl rfl dX7_hold_184 ?_
                  refine z_top (y := nI (mP M)) (MI_5 hI) ?_
                  refine z_icmpN_ge B 216 dX7_hold_187 (by decide) (by omega) (by omega) (fun zc187 => ?_) (fun zc187 => ?_)
                  · obtain rfl : i = mP M := by omega
                    refine z_iload B 8 dX7_hold_216 rfl ?_
                    subst hQ
                    exact z_mret B hAe hr dX7_hold_218 rfl (by decide) (by decide) (by refine ⟨_, rfl, ?_⟩; rw [nN_nI (show jx < 2 ^ 31 by omega)]; refine ⟨?_, ?_, ?_, ?_, ?_, ?_, ?_⟩ <;> intros <;> first | contradiction | rfl | exact ⟨rfl, rfl⟩ | omega  | exact ⟨bI_1 (by assumption), rfl⟩ | exact ⟨bI_z (by assumption), rfl⟩)
                  · refine z_iload B 8 dX7_hold_190 rfl ?_
                    refine z_aload_n B 0 dX7_hold_192 rfl rfl ?_
                    refine z_iload_n B 1 dX7_hold_193 rfl rfl ?_
                    refine z_iload B 9 dX7_hold_194 rfl ?_
                    refine z_callP (As := [.int (nI (jx)), .int (nI (i))]) (st := [.int (nI (zcnt (fun p => pRe (hoM M (nI (jx)) (nI (jy)) (nI (jf)) t) (nI (jx)) p) i))]) (C := RX7) (T := TX7) (N := 30) (ci := 7) (l := l) B hl (c7_reaches l D g h a (hoM M (nI (jx)) (nI (jy)) (nI (jf)) t) (MI_ho hI (by omega)) (nI (jx)) i (by omega)) gX7_hold_X7_reaches rfl ⟨rfl, rfl⟩ nm_X7_reaches ⟨by decide, by decide⟩ (fun _ h => h) 0 rfl rfl rfl (Nat.le_of_ble_eq_true rfl) dX7_hold_196 (Nat.zero_le _) (Nat.zero_le _) (fun r hr => ?_)
                    subst hr
                    refine z_ifB_eq B 206 dX7_hold_199 (by decide) (fun zc199 => ?_) (fun zc199 => ?_)
                    · refine z_iconst (v := nI 0) B dX7_hold_206 (by decide) ?_
                      refine z_iaddN B dX7_hold_207 ?_
                      refine z_istore (lv1 := [(8, .int (nI (zcnt (fun p => pRe (hoM M (nI (jx)) (nI (jy)) (nI (jf)) t) (nI (jx)) p) i + 0))), (0, .ref (h)), (1, .int (nI (jx))), (2, .int (nI (jy))), (3, .int (nI (jf))), (4, .int (t)), (5, .int (nI (1))), (6, .int (nI (1))), (7, .int (nI (1))), (9, .int (nI (i)))]) B dX7_hold_208 (by decide) rfl ?_
                      refine z_iinc B 9 (lv1 := [(9, .int (nI (i + 1))), (8, .int (nI (zcnt (fun p => pRe (hoM M (nI (jx)) (nI (jy)) (nI (jf)) t) (nI (jx)) p) i + 0))), (0, .ref (h)), (1, .int (nI (jx))), (2, .int (nI (jy))), (3, .int (nI (jf))), (4, .int (t)), (5, .int (nI (1))), (6, .int (nI (1))), (7, .int (nI (1)))]) dX7_hold_210 rfl (nI_1 _) (by decide) rfl ?_
                      refine z_goto B 181 dX7_hold_213 (by decide) ?_
                      refine z_loc [2, 3, 4, 5, 6, 7, 8, 9, 1, 0] (lv' := [(0, .ref (h)), (1, .int (nI (jx))), (2, .int (nI (jy))), (3, .int (nI (jf))), (4, .int (t)), (5, .int (nI (1))), (6, .int (nI (1))), (7, .int (nI (1))), (8, .int (nI (zcnt (fun p => pRe (hoM M (nI (jx)) (nI (jy)) (nI (jf)) t) (nI (jx)) p) i + 0))), (9, .int (nI (i + 1)))]) rfl ?_
                      refine z_lvc (lv' := [(0, .ref (h)), (1, .int (nI (jx))), (2, .int (nI (jy))), (3, .int (nI (jf))), (4, .int (t)), (5, .int (nI (1))), (6, .int (nI (1))), (7, .int (nI (1))), (8, .int (nI (zcnt (fun p => pRe (hoM M (nI (jx)) (nI (jy)) (nI (jf)) t) (nI (jx)) p) (i + 1)))), (9, .int (nI ((i + 1))))]) (by first | (rw [zcnt_y (P := fun p => pRe (hoM M (nI (jx)) (nI (jy)) (nI (jf)) t) (nI (jx)) p) zc199] <;> rfl) | (rw [← zcnt_n (P := fun p => pRe (hoM M (nI (jx)) (nI (jy)) (nI (jf)) t) (nI (jx)) p) zc199] <;> rfl)) ?_
                      exact ih181 (i + 1) (by omega) (by omega)
                    · refine z_iconst (v := nI 1) B dX7_hold_202 (by decide) ?_
                      refine z_goto B 207 dX7_hold_203 (by decide) ?_
                      refine z_iaddN B dX7_hold_207 ?_
                      refine z_istore (lv1 := [(8, .int (nI (zcnt (fun p => pRe (hoM M (nI (jx)) (nI (jy)) (nI (jf)) t) (nI (jx)) p) i + 1))), (0, .ref (h)), (1, .int (nI (jx))), (2, .int (nI (jy))), (3, .int (nI (jf))), (4, .int (t)), (5, .int (nI (1))), (6, .int (nI (1))), (7, .int (nI (1))), (9, .int (nI (i)))]) B dX7_hold_208 (by decide) rfl ?_
                      refine z_iinc B 9 (lv1 := [(9, .int (nI (i + 1))), (8, .int (nI (zcnt (fun p => pRe (hoM M (nI (jx)) (nI (jy)) (nI (jf)) t) (nI (jx)) p) i + 1))), (0, .ref (h)), (1, .int (nI (jx))), (2, .int (nI (jy))), (3, .int (nI (jf))), (4, .int (t)), (5, .int (nI (1))), (6, .int (nI (1))), (7, .int (nI (1)))]) dX7_hold_210 rfl (nI_1 _) (by decide) rfl ?_
                      refine z_goto B 181 dX7_hold_213 (by decide) ?_
                      refine z_loc [2, 3, 4, 5, 6, 7, 8, 9, 1, 0] (lv' := [(0, .ref (h)), (1, .int (nI (jx))), (2, .int (nI (jy))), (3, .int (nI (jf))), (4, .int (t)), (5, .int (nI (1))), (6, .int (nI (1))), (7, .int (nI (1))), (8, .int (nI (zcnt (fun p => pRe (hoM M (nI (jx)) (nI (jy)) (nI (jf)) t) (nI (jx)) p) i + 1))), (9, .int (nI (i + 1)))]) rfl ?_
                      refine z_lvc (lv' := [(0, .ref (h)), (1, .int (nI (jx))), (2, .int (nI (jy))), (3, .int (nI (jf))), (4, .int (t)), (5, .int (nI (1))), (6, .int (nI (1))), (7, .int (nI (1))), (8, .int (nI (zcnt (fun p => pRe (hoM M (nI (jx)) (nI (jy)) (nI (jf)) t) (nI (jx)) p) (i + 1)))), (9, .int (nI ((i + 1))))]) (by first | (rw [zcnt_y (P := fun p => pRe (hoM M (nI (jx)) (nI (jy)) (nI (jf)) t) (nI (jx)) p) zc199] <;> rfl) | (rw [← zcnt_n (P := fun p => pRe (hoM M (nI (jx)) (nI (jy)) (nI (jf)) t) (nI (jx)) p) zc199] <;> rfl)) ?_
                      exact ih181 (i + 1) (by omega) (by omega)
              refine z_loc [5, 6, 7, 8, 9, 4, 3, 2, 1, 0] (lv' := [(0, .ref (h)), (1, .int (nI (jx))), (2, .int (nI (jy))), (3, .int (nI (jf))), (4, .int (t)), (5, .int (nI (1))), (6, .int (nI (1))), (7, .int (nI (1))), (8, .int (nI (0))), (9, .int (nI (0)))]) rfl ?_
              refine z_lvc (lv' := [(0, .ref (h)), (1, .int (nI (jx))), (2, .int (nI (jy))), (3, .int (nI (jf))), (4, .int (t)), (5, .int (nI (1))), (6, .int (nI (1))), (7, .int (nI (1))), (8, .int (nI (zcnt (fun p => pRe (hoM M (nI (jx)) (nI (jy)) (nI (jf)) t) (nI (jx)) p) 0))), (9, .int (nI (0)))]) (by rfl) ?_
              refine z_w (w' := wM g h a (hoM M (nI (jx)) (nI (jy)) (nI (jf)) t)) (by rfl) ?_
              exact loop181 (mP M + 1) 0 (by omega) (by omega)
theorem fw_X7_strike_X7 : zF wsX7_strike RX7 TX7 30 := fun _ h => List.mem_cons_of_mem _ (List.mem_append_right _ (h))
set_option maxHeartbeats 4000000 in
set_option maxRecDepth 100000 in
theorem c7_strike (l : Launch) (D : va_G) (g : zG) (h : Nat) (a : Nat → Nat) (M : zMS) (hI : MI M) (x : Int32) (y : Int32) : zMutI l yX7_strike wsX7_strike { frames := 4, cells := 0, slots := 0, locals := 92 } D (zT g) (wM g h a M) [.ref h, .int (x), .int (y)] (fun r w' => ∃ M', w' = wM g h a M' ∧ (¬ rng x (mK M) → M' = up2 M 0 0 (nI 1)) ∧ (rng x (mK M) → ¬ rng y (mP M) → M' = up2 M 0 0 (nI 1)) ∧ (rng x (mK M) → rng y (mP M) → ¬ pMay M (nN x) (nN y) → M' = up2 M 0 0 (nI 2)) ∧ (rng x (mK M) → rng y (mP M) → pMay M (nN x) (nN y) → r = nI (zcnt (fun k => M 19 k = 0 ∧ pSt (skN (up2 M 0 0 (nI 0)) (nN y) (k + 1)) k (nN y)) (mC M)) ∧ M' = skN (up2 M 0 0 (nI 0)) (nN y) (mC M))) 0 0 := by
  refine zMutI_of (cc := cX7_strike) (maxL := 6) (ret := (some .int)) (own := RX7) [(0, .ref (h)), (1, .int (x)), (2, .int (y))] (by decide) rfl rfl rfl (Nat.le_of_ble_eq_true rfl) ?_
  intro X A hAe hl B hr hin
  obtain ⟨b5, b2, b15, b23, b25, b1⟩ := MI_bs hI
  generalize hQ : (zQe X (va_Qi (fun r w' => ∃ M', w' = wM g h a M' ∧ (¬ rng x (mK M) → M' = up2 M 0 0 (nI 1)) ∧ (rng x (mK M) → ¬ rng y (mP M) → M' = up2 M 0 0 (nI 1)) ∧ (rng x (mK M) → rng y (mP M) → ¬ pMay M (nN x) (nN y) → M' = up2 M 0 0 (nI 2)) ∧ (rng x (mK M) → rng y (mP M) → pMay M (nN x) (nN y) → r = nI (zcnt (fun k => M 19 k = 0 ∧ pSt (skN (up2 M 0 0 (nI 0)) (nN y) (k + 1)) k (nN y)) (mC M)) ∧ M' = skN (up2 M 0 0 (nI 0)) (nN y) (mC M))) (zEnd D (zT g) (wM g h a M) (zs X).heap.size) A) 0 0 A) = Q
  refine z_aload_n B 0 dX7_strike_0 rfl rfl ?_
  refine z_iload_n B 1 dX7_strike_1 rfl rfl ?_
  refine z_callP (As := [.int (x)]) (st := []) (C := RX7) (T := TX7) (N := 30) (ci := 7) (l := l) B hl (c7_isCase l D g h a M hI x) gX7_strike_X7_isCase rfl ⟨rfl, rfl⟩ nm_X7_isCase ⟨by decide, by decide⟩ (fun _ h => h) 0 rfl rfl rfl (Nat.le_of_ble_eq_true rfl) dX7_strike_2 (Nat.zero_le _) (Nat.zero_le _) (fun r hr => ?_)
  subst hr
  refine z_ifB_eq B 20 dX7_strike_5 (by decide) (fun zc5 => ?_) (fun zc5 => ?_)
  · refine z_iconst (v := nI 0) B dX7_strike_20 (by decide) ?_
    refine z_istore_n (lv1 := [(3, .int (nI (0))), (0, .ref (h)), (1, .int (x)), (2, .int (y))]) B dX7_strike_21 rfl (by decide) rfl ?_
    refine z_aload_n B 1 dX7_strike_22 rfl rfl ?_
    refine z_iload_n B 0 dX7_strike_23 rfl rfl ?_
    refine z_if_ne B 31 dX7_strike_24 (by decide) (fun h => absurd h (by decide)) (fun _ => ?_)
    refine z_iconst (v := nI 1) B dX7_strike_27 (by decide) ?_
    refine z_goto B 45 dX7_strike_28 (by decide) ?_
    refine z_callM (As := [.int (nI (1))]) (st := []) (C := RX7) (T := TX7) (N := 30) (ci := 7) (l := l) B hl (c7_refused l D g h a M (nI (1))) gX7_strike_X7_refused rfl ⟨rfl, rfl⟩ nm_X7_refused ⟨by decide, by decide⟩ 0 rfl rfl rfl (Nat.le_of_ble_eq_true rfl) dX7_strike_45 rfl rfl (by decide) (by decide) (fun r w1 hr => ?_)
    obtain ⟨hr1, rfl⟩ := hr
    rw [bI_t (show ¬ nI (1) = 0 by decide)] at hr1
    obtain rfl : r = nI 1 := hr1
    refine z_if_eq B 53 dX7_strike_48 (by decide) (fun h => absurd h (by decide)) (fun _ => ?_)
    refine z_iconst (v := nI 0) B dX7_strike_51 (by decide) ?_
    subst hQ
    exact z_mret B hAe hr dX7_strike_52 rfl (by decide) (by decide) (by refine ⟨_, rfl, ?_⟩; refine ⟨?_, ?_, ?_, ?_⟩ <;> intros <;> first | contradiction | rfl | exact ⟨rfl, rfl⟩ | omega  | exact ⟨bI_1 (by assumption), rfl⟩ | exact ⟨bI_z (by assumption), rfl⟩)
  · have zkc5 := zc5
    obtain ⟨jx, hjx, rfl⟩ := zc5
    refine z_aload_n B 0 dX7_strike_8 rfl rfl ?_
    refine z_iload_n B 2 dX7_strike_9 rfl rfl ?_
    refine z_callP (As := [.int (y)]) (st := []) (C := RX7) (T := TX7) (N := 30) (ci := 7) (l := l) B hl (c7_isPage l D g h a M hI y) gX7_strike_X7_isPage rfl ⟨rfl, rfl⟩ nm_X7_isPage ⟨by decide, by decide⟩ (fun _ h => h) 0 rfl rfl rfl (Nat.le_of_ble_eq_true rfl) dX7_strike_10 (Nat.zero_le _) (Nat.zero_le _) (fun r hr => ?_)
    subst hr
    refine z_ifB_eq B 20 dX7_strike_13 (by decide) (fun zc13 => ?_) (fun zc13 => ?_)
    · refine z_iconst (v := nI 0) B dX7_strike_20 (by decide) ?_
      refine z_istore_n (lv1 := [(3, .int (nI (0))), (0, .ref (h)), (1, .int (nI (jx))), (2, .int (y))]) B dX7_strike_21 rfl (by decide) rfl ?_
      refine z_aload_n B 1 dX7_strike_22 rfl rfl ?_
      refine z_iload_n B 0 dX7_strike_23 rfl rfl ?_
      refine z_if_ne B 31 dX7_strike_24 (by decide) (fun h => absurd h (by decide)) (fun _ => ?_)
      refine z_iconst (v := nI 1) B dX7_strike_27 (by decide) ?_
      refine z_goto B 45 dX7_strike_28 (by decide) ?_
      refine z_callM (As := [.int (nI (1))]) (st := []) (C := RX7) (T := TX7) (N := 30) (ci := 7) (l := l) B hl (c7_refused l D g h a M (nI (1))) gX7_strike_X7_refused rfl ⟨rfl, rfl⟩ nm_X7_refused ⟨by decide, by decide⟩ 0 rfl rfl rfl (Nat.le_of_ble_eq_true rfl) dX7_strike_45 rfl rfl (by decide) (by decide) (fun r w1 hr => ?_)
      obtain ⟨hr1, rfl⟩ := hr
      rw [bI_t (show ¬ nI (1) = 0 by decide)] at hr1
      obtain rfl : r = nI 1 := hr1
      refine z_if_eq B 53 dX7_strike_48 (by decide) (fun h => absurd h (by decide)) (fun _ => ?_)
      refine z_iconst (v := nI 0) B dX7_strike_51 (by decide) ?_
      subst hQ
      exact z_mret B hAe hr dX7_strike_52 rfl (by decide) (by decide) (by refine ⟨_, rfl, ?_⟩; rw [nN_nI (show jx < 2 ^ 31 by omega)]; refine ⟨?_, ?_, ?_, ?_⟩ <;> intros <;> first | contradiction | rfl | exact ⟨rfl, rfl⟩ | omega  | exact ⟨bI_1 (by assumption), rfl⟩ | exact ⟨bI_z (by assumption), rfl⟩)
    · have zkc13 := zc13
      obtain ⟨jy, hjy, rfl⟩ := zc13
      refine z_iconst (v := nI 1) B dX7_strike_16 (by decide) ?_
      refine z_goto B 21 dX7_strike_17 (by decide) ?_
      refine z_istore_n (lv1 := [(3, .int (nI (1))), (0, .ref (h)), (1, .int (nI (jx))), (2, .int (nI (jy)))]) B dX7_strike_21 rfl (by decide) rfl ?_
      refine z_aload_n B 1 dX7_strike_22 rfl rfl ?_
      refine z_iload_n B 0 dX7_strike_23 rfl rfl ?_
      refine z_if_ne B 31 dX7_strike_24 (by decide) (fun _ => ?_) (fun h => absurd h (by decide))
      refine z_aload_n B 1 dX7_strike_31 rfl rfl ?_
      refine z_iload_n B 2 dX7_strike_32 rfl rfl ?_
      refine z_iload_n B 3 dX7_strike_33 rfl rfl ?_
      refine z_callP (As := [.int (nI (jx)), .int (nI (jy))]) (st := [.ref (h)]) (C := RX7) (T := TX7) (N := 30) (ci := 7) (l := l) B hl (c7_may l D g h a M hI jx (by omega) jy (by omega)) gX7_strike_X7_may rfl ⟨rfl, rfl⟩ nm_X7_may ⟨by decide, by decide⟩ (fun _ h => h) 0 rfl rfl rfl (Nat.le_of_ble_eq_true rfl) dX7_strike_34 (Nat.zero_le _) (Nat.zero_le _) (fun r hr => ?_)
      subst hr
      refine z_ifB_eq B 44 dX7_strike_37 (by decide) (fun zc37 => ?_) (fun zc37 => ?_)
      · refine z_iconst (v := nI 2) B dX7_strike_44 (by decide) ?_
        refine z_callM (As := [.int (nI (2))]) (st := []) (C := RX7) (T := TX7) (N := 30) (ci := 7) (l := l) B hl (c7_refused l D g h a M (nI (2))) gX7_strike_X7_refused rfl ⟨rfl, rfl⟩ nm_X7_refused ⟨by decide, by decide⟩ 0 rfl rfl rfl (Nat.le_of_ble_eq_true rfl) dX7_strike_45 rfl rfl (by decide) (by decide) (fun r w1 hr => ?_)
        obtain ⟨hr1, rfl⟩ := hr
        rw [bI_t (show ¬ nI (2) = 0 by decide)] at hr1
        obtain rfl : r = nI 1 := hr1
        refine z_if_eq B 53 dX7_strike_48 (by decide) (fun h => absurd h (by decide)) (fun _ => ?_)
        refine z_iconst (v := nI 0) B dX7_strike_51 (by decide) ?_
        subst hQ
        exact z_mret B hAe hr dX7_strike_52 rfl (by decide) (by decide) (by refine ⟨_, rfl, ?_⟩; rw [nN_nI (show jx < 2 ^ 31 by omega)]; rw [nN_nI (show jy < 2 ^ 31 by omega)]; refine ⟨?_, ?_, ?_, ?_⟩ <;> intros <;> first | contradiction | rfl | exact ⟨rfl, rfl⟩ | omega  | exact ⟨bI_1 (by assumption), rfl⟩ | exact ⟨bI_z (by assumption), rfl⟩)
      · refine z_iconst (v := nI 0) B dX7_strike_40 (by decide) ?_
        refine z_goto B 45 dX7_strike_41 (by decide) ?_
        refine z_callM (As := [.int (nI (0))]) (st := []) (C := RX7) (T := TX7) (N := 30) (ci := 7) (l := l) B hl (c7_refused l D g h a M (nI (0))) gX7_strike_X7_refused rfl ⟨rfl, rfl⟩ nm_X7_refused ⟨by decide, by decide⟩ 0 rfl rfl rfl (Nat.le_of_ble_eq_true rfl) dX7_strike_45 rfl rfl (by decide) (by decide) (fun r w1 hr => ?_)
        obtain ⟨hr1, rfl⟩ := hr
        rw [bI_f (show ¬ ¬ nI (0) = 0 by decide)] at hr1
        obtain rfl : r = nI 0 := hr1
        refine z_if_eq B 53 dX7_strike_48 (by decide) (fun _ => ?_) (fun h => absurd h (by decide))
        refine z_aload_n B 1 dX7_strike_53 rfl rfl ?_
        refine z_get (C := RX7) (T := TX7) (N := 30) (v := .ref (a 12)) B 0 12 1 fw_X7_strike_X7 rfl rfl (by decide) rfl rfl rfl dX7_strike_54 ?_
        refine z_iload_n B 3 dX7_strike_57 rfl rfl ?_
        refine z_iconst (v := nI 2) B dX7_strike_58 (by decide) ?_
        refine z_iast (g := (M 12)) (i := jy) (w' := wM g h a (up2 (up2 M 0 0 (nI (0))) 12 jy (nI (2)))) B 9 0 rfl rfl (by omega) (by decide) dX7_strike_59 rfl ?_
        refine z_iconst (v := nI 0) B dX7_strike_60 (by decide) ?_
        refine z_istore (lv1 := [(4, .int (nI (0))), (3, .int (nI (1))), (0, .ref (h)), (1, .int (nI (jx))), (2, .int (nI (jy)))]) B dX7_strike_61 (by decide) rfl ?_
        refine z_iconst (v := nI 0) B dX7_strike_63 (by decide) ?_
        refine z_istore (lv1 := [(5, .int (nI (0))), (4, .int (nI (0))), (3, .int (nI (1))), (0, .ref (h)), (1, .int (nI (jx))), (2, .int (nI (jy)))]) B dX7_strike_64 (by decide) rfl ?_
        have loop66 : ∀ (n0 i : Nat), i ≤ mC M → mC M + 1 ≤ i + n0 → zJ X 6 (zI1 D A (zs X)) Q (wM g h a (skN (up2 M 0 0 (nI (0))) jy i)) 0 0 [(0, .ref (h)), (1, .int (nI (jx))), (2, .int (nI (jy))), (3, .int (nI (1))), (4, .int (nI (zcnt (fun k => M 19 k = 0 ∧ pSt (skN (up2 M 0 0 (nI (0))) jy (k + 1)) k jy) i))), (5, .int (nI (i)))] 66 [] := by
          intro n66
          induction n66 with
          | zero => intro i h1 h2; exact absurd h2 (by omega)
          | succ n66 ih66 =>
            intro i hle66 hn66
            refine z_iload B 5 dX7_strike_66 rfl ?_
            refine z_aload_n B 0 dX7_strike_68 rfl rfl ?_
            refine z_get (C := RX7) (T := TX7) (N := 30) (v := .int ((skN (up2 M 0 0 (nI (0))) jy i) 15 0)) B 0 15 2 fw_X7_strike_X7 rfl rfl (by decide) rfl rfl rfl dX7_strike_69 ?_
            refine z_top (y := nI (mC M)) ((congrFun (skN_k (up2 M 0 0 (nI (0))) jy (k := 15) (by decide) i) 0).trans (MI_15 (M := M) hI)) ?_
            refine z_icmpN_ge B 144 dX7_strike_72 (by decide) (by omega) (by omega) (fun zc72 => ?_) (fun zc72 => ?_)
            · obtain rfl : i = mC M := by omega
              refine z_iload B 4 dX7_strike_144 rfl ?_
              subst hQ
              exact z_mret B hAe hr dX7_strike_146 rfl (by decide) (by decide) (by refine ⟨_, rfl, ?_⟩; rw [nN_nI (show jx < 2 ^ 31 by omega)]; rw [nN_nI (show jy < 2 ^ 31 by omega)]; refine ⟨?_, ?_, ?_, ?_⟩ <;> intros <;> first | contradiction | rfl | exact ⟨rfl, rfl⟩ | omega  | exact ⟨bI_1 (by assumption), rfl⟩ | exact ⟨bI_z (by assumption), rfl⟩)
            · refine z_aload_n B 0 dX7_strike_75 rfl rfl ?_
              refine z_get (C := RX7) (T := TX7) (N := 30) (v := .ref (a 20)) B 0 20 3 fw_X7_strike_X7 rfl rfl (by decide) rfl rfl rfl dX7_strike_76 ?_
              refine z_iload B 5 dX7_strike_79 rfl ?_
              refine z_zald (g := ((skN (up2 M 0 0 (nI (0))) jy i) 20)) (i := i) B 16 1 rfl rfl (by omega) (by decide) dX7_strike_81 ?_
              refine z_top (y := M 20 i) (congrFun (skN_k (up2 M 0 0 (nI (0))) jy (k := 20) (by decide) i) _) ?_
              refine z_if_ne B 108 dX7_strike_82 (by decide) (fun zc82 => ?_) (fun zc82 => ?_)
              · refine z_w (w' := wM g h a (skN (up2 M 0 0 (nI (0))) jy (i + 1))) (by first | exact congrArg (wM g h a) (skN_y (M := up2 M 0 0 (nI (0))) ⟨zc82, zc92⟩) | exact congrArg (wM g h a) (skN_n (M := up2 M 0 0 (nI (0))) (by omega) (fun q => zc82 q.1)) | exact congrArg (wM g h a) (skN_n (M := up2 M 0 0 (nI (0))) (by omega) (fun q => zc92 q.2))) ?_
                refine z_iload B 4 dX7_strike_108 rfl ?_
                refine z_aload_n B 0 dX7_strike_110 rfl rfl ?_
                refine z_get (C := RX7) (T := TX7) (N := 30) (v := .ref (a 19)) B 0 19 5 fw_X7_strike_X7 rfl rfl (by decide) rfl rfl rfl dX7_strike_111 ?_
                refine z_iload B 5 dX7_strike_114 rfl ?_
                refine z_zald (g := ((skN (up2 M 0 0 (nI (0))) jy (i + 1)) 19)) (i := i) B 15 1 rfl rfl (by omega) (by decide) dX7_strike_116 ?_
                refine z_top (y := M 19 i) (congrFun (skN_k (up2 M 0 0 (nI (0))) jy (k := 19) (by decide) (i + 1)) _) ?_
                refine z_if_ne B 134 dX7_strike_117 (by decide) (fun zc117 => ?_) (fun zc117 => ?_)
                · refine z_iconst (v := nI 0) B dX7_strike_134 (by decide) ?_
                  refine z_iaddN B dX7_strike_135 ?_
                  refine z_istore (lv1 := [(4, .int (nI (zcnt (fun k => M 19 k = 0 ∧ pSt (skN (up2 M 0 0 (nI (0))) jy (k + 1)) k jy) i + 0))), (0, .ref (h)), (1, .int (nI (jx))), (2, .int (nI (jy))), (3, .int (nI (1))), (5, .int (nI (i)))]) B dX7_strike_136 (by decide) rfl ?_
                  refine z_iinc B 5 (lv1 := [(5, .int (nI (i + 1))), (4, .int (nI (zcnt (fun k => M 19 k = 0 ∧ pSt (skN (up2 M 0 0 (nI (0))) jy (k + 1)) k jy) i + 0))), (0, .ref (h)), (1, .int (nI (jx))), (2, .int (nI (jy))), (3, .int (nI (1)))]) dX7_strike_138 rfl (nI_1 _) (by decide) rfl ?_
                  refine z_goto B 66 dX7_strike_141 (by decide) ?_
                  refine z_loc [2, 3, 4, 5, 1, 0] (lv' := [(0, .ref (h)), (1, .int (nI (jx))), (2, .int (nI (jy))), (3, .int (nI (1))), (4, .int (nI (zcnt (fun k => M 19 k = 0 ∧ pSt (skN (up2 M 0 0 (nI (0))) jy (k + 1)) k jy) i + 0))), (5, .int (nI (i + 1)))]) rfl ?_
                  refine z_lvc (lv' := [(0, .ref (h)), (1, .int (nI (jx))), (2, .int (nI (jy))), (3, .int (nI (1))), (4, .int (nI (zcnt (fun k => M 19 k = 0 ∧ pSt (skN (up2 M 0 0 (nI (0))) jy (k + 1)) k jy) (i + 1)))), (5, .int (nI ((i + 1))))]) (by first | (rw [zcnt_y (P := fun k => M 19 k = 0 ∧ pSt (skN (up2 M 0 0 (nI (0))) jy (k + 1)) k jy) ⟨zc117, zc127⟩] <;> rfl) | (rw [← zcnt_n (P := fun k => M 19 k = 0 ∧ pSt (skN (up2 M 0 0 (nI (0))) jy (k + 1)) k jy) (fun h => zc117 h.1)] <;> rfl) | (rw [← zcnt_n (P := fun k => M 19 k = 0 ∧ pSt (skN (up2 M 0 0 (nI (0))) jy (k + 1)) k jy) (fun h => zc127 h.2)] <;> rfl)) ?_
                  exact ih66 (i + 1) (by omega) (by omega)
                · refine z_aload_n B 0 dX7_strike_120 rfl rfl ?_
                  refine z_iload B 5 dX7_strike_121 rfl ?_
                  refine z_iload_n B 2 dX7_strike_123 rfl rfl ?_
                  refine z_callP (As := [.int (nI (i)), .int (nI (jy))]) (st := [.int (nI (zcnt (fun k => M 19 k = 0 ∧ pSt (skN (up2 M 0 0 (nI (0))) jy (k + 1)) k jy) i))]) (C := RX7) (T := TX7) (N := 30) (ci := 7) (l := l) B hl (c7_standsIn l D g h a (skN (up2 M 0 0 (nI (0))) jy (i + 1)) (MI_skN (MI_up0 hI) (i + 1)) i (by omega) jy (by omega)) gX7_strike_X7_standsIn rfl ⟨rfl, rfl⟩ nm_X7_standsIn ⟨by decide, by decide⟩ (fun _ h => h) 0 rfl rfl rfl (Nat.le_of_ble_eq_true rfl) dX7_strike_124 (Nat.zero_le _) (Nat.zero_le _) (fun r hr => ?_)
                  subst hr
                  refine z_ifB_eq B 134 dX7_strike_127 (by decide) (fun zc127 => ?_) (fun zc127 => ?_)
                  · refine z_iconst (v := nI 0) B dX7_strike_134 (by decide) ?_
                    refine z_iaddN B dX7_strike_135 ?_
                    refine z_istore (lv1 := [(4, .int (nI (zcnt (fun k => M 19 k = 0 ∧ pSt (skN (up2 M 0 0 (nI (0))) jy (k + 1)) k jy) i + 0))), (0, .ref (h)), (1, .int (nI (jx))), (2, .int (nI (jy))), (3, .int (nI (1))), (5, .int (nI (i)))]) B dX7_strike_136 (by decide) rfl ?_
                    refine z_iinc B 5 (lv1 := [(5, .int (nI (i + 1))), (4, .int (nI (zcnt (fun k => M 19 k = 0 ∧ pSt (skN (up2 M 0 0 (nI (0))) jy (k + 1)) k jy) i + 0))), (0, .ref (h)), (1, .int (nI (jx))), (2, .int (nI (jy))), (3, .int (nI (1)))]) dX7_strike_138 rfl (nI_1 _) (by decide) rfl ?_
                    refine z_goto B 66 dX7_strike_141 (by decide) ?_
                    refine z_loc [2, 3, 4, 5, 1, 0] (lv' := [(0, .ref (h)), (1, .int (nI (jx))), (2, .int (nI (jy))), (3, .int (nI (1))), (4, .int (nI (zcnt (fun k => M 19 k = 0 ∧ pSt (skN (up2 M 0 0 (nI (0))) jy (k + 1)) k jy) i + 0))), (5, .int (nI (i + 1)))]) rfl ?_
                    refine z_lvc (lv' := [(0, .ref (h)), (1, .int (nI (jx))), (2, .int (nI (jy))), (3, .int (nI (1))), (4, .int (nI (zcnt (fun k => M 19 k = 0 ∧ pSt (skN (up2 M 0 0 (nI (0))) jy (k + 1)) k jy) (i + 1)))), (5, .int (nI ((i + 1))))]) (by first | (rw [zcnt_y (P := fun k => M 19 k = 0 ∧ pSt (skN (up2 M 0 0 (nI (0))) jy (k + 1)) k jy) ⟨zc117, zc127⟩] <;> rfl) | (rw [← zcnt_n (P := fun k => M 19 k = 0 ∧ pSt (skN (up2 M 0 0 (nI (0))) jy (k + 1)) k jy) (fun h => zc117 h.1)] <;> rfl) | (rw [← zcnt_n (P := fun k => M 19 k = 0 ∧ pSt (skN (up2 M 0 0 (nI (0))) jy (k + 1)) k jy) (fun h => zc127 h.2)] <;> rfl)) ?_
                    exact ih66 (i + 1) (by omega) (by omega)
                  · refine z_iconst (v := nI 1) B dX7_strike_130 (by decide) ?_
                    refine z_goto B 135 dX7_strike_131 (by decide) ?_
                    refine z_iaddN B dX7_strike_135 ?_
                    refine z_istore (lv1 := [(4, .int (nI (zcnt (fun k => M 19 k = 0 ∧ pSt (skN (up2 M 0 0 (nI (0))) jy (k + 1)) k jy) i + 1))), (0, .ref (h)), (1, .int (nI (jx))), (2, .int (nI (jy))), (3, .int (nI (1))), (5, .int (nI (i)))]) B dX7_strike_136 (by decide) rfl ?_
                    refine z_iinc B 5 (lv1 := [(5, .int (nI (i + 1))), (4, .int (nI (zcnt (fun k => M 19 k = 0 ∧ pSt (skN (up2 M 0 0 (nI (0))) jy (k + 1)) k jy) i + 1))), (0, .ref (h)), (1, .int (nI (jx))), (2, .int (nI (jy))), (3, .int (nI (1)))]) dX7_strike_138 rfl (nI_1 _) (by decide) rfl ?_
                    refine z_goto B 66 dX7_strike_141 (by decide) ?_
                    refine z_loc [2, 3, 4, 5, 1, 0] (lv' := [(0, .ref (h)), (1, .int (nI (jx))), (2, .int (nI (jy))), (3, .int (nI (1))), (4, .int (nI (zcnt (fun k => M 19 k = 0 ∧ pSt (skN (up2 M 0 0 (nI (0))) jy (k + 1)) k jy) i + 1))), (5, .int (nI (i + 1)))]) rfl ?_
                    refine z_lvc (lv' := [(0, .ref (h)), (1, .int (nI (jx))), (2, .int (nI (jy))), (3, .int (nI (1))), (4, .int (nI (zcnt (fun k => M 19 k = 0 ∧ pSt (skN (up2 M 0 0 (nI (0))) jy (k + 1)) k jy) (i + 1)))), (5, .int (nI ((i + 1))))]) (by first | (rw [zcnt_y (P := fun k => M 19 k = 0 ∧ pSt (skN (up2 M 0 0 (nI (0))) jy (k + 1)) k jy) ⟨zc117, zc127⟩] <;> rfl) | (rw [← zcnt_n (P := fun k => M 19 k = 0 ∧ pSt (skN (up2 M 0 0 (nI (0))) jy (k + 1)) k jy) (fun h => zc117 h.1)] <;> rfl) | (rw [← zcnt_n (P := fun k => M 19 k = 0 ∧ pSt (skN (up2 M 0 0 (nI (0))) jy (k + 1)) k jy) (fun h => zc127 h.2)] <;> rfl)) ?_
                    exact ih66 (i + 1) (by omega) (by omega)
              · refine z_aload_n B 0 dX7_strike_85 rfl rfl ?_
                refine z_iload B 5 dX7_strike_86 rfl ?_
                refine z_iload_n B 2 dX7_strike_88 rfl rfl ?_
                refine z_callP (As := [.int (nI (i)), .int (nI (jy))]) (st := []) (C := RX7) (T := TX7) (N := 30) (ci := 7) (l := l) B hl (c7_has l D g h a (skN (up2 M 0 0 (nI (0))) jy i) (MI_skN (MI_up0 hI) i) i (by omega) jy (by omega)) gX7_strike_X7_has rfl ⟨rfl, rfl⟩ nm_X7_has ⟨by decide, by decide⟩ (fun _ h => h) 0 rfl rfl rfl (Nat.le_of_ble_eq_true rfl) dX7_strike_89 (Nat.zero_le _) (Nat.zero_le _) (fun r hr => ?_)
                subst hr
                refine z_top (y := bI (pHas M i jy)) (by rw [skN_Has]; rfl) ?_
                refine z_ifB_eq B 108 dX7_strike_92 (by decide) (fun zc92 => ?_) (fun zc92 => ?_)
                · refine z_w (w' := wM g h a (skN (up2 M 0 0 (nI (0))) jy (i + 1))) (by first | exact congrArg (wM g h a) (skN_y (M := up2 M 0 0 (nI (0))) ⟨zc82, zc92⟩) | exact congrArg (wM g h a) (skN_n (M := up2 M 0 0 (nI (0))) (by omega) (fun q => zc82 q.1)) | exact congrArg (wM g h a) (skN_n (M := up2 M 0 0 (nI (0))) (by omega) (fun q => zc92 q.2))) ?_
                  refine z_iload B 4 dX7_strike_108 rfl ?_
                  refine z_aload_n B 0 dX7_strike_110 rfl rfl ?_
                  refine z_get (C := RX7) (T := TX7) (N := 30) (v := .ref (a 19)) B 0 19 5 fw_X7_strike_X7 rfl rfl (by decide) rfl rfl rfl dX7_strike_111 ?_
                  refine z_iload B 5 dX7_strike_114 rfl ?_
                  refine z_zald (g := ((skN (up2 M 0 0 (nI (0))) jy (i + 1)) 19)) (i := i) B 15 1 rfl rfl (by omega) (by decide) dX7_strike_116 ?_
                  refine z_top (y := M 19 i) (congrFun (skN_k (up2 M 0 0 (nI (0))) jy (k := 19) (by decide) (i + 1)) _) ?_
                  refine z_if_ne B 134 dX7_strike_117 (by decide) (fun zc117 => ?_) (fun zc117 => ?_)
                  · refine z_iconst (v := nI 0) B dX7_strike_134 (by decide) ?_
                    refine z_iaddN B dX7_strike_135 ?_
                    refine z_istore (lv1 := [(4, .int (nI (zcnt (fun k => M 19 k = 0 ∧ pSt (skN (up2 M 0 0 (nI (0))) jy (k + 1)) k jy) i + 0))), (0, .ref (h)), (1, .int (nI (jx))), (2, .int (nI (jy))), (3, .int (nI (1))), (5, .int (nI (i)))]) B dX7_strike_136 (by decide) rfl ?_
                    refine z_iinc B 5 (lv1 := [(5, .int (nI (i + 1))), (4, .int (nI (zcnt (fun k => M 19 k = 0 ∧ pSt (skN (up2 M 0 0 (nI (0))) jy (k + 1)) k jy) i + 0))), (0, .ref (h)), (1, .int (nI (jx))), (2, .int (nI (jy))), (3, .int (nI (1)))]) dX7_strike_138 rfl (nI_1 _) (by decide) rfl ?_
                    refine z_goto B 66 dX7_strike_141 (by decide) ?_
                    refine z_loc [2, 3, 4, 5, 1, 0] (lv' := [(0, .ref (h)), (1, .int (nI (jx))), (2, .int (nI (jy))), (3, .int (nI (1))), (4, .int (nI (zcnt (fun k => M 19 k = 0 ∧ pSt (skN (up2 M 0 0 (nI (0))) jy (k + 1)) k jy) i + 0))), (5, .int (nI (i + 1)))]) rfl ?_
                    refine z_lvc (lv' := [(0, .ref (h)), (1, .int (nI (jx))), (2, .int (nI (jy))), (3, .int (nI (1))), (4, .int (nI (zcnt (fun k => M 19 k = 0 ∧ pSt (skN (up2 M 0 0 (nI (0))) jy (k + 1)) k jy) (i + 1)))), (5, .int (nI ((i + 1))))]) (by first | (rw [zcnt_y (P := fun k => M 19 k = 0 ∧ pSt (skN (up2 M 0 0 (nI (0))) jy (k + 1)) k jy) ⟨zc117, zc127⟩] <;> rfl) | (rw [← zcnt_n (P := fun k => M 19 k = 0 ∧ pSt (skN (up2 M 0 0 (nI (0))) jy (k + 1)) k jy) (fun h => zc117 h.1)] <;> rfl) | (rw [← zcnt_n (P := fun k => M 19 k = 0 ∧ pSt (skN (up2 M 0 0 (nI (0))) jy (k + 1)) k jy) (fun h => zc127 h.2)] <;> rfl)) ?_
                    exact ih66 (i + 1) (by omega) (by omega)
                  · refine z_aload_n B 0 dX7_strike_120 rfl rfl ?_
                    refine z_iload B 5 dX7_strike_121 rfl ?_
                    refine z_iload_n B 2 dX7_strike_123 rfl rfl ?_
                    refine z_callP (As := [.int (nI (i)), .int (nI (jy))]) (st := [.int (nI (zcnt (fun k => M 19 k = 0 ∧ pSt (skN (up2 M 0 0 (nI (0))) jy (k + 1)) k jy) i))]) (C := RX7) (T := TX7) (N := 30) (ci := 7) (l := l) B hl (c7_standsIn l D g h a (skN (up2 M 0 0 (nI (0))) jy (i + 1)) (MI_skN (MI_up0 hI) (i + 1)) i (by omega) jy (by omega)) gX7_strike_X7_standsIn rfl ⟨rfl, rfl⟩ nm_X7_standsIn ⟨by decide, by decide⟩ (fun _ h => h) 0 rfl rfl rfl (Nat.le_of_ble_eq_true rfl) dX7_strike_124 (Nat.zero_le _) (Nat.zero_le _) (fun r hr => ?_)
                    subst hr
                    refine z_ifB_eq B 134 dX7_strike_127 (by decide) (fun zc127 => ?_) (fun zc127 => ?_)
                    · refine z_iconst (v := nI 0) B dX7_strike_134 (by decide) ?_
                      refine z_iaddN B dX7_strike_135 ?_
                      refine z_istore (lv1 := [(4, .int (nI (zcnt (fun k => M 19 k = 0 ∧ pSt (skN (up2 M 0 0 (nI (0))) jy (k + 1)) k jy) i + 0))), (0, .ref (h)), (1, .int (nI (jx))), (2, .int (nI (jy))), (3, .int (nI (1))), (5, .int (nI (i)))]) B dX7_strike_136 (by decide) rfl ?_
                      refine z_iinc B 5 (lv1 := [(5, .int (nI (i + 1))), (4, .int (nI (zcnt (fun k => M 19 k = 0 ∧ pSt (skN (up2 M 0 0 (nI (0))) jy (k + 1)) k jy) i + 0))), (0, .ref (h)), (1, .int (nI (jx))), (2, .int (nI (jy))), (3, .int (nI (1)))]) dX7_strike_138 rfl (nI_1 _) (by decide) rfl ?_
                      refine z_goto B 66 dX7_strike_141 (by decide) ?_
                      refine z_loc [2, 3, 4, 5, 1, 0] (lv' := [(0, .ref (h)), (1, .int (nI (jx))), (2, .int (nI (jy))), (3, .int (nI (1))), (4, .int (nI (zcnt (fun k => M 19 k = 0 ∧ pSt (skN (up2 M 0 0 (nI (0))) jy (k + 1)) k jy) i + 0))), (5, .int (nI (i + 1)))]) rfl ?_
                      refine z_lvc (lv' := [(0, .ref (h)), (1, .int (nI (jx))), (2, .int (nI (jy))), (3, .int (nI (1))), (4, .int (nI (zcnt (fun k => M 19 k = 0 ∧ pSt (skN (up2 M 0 0 (nI (0))) jy (k + 1)) k jy) (i + 1)))), (5, .int (nI ((i + 1))))]) (by first | (rw [zcnt_y (P := fun k => M 19 k = 0 ∧ pSt (skN (up2 M 0 0 (nI (0))) jy (k + 1)) k jy) ⟨zc117, zc127⟩] <;> rfl) | (rw [← zcnt_n (P := fun k => M 19 k = 0 ∧ pSt (skN (up2 M 0 0 (nI (0))) jy (k + 1)) k jy) (fun h => zc117 h.1)] <;> rfl) | (rw [← zcnt_n (P := fun k => M 19 k = 0 ∧ pSt (skN (up2 M 0 0 (nI (0))) jy (k + 1)) k jy) (fun h => zc127 h.2)] <;> rfl)) ?_
                      exact ih66 (i + 1) (by omega) (by omega)
                    · refine z_iconst (v := nI 1) B dX7_strike_130 (by decide) ?_
                      refine z_goto B 135 dX7_strike_131 (by decide) ?_
                      refine z_iaddN B dX7_strike_135 ?_
                      refine z_istore (lv1 := [(4, .int (nI (zcnt (fun k => M 19 k = 0 ∧ pSt (skN (up2 M 0 0 (nI (0))) jy (k + 1)) k jy) i + 1))), (0, .ref (h)), (1, .int (nI (jx))), (2, .int (nI (jy))), (3, .int (nI (1))), (5, .int (nI (i)))]) B dX7_strike_136 (by decide) rfl ?_
                      refine z_iinc B 5 (lv1 := [(5, .int (nI (i + 1))), (4, .int (nI (zcnt (fun k => M 19 k = 0 ∧ pSt (skN (up2 M 0 0 (nI (0))) jy (k + 1)) k jy) i + 1))), (0, .ref (h)), (1, .int (nI (jx))), (2, .int (nI (jy))), (3, .int (nI (1)))]) dX7_strike_138 rfl (nI_1 _) (by decide) rfl ?_
                      refine z_goto B 66 dX7_strike_141 (by decide) ?_
                      refine z_loc [2, 3, 4, 5, 1, 0] (lv' := [(0, .ref (h)), (1, .int (nI (jx))), (2, .int (nI (jy))), (3, .int (nI (1))), (4, .int (nI (zcnt (fun k => M 19 k = 0 ∧ pSt (skN (up2 M 0 0 (nI (0))) jy (k + 1)) k jy) i + 1))), (5, .int (nI (i + 1)))]) rfl ?_
                      refine z_lvc (lv' := [(0, .ref (h)), (1, .int (nI (jx))), (2, .int (nI (jy))), (3, .int (nI (1))), (4, .int (nI (zcnt (fun k => M 19 k = 0 ∧ pSt (skN (up2 M 0 0 (nI (0))) jy (k + 1)) k jy) (i + 1)))), (5, .int (nI ((i + 1))))]) (by first | (rw [zcnt_y (P := fun k => M 19 k = 0 ∧ pSt (skN (up2 M 0 0 (nI (0))) jy (k + 1)) k jy) ⟨zc117, zc127⟩] <;> rfl) | (rw [← zcnt_n (P := fun k => M 19 k = 0 ∧ pSt (skN (up2 M 0 0 (nI (0))) jy (k + 1)) k jy) (fun h => zc117 h.1)] <;> rfl) | (rw [← zcnt_n (P := fun k => M 19 k = 0 ∧ pSt (skN (up2 M 0 0 (nI (0))) jy (k + 1)) k jy) (fun h => zc127 h.2)] <;> rfl)) ?_
                      exact ih66 (i + 1) (by omega) (by omega)
                · refine z_aload_n B 0 dX7_strike_95 rfl rfl ?_
                  refine z_get (C := RX7) (T := TX7) (N := 30) (v := .ref (a 21)) B 0 21 4 fw_X7_strike_X7 rfl rfl (by decide) rfl rfl rfl dX7_strike_96 ?_
                  refine z_bipush (v := nI 80) B dX7_strike_99 (by decide) ?_
                  refine z_iload B 5 dX7_strike_101 rfl ?_
                  refine z_imulN B dX7_strike_103 ?_
                  refine z_iload_n B 2 dX7_strike_104 rfl rfl ?_
                  refine z_iaddN B dX7_strike_105 ?_
                  refine z_iconst (v := nI 0) B dX7_strike_106 (by decide) ?_
                  refine z_zast (g := ((skN (up2 M 0 0 (nI (0))) jy i) 21)) (i := 80 * i + jy) (w' := wM g h a (up2 (skN (up2 M 0 0 (nI (0))) jy i) 21 (80 * i + jy) (nI (0)))) B 17 1 rfl rfl (by omega) (by decide) (Or.inl rfl) dX7_strike_107 rfl ?_
                  refine z_w (w' := wM g h a (skN (up2 M 0 0 (nI (0))) jy (i + 1))) (by first | exact congrArg (wM g h a) (skN_y (M := up2 M 0 0 (nI (0))) ⟨zc82, zc92⟩) | exact congrArg (wM g h a) (skN_n (M := up2 M 0 0 (nI (0))) (by omega) (fun q => zc82 q.1)) | exact congrArg (wM g h a) (skN_n (M := up2 M 0 0 (nI (0))) (by omega) (fun q => zc92 q.2))) ?_
                  refine z_iload B 4 dX7_strike_108 rfl ?_
                  refine z_aload_n B 0 dX7_strike_110 rfl rfl ?_
                  refine z_get (C := RX7) (T := TX7) (N := 30) (v := .ref (a 19)) B 0 19 5 fw_X7_strike_X7 rfl rfl (by decide) rfl rfl rfl dX7_strike_111 ?_
                  refine z_iload B 5 dX7_strike_114 rfl ?_
                  refine z_zald (g := ((skN (up2 M 0 0 (nI (0))) jy (i + 1)) 19)) (i := i) B 15 1 rfl rfl (by omega) (by decide) dX7_strike_116 ?_
                  refine z_top (y := M 19 i) (congrFun (skN_k (up2 M 0 0 (nI (0))) jy (k := 19) (by decide) (i + 1)) _) ?_
                  refine z_if_ne B 134 dX7_strike_117 (by decide) (fun zc117 => ?_) (fun zc117 => ?_)
                  · refine z_iconst (v := nI 0) B dX7_strike_134 (by decide) ?_
                    refine z_iaddN B dX7_strike_135 ?_
                    refine z_istore (lv1 := [(4, .int (nI (zcnt (fun k => M 19 k = 0 ∧ pSt (skN (up2 M 0 0 (nI (0))) jy (k + 1)) k jy) i + 0))), (0, .ref (h)), (1, .int (nI (jx))), (2, .int (nI (jy))), (3, .int (nI (1))), (5, .int (nI (i)))]) B dX7_strike_136 (by decide) rfl ?_
                    refine z_iinc B 5 (lv1 := [(5, .int (nI (i + 1))), (4, .int (nI (zcnt (fun k => M 19 k = 0 ∧ pSt (skN (up2 M 0 0 (nI (0))) jy (k + 1)) k jy) i + 0))), (0, .ref (h)), (1, .int (nI (jx))), (2, .int (nI (jy))), (3, .int (nI (1)))]) dX7_strike_138 rfl (nI_1 _) (by decide) rfl ?_
                    refine z_goto B 66 dX7_strike_141 (by decide) ?_
                    refine z_loc [2, 3, 4, 5, 1, 0] (lv' := [(0, .ref (h)), (1, .int (nI (jx))), (2, .int (nI (jy))), (3, .int (nI (1))), (4, .int (nI (zcnt (fun k => M 19 k = 0 ∧ pSt (skN (up2 M 0 0 (nI (0))) jy (k + 1)) k jy) i + 0))), (5, .int (nI (i + 1)))]) rfl ?_
                    refine z_lvc (lv' := [(0, .ref (h)), (1, .int (nI (jx))), (2, .int (nI (jy))), (3, .int (nI (1))), (4, .int (nI (zcnt (fun k => M 19 k = 0 ∧ pSt (skN (up2 M 0 0 (nI (0))) jy (k + 1)) k jy) (i + 1)))), (5, .int (nI ((i + 1))))]) (by first | (rw [zcnt_y (P := fun k => M 19 k = 0 ∧ pSt (skN (up2 M 0 0 (nI (0))) jy (k + 1)) k jy) ⟨zc117, zc127⟩] <;> rfl) | (rw [← zcnt_n (P := fun k => M 19 k = 0 ∧ pSt (skN (up2 M 0 0 (nI (0))) jy (k + 1)) k jy) (fun h => zc117 h.1)] <;> rfl) | (rw [← zcnt_n (P := fun k => M 19 k = 0 ∧ pSt (skN (up2 M 0 0 (nI (0))) jy (k + 1)) k jy) (fun h => zc127 h.2)] <;> rfl)) ?_
                    exact ih66 (i + 1) (by omega) (by omega)
                  · refine z_aload_n B 0 dX7_strike_120 rfl rfl ?_
                    refine z_iload B 5 dX7_strike_121 rfl ?_
                    refine z_iload_n B 2 dX7_strike_123 rfl rfl ?_
                    refine z_callP (As := [.int (nI (i)), .int (nI (jy))]) (st := [.int (nI (zcnt (fun k => M 19 k = 0 ∧ pSt (skN (up2 M 0 0 (nI (0))) jy (k + 1)) k jy) i))]) (C := RX7) (T := TX7) (N := 30) (ci := 7) (l := l) B hl (c7_standsIn l D g h a (skN (up2 M 0 0 (nI (0))) jy (i + 1)) (MI_skN (MI_up0 hI) (i + 1)) i (by omega) jy (by omega)) gX7_strike_X7_standsIn rfl ⟨rfl, rfl⟩ nm_X7_standsIn ⟨by decide, by decide⟩ (fun _ h => h) 0 rfl rfl rfl (Nat.le_of_ble_eq_true rfl) dX7_strike_124 (Nat.zero_le _) (Nat.zero_le _) (fun r hr => ?_)
                    subst hr
                    refine z_ifB_eq B 134 dX7_strike_127 (by decide) (fun zc127 => ?_) (fun zc127 => ?_)
                    · refine z_iconst (v := nI 0) B dX7_strike_134 (by decide) ?_
                      refine z_iaddN B dX7_strike_135 ?_
                      refine z_istore (lv1 := [(4, .int (nI (zcnt (fun k => M 19 k = 0 ∧ pSt (skN (up2 M 0 0 (nI (0))) jy (k + 1)) k jy) i + 0))), (0, .ref (h)), (1, .int (nI (jx))), (2, .int (nI (jy))), (3, .int (nI (1))), (5, .int (nI (i)))]) B dX7_strike_136 (by decide) rfl ?_
                      refine z_iinc B 5 (lv1 := [(5, .int (nI (i + 1))), (4, .int (nI (zcnt (fun k => M 19 k = 0 ∧ pSt (skN (up2 M 0 0 (nI (0))) jy (k + 1)) k jy) i + 0))), (0, .ref (h)), (1, .int (nI (jx))), (2, .int (nI (jy))), (3, .int (nI (1)))]) dX7_strike_138 rfl (nI_1 _) (by decide) rfl ?_
                      refine z_goto B 66 dX7_strike_141 (by decide) ?_
                      refine z_loc [2, 3, 4, 5, 1, 0] (lv' := [(0, .ref (h)), (1, .int (nI (jx))), (2, .int (nI (jy))), (3, .int (nI (1))), (4, .int (nI (zcnt (fun k => M 19 k = 0 ∧ pSt (skN (up2 M 0 0 (nI (0))) jy (k + 1)) k jy) i + 0))), (5, .int (nI (i + 1)))]) rfl ?_
                      refine z_lvc (lv' := [(0, .ref (h)), (1, .int (nI (jx))), (2, .int (nI (jy))), (3, .int (nI (1))), (4, .int (nI (zcnt (fun k => M 19 k = 0 ∧ pSt (skN (up2 M 0 0 (nI (0))) jy (k + 1)) k jy) (i + 1)))), (5, .int (nI ((i + 1))))]) (by first | (rw [zcnt_y (P := fun k => M 19 k = 0 ∧ pSt (skN (up2 M 0 0 (nI (0))) jy (k + 1)) k jy) ⟨zc117, zc127⟩] <;> rfl) | (rw [← zcnt_n (P := fun k => M 19 k = 0 ∧ pSt (skN (up2 M 0 0 (nI (0))) jy (k + 1)) k jy) (fun h => zc117 h.1)] <;> rfl) | (rw [← zcnt_n (P := fun k => M 19 k = 0 ∧ pSt (skN (up2 M 0 0 (nI (0))) jy (k + 1)) k jy) (fun h => zc127 h.2)] <;> rfl)) ?_
                      exact ih66 (i + 1) (by omega) (by omega)
                    · refine z_iconst (v := nI 1) B dX7_strike_130 (by decide) ?_
                      refine z_goto B 135 dX7_strike_131 (by decide) ?_
                      refine z_iaddN B dX7_strike_135 ?_
                      refine z_istore (lv1 := [(4, .int (nI (zcnt (fun k => M 19 k = 0 ∧ pSt (skN (up2 M 0 0 (nI (0))) jy (k + 1)) k jy) i + 1))), (0, .ref (h)), (1, .int (nI (jx))), (2, .int (nI (jy))), (3, .int (nI (1))), (5, .int (nI (i)))]) B dX7_strike_136 (by decide) rfl ?_
                      refine z_iinc B 5 (lv1 := [(5, .int (nI (i + 1))), (4, .int (nI (zcnt (fun k => M 19 k = 0 ∧ pSt (skN (up2 M 0 0 (nI (0))) jy (k + 1)) k jy) i + 1))), (0, .ref (h)), (1, .int (nI (jx))), (2, .int (nI (jy))), (3, .int (nI (1)))]) dX7_strike_138 rfl (nI_1 _) (by decide) rfl ?_
                      refine z_goto B 66 dX7_strike_141 (by decide) ?_
                      refine z_loc [2, 3, 4, 5, 1, 0] (lv' := [(0, .ref (h)), (1, .int (nI (jx))), (2, .int (nI (jy))), (3, .int (nI (1))), (4, .int (nI (zcnt (fun k => M 19 k = 0 ∧ pSt (skN (up2 M 0 0 (nI (0))) jy (k + 1)) k jy) i + 1))), (5, .int (nI (i + 1)))]) rfl ?_
                      refine z_lvc (lv' := [(0, .ref (h)), (1, .int (nI (jx))), (2, .int (nI (jy))), (3, .int (nI (1))), (4, .int (nI (zcnt (fun k => M 19 k = 0 ∧ pSt (skN (up2 M 0 0 (nI (0))) jy (k + 1)) k jy) (i + 1)))), (5, .int (nI ((i + 1))))]) (by first | (rw [zcnt_y (P := fun k => M 19 k = 0 ∧ pSt (skN (up2 M 0 0 (nI (0))) jy (k + 1)) k jy) ⟨zc117, zc127⟩] <;> rfl) | (rw [← zcnt_n (P := fun k => M 19 k = 0 ∧ pSt (skN (up2 M 0 0 (nI (0))) jy (k + 1)) k jy) (fun h => zc117 h.1)] <;> rfl) | (rw [← zcnt_n (P := fun k => M 19 k = 0 ∧ pSt (skN (up2 M 0 0 (nI (0))) jy (k + 1)) k jy) (fun h => zc127 h.2)] <;> rfl)) ?_
                      exact ih66 (i + 1) (by omega) (by omega)
        refine z_loc [3, 4, 5, 2, 1, 0] (lv' := [(0, .ref (h)), (1, .int (nI (jx))), (2, .int (nI (jy))), (3, .int (nI (1))), (4, .int (nI (0))), (5, .int (nI (0)))]) rfl ?_
        refine z_lvc (lv' := [(0, .ref (h)), (1, .int (nI (jx))), (2, .int (nI (jy))), (3, .int (nI (1))), (4, .int (nI (zcnt (fun k => M 19 k = 0 ∧ pSt (skN (up2 M 0 0 (nI (0))) jy (k + 1)) k jy) 0))), (5, .int (nI (0)))]) (by rfl) ?_
        refine z_w (w' := wM g h a (skN (up2 M 0 0 (nI (0))) jy 0)) (by rfl) ?_
        exact loop66 (mC M + 1) 0 (by omega) (by omega)
