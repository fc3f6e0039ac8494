theorem fw_X7_has_X7 : zF wsX7_has RX7 TX7 30 := fun _ h => List.mem_cons_of_mem _ (List.mem_append_right _ (h))
set_option maxHeartbeats 4000000 in
set_option maxRecDepth 100000 in
theorem c7_has (l : Launch) (D : va_G) (g : zG) (h : Nat) (a : Nat → Nat) (M : zMS) (hI : MI M) (c : Nat) (hc : c < 16) (j : Nat) (hj : j < 80) : zPure l yX7_has wsX7_has { frames := 0, cells := 0, slots := 0, locals := 0 } D (zT g) (wM g h a M) [.ref h, .int (nI (c)), .int (nI (j))] (fun r => r = bI (pHas M c j)) := by
  refine zPure_of (cc := cX7_has) (maxL := 3) (ret := (some .boolean)) (own := RX7) [(0, .ref (h)), (1, .int (nI (c))), (2, .int (nI (j)))] (by decide) rfl rfl rfl (Nat.le_of_ble_eq_true rfl) ?_
  intro X hl B hr
  obtain ⟨b5, b2, b15, b23, b25, b1⟩ := MI_bs hI
  refine z_iload_n B 2 dX7_has_0 rfl rfl ?_
  refine z_aload_n B 0 dX7_has_1 rfl rfl ?_
  refine z_get (C := RX7) (T := TX7) (N := 30) (v := .ref (a 17)) B 0 17 1 fw_X7_has_X7 rfl rfl (by decide) rfl rfl rfl dX7_has_2 ?_
  refine z_iload_n B 1 dX7_has_5 rfl rfl ?_
  refine z_iald (g := (M 17)) (i := c) B 13 0 rfl rfl (by omega) (by decide) dX7_has_6 ?_
  refine z_top (y := nI (mF M c)) (MI_17 hI _) ?_
  have := MI_b17 hI c
  refine z_icmpN_lt B 24 dX7_has_7 (by decide) (by omega) (by omega) (fun zc7 => ?_) (fun zc7 => ?_)
  · refine z_iconst (v := nI 0) B dX7_has_24 (by decide) ?_
    exact z_pret B hr dX7_has_25 (nar_b (Or.inl rfl)) (by refine bI_z ?_; first | rintro ⟨h1, h2⟩; omega)
  · refine z_iload_n B 2 dX7_has_10 rfl rfl ?_
    refine z_aload_n B 0 dX7_has_11 rfl rfl ?_
    refine z_get (C := RX7) (T := TX7) (N := 30) (v := .ref (a 18)) B 0 18 2 fw_X7_has_X7 rfl rfl (by decide) rfl rfl rfl dX7_has_12 ?_
    refine z_iload_n B 1 dX7_has_15 rfl rfl ?_
    refine z_iald (g := (M 18)) (i := c) B 14 0 rfl rfl (by omega) (by decide) dX7_has_16 ?_
    refine z_top (y := nI (mE M c)) (MI_18 hI _) ?_
    have := MI_b18 hI c
    refine z_icmpN_ge B 24 dX7_has_17 (by decide) (by omega) (by omega) (fun zc17 => ?_) (fun zc17 => ?_)
    · refine z_iconst (v := nI 0) B dX7_has_24 (by decide) ?_
      exact z_pret B hr dX7_has_25 (nar_b (Or.inl rfl)) (by refine bI_z ?_; first | rintro ⟨h1, h2⟩; omega)
    · refine z_iconst (v := nI 1) B dX7_has_20 (by decide) ?_
      refine z_goto B 25 dX7_has_21 (by decide) ?_
      exact z_pret B hr dX7_has_25 (nar_b (Or.inr rfl)) (by refine bI_1 ?_; first | exact ⟨zc7, zc17⟩)
theorem fw_X7_standsIn_X7 : zF wsX7_standsIn RX7 TX7 30 := fun _ h => List.mem_cons_of_mem _ (List.mem_append_right _ (h))
set_option maxHeartbeats 4000000 in
set_option maxRecDepth 100000 in
theorem c7_standsIn (l : Launch) (D : va_G) (g : zG) (h : Nat) (a : Nat → Nat) (M : zMS) (hI : MI M) (c : Nat) (hc : c < 16) (j : Nat) (hj : j < 80) : zPure l yX7_standsIn wsX7_standsIn { frames := 1, cells := 0, slots := 0, locals := 22 } D (zT g) (wM g h a M) [.ref h, .int (nI (c)), .int (nI (j))] (fun r => r = bI (pSt M c j)) := by
  refine zPure_of (cc := cX7_standsIn) (maxL := 3) (ret := (some .boolean)) (own := RX7) [(0, .ref (h)), (1, .int (nI (c))), (2, .int (nI (j)))] (by decide) rfl rfl rfl (Nat.le_of_ble_eq_true rfl) ?_
  intro X hl B hr
  obtain ⟨b5, b2, b15, b23, b25, b1⟩ := MI_bs hI
  refine z_aload_n B 0 dX7_standsIn_0 rfl rfl ?_
  refine z_iload_n B 1 dX7_standsIn_1 rfl rfl ?_
  refine z_iload_n B 2 dX7_standsIn_2 rfl rfl ?_
  refine z_callP (As := [.int (nI (c)), .int (nI (j))]) (st := []) (C := RX7) (T := TX7) (N := 30) (ci := 7) (l := l) B hl (c7_has l D g h a M hI c (by omega) j (by omega)) gX7_standsIn_X7_has rfl ⟨rfl, rfl⟩ nm_X7_has ⟨by decide, by decide⟩ (fun _ h => h) 0 rfl rfl rfl (Nat.le_of_ble_eq_true rfl) dX7_standsIn_3 (Nat.zero_le _) (Nat.zero_le _) (fun r hr => ?_)
  subst hr
  refine z_ifB_eq B 27 dX7_standsIn_6 (by decide) (fun zc6 => ?_) (fun zc6 => ?_)
  · refine z_iconst (v := nI 0) B dX7_standsIn_27 (by decide) ?_
    exact z_pret B hr dX7_standsIn_28 (nar_b (Or.inl rfl)) (by refine bI_z ?_; first | exact fun h => zc6 h.1 | exact fun h => h.2 zc20)
  · refine z_aload_n B 0 dX7_standsIn_9 rfl rfl ?_
    refine z_get (C := RX7) (T := TX7) (N := 30) (v := .ref (a 21)) B 0 21 1 fw_X7_standsIn_X7 rfl rfl (by decide) rfl rfl rfl dX7_standsIn_10 ?_
    refine z_bipush (v := nI 80) B dX7_standsIn_13 (by decide) ?_
    refine z_iload_n B 1 dX7_standsIn_15 rfl rfl ?_
    refine z_imulN B dX7_standsIn_16 ?_
    refine z_iload_n B 2 dX7_standsIn_17 rfl rfl ?_
    refine z_iaddN B dX7_standsIn_18 ?_
    refine z_zald (g := (M 21)) (i := 80 * c + j) B 17 1 rfl rfl (by omega) (by decide) dX7_standsIn_19 ?_
    refine z_if_eq B 27 dX7_standsIn_20 (by decide) (fun zc20 => ?_) (fun zc20 => ?_)
    · refine z_iconst (v := nI 0) B dX7_standsIn_27 (by decide) ?_
      exact z_pret B hr dX7_standsIn_28 (nar_b (Or.inl rfl)) (by refine bI_z ?_; first | exact fun h => zc6 h.1 | exact fun h => h.2 zc20)
    · refine z_iconst (v := nI 1) B dX7_standsIn_23 (by decide) ?_
      refine z_goto B 28 dX7_standsIn_24 (by decide) ?_
      exact z_pret B hr dX7_standsIn_28 (nar_b (Or.inr rfl)) (by refine bI_1 ?_; first | exact ⟨zc6, zc20⟩)
set_option maxHeartbeats 4000000 in
set_option maxRecDepth 100000 in
theorem c7_areBoth (l : Launch) (D : va_G) (g : zG) (h : Nat) (a : Nat → Nat) (M : zMS) (hI : MI M) (x : Int32) (y : Int32) : zPure l yX7_areBoth wsX7_areBoth { frames := 2, cells := 0, slots := 0, locals := 43 } D (zT g) (wM g h a M) [.ref h, .int (x), .int (y)] (fun r => r = bI (pBo M x y)) := by
  refine zPure_of (cc := cX7_areBoth) (maxL := 3) (ret := (some .boolean)) (own := RX7) [(0, .ref (h)), (1, .int (x)), (2, .int (y))] (by decide) rfl rfl rfl (Nat.le_of_ble_eq_true rfl) ?_
  intro X hl B hr
  obtain ⟨b5, b2, b15, b23, b25, b1⟩ := MI_bs hI
  refine z_aload_n B 0 dX7_areBoth_0 rfl rfl ?_
  refine z_iload_n B 1 dX7_areBoth_1 rfl rfl ?_
  refine z_callP (As := [.int (x)]) (st := []) (C := RX7) (T := TX7) (N := 30) (ci := 7) (l := l) B hl (c7_isCopy l D g h a M hI x) gX7_areBoth_X7_isCopy rfl ⟨rfl, rfl⟩ nm_X7_isCopy ⟨by decide, by decide⟩ (fun _ h => h) 0 rfl rfl rfl (Nat.le_of_ble_eq_true rfl) dX7_areBoth_2 (Nat.zero_le _) (Nat.zero_le _) (fun r hr => ?_)
  subst hr
  refine z_ifB_eq B 29 dX7_areBoth_5 (by decide) (fun zc5 => ?_) (fun zc5 => ?_)
  · refine z_iconst (v := nI 0) B dX7_areBoth_29 (by decide) ?_
    exact z_pret B hr dX7_areBoth_30 (nar_b (Or.inl rfl)) (by refine bI_z ?_; first | rintro ⟨c, p, e1, e2, zq1, zq2, zq3⟩; exact zc5 ⟨c, e1, zq1⟩ | rintro ⟨c, p, e1, e2, zq1, zq2, zq3⟩; exact zc13 ⟨p, zq2, e2⟩ | rintro ⟨c, p, e1, e2, zq1, zq2, zq3⟩; rw [← (nI_eq (by omega) (by have := zq1.1; omega)).mp e1, ← (nI_eq (by omega) (by omega)).mp e2] at zq3; exact zc22 zq3)
  · have zkc5 := zc5
    obtain ⟨jx, rfl, hjx⟩ := zc5
    have hbjx : jx < 16 := by have := hjx.1; omega
    refine z_aload_n B 0 dX7_areBoth_8 rfl rfl ?_
    refine z_iload_n B 2 dX7_areBoth_9 rfl rfl ?_
    refine z_callP (As := [.int (y)]) (st := []) (C := RX7) (T := TX7) (N := 30) (ci := 7) (l := l) B hl (c7_isPage l D g h a M hI y) gX7_areBoth_X7_isPage rfl ⟨rfl, rfl⟩ nm_X7_isPage ⟨by decide, by decide⟩ (fun _ h => h) 0 rfl rfl rfl (Nat.le_of_ble_eq_true rfl) dX7_areBoth_10 (Nat.zero_le _) (Nat.zero_le _) (fun r hr => ?_)
    subst hr
    refine z_ifB_eq B 29 dX7_areBoth_13 (by decide) (fun zc13 => ?_) (fun zc13 => ?_)
    · refine z_iconst (v := nI 0) B dX7_areBoth_29 (by decide) ?_
      exact z_pret B hr dX7_areBoth_30 (nar_b (Or.inl rfl)) (by refine bI_z ?_; first | rintro ⟨c, p, e1, e2, zq1, zq2, zq3⟩; exact zc5 ⟨c, e1, zq1⟩ | rintro ⟨c, p, e1, e2, zq1, zq2, zq3⟩; exact zc13 ⟨p, zq2, e2⟩ | rintro ⟨c, p, e1, e2, zq1, zq2, zq3⟩; rw [← (nI_eq (by omega) (by have := zq1.1; omega)).mp e1, ← (nI_eq (by omega) (by omega)).mp e2] at zq3; exact zc22 zq3)
    · have zkc13 := zc13
      obtain ⟨jy, hjy, rfl⟩ := zc13
      refine z_aload_n B 0 dX7_areBoth_16 rfl rfl ?_
      refine z_iload_n B 1 dX7_areBoth_17 rfl rfl ?_
      refine z_iload_n B 2 dX7_areBoth_18 rfl rfl ?_
      refine z_callP (As := [.int (nI (jx)), .int (nI (jy))]) (st := []) (C := RX7) (T := TX7) (N := 30) (ci := 7) (l := l) B hl (c7_has l D g h a M hI jx (by omega) jy (by omega)) gX7_areBoth_X7_has rfl ⟨rfl, rfl⟩ nm_X7_has ⟨by decide, by decide⟩ (fun _ h => h) 0 rfl rfl rfl (Nat.le_of_ble_eq_true rfl) dX7_areBoth_19 (Nat.zero_le _) (Nat.zero_le _) (fun r hr => ?_)
      subst hr
      refine z_ifB_eq B 29 dX7_areBoth_22 (by decide) (fun zc22 => ?_) (fun zc22 => ?_)
      · refine z_iconst (v := nI 0) B dX7_areBoth_29 (by decide) ?_
        exact z_pret B hr dX7_areBoth_30 (nar_b (Or.inl rfl)) (by refine bI_z ?_; first | rintro ⟨c, p, e1, e2, zq1, zq2, zq3⟩; exact zc5 ⟨c, e1, zq1⟩ | rintro ⟨c, p, e1, e2, zq1, zq2, zq3⟩; exact zc13 ⟨p, zq2, e2⟩ | rintro ⟨c, p, e1, e2, zq1, zq2, zq3⟩; rw [← (nI_eq (by omega) (by have := zq1.1; omega)).mp e1, ← (nI_eq (by omega) (by omega)).mp e2] at zq3; exact zc22 zq3)
      · refine z_iconst (v := nI 1) B dX7_areBoth_25 (by decide) ?_
        refine z_goto B 30 dX7_areBoth_26 (by decide) ?_
        exact z_pret B hr dX7_areBoth_30 (nar_b (Or.inr rfl)) (by refine bI_1 ?_; first | exact ⟨jx, jy, rfl, rfl, hjx, hjy, zc22⟩)
theorem fw_X7_isBase_X7 : zF wsX7_isBase RX7 TX7 30 := fun _ h => List.mem_cons_of_mem _ (List.mem_append_right _ (h))
set_option maxHeartbeats 4000000 in
set_option maxRecDepth 100000 in
theorem c7_isBase (l : Launch) (D : va_G) (g : zG) (h : Nat) (a : Nat → Nat) (M : zMS) (hI : MI M) (x : Int32) : zPure l yX7_isBase wsX7_isBase { frames := 0, cells := 0, slots := 0, locals := 0 } D (zT g) (wM g h a M) [.ref h, .int (x)] (fun r => r = bI (pBase M x)) := by
  refine zPure_of (cc := cX7_isBase) (maxL := 4) (ret := (some .boolean)) (own := RX7) [(0, .ref (h)), (1, .int (x))] (by decide) rfl rfl rfl (Nat.le_of_ble_eq_true rfl) ?_
  intro X hl B hr
  obtain ⟨b5, b2, b15, b23, b25, b1⟩ := MI_bs hI
  refine z_iconst (v := nI 0) B dX7_isBase_0 (by decide) ?_
  refine z_istore_n (lv1 := [(2, .int (nI (0))), (0, .ref (h)), (1, .int (x))]) B dX7_isBase_1 rfl (by decide) rfl ?_
  refine z_iconst (v := nI 0) B dX7_isBase_2 (by decide) ?_
  refine z_istore_n (lv1 := [(3, .int (nI (0))), (2, .int (nI (0))), (0, .ref (h)), (1, .int (x))]) B dX7_isBase_3 rfl (by decide) rfl ?_
  have loop4 : ∀ (n0 i : Nat), i ≤ mC M → mC M + 1 ≤ i + n0 → zJ X 4 (zI0 D (zs X)) (zQe X (vp_Si (fun r => r = bI (pBase M x))) 0 0 (fun _ => False)) (wM g h a M) 0 0 [(0, .ref (h)), (1, .int (x)), (2, .int (bI (∃ k, k < i ∧ M 19 k = 0 ∧ M 16 k = x))), (3, .int (nI (i)))] 4 [] := by
    intro n4
    induction n4 with
    | zero => intro i h1 h2; exact absurd h2 (by omega)
    | succ n4 ih4 =>
      intro i hle4 hn4
      refine z_iload_n B 3 dX7_isBase_4 rfl rfl ?_
      refine z_aload_n B 0 dX7_isBase_5 rfl rfl ?_
      refine z_get (C := RX7) (T := TX7) (N := 30) (v := .int (M 15 0)) B 0 15 1 fw_X7_isBase_X7 rfl rfl (by decide) rfl rfl rfl dX7_isBase_6 ?_
      refine z_top (y := nI (mC M)) (MI_15 hI) ?_
      refine z_icmpN_ge B 47 dX7_isBase_9 (by decide) (by omega) (by omega) (fun zc9 => ?_) (fun zc9 => ?_)
      · obtain rfl : i = mC M := by omega
        refine z_iload_n B 2 dX7_isBase_47 rfl rfl ?_
        exact z_pret B hr dX7_isBase_48 (nar_b (bI_or _)) (by rfl)
      · refine z_iload_n B 2 dX7_isBase_12 rfl rfl ?_
        refine z_ifB_ne B 35 dX7_isBase_13 (by decide) (fun zc13 => ?_) (fun zc13 => ?_)
        · refine z_iconst (v := nI 1) B dX7_isBase_35 (by decide) ?_
          refine z_goto B 40 dX7_isBase_36 (by decide) ?_
          refine z_istore_n (lv1 := [(2, .int (nI (1))), (0, .ref (h)), (1, .int (x)), (3, .int (nI (i)))]) B dX7_isBase_40 rfl (by decide) rfl ?_
          refine z_iinc B 3 (lv1 := [(3, .int (nI (i + 1))), (2, .int (nI (1))), (0, .ref (h)), (1, .int (x))]) dX7_isBase_41 rfl (nI_1 _) (by decide) rfl ?_
          refine z_goto B 4 dX7_isBase_44 (by decide) ?_
          refine z_loc [2, 3, 1, 0] (lv' := [(0, .ref (h)), (1, .int (x)), (2, .int (nI (1))), (3, .int (nI (i + 1)))]) rfl ?_
          refine z_lvc (lv' := [(0, .ref (h)), (1, .int (x)), (2, .int (bI (∃ k, k < (i + 1) ∧ M 19 k = 0 ∧ M 16 k = x))), (3, .int (nI ((i + 1))))]) (by first | (rw [bI_t (ex_s.mpr (Or.inl zc13))]; rfl) | (rw [bI_t (ex_s.mpr (Or.inr ⟨zc22, zc32⟩))]; rfl) | (rw [bI_f (fun h => (ex_s.mp h).elim zc13 (fun q => zc22 q.1))]; rfl) | (rw [bI_f (fun h => (ex_s.mp h).elim zc13 (fun q => zc32 q.2))]; rfl)) ?_
          exact ih4 (i + 1) (by omega) (by omega)
        · refine z_aload_n B 0 dX7_isBase_16 rfl rfl ?_
          refine z_get (C := RX7) (T := TX7) (N := 30) (v := .ref (a 19)) B 0 19 2 fw_X7_isBase_X7 rfl rfl (by decide) rfl rfl rfl dX7_isBase_17 ?_
          refine z_iload_n B 3 dX7_isBase_20 rfl rfl ?_
          refine z_zald (g := (M 19)) (i := i) B 15 1 rfl rfl (by omega) (by decide) dX7_isBase_21 ?_
          refine z_if_ne B 39 dX7_isBase_22 (by decide) (fun zc22 => ?_) (fun zc22 => ?_)
          · refine z_iconst (v := nI 0) B dX7_isBase_39 (by decide) ?_
            refine z_istore_n (lv1 := [(2, .int (nI (0))), (0, .ref (h)), (1, .int (x)), (3, .int (nI (i)))]) B dX7_isBase_40 rfl (by decide) rfl ?_
            refine z_iinc B 3 (lv1 := [(3, .int (nI (i + 1))), (2, .int (nI (0))), (0, .ref (h)), (1, .int (x))]) dX7_isBase_41 rfl (nI_1 _) (by decide) rfl ?_
            refine z_goto B 4 dX7_isBase_44 (by decide) ?_
            refine z_loc [2, 3, 1, 0] (lv' := [(0, .ref (h)), (1, .int (x)), (2, .int (nI (0))), (3, .int (nI (i + 1)))]) rfl ?_
            refine z_lvc (lv' := [(0, .ref (h)), (1, .int (x)), (2, .int (bI (∃ k, k < (i + 1) ∧ M 19 k = 0 ∧ M 16 k = x))), (3, .int (nI ((i + 1))))]) (by first | (rw [bI_t (ex_s.mpr (Or.inl zc13))]; rfl) | (rw [bI_t (ex_s.mpr (Or.inr ⟨zc22, zc32⟩))]; rfl) | (rw [bI_f (fun h => (ex_s.mp h).elim zc13 (fun q => zc22 q.1))]; rfl) | (rw [bI_f (fun h => (ex_s.mp h).elim zc13 (fun q => zc32 q.2))]; rfl)) ?_
            exact ih4 (i + 1) (by omega) (by omega)
          · refine z_aload_n B 0 dX7_isBase_25 rfl rfl ?_
            refine z_get (C := RX7) (T := TX7) (N := 30) (v := .ref (a 16)) B 0 16 3 fw_X7_isBase_X7 rfl rfl (by decide) rfl rfl rfl dX7_isBase_26 ?_
            refine z_iload_n B 3 dX7_isBase_29 rfl rfl ?_
            refine z_iald (g := (M 16)) (i := i) B 12 0 rfl rfl (by omega) (by decide) dX7_isBase_30 ?_
            refine z_iload_n B 1 dX7_isBase_31 rfl rfl ?_
            refine z_icmp_ne B 39 dX7_isBase_32 (by decide) (fun zc32 => ?_) (fun zc32 => ?_)
            · refine z_iconst (v := nI 0) B dX7_isBase_39 (by decide) ?_
              refine z_istore_n (lv1 := [(2, .int (nI (0))), (0, .ref (h)), (1, .int (x)), (3, .int (nI (i)))]) B dX7_isBase_40 rfl (by decide) rfl ?_
              refine z_iinc B 3 (lv1 := [(3, .int (nI (i + 1))), (2, .int (nI (0))), (0, .ref (h)), (1, .int (x))]) dX7_isBase_41 rfl (nI_1 _) (by decide) rfl ?_
              refine z_goto B 4 dX7_isBase_44 (by decide) ?_
              refine z_loc [2, 3, 1, 0] (lv' := [(0, .ref (h)), (1, .int (x)), (2, .int (nI (0))), (3, .int (nI (i + 1)))]) rfl ?_
              refine z_lvc (lv' := [(0, .ref (h)), (1, .int (x)), (2, .int (bI (∃ k, k < (i + 1) ∧ M 19 k = 0 ∧ M 16 k = x))), (3, .int (nI ((i + 1))))]) (by first | (rw [bI_t (ex_s.mpr (Or.inl zc13))]; rfl) | (rw [bI_t (ex_s.mpr (Or.inr ⟨zc22, zc32⟩))]; rfl) | (rw [bI_f (fun h => (ex_s.mp h).elim zc13 (fun q => zc22 q.1))]; rfl) | (rw [bI_f (fun h => (ex_s.mp h).elim zc13 (fun q => zc32 q.2))]; rfl)) ?_
              exact ih4 (i + 1) (by omega) (by omega)
            · refine z_iconst (v := nI 1) B dX7_isBase_35 (by decide) ?_
              refine z_goto B 40 dX7_isBase_36 (by decide) ?_
              refine z_istore_n (lv1 := [(2, .int (nI (1))), (0, .ref (h)), (1, .int (x)), (3, .int (nI (i)))]) B dX7_isBase_40 rfl (by decide) rfl ?_
              refine z_iinc B 3 (lv1 := [(3, .int (nI (i + 1))), (2, .int (nI (1))), (0, .ref (h)), (1, .int (x))]) dX7_isBase_41 rfl (nI_1 _) (by decide) rfl ?_
              refine z_goto B 4 dX7_isBase_44 (by decide) ?_
              refine z_loc [2, 3, 1, 0] (lv' := [(0, .ref (h)), (1, .int (x)), (2, .int (nI (1))), (3, .int (nI (i + 1)))]) rfl ?_
              refine z_lvc (lv' := [(0, .ref (h)), (1, .int (x)), (2, .int (bI (∃ k, k < (i + 1) ∧ M 19 k = 0 ∧ M 16 k = x))), (3, .int (nI ((i + 1))))]) (by first | (rw [bI_t (ex_s.mpr (Or.inl zc13))]; rfl) | (rw [bI_t (ex_s.mpr (Or.inr ⟨zc22, zc32⟩))]; rfl) | (rw [bI_f (fun h => (ex_s.mp h).elim zc13 (fun q => zc22 q.1))]; rfl) | (rw [bI_f (fun h => (ex_s.mp h).elim zc13 (fun q => zc32 q.2))]; rfl)) ?_
              exact ih4 (i + 1) (by omega) (by omega)
  refine z_loc [2, 3, 1, 0] (lv' := [(0, .ref (h)), (1, .int (x)), (2, .int (nI (0))), (3, .int (nI (0)))]) rfl ?_
  refine z_lvc (lv' := [(0, .ref (h)), (1, .int (x)), (2, .int (bI (∃ k, k < 0 ∧ M 19 k = 0 ∧ M 16 k = x))), (3, .int (nI (0)))]) (by rw [bI_f (P := ∃ k, k < 0 ∧ _) (fun h => ex_0.mp h)]; rfl) ?_
  exact loop4 (mC M + 1) 0 (by omega) (by omega)
theorem fw_X7_isTrueIn_X7 : zF wsX7_isTrueIn RX7 TX7 30 := fun _ h => List.mem_cons_of_mem _ (List.mem_append_right _ (h))
set_option maxHeartbeats 4000000 in
set_option maxRecDepth 100000 in
theorem c7_isTrueIn (l : Launch) (D : va_G) (g : zG) (h : Nat) (a : Nat → Nat) (M : zMS) (hI : MI M) (c : Nat) (hc : c < 16) (j : Nat) (hj : j < 80) : zPure l yX7_isTrueIn wsX7_isTrueIn { frames := 2, cells := 0, slots := 0, locals := 44 } D (zT g) (wM g h a M) [.ref h, .int (nI (c)), .int (nI (j))] (fun r => r = bI (pTI M c j)) := by
  refine zPure_of (cc := cX7_isTrueIn) (maxL := 5) (ret := (some .boolean)) (own := RX7) [(0, .ref (h)), (1, .int (nI (c))), (2, .int (nI (j)))] (by decide) rfl rfl rfl (Nat.le_of_ble_eq_true rfl) ?_
  intro X hl B hr
  obtain ⟨b5, b2, b15, b23, b25, b1⟩ := MI_bs hI
  refine z_aload_n B 0 dX7_isTrueIn_0 rfl rfl ?_
  refine z_iload_n B 1 dX7_isTrueIn_1 rfl rfl ?_
  refine z_iload_n B 2 dX7_isTrueIn_2 rfl rfl ?_
  refine z_callP (As := [.int (nI (c)), .int (nI (j))]) (st := []) (C := RX7) (T := TX7) (N := 30) (ci := 7) (l := l) B hl (c7_standsIn l D g h a M hI c (by omega) j (by omega)) gX7_isTrueIn_X7_standsIn rfl ⟨rfl, rfl⟩ nm_X7_standsIn ⟨by decide, by decide⟩ (fun _ h => h) 0 rfl rfl rfl (Nat.le_of_ble_eq_true rfl) dX7_isTrueIn_3 (Nat.zero_le _) (Nat.zero_le _) (fun r hr => ?_)
  subst hr
  refine z_istore_n (lv1 := [(3, .int (bI (pSt M c j))), (0, .ref (h)), (1, .int (nI (c))), (2, .int (nI (j)))]) B dX7_isTrueIn_6 rfl (by decide) rfl ?_
  refine z_iconst (v := nI 0) B dX7_isTrueIn_7 (by decide) ?_
  refine z_istore (lv1 := [(4, .int (nI (0))), (3, .int (bI (pSt M c j))), (0, .ref (h)), (1, .int (nI (c))), (2, .int (nI (j)))]) B dX7_isTrueIn_8 (by decide) rfl ?_
  have bL := MI_b8 hI j
  have loop10 : ∀ (n0 i : Nat), i ≤ mL M j → mL M j + 1 ≤ i + n0 → zJ X 5 (zI0 D (zs X)) (zQe X (vp_Si (fun r => r = bI (pTI M c j))) 0 0 (fun _ => False)) (wM g h a M) 0 0 [(0, .ref (h)), (1, .int (nI (c))), (2, .int (nI (j))), (3, .int (bI (pSt M c j ∧ ∀ l, l < i → M 22 (4 * (80 * c + j) + l) = M 10 (4 * j + l)))), (4, .int (nI (i)))] 10 [] := by
    intro n10
    induction n10 with
    | zero => intro i h1 h2; exact absurd h2 (by omega)
    | succ n10 ih10 =>
      intro i hle10 hn10
      refine z_iload B 4 dX7_isTrueIn_10 rfl ?_
      refine z_aload_n B 0 dX7_isTrueIn_12 rfl rfl ?_
      refine z_get (C := RX7) (T := TX7) (N := 30) (v := .ref (a 8)) B 0 8 1 fw_X7_isTrueIn_X7 rfl rfl (by decide) rfl rfl rfl dX7_isTrueIn_13 ?_
      refine z_iload_n B 2 dX7_isTrueIn_16 rfl rfl ?_
      refine z_iald (g := (M 8)) (i := j) B 5 0 rfl rfl (by omega) (by decide) dX7_isTrueIn_17 ?_
      refine z_top (y := nI (mL M j)) (MI_8 hI _) ?_
      have := MI_b8 hI j
      refine z_icmpN_ge B 67 dX7_isTrueIn_18 (by decide) (by omega) (by omega) (fun zc18 => ?_) (fun zc18 => ?_)
      · obtain rfl : i = mL M j := by omega
        refine z_iload_n B 3 dX7_isTrueIn_67 rfl rfl ?_
        exact z_pret B hr dX7_isTrueIn_68 (nar_b (bI_or _)) (by rfl)
      · refine z_iload_n B 3 dX7_isTrueIn_21 rfl rfl ?_
        refine z_ifB_eq B 59 dX7_isTrueIn_22 (by decide) (fun zc22 => ?_) (fun zc22 => ?_)
        · refine z_iconst (v := nI 0) B dX7_isTrueIn_59 (by decide) ?_
          refine z_istore_n (lv1 := [(3, .int (nI (0))), (0, .ref (h)), (1, .int (nI (c))), (2, .int (nI (j))), (4, .int (nI (i)))]) B dX7_isTrueIn_60 rfl (by decide) rfl ?_
          refine z_iinc B 4 (lv1 := [(4, .int (nI (i + 1))), (3, .int (nI (0))), (0, .ref (h)), (1, .int (nI (c))), (2, .int (nI (j)))]) dX7_isTrueIn_61 rfl (nI_1 _) (by decide) rfl ?_
          refine z_goto B 10 dX7_isTrueIn_64 (by decide) ?_
          refine z_loc [2, 3, 4, 1, 0] (lv' := [(0, .ref (h)), (1, .int (nI (c))), (2, .int (nI (j))), (3, .int (nI (0))), (4, .int (nI (i + 1)))]) rfl ?_
          refine z_lvc (lv' := [(0, .ref (h)), (1, .int (nI (c))), (2, .int (nI (j))), (3, .int (bI (pSt M c j ∧ ∀ l, l < (i + 1) → M 22 (4 * (80 * c + j) + l) = M 10 (4 * j + l)))), (4, .int (nI ((i + 1))))]) (by first | (rw [bI_t (P := _ ∧ _) ⟨zc22.1, all_s.mpr ⟨zc22.2, zc52⟩⟩]; rfl) | (rw [bI_f (P := _ ∧ _) (fun h => zc22 ⟨h.1, (all_s.mp h.2).1⟩)]; rfl) | (rw [bI_f (P := _ ∧ _) (fun h => zc52 (all_s.mp h.2).2)]; rfl)) ?_
          exact ih10 (i + 1) (by omega) (by omega)
        · refine z_aload_n B 0 dX7_isTrueIn_25 rfl rfl ?_
          refine z_get (C := RX7) (T := TX7) (N := 30) (v := .ref (a 22)) B 0 22 2 fw_X7_isTrueIn_X7 rfl rfl (by decide) rfl rfl rfl dX7_isTrueIn_26 ?_
          refine z_iconst (v := nI 4) B dX7_isTrueIn_29 (by decide) ?_
          refine z_bipush (v := nI 80) B dX7_isTrueIn_30 (by decide) ?_
          refine z_iload_n B 1 dX7_isTrueIn_32 rfl rfl ?_
          refine z_imulN B dX7_isTrueIn_33 ?_
          refine z_iload_n B 2 dX7_isTrueIn_34 rfl rfl ?_
          refine z_iaddN B dX7_isTrueIn_35 ?_
          refine z_imulN B dX7_isTrueIn_36 ?_
          refine z_iload B 4 dX7_isTrueIn_37 rfl ?_
          refine z_iaddN B dX7_isTrueIn_39 ?_
          refine z_iald (g := (M 22)) (i := 4 * (80 * c + j) + i) B 18 0 rfl rfl (by omega) (by decide) dX7_isTrueIn_40 ?_
          refine z_aload_n B 0 dX7_isTrueIn_41 rfl rfl ?_
          refine z_get (C := RX7) (T := TX7) (N := 30) (v := .ref (a 10)) B 0 10 3 fw_X7_isTrueIn_X7 rfl rfl (by decide) rfl rfl rfl dX7_isTrueIn_42 ?_
          refine z_iconst (v := nI 4) B dX7_isTrueIn_45 (by decide) ?_
          refine z_iload_n B 2 dX7_isTrueIn_46 rfl rfl ?_
          refine z_imulN B dX7_isTrueIn_47 ?_
          refine z_iload B 4 dX7_isTrueIn_48 rfl ?_
          refine z_iaddN B dX7_isTrueIn_50 ?_
          refine z_iald (g := (M 10)) (i := 4 * j + i) B 7 0 rfl rfl (by omega) (by decide) dX7_isTrueIn_51 ?_
          refine z_icmp_ne B 59 dX7_isTrueIn_52 (by decide) (fun zc52 => ?_) (fun zc52 => ?_)
          · refine z_iconst (v := nI 0) B dX7_isTrueIn_59 (by decide) ?_
            refine z_istore_n (lv1 := [(3, .int (nI (0))), (0, .ref (h)), (1, .int (nI (c))), (2, .int (nI (j))), (4, .int (nI (i)))]) B dX7_isTrueIn_60 rfl (by decide) rfl ?_
            refine z_iinc B 4 (lv1 := [(4, .int (nI (i + 1))), (3, .int (nI (0))), (0, .ref (h)), (1, .int (nI (c))), (2, .int (nI (j)))]) dX7_isTrueIn_61 rfl (nI_1 _) (by decide) rfl ?_
            refine z_goto B 10 dX7_isTrueIn_64 (by decide) ?_
            refine z_loc [2, 3, 4, 1, 0] (lv' := [(0, .ref (h)), (1, .int (nI (c))), (2, .int (nI (j))), (3, .int (nI (0))), (4, .int (nI (i + 1)))]) rfl ?_
            refine z_lvc (lv' := [(0, .ref (h)), (1, .int (nI (c))), (2, .int (nI (j))), (3, .int (bI (pSt M c j ∧ ∀ l, l < (i + 1) → M 22 (4 * (80 * c + j) + l) = M 10 (4 * j + l)))), (4, .int (nI ((i + 1))))]) (by first | (rw [bI_t (P := _ ∧ _) ⟨zc22.1, all_s.mpr ⟨zc22.2, zc52⟩⟩]; rfl) | (rw [bI_f (P := _ ∧ _) (fun h => zc22 ⟨h.1, (all_s.mp h.2).1⟩)]; rfl) | (rw [bI_f (P := _ ∧ _) (fun h => zc52 (all_s.mp h.2).2)]; rfl)) ?_
            exact ih10 (i + 1) (by omega) (by omega)
          · refine z_iconst (v := nI 1) B dX7_isTrueIn_55 (by decide) ?_
            refine z_goto B 60 dX7_isTrueIn_56 (by decide) ?_
            refine z_istore_n (lv1 := [(3, .int (nI (1))), (0, .ref (h)), (1, .int (nI (c))), (2, .int (nI (j))), (4, .int (nI (i)))]) B dX7_isTrueIn_60 rfl (by decide) rfl ?_
            refine z_iinc B 4 (lv1 := [(4, .int (nI (i + 1))), (3, .int (nI (1))), (0, .ref (h)), (1, .int (nI (c))), (2, .int (nI (j)))]) dX7_isTrueIn_61 rfl (nI_1 _) (by decide) rfl ?_
            refine z_goto B 10 dX7_isTrueIn_64 (by decide) ?_
            refine z_loc [2, 3, 4, 1, 0] (lv' := [(0, .ref (h)), (1, .int (nI (c))), (2, .int (nI (j))), (3, .int (nI (1))), (4, .int (nI (i + 1)))]) rfl ?_
            refine z_lvc (lv' := [(0, .ref (h)), (1, .int (nI (c))), (2, .int (nI (j))), (3, .int (bI (pSt M c j ∧ ∀ l, l < (i + 1) → M 22 (4 * (80 * c + j) + l) = M 10 (4 * j + l)))), (4, .int (nI ((i + 1))))]) (by first | (rw [bI_t (P := _ ∧ _) ⟨zc22.1, all_s.mpr ⟨zc22.2, zc52⟩⟩]; rfl) | (rw [bI_f (P := _ ∧ _) (fun h => zc22 ⟨h.1, (all_s.mp h.2).1⟩)]; rfl) | (rw [bI_f (P := _ ∧ _) (fun h => zc52 (all_s.mp h.2).2)]; rfl)) ?_
            exact ih10 (i + 1) (by omega) (by omega)
  refine z_loc [2, 3, 4, 1, 0] (lv' := [(0, .ref (h)), (1, .int (nI (c))), (2, .int (nI (j))), (3, .int (bI (pSt M c j))), (4, .int (nI (0)))]) rfl ?_
  refine z_lvc (lv' := [(0, .ref (h)), (1, .int (nI (c))), (2, .int (nI (j))), (3, .int (bI (pSt M c j ∧ ∀ l, l < 0 → M 22 (4 * (80 * c + j) + l) = M 10 (4 * j + l)))), (4, .int (nI (0)))]) (by rw [bI_cg (P := pSt M c j) (R := pSt M c j ∧ ∀ l, l < 0 → M 22 (4 * (80 * c + j) + l) = M 10 (4 * j + l)) ⟨fun h => ⟨h, fun l hl => absurd hl (Nat.not_lt_zero l)⟩, fun h => h.1⟩]) ?_
  exact loop10 (mL M j + 1) 0 (by omega) (by omega)
theorem fw_X7_isWhole_X7 : zF wsX7_isWhole RX7 TX7 30 := fun _ h => List.mem_cons_of_mem _ (List.mem_append_right _ (h))
set_option maxHeartbeats 4000000 in
set_option maxRecDepth 100000 in
theorem c7_isWhole (l : Launch) (D : va_G) (g : zG) (h : Nat) (a : Nat → Nat) (M : zMS) (hI : MI M) (hJ : MJ M) (c : Nat) (hc : c < mC M) : zPure l yX7_isWhole wsX7_isWhole { frames := 0, cells := 0, slots := 0, locals := 0 } D (zT g) (wM g h a M) [.ref h, .int (nI (c))] (fun r => r = bI (pWh M c)) := by
  refine zPure_of (cc := cX7_isWhole) (maxL := 4) (ret := (some .boolean)) (own := RX7) [(0, .ref (h)), (1, .int (nI (c)))] (by decide) rfl rfl rfl (Nat.le_of_ble_eq_true rfl) ?_
  intro X hl B hr
  obtain ⟨b5, b2, b15, b23, b25, b1⟩ := MI_bs hI
  obtain ⟨L0, hL0, hL1⟩ := hJ.1 c hc
  refine z_iconst (v := nI 1) B dX7_isWhole_0 (by decide) ?_
  refine z_istore_n (lv1 := [(2, .int (nI (1))), (0, .ref (h)), (1, .int (nI (c)))]) B dX7_isWhole_1 rfl (by decide) rfl ?_
  refine z_iload_n B 2 dX7_isWhole_2 rfl rfl ?_
  refine z_istore_n (lv1 := [(3, .int (nI (c))), (2, .int (nI (1))), (0, .ref (h)), (1, .int (nI (c)))]) B dX7_isWhole_3 rfl (by decide) rfl ?_
  have loop4 : ∀ (L : List Nat) (P : Prop), isCh (mC M) (M 16) L → ((P ∧ ∀ d, d ∈ L → (M 19 d = 0 ∧ M 20 d = 0)) ↔ pWh M c) → zJ X 4 (zI0 D (zs X)) (zQe X (vp_Si (fun r => r = bI (pWh M c))) 0 0 (fun _ => False)) (wM g h a M) 0 0 [(0, .ref (h)), (1, .int (nI (c))), (2, .int (bI (P))), (3, .int (hdI L))] 4 [] := by
    intro L
    induction L with
    | nil =>
      intro P hch hq
      refine z_lvc (lv' := [(0, .ref (h)), (1, .int (nI (c))), (2, .int (bI (P))), (3, .int ((-1)))]) rfl ?_
      refine z_iload_n B 3 dX7_isWhole_4 rfl rfl ?_
      refine z_iconst (v := (-1)) B dX7_isWhole_5 (by decide) ?_
      refine z_icmp_eq B 47 dX7_isWhole_6 (by decide) (fun _ => ?_) (fun h => absurd rfl h)
      refine z_iload_n B 2 dX7_isWhole_47 rfl rfl ?_
      exact z_pret B hr dX7_isWhole_48 (nar_b (bI_or _)) (by refine bI_cg ?_; rw [← hq]; exact ⟨fun h => ⟨h, fun d hd => absurd hd List.not_mem_nil⟩, fun h => h.1⟩)
    | cons d L ih4 =>
      intro P hch hq
      obtain ⟨hd, hf, hch⟩ := hch
      refine z_lvc (lv' := [(0, .ref (h)), (1, .int (nI (c))), (2, .int (bI (P))), (3, .int (nI (d)))]) rfl ?_
      refine z_iload_n B 3 dX7_isWhole_4 rfl rfl ?_
      refine z_iconst (v := (-1)) B dX7_isWhole_5 (by decide) ?_
      refine z_icmp_eq B 47 dX7_isWhole_6 (by decide) (fun h => absurd h (nI_nm1 (by omega))) (fun _ => ?_)
      refine z_iload_n B 2 dX7_isWhole_9 rfl rfl ?_
      refine z_ifB_eq B 35 dX7_isWhole_10 (by decide) (fun zc10 => ?_) (fun zc10 => ?_)
      · refine z_iconst (v := nI 0) B dX7_isWhole_35 (by decide) ?_
        refine z_istore_n (lv1 := [(2, .int (nI (0))), (0, .ref (h)), (1, .int (nI (c))), (3, .int (nI (d)))]) B dX7_isWhole_36 rfl (by decide) rfl ?_
        refine z_aload_n B 1 dX7_isWhole_37 rfl rfl ?_
        refine z_get (C := RX7) (T := TX7) (N := 30) (v := .ref (a 16)) B 0 16 3 fw_X7_isWhole_X7 rfl rfl (by decide) rfl rfl rfl dX7_isWhole_38 ?_
        refine z_iload_n B 3 dX7_isWhole_41 rfl rfl ?_
        refine z_iald (g := (M 16)) (i := d) B 12 0 rfl rfl (by omega) (by decide) dX7_isWhole_42 ?_
        refine z_istore_n (lv1 := [(3, .int (M 16 d)), (2, .int (nI (0))), (0, .ref (h)), (1, .int (nI (c)))]) B dX7_isWhole_43 rfl (by decide) rfl ?_
        refine z_goto B 4 dX7_isWhole_44 (by decide) ?_
        refine z_loc [2, 3, 1, 0] (lv' := [(0, .ref (h)), (1, .int (nI (c))), (2, .int (nI (0))), (3, .int (M 16 d))]) rfl ?_
        refine z_lvc (lv' := [(0, .ref (h)), (1, .int (nI (c))), (2, .int (bI ((P ∧ (M 19 d = 0 ∧ M 20 d = 0))))), (3, .int (hdI L))]) (by rw [hf]; first | (rw [bI_t (P := _ ∧ _) ⟨zc10, zc19, zc28⟩]; rfl) | (rw [bI_f (P := _ ∧ _) (fun h => zc10 h.1)]; rfl) | (rw [bI_f (P := _ ∧ _) (fun h => zc19 h.2.1)]; rfl) | (rw [bI_f (P := _ ∧ _) (fun h => zc28 h.2.2)]; rfl)) ?_
        exact ih4 (P ∧ (M 19 d = 0 ∧ M 20 d = 0)) hch (by rw [← hq]; exact ⟨fun h => ⟨h.1.1, fun d2 hd2 => (List.mem_cons.mp hd2).elim (fun e => e ▸ h.1.2) (h.2 d2)⟩, fun h => ⟨⟨h.1, h.2 d List.mem_cons_self⟩, fun d2 hd2 => h.2 d2 (List.mem_cons_of_mem _ hd2)⟩⟩)
      · refine z_aload_n B 0 dX7_isWhole_13 rfl rfl ?_
        refine z_get (C := RX7) (T := TX7) (N := 30) (v := .ref (a 19)) B 0 19 1 fw_X7_isWhole_X7 rfl rfl (by decide) rfl rfl rfl dX7_isWhole_14 ?_
        refine z_iload_n B 3 dX7_isWhole_17 rfl rfl ?_
        refine z_zald (g := (M 19)) (i := d) B 15 1 rfl rfl (by omega) (by decide) dX7_isWhole_18 ?_
        refine z_if_ne B 35 dX7_isWhole_19 (by decide) (fun zc19 => ?_) (fun zc19 => ?_)
        · refine z_iconst (v := nI 0) B dX7_isWhole_35 (by decide) ?_
          refine z_istore_n (lv1 := [(2, .int (nI (0))), (0, .ref (h)), (1, .int (nI (c))), (3, .int (nI (d)))]) B dX7_isWhole_36 rfl (by decide) rfl ?_
          refine z_aload_n B 1 dX7_isWhole_37 rfl rfl ?_
          refine z_get (C := RX7) (T := TX7) (N := 30) (v := .ref (a 16)) B 0 16 3 fw_X7_isWhole_X7 rfl rfl (by decide) rfl rfl rfl dX7_isWhole_38 ?_
          refine z_iload_n B 3 dX7_isWhole_41 rfl rfl ?_
          refine z_iald (g := (M 16)) (i := d) B 12 0 rfl rfl (by omega) (by decide) dX7_isWhole_42 ?_
          refine z_istore_n (lv1 := [(3, .int (M 16 d)), (2, .int (nI (0))), (0, .ref (h)), (1, .int (nI (c)))]) B dX7_isWhole_43 rfl (by decide) rfl ?_
          refine z_goto B 4 dX7_isWhole_44 (by decide) ?_
          refine z_loc [2, 3, 1, 0] (lv' := [(0, .ref (h)), (1, .int (nI (c))), (2, .int (nI (0))), (3, .int (M 16 d))]) rfl ?_
          refine z_lvc (lv' := [(0, .ref (h)), (1, .int (nI (c))), (2, .int (bI ((P ∧ (M 19 d = 0 ∧ M 20 d = 0))))), (3, .int (hdI L))]) (by rw [hf]; first | (rw [bI_t (P := _ ∧ _) ⟨zc10, zc19, zc28⟩]; rfl) | (rw [bI_f (P := _ ∧ _) (fun h => zc10 h.1)]; rfl) | (rw [bI_f (P := _ ∧ _) (fun h => zc19 h.2.1)]; rfl) | (rw [bI_f (P := _ ∧ _) (fun h => zc28 h.2.2)]; rfl)) ?_
          exact ih4 (P ∧ (M 19 d = 0 ∧ M 20 d = 0)) hch (by rw [← hq]; exact ⟨fun h => ⟨h.1.1, fun d2 hd2 => (List.mem_cons.mp hd2).elim (fun e => e ▸ h.1.2) (h.2 d2)⟩, fun h => ⟨⟨h.1, h.2 d List.mem_cons_self⟩, fun d2 hd2 => h.2 d2 (List.mem_cons_of_mem _ hd2)⟩⟩)
        · refine z_aload_n B 0 dX7_isWhole_22 rfl rfl ?_
          refine z_get (C := RX7) (T := TX7) (N := 30) (v := .ref (a 20)) B 0 20 2 fw_X7_isWhole_X7 rfl rfl (by decide) rfl rfl rfl dX7_isWhole_23 ?_
          refine z_iload_n B 3 dX7_isWhole_26 rfl rfl ?_
          refine z_zald (g := (M 20)) (i := d) B 16 1 rfl rfl (by omega) (by decide) dX7_isWhole_27 ?_
          refine z_if_ne B 35 dX7_isWhole_28 (by decide) (fun zc28 => ?_) (fun zc28 => ?_)
          · refine z_iconst (v := nI 0) B dX7_isWhole_35 (by decide) ?_
            refine z_istore_n (lv1 := [(2, .int (nI (0))), (0, .ref (h)), (1, .int (nI (c))), (3, .int (nI (d)))]) B dX7_isWhole_36 rfl (by decide) rfl ?_
            refine z_aload_n B 1 dX7_isWhole_37 rfl rfl ?_
            refine z_get (C := RX7) (T := TX7) (N := 30) (v := .ref (a 16)) B 0 16 3 fw_X7_isWhole_X7 rfl rfl (by decide) rfl rfl rfl dX7_isWhole_38 ?_
            refine z_iload_n B 3 dX7_isWhole_41 rfl rfl ?_
            refine z_iald (g := (M 16)) (i := d) B 12 0 rfl rfl (by omega) (by decide) dX7_isWhole_42 ?_
            refine z_istore_n (lv1 := [(3, .int (M 16 d)), (2, .int (nI (0))), (0, .ref (h)), (1, .int (nI (c)))]) B dX7_isWhole_43 rfl (by decide) rfl ?_
            refine z_goto B 4 dX7_isWhole_44 (by decide) ?_
            refine z_loc [2, 3, 1, 0] (lv' := [(0, .ref (h)), (1, .int (nI (c))), (2, .int (nI (0))), (3, .int (M 16 d))]) rfl ?_
            refine z_lvc (lv' := [(0, .ref (h)), (1, .int (nI (c))), (2, .int (bI ((P ∧ (M 19 d = 0 ∧ M 20 d = 0))))), (3, .int (hdI L))]) (by rw [hf]; first | (rw [bI_t (P := _ ∧ _) ⟨zc10, zc19, zc28⟩]; rfl) | (rw [bI_f (P := _ ∧ _) (fun h => zc10 h.1)]; rfl) | (rw [bI_f (P := _ ∧ _) (fun h => zc19 h.2.1)]; rfl) | (rw [bI_f (P := _ ∧ _) (fun h => zc28 h.2.2)]; rfl)) ?_
            exact ih4 (P ∧ (M 19 d = 0 ∧ M 20 d = 0)) hch (by rw [← hq]; exact ⟨fun h => ⟨h.1.1, fun d2 hd2 => (List.mem_cons.mp hd2).elim (fun e => e ▸ h.1.2) (h.2 d2)⟩, fun h => ⟨⟨h.1, h.2 d List.mem_cons_self⟩, fun d2 hd2 => h.2 d2 (List.mem_cons_of_mem _ hd2)⟩⟩)
          · refine z_iconst (v := nI 1) B dX7_isWhole_31 (by decide) ?_
            refine z_goto B 36 dX7_isWhole_32 (by decide) ?_
            refine z_istore_n (lv1 := [(2, .int (nI (1))), (0, .ref (h)), (1, .int (nI (c))), (3, .int (nI (d)))]) B dX7_isWhole_36 rfl (by decide) rfl ?_
            refine z_aload_n B 1 dX7_isWhole_37 rfl rfl ?_
            refine z_get (C := RX7) (T := TX7) (N := 30) (v := .ref (a 16)) B 0 16 3 fw_X7_isWhole_X7 rfl rfl (by decide) rfl rfl rfl dX7_isWhole_38 ?_
            refine z_iload_n B 3 dX7_isWhole_41 rfl rfl ?_
            refine z_iald (g := (M 16)) (i := d) B 12 0 rfl rfl (by omega) (by decide) dX7_isWhole_42 ?_
            refine z_istore_n (lv1 := [(3, .int (M 16 d)), (2, .int (nI (1))), (0, .ref (h)), (1, .int (nI (c)))]) B dX7_isWhole_43 rfl (by decide) rfl ?_
            refine z_goto B 4 dX7_isWhole_44 (by decide) ?_
            refine z_loc [2, 3, 1, 0] (lv' := [(0, .ref (h)), (1, .int (nI (c))), (2, .int (nI (1))), (3, .int (M 16 d))]) rfl ?_
            refine z_lvc (lv' := [(0, .ref (h)), (1, .int (nI (c))), (2, .int (bI ((P ∧ (M 19 d = 0 ∧ M 20 d = 0))))), (3, .int (hdI L))]) (by rw [hf]; first | (rw [bI_t (P := _ ∧ _) ⟨zc10, zc19, zc28⟩]; rfl) | (rw [bI_f (P := _ ∧ _) (fun h => zc10 h.1)]; rfl) | (rw [bI_f (P := _ ∧ _) (fun h => zc19 h.2.1)]; rfl) | (rw [bI_f (P := _ ∧ _) (fun h => zc28 h.2.2)]; rfl)) ?_
            exact ih4 (P ∧ (M 19 d = 0 ∧ M 20 d = 0)) hch (by rw [← hq]; exact ⟨fun h => ⟨h.1.1, fun d2 hd2 => (List.mem_cons.mp hd2).elim (fun e => e ▸ h.1.2) (h.2 d2)⟩, fun h => ⟨⟨h.1, h.2 d List.mem_cons_self⟩, fun d2 hd2 => h.2 d2 (List.mem_cons_of_mem _ hd2)⟩⟩)
  refine z_loc [2, 3, 1, 0] (lv' := [(0, .ref (h)), (1, .int (nI (c))), (2, .int (nI (1))), (3, .int (nI (c)))]) rfl ?_
  refine z_lvc (lv' := [(0, .ref (h)), (1, .int (nI (c))), (2, .int (bI (True))), (3, .int (hdI (c :: L0)))]) (by rw [bI_t (P := True) trivial]; rfl) ?_
  exact loop4 (c :: L0) True hL1 (by unfold pWh; rw [hL0]; exact ⟨fun h => h.2, fun h => ⟨trivial, h⟩⟩)
theorem fw_X7_reaches_X7 : zF wsX7_reaches RX7 TX7 30 := fun _ h => List.mem_cons_of_mem _ (List.mem_append_right _ (h))
set_option maxHeartbeats 4000000 in
set_option maxRecDepth 100000 in
theorem c7_reaches (l : Launch) (D : va_G) (g : zG) (h : Nat) (a : Nat → Nat) (M : zMS) (hI : MI M) (x : Int32) (j : Nat) (hj : j < 80) : zPure l yX7_reaches wsX7_reaches { frames := 1, cells := 0, slots := 0, locals := 22 } D (zT g) (wM g h a M) [.ref h, .int (x), .int (nI (j))] (fun r => r = bI (pRe M x j)) := by
  refine zPure_of (cc := cX7_reaches) (maxL := 6) (ret := (some .boolean)) (own := RX7) [(0, .ref (h)), (1, .int (x)), (2, .int (nI (j)))] (by decide) rfl rfl rfl (Nat.le_of_ble_eq_true rfl) ?_
  intro X hl B hr
  obtain ⟨b5, b2, b15, b23, b25, b1⟩ := MI_bs hI
  have bL := MI_b8 hI j
  refine z_iconst (v := nI 0) B dX7_reaches_0 (by decide) ?_
  refine z_istore_n (lv1 := [(3, .int (nI (0))), (0, .ref (h)), (1, .int (x)), (2, .int (nI (j)))]) B dX7_reaches_1 rfl (by decide) rfl ?_
  refine z_iconst (v := nI 0) B dX7_reaches_2 (by decide) ?_
  refine z_istore (lv1 := [(4, .int (nI (0))), (3, .int (nI (0))), (0, .ref (h)), (1, .int (x)), (2, .int (nI (j)))]) B dX7_reaches_3 (by decide) rfl ?_
  have loop5 : ∀ (n0 i : Nat), i ≤ mH M → mH M + 1 ≤ i + n0 → zJ X 6 (zI0 D (zs X)) (zQe X (vp_Si (fun r => r = bI (pRe M x j))) 0 0 (fun _ => False)) (wM g h a M) 0 0 [(0, .ref (h)), (1, .int (x)), (2, .int (nI (j))), (3, .int (bI (∃ k, k < i ∧ ∃ l, l < mL M j ∧ pRR M x j k l))), (4, .int (nI (i)))] 5 [] := by
    intro n5
    induction n5 with
    | zero => intro i h1 h2; exact absurd h2 (by omega)
    | succ n5 ih5 =>
      intro i hle5 hn5
      refine z_iload B 4 dX7_reaches_5 rfl ?_
      refine z_aload_n B 0 dX7_reaches_7 rfl rfl ?_
      refine z_get (C := RX7) (T := TX7) (N := 30) (v := .int (M 25 0)) B 0 25 1 fw_X7_reaches_X7 rfl rfl (by decide) rfl rfl rfl dX7_reaches_8 ?_
      refine z_top (y := nI (mH M)) (MI_25 hI) ?_
      refine z_icmpN_ge B 110 dX7_reaches_11 (by decide) (by omega) (by omega) (fun zc11 => ?_) (fun zc11 => ?_)
      · obtain rfl : i = mH M := by omega
        refine z_iload_n B 3 dX7_reaches_110 rfl rfl ?_
        exact z_pret B hr dX7_reaches_111 (nar_b (bI_or _)) (by rfl)
      · refine z_iconst (v := nI 4) B dX7_reaches_14 (by decide) ?_
        refine z_iload_n B 2 dX7_reaches_15 rfl rfl ?_
        refine z_imulN B dX7_reaches_16 ?_
        refine z_istore (lv1 := [(5, .int (nI (4 * j))), (0, .ref (h)), (1, .int (x)), (2, .int (nI (j))), (3, .int (bI (∃ k, k < i ∧ ∃ l, l < mL M j ∧ pRR M x j k l))), (4, .int (nI (i)))]) B dX7_reaches_17 (by decide) rfl ?_
        have loop19 : ∀ (n0 i2 : Nat), i2 ≤ mL M j → mL M j + 1 ≤ i2 + n0 → zJ X 6 (zI0 D (zs X)) (zQe X (vp_Si (fun r => r = bI (pRe M x j))) 0 0 (fun _ => False)) (wM g h a M) 0 0 [(0, .ref (h)), (1, .int (x)), (2, .int (nI (j))), (3, .int (bI ((∃ k, k < i ∧ ∃ l, l < mL M j ∧ pRR M x j k l) ∨ ∃ l, l < i2 ∧ pRR M x j i l))), (4, .int (nI (i))), (5, .int (nI (4 * j + i2)))] 19 [] := by
          intro n19
          induction n19 with
          | zero => intro i2 h1 h2; exact absurd h2 (by omega)
          | succ n19 ih19 =>
            intro i2 hle19 hn19
            refine z_iload B 5 dX7_reaches_19 rfl ?_
            refine z_iconst (v := nI 4) B dX7_reaches_21 (by decide) ?_
            refine z_iload_n B 2 dX7_reaches_22 rfl rfl ?_
            refine z_imulN B dX7_reaches_23 ?_
            refine z_aload_n B 0 dX7_reaches_24 rfl rfl ?_
            refine z_get (C := RX7) (T := TX7) (N := 30) (v := .ref (a 8)) B 0 8 2 fw_X7_reaches_X7 rfl rfl (by decide) rfl rfl rfl dX7_reaches_25 ?_
            refine z_iload_n B 2 dX7_reaches_28 rfl rfl ?_
            refine z_iald (g := (M 8)) (i := j) B 5 0 rfl rfl (by omega) (by decide) dX7_reaches_29 ?_
            refine z_top (y := nI (mL M j)) (MI_8 hI _) ?_
            have := MI_b8 hI j
            refine z_iaddN B dX7_reaches_30 ?_
            refine z_icmpN_ge B 104 dX7_reaches_31 (by decide) (by omega) (by omega) (fun zc31 => ?_) (fun zc31 => ?_)
            · obtain rfl : i2 = mL M j := by omega
              refine z_iinc B 4 (lv1 := [(4, .int (nI (i + 1))), (0, .ref (h)), (1, .int (x)), (2, .int (nI (j))), (3, .int (bI ((∃ k, k < i ∧ ∃ l, l < mL M j ∧ pRR M x j k l) ∨ ∃ l, l < (mL M j) ∧ pRR M x j i l))), (5, .int (nI (4 * j + (mL M j))))]) dX7_reaches_104 rfl (nI_1 _) (by decide) rfl ?_
              refine z_goto B 5 dX7_reaches_107 (by decide) ?_
              refine z_loc [1, 2, 3, 4, 0] (lv' := [(0, .ref (h)), (1, .int (x)), (2, .int (nI (j))), (3, .int (bI ((∃ k, k < i ∧ ∃ l, l < mL M j ∧ pRR M x j k l) ∨ ∃ l, l < (mL M j) ∧ pRR M x j i l))), (4, .int (nI (i + 1)))]) rfl ?_
              refine z_lvc (lv' := [(0, .ref (h)), (1, .int (x)), (2, .int (nI (j))), (3, .int (bI (∃ k, k < (i + 1) ∧ ∃ l, l < mL M j ∧ pRR M x j k l))), (4, .int (nI ((i + 1))))]) (by rw [bI_cg (P := _ ∨ _) ex_s.symm]) ?_
              exact ih5 (i + 1) (by omega) (by omega)
            · refine z_iload_n B 3 dX7_reaches_34 rfl rfl ?_
              refine z_ifB_ne B 92 dX7_reaches_35 (by decide) (fun zc35 => ?_) (fun zc35 => ?_)
              · refine z_iconst (v := nI 1) B dX7_reaches_92 (by decide) ?_
                refine z_goto B 97 dX7_reaches_93 (by decide) ?_
                refine z_istore_n (lv1 := [(3, .int (nI (1))), (0, .ref (h)), (1, .int (x)), (2, .int (nI (j))), (4, .int (nI (i))), (5, .int (nI (4 * j + i2)))]) B dX7_reaches_97 rfl (by decide) rfl ?_
                refine z_iinc B 5 (lv1 := [(5, .int (nI (4 * j + i2 + 1))), (3, .int (nI (1))), (0, .ref (h)), (1, .int (x)), (2, .int (nI (j))), (4, .int (nI (i)))]) dX7_reaches_98 rfl (nI_1 _) (by decide) rfl ?_
                refine z_goto B 19 dX7_reaches_101 (by decide) ?_
                refine z_loc [2, 3, 4, 1, 5, 0] (lv' := [(0, .ref (h)), (1, .int (x)), (2, .int (nI (j))), (3, .int (nI (1))), (4, .int (nI (i))), (5, .int (nI (4 * j + i2 + 1)))]) rfl ?_
                refine z_lvc (lv' := [(0, .ref (h)), (1, .int (x)), (2, .int (nI (j))), (3, .int (bI ((∃ k, k < i ∧ ∃ l, l < mL M j ∧ pRR M x j k l) ∨ ∃ l, l < (i2 + 1) ∧ pRR M x j i l))), (4, .int (nI (i))), (5, .int (nI (4 * j + (i2 + 1))))]) (by first | (rw [bI_t (P := _ ∨ _) (zc35.elim Or.inl (fun q => Or.inr (ex_s.mpr (Or.inl q))))]; rfl) | (rw [bI_t (P := _ ∨ _) (Or.inr (ex_s.mpr (Or.inr ⟨zc46, zc72, zc89⟩)))]; rfl) | (rw [bI_f (P := _ ∨ _) (fun h => h.elim (fun q => zc35 (Or.inl q)) (fun q => (ex_s.mp q).elim (fun q => zc35 (Or.inr q)) (fun q => zc46 q.1)))]; rfl) | (rw [bI_f (P := _ ∨ _) (fun h => h.elim (fun q => zc35 (Or.inl q)) (fun q => (ex_s.mp q).elim (fun q => zc35 (Or.inr q)) (fun q => zc72 q.2.1)))]; rfl) | (rw [bI_f (P := _ ∨ _) (fun h => h.elim (fun q => zc35 (Or.inl q)) (fun q => (ex_s.mp q).elim (fun q => zc35 (Or.inr q)) (fun q => zc89 q.2.2)))]; rfl)) ?_
                exact ih19 (i2 + 1) (by omega) (by omega)
              · refine z_aload_n B 0 dX7_reaches_38 rfl rfl ?_
                refine z_get (C := RX7) (T := TX7) (N := 30) (v := .ref (a 26)) B 0 26 3 fw_X7_reaches_X7 rfl rfl (by decide) rfl rfl rfl dX7_reaches_39 ?_
                refine z_iload B 4 dX7_reaches_42 rfl ?_
                refine z_iald (g := (M 26)) (i := i) B 20 0 rfl rfl (by omega) (by decide) dX7_reaches_44 ?_
                refine z_iload_n B 1 dX7_reaches_45 rfl rfl ?_
                refine z_icmp_ne B 96 dX7_reaches_46 (by decide) (fun zc46 => ?_) (fun zc46 => ?_)
                · refine z_iconst (v := nI 0) B dX7_reaches_96 (by decide) ?_
                  refine z_istore_n (lv1 := [(3, .int (nI (0))), (0, .ref (h)), (1, .int (x)), (2, .int (nI (j))), (4, .int (nI (i))), (5, .int (nI (4 * j + i2)))]) B dX7_reaches_97 rfl (by decide) rfl ?_
                  refine z_iinc B 5 (lv1 := [(5, .int (nI (4 * j + i2 + 1))), (3, .int (nI (0))), (0, .ref (h)), (1, .int (x)), (2, .int (nI (j))), (4, .int (nI (i)))]) dX7_reaches_98 rfl (nI_1 _) (by decide) rfl ?_
                  refine z_goto B 19 dX7_reaches_101 (by decide) ?_
                  refine z_loc [2, 3, 4, 1, 5, 0] (lv' := [(0, .ref (h)), (1, .int (x)), (2, .int (nI (j))), (3, .int (nI (0))), (4, .int (nI (i))), (5, .int (nI (4 * j + i2 + 1)))]) rfl ?_
                  refine z_lvc (lv' := [(0, .ref (h)), (1, .int (x)), (2, .int (nI (j))), (3, .int (bI ((∃ k, k < i ∧ ∃ l, l < mL M j ∧ pRR M x j k l) ∨ ∃ l, l < (i2 + 1) ∧ pRR M x j i l))), (4, .int (nI (i))), (5, .int (nI (4 * j + (i2 + 1))))]) (by first | (rw [bI_t (P := _ ∨ _) (zc35.elim Or.inl (fun q => Or.inr (ex_s.mpr (Or.inl q))))]; rfl) | (rw [bI_t (P := _ ∨ _) (Or.inr (ex_s.mpr (Or.inr ⟨zc46, zc72, zc89⟩)))]; rfl) | (rw [bI_f (P := _ ∨ _) (fun h => h.elim (fun q => zc35 (Or.inl q)) (fun q => (ex_s.mp q).elim (fun q => zc35 (Or.inr q)) (fun q => zc46 q.1)))]; rfl) | (rw [bI_f (P := _ ∨ _) (fun h => h.elim (fun q => zc35 (Or.inl q)) (fun q => (ex_s.mp q).elim (fun q => zc35 (Or.inr q)) (fun q => zc72 q.2.1)))]; rfl) | (rw [bI_f (P := _ ∨ _) (fun h => h.elim (fun q => zc35 (Or.inl q)) (fun q => (ex_s.mp q).elim (fun q => zc35 (Or.inr q)) (fun q => zc89 q.2.2)))]; rfl)) ?_
                  exact ih19 (i2 + 1) (by omega) (by omega)
                · refine z_aload_n B 0 dX7_reaches_49 rfl rfl ?_
                  refine z_get (C := RX7) (T := TX7) (N := 30) (v := .ref (a 6)) B 0 6 4 fw_X7_reaches_X7 rfl rfl (by decide) rfl rfl rfl dX7_reaches_50 ?_
                  refine z_iload_n B 2 dX7_reaches_53 rfl rfl ?_
                  refine z_iald (g := (M 6)) (i := j) B 3 0 rfl rfl (by omega) (by decide) dX7_reaches_54 ?_
                  refine z_aload_n B 0 dX7_reaches_55 rfl rfl ?_
                  refine z_get (C := RX7) (T := TX7) (N := 30) (v := .ref (a 28)) B 0 28 5 fw_X7_reaches_X7 rfl rfl (by decide) rfl rfl rfl dX7_reaches_56 ?_
                  refine z_iload B 4 dX7_reaches_59 rfl ?_
                  refine z_iald (g := (M 28)) (i := i) B 22 0 rfl rfl (by omega) (by decide) dX7_reaches_61 ?_
                  refine z_aload_n B 0 dX7_reaches_62 rfl rfl ?_
                  refine z_get (C := RX7) (T := TX7) (N := 30) (v := .ref (a 29)) B 0 29 6 fw_X7_reaches_X7 rfl rfl (by decide) rfl rfl rfl dX7_reaches_63 ?_
                  refine z_iload B 4 dX7_reaches_66 rfl ?_
                  refine z_iald (g := (M 29)) (i := i) B 23 0 rfl rfl (by omega) (by decide) dX7_reaches_68 ?_
                  refine z_callS (As := [.int (M 6 j), .int (M 28 i), .int (M 29 i)]) (st := []) (l := l) B hl (c7_in l D g h a M (M 6 j) (M 28 i) (M 29 i)) gX7_reaches_X7_in rfl ⟨rfl, rfl⟩ nm_X7_in ⟨by decide, by decide⟩ (fun _ h => h) rfl (Nat.le_of_ble_eq_true rfl) dX7_reaches_69 (Nat.zero_le _) (Nat.zero_le _) (fun r hr => ?_)
                  subst hr
                  refine z_ifB_eq B 96 dX7_reaches_72 (by decide) (fun zc72 => ?_) (fun zc72 => ?_)
                  · refine z_iconst (v := nI 0) B dX7_reaches_96 (by decide) ?_
                    refine z_istore_n (lv1 := [(3, .int (nI (0))), (0, .ref (h)), (1, .int (x)), (2, .int (nI (j))), (4, .int (nI (i))), (5, .int (nI (4 * j + i2)))]) B dX7_reaches_97 rfl (by decide) rfl ?_
                    refine z_iinc B 5 (lv1 := [(5, .int (nI (4 * j + i2 + 1))), (3, .int (nI (0))), (0, .ref (h)), (1, .int (x)), (2, .int (nI (j))), (4, .int (nI (i)))]) dX7_reaches_98 rfl (nI_1 _) (by decide) rfl ?_
                    refine z_goto B 19 dX7_reaches_101 (by decide) ?_
                    refine z_loc [2, 3, 4, 1, 5, 0] (lv' := [(0, .ref (h)), (1, .int (x)), (2, .int (nI (j))), (3, .int (nI (0))), (4, .int (nI (i))), (5, .int (nI (4 * j + i2 + 1)))]) rfl ?_
                    refine z_lvc (lv' := [(0, .ref (h)), (1, .int (x)), (2, .int (nI (j))), (3, .int (bI ((∃ k, k < i ∧ ∃ l, l < mL M j ∧ pRR M x j k l) ∨ ∃ l, l < (i2 + 1) ∧ pRR M x j i l))), (4, .int (nI (i))), (5, .int (nI (4 * j + (i2 + 1))))]) (by first | (rw [bI_t (P := _ ∨ _) (zc35.elim Or.inl (fun q => Or.inr (ex_s.mpr (Or.inl q))))]; rfl) | (rw [bI_t (P := _ ∨ _) (Or.inr (ex_s.mpr (Or.inr ⟨zc46, zc72, zc89⟩)))]; rfl) | (rw [bI_f (P := _ ∨ _) (fun h => h.elim (fun q => zc35 (Or.inl q)) (fun q => (ex_s.mp q).elim (fun q => zc35 (Or.inr q)) (fun q => zc46 q.1)))]; rfl) | (rw [bI_f (P := _ ∨ _) (fun h => h.elim (fun q => zc35 (Or.inl q)) (fun q => (ex_s.mp q).elim (fun q => zc35 (Or.inr q)) (fun q => zc72 q.2.1)))]; rfl) | (rw [bI_f (P := _ ∨ _) (fun h => h.elim (fun q => zc35 (Or.inl q)) (fun q => (ex_s.mp q).elim (fun q => zc35 (Or.inr q)) (fun q => zc89 q.2.2)))]; rfl)) ?_
                    exact ih19 (i2 + 1) (by omega) (by omega)
                  · refine z_aload_n B 0 dX7_reaches_75 rfl rfl ?_
                    refine z_get (C := RX7) (T := TX7) (N := 30) (v := .ref (a 9)) B 0 9 7 fw_X7_reaches_X7 rfl rfl (by decide) rfl rfl rfl dX7_reaches_76 ?_
                    refine z_iload B 5 dX7_reaches_79 rfl ?_
                    refine z_iald (g := (M 9)) (i := 4 * j + i2) B 6 0 rfl rfl (by omega) (by decide) dX7_reaches_81 ?_
                    refine z_aload_n B 0 dX7_reaches_82 rfl rfl ?_
                    refine z_get (C := RX7) (T := TX7) (N := 30) (v := .ref (a 27)) B 0 27 8 fw_X7_reaches_X7 rfl rfl (by decide) rfl rfl rfl dX7_reaches_83 ?_
                    refine z_iload B 4 dX7_reaches_86 rfl ?_
                    refine z_iald (g := (M 27)) (i := i) B 21 0 rfl rfl (by omega) (by decide) dX7_reaches_88 ?_
                    refine z_icmp_ne B 96 dX7_reaches_89 (by decide) (fun zc89 => ?_) (fun zc89 => ?_)
                    · refine z_iconst (v := nI 0) B dX7_reaches_96 (by decide) ?_
                      refine z_istore_n (lv1 := [(3, .int (nI (0))), (0, .ref (h)), (1, .int (x)), (2, .int (nI (j))), (4, .int (nI (i))), (5, .int (nI (4 * j + i2)))]) B dX7_reaches_97 rfl (by decide) rfl ?_
                      refine z_iinc B 5 (lv1 := [(5, .int (nI (4 * j + i2 + 1))), (3, .int (nI (0))), (0, .ref (h)), (1, .int (x)), (2, .int (nI (j))), (4, .int (nI (i)))]) dX7_reaches_98 rfl (nI_1 _) (by decide) rfl ?_
                      refine z_goto B 19 dX7_reaches_101 (by decide) ?_
                      refine z_loc [2, 3, 4, 1, 5, 0] (lv' := [(0, .ref (h)), (1, .int (x)), (2, .int (nI (j))), (3, .int (nI (0))), (4, .int (nI (i))), (5, .int (nI (4 * j + i2 + 1)))]) rfl ?_
                      refine z_lvc (lv' := [(0, .ref (h)), (1, .int (x)), (2, .int (nI (j))), (3, .int (bI ((∃ k, k < i ∧ ∃ l, l < mL M j ∧ pRR M x j k l) ∨ ∃ l, l < (i2 + 1) ∧ pRR M x j i l))), (4, .int (nI (i))), (5, .int (nI (4 * j + (i2 + 1))))]) (by first | (rw [bI_t (P := _ ∨ _) (zc35.elim Or.inl (fun q => Or.inr (ex_s.mpr (Or.inl q))))]; rfl) | (rw [bI_t (P := _ ∨ _) (Or.inr (ex_s.mpr (Or.inr ⟨zc46, zc72, zc89⟩)))]; rfl) | (rw [bI_f (P := _ ∨ _) (fun h => h.elim (fun q => zc35 (Or.inl q)) (fun q => (ex_s.mp q).elim (fun q => zc35 (Or.inr q)) (fun q => zc46 q.1)))]; rfl) | (rw [bI_f (P := _ ∨ _) (fun h => h.elim (fun q => zc35 (Or.inl q)) (fun q => (ex_s.mp q).elim (fun q => zc35 (Or.inr q)) (fun q => zc72 q.2.1)))]; rfl) | (rw [bI_f (P := _ ∨ _) (fun h => h.elim (fun q => zc35 (Or.inl q)) (fun q => (ex_s.mp q).elim (fun q => zc35 (Or.inr q)) (fun q => zc89 q.2.2)))]; rfl)) ?_
                      exact ih19 (i2 + 1) (by omega) (by omega)
                    · refine z_iconst (v := nI 1) B dX7_reaches_92 (by decide) ?_
                      refine z_goto B 97 dX7_reaches_93 (by decide) ?_
                      refine z_istore_n (lv1 := [(3, .int (nI (1))), (0, .ref (h)), (1, .int (x)), (2, .int (nI (j))), (4, .int (nI (i))), (5, .int (nI (4 * j + i2)))]) B dX7_reaches_97 rfl (by decide) rfl ?_
                      refine z_iinc B 5 (lv1 := [(5, .int (nI (4 * j + i2 + 1))), (3, .int (nI (1))), (0, .ref (h)), (1, .int (x)), (2, .int (nI (j))), (4, .int (nI (i)))]) dX7_reaches_98 rfl (nI_1 _) (by decide) rfl ?_
                      refine z_goto B 19 dX7_reaches_101 (by decide) ?_
                      refine z_loc [2, 3, 4, 1, 5, 0] (lv' := [(0, .ref (h)), (1, .int (x)), (2, .int (nI (j))), (3, .int (nI (1))), (4, .int (nI (i))), (5, .int (nI (4 * j + i2 + 1)))]) rfl ?_
                      refine z_lvc (lv' := [(0, .ref (h)), (1, .int (x)), (2, .int (nI (j))), (3, .int (bI ((∃ k, k < i ∧ ∃ l, l < mL M j ∧ pRR M x j k l) ∨ ∃ l, l < (i2 + 1) ∧ pRR M x j i l))), (4, .int (nI (i))), (5, .int (nI (4 * j + (i2 + 1))))]) (by first | (rw [bI_t (P := _ ∨ _) (zc35.elim Or.inl (fun q => Or.inr (ex_s.mpr (Or.inl q))))]; rfl) | (rw [bI_t (P := _ ∨ _) (Or.inr (ex_s.mpr (Or.inr ⟨zc46, zc72, zc89⟩)))]; rfl) | (rw [bI_f (P := _ ∨ _) (fun h => h.elim (fun q => zc35 (Or.inl q)) (fun q => (ex_s.mp q).elim (fun q => zc35 (Or.inr q)) (fun q => zc46 q.1)))]; rfl) | (rw [bI_f (P := _ ∨ _) (fun h => h.elim (fun q => zc35 (Or.inl q)) (fun q => (ex_s.mp q).elim (fun q => zc35 (Or.inr q)) (fun q => zc72 q.2.1)))]; rfl) | (rw [bI_f (P := _ ∨ _) (fun h => h.elim (fun q => zc35 (Or.inl q)) (fun q => (ex_s.mp q).elim (fun q => zc35 (Or.inr q)) (fun q => zc89 q.2.2)))]; rfl)) ?_
                      exact ih19 (i2 + 1) (by omega) (by omega)
        refine z_loc [1, 2, 3, 4, 5, 0] (lv' := [(0, .ref (h)), (1, .int (x)), (2, .int (nI (j))), (3, .int (bI (∃ k, k < i ∧ ∃ l, l < mL M j ∧ pRR M x j k l))), (4, .int (nI (i))), (5, .int (nI (4 * j)))]) rfl ?_
        refine z_lvc (lv' := [(0, .ref (h)), (1, .int (x)), (2, .int (nI (j))), (3, .int (bI ((∃ k, k < i ∧ ∃ l, l < mL M j ∧ pRR M x j k l) ∨ ∃ l, l < 0 ∧ pRR M x j i l))), (4, .int (nI (i))), (5, .int (nI (4 * j + 0)))]) (by rw [bI_cg (P := ∃ k, k < i ∧ _) ⟨Or.inl, fun h => h.elim id (fun q => (ex_0.mp q).elim)⟩]; rfl) ?_
        exact loop19 (mL M j + 1) 0 (by omega) (by omega)
  refine z_loc [2, 3, 4, 1, 0] (lv' := [(0, .ref (h)), (1, .int (x)), (2, .int (nI (j))), (3, .int (nI (0))), (4, .int (nI (0)))]) rfl ?_
  refine z_lvc (lv' := [(0, .ref (h)), (1, .int (x)), (2, .int (nI (j))), (3, .int (bI (∃ k, k < 0 ∧ ∃ l, l < mL M j ∧ pRR M x j k l))), (4, .int (nI (0)))]) (by rw [bI_f (P := ∃ k, k < 0 ∧ _) (fun h => ex_0.mp h)]; rfl) ?_
  exact loop5 (mH M + 1) 0 (by omega) (by omega)
theorem fw_X7_holdersOf_X7 : zF wsX7_holdersOf RX7 TX7 30 := fun _ h => List.mem_cons_of_mem _ (List.mem_append_right _ (h))
set_option maxHeartbeats 4000000 in
set_option maxRecDepth 100000 in
theorem c7_holdersOf (l : Launch) (D : va_G) (g : zG) (h : Nat) (a : Nat → Nat) (M : zMS) (hI : MI M) (j : Nat) (hj : j < 80) : zPure l yX7_holdersOf wsX7_holdersOf { frames := 2, cells := 0, slots := 0, locals := 47 } D (zT g) (wM g h a M) [.ref h, .int (nI (j))] (fun r => r = hS M j) := by
  refine zPure_of (cc := cX7_holdersOf) (maxL := 4) (ret := (some .int)) (own := RX7) [(0, .ref (h)), (1, .int (nI (j)))] (by decide) rfl rfl rfl (Nat.le_of_ble_eq_true rfl) ?_
  intro X hl B hr
  obtain ⟨b5, b2, b15, b23, b25, b1⟩ := MI_bs hI
  refine z_iconst (v := nI 0) B dX7_holdersOf_0 (by decide) ?_
  refine z_istore_n (lv1 := [(2, .int (nI (0))), (0, .ref (h)), (1, .int (nI (j)))]) B dX7_holdersOf_1 rfl (by decide) rfl ?_
  refine z_iconst (v := nI 0) B dX7_holdersOf_2 (by decide) ?_
  refine z_istore_n (lv1 := [(3, .int (nI (0))), (2, .int (nI (0))), (0, .ref (h)), (1, .int (nI (j)))]) B dX7_holdersOf_3 rfl (by decide) rfl ?_
  have loop4 : ∀ (n0 i : Nat), i ≤ mK M → mK M + 1 ≤ i + n0 → zJ X 4 (zI0 D (zs X)) (zQe X (vp_Si (fun r => r = hS M j)) 0 0 (fun _ => False)) (wM g h a M) 0 0 [(0, .ref (h)), (1, .int (nI (j))), (2, .int (hB (fun k => M 24 k = 0 ∧ pRe M (nI k) j) i)), (3, .int (nI (i)))] 4 [] := by
    intro n4
    induction n4 with
    | zero => intro i h1 h2; exact absurd h2 (by omega)
    | succ n4 ih4 =>
      intro i hle4 hn4
      refine z_iload_n B 3 dX7_holdersOf_4 rfl rfl ?_
      refine z_aload_n B 0 dX7_holdersOf_5 rfl rfl ?_
      refine z_get (C := RX7) (T := TX7) (N := 30) (v := .int (M 23 0)) B 0 23 1 fw_X7_holdersOf_X7 rfl rfl (by decide) rfl rfl rfl dX7_holdersOf_6 ?_
      refine z_top (y := nI (mK M)) (MI_23 hI) ?_
      refine z_icmpN_ge B 46 dX7_holdersOf_9 (by decide) (by omega) (by omega) (fun zc9 => ?_) (fun zc9 => ?_)
      · obtain rfl : i = mK M := by omega
        refine z_iload_n B 2 dX7_holdersOf_46 rfl rfl ?_
        exact z_pret B hr dX7_holdersOf_47 rfl (by rfl)
      · refine z_iload_n B 2 dX7_holdersOf_12 rfl rfl ?_
        refine z_aload_n B 0 dX7_holdersOf_13 rfl rfl ?_
        refine z_get (C := RX7) (T := TX7) (N := 30) (v := .ref (a 24)) B 0 24 2 fw_X7_holdersOf_X7 rfl rfl (by decide) rfl rfl rfl dX7_holdersOf_14 ?_
        refine z_iload_n B 3 dX7_holdersOf_17 rfl rfl ?_
        refine z_zald (g := (M 24)) (i := i) B 19 1 rfl rfl (by omega) (by decide) dX7_holdersOf_18 ?_
        refine z_if_ne B 37 dX7_holdersOf_19 (by decide) (fun zc19 => ?_) (fun zc19 => ?_)
        · refine z_iconst (v := nI 0) B dX7_holdersOf_37 (by decide) ?_
          refine z_ior B dX7_holdersOf_38 ?_
          refine z_istore_n (lv1 := [(2, .int (((hB (fun k => M 24 k = 0 ∧ pRe M (nI k) j) i) ||| (nI (0))))), (0, .ref (h)), (1, .int (nI (j))), (3, .int (nI (i)))]) B dX7_holdersOf_39 rfl (by decide) rfl ?_
          refine z_iinc B 3 (lv1 := [(3, .int (nI (i + 1))), (2, .int (((hB (fun k => M 24 k = 0 ∧ pRe M (nI k) j) i) ||| (nI (0))))), (0, .ref (h)), (1, .int (nI (j)))]) dX7_holdersOf_40 rfl (nI_1 _) (by decide) rfl ?_
          refine z_goto B 4 dX7_holdersOf_43 (by decide) ?_
          refine z_loc [2, 3, 1, 0] (lv' := [(0, .ref (h)), (1, .int (nI (j))), (2, .int (((hB (fun k => M 24 k = 0 ∧ pRe M (nI k) j) i) ||| (nI (0))))), (3, .int (nI (i + 1)))]) rfl ?_
          refine z_lvc (lv' := [(0, .ref (h)), (1, .int (nI (j))), (2, .int (hB (fun k => M 24 k = 0 ∧ pRe M (nI k) j) (i + 1))), (3, .int (nI ((i + 1))))]) (by first | (rw [hB_y (P := fun k => M 24 k = 0 ∧ pRe M (nI k) j) ⟨zc19, zc28⟩]) | (rw [hB_n (P := fun k => M 24 k = 0 ∧ pRe M (nI k) j) (fun h => zc19 h.1)]) | (rw [hB_n (P := fun k => M 24 k = 0 ∧ pRe M (nI k) j) (fun h => zc28 h.2)])) ?_
          exact ih4 (i + 1) (by omega) (by omega)
        · refine z_aload_n B 0 dX7_holdersOf_22 rfl rfl ?_
          refine z_iload_n B 3 dX7_holdersOf_23 rfl rfl ?_
          refine z_iload_n B 1 dX7_holdersOf_24 rfl rfl ?_
          refine z_callP (As := [.int (nI (i)), .int (nI (j))]) (st := [.int (hB (fun k => M 24 k = 0 ∧ pRe M (nI k) j) i)]) (C := RX7) (T := TX7) (N := 30) (ci := 7) (l := l) B hl (c7_reaches l D g h a M hI (nI (i)) j (by omega)) gX7_holdersOf_X7_reaches rfl ⟨rfl, rfl⟩ nm_X7_reaches ⟨by decide, by decide⟩ (fun _ h => h) 0 rfl rfl rfl (Nat.le_of_ble_eq_true rfl) dX7_holdersOf_25 (Nat.zero_le _) (Nat.zero_le _) (fun r hr => ?_)
          subst hr
          refine z_ifB_eq B 37 dX7_holdersOf_28 (by decide) (fun zc28 => ?_) (fun zc28 => ?_)
          · refine z_iconst (v := nI 0) B dX7_holdersOf_37 (by decide) ?_
            refine z_ior B dX7_holdersOf_38 ?_
            refine z_istore_n (lv1 := [(2, .int (((hB (fun k => M 24 k = 0 ∧ pRe M (nI k) j) i) ||| (nI (0))))), (0, .ref (h)), (1, .int (nI (j))), (3, .int (nI (i)))]) B dX7_holdersOf_39 rfl (by decide) rfl ?_
            refine z_iinc B 3 (lv1 := [(3, .int (nI (i + 1))), (2, .int (((hB (fun k => M 24 k = 0 ∧ pRe M (nI k) j) i) ||| (nI (0))))), (0, .ref (h)), (1, .int (nI (j)))]) dX7_holdersOf_40 rfl (nI_1 _) (by decide) rfl ?_
            refine z_goto B 4 dX7_holdersOf_43 (by decide) ?_
            refine z_loc [2, 3, 1, 0] (lv' := [(0, .ref (h)), (1, .int (nI (j))), (2, .int (((hB (fun k => M 24 k = 0 ∧ pRe M (nI k) j) i) ||| (nI (0))))), (3, .int (nI (i + 1)))]) rfl ?_
            refine z_lvc (lv' := [(0, .ref (h)), (1, .int (nI (j))), (2, .int (hB (fun k => M 24 k = 0 ∧ pRe M (nI k) j) (i + 1))), (3, .int (nI ((i + 1))))]) (by first | (rw [hB_y (P := fun k => M 24 k = 0 ∧ pRe M (nI k) j) ⟨zc19, zc28⟩]) | (rw [hB_n (P := fun k => M 24 k = 0 ∧ pRe M (nI k) j) (fun h => zc19 h.1)]) | (rw [hB_n (P := fun k => M 24 k = 0 ∧ pRe M (nI k) j) (fun h => zc28 h.2)])) ?_
            exact ih4 (i + 1) (by omega) (by omega)
          · refine z_iconst (v := nI 1) B dX7_holdersOf_31 (by decide) ?_
            refine z_iload_n B 3 dX7_holdersOf_32 rfl rfl ?_
            refine z_ishl B dX7_holdersOf_33 ?_
            refine z_goto B 38 dX7_holdersOf_34 (by decide) ?_
            refine z_ior B dX7_holdersOf_38 ?_
            refine z_istore_n (lv1 := [(2, .int (((hB (fun k => M 24 k = 0 ∧ pRe M (nI k) j) i) ||| ((nI (1)) <<< ((nI (i)) &&& 31))))), (0, .ref (h)), (1, .int (nI (j))), (3, .int (nI (i)))]) B dX7_holdersOf_39 rfl (by decide) rfl ?_
            refine z_iinc B 3 (lv1 := [(3, .int (nI (i + 1))), (2, .int (((hB (fun k => M 24 k = 0 ∧ pRe M (nI k) j) i) ||| ((nI (1)) <<< ((nI (i)) &&& 31))))), (0, .ref (h)), (1, .int (nI (j)))]) dX7_holdersOf_40 rfl (nI_1 _) (by decide) rfl ?_
            refine z_goto B 4 dX7_holdersOf_43 (by decide) ?_
            refine z_loc [2, 3, 1, 0] (lv' := [(0, .ref (h)), (1, .int (nI (j))), (2, .int (((hB (fun k => M 24 k = 0 ∧ pRe M (nI k) j) i) ||| ((nI (1)) <<< ((nI (i)) &&& 31))))), (3, .int (nI (i + 1)))]) rfl ?_
            refine z_lvc (lv' := [(0, .ref (h)), (1, .int (nI (j))), (2, .int (hB (fun k => M 24 k = 0 ∧ pRe M (nI k) j) (i + 1))), (3, .int (nI ((i + 1))))]) (by first | (rw [hB_y (P := fun k => M 24 k = 0 ∧ pRe M (nI k) j) ⟨zc19, zc28⟩]) | (rw [hB_n (P := fun k => M 24 k = 0 ∧ pRe M (nI k) j) (fun h => zc19 h.1)]) | (rw [hB_n (P := fun k => M 24 k = 0 ∧ pRe M (nI k) j) (fun h => zc28 h.2)])) ?_
            exact ih4 (i + 1) (by omega) (by omega)
  refine z_loc [2, 3, 1, 0] (lv' := [(0, .ref (h)), (1, .int (nI (j))), (2, .int (nI (0))), (3, .int (nI (0)))]) rfl ?_
  refine z_lvc (lv' := [(0, .ref (h)), (1, .int (nI (j))), (2, .int (hB (fun k => M 24 k = 0 ∧ pRe M (nI k) j) 0)), (3, .int (nI (0)))]) (by rfl) ?_
  exact loop4 (mK M + 1) 0 (by omega) (by omega)
theorem fw_X7_may_X7 : zF wsX7_may RX7 TX7 30 := fun _ h => List.mem_cons_of_mem _ (List.mem_append_right _ (h))
set_option maxHeartbeats 4000000 in
set_option maxRecDepth 100000 in
theorem c7_may (l : Launch) (D : va_G) (g : zG) (h : Nat) (a : Nat → Nat) (M : zMS) (hI : MI M) (c : Nat) (hc : c < 8) (j : Nat) (hj : j < 80) : zPure l yX7_may wsX7_may { frames := 3, cells := 0, slots := 0, locals := 70 } D (zT g) (wM g h a M) [.ref h, .int (nI (c)), .int (nI (j))] (fun r => r = bI (pMay M c j)) := by
  refine zPure_of (cc := cX7_may) (maxL := 3) (ret := (some .boolean)) (own := RX7) [(0, .ref (h)), (1, .int (nI (c))), (2, .int (nI (j)))] (by decide) rfl rfl rfl (Nat.le_of_ble_eq_true rfl) ?_
  intro X hl B hr
  obtain ⟨b5, b2, b15, b23, b25, b1⟩ := MI_bs hI
  refine z_aload_n B 0 dX7_may_0 rfl rfl ?_
  refine z_get (C := RX7) (T := TX7) (N := 30) (v := .ref (a 24)) B 0 24 1 fw_X7_may_X7 rfl rfl (by decide) rfl rfl rfl dX7_may_1 ?_
  refine z_iload_n B 1 dX7_may_4 rfl rfl ?_
  refine z_zald (g := (M 24)) (i := c) B 19 1 rfl rfl (by omega) (by decide) dX7_may_5 ?_
  refine z_if_ne B 35 dX7_may_6 (by decide) (fun zc6 => ?_) (fun zc6 => ?_)
  · refine z_iconst (v := nI 0) B dX7_may_35 (by decide) ?_
    exact z_pret B hr dX7_may_36 (nar_b (Or.inl rfl)) (by refine bI_z ?_; first | exact fun h => zc6 h.1 | exact fun h => zc14 h.2.1 | exact fun h => zc28 h.2.2)
  · refine z_aload_n B 0 dX7_may_9 rfl rfl ?_
    refine z_iload_n B 2 dX7_may_10 rfl rfl ?_
    refine z_callP (As := [.int (nI (j))]) (st := []) (C := RX7) (T := TX7) (N := 30) (ci := 7) (l := l) B hl (c7_isTrueInBook l D g h a M hI j (by omega)) gX7_may_X7_isTrueInBook rfl ⟨rfl, rfl⟩ nm_X7_isTrueInBook ⟨by decide, by decide⟩ (fun _ h => h) 0 rfl rfl rfl (Nat.le_of_ble_eq_true rfl) dX7_may_11 (Nat.zero_le _) (Nat.zero_le _) (fun r hr => ?_)
    subst hr
    refine z_ifB_eq B 35 dX7_may_14 (by decide) (fun zc14 => ?_) (fun zc14 => ?_)
    · refine z_iconst (v := nI 0) B dX7_may_35 (by decide) ?_
      exact z_pret B hr dX7_may_36 (nar_b (Or.inl rfl)) (by refine bI_z ?_; first | exact fun h => zc6 h.1 | exact fun h => zc14 h.2.1 | exact fun h => zc28 h.2.2)
    · refine z_aload_n B 0 dX7_may_17 rfl rfl ?_
      refine z_iload_n B 2 dX7_may_18 rfl rfl ?_
      refine z_callP (As := [.int (nI (j))]) (st := []) (C := RX7) (T := TX7) (N := 30) (ci := 7) (l := l) B hl (c7_holdersOf l D g h a M hI j (by omega)) gX7_may_X7_holdersOf rfl ⟨rfl, rfl⟩ nm_X7_holdersOf ⟨by decide, by decide⟩ (fun _ h => h) 0 rfl rfl rfl (Nat.le_of_ble_eq_true rfl) dX7_may_19 (Nat.zero_le _) (Nat.zero_le _) (fun r hr => ?_)
      subst hr
      refine z_iconst (v := nI 1) B dX7_may_22 (by decide) ?_
      refine z_iload_n B 1 dX7_may_23 rfl rfl ?_
      refine z_ishl B dX7_may_24 ?_
      refine z_iconst (v := (-1)) B dX7_may_25 (by decide) ?_
      refine z_ixor B dX7_may_26 ?_
      refine z_iand B dX7_may_27 ?_
      refine z_if_ne B 35 dX7_may_28 (by decide) (fun zc28 => ?_) (fun zc28 => ?_)
      · refine z_iconst (v := nI 0) B dX7_may_35 (by decide) ?_
        exact z_pret B hr dX7_may_36 (nar_b (Or.inl rfl)) (by refine bI_z ?_; first | exact fun h => zc6 h.1 | exact fun h => zc14 h.2.1 | exact fun h => zc28 h.2.2)
      · refine z_iconst (v := nI 1) B dX7_may_31 (by decide) ?_
        refine z_goto B 36 dX7_may_32 (by decide) ?_
        exact z_pret B hr dX7_may_36 (nar_b (Or.inr rfl)) (by refine bI_1 ?_; first | exact ⟨zc6, zc14, zc28⟩)
set_option maxHeartbeats 4000000 in
set_option maxRecDepth 100000 in
theorem c7_marked (l : Launch) (D : va_G) (g : zG) (h : Nat) (a : Nat → Nat) (M : zMS) (x : Int32) (y : Int32) : zPure l yX7_marked wsX7_marked { frames := 0, cells := 0, slots := 0, locals := 0 } D (zT g) (wM g h a M) [.int (x), .int (y)] (fun r => r = nMk x y) := by
  refine zPure_of (cc := cX7_marked) (maxL := 2) (ret := (some .int)) (own := RX7) [(0, .int (x)), (1, .int (y))] (by decide) rfl rfl rfl (Nat.le_of_ble_eq_true rfl) ?_
  intro X hl B hr
  refine z_sipush (v := nI 131) B dX7_marked_0 (by decide) ?_
  refine z_iload_n B 0 dX7_marked_3 rfl rfl ?_
  refine z_imul B dX7_marked_4 ?_
  refine z_bipush (v := nI 17) B dX7_marked_5 (by decide) ?_
  refine z_iload_n B 1 dX7_marked_7 rfl rfl ?_
  refine z_imul B dX7_marked_8 ?_
  refine z_iadd B dX7_marked_9 ?_
  refine z_bipush (v := nI 7) B dX7_marked_10 (by decide) ?_
  refine z_iadd B dX7_marked_12 ?_
  refine z_ldc (v := (1000003)) B 1 rfl dX7_marked_13 ?_
  refine z_irem B dX7_marked_15 (by decide) ?_
  exact z_pret B hr dX7_marked_16 rfl (by rfl)
theorem fw_X7_markOf_X7 : zF wsX7_markOf RX7 TX7 30 := fun _ h => List.mem_cons_of_mem _ (List.mem_append_right _ (h))
set_option maxHeartbeats 4000000 in
set_option maxRecDepth 100000 in
theorem c7_markOf (l : Launch) (D : va_G) (g : zG) (h : Nat) (a : Nat → Nat) (M : zMS) (hI : MI M) (j : Nat) (hj : j < 80) : zPure l yX7_markOf wsX7_markOf { frames := 1, cells := 0, slots := 0, locals := 21 } D (zT g) (wM g h a M) [.ref h, .int (nI (j))] (fun r => r = mkP M j) := by
  refine zPure_of (cc := cX7_markOf) (maxL := 4) (ret := (some .int)) (own := RX7) [(0, .ref (h)), (1, .int (nI (j)))] (by decide) rfl rfl rfl (Nat.le_of_ble_eq_true rfl) ?_
  intro X hl B hr
  obtain ⟨b5, b2, b15, b23, b25, b1⟩ := MI_bs hI
  refine z_iconst (v := nI 1) B dX7_markOf_0 (by decide) ?_
  refine z_aload_n B 0 dX7_markOf_1 rfl rfl ?_
  refine z_get (C := RX7) (T := TX7) (N := 30) (v := .ref (a 6)) B 0 6 1 fw_X7_markOf_X7 rfl rfl (by decide) rfl rfl rfl dX7_markOf_2 ?_
  refine z_iload_n B 1 dX7_markOf_5 rfl rfl ?_
  refine z_iald (g := (M 6)) (i := j) B 3 0 rfl rfl (by omega) (by decide) dX7_markOf_6 ?_
  refine z_callS (As := [.int (nI (1)), .int (M 6 j)]) (st := []) (l := l) B hl (c7_marked l D g h a M (nI (1)) (M 6 j)) gX7_markOf_X7_marked rfl ⟨rfl, rfl⟩ nm_X7_marked ⟨by decide, by decide⟩ (fun _ h => h) rfl (Nat.le_of_ble_eq_true rfl) dX7_markOf_7 (Nat.zero_le _) (Nat.zero_le _) (fun r hr => ?_)
  subst hr
  refine z_aload_n B 0 dX7_markOf_10 rfl rfl ?_
  refine z_get (C := RX7) (T := TX7) (N := 30) (v := .ref (a 7)) B 0 7 2 fw_X7_markOf_X7 rfl rfl (by decide) rfl rfl rfl dX7_markOf_11 ?_
  refine z_iload_n B 1 dX7_markOf_14 rfl rfl ?_
  refine z_iald (g := (M 7)) (i := j) B 4 0 rfl rfl (by omega) (by decide) dX7_markOf_15 ?_
  refine z_callS (As := [.int (nMk (nI (1)) (M 6 j)), .int (M 7 j)]) (st := []) (l := l) B hl (c7_marked l D g h a M (nMk (nI (1)) (M 6 j)) (M 7 j)) gX7_markOf_X7_marked rfl ⟨rfl, rfl⟩ nm_X7_marked ⟨by decide, by decide⟩ (fun _ h => h) rfl (Nat.le_of_ble_eq_true rfl) dX7_markOf_16 (Nat.zero_le _) (Nat.zero_le _) (fun r hr => ?_)
  subst hr
  refine z_istore_n (lv1 := [(2, .int (nMk (nMk (nI (1)) (M 6 j)) (M 7 j))), (0, .ref (h)), (1, .int (nI (j)))]) B dX7_markOf_19 rfl (by decide) rfl ?_
  refine z_iconst (v := nI 4) B dX7_markOf_20 (by decide) ?_
  refine z_iload_n B 2 dX7_markOf_21 rfl rfl ?_
  refine z_imulN B dX7_markOf_22 ?_
  refine z_istore_n (lv1 := [(3, .int (nI (4 * j))), (2, .int (nMk (nMk (nI (1)) (M 6 j)) (M 7 j))), (0, .ref (h)), (1, .int (nI (j)))]) B dX7_markOf_23 rfl (by decide) rfl ?_
  have bL := MI_b8 hI j
  have loop24 : ∀ (n0 i : Nat), i ≤ mL M j → mL M j + 1 ≤ i + n0 → zJ X 4 (zI0 D (zs X)) (zQe X (vp_Si (fun r => r = mkP M j)) 0 0 (fun _ => False)) (wM g h a M) 0 0 [(0, .ref (h)), (1, .int (nI (j))), (2, .int (fMk (fun l => M 9 (4 * j + l)) (fun l => M 10 (4 * j + l)) (nMk (nMk (nI 1) (M 6 j)) (M 7 j)) i)), (3, .int (nI (4 * j + i)))] 24 [] := by
    intro n24
    induction n24 with
    | zero => intro i h1 h2; exact absurd h2 (by omega)
    | succ n24 ih24 =>
      intro i hle24 hn24
      refine z_iload_n B 3 dX7_markOf_24 rfl rfl ?_
      refine z_iconst (v := nI 4) B dX7_markOf_25 (by decide) ?_
      refine z_iload_n B 1 dX7_markOf_26 rfl rfl ?_
      refine z_imulN B dX7_markOf_27 ?_
      refine z_aload_n B 0 dX7_markOf_28 rfl rfl ?_
      refine z_get (C := RX7) (T := TX7) (N := 30) (v := .ref (a 8)) B 0 8 3 fw_X7_markOf_X7 rfl rfl (by decide) rfl rfl rfl dX7_markOf_29 ?_
      refine z_iload_n B 1 dX7_markOf_32 rfl rfl ?_
      refine z_iald (g := (M 8)) (i := j) B 5 0 rfl rfl (by omega) (by decide) dX7_markOf_33 ?_
      refine z_top (y := nI (mL M j)) (MI_8 hI _) ?_
      have := MI_b8 hI j
      refine z_iaddN B dX7_markOf_34 ?_
      refine z_icmpN_ge B 68 dX7_markOf_35 (by decide) (by omega) (by omega) (fun zc35 => ?_) (fun zc35 => ?_)
      · obtain rfl : i = mL M j := by omega
        refine z_iload_n B 2 dX7_markOf_68 rfl rfl ?_
        exact z_pret B hr dX7_markOf_69 rfl (by rfl)
      · refine z_iload_n B 2 dX7_markOf_38 rfl rfl ?_
        refine z_aload_n B 0 dX7_markOf_39 rfl rfl ?_
        refine z_get (C := RX7) (T := TX7) (N := 30) (v := .ref (a 9)) B 0 9 4 fw_X7_markOf_X7 rfl rfl (by decide) rfl rfl rfl dX7_markOf_40 ?_
        refine z_iload_n B 3 dX7_markOf_43 rfl rfl ?_
        refine z_iald (g := (M 9)) (i := 4 * j + i) B 6 0 rfl rfl (by omega) (by decide) dX7_markOf_44 ?_
        refine z_callS (As := [.int (fMk (fun l => M 9 (4 * j + l)) (fun l => M 10 (4 * j + l)) (nMk (nMk (nI 1) (M 6 j)) (M 7 j)) i), .int (M 9 (4 * j + i))]) (st := []) (l := l) B hl (c7_marked l D g h a M (fMk (fun l => M 9 (4 * j + l)) (fun l => M 10 (4 * j + l)) (nMk (nMk (nI 1) (M 6 j)) (M 7 j)) i) (M 9 (4 * j + i))) gX7_markOf_X7_marked rfl ⟨rfl, rfl⟩ nm_X7_marked ⟨by decide, by decide⟩ (fun _ h => h) rfl (Nat.le_of_ble_eq_true rfl) dX7_markOf_45 (Nat.zero_le _) (Nat.zero_le _) (fun r hr => ?_)
        subst hr
        refine z_aload_n B 0 dX7_markOf_48 rfl rfl ?_
        refine z_get (C := RX7) (T := TX7) (N := 30) (v := .ref (a 10)) B 0 10 5 fw_X7_markOf_X7 rfl rfl (by decide) rfl rfl rfl dX7_markOf_49 ?_
        refine z_iload_n B 3 dX7_markOf_52 rfl rfl ?_
        refine z_iald (g := (M 10)) (i := 4 * j + i) B 7 0 rfl rfl (by omega) (by decide) dX7_markOf_53 ?_
        refine z_sipush (v := nI 10000) B dX7_markOf_54 (by decide) ?_
        refine z_iadd B dX7_markOf_57 ?_
        refine z_callS (As := [.int (nMk (fMk (fun l => M 9 (4 * j + l)) (fun l => M 10 (4 * j + l)) (nMk (nMk (nI 1) (M 6 j)) (M 7 j)) i) (M 9 (4 * j + i))), .int (((M 10 (4 * j + i)) + (nI (10000))))]) (st := []) (l := l) B hl (c7_marked l D g h a M (nMk (fMk (fun l => M 9 (4 * j + l)) (fun l => M 10 (4 * j + l)) (nMk (nMk (nI 1) (M 6 j)) (M 7 j)) i) (M 9 (4 * j + i))) ((M 10 (4 * j + i)) + (nI (10000)))) gX7_markOf_X7_marked rfl ⟨rfl, rfl⟩ nm_X7_marked ⟨by decide, by decide⟩ (fun _ h => h) rfl (Nat.le_of_ble_eq_true rfl) dX7_markOf_58 (Nat.zero_le _) (Nat.zero_le _) (fun r hr => ?_)
        subst hr
        refine z_istore_n (lv1 := [(2, .int (nMk (nMk (fMk (fun l => M 9 (4 * j + l)) (fun l => M 10 (4 * j + l)) (nMk (nMk (nI 1) (M 6 j)) (M 7 j)) i) (M 9 (4 * j + i))) ((M 10 (4 * j + i)) + (nI (10000))))), (0, .ref (h)), (1, .int (nI (j))), (3, .int (nI (4 * j + i)))]) B dX7_markOf_61 rfl (by decide) rfl ?_
        refine z_iinc B 3 (lv1 := [(3, .int (nI (4 * j + i + 1))), (2, .int (nMk (nMk (fMk (fun l => M 9 (4 * j + l)) (fun l => M 10 (4 * j + l)) (nMk (nMk (nI 1) (M 6 j)) (M 7 j)) i) (M 9 (4 * j + i))) ((M 10 (4 * j + i)) + (nI (10000))))), (0, .ref (h)), (1, .int (nI (j)))]) dX7_markOf_62 rfl (nI_1 _) (by decide) rfl ?_
        refine z_goto B 24 dX7_markOf_65 (by decide) ?_
        refine z_loc [2, 3, 1, 0] (lv' := [(0, .ref (h)), (1, .int (nI (j))), (2, .int (nMk (nMk (fMk (fun l => M 9 (4 * j + l)) (fun l => M 10 (4 * j + l)) (nMk (nMk (nI 1) (M 6 j)) (M 7 j)) i) (M 9 (4 * j + i))) ((M 10 (4 * j + i)) + (nI (10000))))), (3, .int (nI (4 * j + i + 1)))]) rfl ?_
        refine z_lvc (lv' := [(0, .ref (h)), (1, .int (nI (j))), (2, .int (fMk (fun l => M 9 (4 * j + l)) (fun l => M 10 (4 * j + l)) (nMk (nMk (nI 1) (M 6 j)) (M 7 j)) (i + 1))), (3, .int (nI (4 * j + (i + 1))))]) (by rfl) ?_
        exact ih24 (i + 1) (by omega) (by omega)
  refine z_loc [2, 3, 1, 0] (lv' := [(0, .ref (h)), (1, .int (nI (j))), (2, .int (nMk (nMk (nI (1)) (M 6 j)) (M 7 j))), (3, .int (nI (4 * j)))]) rfl ?_
  refine z_lvc (lv' := [(0, .ref (h)), (1, .int (nI (j))), (2, .int (fMk (fun l => M 9 (4 * j + l)) (fun l => M 10 (4 * j + l)) (nMk (nMk (nI 1) (M 6 j)) (M 7 j)) 0)), (3, .int (nI (4 * j + 0)))]) (by rfl) ?_
  exact loop24 (mL M j + 1) 0 (by omega) (by omega)
theorem fw_X7_sumOf_X7 : zF wsX7_sumOf RX7 TX7 30 := fun _ h => List.mem_cons_of_mem _ (List.mem_append_right _ (h))
set_option maxHeartbeats 4000000 in
set_option maxRecDepth 100000 in
theorem c7_sumOf_B (l : Launch) (D : va_G) (g : zG) (h : Nat) (a : Nat → Nat) (M : zMS) (hI : MI M) (j : Nat) (hj : j < 80) (x : Int32) : zPure l yX7_sumOf wsX7_sumOf { frames := 0, cells := 0, slots := 0, locals := 0 } D (zT g) (wM g h a M) [.ref h, .int (nI (j)), .int (x), .int (nI (0))] (fun r => r = sOf M (M 11) j x) := by
  refine zPure_of (cc := cX7_sumOf) (maxL := 7) (ret := (some .int)) (own := RX7) [(0, .ref (h)), (1, .int (nI (j))), (2, .int (x)), (3, .int (nI (0)))] (by decide) rfl rfl rfl (Nat.le_of_ble_eq_true rfl) ?_
  intro X hl B hr
  obtain ⟨b5, b2, b15, b23, b25, b1⟩ := MI_bs hI
  refine z_iconst (v := nI 0) B dX7_sumOf_0 (by decide) ?_
  refine z_istore (lv1 := [(4, .int (nI (0))), (0, .ref (h)), (1, .int (nI (j))), (2, .int (x)), (3, .int (nI (0)))]) B dX7_sumOf_1 (by decide) rfl ?_
  refine z_iconst (v := nI 4) B dX7_sumOf_3 (by decide) ?_
  refine z_iload_n B 2 dX7_sumOf_4 rfl rfl ?_
  refine z_imulN B dX7_sumOf_5 ?_
  refine z_istore (lv1 := [(5, .int (nI (4 * j))), (4, .int (nI (0))), (0, .ref (h)), (1, .int (nI (j))), (2, .int (x)), (3, .int (nI (0)))]) B dX7_sumOf_6 (by decide) rfl ?_
  have bL := MI_b8 hI j
  have loop8 : ∀ (n0 i : Nat), i ≤ mL M j → mL M j + 1 ≤ i + n0 → zJ X 7 (zI0 D (zs X)) (zQe X (vp_Si (fun r => r = sOf M (M 11) j x)) 0 0 (fun _ => False)) (wM g h a M) 0 0 [(0, .ref (h)), (1, .int (nI (j))), (2, .int (x)), (3, .int (nI (0))), (4, .int (zsum (fun l => ifI (M 9 (4 * j + l) = x) (M 11 (4 * j + l)) (nI 0)) i)), (5, .int (nI (4 * j + i)))] 8 [] := by
    intro n8
    induction n8 with
    | zero => intro i h1 h2; exact absurd h2 (by omega)
    | succ n8 ih8 =>
      intro i hle8 hn8
      refine z_iload B 5 dX7_sumOf_8 rfl ?_
      refine z_iconst (v := nI 4) B dX7_sumOf_10 (by decide) ?_
      refine z_iload_n B 1 dX7_sumOf_11 rfl rfl ?_
      refine z_imulN B dX7_sumOf_12 ?_
      refine z_aload_n B 0 dX7_sumOf_13 rfl rfl ?_
      refine z_get (C := RX7) (T := TX7) (N := 30) (v := .ref (a 8)) B 0 8 1 fw_X7_sumOf_X7 rfl rfl (by decide) rfl rfl rfl dX7_sumOf_14 ?_
      refine z_iload_n B 1 dX7_sumOf_17 rfl rfl ?_
      refine z_iald (g := (M 8)) (i := j) B 5 0 rfl rfl (by omega) (by decide) dX7_sumOf_18 ?_
      refine z_top (y := nI (mL M j)) (MI_8 hI _) ?_
      have := MI_b8 hI j
      refine z_iaddN B dX7_sumOf_19 ?_
      refine z_icmpN_ge B 74 dX7_sumOf_20 (by decide) (by omega) (by omega) (fun zc20 => ?_) (fun zc20 => ?_)
      · obtain rfl : i = mL M j := by omega
        refine z_iload B 4 dX7_sumOf_74 rfl ?_
        exact z_pret B hr dX7_sumOf_76 rfl (by rfl)
      · refine z_iload_n B 3 dX7_sumOf_23 rfl rfl ?_
        refine z_if_eq B 37 dX7_sumOf_24 (by decide) (fun _ => ?_) (fun h => absurd h (by decide))
        refine z_aload_n B 0 dX7_sumOf_37 rfl rfl ?_
        refine z_get (C := RX7) (T := TX7) (N := 30) (v := .ref (a 11)) B 0 11 3 fw_X7_sumOf_X7 rfl rfl (by decide) rfl rfl rfl dX7_sumOf_38 ?_
        refine z_iload B 5 dX7_sumOf_41 rfl ?_
        refine z_iald (g := (M 11)) (i := 4 * j + i) B 8 0 rfl rfl (by omega) (by decide) dX7_sumOf_43 ?_
        refine z_istore (lv1 := [(6, .int (M 11 (4 * j + i))), (0, .ref (h)), (1, .int (nI (j))), (2, .int (x)), (3, .int (nI (0))), (4, .int (zsum (fun l => ifI (M 9 (4 * j + l) = x) (M 11 (4 * j + l)) (nI 0)) i)), (5, .int (nI (4 * j + i)))]) B dX7_sumOf_44 (by decide) rfl ?_
        refine z_iload B 5 dX7_sumOf_46 rfl ?_
        refine z_aload_n B 1 dX7_sumOf_48 rfl rfl ?_
        refine z_get (C := RX7) (T := TX7) (N := 30) (v := .ref (a 9)) B 0 9 4 fw_X7_sumOf_X7 rfl rfl (by decide) rfl rfl rfl dX7_sumOf_49 ?_
        refine z_iload B 6 dX7_sumOf_52 rfl ?_
        refine z_iald (g := (M 9)) (i := 4 * j + i) B 6 0 rfl rfl (by omega) (by decide) dX7_sumOf_54 ?_
        refine z_iload_n B 3 dX7_sumOf_55 rfl rfl ?_
        refine z_icmp_ne B 64 dX7_sumOf_56 (by decide) (fun zc56 => ?_) (fun zc56 => ?_)
        · refine z_iconst (v := nI 0) B dX7_sumOf_64 (by decide) ?_
          refine z_iadd B dX7_sumOf_65 ?_
          refine z_istore (lv1 := [(4, .int (((zsum (fun l => ifI (M 9 (4 * j + l) = x) (M 11 (4 * j + l)) (nI 0)) i) + (nI (0))))), (6, .int (M 11 (4 * j + i))), (0, .ref (h)), (1, .int (nI (j))), (2, .int (x)), (3, .int (nI (0))), (5, .int (nI (4 * j + i)))]) B dX7_sumOf_66 (by decide) rfl ?_
          refine z_iinc B 6 (lv1 := [(5, .int (nI (4 * j + i + 1))), (4, .int (((zsum (fun l => ifI (M 9 (4 * j + l) = x) (M 11 (4 * j + l)) (nI 0)) i) + (nI (0))))), (6, .int (M 11 (4 * j + i))), (0, .ref (h)), (1, .int (nI (j))), (2, .int (x)), (3, .int (nI (0)))]) dX7_sumOf_68 rfl (nI_1 _) (by decide) rfl ?_
          refine z_goto B 8 dX7_sumOf_71 (by decide) ?_
          refine z_loc [3, 4, 5, 6, 1, 0] (lv' := [(0, .ref (h)), (1, .int (nI (j))), (2, .int (x)), (3, .int (nI (0))), (4, .int (((zsum (fun l => ifI (M 9 (4 * j + l) = x) (M 11 (4 * j + l)) (nI 0)) i) + (nI (0))))), (5, .int (nI (4 * j + i + 1)))]) rfl ?_
          refine z_lvc (lv' := [(0, .ref (h)), (1, .int (nI (j))), (2, .int (x)), (3, .int (nI (0))), (4, .int (zsum (fun l => ifI (M 9 (4 * j + l) = x) (M 11 (4 * j + l)) (nI 0)) (i + 1))), (5, .int (nI (4 * j + (i + 1))))]) (by first | (rw [zsum, ifI_t zc56]; rfl) | (rw [zsum, ifI_f zc56]; rfl)) ?_
          exact ih8 (i + 1) (by omega) (by omega)
        · refine z_iload B 0 dX7_sumOf_59 rfl ?_
          refine z_goto B 65 dX7_sumOf_61 (by decide) ?_
          refine z_iadd B dX7_sumOf_65 ?_
          refine z_istore (lv1 := [(4, .int (((zsum (fun l => ifI (M 9 (4 * j + l) = x) (M 11 (4 * j + l)) (nI 0)) i) + (M 11 (4 * j + i))))), (6, .int (M 11 (4 * j + i))), (0, .ref (h)), (1, .int (nI (j))), (2, .int (x)), (3, .int (nI (0))), (5, .int (nI (4 * j + i)))]) B dX7_sumOf_66 (by decide) rfl ?_
          refine z_iinc B 6 (lv1 := [(5, .int (nI (4 * j + i + 1))), (4, .int (((zsum (fun l => ifI (M 9 (4 * j + l) = x) (M 11 (4 * j + l)) (nI 0)) i) + (M 11 (4 * j + i))))), (6, .int (M 11 (4 * j + i))), (0, .ref (h)), (1, .int (nI (j))), (2, .int (x)), (3, .int (nI (0)))]) dX7_sumOf_68 rfl (nI_1 _) (by decide) rfl ?_
          refine z_goto B 8 dX7_sumOf_71 (by decide) ?_
          refine z_loc [3, 4, 5, 6, 1, 0] (lv' := [(0, .ref (h)), (1, .int (nI (j))), (2, .int (x)), (3, .int (nI (0))), (4, .int (((zsum (fun l => ifI (M 9 (4 * j + l) = x) (M 11 (4 * j + l)) (nI 0)) i) + (M 11 (4 * j + i))))), (5, .int (nI (4 * j + i + 1)))]) rfl ?_
          refine z_lvc (lv' := [(0, .ref (h)), (1, .int (nI (j))), (2, .int (x)), (3, .int (nI (0))), (4, .int (zsum (fun l => ifI (M 9 (4 * j + l) = x) (M 11 (4 * j + l)) (nI 0)) (i + 1))), (5, .int (nI (4 * j + (i + 1))))]) (by first | (rw [zsum, ifI_t zc56]; rfl) | (rw [zsum, ifI_f zc56]; rfl)) ?_
          exact ih8 (i + 1) (by omega) (by omega)
  refine z_loc [2, 3, 4, 5, 1, 0] (lv' := [(0, .ref (h)), (1, .int (nI (j))), (2, .int (x)), (3, .int (nI (0))), (4, .int (nI (0))), (5, .int (nI (4 * j)))]) rfl ?_
  refine z_lvc (lv' := [(0, .ref (h)), (1, .int (nI (j))), (2, .int (x)), (3, .int (nI (0))), (4, .int (zsum (fun l => ifI (M 9 (4 * j + l) = x) (M 11 (4 * j + l)) (nI 0)) 0)), (5, .int (nI (4 * j + 0)))]) (by rfl) ?_
  exact loop8 (mL M j + 1) 0 (by omega) (by omega)
set_option maxHeartbeats 4000000 in
set_option maxRecDepth 100000 in
theorem c7_sumOf_W (l : Launch) (D : va_G) (g : zG) (h : Nat) (a : Nat → Nat) (M : zMS) (hI : MI M) (j : Nat) (hj : j < 80) (x : Int32) : zPure l yX7_sumOf wsX7_sumOf { frames := 0, cells := 0, slots := 0, locals := 0 } D (zT g) (wM g h a M) [.ref h, .int (nI (j)), .int (x), .int (nI (1))] (fun r => r = sOf M (M 10) j x) := by
  refine zPure_of (cc := cX7_sumOf) (maxL := 7) (ret := (some .int)) (own := RX7) [(0, .ref (h)), (1, .int (nI (j))), (2, .int (x)), (3, .int (nI (1)))] (by decide) rfl rfl rfl (Nat.le_of_ble_eq_true rfl) ?_
  intro X hl B hr
  obtain ⟨b5, b2, b15, b23, b25, b1⟩ := MI_bs hI
  refine z_iconst (v := nI 0) B dX7_sumOf_0 (by decide) ?_
  refine z_istore (lv1 := [(4, .int (nI (0))), (0, .ref (h)), (1, .int (nI (j))), (2, .int (x)), (3, .int (nI (1)))]) B dX7_sumOf_1 (by decide) rfl ?_
  refine z_iconst (v := nI 4) B dX7_sumOf_3 (by decide) ?_
  refine z_iload_n B 2 dX7_sumOf_4 rfl rfl ?_
  refine z_imulN B dX7_sumOf_5 ?_
  refine z_istore (lv1 := [(5, .int (nI (4 * j))), (4, .int (nI (0))), (0, .ref (h)), (1, .int (nI (j))), (2, .int (x)), (3, .int (nI (1)))]) B dX7_sumOf_6 (by decide) rfl ?_
  have bL := MI_b8 hI j
  have loop8 : ∀ (n0 i : Nat), i ≤ mL M j → mL M j + 1 ≤ i + n0 → zJ X 7 (zI0 D (zs X)) (zQe X (vp_Si (fun r => r = sOf M (M 10) j x)) 0 0 (fun _ => False)) (wM g h a M) 0 0 [(0, .ref (h)), (1, .int (nI (j))), (2, .int (x)), (3, .int (nI (1))), (4, .int (zsum (fun l => ifI (M 9 (4 * j + l) = x) (M 10 (4 * j + l)) (nI 0)) i)), (5, .int (nI (4 * j + i)))] 8 [] := by
    intro n8
    induction n8 with
    | zero => intro i h1 h2; exact absurd h2 (by omega)
    | succ n8 ih8 =>
      intro i hle8 hn8
      refine z_iload B 5 dX7_sumOf_8 rfl ?_
      refine z_iconst (v := nI 4) B dX7_sumOf_10 (by decide) ?_
      refine z_iload_n B 1 dX7_sumOf_11 rfl rfl ?_
      refine z_imulN B dX7_sumOf_12 ?_
      refine z_aload_n B 0 dX7_sumOf_13 rfl rfl ?_
      refine z_get (C := RX7) (T := TX7) (N := 30) (v := .ref (a 8)) B 0 8 1 fw_X7_sumOf_X7 rfl rfl (by decide) rfl rfl rfl dX7_sumOf_14 ?_
      refine z_iload_n B 1 dX7_sumOf_17 rfl rfl ?_
      refine z_iald (g := (M 8)) (i := j) B 5 0 rfl rfl (by omega) (by decide) dX7_sumOf_18 ?_
      refine z_top (y := nI (mL M j)) (MI_8 hI _) ?_
      have := MI_b8 hI j
      refine z_iaddN B dX7_sumOf_19 ?_
      refine z_icmpN_ge B 74 dX7_sumOf_20 (by decide) (by omega) (by omega) (fun zc20 => ?_) (fun zc20 => ?_)
      · obtain rfl : i = mL M j := by omega
        refine z_iload B 4 dX7_sumOf_74 rfl ?_
        exact z_pret B hr dX7_sumOf_76 rfl (by rfl)
      · refine z_iload_n B 3 dX7_sumOf_23 rfl rfl ?_
        refine z_if_eq B 37 dX7_sumOf_24 (by decide) (fun h => absurd h (by decide)) (fun _ => ?_)
        refine z_aload_n B 0 dX7_sumOf_27 rfl rfl ?_
        refine z_get (C := RX7) (T := TX7) (N := 30) (v := .ref (a 10)) B 0 10 2 fw_X7_sumOf_X7 rfl rfl (by decide) rfl rfl rfl dX7_sumOf_28 ?_
        refine z_iload B 5 dX7_sumOf_31 rfl ?_
        refine z_iald (g := (M 10)) (i := 4 * j + i) B 7 0 rfl rfl (by omega) (by decide) dX7_sumOf_33 ?_
        refine z_goto B 44 dX7_sumOf_34 (by decide) ?_
        refine z_istore (lv1 := [(6, .int (M 10 (4 * j + i))), (0, .ref (h)), (1, .int (nI (j))), (2, .int (x)), (3, .int (nI (1))), (4, .int (zsum (fun l => ifI (M 9 (4 * j + l) = x) (M 10 (4 * j + l)) (nI 0)) i)), (5, .int (nI (4 * j + i)))]) B dX7_sumOf_44 (by decide) rfl ?_
        refine z_iload B 5 dX7_sumOf_46 rfl ?_
        refine z_aload_n B 1 dX7_sumOf_48 rfl rfl ?_
        refine z_get (C := RX7) (T := TX7) (N := 30) (v := .ref (a 9)) B 0 9 4 fw_X7_sumOf_X7 rfl rfl (by decide) rfl rfl rfl dX7_sumOf_49 ?_
        refine z_iload B 6 dX7_sumOf_52 rfl ?_
        refine z_iald (g := (M 9)) (i := 4 * j + i) B 6 0 rfl rfl (by omega) (by decide) dX7_sumOf_54 ?_
        refine z_iload_n B 3 dX7_sumOf_55 rfl rfl ?_
        refine z_icmp_ne B 64 dX7_sumOf_56 (by decide) (fun zc56 => ?_) (fun zc56 => ?_)
        · refine z_iconst (v := nI 0) B dX7_sumOf_64 (by decide) ?_
          refine z_iadd B dX7_sumOf_65 ?_
          refine z_istore (lv1 := [(4, .int (((zsum (fun l => ifI (M 9 (4 * j + l) = x) (M 10 (4 * j + l)) (nI 0)) i) + (nI (0))))), (6, .int (M 10 (4 * j + i))), (0, .ref (h)), (1, .int (nI (j))), (2, .int (x)), (3, .int (nI (1))), (5, .int (nI (4 * j + i)))]) B dX7_sumOf_66 (by decide) rfl ?_
          refine z_iinc B 6 (lv1 := [(5, .int (nI (4 * j + i + 1))), (4, .int (((zsum (fun l => ifI (M 9 (4 * j + l) = x) (M 10 (4 * j + l)) (nI 0)) i) + (nI (0))))), (6, .int (M 10 (4 * j + i))), (0, .ref (h)), (1, .int (nI (j))), (2, .int (x)), (3, .int (nI (1)))]) dX7_sumOf_68 rfl (nI_1 _) (by decide) rfl ?_
          refine z_goto B 8 dX7_sumOf_71 (by decide) ?_
          refine z_loc [3, 4, 5, 6, 1, 0] (lv' := [(0, .ref (h)), (1, .int (nI (j))), (2, .int (x)), (3, .int (nI (1))), (4, .int (((zsum (fun l => ifI (M 9 (4 * j + l) = x) (M 10 (4 * j + l)) (nI 0)) i) + (nI (0))))), (5, .int (nI (4 * j + i + 1)))]) rfl ?_
          refine z_lvc (lv' := [(0, .ref (h)), (1, .int (nI (j))), (2, .int (x)), (3, .int (nI (1))), (4, .int (zsum (fun l => ifI (M 9 (4 * j + l) = x) (M 10 (4 * j + l)) (nI 0)) (i + 1))), (5, .int (nI (4 * j + (i + 1))))]) (by first | (rw [zsum, ifI_t zc56]; rfl) | (rw [zsum, ifI_f zc56]; rfl)) ?_
          exact ih8 (i + 1) (by omega) (by omega)
        · refine z_iload B 0 dX7_sumOf_59 rfl ?_
          refine z_goto B 65 dX7_sumOf_61 (by decide) ?_
          refine z_iadd B dX7_sumOf_65 ?_
          refine z_istore (lv1 := [(4, .int (((zsum (fun l => ifI (M 9 (4 * j + l) = x) (M 10 (4 * j + l)) (nI 0)) i) + (M 10 (4 * j + i))))), (6, .int (M 10 (4 * j + i))), (0, .ref (h)), (1, .int (nI (j))), (2, .int (x)), (3, .int (nI (1))), (5, .int (nI (4 * j + i)))]) B dX7_sumOf_66 (by decide) rfl ?_
          refine z_iinc B 6 (lv1 := [(5, .int (nI (4 * j + i + 1))), (4, .int (((zsum (fun l => ifI (M 9 (4 * j + l) = x) (M 10 (4 * j + l)) (nI 0)) i) + (M 10 (4 * j + i))))), (6, .int (M 10 (4 * j + i))), (0, .ref (h)), (1, .int (nI (j))), (2, .int (x)), (3, .int (nI (1)))]) dX7_sumOf_68 rfl (nI_1 _) (by decide) rfl ?_
          refine z_goto B 8 dX7_sumOf_71 (by decide) ?_
          refine z_loc [3, 4, 5, 6, 1, 0] (lv' := [(0, .ref (h)), (1, .int (nI (j))), (2, .int (x)), (3, .int (nI (1))), (4, .int (((zsum (fun l => ifI (M 9 (4 * j + l) = x) (M 10 (4 * j + l)) (nI 0)) i) + (M 10 (4 * j + i))))), (5, .int (nI (4 * j + i + 1)))]) rfl ?_
          refine z_lvc (lv' := [(0, .ref (h)), (1, .int (nI (j))), (2, .int (x)), (3, .int (nI (1))), (4, .int (zsum (fun l => ifI (M 9 (4 * j + l) = x) (M 10 (4 * j + l)) (nI 0)) (i + 1))), (5, .int (nI (4 * j + (i + 1))))]) (by first | (rw [zsum, ifI_t zc56]; rfl) | (rw [zsum, ifI_f zc56]; rfl)) ?_
          exact ih8 (i + 1) (by omega) (by omega)
  refine z_loc [2, 3, 4, 5, 1, 0] (lv' := [(0, .ref (h)), (1, .int (nI (j))), (2, .int (x)), (3, .int (nI (1))), (4, .int (nI (0))), (5, .int (nI (4 * j)))]) rfl ?_
  refine z_lvc (lv' := [(0, .ref (h)), (1, .int (nI (j))), (2, .int (x)), (3, .int (nI (1))), (4, .int (zsum (fun l => ifI (M 9 (4 * j + l) = x) (M 10 (4 * j + l)) (nI 0)) 0)), (5, .int (nI (4 * j + 0)))]) (by rfl) ?_
  exact loop8 (mL M j + 1) 0 (by omega) (by omega)
theorem fw_X7_balanceOf_X7 : zF wsX7_balanceOf RX7 TX7 30 := fun _ h => List.mem_cons_of_mem _ (List.mem_append_right _ (h))
set_option maxHeartbeats 4000000 in
set_option maxRecDepth 100000 in
theorem c7_balanceOf (l : Launch) (D : va_G) (g : zG) (h : Nat) (a : Nat → Nat) (M : zMS) (hI : MI M) (x : Int32) (y : Int32) : zPure l yX7_balanceOf wsX7_balanceOf { frames := 1, cells := 0, slots := 0, locals := 26 } D (zT g) (wM g h a M) [.ref h, .int (x), .int (y)] (fun r => r = bOf M x y) := by
  refine zPure_of (cc := cX7_balanceOf) (maxL := 5) (ret := (some .int)) (own := RX7) [(0, .ref (h)), (1, .int (x)), (2, .int (y))] (by decide) rfl rfl rfl (Nat.le_of_ble_eq_true rfl) ?_
  intro X hl B hr
  obtain ⟨b5, b2, b15, b23, b25, b1⟩ := MI_bs hI
  refine z_iconst (v := nI 0) B dX7_balanceOf_0 (by decide) ?_
  refine z_istore_n (lv1 := [(3, .int (nI (0))), (0, .ref (h)), (1, .int (x)), (2, .int (y))]) B dX7_balanceOf_1 rfl (by decide) rfl ?_
  refine z_iconst (v := nI 0) B dX7_balanceOf_2 (by decide) ?_
  refine z_istore (lv1 := [(4, .int (nI (0))), (3, .int (nI (0))), (0, .ref (h)), (1, .int (x)), (2, .int (y))]) B dX7_balanceOf_3 (by decide) rfl ?_
  have loop5 : ∀ (n0 i : Nat), i ≤ mP M → mP M + 1 ≤ i + n0 → zJ X 5 (zI0 D (zs X)) (zQe X (vp_Si (fun r => r = bOf M x y)) 0 0 (fun _ => False)) (wM g h a M) 0 0 [(0, .ref (h)), (1, .int (x)), (2, .int (y)), (3, .int (zsum (fun p => ifI (y < M 6 p) (nI 0) (sOf M (M 10) p x)) i)), (4, .int (nI (i)))] 5 [] := by
    intro n5
    induction n5 with
    | zero => intro i h1 h2; exact absurd h2 (by omega)
    | succ n5 ih5 =>
      intro i hle5 hn5
      refine z_iload B 4 dX7_balanceOf_5 rfl ?_
      refine z_aload_n B 0 dX7_balanceOf_7 rfl rfl ?_
      refine z_get (C := RX7) (T := TX7) (N := 30) (v := .int (M 5 0)) B 0 5 1 fw_X7_balanceOf_X7 rfl rfl (by decide) rfl rfl rfl dX7_balanceOf_8 ?_
      refine z_top (y := nI (mP M)) (MI_5 hI) ?_
      refine z_icmpN_ge B 46 dX7_balanceOf_11 (by decide) (by omega) (by omega) (fun zc11 => ?_) (fun zc11 => ?_)
      · obtain rfl : i = mP M := by omega
        refine z_iload_n B 3 dX7_balanceOf_46 rfl rfl ?_
        exact z_pret B hr dX7_balanceOf_47 rfl (by rfl)
      · refine z_iload_n B 3 dX7_balanceOf_14 rfl rfl ?_
        refine z_aload_n B 0 dX7_balanceOf_15 rfl rfl ?_
        refine z_get (C := RX7) (T := TX7) (N := 30) (v := .ref (a 6)) B 0 6 2 fw_X7_balanceOf_X7 rfl rfl (by decide) rfl rfl rfl dX7_balanceOf_16 ?_
        refine z_iload B 4 dX7_balanceOf_19 rfl ?_
        refine z_iald (g := (M 6)) (i := i) B 3 0 rfl rfl (by omega) (by decide) dX7_balanceOf_21 ?_
        refine z_iload_n B 2 dX7_balanceOf_22 rfl rfl ?_
        refine z_icmp_gt B 37 dX7_balanceOf_23 (by decide) (fun zc23 => ?_) (fun zc23 => ?_)
        · refine z_iconst (v := nI 0) B dX7_balanceOf_37 (by decide) ?_
          refine z_iadd B dX7_balanceOf_38 ?_
          refine z_istore_n (lv1 := [(3, .int (((zsum (fun p => ifI (y < M 6 p) (nI 0) (sOf M (M 10) p x)) i) + (nI (0))))), (0, .ref (h)), (1, .int (x)), (2, .int (y)), (4, .int (nI (i)))]) B dX7_balanceOf_39 rfl (by decide) rfl ?_
          refine z_iinc B 4 (lv1 := [(4, .int (nI (i + 1))), (3, .int (((zsum (fun p => ifI (y < M 6 p) (nI 0) (sOf M (M 10) p x)) i) + (nI (0))))), (0, .ref (h)), (1, .int (x)), (2, .int (y))]) dX7_balanceOf_40 rfl (nI_1 _) (by decide) rfl ?_
          refine z_goto B 5 dX7_balanceOf_43 (by decide) ?_
          refine z_loc [2, 3, 4, 1, 0] (lv' := [(0, .ref (h)), (1, .int (x)), (2, .int (y)), (3, .int (((zsum (fun p => ifI (y < M 6 p) (nI 0) (sOf M (M 10) p x)) i) + (nI (0))))), (4, .int (nI (i + 1)))]) rfl ?_
          refine z_lvc (lv' := [(0, .ref (h)), (1, .int (x)), (2, .int (y)), (3, .int (zsum (fun p => ifI (y < M 6 p) (nI 0) (sOf M (M 10) p x)) (i + 1))), (4, .int (nI ((i + 1))))]) (by first | (rw [zsum, ifI_t zc23]) | (rw [zsum, ifI_f zc23])) ?_
          exact ih5 (i + 1) (by omega) (by omega)
        · refine z_aload_n B 0 dX7_balanceOf_26 rfl rfl ?_
          refine z_iload B 4 dX7_balanceOf_27 rfl ?_
          refine z_iload_n B 1 dX7_balanceOf_29 rfl rfl ?_
          refine z_iconst (v := nI 1) B dX7_balanceOf_30 (by decide) ?_
          refine z_callP (As := [.int (nI (i)), .int (x), .int (nI (1))]) (st := [.int (zsum (fun p => ifI (y < M 6 p) (nI 0) (sOf M (M 10) p x)) i)]) (C := RX7) (T := TX7) (N := 30) (ci := 7) (l := l) B hl (c7_sumOf_W l D g h a M hI i (by omega) x) gX7_balanceOf_X7_sumOf rfl ⟨rfl, rfl⟩ nm_X7_sumOf ⟨by decide, by decide⟩ (fun _ h => h) 0 rfl rfl rfl (Nat.le_of_ble_eq_true rfl) dX7_balanceOf_31 (Nat.zero_le _) (Nat.zero_le _) (fun r hr => ?_)
          subst hr
          refine z_goto B 38 dX7_balanceOf_34 (by decide) ?_
          refine z_iadd B dX7_balanceOf_38 ?_
          refine z_istore_n (lv1 := [(3, .int (((zsum (fun p => ifI (y < M 6 p) (nI 0) (sOf M (M 10) p x)) i) + (sOf M (M 10) i x)))), (0, .ref (h)), (1, .int (x)), (2, .int (y)), (4, .int (nI (i)))]) B dX7_balanceOf_39 rfl (by decide) rfl ?_
          refine z_iinc B 4 (lv1 := [(4, .int (nI (i + 1))), (3, .int (((zsum (fun p => ifI (y < M 6 p) (nI 0) (sOf M (M 10) p x)) i) + (sOf M (M 10) i x)))), (0, .ref (h)), (1, .int (x)), (2, .int (y))]) dX7_balanceOf_40 rfl (nI_1 _) (by decide) rfl ?_
          refine z_goto B 5 dX7_balanceOf_43 (by decide) ?_
          refine z_loc [2, 3, 4, 1, 0] (lv' := [(0, .ref (h)), (1, .int (x)), (2, .int (y)), (3, .int (((zsum (fun p => ifI (y < M 6 p) (nI 0) (sOf M (M 10) p x)) i) + (sOf M (M 10) i x)))), (4, .int (nI (i + 1)))]) rfl ?_
          refine z_lvc (lv' := [(0, .ref (h)), (1, .int (x)), (2, .int (y)), (3, .int (zsum (fun p => ifI (y < M 6 p) (nI 0) (sOf M (M 10) p x)) (i + 1))), (4, .int (nI ((i + 1))))]) (by first | (rw [zsum, ifI_t zc23]) | (rw [zsum, ifI_f zc23])) ?_
          exact ih5 (i + 1) (by omega) (by omega)
  refine z_loc [2, 3, 4, 1, 0] (lv' := [(0, .ref (h)), (1, .int (x)), (2, .int (y)), (3, .int (nI (0))), (4, .int (nI (0)))]) rfl ?_
  refine z_lvc (lv' := [(0, .ref (h)), (1, .int (x)), (2, .int (y)), (3, .int (zsum (fun p => ifI (y < M 6 p) (nI 0) (sOf M (M 10) p x)) 0)), (4, .int (nI (0)))]) (by rfl) ?_
  exact loop5 (mP M + 1) 0 (by omega) (by omega)
theorem fw_X7_isFound_X7 : zF wsX7_isFound RX7 TX7 30 := fun _ h => List.mem_cons_of_mem _ (List.mem_append_right _ (h))
set_option maxHeartbeats 4000000 in
set_option maxRecDepth 100000 in
theorem c7_isFound (l : Launch) (D : va_G) (g : zG) (h : Nat) (a : Nat → Nat) (M : zMS) (hI : MI M) (j : Nat) (hj : j < 80) (x : Int32) : zPure l yX7_isFound wsX7_isFound { frames := 3, cells := 0, slots := 0, locals := 68 } D (zT g) (wM g h a M) [.ref h, .int (nI (j)), .int (x)] (fun r => r = bI (pFd M j x)) := by
  refine zPure_of (cc := cX7_isFound) (maxL := 5) (ret := (some .boolean)) (own := RX7) [(0, .ref (h)), (1, .int (nI (j))), (2, .int (x))] (by decide) rfl rfl rfl (Nat.le_of_ble_eq_true rfl) ?_
  intro X hl B hr
  obtain ⟨b5, b2, b15, b23, b25, b1⟩ := MI_bs hI
  refine z_iconst (v := nI 0) B dX7_isFound_0 (by decide) ?_
  refine z_istore_n (lv1 := [(3, .int (nI (0))), (0, .ref (h)), (1, .int (nI (j))), (2, .int (x))]) B dX7_isFound_1 rfl (by decide) rfl ?_
  refine z_iconst (v := nI 0) B dX7_isFound_2 (by decide) ?_
  refine z_istore (lv1 := [(4, .int (nI (0))), (3, .int (nI (0))), (0, .ref (h)), (1, .int (nI (j))), (2, .int (x))]) B dX7_isFound_3 (by decide) rfl ?_
  have loop5 : ∀ (n0 i : Nat), i ≤ mC M → mC M + 1 ≤ i + n0 → zJ X 5 (zI0 D (zs X)) (zQe X (vp_Si (fun r => r = bI (pFd M j x))) 0 0 (fun _ => False)) (wM g h a M) 0 0 [(0, .ref (h)), (1, .int (nI (j))), (2, .int (x)), (3, .int (bI (∃ k, k < i ∧ M 19 k = 0 ∧ (¬ x = 0 → M 20 k = 0) ∧ pTI M k j))), (4, .int (nI (i)))] 5 [] := by
    intro n5
    induction n5 with
    | zero => intro i h1 h2; exact absurd h2 (by omega)
    | succ n5 ih5 =>
      intro i hle5 hn5
      refine z_iload B 4 dX7_isFound_5 rfl ?_
      refine z_aload_n B 0 dX7_isFound_7 rfl rfl ?_
      refine z_get (C := RX7) (T := TX7) (N := 30) (v := .int (M 15 0)) B 0 15 1 fw_X7_isFound_X7 rfl rfl (by decide) rfl rfl rfl dX7_isFound_8 ?_
      refine z_top (y := nI (mC M)) (MI_15 hI) ?_
      refine z_icmpN_ge B 64 dX7_isFound_11 (by decide) (by omega) (by omega) (fun zc11 => ?_) (fun zc11 => ?_)
      · obtain rfl : i = mC M := by omega
        refine z_iload_n B 3 dX7_isFound_64 rfl rfl ?_
        exact z_pret B hr dX7_isFound_65 (nar_b (bI_or _)) (by rfl)
      · refine z_iload_n B 3 dX7_isFound_14 rfl rfl ?_
        refine z_ifB_ne B 52 dX7_isFound_15 (by decide) (fun zc15 => ?_) (fun zc15 => ?_)
        · refine z_iconst (v := nI 1) B dX7_isFound_52 (by decide) ?_
          refine z_goto B 57 dX7_isFound_53 (by decide) ?_
          refine z_istore_n (lv1 := [(3, .int (nI (1))), (0, .ref (h)), (1, .int (nI (j))), (2, .int (x)), (4, .int (nI (i)))]) B dX7_isFound_57 rfl (by decide) rfl ?_
          refine z_iinc B 4 (lv1 := [(4, .int (nI (i + 1))), (3, .int (nI (1))), (0, .ref (h)), (1, .int (nI (j))), (2, .int (x))]) dX7_isFound_58 rfl (nI_1 _) (by decide) rfl ?_
          refine z_goto B 5 dX7_isFound_61 (by decide) ?_
          refine z_loc [2, 3, 4, 1, 0] (lv' := [(0, .ref (h)), (1, .int (nI (j))), (2, .int (x)), (3, .int (nI (1))), (4, .int (nI (i + 1)))]) rfl ?_
          refine z_lvc (lv' := [(0, .ref (h)), (1, .int (nI (j))), (2, .int (x)), (3, .int (bI (∃ k, k < (i + 1) ∧ M 19 k = 0 ∧ (¬ x = 0 → M 20 k = 0) ∧ pTI M k j))), (4, .int (nI ((i + 1))))]) (by first | (have q : (¬ x = 0 → M 20 i = 0) := (fun _ => zc39); rw [bI_t (ex_s.mpr (Or.inr ⟨zc25, q, zc49⟩))]; rfl) | (have q : (¬ x = 0 → M 20 i = 0) := (fun q => absurd zc29 q); rw [bI_t (ex_s.mpr (Or.inr ⟨zc25, q, zc49⟩))]; rfl) | first | (rw [bI_t (ex_s.mpr (Or.inl zc15))]; rfl) | (rw [bI_t (ex_s.mpr (Or.inl zc15))]; rfl) | (rw [bI_f (fun h => (ex_s.mp h).elim zc15 (fun q => zc25 q.1))]; rfl) | (rw [bI_f (fun h => (ex_s.mp h).elim zc15 (fun q => zc39 (q.2.1 zc29)))]; rfl) | (rw [bI_f (fun h => (ex_s.mp h).elim zc15 (fun q => zc49 q.2.2))]; rfl)) ?_
          exact ih5 (i + 1) (by omega) (by omega)
        · refine z_aload_n B 0 dX7_isFound_18 rfl rfl ?_
          refine z_get (C := RX7) (T := TX7) (N := 30) (v := .ref (a 19)) B 0 19 2 fw_X7_isFound_X7 rfl rfl (by decide) rfl rfl rfl dX7_isFound_19 ?_
          refine z_iload B 4 dX7_isFound_22 rfl ?_
          refine z_zald (g := (M 19)) (i := i) B 15 1 rfl rfl (by omega) (by decide) dX7_isFound_24 ?_
          refine z_if_ne B 56 dX7_isFound_25 (by decide) (fun zc25 => ?_) (fun zc25 => ?_)
          · refine z_iconst (v := nI 0) B dX7_isFound_56 (by decide) ?_
            refine z_istore_n (lv1 := [(3, .int (nI (0))), (0, .ref (h)), (1, .int (nI (j))), (2, .int (x)), (4, .int (nI (i)))]) B dX7_isFound_57 rfl (by decide) rfl ?_
            refine z_iinc B 4 (lv1 := [(4, .int (nI (i + 1))), (3, .int (nI (0))), (0, .ref (h)), (1, .int (nI (j))), (2, .int (x))]) dX7_isFound_58 rfl (nI_1 _) (by decide) rfl ?_
            refine z_goto B 5 dX7_isFound_61 (by decide) ?_
            refine z_loc [2, 3, 4, 1, 0] (lv' := [(0, .ref (h)), (1, .int (nI (j))), (2, .int (x)), (3, .int (nI (0))), (4, .int (nI (i + 1)))]) rfl ?_
            refine z_lvc (lv' := [(0, .ref (h)), (1, .int (nI (j))), (2, .int (x)), (3, .int (bI (∃ k, k < (i + 1) ∧ M 19 k = 0 ∧ (¬ x = 0 → M 20 k = 0) ∧ pTI M k j))), (4, .int (nI ((i + 1))))]) (by first | (have q : (¬ x = 0 → M 20 i = 0) := (fun _ => zc39); rw [bI_t (ex_s.mpr (Or.inr ⟨zc25, q, zc49⟩))]; rfl) | (have q : (¬ x = 0 → M 20 i = 0) := (fun q => absurd zc29 q); rw [bI_t (ex_s.mpr (Or.inr ⟨zc25, q, zc49⟩))]; rfl) | first | (rw [bI_t (ex_s.mpr (Or.inl zc15))]; rfl) | (rw [bI_t (ex_s.mpr (Or.inl zc15))]; rfl) | (rw [bI_f (fun h => (ex_s.mp h).elim zc15 (fun q => zc25 q.1))]; rfl) | (rw [bI_f (fun h => (ex_s.mp h).elim zc15 (fun q => zc39 (q.2.1 zc29)))]; rfl) | (rw [bI_f (fun h => (ex_s.mp h).elim zc15 (fun q => zc49 q.2.2))]; rfl)) ?_
            exact ih5 (i + 1) (by omega) (by omega)
          · refine z_iload_n B 2 dX7_isFound_28 rfl rfl ?_
            refine z_if_eq B 42 dX7_isFound_29 (by decide) (fun zc29 => ?_) (fun zc29 => ?_)
            · refine z_aload_n B 0 dX7_isFound_42 rfl rfl ?_
              refine z_iload B 4 dX7_isFound_43 rfl ?_
              refine z_iload_n B 1 dX7_isFound_45 rfl rfl ?_
              refine z_callP (As := [.int (nI (i)), .int (nI (j))]) (st := []) (C := RX7) (T := TX7) (N := 30) (ci := 7) (l := l) B hl (c7_isTrueIn l D g h a M hI i (by omega) j (by omega)) gX7_isFound_X7_isTrueIn rfl ⟨rfl, rfl⟩ nm_X7_isTrueIn ⟨by decide, by decide⟩ (fun _ h => h) 0 rfl rfl rfl (Nat.le_of_ble_eq_true rfl) dX7_isFound_46 (Nat.zero_le _) (Nat.zero_le _) (fun r hr => ?_)
              subst hr
              refine z_ifB_eq B 56 dX7_isFound_49 (by decide) (fun zc49 => ?_) (fun zc49 => ?_)
              · refine z_iconst (v := nI 0) B dX7_isFound_56 (by decide) ?_
                refine z_istore_n (lv1 := [(3, .int (nI (0))), (0, .ref (h)), (1, .int (nI (j))), (2, .int (x)), (4, .int (nI (i)))]) B dX7_isFound_57 rfl (by decide) rfl ?_
                refine z_iinc B 4 (lv1 := [(4, .int (nI (i + 1))), (3, .int (nI (0))), (0, .ref (h)), (1, .int (nI (j))), (2, .int (x))]) dX7_isFound_58 rfl (nI_1 _) (by decide) rfl ?_
                refine z_goto B 5 dX7_isFound_61 (by decide) ?_
                refine z_loc [2, 3, 4, 1, 0] (lv' := [(0, .ref (h)), (1, .int (nI (j))), (2, .int (x)), (3, .int (nI (0))), (4, .int (nI (i + 1)))]) rfl ?_
                refine z_lvc (lv' := [(0, .ref (h)), (1, .int (nI (j))), (2, .int (x)), (3, .int (bI (∃ k, k < (i + 1) ∧ M 19 k = 0 ∧ (¬ x = 0 → M 20 k = 0) ∧ pTI M k j))), (4, .int (nI ((i + 1))))]) (by first | (have q : (¬ x = 0 → M 20 i = 0) := (fun _ => zc39); rw [bI_t (ex_s.mpr (Or.inr ⟨zc25, q, zc49⟩))]; rfl) | (have q : (¬ x = 0 → M 20 i = 0) := (fun q => absurd zc29 q); rw [bI_t (ex_s.mpr (Or.inr ⟨zc25, q, zc49⟩))]; rfl) | first | (rw [bI_t (ex_s.mpr (Or.inl zc15))]; rfl) | (rw [bI_t (ex_s.mpr (Or.inl zc15))]; rfl) | (rw [bI_f (fun h => (ex_s.mp h).elim zc15 (fun q => zc25 q.1))]; rfl) | (rw [bI_f (fun h => (ex_s.mp h).elim zc15 (fun q => zc39 (q.2.1 zc29)))]; rfl) | (rw [bI_f (fun h => (ex_s.mp h).elim zc15 (fun q => zc49 q.2.2))]; rfl)) ?_
                exact ih5 (i + 1) (by omega) (by omega)
              · refine z_iconst (v := nI 1) B dX7_isFound_52 (by decide) ?_
                refine z_goto B 57 dX7_isFound_53 (by decide) ?_
                refine z_istore_n (lv1 := [(3, .int (nI (1))), (0, .ref (h)), (1, .int (nI (j))), (2, .int (x)), (4, .int (nI (i)))]) B dX7_isFound_57 rfl (by decide) rfl ?_
                refine z_iinc B 4 (lv1 := [(4, .int (nI (i + 1))), (3, .int (nI (1))), (0, .ref (h)), (1, .int (nI (j))), (2, .int (x))]) dX7_isFound_58 rfl (nI_1 _) (by decide) rfl ?_
                refine z_goto B 5 dX7_isFound_61 (by decide) ?_
                refine z_loc [2, 3, 4, 1, 0] (lv' := [(0, .ref (h)), (1, .int (nI (j))), (2, .int (x)), (3, .int (nI (1))), (4, .int (nI (i + 1)))]) rfl ?_
                refine z_lvc (lv' := [(0, .ref (h)), (1, .int (nI (j))), (2, .int (x)), (3, .int (bI (∃ k, k < (i + 1) ∧ M 19 k = 0 ∧ (¬ x = 0 → M 20 k = 0) ∧ pTI M k j))), (4, .int (nI ((i + 1))))]) (by first | (have q : (¬ x = 0 → M 20 i = 0) := (fun _ => zc39); rw [bI_t (ex_s.mpr (Or.inr ⟨zc25, q, zc49⟩))]; rfl) | (have q : (¬ x = 0 → M 20 i = 0) := (fun q => absurd zc29 q); rw [bI_t (ex_s.mpr (Or.inr ⟨zc25, q, zc49⟩))]; rfl) | first | (rw [bI_t (ex_s.mpr (Or.inl zc15))]; rfl) | (rw [bI_t (ex_s.mpr (Or.inl zc15))]; rfl) | (rw [bI_f (fun h => (ex_s.mp h).elim zc15 (fun q => zc25 q.1))]; rfl) | (rw [bI_f (fun h => (ex_s.mp h).elim zc15 (fun q => zc39 (q.2.1 zc29)))]; rfl) | (rw [bI_f (fun h => (ex_s.mp h).elim zc15 (fun q => zc49 q.2.2))]; rfl)) ?_
                exact ih5 (i + 1) (by omega) (by omega)
            · refine z_aload_n B 0 dX7_isFound_32 rfl rfl ?_
              refine z_get (C := RX7) (T := TX7) (N := 30) (v := .ref (a 20)) B 0 20 3 fw_X7_isFound_X7 rfl rfl (by decide) rfl rfl rfl dX7_isFound_33 ?_
              refine z_iload B 4 dX7_isFound_36 rfl ?_
              refine z_zald (g := (M 20)) (i := i) B 16 1 rfl rfl (by omega) (by decide) dX7_isFound_38 ?_
              refine z_if_ne B 56 dX7_isFound_39 (by decide) (fun zc39 => ?_) (fun zc39 => ?_)
              · refine z_iconst (v := nI 0) B dX7_isFound_56 (by decide) ?_
                refine z_istore_n (lv1 := [(3, .int (nI (0))), (0, .ref (h)), (1, .int (nI (j))), (2, .int (x)), (4, .int (nI (i)))]) B dX7_isFound_57 rfl (by decide) rfl ?_
                refine z_iinc B 4 (lv1 := [(4, .int (nI (i + 1))), (3, .int (nI (0))), (0, .ref (h)), (1, .int (nI (j))), (2, .int (x))]) dX7_isFound_58 rfl (nI_1 _) (by decide) rfl ?_
                refine z_goto B 5 dX7_isFound_61 (by decide) ?_
                refine z_loc [2, 3, 4, 1, 0] (lv' := [(0, .ref (h)), (1, .int (nI (j))), (2, .int (x)), (3, .int (nI (0))), (4, .int (nI (i + 1)))]) rfl ?_
                refine z_lvc (lv' := [(0, .ref (h)), (1, .int (nI (j))), (2, .int (x)), (3, .int (bI (∃ k, k < (i + 1) ∧ M 19 k = 0 ∧ (¬ x = 0 → M 20 k = 0) ∧ pTI M k j))), (4, .int (nI ((i + 1))))]) (by first | (have q : (¬ x = 0 → M 20 i = 0) := (fun _ => zc39); rw [bI_t (ex_s.mpr (Or.inr ⟨zc25, q, zc49⟩))]; rfl) | (have q : (¬ x = 0 → M 20 i = 0) := (fun q => absurd zc29 q); rw [bI_t (ex_s.mpr (Or.inr ⟨zc25, q, zc49⟩))]; rfl) | first | (rw [bI_t (ex_s.mpr (Or.inl zc15))]; rfl) | (rw [bI_t (ex_s.mpr (Or.inl zc15))]; rfl) | (rw [bI_f (fun h => (ex_s.mp h).elim zc15 (fun q => zc25 q.1))]; rfl) | (rw [bI_f (fun h => (ex_s.mp h).elim zc15 (fun q => zc39 (q.2.1 zc29)))]; rfl) | (rw [bI_f (fun h => (ex_s.mp h).elim zc15 (fun q => zc49 q.2.2))]; rfl)) ?_
                exact ih5 (i + 1) (by omega) (by omega)
              · refine z_aload_n B 0 dX7_isFound_42 rfl rfl ?_
                refine z_iload B 4 dX7_isFound_43 rfl ?_
                refine z_iload_n B 1 dX7_isFound_45 rfl rfl ?_
                refine z_callP (As := [.int (nI (i)), .int (nI (j))]) (st := []) (C := RX7) (T := TX7) (N := 30) (ci := 7) (l := l) B hl (c7_isTrueIn l D g h a M hI i (by omega) j (by omega)) gX7_isFound_X7_isTrueIn rfl ⟨rfl, rfl⟩ nm_X7_isTrueIn ⟨by decide, by decide⟩ (fun _ h => h) 0 rfl rfl rfl (Nat.le_of_ble_eq_true rfl) dX7_isFound_46 (Nat.zero_le _) (Nat.zero_le _) (fun r hr => ?_)
                subst hr
                refine z_ifB_eq B 56 dX7_isFound_49 (by decide) (fun zc49 => ?_) (fun zc49 => ?_)
                · refine z_iconst (v := nI 0) B dX7_isFound_56 (by decide) ?_
                  refine z_istore_n (lv1 := [(3, .int (nI (0))), (0, .ref (h)), (1, .int (nI (j))), (2, .int (x)), (4, .int (nI (i)))]) B dX7_isFound_57 rfl (by decide) rfl ?_
                  refine z_iinc B 4 (lv1 := [(4, .int (nI (i + 1))), (3, .int (nI (0))), (0, .ref (h)), (1, .int (nI (j))), (2, .int (x))]) dX7_isFound_58 rfl (nI_1 _) (by decide) rfl ?_
                  refine z_goto B 5 dX7_isFound_61 (by decide) ?_
                  refine z_loc [2, 3, 4, 1, 0] (lv' := [(0, .ref (h)), (1, .int (nI (j))), (2, .int (x)), (3, .int (nI (0))), (4, .int (nI (i + 1)))]) rfl ?_
                  refine z_lvc (lv' := [(0, .ref (h)), (1, .int (nI (j))), (2, .int (x)), (3, .int (bI (∃ k, k < (i + 1) ∧ M 19 k = 0 ∧ (¬ x = 0 → M 20 k = 0) ∧ pTI M k j))), (4, .int (nI ((i + 1))))]) (by first | (have q : (¬ x = 0 → M 20 i = 0) := (fun _ => zc39); rw [bI_t (ex_s.mpr (Or.inr ⟨zc25, q, zc49⟩))]; rfl) | (have q : (¬ x = 0 → M 20 i = 0) := (fun q => absurd zc29 q); rw [bI_t (ex_s.mpr (Or.inr ⟨zc25, q, zc49⟩))]; rfl) | first | (rw [bI_t (ex_s.mpr (Or.inl zc15))]; rfl) | (rw [bI_t (ex_s.mpr (Or.inl zc15))]; rfl) | (rw [bI_f (fun h => (ex_s.mp h).elim zc15 (fun q => zc25 q.1))]; rfl) | (rw [bI_f (fun h => (ex_s.mp h).elim zc15 (fun q => zc39 (q.2.1 zc29)))]; rfl) | (rw [bI_f (fun h => (ex_s.mp h).elim zc15 (fun q => zc49 q.2.2))]; rfl)) ?_
                  exact ih5 (i + 1) (by omega) (by omega)
                · refine z_iconst (v := nI 1) B dX7_isFound_52 (by decide) ?_
                  refine z_goto B 57 dX7_isFound_53 (by decide) ?_
                  refine z_istore_n (lv1 := [(3, .int (nI (1))), (0, .ref (h)), (1, .int (nI (j))), (2, .int (x)), (4, .int (nI (i)))]) B dX7_isFound_57 rfl (by decide) rfl ?_
                  refine z_iinc B 4 (lv1 := [(4, .int (nI (i + 1))), (3, .int (nI (1))), (0, .ref (h)), (1, .int (nI (j))), (2, .int (x))]) dX7_isFound_58 rfl (nI_1 _) (by decide) rfl ?_
                  refine z_goto B 5 dX7_isFound_61 (by decide) ?_
                  refine z_loc [2, 3, 4, 1, 0] (lv' := [(0, .ref (h)), (1, .int (nI (j))), (2, .int (x)), (3, .int (nI (1))), (4, .int (nI (i + 1)))]) rfl ?_
                  refine z_lvc (lv' := [(0, .ref (h)), (1, .int (nI (j))), (2, .int (x)), (3, .int (bI (∃ k, k < (i + 1) ∧ M 19 k = 0 ∧ (¬ x = 0 → M 20 k = 0) ∧ pTI M k j))), (4, .int (nI ((i + 1))))]) (by first | (have q : (¬ x = 0 → M 20 i = 0) := (fun _ => zc39); rw [bI_t (ex_s.mpr (Or.inr ⟨zc25, q, zc49⟩))]; rfl) | (have q : (¬ x = 0 → M 20 i = 0) := (fun q => absurd zc29 q); rw [bI_t (ex_s.mpr (Or.inr ⟨zc25, q, zc49⟩))]; rfl) | first | (rw [bI_t (ex_s.mpr (Or.inl zc15))]; rfl) | (rw [bI_t (ex_s.mpr (Or.inl zc15))]; rfl) | (rw [bI_f (fun h => (ex_s.mp h).elim zc15 (fun q => zc25 q.1))]; rfl) | (rw [bI_f (fun h => (ex_s.mp h).elim zc15 (fun q => zc39 (q.2.1 zc29)))]; rfl) | (rw [bI_f (fun h => (ex_s.mp h).elim zc15 (fun q => zc49 q.2.2))]; rfl)) ?_
                  exact ih5 (i + 1) (by omega) (by omega)
  refine z_loc [2, 3, 4, 1, 0] (lv' := [(0, .ref (h)), (1, .int (nI (j))), (2, .int (x)), (3, .int (nI (0))), (4, .int (nI (0)))]) rfl ?_
  refine z_lvc (lv' := [(0, .ref (h)), (1, .int (nI (j))), (2, .int (x)), (3, .int (bI (∃ k, k < 0 ∧ M 19 k = 0 ∧ (¬ x = 0 → M 20 k = 0) ∧ pTI M k j))), (4, .int (nI (0)))]) (by rw [bI_f (P := ∃ k, k < 0 ∧ _) (fun h => ex_0.mp h)]; rfl) ?_
  exact loop5 (mC M + 1) 0 (by omega) (by omega)
