theorem fw_X0_isFull_X0 : zF wsX0_isFull RX0 TX0 11 := fun _ h => List.mem_cons_of_mem _ (List.mem_append_right _ (h))
set_option maxHeartbeats 4000000 in
set_option maxRecDepth 100000 in
theorem cc_X0_isFull (l : Launch) (D : va_G) (g : zG) (a : Nat → Nat) (C : zMS) (m : Nat) (hI : CI C) : zPure l yX0_isFull wsX0_isFull { frames := 0, cells := 0, slots := 0, locals := 0 } D (zT g) (wC g a C m) [.ref (a 3)] (fun r => r = bI (80 ≤ cP C)) := by
  refine zPure_of (cc := cX0_isFull) (maxL := 1) (ret := (some .boolean)) (own := RX0) [(0, .ref (a 3))] (by decide) rfl rfl rfl (Nat.le_of_ble_eq_true rfl) ?_
  intro X hl B hr
  obtain ⟨b19, b3, b6, b20, b22, b27, b0⟩ := CI_bs hI
  refine z_aload_n B 0 dX0_isFull_0 rfl rfl ?_
  refine z_get (C := RX0) (T := TX0) (N := 11) (v := .int (C 19 0)) B 3 10 1 fw_X0_isFull_X0 rfl rfl (by decide) rfl rfl rfl dX0_isFull_1 ?_
  refine z_top (y := nI (cP C)) (CI_19 (C := C) hI) ?_
  refine z_bipush (v := nI 80) B dX0_isFull_4 (by decide) ?_
  refine z_icmpN_lt B 13 dX0_isFull_6 (by decide) (by omega) (by omega) (fun zc6 => ?_) (fun zc6 => ?_)
  · refine z_iconst (v := nI 0) B dX0_isFull_13 (by decide) ?_
    exact z_pret B hr dX0_isFull_14 (nar_b (Or.inl rfl)) (by refine bI_z ?_; first | omega)
  · refine z_iconst (v := nI 1) B dX0_isFull_9 (by decide) ?_
    refine z_goto B 14 dX0_isFull_10 (by decide) ?_
    exact z_pret B hr dX0_isFull_14 (nar_b (Or.inr rfl)) (by refine bI_1 ?_; first | omega)
theorem fw_X0_append_X0 : zF wsX0_append RX0 TX0 11 := fun _ h => List.mem_cons_of_mem _ (List.mem_append_left _ (List.mem_append_left _ (List.mem_append_right _ (h))))
theorem fw_X0_append_X3 : zF wsX0_append RX3 TX3 3 := fun _ h => List.mem_cons_of_mem _ (List.mem_append_left _ (List.mem_append_right _ (h)))
set_option maxHeartbeats 4000000 in
set_option maxRecDepth 100000 in
theorem cc_X0_append_D (l : Launch) (D : va_G) (g : zG) (a : Nat → Nat) (C : zMS) (m : Nat) (x : Int32) (y : Int32) (p : Nat) (hp0 : C 19 0 = nI p) (hp : p < 80) (n : Nat) (hc : C 3 0 = nI n) (hn4 : n ≤ 4) : zMutI l yX0_append wsX0_append { frames := 2, cells := 0, slots := 0, locals := 45 } D (zT g) (wC g a C m) [.ref (a 3), .ref (a 1), .int (x), .int (y)] (fun r w' => r = nI (p) ∧ w' = wC g a (apC C p 1 2 n x y) m) 0 0 := by
  refine zMutI_of (cc := cX0_append) (maxL := 6) (ret := (some .int)) (own := RX0) [(0, .ref (a 3)), (1, .ref (a 1)), (2, .int (x)), (3, .int (y))] (by decide) rfl rfl rfl (Nat.le_of_ble_eq_true rfl) ?_
  intro X A hAe hl B hr hin
  generalize hQ : (zQe X (va_Qi (fun r w' => r = nI (p) ∧ w' = wC g a (apC C p 1 2 n x y) m) (zEnd D (zT g) (wC g a C m) (zs X).heap.size) A) 0 0 A) = Q
  refine z_aload_n B 0 dX0_append_0 rfl rfl ?_
  refine z_get (C := RX0) (T := TX0) (N := 11) (v := .int (C 19 0)) B 3 10 1 fw_X0_append_X0 rfl rfl (by decide) rfl rfl rfl dX0_append_1 ?_
  refine z_top (y := nI (p)) hp0 ?_
  refine z_istore (lv1 := [(4, .int (nI (p))), (0, .ref (a 3)), (1, .ref (a 1)), (2, .int (x)), (3, .int (y))]) B dX0_append_4 (by decide) rfl ?_
  refine z_aload_n B 1 dX0_append_6 rfl rfl ?_
  refine z_get (C := RX0) (T := TX0) (N := 11) (v := .ref (a 10)) B 3 0 2 fw_X0_append_X0 rfl rfl (by decide) rfl rfl rfl dX0_append_7 ?_
  refine z_iload B 0 dX0_append_10 rfl ?_
  refine z_iload_n B 4 dX0_append_12 rfl rfl ?_
  refine z_iast (g := (C 7)) (i := p) (w' := wC g a (up2 C 7 p y) m) B 10 0 rfl rfl (by omega) (by decide) dX0_append_13 (wC_f (by decide) rfl (fun f hf => up2_k (by omega))) ?_
  refine z_aload_n B 1 dX0_append_14 rfl rfl ?_
  refine z_get (C := RX0) (T := TX0) (N := 11) (v := .ref (a 11)) B 3 1 3 fw_X0_append_X0 rfl rfl (by decide) rfl rfl rfl dX0_append_15 ?_
  refine z_iload B 0 dX0_append_18 rfl ?_
  refine z_iload_n B 3 dX0_append_20 rfl rfl ?_
  refine z_iast (g := (C 8)) (i := p) (w' := wC g a (up2 (up2 C 7 p y) 8 p x) m) B 11 0 rfl rfl (by omega) (by decide) dX0_append_21 (wC_f (by decide) rfl (fun f hf => up2_k (by omega))) ?_
  refine z_aload_n B 1 dX0_append_22 rfl rfl ?_
  refine z_get (C := RX0) (T := TX0) (N := 11) (v := .ref (a 12)) B 3 2 4 fw_X0_append_X0 rfl rfl (by decide) rfl rfl rfl dX0_append_23 ?_
  refine z_iload B 0 dX0_append_26 rfl ?_
  refine z_aload_n B 2 dX0_append_28 rfl rfl ?_
  refine z_iload_n B 4 dX0_append_29 rfl rfl ?_
  refine z_iload_n B 3 dX0_append_30 rfl rfl ?_
  refine z_callP (As := [.int (y), .int (x)]) (st := [.int (nI (p)), .ref (a 12)]) (C := RX3) (T := TX3) (N := 3) (ci := 3) (l := l) B hl (cc_X3_markWith_D l D g a (up2 (up2 C 7 p y) 8 p x) m y x n hc (by omega)) gX0_append_X3_markWith rfl ⟨rfl, rfl⟩ nm_X3_markWith ⟨by decide, by decide⟩ (fun _ h => h) 1 rfl rfl rfl (Nat.le_of_ble_eq_true rfl) dX0_append_31 (Nat.zero_le _) (Nat.zero_le _) (fun r hr => ?_)
  change r = fMk (C 1) (C 2) (nMk (nMk (nI 1) y) x) n at hr
  subst hr
  refine z_iast (g := (C 9)) (i := p) (w' := wC g a (up2 (up2 (up2 C 7 p y) 8 p x) 9 p (fMk (C 1) (C 2) (nMk (nMk (nI 1) y) x) n)) m) B 12 0 rfl rfl (by omega) (by decide) dX0_append_34 (wC_f (by decide) rfl (fun f hf => up2_k (by omega))) ?_
  refine z_aload_n B 1 dX0_append_35 rfl rfl ?_
  refine z_get (C := RX0) (T := TX0) (N := 11) (v := .ref (a 13)) B 3 3 5 fw_X0_append_X0 rfl rfl (by decide) rfl rfl rfl dX0_append_36 ?_
  refine z_iload B 0 dX0_append_39 rfl ?_
  refine z_aload_n B 2 dX0_append_41 rfl rfl ?_
  refine z_get (C := RX3) (T := TX3) (N := 3) (v := .int (C 3 0)) B 1 2 6 fw_X0_append_X3 rfl rfl (by decide) rfl rfl rfl dX0_append_42 ?_
  refine z_top (y := nI (n)) hc ?_
  refine z_iast (g := (C 10)) (i := p) (w' := wC g a (up2 (up2 (up2 (up2 C 7 p y) 8 p x) 9 p (fMk (C 1) (C 2) (nMk (nMk (nI 1) y) x) n)) 10 p (nI (n))) m) B 13 0 rfl rfl (by omega) (by decide) dX0_append_45 (wC_f (by decide) rfl (fun f hf => up2_k (by omega))) ?_
  refine z_iconst (v := nI 0) B dX0_append_46 (by decide) ?_
  refine z_istore (lv1 := [(5, .int (nI (0))), (4, .int (nI (p))), (0, .ref (a 3)), (1, .ref (a 1)), (2, .int (x)), (3, .int (y))]) B dX0_append_47 (by decide) rfl ?_
  have loop49 : ∀ (n0 i : Nat), i ≤ n → n + 1 ≤ i + n0 → zJ X 6 (zI1 D A (zs X)) Q (wC g a (acL (ap1 C p 1 2 n x y) 1 p i) m) 0 0 [(0, .ref (a 3)), (1, .ref (a 1)), (2, .int (x)), (3, .int (y)), (4, .int (nI (p))), (5, .int (nI (i)))] 49 [] := by
    intro n49
    induction n49 with
    | zero => intro i h1 h2; exact absurd h2 (by omega)
    | succ n49 ih49 =>
      intro i hle49 hn49
      refine z_iload B 5 dX0_append_49 rfl ?_
      refine z_aload_n B 1 dX0_append_51 rfl rfl ?_
      refine z_get (C := RX3) (T := TX3) (N := 3) (v := .int ((acL (ap1 C p 1 2 n x y) 1 p i) 3 0)) B 1 2 6 fw_X0_append_X3 rfl rfl (by decide) rfl rfl rfl dX0_append_52 ?_
      refine z_top (y := nI (n)) ((congrFun ((acL_k (ap1 C p 1 2 n x y) 1 p (k := 3) (by decide) i).trans ((up2_k (k' := 3) (k := 10) (by omega)).trans ((up2_k (k' := 3) (k := 9) (by omega)).trans ((up2_k (k' := 3) (k := 8) (by omega)).trans ((up2_k (k' := 3) (k := 7) (by omega)).trans rfl))))) 0).trans hc) ?_
      refine z_icmpN_ge B 83 dX0_append_55 (by decide) (by omega) (by omega) (fun zc55 => ?_) (fun zc55 => ?_)
      · obtain rfl : n = i := by omega
        refine z_aload_n B 0 dX0_append_83 rfl rfl ?_
        refine z_get (C := RX0) (T := TX0) (N := 11) (v := .ref (a 15)) B 3 5 9 fw_X0_append_X0 rfl rfl (by decide) rfl rfl rfl dX0_append_84 ?_
        refine z_iload B 4 dX0_append_87 rfl ?_
        refine z_iconst (v := (-1)) B dX0_append_89 (by decide) ?_
        refine z_iast (g := ((acL (ap1 C p 1 2 n x y) 1 p n) 12)) (i := p) (w' := wC g a (up2 (acL (ap1 C p 1 2 n x y) 1 p n) 12 p (-1)) m) B 15 0 rfl rfl (by omega) (by decide) dX0_append_90 (wC_f (by decide) rfl (fun f hf => up2_k (by omega))) ?_
        refine z_aload_n B 0 dX0_append_91 rfl rfl ?_
        refine z_get (C := RX0) (T := TX0) (N := 11) (v := .ref (a 18)) B 3 8 10 fw_X0_append_X0 rfl rfl (by decide) rfl rfl rfl dX0_append_92 ?_
        refine z_iload B 4 dX0_append_95 rfl ?_
        refine z_aload_n B 1 dX0_append_97 rfl rfl ?_
        refine z_callMV (As := [.int (nI (p)), .ref (a 1)]) (st := []) (C := RX4) (T := TX4) (N := 2) (ci := 4) (l := l) B hl (cc_X4_fill_WD l D g a (up2 (acL (ap1 C p 1 2 n x y) 1 p n) 12 p (-1)) m p (by omega) n ((congrFun ((acL_k (ap1 C p 1 2 n x y) 1 p (k := 3) (by decide) n).trans ((up2_k (k' := 3) (k := 10) (by omega)).trans ((up2_k (k' := 3) (k := 9) (by omega)).trans ((up2_k (k' := 3) (k := 8) (by omega)).trans ((up2_k (k' := 3) (k := 7) (by omega)).trans rfl))))) 0).trans hc) (by omega)) gX0_append_X4_fill rfl ⟨rfl, rfl⟩ nm_X4_fill ⟨by decide, by decide⟩ 18 rfl rfl rfl (Nat.le_of_ble_eq_true rfl) dX0_append_98 rfl rfl (by decide) (by decide) (fun w1 hr => ?_)
        subst hr
        refine z_aload_n B 0 dX0_append_101 rfl rfl ?_
        refine z_get (C := RX0) (T := TX0) (N := 11) (v := .ref (a 19)) B 3 9 11 fw_X0_append_X0 rfl rfl (by decide) rfl rfl rfl dX0_append_102 ?_
        refine z_iload B 4 dX0_append_105 rfl ?_
        refine z_aload_n B 1 dX0_append_107 rfl rfl ?_
        refine z_callMV (As := [.int (nI (p)), .ref (a 1)]) (st := []) (C := RX4) (T := TX4) (N := 2) (ci := 4) (l := l) B hl (cc_X4_fill_ND l D g a (flC (up2 (acL (ap1 C p 1 2 n x y) 1 p n) 12 p (-1)) 15 16 2 n p) m p (by omega) n ((congrFun ((flC_k (k := 3) (by decide)).trans ((up2_k (k' := 3) (k := 12) (by omega)).trans ((acL_k (ap1 C p 1 2 n x y) 1 p (k := 3) (by decide) n).trans ((up2_k (k' := 3) (k := 10) (by omega)).trans ((up2_k (k' := 3) (k := 9) (by omega)).trans ((up2_k (k' := 3) (k := 8) (by omega)).trans ((up2_k (k' := 3) (k := 7) (by omega)).trans rfl))))))) 0).trans hc) (by omega)) gX0_append_X4_fill rfl ⟨rfl, rfl⟩ nm_X4_fill ⟨by decide, by decide⟩ 19 rfl rfl rfl (Nat.le_of_ble_eq_true rfl) dX0_append_108 rfl rfl (by decide) (by decide) (fun w1 hr => ?_)
        subst hr
        refine z_aload_n B 0 dX0_append_111 rfl rfl ?_
        refine z_dup B dX0_append_112 rfl ?_
        refine z_get (C := RX0) (T := TX0) (N := 11) (v := .int ((flC (flC (up2 (acL (ap1 C p 1 2 n x y) 1 p n) 12 p (-1)) 15 16 2 n p) 17 18 2 n p) 19 0)) B 3 10 1 fw_X0_append_X0 rfl rfl (by decide) rfl rfl rfl dX0_append_113 ?_
        refine z_top (y := nI (p)) ((congrFun ((flC_k (k := 19) (by decide)).trans (((flC_k (k := 19) (by decide)).trans ((up2_k (k' := 19) (k := 12) (by omega)).trans ((acL_k (ap1 C p 1 2 n x y) 1 p (k := 19) (by decide) n).trans ((up2_k (k' := 19) (k := 10) (by omega)).trans ((up2_k (k' := 19) (k := 9) (by omega)).trans ((up2_k (k' := 19) (k := 8) (by omega)).trans ((up2_k (k' := 19) (k := 7) (by omega)).trans rfl))))))))) 0).trans hp0) ?_
        refine z_iconst (v := nI 1) B dX0_append_116 (by decide) ?_
        refine z_iaddN B dX0_append_117 ?_
        refine z_put (C := RX0) (T := TX0) (N := 11) (w' := wC g a (up2 (flC (flC (up2 (acL (ap1 C p 1 2 n x y) 1 p n) 12 p (-1)) 15 16 2 n p) 17 18 2 n p) 19 0 (nI (p + 1))) m) B 3 10 1 fw_X0_append_X0 tyX0 tyX0_ok nmX0 rfl rfl (by decide) rfl rfl rfl rfl rfl (Nat.le_of_ble_eq_true rfl) dX0_append_118 (wC_f (by decide) rfl (fun f hf => up2_k (by omega))) ?_
        refine z_iload B 4 dX0_append_121 rfl ?_
        subst hQ
        exact z_mret B hAe hr dX0_append_123 rfl (by decide) (by decide) (by exact ⟨rfl, rfl⟩)
      · refine z_aload_n B 0 dX0_append_58 rfl rfl ?_
        refine z_get (C := RX0) (T := TX0) (N := 11) (v := .ref (a 14)) B 3 4 7 fw_X0_append_X0 rfl rfl (by decide) rfl rfl rfl dX0_append_59 ?_
        refine z_iload B 4 dX0_append_62 rfl ?_
        refine z_iconst (v := nI 4) B dX0_append_64 (by decide) ?_
        refine z_imulN B dX0_append_65 ?_
        refine z_iload B 5 dX0_append_66 rfl ?_
        refine z_iaddN B dX0_append_68 ?_
        refine z_aload_n B 1 dX0_append_69 rfl rfl ?_
        refine z_get (C := RX3) (T := TX3) (N := 3) (v := .ref (a 6)) B 1 0 8 fw_X0_append_X3 rfl rfl (by decide) rfl rfl rfl dX0_append_70 ?_
        refine z_iload B 5 dX0_append_73 rfl ?_
        refine z_iald (g := ((acL (ap1 C p 1 2 n x y) 1 p i) 1)) (i := i) B 6 0 rfl rfl (by omega) (by decide) dX0_append_75 ?_
        refine z_top (y := C 1 i) (congrFun ((acL_k (ap1 C p 1 2 n x y) 1 p (k := 1) (by decide) i).trans ((up2_k (k' := 1) (k := 10) (by omega)).trans ((up2_k (k' := 1) (k := 9) (by omega)).trans ((up2_k (k' := 1) (k := 8) (by omega)).trans ((up2_k (k' := 1) (k := 7) (by omega)).trans rfl))))) _) ?_
        refine z_iast (g := ((acL (ap1 C p 1 2 n x y) 1 p i) 11)) (i := p * 4 + i) (w' := wC g a (up2 (acL (ap1 C p 1 2 n x y) 1 p i) 11 (p * 4 + i) (C 1 i)) m) B 14 0 rfl rfl (by omega) (by decide) dX0_append_76 (wC_f (by decide) rfl (fun f hf => up2_k (by omega))) ?_
        refine z_iinc B 5 (lv1 := [(5, .int (nI (i + 1))), (0, .ref (a 3)), (1, .ref (a 1)), (2, .int (x)), (3, .int (y)), (4, .int (nI (p)))]) dX0_append_77 rfl (nI_1 _) (by decide) rfl ?_
        refine z_goto B 49 dX0_append_80 (by decide) ?_
        refine z_loc [1, 2, 3, 4, 5, 0] (lv' := [(0, .ref (a 3)), (1, .ref (a 1)), (2, .int (x)), (3, .int (y)), (4, .int (nI (p))), (5, .int (nI (i + 1)))]) rfl ?_
        refine z_lvc (lv' := [(0, .ref (a 3)), (1, .ref (a 1)), (2, .int (x)), (3, .int (y)), (4, .int (nI (p))), (5, .int (nI ((i + 1))))]) (by rfl) ?_
        refine z_w (w' := wC g a (acL (ap1 C p 1 2 n x y) 1 p (i + 1)) m) (by rfl) ?_
        exact ih49 (i + 1) (by omega) (by omega)
  refine z_loc [2, 3, 4, 5, 1, 0] (lv' := [(0, .ref (a 3)), (1, .ref (a 1)), (2, .int (x)), (3, .int (y)), (4, .int (nI (p))), (5, .int (nI (0)))]) rfl ?_
  refine z_w (w' := wC g a (acL (ap1 C p 1 2 n x y) 1 p 0) m) (by rfl) ?_
  exact loop49 (n + 1) 0 (by omega) (by omega)
set_option maxHeartbeats 4000000 in
set_option maxRecDepth 100000 in
theorem cc_X0_append_O (l : Launch) (D : va_G) (g : zG) (a : Nat → Nat) (C : zMS) (m : Nat) (x : Int32) (y : Int32) (p : Nat) (hp0 : C 19 0 = nI p) (hp : p < 80) (n : Nat) (hc : C 6 0 = nI n) (hn4 : n ≤ 4) : zMutI l yX0_append wsX0_append { frames := 2, cells := 0, slots := 0, locals := 45 } D (zT g) (wC g a C m) [.ref (a 3), .ref (a 2), .int (x), .int (y)] (fun r w' => r = nI (p) ∧ w' = wC g a (apC C p 4 5 n x y) m) 0 0 := by
  refine zMutI_of (cc := cX0_append) (maxL := 6) (ret := (some .int)) (own := RX0) [(0, .ref (a 3)), (1, .ref (a 2)), (2, .int (x)), (3, .int (y))] (by decide) rfl rfl rfl (Nat.le_of_ble_eq_true rfl) ?_
  intro X A hAe hl B hr hin
  generalize hQ : (zQe X (va_Qi (fun r w' => r = nI (p) ∧ w' = wC g a (apC C p 4 5 n x y) m) (zEnd D (zT g) (wC g a C m) (zs X).heap.size) A) 0 0 A) = Q
  refine z_aload_n B 0 dX0_append_0 rfl rfl ?_
  refine z_get (C := RX0) (T := TX0) (N := 11) (v := .int (C 19 0)) B 3 10 1 fw_X0_append_X0 rfl rfl (by decide) rfl rfl rfl dX0_append_1 ?_
  refine z_top (y := nI (p)) hp0 ?_
  refine z_istore (lv1 := [(4, .int (nI (p))), (0, .ref (a 3)), (1, .ref (a 2)), (2, .int (x)), (3, .int (y))]) B dX0_append_4 (by decide) rfl ?_
  refine z_aload_n B 1 dX0_append_6 rfl rfl ?_
  refine z_get (C := RX0) (T := TX0) (N := 11) (v := .ref (a 10)) B 3 0 2 fw_X0_append_X0 rfl rfl (by decide) rfl rfl rfl dX0_append_7 ?_
  refine z_iload B 0 dX0_append_10 rfl ?_
  refine z_iload_n B 4 dX0_append_12 rfl rfl ?_
  refine z_iast (g := (C 7)) (i := p) (w' := wC g a (up2 C 7 p y) m) B 10 0 rfl rfl (by omega) (by decide) dX0_append_13 (wC_f (by decide) rfl (fun f hf => up2_k (by omega))) ?_
  refine z_aload_n B 1 dX0_append_14 rfl rfl ?_
  refine z_get (C := RX0) (T := TX0) (N := 11) (v := .ref (a 11)) B 3 1 3 fw_X0_append_X0 rfl rfl (by decide) rfl rfl rfl dX0_append_15 ?_
  refine z_iload B 0 dX0_append_18 rfl ?_
  refine z_iload_n B 3 dX0_append_20 rfl rfl ?_
  refine z_iast (g := (C 8)) (i := p) (w' := wC g a (up2 (up2 C 7 p y) 8 p x) m) B 11 0 rfl rfl (by omega) (by decide) dX0_append_21 (wC_f (by decide) rfl (fun f hf => up2_k (by omega))) ?_
  refine z_aload_n B 1 dX0_append_22 rfl rfl ?_
  refine z_get (C := RX0) (T := TX0) (N := 11) (v := .ref (a 12)) B 3 2 4 fw_X0_append_X0 rfl rfl (by decide) rfl rfl rfl dX0_append_23 ?_
  refine z_iload B 0 dX0_append_26 rfl ?_
  refine z_aload_n B 2 dX0_append_28 rfl rfl ?_
  refine z_iload_n B 4 dX0_append_29 rfl rfl ?_
  refine z_iload_n B 3 dX0_append_30 rfl rfl ?_
  refine z_callP (As := [.int (y), .int (x)]) (st := [.int (nI (p)), .ref (a 12)]) (C := RX3) (T := TX3) (N := 3) (ci := 3) (l := l) B hl (cc_X3_markWith_O l D g a (up2 (up2 C 7 p y) 8 p x) m y x n hc (by omega)) gX0_append_X3_markWith rfl ⟨rfl, rfl⟩ nm_X3_markWith ⟨by decide, by decide⟩ (fun _ h => h) 2 rfl rfl rfl (Nat.le_of_ble_eq_true rfl) dX0_append_31 (Nat.zero_le _) (Nat.zero_le _) (fun r hr => ?_)
  change r = fMk (C 4) (C 5) (nMk (nMk (nI 1) y) x) n at hr
  subst hr
  refine z_iast (g := (C 9)) (i := p) (w' := wC g a (up2 (up2 (up2 C 7 p y) 8 p x) 9 p (fMk (C 4) (C 5) (nMk (nMk (nI 1) y) x) n)) m) B 12 0 rfl rfl (by omega) (by decide) dX0_append_34 (wC_f (by decide) rfl (fun f hf => up2_k (by omega))) ?_
  refine z_aload_n B 1 dX0_append_35 rfl rfl ?_
  refine z_get (C := RX0) (T := TX0) (N := 11) (v := .ref (a 13)) B 3 3 5 fw_X0_append_X0 rfl rfl (by decide) rfl rfl rfl dX0_append_36 ?_
  refine z_iload B 0 dX0_append_39 rfl ?_
  refine z_aload_n B 2 dX0_append_41 rfl rfl ?_
  refine z_get (C := RX3) (T := TX3) (N := 3) (v := .int (C 6 0)) B 2 2 6 fw_X0_append_X3 rfl rfl (by decide) rfl rfl rfl dX0_append_42 ?_
  refine z_top (y := nI (n)) hc ?_
  refine z_iast (g := (C 10)) (i := p) (w' := wC g a (up2 (up2 (up2 (up2 C 7 p y) 8 p x) 9 p (fMk (C 4) (C 5) (nMk (nMk (nI 1) y) x) n)) 10 p (nI (n))) m) B 13 0 rfl rfl (by omega) (by decide) dX0_append_45 (wC_f (by decide) rfl (fun f hf => up2_k (by omega))) ?_
  refine z_iconst (v := nI 0) B dX0_append_46 (by decide) ?_
  refine z_istore (lv1 := [(5, .int (nI (0))), (4, .int (nI (p))), (0, .ref (a 3)), (1, .ref (a 2)), (2, .int (x)), (3, .int (y))]) B dX0_append_47 (by decide) rfl ?_
  have loop49 : ∀ (n0 i : Nat), i ≤ n → n + 1 ≤ i + n0 → zJ X 6 (zI1 D A (zs X)) Q (wC g a (acL (ap1 C p 4 5 n x y) 4 p i) m) 0 0 [(0, .ref (a 3)), (1, .ref (a 2)), (2, .int (x)), (3, .int (y)), (4, .int (nI (p))), (5, .int (nI (i)))] 49 [] := by
    intro n49
    induction n49 with
    | zero => intro i h1 h2; exact absurd h2 (by omega)
    | succ n49 ih49 =>
      intro i hle49 hn49
      refine z_iload B 5 dX0_append_49 rfl ?_
      refine z_aload_n B 1 dX0_append_51 rfl rfl ?_
      refine z_get (C := RX3) (T := TX3) (N := 3) (v := .int ((acL (ap1 C p 4 5 n x y) 4 p i) 6 0)) B 2 2 6 fw_X0_append_X3 rfl rfl (by decide) rfl rfl rfl dX0_append_52 ?_
      refine z_top (y := nI (n)) ((congrFun ((acL_k (ap1 C p 4 5 n x y) 4 p (k := 6) (by decide) i).trans ((up2_k (k' := 6) (k := 10) (by omega)).trans ((up2_k (k' := 6) (k := 9) (by omega)).trans ((up2_k (k' := 6) (k := 8) (by omega)).trans ((up2_k (k' := 6) (k := 7) (by omega)).trans rfl))))) 0).trans hc) ?_
      refine z_icmpN_ge B 83 dX0_append_55 (by decide) (by omega) (by omega) (fun zc55 => ?_) (fun zc55 => ?_)
      · obtain rfl : n = i := by omega
        refine z_aload_n B 0 dX0_append_83 rfl rfl ?_
        refine z_get (C := RX0) (T := TX0) (N := 11) (v := .ref (a 15)) B 3 5 9 fw_X0_append_X0 rfl rfl (by decide) rfl rfl rfl dX0_append_84 ?_
        refine z_iload B 4 dX0_append_87 rfl ?_
        refine z_iconst (v := (-1)) B dX0_append_89 (by decide) ?_
        refine z_iast (g := ((acL (ap1 C p 4 5 n x y) 4 p n) 12)) (i := p) (w' := wC g a (up2 (acL (ap1 C p 4 5 n x y) 4 p n) 12 p (-1)) m) B 15 0 rfl rfl (by omega) (by decide) dX0_append_90 (wC_f (by decide) rfl (fun f hf => up2_k (by omega))) ?_
        refine z_aload_n B 0 dX0_append_91 rfl rfl ?_
        refine z_get (C := RX0) (T := TX0) (N := 11) (v := .ref (a 18)) B 3 8 10 fw_X0_append_X0 rfl rfl (by decide) rfl rfl rfl dX0_append_92 ?_
        refine z_iload B 4 dX0_append_95 rfl ?_
        refine z_aload_n B 1 dX0_append_97 rfl rfl ?_
        refine z_callMV (As := [.int (nI (p)), .ref (a 2)]) (st := []) (C := RX4) (T := TX4) (N := 2) (ci := 4) (l := l) B hl (cc_X4_fill_WO l D g a (up2 (acL (ap1 C p 4 5 n x y) 4 p n) 12 p (-1)) m p (by omega) n ((congrFun ((acL_k (ap1 C p 4 5 n x y) 4 p (k := 6) (by decide) n).trans ((up2_k (k' := 6) (k := 10) (by omega)).trans ((up2_k (k' := 6) (k := 9) (by omega)).trans ((up2_k (k' := 6) (k := 8) (by omega)).trans ((up2_k (k' := 6) (k := 7) (by omega)).trans rfl))))) 0).trans hc) (by omega)) gX0_append_X4_fill rfl ⟨rfl, rfl⟩ nm_X4_fill ⟨by decide, by decide⟩ 18 rfl rfl rfl (Nat.le_of_ble_eq_true rfl) dX0_append_98 rfl rfl (by decide) (by decide) (fun w1 hr => ?_)
        subst hr
        refine z_aload_n B 0 dX0_append_101 rfl rfl ?_
        refine z_get (C := RX0) (T := TX0) (N := 11) (v := .ref (a 19)) B 3 9 11 fw_X0_append_X0 rfl rfl (by decide) rfl rfl rfl dX0_append_102 ?_
        refine z_iload B 4 dX0_append_105 rfl ?_
        refine z_aload_n B 1 dX0_append_107 rfl rfl ?_
        refine z_callMV (As := [.int (nI (p)), .ref (a 2)]) (st := []) (C := RX4) (T := TX4) (N := 2) (ci := 4) (l := l) B hl (cc_X4_fill_NO l D g a (flC (up2 (acL (ap1 C p 4 5 n x y) 4 p n) 12 p (-1)) 15 16 5 n p) m p (by omega) n ((congrFun ((flC_k (k := 6) (by decide)).trans ((up2_k (k' := 6) (k := 12) (by omega)).trans ((acL_k (ap1 C p 4 5 n x y) 4 p (k := 6) (by decide) n).trans ((up2_k (k' := 6) (k := 10) (by omega)).trans ((up2_k (k' := 6) (k := 9) (by omega)).trans ((up2_k (k' := 6) (k := 8) (by omega)).trans ((up2_k (k' := 6) (k := 7) (by omega)).trans rfl))))))) 0).trans hc) (by omega)) gX0_append_X4_fill rfl ⟨rfl, rfl⟩ nm_X4_fill ⟨by decide, by decide⟩ 19 rfl rfl rfl (Nat.le_of_ble_eq_true rfl) dX0_append_108 rfl rfl (by decide) (by decide) (fun w1 hr => ?_)
        subst hr
        refine z_aload_n B 0 dX0_append_111 rfl rfl ?_
        refine z_dup B dX0_append_112 rfl ?_
        refine z_get (C := RX0) (T := TX0) (N := 11) (v := .int ((flC (flC (up2 (acL (ap1 C p 4 5 n x y) 4 p n) 12 p (-1)) 15 16 5 n p) 17 18 5 n p) 19 0)) B 3 10 1 fw_X0_append_X0 rfl rfl (by decide) rfl rfl rfl dX0_append_113 ?_
        refine z_top (y := nI (p)) ((congrFun ((flC_k (k := 19) (by decide)).trans (((flC_k (k := 19) (by decide)).trans ((up2_k (k' := 19) (k := 12) (by omega)).trans ((acL_k (ap1 C p 4 5 n x y) 4 p (k := 19) (by decide) n).trans ((up2_k (k' := 19) (k := 10) (by omega)).trans ((up2_k (k' := 19) (k := 9) (by omega)).trans ((up2_k (k' := 19) (k := 8) (by omega)).trans ((up2_k (k' := 19) (k := 7) (by omega)).trans rfl))))))))) 0).trans hp0) ?_
        refine z_iconst (v := nI 1) B dX0_append_116 (by decide) ?_
        refine z_iaddN B dX0_append_117 ?_
        refine z_put (C := RX0) (T := TX0) (N := 11) (w' := wC g a (up2 (flC (flC (up2 (acL (ap1 C p 4 5 n x y) 4 p n) 12 p (-1)) 15 16 5 n p) 17 18 5 n p) 19 0 (nI (p + 1))) m) B 3 10 1 fw_X0_append_X0 tyX0 tyX0_ok nmX0 rfl rfl (by decide) rfl rfl rfl rfl rfl (Nat.le_of_ble_eq_true rfl) dX0_append_118 (wC_f (by decide) rfl (fun f hf => up2_k (by omega))) ?_
        refine z_iload B 4 dX0_append_121 rfl ?_
        subst hQ
        exact z_mret B hAe hr dX0_append_123 rfl (by decide) (by decide) (by exact ⟨rfl, rfl⟩)
      · refine z_aload_n B 0 dX0_append_58 rfl rfl ?_
        refine z_get (C := RX0) (T := TX0) (N := 11) (v := .ref (a 14)) B 3 4 7 fw_X0_append_X0 rfl rfl (by decide) rfl rfl rfl dX0_append_59 ?_
        refine z_iload B 4 dX0_append_62 rfl ?_
        refine z_iconst (v := nI 4) B dX0_append_64 (by decide) ?_
        refine z_imulN B dX0_append_65 ?_
        refine z_iload B 5 dX0_append_66 rfl ?_
        refine z_iaddN B dX0_append_68 ?_
        refine z_aload_n B 1 dX0_append_69 rfl rfl ?_
        refine z_get (C := RX3) (T := TX3) (N := 3) (v := .ref (a 8)) B 2 0 8 fw_X0_append_X3 rfl rfl (by decide) rfl rfl rfl dX0_append_70 ?_
        refine z_iload B 5 dX0_append_73 rfl ?_
        refine z_iald (g := ((acL (ap1 C p 4 5 n x y) 4 p i) 4)) (i := i) B 8 0 rfl rfl (by omega) (by decide) dX0_append_75 ?_
        refine z_top (y := C 4 i) (congrFun ((acL_k (ap1 C p 4 5 n x y) 4 p (k := 4) (by decide) i).trans ((up2_k (k' := 4) (k := 10) (by omega)).trans ((up2_k (k' := 4) (k := 9) (by omega)).trans ((up2_k (k' := 4) (k := 8) (by omega)).trans ((up2_k (k' := 4) (k := 7) (by omega)).trans rfl))))) _) ?_
        refine z_iast (g := ((acL (ap1 C p 4 5 n x y) 4 p i) 11)) (i := p * 4 + i) (w' := wC g a (up2 (acL (ap1 C p 4 5 n x y) 4 p i) 11 (p * 4 + i) (C 4 i)) m) B 14 0 rfl rfl (by omega) (by decide) dX0_append_76 (wC_f (by decide) rfl (fun f hf => up2_k (by omega))) ?_
        refine z_iinc B 5 (lv1 := [(5, .int (nI (i + 1))), (0, .ref (a 3)), (1, .ref (a 2)), (2, .int (x)), (3, .int (y)), (4, .int (nI (p)))]) dX0_append_77 rfl (nI_1 _) (by decide) rfl ?_
        refine z_goto B 49 dX0_append_80 (by decide) ?_
        refine z_loc [1, 2, 3, 4, 5, 0] (lv' := [(0, .ref (a 3)), (1, .ref (a 2)), (2, .int (x)), (3, .int (y)), (4, .int (nI (p))), (5, .int (nI (i + 1)))]) rfl ?_
        refine z_lvc (lv' := [(0, .ref (a 3)), (1, .ref (a 2)), (2, .int (x)), (3, .int (y)), (4, .int (nI (p))), (5, .int (nI ((i + 1))))]) (by rfl) ?_
        refine z_w (w' := wC g a (acL (ap1 C p 4 5 n x y) 4 p (i + 1)) m) (by rfl) ?_
        exact ih49 (i + 1) (by omega) (by omega)
  refine z_loc [2, 3, 4, 5, 1, 0] (lv' := [(0, .ref (a 3)), (1, .ref (a 2)), (2, .int (x)), (3, .int (y)), (4, .int (nI (p))), (5, .int (nI (0)))]) rfl ?_
  refine z_w (w' := wC g a (acL (ap1 C p 4 5 n x y) 4 p 0) m) (by rfl) ?_
  exact loop49 (n + 1) 0 (by omega) (by omega)
theorem fw_X0_stateOf_X0 : zF wsX0_stateOf RX0 TX0 11 := fun _ h => List.mem_cons_of_mem _ (List.mem_append_left _ (List.mem_append_right _ (h)))
set_option maxHeartbeats 4000000 in
set_option maxRecDepth 100000 in
theorem cc_X0_stateOf (l : Launch) (D : va_G) (g : zG) (a : Nat → Nat) (C : zMS) (m : Nat) (hI : CI C) (j : Nat) (hj : j < 80) : zPure l yX0_stateOf wsX0_stateOf { frames := 1, cells := 0, slots := 0, locals := 21 } D (zT g) (wC g a C m) [.ref (a 3), .int (nI (j))] (fun r => r = nI (cSt C j)) := by
  refine zPure_of (cc := cX0_stateOf) (maxL := 2) (ret := (some .int)) (own := RX0) [(0, .ref (a 3)), (1, .int (nI (j)))] (by decide) rfl rfl rfl (Nat.le_of_ble_eq_true rfl) ?_
  intro X hl B hr
  obtain ⟨b19, b3, b6, b20, b22, b27, b0⟩ := CI_bs hI
  refine z_aload_n B 0 dX0_stateOf_0 rfl rfl ?_
  refine z_get (C := RX0) (T := TX0) (N := 11) (v := .ref (a 17)) B 3 7 1 fw_X0_stateOf_X0 rfl rfl (by decide) rfl rfl rfl dX0_stateOf_1 ?_
  refine z_iload_n B 1 dX0_stateOf_4 rfl rfl ?_
  refine z_zald (g := (C 14)) (i := j) B 17 1 rfl rfl (by omega) (by decide) dX0_stateOf_5 ?_
  refine z_if_eq B 11 dX0_stateOf_6 (by decide) (fun zc6 => ?_) (fun zc6 => ?_)
  · refine z_aload_n B 0 dX0_stateOf_11 rfl rfl ?_
    refine z_get (C := RX0) (T := TX0) (N := 11) (v := .ref (a 19)) B 3 9 2 fw_X0_stateOf_X0 rfl rfl (by decide) rfl rfl rfl dX0_stateOf_12 ?_
    refine z_iload_n B 1 dX0_stateOf_15 rfl rfl ?_
    refine z_callP (As := [.int (nI (j))]) (st := []) (C := RX4) (T := TX4) (N := 2) (ci := 4) (l := l) B hl (cc_X4_isFilled_N l D g a C m hI j (by omega)) gX0_stateOf_X4_isFilled rfl ⟨rfl, rfl⟩ nm_X4_isFilled ⟨by decide, by decide⟩ (fun _ h => h) 19 rfl rfl rfl (Nat.le_of_ble_eq_true rfl) dX0_stateOf_16 (Nat.zero_le _) (Nat.zero_le _) (fun r hr => ?_)
    subst hr
    refine z_if_eq B 26 dX0_stateOf_19 (by decide) (fun zc19 => ?_) (fun zc19 => ?_)
    · refine z_iconst (v := nI 1) B dX0_stateOf_26 (by decide) ?_
      exact z_pret B hr dX0_stateOf_27 rfl (by rw [cSt, ifN_f (not_not_intro zc6), ifN_f (not_not_intro zc19)])
    · refine z_iconst (v := nI 0) B dX0_stateOf_22 (by decide) ?_
      refine z_goto B 27 dX0_stateOf_23 (by decide) ?_
      exact z_pret B hr dX0_stateOf_27 rfl (by rw [cSt, ifN_f (not_not_intro zc6), ifN_t zc19])
  · refine z_iconst (v := nI 2) B dX0_stateOf_9 (by decide) ?_
    exact z_pret B hr dX0_stateOf_10 rfl (by rw [cSt, ifN_t zc6])
theorem fw_X0_isTrueOn_X0 : zF wsX0_isTrueOn RX0 TX0 11 := fun _ h => List.mem_cons_of_mem _ (List.mem_append_left _ (List.mem_append_right _ (h)))
set_option maxHeartbeats 4000000 in
set_option maxRecDepth 100000 in
theorem cc_X0_isTrueOn_N (l : Launch) (D : va_G) (g : zG) (a : Nat → Nat) (C : zMS) (m : Nat) (hI : CI C) (j : Nat) (hj : j < 80) : zPure l yX0_isTrueOn wsX0_isTrueOn { frames := 2, cells := 0, slots := 0, locals := 45 } D (zT g) (wC g a C m) [.ref (a 3), .ref (a 19), .int (nI (j))] (fun r => r = bI (cTB C j)) := by
  refine zPure_of (cc := cX0_isTrueOn) (maxL := 3) (ret := (some .boolean)) (own := RX0) [(0, .ref (a 3)), (1, .ref (a 19)), (2, .int (nI (j)))] (by decide) rfl rfl rfl (Nat.le_of_ble_eq_true rfl) ?_
  intro X hl B hr
  obtain ⟨b19, b3, b6, b20, b22, b27, b0⟩ := CI_bs hI
  refine z_aload_n B 1 dX0_isTrueOn_0 rfl rfl ?_
  refine z_aload_n B 0 dX0_isTrueOn_1 rfl rfl ?_
  refine z_get (C := RX0) (T := TX0) (N := 11) (v := .ref (a 18)) B 3 8 1 fw_X0_isTrueOn_X0 rfl rfl (by decide) rfl rfl rfl dX0_isTrueOn_2 ?_
  refine z_iload_n B 2 dX0_isTrueOn_5 rfl rfl ?_
  refine z_callP (As := [.ref (a 18), .int (nI (j))]) (st := []) (C := RX4) (T := TX4) (N := 2) (ci := 4) (l := l) B hl (cc_X4_isLike_NW l D g a C m hI j (by omega)) gX0_isTrueOn_X4_isLike rfl ⟨rfl, rfl⟩ nm_X4_isLike ⟨by decide, by decide⟩ (fun _ h => h) 19 rfl rfl rfl (Nat.le_of_ble_eq_true rfl) dX0_isTrueOn_6 (Nat.zero_le _) (Nat.zero_le _) (fun r hr => ?_)
  subst hr
  exact z_pret B hr dX0_isTrueOn_9 (nar_b (bI_or _)) (by rfl)
set_option maxHeartbeats 4000000 in
set_option maxRecDepth 100000 in
theorem cc_X0_isTrueOn_K (l : Launch) (D : va_G) (g : zG) (a : Nat → Nat) (C : zMS) (m : Nat) (hI : CI C) (k : Nat) (hk : 4 * k + 3 < m) (j : Nat) (hj : j < 80) : zPure l yX0_isTrueOn wsX0_isTrueOn { frames := 2, cells := 0, slots := 0, locals := 45 } D (zT g) (wC g a C m) [.ref (a 3), .ref (a (31 + 4 * k)), .int (nI (j))] (fun r => r = bI (cTK C k j)) := by
  refine zPure_of (cc := cX0_isTrueOn) (maxL := 3) (ret := (some .boolean)) (own := RX0) [(0, .ref (a 3)), (1, .ref (a (31 + 4 * k))), (2, .int (nI (j)))] (by decide) rfl rfl rfl (Nat.le_of_ble_eq_true rfl) ?_
  intro X hl B hr
  obtain ⟨b19, b3, b6, b20, b22, b27, b0⟩ := CI_bs hI
  refine z_aload_n B 1 dX0_isTrueOn_0 rfl rfl ?_
  refine z_aload_n B 0 dX0_isTrueOn_1 rfl rfl ?_
  refine z_get (C := RX0) (T := TX0) (N := 11) (v := .ref (a 18)) B 3 8 1 fw_X0_isTrueOn_X0 rfl rfl (by decide) rfl rfl rfl dX0_isTrueOn_2 ?_
  refine z_iload_n B 2 dX0_isTrueOn_5 rfl rfl ?_
  refine z_callP (As := [.ref (a 18), .int (nI (j))]) (st := []) (C := RX4) (T := TX4) (N := 2) (ci := 4) (l := l) B hl (cc_X4_isLike_KW l D g a C m hI k (by omega) j (by omega)) gX0_isTrueOn_X4_isLike rfl ⟨rfl, rfl⟩ nm_X4_isLike ⟨by decide, by decide⟩ (fun _ h => h) (31 + 4 * k) (wC_c1 (by omega)) rfl rfl (Nat.le_of_ble_eq_true rfl) dX0_isTrueOn_6 (Nat.zero_le _) (Nat.zero_le _) (fun r hr => ?_)
  subst hr
  exact z_pret B hr dX0_isTrueOn_9 (nar_b (bI_or _)) (by rfl)
theorem fw_X0_isReversible_X0 : zF wsX0_isReversible RX0 TX0 11 := fun _ h => List.mem_cons_of_mem _ (List.mem_append_left _ (List.mem_append_right _ (h)))
set_option maxHeartbeats 4000000 in
set_option maxRecDepth 100000 in
theorem cc_X0_isReversible (l : Launch) (D : va_G) (g : zG) (a : Nat → Nat) (C : zMS) (m : Nat) (hI : CI C) (j : Nat) (hj : j < 80) : zPure l yX0_isReversible wsX0_isReversible { frames := 3, cells := 0, slots := 0, locals := 67 } D (zT g) (wC g a C m) [.ref (a 3), .int (nI (j))] (fun r => r = bI (cTB C j ∧ ¬ 0 ≤ C 12 j ∧ C 13 j = 0)) := by
  refine zPure_of (cc := cX0_isReversible) (maxL := 2) (ret := (some .boolean)) (own := RX0) [(0, .ref (a 3)), (1, .int (nI (j)))] (by decide) rfl rfl rfl (Nat.le_of_ble_eq_true rfl) ?_
  intro X hl B hr
  obtain ⟨b19, b3, b6, b20, b22, b27, b0⟩ := CI_bs hI
  refine z_aload_n B 0 dX0_isReversible_0 rfl rfl ?_
  refine z_aload_n B 0 dX0_isReversible_1 rfl rfl ?_
  refine z_get (C := RX0) (T := TX0) (N := 11) (v := .ref (a 19)) B 3 9 1 fw_X0_isReversible_X0 rfl rfl (by decide) rfl rfl rfl dX0_isReversible_2 ?_
  refine z_iload_n B 1 dX0_isReversible_5 rfl rfl ?_
  refine z_callP (As := [.ref (a 19), .int (nI (j))]) (st := []) (C := RX0) (T := TX0) (N := 11) (ci := 0) (l := l) B hl (cc_X0_isTrueOn_N l D g a C m hI j (by omega)) gX0_isReversible_X0_isTrueOn rfl ⟨rfl, rfl⟩ nm_X0_isTrueOn ⟨by decide, by decide⟩ (fun _ h => h) 3 rfl rfl rfl (Nat.le_of_ble_eq_true rfl) dX0_isReversible_6 (Nat.zero_le _) (Nat.zero_le _) (fun r hr => ?_)
  subst hr
  refine z_ifB_eq B 34 dX0_isReversible_9 (by decide) (fun zc9 => ?_) (fun zc9 => ?_)
  · refine z_iconst (v := nI 0) B dX0_isReversible_34 (by decide) ?_
    exact z_pret B hr dX0_isReversible_35 (nar_b (Or.inl rfl)) (by refine bI_z ?_; first | exact fun h => zc9 h.1 | exact fun h => h.2.1 zc18 | exact fun h => zc27 h.2.2)
  · refine z_aload_n B 0 dX0_isReversible_12 rfl rfl ?_
    refine z_get (C := RX0) (T := TX0) (N := 11) (v := .ref (a 15)) B 3 5 2 fw_X0_isReversible_X0 rfl rfl (by decide) rfl rfl rfl dX0_isReversible_13 ?_
    refine z_iload_n B 1 dX0_isReversible_16 rfl rfl ?_
    refine z_iald (g := (C 12)) (i := j) B 15 0 rfl rfl (by omega) (by decide) dX0_isReversible_17 ?_
    refine z_if_ge B 34 dX0_isReversible_18 (by decide) (fun zc18 => ?_) (fun zc18 => ?_)
    · refine z_iconst (v := nI 0) B dX0_isReversible_34 (by decide) ?_
      exact z_pret B hr dX0_isReversible_35 (nar_b (Or.inl rfl)) (by refine bI_z ?_; first | exact fun h => zc9 h.1 | exact fun h => h.2.1 zc18 | exact fun h => zc27 h.2.2)
    · refine z_aload_n B 0 dX0_isReversible_21 rfl rfl ?_
      refine z_get (C := RX0) (T := TX0) (N := 11) (v := .ref (a 16)) B 3 6 3 fw_X0_isReversible_X0 rfl rfl (by decide) rfl rfl rfl dX0_isReversible_22 ?_
      refine z_iload_n B 1 dX0_isReversible_25 rfl rfl ?_
      refine z_zald (g := (C 13)) (i := j) B 16 1 rfl rfl (by omega) (by decide) dX0_isReversible_26 ?_
      refine z_if_ne B 34 dX0_isReversible_27 (by decide) (fun zc27 => ?_) (fun zc27 => ?_)
      · refine z_iconst (v := nI 0) B dX0_isReversible_34 (by decide) ?_
        exact z_pret B hr dX0_isReversible_35 (nar_b (Or.inl rfl)) (by refine bI_z ?_; first | exact fun h => zc9 h.1 | exact fun h => h.2.1 zc18 | exact fun h => zc27 h.2.2)
      · refine z_iconst (v := nI 1) B dX0_isReversible_30 (by decide) ?_
        refine z_goto B 35 dX0_isReversible_31 (by decide) ?_
        exact z_pret B hr dX0_isReversible_35 (nar_b (Or.inr rfl)) (by refine bI_1 ?_; first | exact ⟨zc9, zc18, zc27⟩)
theorem fw_X0_markStruck_X0 : zF wsX0_markStruck RX0 TX0 11 := fun _ h => List.mem_cons_of_mem _ (List.mem_append_left _ (List.mem_append_right _ (h)))
set_option maxHeartbeats 4000000 in
set_option maxRecDepth 100000 in
theorem cc_X0_markStruck (l : Launch) (D : va_G) (g : zG) (a : Nat → Nat) (C : zMS) (m : Nat) (hI : CI C) (j : Nat) (hj : j < 80) : zMutV l yX0_markStruck wsX0_markStruck { frames := 1, cells := 0, slots := 0, locals := 23 } D (zT g) (wC g a C m) [.ref (a 3), .int (nI (j))] (fun w' => w' = wC g a (blC (up2 C 14 j (nI 1)) 17 18 j) m) 0 0 := by
  refine zMutV_of (cc := cX0_markStruck) (maxL := 2) (ret := none) (own := RX0) [(0, .ref (a 3)), (1, .int (nI (j)))] (by decide) rfl rfl rfl (Nat.le_of_ble_eq_true rfl) ?_
  intro X A hAe hl B hr hin
  obtain ⟨b19, b3, b6, b20, b22, b27, b0⟩ := CI_bs hI
  refine z_aload_n B 0 dX0_markStruck_0 rfl rfl ?_
  refine z_get (C := RX0) (T := TX0) (N := 11) (v := .ref (a 17)) B 3 7 1 fw_X0_markStruck_X0 rfl rfl (by decide) rfl rfl rfl dX0_markStruck_1 ?_
  refine z_iload_n B 1 dX0_markStruck_4 rfl rfl ?_
  refine z_iconst (v := nI 1) B dX0_markStruck_5 (by decide) ?_
  refine z_zast (g := (C 14)) (i := j) (w' := wC g a (up2 C 14 j (nI (1))) m) B 17 1 rfl rfl (by omega) (by decide) (Or.inr rfl) dX0_markStruck_6 (wC_f (by decide) rfl (fun f hf => up2_k (by omega))) ?_
  refine z_aload_n B 0 dX0_markStruck_7 rfl rfl ?_
  refine z_get (C := RX0) (T := TX0) (N := 11) (v := .ref (a 19)) B 3 9 2 fw_X0_markStruck_X0 rfl rfl (by decide) rfl rfl rfl dX0_markStruck_8 ?_
  refine z_iload_n B 1 dX0_markStruck_11 rfl rfl ?_
  refine z_callM (As := [.int (nI (j))]) (st := []) (C := RX4) (T := TX4) (N := 2) (ci := 4) (l := l) B hl (cc_X4_blank_N l D g a (up2 C 14 j (nI (1))) m (CI_z hI (by omega) (Or.inr rfl)) j (by omega)) gX0_markStruck_X4_blank rfl ⟨rfl, rfl⟩ nm_X4_blank ⟨by decide, by decide⟩ 19 rfl rfl rfl (Nat.le_of_ble_eq_true rfl) dX0_markStruck_12 rfl rfl (by decide) (by decide) (fun r w1 hr => ?_)
  obtain ⟨rfl, rfl⟩ := hr
  refine z_pop B dX0_markStruck_15 rfl ?_
  exact z_vret B hAe hr dX0_markStruck_16 (by decide) (by decide) (by rfl)
theorem fw_X0_hasLegFor_X0 : zF wsX0_hasLegFor RX0 TX0 11 := fun _ h => List.mem_cons_of_mem _ (List.mem_append_right _ (h))
set_option maxHeartbeats 4000000 in
set_option maxRecDepth 100000 in
theorem cc_X0_hasLegFor (l : Launch) (D : va_G) (g : zG) (a : Nat → Nat) (C : zMS) (m : Nat) (hI : CI C) (j : Nat) (hj : j < 80) (x : Int32) : zPure l yX0_hasLegFor wsX0_hasLegFor { frames := 0, cells := 0, slots := 0, locals := 0 } D (zT g) (wC g a C m) [.ref (a 3), .int (nI (j)), .int (x)] (fun r => r = bI (cHL C j x)) := by
  refine zPure_of (cc := cX0_hasLegFor) (maxL := 4) (ret := (some .boolean)) (own := RX0) [(0, .ref (a 3)), (1, .int (nI (j))), (2, .int (x))] (by decide) rfl rfl rfl (Nat.le_of_ble_eq_true rfl) ?_
  intro X hl B hr
  obtain ⟨b19, b3, b6, b20, b22, b27, b0⟩ := CI_bs hI
  refine z_iconst (v := nI 0) B dX0_hasLegFor_0 (by decide) ?_
  refine z_istore_n (lv1 := [(3, .int (nI (0))), (0, .ref (a 3)), (1, .int (nI (j))), (2, .int (x))]) B dX0_hasLegFor_1 rfl (by decide) rfl ?_
  have bL := CI_b10 hI j
  have loop2 : ∀ (n0 i : Nat), i ≤ cL C j → cL C j + 1 ≤ i + n0 → (∀ l, l < i → ¬ C 11 (j * 4 + l) = x) → zJ X 4 (zI0 D (zs X)) (zQe X (vp_Si (fun r => r = bI (cHL C j x))) 0 0 (fun _ => False)) (wC g a C m) 0 0 [(0, .ref (a 3)), (1, .int (nI (j))), (2, .int (x)), (3, .int (nI (i)))] 2 [] := by
    intro n2
    induction n2 with
    | zero => intro i h1 h2; exact absurd h2 (by omega)
    | succ n2 ih2 =>
      intro i hle2 hn2 hal
      refine z_iload_n B 3 dX0_hasLegFor_2 rfl rfl ?_
      refine z_aload_n B 0 dX0_hasLegFor_3 rfl rfl ?_
      refine z_get (C := RX0) (T := TX0) (N := 11) (v := .ref (a 13)) B 3 3 1 fw_X0_hasLegFor_X0 rfl rfl (by decide) rfl rfl rfl dX0_hasLegFor_4 ?_
      refine z_iload_n B 1 dX0_hasLegFor_7 rfl rfl ?_
      refine z_iald (g := (C 10)) (i := j) B 13 0 rfl rfl (by omega) (by decide) dX0_hasLegFor_8 ?_
      refine z_top (y := nI (cL C j)) (CI_10 (C := C) hI _) ?_
      have := CI_b10 (C := C) hI j
      refine z_icmpN_ge B 34 dX0_hasLegFor_9 (by decide) (by omega) (by omega) (fun zc9 => ?_) (fun zc9 => ?_)
      · obtain rfl : i = cL C j := by omega
        refine z_iconst (v := nI 0) B dX0_hasLegFor_34 (by decide) ?_
        exact z_pret B hr dX0_hasLegFor_35 (nar_b (Or.inl rfl)) (by exact bI_z (fun ⟨l, hl, h⟩ => hal l hl h))
      · refine z_aload_n B 0 dX0_hasLegFor_12 rfl rfl ?_
        refine z_get (C := RX0) (T := TX0) (N := 11) (v := .ref (a 14)) B 3 4 2 fw_X0_hasLegFor_X0 rfl rfl (by decide) rfl rfl rfl dX0_hasLegFor_13 ?_
        refine z_iload_n B 1 dX0_hasLegFor_16 rfl rfl ?_
        refine z_iconst (v := nI 4) B dX0_hasLegFor_17 (by decide) ?_
        refine z_imulN B dX0_hasLegFor_18 ?_
        refine z_iload_n B 3 dX0_hasLegFor_19 rfl rfl ?_
        refine z_iaddN B dX0_hasLegFor_20 ?_
        refine z_iald (g := (C 11)) (i := j * 4 + i) B 14 0 rfl rfl (by omega) (by decide) dX0_hasLegFor_21 ?_
        refine z_iload_n B 2 dX0_hasLegFor_22 rfl rfl ?_
        refine z_icmp_ne B 28 dX0_hasLegFor_23 (by decide) (fun zc23 => ?_) (fun zc23 => ?_)
        · refine z_iinc B 3 (lv1 := [(3, .int (nI (i + 1))), (0, .ref (a 3)), (1, .int (nI (j))), (2, .int (x))]) dX0_hasLegFor_28 rfl (nI_1 _) (by decide) rfl ?_
          refine z_goto B 2 dX0_hasLegFor_31 (by decide) ?_
          refine z_loc [1, 2, 3, 0] (lv' := [(0, .ref (a 3)), (1, .int (nI (j))), (2, .int (x)), (3, .int (nI (i + 1)))]) rfl ?_
          refine z_lvc (lv' := [(0, .ref (a 3)), (1, .int (nI (j))), (2, .int (x)), (3, .int (nI ((i + 1))))]) (by rfl) ?_
          exact ih2 (i + 1) (by omega) (by omega) (all_s.mpr ⟨hal, zc23⟩)
        · refine z_iconst (v := nI 1) B dX0_hasLegFor_26 (by decide) ?_
          exact z_pret B hr dX0_hasLegFor_27 (nar_b (Or.inr rfl)) (by exact bI_1 ⟨i, zc9, zc23⟩)
  refine z_loc [1, 2, 3, 0] (lv' := [(0, .ref (a 3)), (1, .int (nI (j))), (2, .int (x)), (3, .int (nI (0)))]) rfl ?_
  exact loop2 (cL C j + 1) 0 (by omega) (by omega) (fun l hl => absurd hl (Nat.not_lt_zero l))
theorem fw_X0_sumOn_X0 : zF wsX0_sumOn RX0 TX0 11 := fun _ h => List.mem_cons_of_mem _ (List.mem_append_left _ (List.mem_append_right _ (h)))
set_option maxHeartbeats 4000000 in
set_option maxRecDepth 100000 in
theorem cc_X0_sumOn_W (l : Launch) (D : va_G) (g : zG) (a : Nat → Nat) (C : zMS) (m : Nat) (hI : CI C) (j : Nat) (hj : j < 80) (x : Int32) : zPure l yX0_sumOn wsX0_sumOn { frames := 1, cells := 0, slots := 0, locals := 22 } D (zT g) (wC g a C m) [.ref (a 3), .ref (a 18), .int (nI (j)), .int (x)] (fun r => r = cSum C 16 j x) := by
  refine zPure_of (cc := cX0_sumOn) (maxL := 6) (ret := (some .int)) (own := RX0) [(0, .ref (a 3)), (1, .ref (a 18)), (2, .int (nI (j))), (3, .int (x))] (by decide) rfl rfl rfl (Nat.le_of_ble_eq_true rfl) ?_
  intro X hl B hr
  obtain ⟨b19, b3, b6, b20, b22, b27, b0⟩ := CI_bs hI
  refine z_iconst (v := nI 0) B dX0_sumOn_0 (by decide) ?_
  refine z_istore (lv1 := [(4, .int (nI (0))), (0, .ref (a 3)), (1, .ref (a 18)), (2, .int (nI (j))), (3, .int (x))]) B dX0_sumOn_1 (by decide) rfl ?_
  refine z_iconst (v := nI 0) B dX0_sumOn_3 (by decide) ?_
  refine z_istore (lv1 := [(5, .int (nI (0))), (4, .int (nI (0))), (0, .ref (a 3)), (1, .ref (a 18)), (2, .int (nI (j))), (3, .int (x))]) B dX0_sumOn_4 (by decide) rfl ?_
  have bL := CI_b10 hI j
  have loop6 : ∀ (n0 i : Nat), i ≤ cL C j → cL C j + 1 ≤ i + n0 → zJ X 6 (zI0 D (zs X)) (zQe X (vp_Si (fun r => r = cSum C 16 j x)) 0 0 (fun _ => False)) (wC g a C m) 0 0 [(0, .ref (a 3)), (1, .ref (a 18)), (2, .int (nI (j))), (3, .int (x)), (4, .int (zsum (fun l => ifI (C 11 (j * 4 + l) = x) (C 16 (j * 4 + l)) (nI 0)) i)), (5, .int (nI (i)))] 6 [] := by
    intro n6
    induction n6 with
    | zero => intro i h1 h2; exact absurd h2 (by omega)
    | succ n6 ih6 =>
      intro i hle6 hn6
      refine z_iload B 5 dX0_sumOn_6 rfl ?_
      refine z_aload_n B 0 dX0_sumOn_8 rfl rfl ?_
      refine z_get (C := RX0) (T := TX0) (N := 11) (v := .ref (a 13)) B 3 3 1 fw_X0_sumOn_X0 rfl rfl (by decide) rfl rfl rfl dX0_sumOn_9 ?_
      refine z_iload_n B 2 dX0_sumOn_12 rfl rfl ?_
      refine z_iald (g := (C 10)) (i := j) B 13 0 rfl rfl (by omega) (by decide) dX0_sumOn_13 ?_
      refine z_top (y := nI (cL C j)) (CI_10 (C := C) hI _) ?_
      have := CI_b10 (C := C) hI j
      refine z_icmpN_ge B 50 dX0_sumOn_14 (by decide) (by omega) (by omega) (fun zc14 => ?_) (fun zc14 => ?_)
      · obtain rfl : i = cL C j := by omega
        refine z_iload B 4 dX0_sumOn_50 rfl ?_
        exact z_pret B hr dX0_sumOn_52 rfl (by rfl)
      · refine z_aload_n B 0 dX0_sumOn_17 rfl rfl ?_
        refine z_get (C := RX0) (T := TX0) (N := 11) (v := .ref (a 14)) B 3 4 2 fw_X0_sumOn_X0 rfl rfl (by decide) rfl rfl rfl dX0_sumOn_18 ?_
        refine z_iload_n B 2 dX0_sumOn_21 rfl rfl ?_
        refine z_iconst (v := nI 4) B dX0_sumOn_22 (by decide) ?_
        refine z_imulN B dX0_sumOn_23 ?_
        refine z_iload B 5 dX0_sumOn_24 rfl ?_
        refine z_iaddN B dX0_sumOn_26 ?_
        refine z_iald (g := (C 11)) (i := j * 4 + i) B 14 0 rfl rfl (by omega) (by decide) dX0_sumOn_27 ?_
        refine z_iload_n B 3 dX0_sumOn_28 rfl rfl ?_
        refine z_icmp_ne B 44 dX0_sumOn_29 (by decide) (fun zc29 => ?_) (fun zc29 => ?_)
        · refine z_iinc B 5 (lv1 := [(5, .int (nI (i + 1))), (0, .ref (a 3)), (1, .ref (a 18)), (2, .int (nI (j))), (3, .int (x)), (4, .int (zsum (fun l => ifI (C 11 (j * 4 + l) = x) (C 16 (j * 4 + l)) (nI 0)) i))]) dX0_sumOn_44 rfl (nI_1 _) (by decide) rfl ?_
          refine z_goto B 6 dX0_sumOn_47 (by decide) ?_
          refine z_loc [1, 2, 3, 4, 5, 0] (lv' := [(0, .ref (a 3)), (1, .ref (a 18)), (2, .int (nI (j))), (3, .int (x)), (4, .int (zsum (fun l => ifI (C 11 (j * 4 + l) = x) (C 16 (j * 4 + l)) (nI 0)) i)), (5, .int (nI (i + 1)))]) rfl ?_
          refine z_lvc (lv' := [(0, .ref (a 3)), (1, .ref (a 18)), (2, .int (nI (j))), (3, .int (x)), (4, .int (zsum (fun l => ifI (C 11 (j * 4 + l) = x) (C 16 (j * 4 + l)) (nI 0)) (i + 1))), (5, .int (nI ((i + 1))))]) (by first | rw [zsum, ifI_t zc29] | rw [zsum, ifI_f zc29, I_add0]) ?_
          exact ih6 (i + 1) (by omega) (by omega)
        · refine z_iload B 4 dX0_sumOn_32 rfl ?_
          refine z_aload_n B 1 dX0_sumOn_34 rfl rfl ?_
          refine z_iload_n B 2 dX0_sumOn_35 rfl rfl ?_
          refine z_iload B 5 dX0_sumOn_36 rfl ?_
          refine z_callP (As := [.int (nI (j)), .int (nI (i))]) (st := [.int (zsum (fun l => ifI (C 11 (j * 4 + l) = x) (C 16 (j * 4 + l)) (nI 0)) i)]) (C := RX4) (T := TX4) (N := 2) (ci := 4) (l := l) B hl (cc_X4_amountOf_W l D g a C m j (by omega) i (by omega)) gX0_sumOn_X4_amountOf rfl ⟨rfl, rfl⟩ nm_X4_amountOf ⟨by decide, by decide⟩ (fun _ h => h) 18 rfl rfl rfl (Nat.le_of_ble_eq_true rfl) dX0_sumOn_38 (Nat.zero_le _) (Nat.zero_le _) (fun r hr => ?_)
          subst hr
          refine z_iadd B dX0_sumOn_41 ?_
          refine z_istore (lv1 := [(4, .int (((zsum (fun l => ifI (C 11 (j * 4 + l) = x) (C 16 (j * 4 + l)) (nI 0)) i) + (C 16 (j * 4 + i))))), (0, .ref (a 3)), (1, .ref (a 18)), (2, .int (nI (j))), (3, .int (x)), (5, .int (nI (i)))]) B dX0_sumOn_42 (by decide) rfl ?_
          refine z_iinc B 5 (lv1 := [(5, .int (nI (i + 1))), (4, .int (((zsum (fun l => ifI (C 11 (j * 4 + l) = x) (C 16 (j * 4 + l)) (nI 0)) i) + (C 16 (j * 4 + i))))), (0, .ref (a 3)), (1, .ref (a 18)), (2, .int (nI (j))), (3, .int (x))]) dX0_sumOn_44 rfl (nI_1 _) (by decide) rfl ?_
          refine z_goto B 6 dX0_sumOn_47 (by decide) ?_
          refine z_loc [2, 3, 4, 5, 1, 0] (lv' := [(0, .ref (a 3)), (1, .ref (a 18)), (2, .int (nI (j))), (3, .int (x)), (4, .int (((zsum (fun l => ifI (C 11 (j * 4 + l) = x) (C 16 (j * 4 + l)) (nI 0)) i) + (C 16 (j * 4 + i))))), (5, .int (nI (i + 1)))]) rfl ?_
          refine z_lvc (lv' := [(0, .ref (a 3)), (1, .ref (a 18)), (2, .int (nI (j))), (3, .int (x)), (4, .int (zsum (fun l => ifI (C 11 (j * 4 + l) = x) (C 16 (j * 4 + l)) (nI 0)) (i + 1))), (5, .int (nI ((i + 1))))]) (by first | rw [zsum, ifI_t zc29] | rw [zsum, ifI_f zc29, I_add0]) ?_
          exact ih6 (i + 1) (by omega) (by omega)
  refine z_loc [2, 3, 4, 5, 1, 0] (lv' := [(0, .ref (a 3)), (1, .ref (a 18)), (2, .int (nI (j))), (3, .int (x)), (4, .int (nI (0))), (5, .int (nI (0)))]) rfl ?_
  refine z_lvc (lv' := [(0, .ref (a 3)), (1, .ref (a 18)), (2, .int (nI (j))), (3, .int (x)), (4, .int (zsum (fun l => ifI (C 11 (j * 4 + l) = x) (C 16 (j * 4 + l)) (nI 0)) 0)), (5, .int (nI (0)))]) (by rfl) ?_
  exact loop6 (cL C j + 1) 0 (by omega) (by omega)
set_option maxHeartbeats 4000000 in
set_option maxRecDepth 100000 in
theorem cc_X0_sumOn_N (l : Launch) (D : va_G) (g : zG) (a : Nat → Nat) (C : zMS) (m : Nat) (hI : CI C) (j : Nat) (hj : j < 80) (x : Int32) : zPure l yX0_sumOn wsX0_sumOn { frames := 1, cells := 0, slots := 0, locals := 22 } D (zT g) (wC g a C m) [.ref (a 3), .ref (a 19), .int (nI (j)), .int (x)] (fun r => r = cSum C 18 j x) := by
  refine zPure_of (cc := cX0_sumOn) (maxL := 6) (ret := (some .int)) (own := RX0) [(0, .ref (a 3)), (1, .ref (a 19)), (2, .int (nI (j))), (3, .int (x))] (by decide) rfl rfl rfl (Nat.le_of_ble_eq_true rfl) ?_
  intro X hl B hr
  obtain ⟨b19, b3, b6, b20, b22, b27, b0⟩ := CI_bs hI
  refine z_iconst (v := nI 0) B dX0_sumOn_0 (by decide) ?_
  refine z_istore (lv1 := [(4, .int (nI (0))), (0, .ref (a 3)), (1, .ref (a 19)), (2, .int (nI (j))), (3, .int (x))]) B dX0_sumOn_1 (by decide) rfl ?_
  refine z_iconst (v := nI 0) B dX0_sumOn_3 (by decide) ?_
  refine z_istore (lv1 := [(5, .int (nI (0))), (4, .int (nI (0))), (0, .ref (a 3)), (1, .ref (a 19)), (2, .int (nI (j))), (3, .int (x))]) B dX0_sumOn_4 (by decide) rfl ?_
  have bL := CI_b10 hI j
  have loop6 : ∀ (n0 i : Nat), i ≤ cL C j → cL C j + 1 ≤ i + n0 → zJ X 6 (zI0 D (zs X)) (zQe X (vp_Si (fun r => r = cSum C 18 j x)) 0 0 (fun _ => False)) (wC g a C m) 0 0 [(0, .ref (a 3)), (1, .ref (a 19)), (2, .int (nI (j))), (3, .int (x)), (4, .int (zsum (fun l => ifI (C 11 (j * 4 + l) = x) (C 18 (j * 4 + l)) (nI 0)) i)), (5, .int (nI (i)))] 6 [] := by
    intro n6
    induction n6 with
    | zero => intro i h1 h2; exact absurd h2 (by omega)
    | succ n6 ih6 =>
      intro i hle6 hn6
      refine z_iload B 5 dX0_sumOn_6 rfl ?_
      refine z_aload_n B 0 dX0_sumOn_8 rfl rfl ?_
      refine z_get (C := RX0) (T := TX0) (N := 11) (v := .ref (a 13)) B 3 3 1 fw_X0_sumOn_X0 rfl rfl (by decide) rfl rfl rfl dX0_sumOn_9 ?_
      refine z_iload_n B 2 dX0_sumOn_12 rfl rfl ?_
      refine z_iald (g := (C 10)) (i := j) B 13 0 rfl rfl (by omega) (by decide) dX0_sumOn_13 ?_
      refine z_top (y := nI (cL C j)) (CI_10 (C := C) hI _) ?_
      have := CI_b10 (C := C) hI j
      refine z_icmpN_ge B 50 dX0_sumOn_14 (by decide) (by omega) (by omega) (fun zc14 => ?_) (fun zc14 => ?_)
      · obtain rfl : i = cL C j := by omega
        refine z_iload B 4 dX0_sumOn_50 rfl ?_
        exact z_pret B hr dX0_sumOn_52 rfl (by rfl)
      · refine z_aload_n B 0 dX0_sumOn_17 rfl rfl ?_
        refine z_get (C := RX0) (T := TX0) (N := 11) (v := .ref (a 14)) B 3 4 2 fw_X0_sumOn_X0 rfl rfl (by decide) rfl rfl rfl dX0_sumOn_18 ?_
        refine z_iload_n B 2 dX0_sumOn_21 rfl rfl ?_
        refine z_iconst (v := nI 4) B dX0_sumOn_22 (by decide) ?_
        refine z_imulN B dX0_sumOn_23 ?_
        refine z_iload B 5 dX0_sumOn_24 rfl ?_
        refine z_iaddN B dX0_sumOn_26 ?_
        refine z_iald (g := (C 11)) (i := j * 4 + i) B 14 0 rfl rfl (by omega) (by decide) dX0_sumOn_27 ?_
        refine z_iload_n B 3 dX0_sumOn_28 rfl rfl ?_
        refine z_icmp_ne B 44 dX0_sumOn_29 (by decide) (fun zc29 => ?_) (fun zc29 => ?_)
        · refine z_iinc B 5 (lv1 := [(5, .int (nI (i + 1))), (0, .ref (a 3)), (1, .ref (a 19)), (2, .int (nI (j))), (3, .int (x)), (4, .int (zsum (fun l => ifI (C 11 (j * 4 + l) = x) (C 18 (j * 4 + l)) (nI 0)) i))]) dX0_sumOn_44 rfl (nI_1 _) (by decide) rfl ?_
          refine z_goto B 6 dX0_sumOn_47 (by decide) ?_
          refine z_loc [1, 2, 3, 4, 5, 0] (lv' := [(0, .ref (a 3)), (1, .ref (a 19)), (2, .int (nI (j))), (3, .int (x)), (4, .int (zsum (fun l => ifI (C 11 (j * 4 + l) = x) (C 18 (j * 4 + l)) (nI 0)) i)), (5, .int (nI (i + 1)))]) rfl ?_
          refine z_lvc (lv' := [(0, .ref (a 3)), (1, .ref (a 19)), (2, .int (nI (j))), (3, .int (x)), (4, .int (zsum (fun l => ifI (C 11 (j * 4 + l) = x) (C 18 (j * 4 + l)) (nI 0)) (i + 1))), (5, .int (nI ((i + 1))))]) (by first | rw [zsum, ifI_t zc29] | rw [zsum, ifI_f zc29, I_add0]) ?_
          exact ih6 (i + 1) (by omega) (by omega)
        · refine z_iload B 4 dX0_sumOn_32 rfl ?_
          refine z_aload_n B 1 dX0_sumOn_34 rfl rfl ?_
          refine z_iload_n B 2 dX0_sumOn_35 rfl rfl ?_
          refine z_iload B 5 dX0_sumOn_36 rfl ?_
          refine z_callP (As := [.int (nI (j)), .int (nI (i))]) (st := [.int (zsum (fun l => ifI (C 11 (j * 4 + l) = x) (C 18 (j * 4 + l)) (nI 0)) i)]) (C := RX4) (T := TX4) (N := 2) (ci := 4) (l := l) B hl (cc_X4_amountOf_N l D g a C m j (by omega) i (by omega)) gX0_sumOn_X4_amountOf rfl ⟨rfl, rfl⟩ nm_X4_amountOf ⟨by decide, by decide⟩ (fun _ h => h) 19 rfl rfl rfl (Nat.le_of_ble_eq_true rfl) dX0_sumOn_38 (Nat.zero_le _) (Nat.zero_le _) (fun r hr => ?_)
          subst hr
          refine z_iadd B dX0_sumOn_41 ?_
          refine z_istore (lv1 := [(4, .int (((zsum (fun l => ifI (C 11 (j * 4 + l) = x) (C 18 (j * 4 + l)) (nI 0)) i) + (C 18 (j * 4 + i))))), (0, .ref (a 3)), (1, .ref (a 19)), (2, .int (nI (j))), (3, .int (x)), (5, .int (nI (i)))]) B dX0_sumOn_42 (by decide) rfl ?_
          refine z_iinc B 5 (lv1 := [(5, .int (nI (i + 1))), (4, .int (((zsum (fun l => ifI (C 11 (j * 4 + l) = x) (C 18 (j * 4 + l)) (nI 0)) i) + (C 18 (j * 4 + i))))), (0, .ref (a 3)), (1, .ref (a 19)), (2, .int (nI (j))), (3, .int (x))]) dX0_sumOn_44 rfl (nI_1 _) (by decide) rfl ?_
          refine z_goto B 6 dX0_sumOn_47 (by decide) ?_
          refine z_loc [2, 3, 4, 5, 1, 0] (lv' := [(0, .ref (a 3)), (1, .ref (a 19)), (2, .int (nI (j))), (3, .int (x)), (4, .int (((zsum (fun l => ifI (C 11 (j * 4 + l) = x) (C 18 (j * 4 + l)) (nI 0)) i) + (C 18 (j * 4 + i))))), (5, .int (nI (i + 1)))]) rfl ?_
          refine z_lvc (lv' := [(0, .ref (a 3)), (1, .ref (a 19)), (2, .int (nI (j))), (3, .int (x)), (4, .int (zsum (fun l => ifI (C 11 (j * 4 + l) = x) (C 18 (j * 4 + l)) (nI 0)) (i + 1))), (5, .int (nI ((i + 1))))]) (by first | rw [zsum, ifI_t zc29] | rw [zsum, ifI_f zc29, I_add0]) ?_
          exact ih6 (i + 1) (by omega) (by omega)
  refine z_loc [2, 3, 4, 5, 1, 0] (lv' := [(0, .ref (a 3)), (1, .ref (a 19)), (2, .int (nI (j))), (3, .int (x)), (4, .int (nI (0))), (5, .int (nI (0)))]) rfl ?_
  refine z_lvc (lv' := [(0, .ref (a 3)), (1, .ref (a 19)), (2, .int (nI (j))), (3, .int (x)), (4, .int (zsum (fun l => ifI (C 11 (j * 4 + l) = x) (C 18 (j * 4 + l)) (nI 0)) 0)), (5, .int (nI (0)))]) (by rfl) ?_
  exact loop6 (cL C j + 1) 0 (by omega) (by omega)
theorem fw_X0_countUpTo_X0 : zF wsX0_countUpTo RX0 TX0 11 := fun _ h => List.mem_cons_of_mem _ (List.mem_append_right _ (h))
set_option maxHeartbeats 4000000 in
set_option maxRecDepth 100000 in
theorem cc_X0_countUpTo (l : Launch) (D : va_G) (g : zG) (a : Nat → Nat) (C : zMS) (m : Nat) (hI : CI C) (y : Int32) : zPure l yX0_countUpTo wsX0_countUpTo { frames := 0, cells := 0, slots := 0, locals := 0 } D (zT g) (wC g a C m) [.ref (a 3), .int (y)] (fun r => ∃ e, r = nI e ∧ cUp C y e) := by
  refine zPure_of (cc := cX0_countUpTo) (maxL := 3) (ret := (some .int)) (own := RX0) [(0, .ref (a 3)), (1, .int (y))] (by decide) rfl rfl rfl (Nat.le_of_ble_eq_true rfl) ?_
  intro X hl B hr
  obtain ⟨b19, b3, b6, b20, b22, b27, b0⟩ := CI_bs hI
  refine z_iconst (v := nI 0) B dX0_countUpTo_0 (by decide) ?_
  refine z_istore_n (lv1 := [(2, .int (nI (0))), (0, .ref (a 3)), (1, .int (y))]) B dX0_countUpTo_1 rfl (by decide) rfl ?_
  have loop2 : ∀ (n0 i : Nat), i ≤ cP C → cP C + 1 ≤ i + n0 → (∀ p, p < i → ¬ y < C 7 p) → zJ X 3 (zI0 D (zs X)) (zQe X (vp_Si (fun r => ∃ e, r = nI e ∧ cUp C y e)) 0 0 (fun _ => False)) (wC g a C m) 0 0 [(0, .ref (a 3)), (1, .int (y)), (2, .int (nI (i)))] 2 [] := by
    intro n2
    induction n2 with
    | zero => intro i h1 h2; exact absurd h2 (by omega)
    | succ n2 ih2 =>
      intro i hle2 hn2 hal
      refine z_iload_n B 2 dX0_countUpTo_2 rfl rfl ?_
      refine z_aload_n B 0 dX0_countUpTo_3 rfl rfl ?_
      refine z_get (C := RX0) (T := TX0) (N := 11) (v := .int (C 19 0)) B 3 10 1 fw_X0_countUpTo_X0 rfl rfl (by decide) rfl rfl rfl dX0_countUpTo_4 ?_
      refine z_top (y := nI (cP C)) (CI_19 (C := C) hI) ?_
      refine z_icmpN_ge B 26 dX0_countUpTo_7 (by decide) (by omega) (by omega) (fun zc7 => ?_) (fun zc7 => ?_)
      · refine z_iload_n B 2 dX0_countUpTo_26 rfl rfl ?_
        exact z_pret B hr dX0_countUpTo_27 rfl (by exact ⟨i, rfl, by omega, hal, fun h => absurd h (by omega)⟩)
      · refine z_aload_n B 0 dX0_countUpTo_10 rfl rfl ?_
        refine z_get (C := RX0) (T := TX0) (N := 11) (v := .ref (a 10)) B 3 0 2 fw_X0_countUpTo_X0 rfl rfl (by decide) rfl rfl rfl dX0_countUpTo_11 ?_
        refine z_iload_n B 2 dX0_countUpTo_14 rfl rfl ?_
        refine z_iald (g := (C 7)) (i := i) B 10 0 rfl rfl (by omega) (by decide) dX0_countUpTo_15 ?_
        refine z_iload_n B 1 dX0_countUpTo_16 rfl rfl ?_
        refine z_icmp_gt B 26 dX0_countUpTo_17 (by decide) (fun zc17 => ?_) (fun zc17 => ?_)
        · refine z_iload_n B 2 dX0_countUpTo_26 rfl rfl ?_
          exact z_pret B hr dX0_countUpTo_27 rfl (by exact ⟨i, rfl, by omega, hal, fun h => zc17⟩)
        · refine z_iinc B 2 (lv1 := [(2, .int (nI (i + 1))), (0, .ref (a 3)), (1, .int (y))]) dX0_countUpTo_20 rfl (nI_1 _) (by decide) rfl ?_
          refine z_goto B 2 dX0_countUpTo_23 (by decide) ?_
          refine z_loc [1, 2, 0] (lv' := [(0, .ref (a 3)), (1, .int (y)), (2, .int (nI (i + 1)))]) rfl ?_
          refine z_lvc (lv' := [(0, .ref (a 3)), (1, .int (y)), (2, .int (nI ((i + 1))))]) (by rfl) ?_
          exact ih2 (i + 1) (by omega) (by omega) (all_s.mpr ⟨hal, zc17⟩)
  refine z_loc [1, 2, 0] (lv' := [(0, .ref (a 3)), (1, .int (y)), (2, .int (nI (0)))]) rfl ?_
  exact loop2 (cP C + 1) 0 (by omega) (by omega) (fun l hl => absurd hl (Nat.not_lt_zero l))
theorem fw_X0_countBurnt_X0 : zF wsX0_countBurnt RX0 TX0 11 := fun _ h => List.mem_cons_of_mem _ (List.mem_append_left _ (List.mem_append_right _ (h)))
set_option maxHeartbeats 4000000 in
set_option maxRecDepth 100000 in
theorem cc_X0_countBurnt (l : Launch) (D : va_G) (g : zG) (a : Nat → Nat) (C : zMS) (m : Nat) (hI : CI C) : zPure l yX0_countBurnt wsX0_countBurnt { frames := 2, cells := 0, slots := 0, locals := 42 } D (zT g) (wC g a C m) [.ref (a 3)] (fun r => r = nI (zcnt (fun p => cSt C p = 1) (cP C))) := by
  refine zPure_of (cc := cX0_countBurnt) (maxL := 3) (ret := (some .int)) (own := RX0) [(0, .ref (a 3))] (by decide) rfl rfl rfl (Nat.le_of_ble_eq_true rfl) ?_
  intro X hl B hr
  obtain ⟨b19, b3, b6, b20, b22, b27, b0⟩ := CI_bs hI
  have hS2 : ∀ p, cSt C p < 2 ^ 31 := fun p => by unfold cSt ifN; split <;> (try split) <;> decide
  refine z_iconst (v := nI 0) B dX0_countBurnt_0 (by decide) ?_
  refine z_istore_n (lv1 := [(1, .int (nI (0))), (0, .ref (a 3))]) B dX0_countBurnt_1 rfl (by decide) rfl ?_
  refine z_iconst (v := nI 0) B dX0_countBurnt_2 (by decide) ?_
  refine z_istore_n (lv1 := [(2, .int (nI (0))), (1, .int (nI (0))), (0, .ref (a 3))]) B dX0_countBurnt_3 rfl (by decide) rfl ?_
  have loop4 : ∀ (n0 i : Nat), i ≤ cP C → cP C + 1 ≤ i + n0 → zJ X 3 (zI0 D (zs X)) (zQe X (vp_Si (fun r => r = nI (zcnt (fun p => cSt C p = 1) (cP C)))) 0 0 (fun _ => False)) (wC g a C m) 0 0 [(0, .ref (a 3)), (1, .int (nI (zcnt (fun p => cSt C p = 1) i))), (2, .int (nI (i)))] 4 [] := by
    intro n4
    induction n4 with
    | zero => intro i h1 h2; exact absurd h2 (by omega)
    | succ n4 ih4 =>
      intro i hle4 hn4
      have hS2i := hS2 i
      refine z_iload_n B 2 dX0_countBurnt_4 rfl rfl ?_
      refine z_aload_n B 0 dX0_countBurnt_5 rfl rfl ?_
      refine z_get (C := RX0) (T := TX0) (N := 11) (v := .int (C 19 0)) B 3 10 1 fw_X0_countBurnt_X0 rfl rfl (by decide) rfl rfl rfl dX0_countBurnt_6 ?_
      refine z_top (y := nI (cP C)) (CI_19 (C := C) hI) ?_
      refine z_icmpN_ge B 30 dX0_countBurnt_9 (by decide) (by omega) (by omega) (fun zc9 => ?_) (fun zc9 => ?_)
      · obtain rfl : i = cP C := by omega
        refine z_iload_n B 1 dX0_countBurnt_30 rfl rfl ?_
        exact z_pret B hr dX0_countBurnt_31 rfl (by rfl)
      · refine z_aload_n B 0 dX0_countBurnt_12 rfl rfl ?_
        refine z_iload_n B 2 dX0_countBurnt_13 rfl rfl ?_
        refine z_callP (As := [.int (nI (i))]) (st := []) (C := RX0) (T := TX0) (N := 11) (ci := 0) (l := l) B hl (cc_X0_stateOf l D g a C m hI i (by omega)) gX0_countBurnt_X0_stateOf rfl ⟨rfl, rfl⟩ nm_X0_stateOf ⟨by decide, by decide⟩ (fun _ h => h) 3 rfl rfl rfl (Nat.le_of_ble_eq_true rfl) dX0_countBurnt_14 (Nat.zero_le _) (Nat.zero_le _) (fun r hr => ?_)
        subst hr
        refine z_iconst (v := nI 1) B dX0_countBurnt_17 (by decide) ?_
        refine z_icmpN_ne B 24 dX0_countBurnt_18 (by decide) (by omega) (by omega) (fun zc18 => ?_) (fun zc18 => ?_)
        · refine z_iinc B 2 (lv1 := [(2, .int (nI (i + 1))), (0, .ref (a 3)), (1, .int (nI (zcnt (fun p => cSt C p = 1) i)))]) dX0_countBurnt_24 rfl (nI_1 _) (by decide) rfl ?_
          refine z_goto B 4 dX0_countBurnt_27 (by decide) ?_
          refine z_loc [1, 2, 0] (lv' := [(0, .ref (a 3)), (1, .int (nI (zcnt (fun p => cSt C p = 1) i))), (2, .int (nI (i + 1)))]) rfl ?_
          refine z_lvc (lv' := [(0, .ref (a 3)), (1, .int (nI (zcnt (fun p => cSt C p = 1) (i + 1)))), (2, .int (nI ((i + 1))))]) (by first | rw [zcnt_y (P := fun p => cSt C p = 1) zc18] | rw [← zcnt_n (P := fun p => cSt C p = 1) zc18]) ?_
          exact ih4 (i + 1) (by omega) (by omega)
        · refine z_iinc B 1 (lv1 := [(1, .int (nI (zcnt (fun p => cSt C p = 1) i + 1))), (0, .ref (a 3)), (2, .int (nI (i)))]) dX0_countBurnt_21 rfl (nI_1 _) (by decide) rfl ?_
          refine z_iinc B 2 (lv1 := [(2, .int (nI (i + 1))), (1, .int (nI (zcnt (fun p => cSt C p = 1) i + 1))), (0, .ref (a 3))]) dX0_countBurnt_24 rfl (nI_1 _) (by decide) rfl ?_
          refine z_goto B 4 dX0_countBurnt_27 (by decide) ?_
          refine z_loc [2, 1, 0] (lv' := [(0, .ref (a 3)), (1, .int (nI (zcnt (fun p => cSt C p = 1) i + 1))), (2, .int (nI (i + 1)))]) rfl ?_
          refine z_lvc (lv' := [(0, .ref (a 3)), (1, .int (nI (zcnt (fun p => cSt C p = 1) (i + 1)))), (2, .int (nI ((i + 1))))]) (by first | rw [zcnt_y (P := fun p => cSt C p = 1) zc18] | rw [← zcnt_n (P := fun p => cSt C p = 1) zc18]) ?_
          exact ih4 (i + 1) (by omega) (by omega)
  refine z_loc [2, 1, 0] (lv' := [(0, .ref (a 3)), (1, .int (nI (0))), (2, .int (nI (0)))]) rfl ?_
  refine z_lvc (lv' := [(0, .ref (a 3)), (1, .int (nI (zcnt (fun p => cSt C p = 1) 0))), (2, .int (nI (0)))]) (by rfl) ?_
  exact loop4 (cP C + 1) 0 (by omega) (by omega)
theorem fw_X0_appendReversal_X0 : zF wsX0_appendReversal RX0 TX0 11 := fun _ h => List.mem_cons_of_mem _ (List.mem_append_left _ (List.mem_append_left _ (List.mem_append_right _ (h))))
set_option maxHeartbeats 4000000 in
set_option maxRecDepth 100000 in
theorem cc_X0_appendReversal (l : Launch) (D : va_G) (g : zG) (a : Nat → Nat) (C : zMS) (m : Nat) (hI : CI C) (j : Nat) (hj : j < 80) (y : Int32) (hp : cP C < 80) : zMutI l yX0_appendReversal wsX0_appendReversal { frames := 3, cells := 0, slots := 0, locals := 70 } D (zT g) (wC g a C m) [.ref (a 3), .int (nI (j)), .ref (a 2), .int (y)] (fun r w' => r = nI (cP C) ∧ w' = wC g a (rvC C j y) m) 0 0 := by
  refine zMutI_of (cc := cX0_appendReversal) (maxL := 5) (ret := (some .int)) (own := RX0) [(0, .ref (a 3)), (1, .int (nI (j))), (2, .ref (a 2)), (3, .int (y))] (by decide) rfl rfl rfl (Nat.le_of_ble_eq_true rfl) ?_
  intro X A hAe hl B hr hin
  obtain ⟨b19, b3, b6, b20, b22, b27, b0⟩ := CI_bs hI
  generalize hQ : (zQe X (va_Qi (fun r w' => r = nI (cP C) ∧ w' = wC g a (rvC C j y) m) (zEnd D (zT g) (wC g a C m) (zs X).heap.size) A) 0 0 A) = Q
  have bL := CI_b10 hI j
  refine z_aload_n B 2 dX0_appendReversal_0 rfl rfl ?_
  refine z_callM (As := []) (st := []) (C := RX3) (T := TX3) (N := 3) (ci := 3) (l := l) B hl (cc_X3_clear_O l D g a C m (cOp C) (CI_6 (C := C) hI)) gX0_appendReversal_X3_clear rfl ⟨rfl, rfl⟩ nm_X3_clear ⟨by decide, by decide⟩ 2 rfl rfl rfl (Nat.le_of_ble_eq_true rfl) dX0_appendReversal_1 rfl rfl (by decide) (by decide) (fun r w1 hr => ?_)
  obtain ⟨rfl, rfl⟩ := hr
  refine z_pop B dX0_appendReversal_4 rfl ?_
  refine z_iconst (v := nI 0) B dX0_appendReversal_5 (by decide) ?_
  refine z_istore (lv1 := [(4, .int (nI (0))), (0, .ref (a 3)), (1, .int (nI (j))), (2, .ref (a 2)), (3, .int (y))]) B dX0_appendReversal_6 (by decide) rfl ?_
  have loop8 : ∀ (n0 i : Nat), i ≤ cL C j → cL C j + 1 ≤ i + n0 → zJ X 5 (zI1 D A (zs X)) Q (wC g a (opL C j i) m) 0 0 [(0, .ref (a 3)), (1, .int (nI (j))), (2, .ref (a 2)), (3, .int (y)), (4, .int (nI (i)))] 8 [] := by
    intro n8
    induction n8 with
    | zero => intro i h1 h2; exact absurd h2 (by omega)
    | succ n8 ih8 =>
      intro i hle8 hn8
      refine z_iload B 4 dX0_appendReversal_8 rfl ?_
      refine z_aload_n B 0 dX0_appendReversal_10 rfl rfl ?_
      refine z_get (C := RX0) (T := TX0) (N := 11) (v := .ref (a 13)) B 3 3 1 fw_X0_appendReversal_X0 rfl rfl (by decide) rfl rfl rfl dX0_appendReversal_11 ?_
      refine z_iload_n B 1 dX0_appendReversal_14 rfl rfl ?_
      refine z_iald (g := ((opL C j i) 10)) (i := j) B 13 0 rfl rfl (by omega) (by decide) dX0_appendReversal_15 ?_
      refine z_top (y := nI (cL C j)) ((congrFun (opL_k C j (k := 10) (by decide) i) _).trans (CI_10 (C := C) hI _)) ?_
      have := CI_b10 (C := C) hI j
      refine z_icmpN_ge B 52 dX0_appendReversal_16 (by decide) (by omega) (by omega) (fun zc16 => ?_) (fun zc16 => ?_)
      · obtain rfl : i = cL C j := by omega
        refine z_aload_n B 0 dX0_appendReversal_52 rfl rfl ?_
        refine z_aload_n B 2 dX0_appendReversal_53 rfl rfl ?_
        refine z_aload_n B 0 dX0_appendReversal_54 rfl rfl ?_
        refine z_get (C := RX0) (T := TX0) (N := 11) (v := .ref (a 11)) B 3 1 4 fw_X0_appendReversal_X0 rfl rfl (by decide) rfl rfl rfl dX0_appendReversal_55 ?_
        refine z_iload_n B 1 dX0_appendReversal_58 rfl rfl ?_
        refine z_iald (g := ((opL C j (cL C j)) 8)) (i := j) B 11 0 rfl rfl (by omega) (by decide) dX0_appendReversal_59 ?_
        refine z_top (y := C 8 j) (congrFun (opL_k C j (k := 8) (by decide) (cL C j)) _) ?_
        refine z_iload_n B 3 dX0_appendReversal_60 rfl rfl ?_
        refine z_callM (As := [.ref (a 2), .int (C 8 j), .int (y)]) (st := []) (C := RX0) (T := TX0) (N := 11) (ci := 0) (l := l) B hl (cc_X0_append_O l D g a (opL C j (cL C j)) m (C 8 j) y (cP C) ((congrFun (opL_k C j (k := 19) (by decide) (cL C j)) 0).trans (CI_19 (C := C) hI)) (by omega) (cL C j) (opL_6 C j (cL C j)) (by omega)) gX0_appendReversal_X0_append rfl ⟨rfl, rfl⟩ nm_X0_append ⟨by decide, by decide⟩ 3 rfl rfl rfl (Nat.le_of_ble_eq_true rfl) dX0_appendReversal_61 rfl rfl (by decide) (by decide) (fun r w1 hr => ?_)
        obtain ⟨rfl, rfl⟩ := hr
        refine z_istore (lv1 := [(4, .int (nI ((cP C)))), (0, .ref (a 3)), (1, .int (nI (j))), (2, .ref (a 2)), (3, .int (y))]) B dX0_appendReversal_64 (by decide) rfl ?_
        refine z_aload_n B 1 dX0_appendReversal_66 rfl rfl ?_
        refine z_get (C := RX0) (T := TX0) (N := 11) (v := .ref (a 16)) B 3 6 5 fw_X0_appendReversal_X0 rfl rfl (by decide) rfl rfl rfl dX0_appendReversal_67 ?_
        refine z_iload B 0 dX0_appendReversal_70 rfl ?_
        refine z_iconst (v := nI 1) B dX0_appendReversal_72 (by decide) ?_
        refine z_zast (g := ((apC (opL C j (cL C j)) (cP C) 4 5 (cL C j) (C 8 j) y) 13)) (i := (cP C)) (w' := wC g a (up2 (apC (opL C j (cL C j)) (cP C) 4 5 (cL C j) (C 8 j) y) 13 (cP C) (nI (1))) m) B 16 1 rfl rfl (by omega) (by decide) (Or.inr rfl) dX0_appendReversal_73 (wC_f (by decide) rfl (fun f hf => up2_k (by omega))) ?_
        refine z_aload_n B 1 dX0_appendReversal_74 rfl rfl ?_
        refine z_get (C := RX0) (T := TX0) (N := 11) (v := .ref (a 15)) B 3 5 6 fw_X0_appendReversal_X0 rfl rfl (by decide) rfl rfl rfl dX0_appendReversal_75 ?_
        refine z_iload_n B 2 dX0_appendReversal_78 rfl rfl ?_
        refine z_iload B 0 dX0_appendReversal_79 rfl ?_
        refine z_iast (g := ((apC (opL C j (cL C j)) (cP C) 4 5 (cL C j) (C 8 j) y) 12)) (i := j) (w' := wC g a (up2 (up2 (apC (opL C j (cL C j)) (cP C) 4 5 (cL C j) (C 8 j) y) 13 (cP C) (nI (1))) 12 j (nI ((cP C)))) m) B 15 0 rfl rfl (by omega) (by decide) dX0_appendReversal_81 (wC_f (by decide) rfl (fun f hf => up2_k (by omega))) ?_
        refine z_iload B 0 dX0_appendReversal_82 rfl ?_
        subst hQ
        exact z_mret B hAe hr dX0_appendReversal_84 rfl (by decide) (by decide) (by exact ⟨rfl, rfl⟩)
      · refine z_aload_n B 2 dX0_appendReversal_19 rfl rfl ?_
        refine z_aload_n B 0 dX0_appendReversal_20 rfl rfl ?_
        refine z_get (C := RX0) (T := TX0) (N := 11) (v := .ref (a 14)) B 3 4 2 fw_X0_appendReversal_X0 rfl rfl (by decide) rfl rfl rfl dX0_appendReversal_21 ?_
        refine z_iload_n B 1 dX0_appendReversal_24 rfl rfl ?_
        refine z_iconst (v := nI 4) B dX0_appendReversal_25 (by decide) ?_
        refine z_imulN B dX0_appendReversal_26 ?_
        refine z_iload B 4 dX0_appendReversal_27 rfl ?_
        refine z_iaddN B dX0_appendReversal_29 ?_
        refine z_iald (g := ((opL C j i) 11)) (i := j * 4 + i) B 14 0 rfl rfl (by omega) (by decide) dX0_appendReversal_30 ?_
        refine z_top (y := C 11 (j * 4 + i)) (congrFun (opL_k C j (k := 11) (by decide) i) _) ?_
        refine z_aload_n B 0 dX0_appendReversal_31 rfl rfl ?_
        refine z_get (C := RX0) (T := TX0) (N := 11) (v := .ref (a 18)) B 3 8 3 fw_X0_appendReversal_X0 rfl rfl (by decide) rfl rfl rfl dX0_appendReversal_32 ?_
        refine z_iload_n B 1 dX0_appendReversal_35 rfl rfl ?_
        refine z_iload B 4 dX0_appendReversal_36 rfl ?_
        refine z_callP (As := [.int (nI (j)), .int (nI (i))]) (st := [.int (C 11 (j * 4 + i)), .ref (a 2)]) (C := RX4) (T := TX4) (N := 2) (ci := 4) (l := l) B hl (cc_X4_amountOf_W l D g a (opL C j i) m j (by omega) i (by omega)) gX0_appendReversal_X4_amountOf rfl ⟨rfl, rfl⟩ nm_X4_amountOf ⟨by decide, by decide⟩ (fun _ h => h) 18 rfl rfl rfl (Nat.le_of_ble_eq_true rfl) dX0_appendReversal_38 (Nat.zero_le _) (Nat.zero_le _) (fun r hr => ?_)
        subst hr
        refine z_top (y := C 16 (j * 4 + i)) (by rw [opL_k C j (k := 16) (by decide)]) ?_
        refine z_ineg B dX0_appendReversal_41 ?_
        refine z_callM (As := [.int (C 11 (j * 4 + i)), .int ((-(C 16 (j * 4 + i))))]) (st := []) (C := RX3) (T := TX3) (N := 3) (ci := 3) (l := l) B hl (cc_X3_add_O l D g a (opL C j i) m (C 11 (j * 4 + i)) (-(C 16 (j * 4 + i))) i (opL_6 C j i) (by omega)) gX0_appendReversal_X3_add rfl ⟨rfl, rfl⟩ nm_X3_add ⟨by decide, by decide⟩ 2 rfl rfl rfl (Nat.le_of_ble_eq_true rfl) dX0_appendReversal_42 rfl rfl (by decide) (by decide) (fun r w1 hr => ?_)
        obtain ⟨rfl, rfl⟩ := hr
        refine z_pop B dX0_appendReversal_45 rfl ?_
        refine z_iinc B 4 (lv1 := [(4, .int (nI (i + 1))), (0, .ref (a 3)), (1, .int (nI (j))), (2, .ref (a 2)), (3, .int (y))]) dX0_appendReversal_46 rfl (nI_1 _) (by decide) rfl ?_
        refine z_goto B 8 dX0_appendReversal_49 (by decide) ?_
        refine z_loc [1, 2, 3, 4, 0] (lv' := [(0, .ref (a 3)), (1, .int (nI (j))), (2, .ref (a 2)), (3, .int (y)), (4, .int (nI (i + 1)))]) rfl ?_
        refine z_lvc (lv' := [(0, .ref (a 3)), (1, .int (nI (j))), (2, .ref (a 2)), (3, .int (y)), (4, .int (nI ((i + 1))))]) (by rfl) ?_
        refine z_w (w' := wC g a (opL C j (i + 1)) m) (by rfl) ?_
        exact ih8 (i + 1) (by omega) (by omega)
  refine z_loc [1, 2, 3, 4, 0] (lv' := [(0, .ref (a 3)), (1, .int (nI (j))), (2, .ref (a 2)), (3, .int (y)), (4, .int (nI (0)))]) rfl ?_
  refine z_w (w' := wC g a (opL C j 0) m) (by rfl) ?_
  exact loop8 (cL C j + 1) 0 (by omega) (by omega)
