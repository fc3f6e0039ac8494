theorem cUp_u {C : zMS} {y : Int32} {e e2 : Nat} (h : cUp C y e) (h2 : cUp C y e2) : e = e2 := by
  rcases Nat.lt_trichotomy e e2 with q | q | q
  · exact absurd (h.2.2 (by have := h2.1; omega)) (h2.2.1 e q)
  · exact q
  · exact absurd (h2.2.2 (by have := h.1; omega)) (h.2.1 e2 q)
def cTT (C : zMS) (p : Nat) : Prop := cHT C p (nI 0) ∨ ¬ C 14 p = 0 ∨ cTB C p
def brN (C : zMS) (p : Nat) : Nat → zMS
  | 0 => C
  | i + 1 => blC (brN C p i) 17 18 (p + i)
noncomputable def brK (C : zMS) (p : Nat) : Nat → Nat
  | 0 => 0
  | i + 1 => brK C p i + ifN (¬ brN C p i 17 (p + i) = 0) 1 0
theorem brN_k (C : zMS) (p : Nat) {f : Nat} (h : f ≠ 17 ∧ f ≠ 18) : ∀ i, brN C p i f = C f
  | 0 => rfl
  | i + 1 => by rw [brN, blC_k h, brN_k C p h i]
theorem CI_brN {C : zMS} {p : Nat} (h : CI C) : ∀ i, CI (brN C p i)
  | 0 => h
  | i + 1 => CI_blC (CI_brN h i) (Or.inl rfl) (Or.inl rfl)
theorem brK_y {C : zMS} {p i : Nat} (h : ¬ brN C p i 17 (p + i) = 0) : brK C p i + 1 = brK C p (i + 1) := by rw [brK, ifN_t h]
theorem brK_n {C : zMS} {p i : Nat} (h : brN C p i 17 (p + i) = 0) : brK C p i = brK C p (i + 1) := by rw [brK, ifN_f (not_not_intro h)]; rfl
theorem fw_X6_balanceByPages_X0 : zF wsX6_balanceByPages RX0 TX0 11 := fun _ h => List.mem_cons_of_mem _ (List.mem_append_left _ (List.mem_append_left _ (List.mem_append_left _ (List.mem_append_left _ (List.mem_append_right _ (h))))))
theorem fw_X6_balanceByPages_X6 : zF wsX6_balanceByPages RX6 TX6 6 := fun _ h => List.mem_cons_of_mem _ (List.mem_append_left _ (List.mem_append_left _ (List.mem_append_left _ (List.mem_append_left _ (List.mem_append_left _ (List.mem_append_right _ (h)))))))
set_option maxHeartbeats 4000000 in
set_option maxRecDepth 100000 in
theorem cc_X6_balanceByPages (l : Launch) (D : va_G) (g : zG) (a : Nat → Nat) (C : zMS) (m : Nat) (hst : l.stackTraces = false) (hI : CI C) (x : Int32) (y : Int32) : zThrI l yX6_balanceByPages wsX6_balanceByPages { frames := 7, cells := 3, slots := 18, locals := 103 } D (zT g) (wC g a C m) [.ref (a 0), .int (x), .int (y)] (fun r w' => (∃ e, cUp C y e ∧ r = zsum (fun p => ifI (cSt C p = 2) (cSum C 16 p x) (cSum C 18 p x)) e) ∧ w' = wC g a C m ∧ (rng x 8) ∧ (rng y (cT C + 1)) ∧ (∀ e, cUp C y e → ∀ p, p < e → ¬ cSt C p = 1)) (fun E w' => w' = wC g a C m ∧ ((E = "java/lang/IndexOutOfBoundsException" ∧ ¬ (rng x 8)) ∨ (E = "java/lang/IllegalArgumentException" ∧ (rng x 8) ∧ ¬ (rng y (cT C + 1))) ∨ (E = "java/lang/IllegalStateException" ∧ (rng x 8) ∧ (rng y (cT C + 1)) ∧ ¬ (∀ e, cUp C y e → ∀ p, p < e → ¬ cSt C p = 1)))) 3 18 := by
  refine zThrI_of (cc := cX6_balanceByPages) (maxL := 7) (ret := (some .int)) (own := RX6) [(0, .ref (a 0)), (1, .int (x)), (2, .int (y))] (by decide) rfl rfl rfl (Nat.le_of_ble_eq_true rfl) ?_
  intro X A hAe hl B hr hin htab hT
  obtain ⟨b19, b3, b6, b20, b22, b27, b0⟩ := CI_bs hI
  have hS2 : ∀ p, cSt C p < 2 ^ 31 := fun p => by unfold cSt ifN; split <;> (try split) <;> decide
  refine z_iload_n B 1 dX6_balanceByPages_0 rfl rfl ?_
  refine z_callTSV (As := [.int (x)]) (st := []) (l := l) B hAe hT htab hl (cc_X6_needAccount l D g a C m hst hI x) gX6_balanceByPages_X6_needAccount rfl ⟨rfl, rfl⟩ nm_X6_needAccount ⟨by decide, by decide⟩ rfl (Nat.le_of_ble_eq_true rfl) dX6_balanceByPages_1 rfl rfl (by decide) (by decide) (by decide) (by decide) (fun E w' h => by exact ⟨h.1, (Or.inl (⟨h.2.1, h.2.2⟩))⟩) (fun w1 hrr => ?_)
  obtain ⟨rfl, hp1⟩ := hrr
  refine z_aload_n B 0 dX6_balanceByPages_4 rfl rfl ?_
  refine z_iload_n B 2 dX6_balanceByPages_5 rfl rfl ?_
  refine z_callTV (As := [.int (y)]) (st := []) (C := RX6) (T := TX6) (N := 6) (ci := 6) (l := l) B hAe hT htab hl (cc_X6_needPastDay l D g a C m hst hI y) gX6_balanceByPages_X6_needPastDay rfl ⟨rfl, rfl⟩ nm_X6_needPastDay ⟨by decide, by decide⟩ 0 rfl rfl rfl (Nat.le_of_ble_eq_true rfl) dX6_balanceByPages_6 rfl rfl (by decide) (by decide) (by decide) (by decide) (fun E w' h => by exact ⟨h.1, (Or.inr (Or.inl (⟨h.2.1, hp1, h.2.2⟩)))⟩) (fun w1 hrr => ?_)
  obtain ⟨rfl, hp6⟩ := hrr
  refine z_iconst (v := nI 0) B dX6_balanceByPages_9 (by decide) ?_
  refine z_istore_n (lv1 := [(3, .int (nI (0))), (0, .ref (a 0)), (1, .int (x)), (2, .int (y))]) B dX6_balanceByPages_10 rfl (by decide) rfl ?_
  refine z_aload_n B 1 dX6_balanceByPages_11 rfl rfl ?_
  refine z_get (C := RX6) (T := TX6) (N := 6) (v := .ref (a 3)) B 0 2 3 fw_X6_balanceByPages_X6 rfl rfl (by decide) rfl rfl rfl dX6_balanceByPages_12 ?_
  refine z_iload_n B 3 dX6_balanceByPages_15 rfl rfl ?_
  refine z_callP (As := [.int (y)]) (st := []) (C := RX0) (T := TX0) (N := 11) (ci := 0) (l := l) B hl (cc_X0_countUpTo l D g a C m hI y) gX6_balanceByPages_X0_countUpTo rfl ⟨rfl, rfl⟩ nm_X0_countUpTo ⟨by decide, by decide⟩ (fun _ h => h) 3 rfl rfl rfl (Nat.le_of_ble_eq_true rfl) dX6_balanceByPages_16 (by decide) (by decide) (fun r hr => ?_)
  obtain ⟨e, rfl, he⟩ := hr
  have hel := he.1
  refine z_istore (lv1 := [(4, .int (nI (e))), (3, .int (nI (0))), (0, .ref (a 0)), (1, .int (x)), (2, .int (y))]) B dX6_balanceByPages_19 (by decide) rfl ?_
  refine z_iconst (v := nI 0) B dX6_balanceByPages_21 (by decide) ?_
  refine z_istore (lv1 := [(5, .int (nI (0))), (4, .int (nI (e))), (3, .int (nI (0))), (0, .ref (a 0)), (1, .int (x)), (2, .int (y))]) B dX6_balanceByPages_22 (by decide) rfl ?_
  have loop24 : ∀ (n0 i : Nat), i ≤ e → e + 1 ≤ i + n0 → (∀ p, p < i → ¬ cSt C p = 1) → zJ X 7 (zI1 D A (zs X)) (zQx X (va_Qi (fun r w' => (∃ e, cUp C y e ∧ r = zsum (fun p => ifI (cSt C p = 2) (cSum C 16 p x) (cSum C 18 p x)) e) ∧ w' = wC g a C m ∧ (rng x 8) ∧ (rng y (cT C + 1)) ∧ (∀ e, cUp C y e → ∀ p, p < e → ¬ cSt C p = 1)) (zEnd D (zT g) (wC g a C m) (zs X).heap.size) A) (zXC D (zT g) (wC g a C m) (zs X).heap.size (fun E w' => w' = wC g a C m ∧ ((E = "java/lang/IndexOutOfBoundsException" ∧ ¬ (rng x 8)) ∨ (E = "java/lang/IllegalArgumentException" ∧ (rng x 8) ∧ ¬ (rng y (cT C + 1))) ∨ (E = "java/lang/IllegalStateException" ∧ (rng x 8) ∧ (rng y (cT C + 1)) ∧ ¬ (∀ e, cUp C y e → ∀ p, p < e → ¬ cSt C p = 1))))) 3 18 A) (wC g a C m) 2 12 [(0, .ref (a 0)), (1, .int (x)), (2, .int (y)), (3, .int (zsum (fun p => ifI (cSt C p = 2) (cSum C 16 p x) (cSum C 18 p x)) i)), (4, .int (nI (e))), (5, .int (nI (i)))] 24 [] := by
    intro n24
    induction n24 with
    | zero => intro i h1 h2; exact absurd h2 (by omega)
    | succ n24 ih24 =>
      intro i hle24 hn24 hal
      have hS2i := hS2 i
      refine z_iload B 5 dX6_balanceByPages_24 rfl ?_
      refine z_iload B 4 dX6_balanceByPages_26 rfl ?_
      refine z_icmpN_ge B 101 dX6_balanceByPages_28 (by decide) (by omega) (by omega) (fun zc28 => ?_) (fun zc28 => ?_)
      · obtain rfl : e = i := by omega
        refine z_iload_n B 3 dX6_balanceByPages_101 rfl rfl ?_
        exact z_xr (z_mret B hAe hr dX6_balanceByPages_102 rfl (by decide) (by decide) (by exact ⟨(by exact ⟨e, he, rfl⟩), rfl, hp1, hp6, (fun e2 h2 p hp => hal p (cUp_u h2 he ▸ hp))⟩))
      · refine z_aload_n B 0 dX6_balanceByPages_31 rfl rfl ?_
        refine z_get (C := RX6) (T := TX6) (N := 6) (v := .ref (a 3)) B 0 2 3 fw_X6_balanceByPages_X6 rfl rfl (by decide) rfl rfl rfl dX6_balanceByPages_32 ?_
        refine z_iload B 5 dX6_balanceByPages_35 rfl ?_
        refine z_callP (As := [.int (nI (i))]) (st := []) (C := RX0) (T := TX0) (N := 11) (ci := 0) (l := l) B hl (cc_X0_stateOf l D g a C m hI i (by omega)) gX6_balanceByPages_X0_stateOf rfl ⟨rfl, rfl⟩ nm_X0_stateOf ⟨by decide, by decide⟩ (fun _ h => h) 3 rfl rfl rfl (Nat.le_of_ble_eq_true rfl) dX6_balanceByPages_37 (by decide) (by decide) (fun r hr => ?_)
        subst hr
        refine z_istore (lv1 := [(6, .int (nI (cSt C i))), (0, .ref (a 0)), (1, .int (x)), (2, .int (y)), (3, .int (zsum (fun p => ifI (cSt C p = 2) (cSum C 16 p x) (cSum C 18 p x)) i)), (4, .int (nI (e))), (5, .int (nI (i)))]) B dX6_balanceByPages_40 (by decide) rfl ?_
        refine z_iload B 0 dX6_balanceByPages_42 rfl ?_
        refine z_iconst (v := nI 1) B dX6_balanceByPages_44 (by decide) ?_
        refine z_icmpN_ne B 59 dX6_balanceByPages_45 (by decide) (by omega) (by omega) (fun zc45 => ?_) (fun zc45 => ?_)
        · refine z_iload_n B 4 dX6_balanceByPages_59 rfl rfl ?_
          refine z_aload_n B 1 dX6_balanceByPages_60 rfl rfl ?_
          refine z_get (C := RX6) (T := TX6) (N := 6) (v := .ref (a 3)) B 0 2 3 fw_X6_balanceByPages_X6 rfl rfl (by decide) rfl rfl rfl dX6_balanceByPages_61 ?_
          refine z_iload B 0 dX6_balanceByPages_64 rfl ?_
          refine z_iconst (v := nI 2) B dX6_balanceByPages_66 (by decide) ?_
          refine z_icmpN_ne B 80 dX6_balanceByPages_67 (by decide) (by omega) (by omega) (fun zc67 => ?_) (fun zc67 => ?_)
          · refine z_aload_n B 1 dX6_balanceByPages_80 rfl rfl ?_
            refine z_get (C := RX6) (T := TX6) (N := 6) (v := .ref (a 3)) B 0 2 3 fw_X6_balanceByPages_X6 rfl rfl (by decide) rfl rfl rfl dX6_balanceByPages_81 ?_
            refine z_get (C := RX0) (T := TX0) (N := 11) (v := .ref (a 19)) B 3 9 5 fw_X6_balanceByPages_X0 rfl rfl (by decide) rfl rfl rfl dX6_balanceByPages_84 ?_
            refine z_iload B 6 dX6_balanceByPages_87 rfl ?_
            refine z_iload_n B 2 dX6_balanceByPages_89 rfl rfl ?_
            refine z_callP (As := [.ref (a 19), .int (nI (i)), .int (x)]) (st := [.int (zsum (fun p => ifI (cSt C p = 2) (cSum C 16 p x) (cSum C 18 p x)) i)]) (C := RX0) (T := TX0) (N := 11) (ci := 0) (l := l) B hl (cc_X0_sumOn_N l D g a C m hI i (by omega) x) gX6_balanceByPages_X0_sumOn rfl ⟨rfl, rfl⟩ nm_X0_sumOn ⟨by decide, by decide⟩ (fun _ h => h) 3 rfl rfl rfl (Nat.le_of_ble_eq_true rfl) dX6_balanceByPages_90 (by decide) (by decide) (fun r hr => ?_)
            subst hr
            refine z_iadd B dX6_balanceByPages_93 ?_
            refine z_istore_n (lv1 := [(3, .int (((zsum (fun p => ifI (cSt C p = 2) (cSum C 16 p x) (cSum C 18 p x)) i) + (cSum C 18 i x)))), (6, .int (nI (cSt C i))), (0, .ref (a 0)), (1, .int (x)), (2, .int (y)), (4, .int (nI (e))), (5, .int (nI (i)))]) B dX6_balanceByPages_94 rfl (by decide) rfl ?_
            refine z_iinc B 6 (lv1 := [(5, .int (nI (i + 1))), (3, .int (((zsum (fun p => ifI (cSt C p = 2) (cSum C 16 p x) (cSum C 18 p x)) i) + (cSum C 18 i x)))), (6, .int (nI (cSt C i))), (0, .ref (a 0)), (1, .int (x)), (2, .int (y)), (4, .int (nI (e)))]) dX6_balanceByPages_95 rfl (nI_1 _) (by decide) rfl ?_
            refine z_goto B 24 dX6_balanceByPages_98 (by decide) ?_
            refine z_loc [3, 4, 5, 1, 6, 0] (lv' := [(0, .ref (a 0)), (1, .int (x)), (2, .int (y)), (3, .int (((zsum (fun p => ifI (cSt C p = 2) (cSum C 16 p x) (cSum C 18 p x)) i) + (cSum C 18 i x)))), (4, .int (nI (e))), (5, .int (nI (i + 1)))]) rfl ?_
            refine z_lvc (lv' := [(0, .ref (a 0)), (1, .int (x)), (2, .int (y)), (3, .int (zsum (fun p => ifI (cSt C p = 2) (cSum C 16 p x) (cSum C 18 p x)) (i + 1))), (4, .int (nI (e))), (5, .int (nI ((i + 1))))]) (by first | rw [zsum, ifI_t zc67] | rw [zsum, ifI_f zc67]) ?_
            exact ih24 (i + 1) (by omega) (by omega) (all_s.mpr ⟨hal, zc45⟩)
          · refine z_aload_n B 1 dX6_balanceByPages_70 rfl rfl ?_
            refine z_get (C := RX6) (T := TX6) (N := 6) (v := .ref (a 3)) B 0 2 3 fw_X6_balanceByPages_X6 rfl rfl (by decide) rfl rfl rfl dX6_balanceByPages_71 ?_
            refine z_get (C := RX0) (T := TX0) (N := 11) (v := .ref (a 18)) B 3 8 4 fw_X6_balanceByPages_X0 rfl rfl (by decide) rfl rfl rfl dX6_balanceByPages_74 ?_
            refine z_goto B 87 dX6_balanceByPages_77 (by decide) ?_
            refine z_iload B 6 dX6_balanceByPages_87 rfl ?_
            refine z_iload_n B 2 dX6_balanceByPages_89 rfl rfl ?_
            refine z_callP (As := [.ref (a 18), .int (nI (i)), .int (x)]) (st := [.int (zsum (fun p => ifI (cSt C p = 2) (cSum C 16 p x) (cSum C 18 p x)) i)]) (C := RX0) (T := TX0) (N := 11) (ci := 0) (l := l) B hl (cc_X0_sumOn_W l D g a C m hI i (by omega) x) gX6_balanceByPages_X0_sumOn rfl ⟨rfl, rfl⟩ nm_X0_sumOn ⟨by decide, by decide⟩ (fun _ h => h) 3 rfl rfl rfl (Nat.le_of_ble_eq_true rfl) dX6_balanceByPages_90 (by decide) (by decide) (fun r hr => ?_)
            subst hr
            refine z_iadd B dX6_balanceByPages_93 ?_
            refine z_istore_n (lv1 := [(3, .int (((zsum (fun p => ifI (cSt C p = 2) (cSum C 16 p x) (cSum C 18 p x)) i) + (cSum C 16 i x)))), (6, .int (nI (cSt C i))), (0, .ref (a 0)), (1, .int (x)), (2, .int (y)), (4, .int (nI (e))), (5, .int (nI (i)))]) B dX6_balanceByPages_94 rfl (by decide) rfl ?_
            refine z_iinc B 6 (lv1 := [(5, .int (nI (i + 1))), (3, .int (((zsum (fun p => ifI (cSt C p = 2) (cSum C 16 p x) (cSum C 18 p x)) i) + (cSum C 16 i x)))), (6, .int (nI (cSt C i))), (0, .ref (a 0)), (1, .int (x)), (2, .int (y)), (4, .int (nI (e)))]) dX6_balanceByPages_95 rfl (nI_1 _) (by decide) rfl ?_
            refine z_goto B 24 dX6_balanceByPages_98 (by decide) ?_
            refine z_loc [3, 4, 5, 1, 6, 0] (lv' := [(0, .ref (a 0)), (1, .int (x)), (2, .int (y)), (3, .int (((zsum (fun p => ifI (cSt C p = 2) (cSum C 16 p x) (cSum C 18 p x)) i) + (cSum C 16 i x)))), (4, .int (nI (e))), (5, .int (nI (i + 1)))]) rfl ?_
            refine z_lvc (lv' := [(0, .ref (a 0)), (1, .int (x)), (2, .int (y)), (3, .int (zsum (fun p => ifI (cSt C p = 2) (cSum C 16 p x) (cSum C 18 p x)) (i + 1))), (4, .int (nI (e))), (5, .int (nI ((i + 1))))]) (by first | rw [zsum, ifI_t zc67] | rw [zsum, ifI_f zc67]) ?_
            exact ih24 (i + 1) (by omega) (by omega) (all_s.mpr ⟨hal, zc45⟩)
        · have hng : ¬ (∀ e, cUp C y e → ∀ p, p < e → ¬ cSt C p = 1) := by exact fun h => h e he i (by omega) zc45
          refine z_throwSW (B := B) (text := "a page up to that day is burnt") hAe hT (by rw [hl]; exact hst) htab (by decide) (by decide) (List.mem_of_getElem? (i := 1) rfl) (List.mem_of_getElem? (i := 2) rfl) (fun _ h => List.mem_cons_of_mem _ (List.mem_append_left _ (List.mem_append_left _ (List.mem_append_right _ (h))))) zngS zgdS (by decide) dX6_balanceByPages_48 dX6_balanceByPages_51 dX6_balanceByPages_52 dX6_balanceByPages_55 dX6_balanceByPages_58 (by decide) (Nat.le_of_ble_eq_true rfl) (by decide) (by decide) (by decide) (by decide) ?_
          exact ⟨rfl, (Or.inr (Or.inr (⟨rfl, hp1, hp6, hng⟩)))⟩
  refine z_loc [3, 4, 5, 2, 1, 0] (lv' := [(0, .ref (a 0)), (1, .int (x)), (2, .int (y)), (3, .int (nI (0))), (4, .int (nI (e))), (5, .int (nI (0)))]) rfl ?_
  refine z_lvc (lv' := [(0, .ref (a 0)), (1, .int (x)), (2, .int (y)), (3, .int (zsum (fun p => ifI (cSt C p = 2) (cSum C 16 p x) (cSum C 18 p x)) 0)), (4, .int (nI (e))), (5, .int (nI (0)))]) (by rfl) ?_
  exact loop24 (e + 1) 0 (by omega) (by omega) (fun l hl => absurd hl (Nat.not_lt_zero l))
theorem fw_X6_balanceByCopies_X0 : zF wsX6_balanceByCopies RX0 TX0 11 := fun _ h => List.mem_cons_of_mem _ (List.mem_append_left _ (List.mem_append_left _ (List.mem_append_left _ (List.mem_append_left _ (List.mem_append_left _ (List.mem_append_left _ (List.mem_append_right _ (h))))))))
theorem fw_X6_balanceByCopies_X6 : zF wsX6_balanceByCopies RX6 TX6 6 := fun _ h => List.mem_cons_of_mem _ (List.mem_append_left _ (List.mem_append_left _ (List.mem_append_left _ (List.mem_append_left _ (List.mem_append_left _ (List.mem_append_left _ (List.mem_append_left _ (List.mem_append_right _ (h)))))))))
set_option maxHeartbeats 4000000 in
set_option maxRecDepth 100000 in
theorem cc_X6_balanceByCopies (l : Launch) (D : va_G) (g : zG) (a : Nat → Nat) (C : zMS) (m : Nat) (hst : l.stackTraces = false) (hI : CI C) (hm : 4 * cM C ≤ m) (x : Int32) (y : Int32) : zThrI l yX6_balanceByCopies wsX6_balanceByCopies { frames := 7, cells := 3, slots := 18, locals := 113 } D (zT g) (wC g a C m) [.ref (a 0), .int (x), .int (y)] (fun r w' => (∃ e, cUp C y e ∧ r = zsum (fun p => cSum C 16 p x) e) ∧ w' = wC g a C m ∧ (rng x 8) ∧ (rng y (cT C + 1)) ∧ (∀ e, cUp C y e → ∀ p, p < e → cTT C p)) (fun E w' => w' = wC g a C m ∧ ((E = "java/lang/IndexOutOfBoundsException" ∧ ¬ (rng x 8)) ∨ (E = "java/lang/IllegalArgumentException" ∧ (rng x 8) ∧ ¬ (rng y (cT C + 1))) ∨ (E = "java/lang/IllegalStateException" ∧ (rng x 8) ∧ (rng y (cT C + 1)) ∧ ¬ (∀ e, cUp C y e → ∀ p, p < e → cTT C p)))) 3 18 := by
  refine zThrI_of (cc := cX6_balanceByCopies) (maxL := 6) (ret := (some .int)) (own := RX6) [(0, .ref (a 0)), (1, .int (x)), (2, .int (y))] (by decide) rfl rfl rfl (Nat.le_of_ble_eq_true rfl) ?_
  intro X A hAe hl B hr hin htab hT
  obtain ⟨b19, b3, b6, b20, b22, b27, b0⟩ := CI_bs hI
  refine z_iload_n B 1 dX6_balanceByCopies_0 rfl rfl ?_
  refine z_callTSV (As := [.int (x)]) (st := []) (l := l) B hAe hT htab hl (cc_X6_needAccount l D g a C m hst hI x) gX6_balanceByCopies_X6_needAccount rfl ⟨rfl, rfl⟩ nm_X6_needAccount ⟨by decide, by decide⟩ rfl (Nat.le_of_ble_eq_true rfl) dX6_balanceByCopies_1 rfl rfl (by decide) (by decide) (by decide) (by decide) (fun E w' h => by exact ⟨h.1, (Or.inl (⟨h.2.1, h.2.2⟩))⟩) (fun w1 hrr => ?_)
  obtain ⟨rfl, hp1⟩ := hrr
  refine z_aload_n B 0 dX6_balanceByCopies_4 rfl rfl ?_
  refine z_iload_n B 2 dX6_balanceByCopies_5 rfl rfl ?_
  refine z_callTV (As := [.int (y)]) (st := []) (C := RX6) (T := TX6) (N := 6) (ci := 6) (l := l) B hAe hT htab hl (cc_X6_needPastDay l D g a C m hst hI y) gX6_balanceByCopies_X6_needPastDay rfl ⟨rfl, rfl⟩ nm_X6_needPastDay ⟨by decide, by decide⟩ 0 rfl rfl rfl (Nat.le_of_ble_eq_true rfl) dX6_balanceByCopies_6 rfl rfl (by decide) (by decide) (by decide) (by decide) (fun E w' h => by exact ⟨h.1, (Or.inr (Or.inl (⟨h.2.1, hp1, h.2.2⟩)))⟩) (fun w1 hrr => ?_)
  obtain ⟨rfl, hp6⟩ := hrr
  refine z_iconst (v := nI 0) B dX6_balanceByCopies_9 (by decide) ?_
  refine z_istore_n (lv1 := [(3, .int (nI (0))), (0, .ref (a 0)), (1, .int (x)), (2, .int (y))]) B dX6_balanceByCopies_10 rfl (by decide) rfl ?_
  refine z_aload_n B 1 dX6_balanceByCopies_11 rfl rfl ?_
  refine z_get (C := RX6) (T := TX6) (N := 6) (v := .ref (a 3)) B 0 2 3 fw_X6_balanceByCopies_X6 rfl rfl (by decide) rfl rfl rfl dX6_balanceByCopies_12 ?_
  refine z_iload_n B 3 dX6_balanceByCopies_15 rfl rfl ?_
  refine z_callP (As := [.int (y)]) (st := []) (C := RX0) (T := TX0) (N := 11) (ci := 0) (l := l) B hl (cc_X0_countUpTo l D g a C m hI y) gX6_balanceByCopies_X0_countUpTo rfl ⟨rfl, rfl⟩ nm_X0_countUpTo ⟨by decide, by decide⟩ (fun _ h => h) 3 rfl rfl rfl (Nat.le_of_ble_eq_true rfl) dX6_balanceByCopies_16 (by decide) (by decide) (fun r hr => ?_)
  obtain ⟨e, rfl, he⟩ := hr
  have hel := he.1
  refine z_istore (lv1 := [(4, .int (nI (e))), (3, .int (nI (0))), (0, .ref (a 0)), (1, .int (x)), (2, .int (y))]) B dX6_balanceByCopies_19 (by decide) rfl ?_
  refine z_iconst (v := nI 0) B dX6_balanceByCopies_21 (by decide) ?_
  refine z_istore (lv1 := [(5, .int (nI (0))), (4, .int (nI (e))), (3, .int (nI (0))), (0, .ref (a 0)), (1, .int (x)), (2, .int (y))]) B dX6_balanceByCopies_22 (by decide) rfl ?_
  have loop24 : ∀ (n0 i : Nat), i ≤ e → e + 1 ≤ i + n0 → (∀ p, p < i → cTT C p) → zJ X 6 (zI1 D A (zs X)) (zQx X (va_Qi (fun r w' => (∃ e, cUp C y e ∧ r = zsum (fun p => cSum C 16 p x) e) ∧ w' = wC g a C m ∧ (rng x 8) ∧ (rng y (cT C + 1)) ∧ (∀ e, cUp C y e → ∀ p, p < e → cTT C p)) (zEnd D (zT g) (wC g a C m) (zs X).heap.size) A) (zXC D (zT g) (wC g a C m) (zs X).heap.size (fun E w' => w' = wC g a C m ∧ ((E = "java/lang/IndexOutOfBoundsException" ∧ ¬ (rng x 8)) ∨ (E = "java/lang/IllegalArgumentException" ∧ (rng x 8) ∧ ¬ (rng y (cT C + 1))) ∨ (E = "java/lang/IllegalStateException" ∧ (rng x 8) ∧ (rng y (cT C + 1)) ∧ ¬ (∀ e, cUp C y e → ∀ p, p < e → cTT C p))))) 3 18 A) (wC g a C m) 2 12 [(0, .ref (a 0)), (1, .int (x)), (2, .int (y)), (3, .int (zsum (fun p => cSum C 16 p x) i)), (4, .int (nI (e))), (5, .int (nI (i)))] 24 [] := by
    intro n24
    induction n24 with
    | zero => intro i h1 h2; exact absurd h2 (by omega)
    | succ n24 ih24 =>
      intro i hle24 hn24 hal
      refine z_iload B 5 dX6_balanceByCopies_24 rfl ?_
      refine z_iload B 4 dX6_balanceByCopies_26 rfl ?_
      refine z_icmpN_ge B 77 dX6_balanceByCopies_28 (by decide) (by omega) (by omega) (fun zc28 => ?_) (fun zc28 => ?_)
      · obtain rfl : e = i := by omega
        refine z_iload_n B 3 dX6_balanceByCopies_77 rfl rfl ?_
        exact z_xr (z_mret B hAe hr dX6_balanceByCopies_78 rfl (by decide) (by decide) (by exact ⟨(by exact ⟨e, he, rfl⟩), rfl, hp1, hp6, (fun e2 h2 p hp => hal p (cUp_u h2 he ▸ hp))⟩))
      · refine z_aload_n B 0 dX6_balanceByCopies_31 rfl rfl ?_
        refine z_iload B 5 dX6_balanceByCopies_32 rfl ?_
        refine z_callP (As := [.int (nI (i))]) (st := []) (C := RX6) (T := TX6) (N := 6) (ci := 6) (l := l) B hl (cc_X6_isToldTruly l D g a C m hI hm i (by omega)) gX6_balanceByCopies_X6_isToldTruly rfl ⟨rfl, rfl⟩ nm_X6_isToldTruly ⟨by decide, by decide⟩ (fun _ h => h) 0 rfl rfl rfl (Nat.le_of_ble_eq_true rfl) dX6_balanceByCopies_34 (by decide) (by decide) (fun r hr => ?_)
        subst hr
        refine z_ifB_ne B 51 dX6_balanceByCopies_37 (by decide) (fun zc37 => ?_) (fun zc37 => ?_)
        · refine z_iload_n B 3 dX6_balanceByCopies_51 rfl rfl ?_
          refine z_aload_n B 0 dX6_balanceByCopies_52 rfl rfl ?_
          refine z_get (C := RX6) (T := TX6) (N := 6) (v := .ref (a 3)) B 0 2 3 fw_X6_balanceByCopies_X6 rfl rfl (by decide) rfl rfl rfl dX6_balanceByCopies_53 ?_
          refine z_aload_n B 0 dX6_balanceByCopies_56 rfl rfl ?_
          refine z_get (C := RX6) (T := TX6) (N := 6) (v := .ref (a 3)) B 0 2 3 fw_X6_balanceByCopies_X6 rfl rfl (by decide) rfl rfl rfl dX6_balanceByCopies_57 ?_
          refine z_get (C := RX0) (T := TX0) (N := 11) (v := .ref (a 18)) B 3 8 4 fw_X6_balanceByCopies_X0 rfl rfl (by decide) rfl rfl rfl dX6_balanceByCopies_60 ?_
          refine z_iload B 5 dX6_balanceByCopies_63 rfl ?_
          refine z_iload_n B 1 dX6_balanceByCopies_65 rfl rfl ?_
          refine z_callP (As := [.ref (a 18), .int (nI (i)), .int (x)]) (st := [.int (zsum (fun p => cSum C 16 p x) i)]) (C := RX0) (T := TX0) (N := 11) (ci := 0) (l := l) B hl (cc_X0_sumOn_W l D g a C m hI i (by omega) x) gX6_balanceByCopies_X0_sumOn rfl ⟨rfl, rfl⟩ nm_X0_sumOn ⟨by decide, by decide⟩ (fun _ h => h) 3 rfl rfl rfl (Nat.le_of_ble_eq_true rfl) dX6_balanceByCopies_66 (by decide) (by decide) (fun r hr => ?_)
          subst hr
          refine z_iadd B dX6_balanceByCopies_69 ?_
          refine z_istore_n (lv1 := [(3, .int (((zsum (fun p => cSum C 16 p x) i) + (cSum C 16 i x)))), (0, .ref (a 0)), (1, .int (x)), (2, .int (y)), (4, .int (nI (e))), (5, .int (nI (i)))]) B dX6_balanceByCopies_70 rfl (by decide) rfl ?_
          refine z_iinc B 5 (lv1 := [(5, .int (nI (i + 1))), (3, .int (((zsum (fun p => cSum C 16 p x) i) + (cSum C 16 i x)))), (0, .ref (a 0)), (1, .int (x)), (2, .int (y)), (4, .int (nI (e)))]) dX6_balanceByCopies_71 rfl (nI_1 _) (by decide) rfl ?_
          refine z_goto B 24 dX6_balanceByCopies_74 (by decide) ?_
          refine z_loc [2, 3, 4, 1, 5, 0] (lv' := [(0, .ref (a 0)), (1, .int (x)), (2, .int (y)), (3, .int (((zsum (fun p => cSum C 16 p x) i) + (cSum C 16 i x)))), (4, .int (nI (e))), (5, .int (nI (i + 1)))]) rfl ?_
          refine z_lvc (lv' := [(0, .ref (a 0)), (1, .int (x)), (2, .int (y)), (3, .int (zsum (fun p => cSum C 16 p x) (i + 1))), (4, .int (nI (e))), (5, .int (nI ((i + 1))))]) (by rfl) ?_
          exact ih24 (i + 1) (by omega) (by omega) (all_s.mpr ⟨hal, zc37⟩)
        · have hng : ¬ (∀ e, cUp C y e → ∀ p, p < e → cTT C p) := by exact fun h => zc37 (h e he i (by omega))
          refine z_throwSW (B := B) (text := "a page up to that day is found nowhere") hAe hT (by rw [hl]; exact hst) htab (by decide) (by decide) (List.mem_of_getElem? (i := 1) rfl) (List.mem_of_getElem? (i := 2) rfl) (fun _ h => List.mem_cons_of_mem _ (List.mem_append_left _ (List.mem_append_left _ (List.mem_append_right _ (h))))) zngS zgdS (by decide) dX6_balanceByCopies_40 dX6_balanceByCopies_43 dX6_balanceByCopies_44 dX6_balanceByCopies_47 dX6_balanceByCopies_50 (by decide) (Nat.le_of_ble_eq_true rfl) (by decide) (by decide) (by decide) (by decide) ?_
          exact ⟨rfl, (Or.inr (Or.inr (⟨rfl, hp1, hp6, hng⟩)))⟩
  refine z_loc [3, 4, 5, 2, 1, 0] (lv' := [(0, .ref (a 0)), (1, .int (x)), (2, .int (y)), (3, .int (nI (0))), (4, .int (nI (e))), (5, .int (nI (0)))]) rfl ?_
  refine z_lvc (lv' := [(0, .ref (a 0)), (1, .int (x)), (2, .int (y)), (3, .int (zsum (fun p => cSum C 16 p x) 0)), (4, .int (nI (e))), (5, .int (nI (0)))]) (by rfl) ?_
  exact loop24 (e + 1) 0 (by omega) (by omega) (fun l hl => absurd hl (Nat.not_lt_zero l))
theorem fw_X6_lost_X0 : zF wsX6_lost RX0 TX0 11 := fun _ h => List.mem_cons_of_mem _ (List.mem_append_left _ (List.mem_append_left _ (List.mem_append_left _ (List.mem_append_right _ (h)))))
theorem fw_X6_lost_X6 : zF wsX6_lost RX6 TX6 6 := fun _ h => List.mem_cons_of_mem _ (List.mem_append_left _ (List.mem_append_left _ (List.mem_append_left _ (List.mem_append_left _ (List.mem_append_right _ (h))))))
set_option maxHeartbeats 4000000 in
set_option maxRecDepth 100000 in
theorem cc_X6_lost (l : Launch) (D : va_G) (g : zG) (a : Nat → Nat) (C : zMS) (m : Nat) (hI : CI C) (hm : 4 * cM C ≤ m) : zPure l yX6_lost wsX6_lost { frames := 4, cells := 0, slots := 0, locals := 92 } D (zT g) (wC g a C m) [.ref (a 0)] (fun r => r = nI (zcnt (fun p => cSt C p = 1 ∧ ¬ cHT C p (nI 1)) (cP C))) := by
  refine zPure_of (cc := cX6_lost) (maxL := 3) (ret := (some .int)) (own := RX6) [(0, .ref (a 0))] (by decide) rfl rfl rfl (Nat.le_of_ble_eq_true rfl) ?_
  intro X hl B hr
  obtain ⟨b19, b3, b6, b20, b22, b27, b0⟩ := CI_bs hI
  have hS2 : ∀ p, cSt C p < 2 ^ 31 := fun p => by unfold cSt ifN; split <;> (try split) <;> decide
  refine z_iconst (v := nI 0) B dX6_lost_0 (by decide) ?_
  refine z_istore_n (lv1 := [(1, .int (nI (0))), (0, .ref (a 0))]) B dX6_lost_1 rfl (by decide) rfl ?_
  refine z_iconst (v := nI 0) B dX6_lost_2 (by decide) ?_
  refine z_istore_n (lv1 := [(2, .int (nI (0))), (1, .int (nI (0))), (0, .ref (a 0))]) B dX6_lost_3 rfl (by decide) rfl ?_
  have loop4 : ∀ (n0 i : Nat), i ≤ cP C → cP C + 1 ≤ i + n0 → zJ X 3 (zI0 D (zs X)) (zQe X (vp_Si (fun r => r = nI (zcnt (fun p => cSt C p = 1 ∧ ¬ cHT C p (nI 1)) (cP C)))) 0 0 (fun _ => False)) (wC g a C m) 0 0 [(0, .ref (a 0)), (1, .int (nI (zcnt (fun p => cSt C p = 1 ∧ ¬ cHT C p (nI 1)) i))), (2, .int (nI (i)))] 4 [] := by
    intro n4
    induction n4 with
    | zero => intro i h1 h2; exact absurd h2 (by omega)
    | succ n4 ih4 =>
      intro i hle4 hn4
      have hS2i := hS2 i
      refine z_iload_n B 2 dX6_lost_4 rfl rfl ?_
      refine z_aload_n B 0 dX6_lost_5 rfl rfl ?_
      refine z_get (C := RX6) (T := TX6) (N := 6) (v := .ref (a 3)) B 0 2 1 fw_X6_lost_X6 rfl rfl (by decide) rfl rfl rfl dX6_lost_6 ?_
      refine z_get (C := RX0) (T := TX0) (N := 11) (v := .int (C 19 0)) B 3 10 2 fw_X6_lost_X0 rfl rfl (by decide) rfl rfl rfl dX6_lost_9 ?_
      refine z_top (y := nI (cP C)) (CI_19 (C := C) hI) ?_
      refine z_icmpN_ge B 52 dX6_lost_12 (by decide) (by omega) (by omega) (fun zc12 => ?_) (fun zc12 => ?_)
      · obtain rfl : i = cP C := by omega
        refine z_iload_n B 1 dX6_lost_52 rfl rfl ?_
        exact z_pret B hr dX6_lost_53 rfl (by rfl)
      · refine z_aload_n B 0 dX6_lost_15 rfl rfl ?_
        refine z_get (C := RX6) (T := TX6) (N := 6) (v := .ref (a 3)) B 0 2 1 fw_X6_lost_X6 rfl rfl (by decide) rfl rfl rfl dX6_lost_16 ?_
        refine z_iload_n B 2 dX6_lost_19 rfl rfl ?_
        refine z_callP (As := [.int (nI (i))]) (st := []) (C := RX0) (T := TX0) (N := 11) (ci := 0) (l := l) B hl (cc_X0_stateOf l D g a C m hI i (by omega)) gX6_lost_X0_stateOf rfl ⟨rfl, rfl⟩ nm_X0_stateOf ⟨by decide, by decide⟩ (fun _ h => h) 3 rfl rfl rfl (Nat.le_of_ble_eq_true rfl) dX6_lost_20 (Nat.zero_le _) (Nat.zero_le _) (fun r hr => ?_)
        subst hr
        refine z_iconst (v := nI 1) B dX6_lost_23 (by decide) ?_
        refine z_icmpN_ne B 46 dX6_lost_24 (by decide) (by omega) (by omega) (fun zc24 => ?_) (fun zc24 => ?_)
        · refine z_iinc B 2 (lv1 := [(2, .int (nI (i + 1))), (0, .ref (a 0)), (1, .int (nI (zcnt (fun p => cSt C p = 1 ∧ ¬ cHT C p (nI 1)) i)))]) dX6_lost_46 rfl (nI_1 _) (by decide) rfl ?_
          refine z_goto B 4 dX6_lost_49 (by decide) ?_
          refine z_loc [1, 2, 0] (lv' := [(0, .ref (a 0)), (1, .int (nI (zcnt (fun p => cSt C p = 1 ∧ ¬ cHT C p (nI 1)) i))), (2, .int (nI (i + 1)))]) rfl ?_
          refine z_lvc (lv' := [(0, .ref (a 0)), (1, .int (nI (zcnt (fun p => cSt C p = 1 ∧ ¬ cHT C p (nI 1)) (i + 1)))), (2, .int (nI ((i + 1))))]) (by first | rw [zcnt_y (P := fun p => cSt C p = 1 ∧ ¬ cHT C p (nI 1)) ⟨zc24, zc40⟩] | rw [← zcnt_n (P := fun p => cSt C p = 1 ∧ ¬ cHT C p (nI 1)) (fun h => zc24 h.1)] | rw [← zcnt_n (P := fun p => cSt C p = 1 ∧ ¬ cHT C p (nI 1)) (fun h => h.2 zc40)]) ?_
          exact ih4 (i + 1) (by omega) (by omega)
        · refine z_aload_n B 0 dX6_lost_27 rfl rfl ?_
          refine z_get (C := RX6) (T := TX6) (N := 6) (v := .ref (a 4)) B 0 3 3 fw_X6_lost_X6 rfl rfl (by decide) rfl rfl rfl dX6_lost_28 ?_
          refine z_aload_n B 0 dX6_lost_31 rfl rfl ?_
          refine z_get (C := RX6) (T := TX6) (N := 6) (v := .ref (a 3)) B 0 2 1 fw_X6_lost_X6 rfl rfl (by decide) rfl rfl rfl dX6_lost_32 ?_
          refine z_iload_n B 2 dX6_lost_35 rfl rfl ?_
          refine z_iconst (v := nI 1) B dX6_lost_36 (by decide) ?_
          refine z_callP (As := [.ref (a 3), .int (nI (i)), .int (nI (1))]) (st := []) (C := RX5) (T := TX5) (N := 2) (ci := 5) (l := l) B hl (cc_X5_hasTrue l D g a C m hI hm i (by omega) (nI (1))) gX6_lost_X5_hasTrue rfl ⟨rfl, rfl⟩ nm_X5_hasTrue ⟨by decide, by decide⟩ (fun _ h => h) 4 rfl rfl rfl (Nat.le_of_ble_eq_true rfl) dX6_lost_37 (Nat.zero_le _) (Nat.zero_le _) (fun r hr => ?_)
          subst hr
          refine z_ifB_ne B 46 dX6_lost_40 (by decide) (fun zc40 => ?_) (fun zc40 => ?_)
          · refine z_iinc B 2 (lv1 := [(2, .int (nI (i + 1))), (0, .ref (a 0)), (1, .int (nI (zcnt (fun p => cSt C p = 1 ∧ ¬ cHT C p (nI 1)) i)))]) dX6_lost_46 rfl (nI_1 _) (by decide) rfl ?_
            refine z_goto B 4 dX6_lost_49 (by decide) ?_
            refine z_loc [1, 2, 0] (lv' := [(0, .ref (a 0)), (1, .int (nI (zcnt (fun p => cSt C p = 1 ∧ ¬ cHT C p (nI 1)) i))), (2, .int (nI (i + 1)))]) rfl ?_
            refine z_lvc (lv' := [(0, .ref (a 0)), (1, .int (nI (zcnt (fun p => cSt C p = 1 ∧ ¬ cHT C p (nI 1)) (i + 1)))), (2, .int (nI ((i + 1))))]) (by first | rw [zcnt_y (P := fun p => cSt C p = 1 ∧ ¬ cHT C p (nI 1)) ⟨zc24, zc40⟩] | rw [← zcnt_n (P := fun p => cSt C p = 1 ∧ ¬ cHT C p (nI 1)) (fun h => zc24 h.1)] | rw [← zcnt_n (P := fun p => cSt C p = 1 ∧ ¬ cHT C p (nI 1)) (fun h => h.2 zc40)]) ?_
            exact ih4 (i + 1) (by omega) (by omega)
          · refine z_iinc B 1 (lv1 := [(1, .int (nI (zcnt (fun p => cSt C p = 1 ∧ ¬ cHT C p (nI 1)) i + 1))), (0, .ref (a 0)), (2, .int (nI (i)))]) dX6_lost_43 rfl (nI_1 _) (by decide) rfl ?_
            refine z_iinc B 2 (lv1 := [(2, .int (nI (i + 1))), (1, .int (nI (zcnt (fun p => cSt C p = 1 ∧ ¬ cHT C p (nI 1)) i + 1))), (0, .ref (a 0))]) dX6_lost_46 rfl (nI_1 _) (by decide) rfl ?_
            refine z_goto B 4 dX6_lost_49 (by decide) ?_
            refine z_loc [2, 1, 0] (lv' := [(0, .ref (a 0)), (1, .int (nI (zcnt (fun p => cSt C p = 1 ∧ ¬ cHT C p (nI 1)) i + 1))), (2, .int (nI (i + 1)))]) rfl ?_
            refine z_lvc (lv' := [(0, .ref (a 0)), (1, .int (nI (zcnt (fun p => cSt C p = 1 ∧ ¬ cHT C p (nI 1)) (i + 1)))), (2, .int (nI ((i + 1))))]) (by first | rw [zcnt_y (P := fun p => cSt C p = 1 ∧ ¬ cHT C p (nI 1)) ⟨zc24, zc40⟩] | rw [← zcnt_n (P := fun p => cSt C p = 1 ∧ ¬ cHT C p (nI 1)) (fun h => zc24 h.1)] | rw [← zcnt_n (P := fun p => cSt C p = 1 ∧ ¬ cHT C p (nI 1)) (fun h => h.2 zc40)]) ?_
            exact ih4 (i + 1) (by omega) (by omega)
  refine z_loc [2, 1, 0] (lv' := [(0, .ref (a 0)), (1, .int (nI (0))), (2, .int (nI (0)))]) rfl ?_
  refine z_lvc (lv' := [(0, .ref (a 0)), (1, .int (nI (zcnt (fun p => cSt C p = 1 ∧ ¬ cHT C p (nI 1)) 0))), (2, .int (nI (0)))]) (by rfl) ?_
  exact loop4 (cP C + 1) 0 (by omega) (by omega)
theorem fw_X6_audit_X0 : zF wsX6_audit RX0 TX0 11 := fun _ h => List.mem_cons_of_mem _ (List.mem_append_left _ (List.mem_append_left _ (List.mem_append_left _ (List.mem_append_right _ (h)))))
theorem fw_X6_audit_X1 : zF wsX6_audit RX1 TX1 5 := fun _ h => List.mem_cons_of_mem _ (List.mem_append_left _ (List.mem_append_left _ (List.mem_append_left _ (List.mem_append_left _ (List.mem_append_left _ (List.mem_append_right _ (h)))))))
theorem fw_X6_audit_X6 : zF wsX6_audit RX6 TX6 6 := fun _ h => List.mem_cons_of_mem _ (List.mem_append_left _ (List.mem_append_left _ (List.mem_append_left _ (List.mem_append_left _ (List.mem_append_right _ (h))))))
set_option maxHeartbeats 4000000 in
set_option maxRecDepth 100000 in
theorem cc_X6_audit (l : Launch) (D : va_G) (g : zG) (a : Nat → Nat) (C : zMS) (m : Nat) (hst : l.stackTraces = false) (hI : CI C) (hm : 4 * cM C ≤ m) (hJ : CJ C) (x : Int32) : zThrI l yX6_audit wsX6_audit { frames := 7, cells := 1, slots := 6, locals := 104 } D (zT g) (wC g a C m) [.ref (a 0), .int (x)] (fun r w' => r = nI (zcnt (fun i => ¬ Lk C (44 + 8 * nN x) (45 + 8 * nN x) 17 18 (cF C (nN x) + i)) (cE C (nN x) - cF C (nN x))) ∧ w' = wC g a C m ∧ (cCx C x)) (fun E w' => w' = wC g a C m ∧ (E = "java/lang/IndexOutOfBoundsException" ∧ ¬ (cCx C x))) 1 6 := by
  refine zThrI_of (cc := cX6_audit) (maxL := 5) (ret := (some .int)) (own := RX6) [(0, .ref (a 0)), (1, .int (x))] (by decide) rfl rfl rfl (Nat.le_of_ble_eq_true rfl) ?_
  intro X A hAe hl B hr hin htab hT
  obtain ⟨b19, b3, b6, b20, b22, b27, b0⟩ := CI_bs hI
  refine z_aload_n B 0 dX6_audit_0 rfl rfl ?_
  refine z_iload_n B 1 dX6_audit_1 rfl rfl ?_
  refine z_callTQ (As := [.int (x)]) (st := []) (C := RX6) (T := TX6) (N := 6) (ci := 6) (l := l) B hAe hT htab hl (cc_X6_needCopy l D g a C m hst hI x) gX6_audit_X6_needCopy rfl ⟨rfl, rfl⟩ nm_X6_needCopy ⟨by decide, by decide⟩ 0 rfl rfl rfl (Nat.le_of_ble_eq_true rfl) dX6_audit_2 rfl rfl (by decide) (by decide) (by decide) (by decide) (fun E w' h => by exact ⟨h.1, (⟨h.2.1, h.2.2⟩)⟩) (fun r w1 hrr => ?_)
  obtain ⟨rfl, jx, rfl, hjx, h1jx, rfl⟩ := hrr
  have ejx : nN (nI jx) = jx := nN_nI (by omega)
  have khp2 : cCx C (nI jx) := ⟨jx, rfl, hjx, h1jx⟩
  refine z_topv (y := .ref (a (30 + 4 * jx))) rfl ?_
  refine z_astore_n (lv1 := [(2, .ref (a (30 + 4 * jx))), (0, .ref (a 0)), (1, .int (nI (jx)))]) B dX6_audit_5 rfl (by decide) rfl ?_
  refine z_iconst (v := nI 0) B dX6_audit_6 (by decide) ?_
  refine z_istore_n (lv1 := [(3, .int (nI (0))), (2, .ref (a (30 + 4 * jx))), (0, .ref (a 0)), (1, .int (nI (jx)))]) B dX6_audit_7 rfl (by decide) rfl ?_
  have bE := CI_b42 hI jx
  have bF := CI_b41 hI jx
  have hfe := (hJ.2 jx hjx).1
  refine z_aload_n B 1 dX6_audit_8 rfl rfl ?_
  refine z_get (C := RX1) (T := TX1) (N := 5) (v := .int (C (41 + 8 * jx) 0)) B (30 + 4 * jx) 2 1 fw_X6_audit_X1 (wC_c0 (by omega)) rfl (by decide) rfl rfl rfl dX6_audit_9 ?_
  refine z_top (y := nI (cF C jx)) (CI_41 (C := C) hI jx) ?_
  refine z_istore (lv1 := [(4, .int (nI (cF C jx))), (3, .int (nI (0))), (2, .ref (a (30 + 4 * jx))), (0, .ref (a 0)), (1, .int (nI (jx)))]) B dX6_audit_12 (by decide) rfl ?_
  have loop14 : ∀ (n0 i : Nat), i ≤ cE C jx - cF C jx → cE C jx - cF C jx + 1 ≤ i + n0 → zJ X 5 (zI1 D A (zs X)) (zQx X (va_Qi (fun r w' => r = nI (zcnt (fun i => ¬ Lk C (44 + 8 * nN (nI (jx))) (45 + 8 * nN (nI (jx))) 17 18 (cF C (nN (nI (jx))) + i)) (cE C (nN (nI (jx))) - cF C (nN (nI (jx))))) ∧ w' = wC g a C m ∧ (cCx C (nI (jx)))) (zEnd D (zT g) (wC g a C m) (zs X).heap.size) A) (zXC D (zT g) (wC g a C m) (zs X).heap.size (fun E w' => w' = wC g a C m ∧ (E = "java/lang/IndexOutOfBoundsException" ∧ ¬ (cCx C (nI (jx)))))) 1 6 A) (wC g a C m) 1 6 [(0, .ref (a 0)), (1, .int (nI (jx))), (2, .ref (a (30 + 4 * jx))), (3, .int (nI (zcnt (fun u => ¬ Lk C (44 + 8 * jx) (45 + 8 * jx) 17 18 (cF C jx + u)) i))), (4, .int (nI (cF C jx + i)))] 14 [] := by
    intro n14
    induction n14 with
    | zero => intro i h1 h2; exact absurd h2 (by omega)
    | succ n14 ih14 =>
      intro i hle14 hn14
      refine z_iload B 4 dX6_audit_14 rfl ?_
      refine z_aload_n B 2 dX6_audit_16 rfl rfl ?_
      refine z_get (C := RX1) (T := TX1) (N := 5) (v := .int (C (42 + 8 * jx) 0)) B (30 + 4 * jx) 3 2 fw_X6_audit_X1 (wC_c0 (by omega)) rfl (by decide) rfl rfl rfl dX6_audit_17 ?_
      refine z_top (y := nI (cE C jx)) (CI_42 (C := C) hI jx) ?_
      refine z_icmpN_ge B 51 dX6_audit_20 (by decide) (by omega) (by omega) (fun zc20 => ?_) (fun zc20 => ?_)
      · obtain rfl : i = cE C jx - cF C jx := by omega
        refine z_iload_n B 3 dX6_audit_51 rfl rfl ?_
        exact z_xr (z_mret B hAe hr dX6_audit_52 rfl (by decide) (by decide) (by try rw [ejx]; exact ⟨(by exact rfl), rfl, khp2⟩))
      · refine z_aload_n B 2 dX6_audit_23 rfl rfl ?_
        refine z_get (C := RX1) (T := TX1) (N := 5) (v := .ref (a (31 + 4 * jx))) B (30 + 4 * jx) 0 3 fw_X6_audit_X1 (wC_c0 (by omega)) rfl (by decide) rfl rfl rfl dX6_audit_24 ?_
        refine z_aload_n B 0 dX6_audit_27 rfl rfl ?_
        refine z_get (C := RX6) (T := TX6) (N := 6) (v := .ref (a 3)) B 0 2 4 fw_X6_audit_X6 rfl rfl (by decide) rfl rfl rfl dX6_audit_28 ?_
        refine z_get (C := RX0) (T := TX0) (N := 11) (v := .ref (a 19)) B 3 9 5 fw_X6_audit_X0 rfl rfl (by decide) rfl rfl rfl dX6_audit_31 ?_
        refine z_iload B 4 dX6_audit_34 rfl ?_
        refine z_callP (As := [.ref (a 19), .int (nI (cF C jx + i))]) (st := []) (C := RX4) (T := TX4) (N := 2) (ci := 4) (l := l) B hl (cc_X4_isLike_KN l D g a C m hI jx (by omega) (cF C jx + i) (by omega)) gX6_audit_X4_isLike rfl ⟨rfl, rfl⟩ nm_X4_isLike ⟨by decide, by decide⟩ (fun _ h => h) (31 + 4 * jx) (wC_c1 (by omega)) rfl rfl (Nat.le_of_ble_eq_true rfl) dX6_audit_36 (by decide) (by decide) (fun r hr => ?_)
        subst hr
        refine z_ifB_ne B 45 dX6_audit_39 (by decide) (fun zc39 => ?_) (fun zc39 => ?_)
        · refine z_iinc B 4 (lv1 := [(4, .int (nI (cF C jx + i + 1))), (0, .ref (a 0)), (1, .int (nI (jx))), (2, .ref (a (30 + 4 * jx))), (3, .int (nI (zcnt (fun u => ¬ Lk C (44 + 8 * jx) (45 + 8 * jx) 17 18 (cF C jx + u)) i)))]) dX6_audit_45 rfl (nI_1 _) (by decide) rfl ?_
          refine z_goto B 14 dX6_audit_48 (by decide) ?_
          refine z_loc [1, 2, 3, 4, 0] (lv' := [(0, .ref (a 0)), (1, .int (nI (jx))), (2, .ref (a (30 + 4 * jx))), (3, .int (nI (zcnt (fun u => ¬ Lk C (44 + 8 * jx) (45 + 8 * jx) 17 18 (cF C jx + u)) i))), (4, .int (nI (cF C jx + i + 1)))]) rfl ?_
          refine z_lvc (lv' := [(0, .ref (a 0)), (1, .int (nI (jx))), (2, .ref (a (30 + 4 * jx))), (3, .int (nI (zcnt (fun u => ¬ Lk C (44 + 8 * jx) (45 + 8 * jx) 17 18 (cF C jx + u)) (i + 1)))), (4, .int (nI (cF C jx + (i + 1))))]) (by first | (rw [zcnt_y (P := fun u => ¬ Lk C (44 + 8 * jx) (45 + 8 * jx) 17 18 (cF C jx + u)) zc39] <;> rfl) | (rw [← zcnt_n (P := fun u => ¬ Lk C (44 + 8 * jx) (45 + 8 * jx) 17 18 (cF C jx + u)) (not_not_intro zc39)] <;> rfl)) ?_
          exact ih14 (i + 1) (by omega) (by omega)
        · refine z_iinc B 3 (lv1 := [(3, .int (nI (zcnt (fun u => ¬ Lk C (44 + 8 * jx) (45 + 8 * jx) 17 18 (cF C jx + u)) i + 1))), (0, .ref (a 0)), (1, .int (nI (jx))), (2, .ref (a (30 + 4 * jx))), (4, .int (nI (cF C jx + i)))]) dX6_audit_42 rfl (nI_1 _) (by decide) rfl ?_
          refine z_iinc B 4 (lv1 := [(4, .int (nI (cF C jx + i + 1))), (3, .int (nI (zcnt (fun u => ¬ Lk C (44 + 8 * jx) (45 + 8 * jx) 17 18 (cF C jx + u)) i + 1))), (0, .ref (a 0)), (1, .int (nI (jx))), (2, .ref (a (30 + 4 * jx)))]) dX6_audit_45 rfl (nI_1 _) (by decide) rfl ?_
          refine z_goto B 14 dX6_audit_48 (by decide) ?_
          refine z_loc [2, 3, 4, 1, 0] (lv' := [(0, .ref (a 0)), (1, .int (nI (jx))), (2, .ref (a (30 + 4 * jx))), (3, .int (nI (zcnt (fun u => ¬ Lk C (44 + 8 * jx) (45 + 8 * jx) 17 18 (cF C jx + u)) i + 1))), (4, .int (nI (cF C jx + i + 1)))]) rfl ?_
          refine z_lvc (lv' := [(0, .ref (a 0)), (1, .int (nI (jx))), (2, .ref (a (30 + 4 * jx))), (3, .int (nI (zcnt (fun u => ¬ Lk C (44 + 8 * jx) (45 + 8 * jx) 17 18 (cF C jx + u)) (i + 1)))), (4, .int (nI (cF C jx + (i + 1))))]) (by first | (rw [zcnt_y (P := fun u => ¬ Lk C (44 + 8 * jx) (45 + 8 * jx) 17 18 (cF C jx + u)) zc39] <;> rfl) | (rw [← zcnt_n (P := fun u => ¬ Lk C (44 + 8 * jx) (45 + 8 * jx) 17 18 (cF C jx + u)) (not_not_intro zc39)] <;> rfl)) ?_
          exact ih14 (i + 1) (by omega) (by omega)
  refine z_loc [3, 4, 2, 1, 0] (lv' := [(0, .ref (a 0)), (1, .int (nI (jx))), (2, .ref (a (30 + 4 * jx))), (3, .int (nI (0))), (4, .int (nI (cF C jx)))]) rfl ?_
  refine z_lvc (lv' := [(0, .ref (a 0)), (1, .int (nI (jx))), (2, .ref (a (30 + 4 * jx))), (3, .int (nI (zcnt (fun u => ¬ Lk C (44 + 8 * jx) (45 + 8 * jx) 17 18 (cF C jx + u)) 0))), (4, .int (nI (cF C jx + 0)))]) (by rfl) ?_
  exact loop14 (cE C jx - cF C jx + 1) 0 (by omega) (by omega)
theorem fw_X6_burn_X0 : zF wsX6_burn RX0 TX0 11 := fun _ h => List.mem_cons_of_mem _ (List.mem_append_left _ (List.mem_append_left _ (List.mem_append_left _ (List.mem_append_right _ (h)))))
theorem fw_X6_burn_X6 : zF wsX6_burn RX6 TX6 6 := fun _ h => List.mem_cons_of_mem _ (List.mem_append_left _ (List.mem_append_left _ (List.mem_append_left _ (List.mem_append_left _ (List.mem_append_right _ (h))))))
set_option maxHeartbeats 4000000 in
set_option maxRecDepth 100000 in
theorem cc_X6_burn (l : Launch) (D : va_G) (g : zG) (a : Nat → Nat) (C : zMS) (m : Nat) (hst : l.stackTraces = false) (hI : CI C) (x : Int32) (y : Int32) : zThrI l yX6_burn wsX6_burn { frames := 7, cells := 3, slots := 18, locals := 103 } D (zT g) (wC g a C m) [.ref (a 0), .int (x), .int (y)] (fun r w' => r = nI (brK C (nN x) (nN y + 1 - nN x)) ∧ w' = wC g a (brN C (nN x) (nN y + 1 - nN x)) m ∧ (rng x (cP C)) ∧ (rng y (cP C)) ∧ (¬ nN y < nN x)) (fun E w' => w' = wC g a C m ∧ ((E = "java/lang/IndexOutOfBoundsException" ∧ ¬ (rng x (cP C))) ∨ (E = "java/lang/IndexOutOfBoundsException" ∧ (rng x (cP C)) ∧ ¬ (rng y (cP C))) ∨ (E = "java/lang/IllegalArgumentException" ∧ (rng x (cP C)) ∧ (rng y (cP C)) ∧ ¬ (¬ nN y < nN x)))) 3 18 := by
  refine zThrI_of (cc := cX6_burn) (maxL := 5) (ret := (some .int)) (own := RX6) [(0, .ref (a 0)), (1, .int (x)), (2, .int (y))] (by decide) rfl rfl rfl (Nat.le_of_ble_eq_true rfl) ?_
  intro X A hAe hl B hr hin htab hT
  obtain ⟨b19, b3, b6, b20, b22, b27, b0⟩ := CI_bs hI
  refine z_aload_n B 0 dX6_burn_0 rfl rfl ?_
  refine z_iload_n B 1 dX6_burn_1 rfl rfl ?_
  refine z_callTV (As := [.int (x)]) (st := []) (C := RX6) (T := TX6) (N := 6) (ci := 6) (l := l) B hAe hT htab hl (cc_X6_needPage l D g a C m hst hI x) gX6_burn_X6_needPage rfl ⟨rfl, rfl⟩ nm_X6_needPage ⟨by decide, by decide⟩ 0 rfl rfl rfl (Nat.le_of_ble_eq_true rfl) dX6_burn_2 rfl rfl (by decide) (by decide) (by decide) (by decide) (fun E w' h => by exact ⟨h.1, (Or.inl (⟨h.2.1, h.2.2⟩))⟩) (fun w1 hrr => ?_)
  obtain ⟨rfl, hp2⟩ := hrr
  have khp2 := hp2
  obtain ⟨jx, hjx, rfl⟩ := hp2
  have ejx : nN (nI jx) = jx := nN_nI (by omega)
  refine z_aload_n B 0 dX6_burn_5 rfl rfl ?_
  refine z_iload_n B 2 dX6_burn_6 rfl rfl ?_
  refine z_callTV (As := [.int (y)]) (st := []) (C := RX6) (T := TX6) (N := 6) (ci := 6) (l := l) B hAe hT htab hl (cc_X6_needPage l D g a C m hst hI y) gX6_burn_X6_needPage rfl ⟨rfl, rfl⟩ nm_X6_needPage ⟨by decide, by decide⟩ 0 rfl rfl rfl (Nat.le_of_ble_eq_true rfl) dX6_burn_7 rfl rfl (by decide) (by decide) (by decide) (by decide) (fun E w' h => by (try rw [ejx]); exact ⟨h.1, (Or.inr (Or.inl (⟨h.2.1, khp2, h.2.2⟩)))⟩) (fun w1 hrr => ?_)
  obtain ⟨rfl, hp7⟩ := hrr
  have khp7 := hp7
  obtain ⟨jy, hjy, rfl⟩ := hp7
  have ejy : nN (nI jy) = jy := nN_nI (by omega)
  refine z_iload_n B 2 dX6_burn_10 rfl rfl ?_
  refine z_iload_n B 1 dX6_burn_11 rfl rfl ?_
  refine z_icmpN_ge B 25 dX6_burn_12 (by decide) (by omega) (by omega) (fun zc12 => ?_) (fun zc12 => ?_)
  · refine z_iconst (v := nI 0) B dX6_burn_25 (by decide) ?_
    refine z_istore_n (lv1 := [(3, .int (nI (0))), (0, .ref (a 0)), (1, .int (nI (jx))), (2, .int (nI (jy)))]) B dX6_burn_26 rfl (by decide) rfl ?_
    refine z_iload_n B 2 dX6_burn_27 rfl rfl ?_
    refine z_istore (lv1 := [(4, .int (nI (jx))), (3, .int (nI (0))), (0, .ref (a 0)), (1, .int (nI (jx))), (2, .int (nI (jy)))]) B dX6_burn_28 (by decide) rfl ?_
    have loop30 : ∀ (n0 i : Nat), i ≤ jy + 1 - jx → jy + 1 - jx + 1 ≤ i + n0 → zJ X 5 (zI1 D A (zs X)) (zQx X (va_Qi (fun r w' => r = nI (brK C (nN (nI (jx))) (nN (nI (jy)) + 1 - nN (nI (jx)))) ∧ w' = wC g a (brN C (nN (nI (jx))) (nN (nI (jy)) + 1 - nN (nI (jx)))) m ∧ (rng (nI (jx)) (cP C)) ∧ (rng (nI (jy)) (cP C)) ∧ (¬ nN (nI (jy)) < nN (nI (jx)))) (zEnd D (zT g) (wC g a C m) (zs X).heap.size) A) (zXC D (zT g) (wC g a C m) (zs X).heap.size (fun E w' => w' = wC g a C m ∧ ((E = "java/lang/IndexOutOfBoundsException" ∧ ¬ (rng (nI (jx)) (cP C))) ∨ (E = "java/lang/IndexOutOfBoundsException" ∧ (rng (nI (jx)) (cP C)) ∧ ¬ (rng (nI (jy)) (cP C))) ∨ (E = "java/lang/IllegalArgumentException" ∧ (rng (nI (jx)) (cP C)) ∧ (rng (nI (jy)) (cP C)) ∧ ¬ (¬ nN (nI (jy)) < nN (nI (jx))))))) 3 18 A) (wC g a (brN C jx i) m) 2 12 [(0, .ref (a 0)), (1, .int (nI (jx))), (2, .int (nI (jy))), (3, .int (nI (brK C jx i))), (4, .int (nI (jx + i)))] 30 [] := by
      intro n30
      induction n30 with
      | zero => intro i h1 h2; exact absurd h2 (by omega)
      | succ n30 ih30 =>
        intro i hle30 hn30
        refine z_iload B 4 dX6_burn_30 rfl ?_
        refine z_iload_n B 2 dX6_burn_32 rfl rfl ?_
        refine z_icmpN_gt B 60 dX6_burn_33 (by decide) (by omega) (by omega) (fun zc33 => ?_) (fun zc33 => ?_)
        · obtain rfl : i = jy + 1 - jx := by omega
          refine z_iload_n B 3 dX6_burn_60 rfl rfl ?_
          exact z_xr (z_mret B hAe hr dX6_burn_61 rfl (by decide) (by decide) (by try rw [ejx]; try rw [ejy]; exact ⟨(by exact rfl), rfl, khp2, khp7, (by omega)⟩))
        · refine z_aload_n B 0 dX6_burn_36 rfl rfl ?_
          refine z_get (C := RX6) (T := TX6) (N := 6) (v := .ref (a 3)) B 0 2 3 fw_X6_burn_X6 rfl rfl (by decide) rfl rfl rfl dX6_burn_37 ?_
          refine z_get (C := RX0) (T := TX0) (N := 11) (v := .ref (a 19)) B 3 9 4 fw_X6_burn_X0 rfl rfl (by decide) rfl rfl rfl dX6_burn_40 ?_
          refine z_iload B 4 dX6_burn_43 rfl ?_
          refine z_callM (As := [.int (nI (jx + i))]) (st := []) (C := RX4) (T := TX4) (N := 2) (ci := 4) (l := l) B hl (cc_X4_blank_N l D g a (brN C jx i) m (CI_brN hI i) (jx + i) (by omega)) gX6_burn_X4_blank rfl ⟨rfl, rfl⟩ nm_X4_blank ⟨by decide, by decide⟩ 19 rfl rfl rfl (Nat.le_of_ble_eq_true rfl) dX6_burn_45 rfl rfl (by decide) (by decide) (fun r w1 hr => ?_)
          obtain ⟨rfl, rfl⟩ := hr
          refine z_if_eq B 54 dX6_burn_48 (by decide) (fun zc48 => ?_) (fun zc48 => ?_)
          · refine z_iinc B 4 (lv1 := [(4, .int (nI (jx + i + 1))), (0, .ref (a 0)), (1, .int (nI (jx))), (2, .int (nI (jy))), (3, .int (nI (brK C jx i)))]) dX6_burn_54 rfl (nI_1 _) (by decide) rfl ?_
            refine z_goto B 30 dX6_burn_57 (by decide) ?_
            refine z_loc [1, 2, 3, 4, 0] (lv' := [(0, .ref (a 0)), (1, .int (nI (jx))), (2, .int (nI (jy))), (3, .int (nI (brK C jx i))), (4, .int (nI (jx + i + 1)))]) rfl ?_
            refine z_lvc (lv' := [(0, .ref (a 0)), (1, .int (nI (jx))), (2, .int (nI (jy))), (3, .int (nI (brK C jx (i + 1)))), (4, .int (nI (jx + (i + 1))))]) (by first | (rw [brK_y zc48] <;> rfl) | (rw [← brK_n zc48] <;> rfl)) ?_
            refine z_w (w' := wC g a (brN C jx (i + 1)) m) (by rfl) ?_
            exact ih30 (i + 1) (by omega) (by omega)
          · refine z_iinc B 3 (lv1 := [(3, .int (nI (brK C jx i + 1))), (0, .ref (a 0)), (1, .int (nI (jx))), (2, .int (nI (jy))), (4, .int (nI (jx + i)))]) dX6_burn_51 rfl (nI_1 _) (by decide) rfl ?_
            refine z_iinc B 4 (lv1 := [(4, .int (nI (jx + i + 1))), (3, .int (nI (brK C jx i + 1))), (0, .ref (a 0)), (1, .int (nI (jx))), (2, .int (nI (jy)))]) dX6_burn_54 rfl (nI_1 _) (by decide) rfl ?_
            refine z_goto B 30 dX6_burn_57 (by decide) ?_
            refine z_loc [2, 3, 4, 1, 0] (lv' := [(0, .ref (a 0)), (1, .int (nI (jx))), (2, .int (nI (jy))), (3, .int (nI (brK C jx i + 1))), (4, .int (nI (jx + i + 1)))]) rfl ?_
            refine z_lvc (lv' := [(0, .ref (a 0)), (1, .int (nI (jx))), (2, .int (nI (jy))), (3, .int (nI (brK C jx (i + 1)))), (4, .int (nI (jx + (i + 1))))]) (by first | (rw [brK_y zc48] <;> rfl) | (rw [← brK_n zc48] <;> rfl)) ?_
            refine z_w (w' := wC g a (brN C jx (i + 1)) m) (by rfl) ?_
            exact ih30 (i + 1) (by omega) (by omega)
    refine z_loc [2, 3, 4, 1, 0] (lv' := [(0, .ref (a 0)), (1, .int (nI (jx))), (2, .int (nI (jy))), (3, .int (nI (0))), (4, .int (nI (jx)))]) rfl ?_
    refine z_lvc (lv' := [(0, .ref (a 0)), (1, .int (nI (jx))), (2, .int (nI (jy))), (3, .int (nI (brK C jx 0))), (4, .int (nI (jx + 0)))]) (by rfl) ?_
    refine z_w (w' := wC g a (brN C jx 0) m) (by rfl) ?_
    exact loop30 (jy + 1 - jx + 1) 0 (by omega) (by omega)
  · have hng : ¬ (¬ nN (nI (jy)) < nN (nI (jx))) := by rw [ejx, ejy]; exact not_not_intro (by omega)
    refine z_throwS (B := B) (text := "the last page is ahead of the first one") hAe hT (by rw [hl]; exact hst) htab (by decide) (by decide) (List.mem_of_getElem? (i := 1) rfl) (List.mem_of_getElem? (i := 2) rfl) (fun _ h => List.mem_cons_of_mem _ (List.mem_append_left _ (List.mem_append_right _ (h)))) zngA zgdA (by decide) dX6_burn_15 dX6_burn_18 dX6_burn_19 dX6_burn_21 dX6_burn_24 (by decide) (Nat.le_of_ble_eq_true rfl) (by decide) (by decide) (by decide) (by decide) ?_
    try rw [ejx] at hng
    try rw [ejx]
    try rw [ejy] at hng
    try rw [ejy]
    exact ⟨rfl, (Or.inr (Or.inr (⟨rfl, khp2, khp7, hng⟩)))⟩
