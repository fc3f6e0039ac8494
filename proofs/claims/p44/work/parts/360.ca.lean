theorem CI_43u {C : zMS} {k : Nat} {x : Int32} (h : CI C) (hx : x = 0 ∨ x = 1) : CI (up2 C (43 + 8 * k) 0 x) := by
  unfold CI cP cD cOp cM cK cH cT cL cHc cF cE at h ⊢
  obtain ⟨h1, h2, h3, h4, h5, h6, h7, h8, h9, h10, h11, h12, h13, h14, h15, h16, h17, h18, h19⟩ := h
  have e41 : ∀ i, up2 C (43 + 8 * k) 0 x (41 + 8 * i) = C (41 + 8 * i) := fun i => up2_k (by omega)
  have e42 : ∀ i, up2 C (43 + 8 * k) 0 x (42 + 8 * i) = C (42 + 8 * i) := fun i => up2_k (by omega)
  have e44 : ∀ i, up2 C (43 + 8 * k) 0 x (44 + 8 * i) = C (44 + 8 * i) := fun i => up2_k (by omega)
  rw [up2_k (show 19 ≠ 43 + 8 * k by omega), up2_k (show 3 ≠ 43 + 8 * k by omega), up2_k (show 6 ≠ 43 + 8 * k by omega), up2_k (show 20 ≠ 43 + 8 * k by omega), up2_k (show 22 ≠ 43 + 8 * k by omega), up2_k (show 27 ≠ 43 + 8 * k by omega), up2_k (show 0 ≠ 43 + 8 * k by omega), up2_k (show 10 ≠ 43 + 8 * k by omega), up2_k (show 23 ≠ 43 + 8 * k by omega), up2_k (show 13 ≠ 43 + 8 * k by omega), up2_k (show 14 ≠ 43 + 8 * k by omega), up2_k (show 15 ≠ 43 + 8 * k by omega), up2_k (show 17 ≠ 43 + 8 * k by omega), up2_k (show 21 ≠ 43 + 8 * k by omega), up2_k (show 28 ≠ 43 + 8 * k by omega)]
  simp only [e41, e42, e44]
  refine ⟨h1, h2, h3, h4, h5, h6, h7, h8, h9, h10, h11, h12, h13, h14, h15, h16, fun i => ?_, h18, h19⟩
  by_cases q : 43 + 8 * i = 43 + 8 * k
  · rw [q, up2_s]; exact hx
  · rw [up2_k q]; exact h17 i
def cvC (C : zMS) (k : Nat) : zMS := up2 C (43 + 8 * k) 0 (nI 1)
theorem cvk {C : zMS} {k : Nat} {x : Int32} (h : k < cM C) : k < cM (up2 C (43 + 8 * k) 0 x) := by
  unfold cM at *
  rw [up2_k (show 20 ≠ 43 + 8 * k by omega)]; exact h
theorem cvfe {C : zMS} {k : Nat} {x : Int32} (h : cF C k ≤ cE C k) : cF (up2 C (43 + 8 * k) 0 x) k ≤ cE (up2 C (43 + 8 * k) 0 x) k := by
  unfold cF cE at *
  rw [up2_k (show 41 + 8 * k ≠ 43 + 8 * k by omega), up2_k (show 42 + 8 * k ≠ 43 + 8 * k by omega)]; exact h
theorem fw_X6_carry_X1 : zF wsX6_carry RX1 TX1 5 := fun _ h => List.mem_cons_of_mem _ (List.mem_append_left _ (List.mem_append_left _ (List.mem_append_left _ (List.mem_append_left _ (List.mem_append_left _ (List.mem_append_right _ (h)))))))
set_option maxHeartbeats 4000000 in
set_option maxRecDepth 100000 in
theorem cc_X6_carry_0 (l : Launch) (D : va_G) (g : zG) (a : Nat → Nat) (C : zMS) (m : Nat) (hst : l.stackTraces = false) (hI : CI C) (hm : 4 * cM C ≤ m) (hJ : CJ C) (x : Int32) : zThrI l yX6_carry wsX6_carry { frames := 7, cells := 1, slots := 6, locals := 104 } D (zT g) (wC g a C m) [.ref (a 0), .int (x), .int (nI (0))] (fun r w' => r = nI (0) ∧ w' = wC g a (up2 C (43 + 8 * nN x) 0 (nI 0)) m ∧ (cCx C x)) (fun E w' => w' = wC g a C m ∧ (E = "java/lang/IndexOutOfBoundsException" ∧ ¬ (cCx C x))) 1 6 := by
  refine zThrI_of (cc := cX6_carry) (maxL := 4) (ret := (some .int)) (own := RX6) [(0, .ref (a 0)), (1, .int (x)), (2, .int (nI (0)))] (by decide) rfl rfl rfl (Nat.le_of_ble_eq_true rfl) ?_
  intro X A hAe hl B hr hin htab hT
  obtain ⟨b19, b3, b6, b20, b22, b27, b0⟩ := CI_bs hI
  refine z_aload_n B 0 dX6_carry_0 rfl rfl ?_
  refine z_iload_n B 1 dX6_carry_1 rfl rfl ?_
  refine z_callTQ (As := [.int (x)]) (st := []) (C := RX6) (T := TX6) (N := 6) (ci := 6) (l := l) B hAe hT htab hl (cc_X6_needCopy l D g a C m hst hI x) gX6_carry_X6_needCopy rfl ⟨rfl, rfl⟩ nm_X6_needCopy ⟨by decide, by decide⟩ 0 rfl rfl rfl (Nat.le_of_ble_eq_true rfl) dX6_carry_2 rfl rfl (by decide) (by decide) (by decide) (by decide) (fun E w' h => by exact ⟨h.1, (⟨h.2.1, h.2.2⟩)⟩) (fun r w1 hrr => ?_)
  obtain ⟨rfl, jx, rfl, hjx, h1jx, rfl⟩ := hrr
  have ejx : nN (nI jx) = jx := nN_nI (by omega)
  have khp2 : cCx C (nI jx) := ⟨jx, rfl, hjx, h1jx⟩
  refine z_topv (y := .ref (a (30 + 4 * jx))) rfl ?_
  refine z_astore_n (lv1 := [(3, .ref (a (30 + 4 * jx))), (0, .ref (a 0)), (1, .int (nI (jx))), (2, .int (nI (0)))]) B dX6_carry_5 rfl (by decide) rfl ?_
  refine z_aload_n B 0 dX6_carry_6 rfl rfl ?_
  refine z_iload_n B 3 dX6_carry_7 rfl rfl ?_
  refine z_put (C := RX1) (T := TX1) (N := 5) (w' := wC g a (up2 C (43 + 8 * jx) 0 (nI (0))) m) B (30 + 4 * jx) 4 1 fw_X6_carry_X1 tyX1 tyX1_ok nmX1 (wC_c0 (by omega)) rfl (by decide) rfl rfl rfl (nar_b (Or.inl rfl)) (fit_b (Or.inl rfl)) (Nat.le_of_ble_eq_true rfl) dX6_carry_8 (wC_s0 (by omega)) ?_
  refine z_iload_n B 3 dX6_carry_11 rfl rfl ?_
  refine z_if_eq B 26 dX6_carry_12 (by decide) (fun _ => ?_) (fun h => absurd h (by decide))
  refine z_iconst (v := nI 0) B dX6_carry_26 (by decide) ?_
  exact z_xr (z_mret B hAe hr dX6_carry_27 rfl (by decide) (by decide) (by try rw [ejx]; exact ⟨(by exact rfl), rfl, khp2⟩))
theorem fw_X6_carry_X6 : zF wsX6_carry RX6 TX6 6 := fun _ h => List.mem_cons_of_mem _ (List.mem_append_left _ (List.mem_append_left _ (List.mem_append_left _ (List.mem_append_left _ (List.mem_append_right _ (h))))))
set_option maxHeartbeats 4000000 in
set_option maxRecDepth 100000 in
theorem cc_X6_carry_1 (l : Launch) (D : va_G) (g : zG) (a : Nat → Nat) (C : zMS) (m : Nat) (hst : l.stackTraces = false) (hI : CI C) (hm : 4 * cM C ≤ m) (hJ : CJ C) (x : Int32) : zThrI l yX6_carry wsX6_carry { frames := 7, cells := 1, slots := 6, locals := 104 } D (zT g) (wC g a C m) [.ref (a 0), .int (x), .int (nI (1))] (fun r w' => r = nI (bkK (cvC C (nN x)) (nN x) (cE (cvC C (nN x)) (nN x) - cF (cvC C (nN x)) (nN x))) ∧ w' = wC g a (bkN (cvC C (nN x)) (nN x) (cE (cvC C (nN x)) (nN x) - cF (cvC C (nN x)) (nN x))) m ∧ (cCx C x)) (fun E w' => w' = wC g a C m ∧ (E = "java/lang/IndexOutOfBoundsException" ∧ ¬ (cCx C x))) 1 6 := by
  refine zThrI_of (cc := cX6_carry) (maxL := 4) (ret := (some .int)) (own := RX6) [(0, .ref (a 0)), (1, .int (x)), (2, .int (nI (1)))] (by decide) rfl rfl rfl (Nat.le_of_ble_eq_true rfl) ?_
  intro X A hAe hl B hr hin htab hT
  obtain ⟨b19, b3, b6, b20, b22, b27, b0⟩ := CI_bs hI
  refine z_aload_n B 0 dX6_carry_0 rfl rfl ?_
  refine z_iload_n B 1 dX6_carry_1 rfl rfl ?_
  refine z_callTQ (As := [.int (x)]) (st := []) (C := RX6) (T := TX6) (N := 6) (ci := 6) (l := l) B hAe hT htab hl (cc_X6_needCopy l D g a C m hst hI x) gX6_carry_X6_needCopy rfl ⟨rfl, rfl⟩ nm_X6_needCopy ⟨by decide, by decide⟩ 0 rfl rfl rfl (Nat.le_of_ble_eq_true rfl) dX6_carry_2 rfl rfl (by decide) (by decide) (by decide) (by decide) (fun E w' h => by exact ⟨h.1, (⟨h.2.1, h.2.2⟩)⟩) (fun r w1 hrr => ?_)
  obtain ⟨rfl, jx, rfl, hjx, h1jx, rfl⟩ := hrr
  have ejx : nN (nI jx) = jx := nN_nI (by omega)
  have khp2 : cCx C (nI jx) := ⟨jx, rfl, hjx, h1jx⟩
  refine z_topv (y := .ref (a (30 + 4 * jx))) rfl ?_
  refine z_astore_n (lv1 := [(3, .ref (a (30 + 4 * jx))), (0, .ref (a 0)), (1, .int (nI (jx))), (2, .int (nI (1)))]) B dX6_carry_5 rfl (by decide) rfl ?_
  refine z_aload_n B 0 dX6_carry_6 rfl rfl ?_
  refine z_iload_n B 3 dX6_carry_7 rfl rfl ?_
  refine z_put (C := RX1) (T := TX1) (N := 5) (w' := wC g a (up2 C (43 + 8 * jx) 0 (nI (1))) m) B (30 + 4 * jx) 4 1 fw_X6_carry_X1 tyX1 tyX1_ok nmX1 (wC_c0 (by omega)) rfl (by decide) rfl rfl rfl (nar_b (Or.inr rfl)) (fit_b (Or.inr rfl)) (Nat.le_of_ble_eq_true rfl) dX6_carry_8 (wC_s0 (by omega)) ?_
  refine z_iload_n B 3 dX6_carry_11 rfl rfl ?_
  refine z_if_eq B 26 dX6_carry_12 (by decide) (fun h => absurd h (by decide)) (fun _ => ?_)
  refine z_aload_n B 0 dX6_carry_15 rfl rfl ?_
  refine z_aload_n B 1 dX6_carry_16 rfl rfl ?_
  refine z_get (C := RX6) (T := TX6) (N := 6) (v := .ref (a 3)) B 0 2 2 fw_X6_carry_X6 rfl rfl (by decide) rfl rfl rfl dX6_carry_17 ?_
  refine z_callM (As := [.ref (a 3)]) (st := []) (C := RX1) (T := TX1) (N := 5) (ci := 1) (l := l) B hl (cc_X1_blankStruck l D g a (up2 C (43 + 8 * jx) 0 (nI (1))) m (CI_43u hI (Or.inr rfl)) (cM_cg (up2_k (by omega)) hm) jx (cvk hjx) (cvfe (hJ.2 _ hjx).1)) gX6_carry_X1_blankStruck rfl ⟨rfl, rfl⟩ nm_X1_blankStruck ⟨by decide, by decide⟩ (30 + 4 * jx) (wC_c0 (by omega)) rfl rfl (Nat.le_of_ble_eq_true rfl) dX6_carry_20 rfl rfl (by decide) (by decide) (fun r w1 hr => ?_)
  obtain ⟨rfl, rfl⟩ := hr
  refine z_goto B 27 dX6_carry_23 (by decide) ?_
  exact z_xr (z_mret B hAe hr dX6_carry_27 rfl (by decide) (by decide) (by try rw [ejx]; exact ⟨(by exact rfl), rfl, khp2⟩))
