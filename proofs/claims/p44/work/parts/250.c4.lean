section ZQ
variable {X : zX} {own : String} {cc : ByteArray} {nL : Nat} {Ts : List Cond} {rm : Room} {D : va_G} {tys : List (ClassId × FieldType)} {I : zII} {Q : State → Prop} {w : va_W} {k n : Nat} {lv lv' : List (Nat × Value)} {pc : Nat} {st : List Value}
theorem z_astore_nQ (B : zB X own cc nL Ts rm D tys I) {c : Fin 4} {i : Nat} {r : Option Nat} (lv1 : List (Nat × Value)) (hdg : decode cc pc = .ok (.astore_n c, 1)) (hi : (c : Nat) = i) (hn : i < nL) (hl : (i, va_rf r) :: lv.filter (fun q => !(q.1 == i) && !(q.1 + 1 == i && q.2.category == 2)) = lv1) (kk : zJ X nL I Q w k n lv1 (pc + 1) st) : zJ X nL I Q w k n lv pc (va_rf r :: st) := by
  cases r with
  | none => exact z_astore_nN B lv1 hdg hi hn hl kk
  | some v => exact z_astore_n B lv1 hdg hi hn hl kk
end ZQ
theorem bvN_M {C : zMS} {j i : Nat} : cM (bvN C j i) = cM C := by unfold cM; rw [bvN_k C j (fun k => by omega) i]
theorem fw_X1_isChainInVault_X1 : zF wsX1_isChainInVault RX1 TX1 5 := fun _ h => List.mem_cons_of_mem _ (List.mem_append_right _ (h))
set_option maxHeartbeats 4000000 in
set_option maxRecDepth 100000 in
theorem cc_X1_isChainInVault (l : Launch) (D : va_G) (g : zG) (a : Nat → Nat) (C : zMS) (m : Nat) (hI : CI C) (hm : 4 * cM C ≤ m) (hJ : CJ C) (k : Nat) (hk : k < cM C) : zPure l yX1_isChainInVault wsX1_isChainInVault { frames := 0, cells := 0, slots := 0, locals := 0 } D (zT g) (wC g a C m) [.ref (a (30 + 4 * k))] (fun r => r = bI (cWh C k)) := by
  refine zPure_of (cc := cX1_isChainInVault) (maxL := 2) (ret := (some .boolean)) (own := RX1) [(0, .ref (a (30 + 4 * k)))] (by decide) rfl rfl rfl (Nat.le_of_ble_eq_true rfl) ?_
  intro X hl B hr
  obtain ⟨b19, b3, b6, b20, b22, b27, b0⟩ := CI_bs hI
  obtain ⟨L0, hL0, hL1⟩ := hJ.1 k hk
  refine z_aload_n B 0 dX1_isChainInVault_0 rfl rfl ?_
  refine z_astore_n (lv1 := [(1, .ref (a (30 + 4 * k))), (0, .ref (a (30 + 4 * k)))]) B dX1_isChainInVault_1 rfl (by decide) rfl ?_
  have loop2 : ∀ (L : List Nat), isCh (cM C) (cBs C) L → (cWh C k ↔ ∀ d, d ∈ L → ¬ C (43 + 8 * d) 0 = 0) → zJ X 2 (zI0 D (zs X)) (zQe X (vp_Si (fun r => r = bI (cWh C k))) 0 0 (fun _ => False)) (wC g a C m) 0 0 [(0, .ref (a (30 + 4 * k))), (1, va_rf (bO a (hdI L)))] 2 [] := by
    intro L
    induction L with
    | nil =>
      intro  hch hal
      refine z_lvc (lv' := [(0, .ref (a (30 + 4 * k))), (1, .null)]) (by rw [show va_rf (bO a (hdI [])) = .null from bO_n rfl]) ?_
      refine z_aload_nN B 1 dX1_isChainInVault_2 rfl rfl ?_
      refine z_ifnullN B 23 dX1_isChainInVault_3 (by decide) ?_
      refine z_iconst (v := nI 1) B dX1_isChainInVault_23 (by decide) ?_
      exact z_pret B hr dX1_isChainInVault_24 (nar_b (Or.inr rfl)) (by exact bI_1 (hal.mpr (fun x hx => nomatch hx)))
    | cons d L ih2 =>
      intro  hch hal
      obtain ⟨hd, hf, hch⟩ := hch
      refine z_lvc (lv' := [(0, .ref (a (30 + 4 * k))), (1, .ref (a (30 + 4 * d)))]) (by rw [show va_rf (bO a (hdI (d :: L))) = .ref (a (30 + 4 * d)) from bO_s (by omega)]) ?_
      refine z_aload_n B 1 dX1_isChainInVault_2 rfl rfl ?_
      refine z_ifnull B dX1_isChainInVault_3 ?_
      refine z_aload_n B 1 dX1_isChainInVault_6 rfl rfl ?_
      refine z_get (C := RX1) (T := TX1) (N := 5) (v := .int (C (43 + 8 * d) 0)) B (30 + 4 * d) 4 1 fw_X1_isChainInVault_X1 (wC_c0 (by omega)) rfl (by decide) rfl rfl rfl dX1_isChainInVault_7 ?_
      refine z_if_ne B 15 dX1_isChainInVault_10 (by decide) (fun zc10 => ?_) (fun zc10 => ?_)
      · refine z_aload_n B 1 dX1_isChainInVault_15 rfl rfl ?_
        refine z_get (C := RX1) (T := TX1) (N := 5) (v := va_rf (bO a (C (40 + 8 * d) 0))) B (30 + 4 * d) 1 2 fw_X1_isChainInVault_X1 (wC_c0 (by omega)) rfl (by decide) rfl rfl rfl dX1_isChainInVault_16 ?_
        refine z_astore_nQ (lv1 := [(1, va_rf (bO a (C (40 + 8 * d) 0))), (0, .ref (a (30 + 4 * k)))]) B dX1_isChainInVault_19 rfl (by decide) rfl ?_
        refine z_goto B 2 dX1_isChainInVault_20 (by decide) ?_
        refine z_loc [1, 0] (lv' := [(0, .ref (a (30 + 4 * k))), (1, va_rf (bO a (C (40 + 8 * d) 0)))]) rfl ?_
        refine z_lvc (lv' := [(0, .ref (a (30 + 4 * k))), (1, va_rf (bO a (hdI L)))]) (by rw [show C (40 + 8 * d) 0 = hdI L from hf]) ?_
        exact ih2  hch (hal.trans ⟨fun h x hx => h x (List.mem_cons_of_mem _ hx), fun h x hx => (List.mem_cons.mp hx).elim (fun e => e ▸ zc10) (h x)⟩)
      · refine z_iconst (v := nI 0) B dX1_isChainInVault_13 (by decide) ?_
        exact z_pret B hr dX1_isChainInVault_14 (nar_b (Or.inl rfl)) (by exact bI_z (fun h => hal.mp h d (List.mem_cons.mpr (Or.inl rfl)) zc10))
  refine z_loc [1, 0] (lv' := [(0, .ref (a (30 + 4 * k))), (1, .ref (a (30 + 4 * k)))]) rfl ?_
  refine z_lvc (lv' := [(0, .ref (a (30 + 4 * k))), (1, va_rf (bO a (hdI (k :: L0))))]) (by rw [show va_rf (bO a (hdI (k :: L0))) = .ref (a (30 + 4 * k)) from bO_s (by omega)]) ?_
  exact loop2 (k :: L0)  hL1 (by rw [cWh, hL0])
theorem fw_X1_blankStruck_X0 : zF wsX1_blankStruck RX0 TX0 11 := fun _ h => List.mem_cons_of_mem _ (List.mem_append_left _ (List.mem_append_right _ (h)))
theorem fw_X1_blankStruck_X1 : zF wsX1_blankStruck RX1 TX1 5 := fun _ h => List.mem_cons_of_mem _ (List.mem_append_left _ (List.mem_append_left _ (List.mem_append_right _ (h))))
set_option maxHeartbeats 4000000 in
set_option maxRecDepth 100000 in
theorem cc_X1_blankStruck (l : Launch) (D : va_G) (g : zG) (a : Nat → Nat) (C : zMS) (m : Nat) (hI : CI C) (hm : 4 * cM C ≤ m) (k : Nat) (hk : k < cM C) (hfe : cF C k ≤ cE C k) : zMutI l yX1_blankStruck wsX1_blankStruck { frames := 1, cells := 0, slots := 0, locals := 23 } D (zT g) (wC g a C m) [.ref (a (30 + 4 * k)), .ref (a 3)] (fun r w' => r = nI (bkK C k (cE C k - cF C k)) ∧ w' = wC g a (bkN C k (cE C k - cF C k)) m) 0 0 := by
  refine zMutI_of (cc := cX1_blankStruck) (maxL := 4) (ret := (some .int)) (own := RX1) [(0, .ref (a (30 + 4 * k))), (1, .ref (a 3))] (by decide) rfl rfl rfl (Nat.le_of_ble_eq_true rfl) ?_
  intro X A hAe hl B hr hin
  obtain ⟨b19, b3, b6, b20, b22, b27, b0⟩ := CI_bs hI
  generalize hQ : (zQe X (va_Qi (fun r w' => r = nI (bkK C k (cE C k - cF C k)) ∧ w' = wC g a (bkN C k (cE C k - cF C k)) m) (zEnd D (zT g) (wC g a C m) (zs X).heap.size) A) 0 0 A) = Q
  have bE := CI_b42 hI k
  have bF := CI_b41 hI k
  refine z_iconst (v := nI 0) B dX1_blankStruck_0 (by decide) ?_
  refine z_istore_n (lv1 := [(2, .int (nI (0))), (0, .ref (a (30 + 4 * k))), (1, .ref (a 3))]) B dX1_blankStruck_1 rfl (by decide) rfl ?_
  refine z_aload_n B 1 dX1_blankStruck_2 rfl rfl ?_
  refine z_get (C := RX1) (T := TX1) (N := 5) (v := .int (C (41 + 8 * k) 0)) B (30 + 4 * k) 2 1 fw_X1_blankStruck_X1 (wC_c0 (by omega)) rfl (by decide) rfl rfl rfl dX1_blankStruck_3 ?_
  refine z_top (y := nI (cF C k)) (CI_41 (C := C) hI k) ?_
  refine z_istore_n (lv1 := [(3, .int (nI (cF C k))), (2, .int (nI (0))), (0, .ref (a (30 + 4 * k))), (1, .ref (a 3))]) B dX1_blankStruck_6 rfl (by decide) rfl ?_
  have loop7 : ∀ (n0 i : Nat), i ≤ cE C k - cF C k → cE C k - cF C k + 1 ≤ i + n0 → zJ X 4 (zI1 D A (zs X)) Q (wC g a (bkN C k i) m) 0 0 [(0, .ref (a (30 + 4 * k))), (1, .ref (a 3)), (2, .int (nI (bkK C k i))), (3, .int (nI (cF C k + i)))] 7 [] := by
    intro n7
    induction n7 with
    | zero => intro i h1 h2; exact absurd h2 (by omega)
    | succ n7 ih7 =>
      intro i hle7 hn7
      refine z_iload_n B 3 dX1_blankStruck_7 rfl rfl ?_
      refine z_aload_n B 0 dX1_blankStruck_8 rfl rfl ?_
      refine z_get (C := RX1) (T := TX1) (N := 5) (v := .int ((bkN C k i) (42 + 8 * k) 0)) B (30 + 4 * k) 3 2 fw_X1_blankStruck_X1 (wC_c0 (by omega)) rfl (by decide) rfl rfl rfl dX1_blankStruck_9 ?_
      refine z_top (y := nI (cE C k)) ((congrFun (bkN_k C k (f := 42 + 8 * k) (by omega) i) 0).trans (CI_42 (C := C) hI k)) ?_
      refine z_icmpN_ge B 44 dX1_blankStruck_12 (by decide) (by omega) (by omega) (fun zc12 => ?_) (fun zc12 => ?_)
      · obtain rfl : i = cE C k - cF C k := by omega
        refine z_iload_n B 2 dX1_blankStruck_44 rfl rfl ?_
        subst hQ
        exact z_mret B hAe hr dX1_blankStruck_45 rfl (by decide) (by decide) (by exact ⟨rfl, rfl⟩)
      · refine z_aload_n B 1 dX1_blankStruck_15 rfl rfl ?_
        refine z_get (C := RX0) (T := TX0) (N := 11) (v := .ref (a 17)) B 3 7 3 fw_X1_blankStruck_X0 rfl rfl (by decide) rfl rfl rfl dX1_blankStruck_16 ?_
        refine z_iload_n B 3 dX1_blankStruck_19 rfl rfl ?_
        refine z_zald (g := ((bkN C k i) 14)) (i := cF C k + i) B 17 1 rfl rfl (by omega) (by decide) dX1_blankStruck_20 ?_
        refine z_top (y := C 14 (cF C k + i)) (congrFun (bkN_k C k (f := 14) (by omega) i) _) ?_
        refine z_if_eq B 38 dX1_blankStruck_21 (by decide) (fun zc21 => ?_) (fun zc21 => ?_)
        · refine z_iinc B 3 (lv1 := [(3, .int (nI (cF C k + i + 1))), (0, .ref (a (30 + 4 * k))), (1, .ref (a 3)), (2, .int (nI (bkK C k i)))]) dX1_blankStruck_38 rfl (nI_1 _) (by decide) rfl ?_
          refine z_goto B 7 dX1_blankStruck_41 (by decide) ?_
          refine z_loc [1, 2, 3, 0] (lv' := [(0, .ref (a (30 + 4 * k))), (1, .ref (a 3)), (2, .int (nI (bkK C k i))), (3, .int (nI (cF C k + i + 1)))]) rfl ?_
          refine z_lvc (lv' := [(0, .ref (a (30 + 4 * k))), (1, .ref (a 3)), (2, .int (nI (bkK C k (i + 1)))), (3, .int (nI (cF C k + (i + 1))))]) (by first | (rw [bkK_y ⟨zc21, zc32⟩] <;> rfl) | (rw [← bkK_n (fun h => h.1 zc21)] <;> rfl) | (rw [← bkK_n (fun h => h.2 zc32)] <;> rfl)) ?_
          refine z_w (w' := wC g a (bkN C k (i + 1)) m) (by first | rw [bkN_y zc21] | rw [← bkN_n zc21]) ?_
          exact ih7 (i + 1) (by omega) (by omega)
        · refine z_aload_n B 0 dX1_blankStruck_24 rfl rfl ?_
          refine z_get (C := RX1) (T := TX1) (N := 5) (v := .ref (a (31 + 4 * k))) B (30 + 4 * k) 0 4 fw_X1_blankStruck_X1 (wC_c0 (by omega)) rfl (by decide) rfl rfl rfl dX1_blankStruck_25 ?_
          refine z_iload_n B 3 dX1_blankStruck_28 rfl rfl ?_
          refine z_callM (As := [.int (nI (cF C k + i))]) (st := []) (C := RX4) (T := TX4) (N := 2) (ci := 4) (l := l) B hl (cc_X4_blank_K l D g a (bkN C k i) m (CI_bkN hI i) k (by omega) (cF C k + i) (by omega)) gX1_blankStruck_X4_blank rfl ⟨rfl, rfl⟩ nm_X4_blank ⟨by decide, by decide⟩ (31 + 4 * k) (wC_c1 (by omega)) rfl rfl (Nat.le_of_ble_eq_true rfl) dX1_blankStruck_29 rfl rfl (by decide) (by decide) (fun r w1 hr => ?_)
          obtain ⟨rfl, rfl⟩ := hr
          refine z_if_eq B 38 dX1_blankStruck_32 (by decide) (fun zc32 => ?_) (fun zc32 => ?_)
          · refine z_iinc B 3 (lv1 := [(3, .int (nI (cF C k + i + 1))), (0, .ref (a (30 + 4 * k))), (1, .ref (a 3)), (2, .int (nI (bkK C k i)))]) dX1_blankStruck_38 rfl (nI_1 _) (by decide) rfl ?_
            refine z_goto B 7 dX1_blankStruck_41 (by decide) ?_
            refine z_loc [1, 2, 3, 0] (lv' := [(0, .ref (a (30 + 4 * k))), (1, .ref (a 3)), (2, .int (nI (bkK C k i))), (3, .int (nI (cF C k + i + 1)))]) rfl ?_
            refine z_lvc (lv' := [(0, .ref (a (30 + 4 * k))), (1, .ref (a 3)), (2, .int (nI (bkK C k (i + 1)))), (3, .int (nI (cF C k + (i + 1))))]) (by first | (rw [bkK_y ⟨zc21, zc32⟩] <;> rfl) | (rw [← bkK_n (fun h => h.1 zc21)] <;> rfl) | (rw [← bkK_n (fun h => h.2 zc32)] <;> rfl)) ?_
            refine z_w (w' := wC g a (bkN C k (i + 1)) m) (by first | rw [bkN_y zc21] | rw [← bkN_n zc21]) ?_
            exact ih7 (i + 1) (by omega) (by omega)
          · refine z_iinc B 2 (lv1 := [(2, .int (nI (bkK C k i + 1))), (0, .ref (a (30 + 4 * k))), (1, .ref (a 3)), (3, .int (nI (cF C k + i)))]) dX1_blankStruck_35 rfl (nI_1 _) (by decide) rfl ?_
            refine z_iinc B 3 (lv1 := [(3, .int (nI (cF C k + i + 1))), (2, .int (nI (bkK C k i + 1))), (0, .ref (a (30 + 4 * k))), (1, .ref (a 3))]) dX1_blankStruck_38 rfl (nI_1 _) (by decide) rfl ?_
            refine z_goto B 7 dX1_blankStruck_41 (by decide) ?_
            refine z_loc [2, 3, 1, 0] (lv' := [(0, .ref (a (30 + 4 * k))), (1, .ref (a 3)), (2, .int (nI (bkK C k i + 1))), (3, .int (nI (cF C k + i + 1)))]) rfl ?_
            refine z_lvc (lv' := [(0, .ref (a (30 + 4 * k))), (1, .ref (a 3)), (2, .int (nI (bkK C k (i + 1)))), (3, .int (nI (cF C k + (i + 1))))]) (by first | (rw [bkK_y ⟨zc21, zc32⟩] <;> rfl) | (rw [← bkK_n (fun h => h.1 zc21)] <;> rfl) | (rw [← bkK_n (fun h => h.2 zc32)] <;> rfl)) ?_
            refine z_w (w' := wC g a (bkN C k (i + 1)) m) (by first | rw [bkN_y zc21] | rw [← bkN_n zc21]) ?_
            exact ih7 (i + 1) (by omega) (by omega)
  refine z_loc [2, 3, 1, 0] (lv' := [(0, .ref (a (30 + 4 * k))), (1, .ref (a 3)), (2, .int (nI (0))), (3, .int (nI (cF C k)))]) rfl ?_
  refine z_lvc (lv' := [(0, .ref (a (30 + 4 * k))), (1, .ref (a 3)), (2, .int (nI (bkK C k 0))), (3, .int (nI (cF C k + 0)))]) (by rfl) ?_
  refine z_w (w' := wC g a (bkN C k 0) m) (by rfl) ?_
  exact loop7 (cE C k - cF C k + 1) 0 (by omega) (by omega)
theorem fw_X1_giveBack_X0 : zF wsX1_giveBack RX0 TX0 11 := fun _ h => List.mem_cons_of_mem _ (List.mem_append_left _ (List.mem_append_right _ (h)))
theorem fw_X1_giveBack_X1 : zF wsX1_giveBack RX1 TX1 5 := fun _ h => List.mem_cons_of_mem _ (List.mem_append_left _ (List.mem_append_left _ (List.mem_append_right _ (h))))
set_option maxHeartbeats 4000000 in
set_option maxRecDepth 100000 in
theorem cc_X1_giveBack (l : Launch) (D : va_G) (g : zG) (a : Nat → Nat) (C : zMS) (m : Nat) (hI : CI C) (hm : 4 * cM C ≤ m) (k : Nat) (hk : k < cM C) (hfe : cF C k ≤ cE C k) : zMutI l yX1_giveBack wsX1_giveBack { frames := 3, cells := 0, slots := 0, locals := 67 } D (zT g) (wC g a C m) [.ref (a (30 + 4 * k)), .ref (a 3)] (fun r w' => r = nI (gbK C k (cE C k - cF C k)) ∧ w' = wC g a (gbN C k (cE C k - cF C k)) m) 0 0 := by
  refine zMutI_of (cc := cX1_giveBack) (maxL := 5) (ret := (some .int)) (own := RX1) [(0, .ref (a (30 + 4 * k))), (1, .ref (a 3))] (by decide) rfl rfl rfl (Nat.le_of_ble_eq_true rfl) ?_
  intro X A hAe hl B hr hin
  obtain ⟨b19, b3, b6, b20, b22, b27, b0⟩ := CI_bs hI
  generalize hQ : (zQe X (va_Qi (fun r w' => r = nI (gbK C k (cE C k - cF C k)) ∧ w' = wC g a (gbN C k (cE C k - cF C k)) m) (zEnd D (zT g) (wC g a C m) (zs X).heap.size) A) 0 0 A) = Q
  have bE := CI_b42 hI k
  have bF := CI_b41 hI k
  refine z_iconst (v := nI 0) B dX1_giveBack_0 (by decide) ?_
  refine z_istore_n (lv1 := [(2, .int (nI (0))), (0, .ref (a (30 + 4 * k))), (1, .ref (a 3))]) B dX1_giveBack_1 rfl (by decide) rfl ?_
  refine z_aload_n B 1 dX1_giveBack_2 rfl rfl ?_
  refine z_get (C := RX1) (T := TX1) (N := 5) (v := .int (C (41 + 8 * k) 0)) B (30 + 4 * k) 2 1 fw_X1_giveBack_X1 (wC_c0 (by omega)) rfl (by decide) rfl rfl rfl dX1_giveBack_3 ?_
  refine z_top (y := nI (cF C k)) (CI_41 (C := C) hI k) ?_
  refine z_istore_n (lv1 := [(3, .int (nI (cF C k))), (2, .int (nI (0))), (0, .ref (a (30 + 4 * k))), (1, .ref (a 3))]) B dX1_giveBack_6 rfl (by decide) rfl ?_
  have loop7 : ∀ (n0 i : Nat), i ≤ cE C k - cF C k → cE C k - cF C k + 1 ≤ i + n0 → zJ X 5 (zI1 D A (zs X)) Q (wC g a (gbN C k i) m) 0 0 [(0, .ref (a (30 + 4 * k))), (1, .ref (a 3)), (2, .int (nI (gbK C k i))), (3, .int (nI (cF C k + i)))] 7 [] := by
    intro n7
    induction n7 with
    | zero => intro i h1 h2; exact absurd h2 (by omega)
    | succ n7 ih7 =>
      intro i hle7 hn7
      have e14 : gbN C k i 14 (cF C k + i) = C 14 (cF C k + i) := congrFun (gbN_k C k (by decide) i) _
      refine z_iload_n B 3 dX1_giveBack_7 rfl rfl ?_
      refine z_aload_n B 0 dX1_giveBack_8 rfl rfl ?_
      refine z_get (C := RX1) (T := TX1) (N := 5) (v := .int ((gbN C k i) (42 + 8 * k) 0)) B (30 + 4 * k) 3 2 fw_X1_giveBack_X1 (wC_c0 (by omega)) rfl (by decide) rfl rfl rfl dX1_giveBack_9 ?_
      refine z_top (y := nI (cE C k)) ((congrFun (gbN_k C k (f := 42 + 8 * k) (by omega) i) 0).trans (CI_42 (C := C) hI k)) ?_
      refine z_icmpN_ge B 81 dX1_giveBack_12 (by decide) (by omega) (by omega) (fun zc12 => ?_) (fun zc12 => ?_)
      · obtain rfl : i = cE C k - cF C k := by omega
        refine z_iload_n B 2 dX1_giveBack_81 rfl rfl ?_
        subst hQ
        exact z_mret B hAe hr dX1_giveBack_82 rfl (by decide) (by decide) (by exact ⟨rfl, rfl⟩)
      · refine z_aload_n B 1 dX1_giveBack_15 rfl rfl ?_
        refine z_get (C := RX0) (T := TX0) (N := 11) (v := .ref (a 17)) B 3 7 3 fw_X1_giveBack_X0 rfl rfl (by decide) rfl rfl rfl dX1_giveBack_16 ?_
        refine z_iload_n B 3 dX1_giveBack_19 rfl rfl ?_
        refine z_zald (g := ((gbN C k i) 14)) (i := cF C k + i) B 17 1 rfl rfl (by omega) (by decide) dX1_giveBack_20 ?_
        refine z_top (y := C 14 (cF C k + i)) (congrFun (gbN_k C k (f := 14) (by omega) i) _) ?_
        refine z_if_ne B 40 dX1_giveBack_21 (by decide) (fun zc21 => ?_) (fun zc21 => ?_)
        · refine z_iconst (v := nI 0) B dX1_giveBack_40 (by decide) ?_
          refine z_istore (lv1 := [(4, .int (nI (0))), (0, .ref (a (30 + 4 * k))), (1, .ref (a 3)), (2, .int (nI (gbK C k i))), (3, .int (nI (cF C k + i)))]) B dX1_giveBack_41 (by decide) rfl ?_
          refine z_iload B 0 dX1_giveBack_43 rfl ?_
          refine z_if_eq B 75 dX1_giveBack_45 (by decide) (fun _ => ?_) (fun h => absurd h (by decide))
          refine z_iinc B 4 (lv1 := [(3, .int (nI (cF C k + i + 1))), (4, .int (nI (0))), (0, .ref (a (30 + 4 * k))), (1, .ref (a 3)), (2, .int (nI (gbK C k i)))]) dX1_giveBack_75 rfl (nI_1 _) (by decide) rfl ?_
          refine z_goto B 7 dX1_giveBack_78 (by decide) ?_
          refine z_loc [2, 3, 4, 0] (lv' := [(0, .ref (a (30 + 4 * k))), (1, .ref (a 3)), (2, .int (nI (gbK C k i))), (3, .int (nI (cF C k + i + 1)))]) rfl ?_
          refine z_lvc (lv' := [(0, .ref (a (30 + 4 * k))), (1, .ref (a 3)), (2, .int (nI (gbK C k (i + 1)))), (3, .int (nI (cF C k + (i + 1))))]) (by first | (rw [gbK_y ⟨e14.trans zc21, zc33, zc57⟩] <;> rfl) | (rw [← gbK_n (fun h => zc21 (e14.symm.trans h.1))] <;> rfl) | (rw [← gbK_n (fun h => h.2.1 zc33)] <;> rfl) | (rw [← gbK_n (fun h => zc57 h.2.2)] <;> rfl)) ?_
          refine z_w (w' := wC g a (gbN C k (i + 1)) m) (by first | rw [gbN_y ⟨e14.trans zc21, zc33, zc57⟩] | rw [← gbN_n (fun h => zc21 (e14.symm.trans h.1))] | rw [← gbN_n (fun h => h.2.1 zc33)] | rw [← gbN_n (fun h => zc57 h.2.2)]) ?_
          exact ih7 (i + 1) (by omega) (by omega)
        · refine z_aload_n B 1 dX1_giveBack_24 rfl rfl ?_
          refine z_aload_n B 1 dX1_giveBack_25 rfl rfl ?_
          refine z_get (C := RX0) (T := TX0) (N := 11) (v := .ref (a 19)) B 3 9 4 fw_X1_giveBack_X0 rfl rfl (by decide) rfl rfl rfl dX1_giveBack_26 ?_
          refine z_iload_n B 3 dX1_giveBack_29 rfl rfl ?_
          refine z_callP (As := [.ref (a 19), .int (nI (cF C k + i))]) (st := []) (C := RX0) (T := TX0) (N := 11) (ci := 0) (l := l) B hl (cc_X0_isTrueOn_N l D g a (gbN C k i) m (CI_gbN hI i) (cF C k + i) (by omega)) gX1_giveBack_X0_isTrueOn rfl ⟨rfl, rfl⟩ nm_X0_isTrueOn ⟨by decide, by decide⟩ (fun _ h => h) 3 rfl rfl rfl (Nat.le_of_ble_eq_true rfl) dX1_giveBack_30 (Nat.zero_le _) (Nat.zero_le _) (fun r hr => ?_)
          subst hr
          refine z_ifB_ne B 40 dX1_giveBack_33 (by decide) (fun zc33 => ?_) (fun zc33 => ?_)
          · refine z_iconst (v := nI 0) B dX1_giveBack_40 (by decide) ?_
            refine z_istore (lv1 := [(4, .int (nI (0))), (0, .ref (a (30 + 4 * k))), (1, .ref (a 3)), (2, .int (nI (gbK C k i))), (3, .int (nI (cF C k + i)))]) B dX1_giveBack_41 (by decide) rfl ?_
            refine z_iload B 0 dX1_giveBack_43 rfl ?_
            refine z_if_eq B 75 dX1_giveBack_45 (by decide) (fun _ => ?_) (fun h => absurd h (by decide))
            refine z_iinc B 4 (lv1 := [(3, .int (nI (cF C k + i + 1))), (4, .int (nI (0))), (0, .ref (a (30 + 4 * k))), (1, .ref (a 3)), (2, .int (nI (gbK C k i)))]) dX1_giveBack_75 rfl (nI_1 _) (by decide) rfl ?_
            refine z_goto B 7 dX1_giveBack_78 (by decide) ?_
            refine z_loc [2, 3, 4, 0] (lv' := [(0, .ref (a (30 + 4 * k))), (1, .ref (a 3)), (2, .int (nI (gbK C k i))), (3, .int (nI (cF C k + i + 1)))]) rfl ?_
            refine z_lvc (lv' := [(0, .ref (a (30 + 4 * k))), (1, .ref (a 3)), (2, .int (nI (gbK C k (i + 1)))), (3, .int (nI (cF C k + (i + 1))))]) (by first | (rw [gbK_y ⟨e14.trans zc21, zc33, zc57⟩] <;> rfl) | (rw [← gbK_n (fun h => zc21 (e14.symm.trans h.1))] <;> rfl) | (rw [← gbK_n (fun h => h.2.1 zc33)] <;> rfl) | (rw [← gbK_n (fun h => zc57 h.2.2)] <;> rfl)) ?_
            refine z_w (w' := wC g a (gbN C k (i + 1)) m) (by first | rw [gbN_y ⟨e14.trans zc21, zc33, zc57⟩] | rw [← gbN_n (fun h => zc21 (e14.symm.trans h.1))] | rw [← gbN_n (fun h => h.2.1 zc33)] | rw [← gbN_n (fun h => zc57 h.2.2)]) ?_
            exact ih7 (i + 1) (by omega) (by omega)
          · refine z_iconst (v := nI 1) B dX1_giveBack_36 (by decide) ?_
            refine z_goto B 41 dX1_giveBack_37 (by decide) ?_
            refine z_istore (lv1 := [(4, .int (nI (1))), (0, .ref (a (30 + 4 * k))), (1, .ref (a 3)), (2, .int (nI (gbK C k i))), (3, .int (nI (cF C k + i)))]) B dX1_giveBack_41 (by decide) rfl ?_
            refine z_iload B 0 dX1_giveBack_43 rfl ?_
            refine z_if_eq B 75 dX1_giveBack_45 (by decide) (fun h => absurd h (by decide)) (fun _ => ?_)
            refine z_aload_n B 2 dX1_giveBack_48 rfl rfl ?_
            refine z_aload_n B 1 dX1_giveBack_49 rfl rfl ?_
            refine z_get (C := RX1) (T := TX1) (N := 5) (v := .ref (a (31 + 4 * k))) B (30 + 4 * k) 0 5 fw_X1_giveBack_X1 (wC_c0 (by omega)) rfl (by decide) rfl rfl rfl dX1_giveBack_50 ?_
            refine z_iload_n B 4 dX1_giveBack_53 rfl rfl ?_
            refine z_callP (As := [.ref (a (31 + 4 * k)), .int (nI (cF C k + i))]) (st := []) (C := RX0) (T := TX0) (N := 11) (ci := 0) (l := l) B hl (cc_X0_isTrueOn_K l D g a (gbN C k i) m (CI_gbN hI i) k (by omega) (cF C k + i) (by omega)) gX1_giveBack_X0_isTrueOn rfl ⟨rfl, rfl⟩ nm_X0_isTrueOn ⟨by decide, by decide⟩ (fun _ h => h) 3 rfl rfl rfl (Nat.le_of_ble_eq_true rfl) dX1_giveBack_54 (Nat.zero_le _) (Nat.zero_le _) (fun r hr => ?_)
            subst hr
            refine z_ifB_eq B 75 dX1_giveBack_57 (by decide) (fun zc57 => ?_) (fun zc57 => ?_)
            · refine z_iinc B 4 (lv1 := [(3, .int (nI (cF C k + i + 1))), (4, .int (nI (1))), (0, .ref (a (30 + 4 * k))), (1, .ref (a 3)), (2, .int (nI (gbK C k i)))]) dX1_giveBack_75 rfl (nI_1 _) (by decide) rfl ?_
              refine z_goto B 7 dX1_giveBack_78 (by decide) ?_
              refine z_loc [2, 3, 4, 0] (lv' := [(0, .ref (a (30 + 4 * k))), (1, .ref (a 3)), (2, .int (nI (gbK C k i))), (3, .int (nI (cF C k + i + 1)))]) rfl ?_
              refine z_lvc (lv' := [(0, .ref (a (30 + 4 * k))), (1, .ref (a 3)), (2, .int (nI (gbK C k (i + 1)))), (3, .int (nI (cF C k + (i + 1))))]) (by first | (rw [gbK_y ⟨e14.trans zc21, zc33, zc57⟩] <;> rfl) | (rw [← gbK_n (fun h => zc21 (e14.symm.trans h.1))] <;> rfl) | (rw [← gbK_n (fun h => h.2.1 zc33)] <;> rfl) | (rw [← gbK_n (fun h => zc57 h.2.2)] <;> rfl)) ?_
              refine z_w (w' := wC g a (gbN C k (i + 1)) m) (by first | rw [gbN_y ⟨e14.trans zc21, zc33, zc57⟩] | rw [← gbN_n (fun h => zc21 (e14.symm.trans h.1))] | rw [← gbN_n (fun h => h.2.1 zc33)] | rw [← gbN_n (fun h => zc57 h.2.2)]) ?_
              exact ih7 (i + 1) (by omega) (by omega)
            · refine z_aload_n B 2 dX1_giveBack_60 rfl rfl ?_
              refine z_get (C := RX0) (T := TX0) (N := 11) (v := .ref (a 19)) B 3 9 4 fw_X1_giveBack_X0 rfl rfl (by decide) rfl rfl rfl dX1_giveBack_61 ?_
              refine z_aload_n B 1 dX1_giveBack_64 rfl rfl ?_
              refine z_get (C := RX1) (T := TX1) (N := 5) (v := .ref (a (31 + 4 * k))) B (30 + 4 * k) 0 5 fw_X1_giveBack_X1 (wC_c0 (by omega)) rfl (by decide) rfl rfl rfl dX1_giveBack_65 ?_
              refine z_iload_n B 4 dX1_giveBack_68 rfl rfl ?_
              refine z_callMV (As := [.ref (a (31 + 4 * k)), .int (nI (cF C k + i))]) (st := []) (C := RX4) (T := TX4) (N := 2) (ci := 4) (l := l) B hl (cc_X4_take_NK l D g a (gbN C k i) m (CI_gbN hI i) k (by omega) (cF C k + i) (by omega)) gX1_giveBack_X4_take rfl ⟨rfl, rfl⟩ nm_X4_take ⟨by decide, by decide⟩ 19 rfl rfl rfl (Nat.le_of_ble_eq_true rfl) dX1_giveBack_69 rfl rfl (by decide) (by decide) (fun w1 hr => ?_)
              subst hr
              refine z_iinc B 3 (lv1 := [(2, .int (nI (gbK C k i + 1))), (4, .int (nI (1))), (0, .ref (a (30 + 4 * k))), (1, .ref (a 3)), (3, .int (nI (cF C k + i)))]) dX1_giveBack_72 rfl (nI_1 _) (by decide) rfl ?_
              refine z_iinc B 4 (lv1 := [(3, .int (nI (cF C k + i + 1))), (2, .int (nI (gbK C k i + 1))), (4, .int (nI (1))), (0, .ref (a (30 + 4 * k))), (1, .ref (a 3))]) dX1_giveBack_75 rfl (nI_1 _) (by decide) rfl ?_
              refine z_goto B 7 dX1_giveBack_78 (by decide) ?_
              refine z_loc [3, 4, 1, 0] (lv' := [(0, .ref (a (30 + 4 * k))), (1, .ref (a 3)), (2, .int (nI (gbK C k i + 1))), (3, .int (nI (cF C k + i + 1)))]) rfl ?_
              refine z_lvc (lv' := [(0, .ref (a (30 + 4 * k))), (1, .ref (a 3)), (2, .int (nI (gbK C k (i + 1)))), (3, .int (nI (cF C k + (i + 1))))]) (by first | (rw [gbK_y ⟨e14.trans zc21, zc33, zc57⟩] <;> rfl) | (rw [← gbK_n (fun h => zc21 (e14.symm.trans h.1))] <;> rfl) | (rw [← gbK_n (fun h => h.2.1 zc33)] <;> rfl) | (rw [← gbK_n (fun h => zc57 h.2.2)] <;> rfl)) ?_
              refine z_w (w' := wC g a (gbN C k (i + 1)) m) (by first | rw [gbN_y ⟨e14.trans zc21, zc33, zc57⟩] | rw [← gbN_n (fun h => zc21 (e14.symm.trans h.1))] | rw [← gbN_n (fun h => h.2.1 zc33)] | rw [← gbN_n (fun h => zc57 h.2.2)]) ?_
              exact ih7 (i + 1) (by omega) (by omega)
  refine z_loc [2, 3, 1, 0] (lv' := [(0, .ref (a (30 + 4 * k))), (1, .ref (a 3)), (2, .int (nI (0))), (3, .int (nI (cF C k)))]) rfl ?_
  refine z_lvc (lv' := [(0, .ref (a (30 + 4 * k))), (1, .ref (a 3)), (2, .int (nI (gbK C k 0))), (3, .int (nI (cF C k + 0)))]) (by rfl) ?_
  refine z_w (w' := wC g a (gbN C k 0) m) (by rfl) ?_
  exact loop7 (cE C k - cF C k + 1) 0 (by omega) (by omega)
theorem fw_X5_isBase_X1 : zF wsX5_isBase RX1 TX1 5 := fun _ h => List.mem_cons_of_mem _ (List.mem_append_right _ (h))
theorem fw_X5_isBase_X5 : zF wsX5_isBase RX5 TX5 2 := fun _ h => List.mem_cons_of_mem _ (List.mem_append_left _ (List.mem_append_right _ (h)))
set_option maxHeartbeats 4000000 in
set_option maxRecDepth 100000 in
theorem cc_X5_isBase (l : Launch) (D : va_G) (g : zG) (a : Nat → Nat) (C : zMS) (m : Nat) (hI : CI C) (hm : 4 * cM C ≤ m) (hJ : CJ C) (hn : ∀ i j, i < 30 + m → j < 30 + m → a i = a j → i = j) (k : Nat) (hk : k < cM C) : zPure l yX5_isBase wsX5_isBase { frames := 0, cells := 0, slots := 0, locals := 0 } D (zT g) (wC g a C m) [.ref (a 4), .ref (a (30 + 4 * k))] (fun r => r = bI (cIsB C k)) := by
  refine zPure_of (cc := cX5_isBase) (maxL := 4) (ret := (some .boolean)) (own := RX5) [(0, .ref (a 4)), (1, .ref (a (30 + 4 * k)))] (by decide) rfl rfl rfl (Nat.le_of_ble_eq_true rfl) ?_
  intro X hl B hr
  obtain ⟨b19, b3, b6, b20, b22, b27, b0⟩ := CI_bs hI
  refine z_iconst (v := nI 0) B dX5_isBase_0 (by decide) ?_
  refine z_istore_n (lv1 := [(2, .int (nI (0))), (0, .ref (a 4)), (1, .ref (a (30 + 4 * k)))]) B dX5_isBase_1 rfl (by decide) rfl ?_
  have loop2 : ∀ (n0 i : Nat), i ≤ cM C → cM C + 1 ≤ i + n0 → (∀ j, j < i → ¬ (C 28 j = 1 ∧ C (40 + 8 * j) 0 = nI k)) → zJ X 4 (zI0 D (zs X)) (zQe X (vp_Si (fun r => r = bI (cIsB C k))) 0 0 (fun _ => False)) (wC g a C m) 0 0 [(0, .ref (a 4)), (1, .ref (a (30 + 4 * k))), (2, .int (nI (i)))] 2 [] := by
    intro n2
    induction n2 with
    | zero => intro i h1 h2; exact absurd h2 (by omega)
    | succ n2 ih2 =>
      intro i hle2 hn2 hal
      refine z_iload_n B 2 dX5_isBase_2 rfl rfl ?_
      refine z_aload_n B 0 dX5_isBase_3 rfl rfl ?_
      refine z_get (C := RX5) (T := TX5) (N := 2) (v := .int (C 20 0)) B 4 1 1 fw_X5_isBase_X5 rfl rfl (by decide) rfl rfl rfl dX5_isBase_4 ?_
      refine z_top (y := nI (cM C)) (CI_20 (C := C) hI) ?_
      refine z_icmpN_ge B 37 dX5_isBase_7 (by decide) (by omega) (by omega) (fun zc7 => ?_) (fun zc7 => ?_)
      · obtain rfl : i = cM C := by omega
        refine z_iconst (v := nI 0) B dX5_isBase_37 (by decide) ?_
        exact z_pret B hr dX5_isBase_38 (nar_b (Or.inl rfl)) (by exact bI_z (fun ⟨l, hl, h⟩ => hal l hl h))
      · refine z_aload_n B 0 dX5_isBase_10 rfl rfl ?_
        refine z_get (C := RX5) (T := TX5) (N := 2) (v := .ref (a 20)) B 4 0 2 fw_X5_isBase_X5 rfl rfl (by decide) rfl rfl rfl dX5_isBase_11 ?_
        refine z_iload_n B 2 dX5_isBase_14 rfl rfl ?_
        refine z_aldq (g := (wCo a (C 28))) (i := i) B 20 2 rfl rfl (by omega) (by decide) dX5_isBase_15 ?_
        by_cases zq15 : C 28 i = 1
        · refine z_topv (y := .ref (a (30 + 4 * i))) (wCo_1 zq15) ?_
          refine z_astore_n (lv1 := [(3, .ref (a (30 + 4 * i))), (0, .ref (a 4)), (1, .ref (a (30 + 4 * k))), (2, .int (nI (i)))]) B dX5_isBase_16 rfl (by decide) rfl ?_
          refine z_aload_n B 0 dX5_isBase_17 rfl rfl ?_
          refine z_ifnull B dX5_isBase_18 ?_
          refine z_aload_n B 0 dX5_isBase_21 rfl rfl ?_
          refine z_get (C := RX1) (T := TX1) (N := 5) (v := va_rf (bO a (C (40 + 8 * i) 0))) B (30 + 4 * i) 1 3 fw_X5_isBase_X1 (wC_c0 (by omega)) rfl (by decide) rfl rfl rfl dX5_isBase_22 ?_
          refine z_aload_n B 2 dX5_isBase_25 rfl rfl ?_
          refine z_acmp_ne B (bO a (C (40 + 8 * i) 0)) (some (a (30 + 4 * k))) rfl rfl 31 dX5_isBase_26 (by decide) (fun zc26 => ?_) (fun zc26 => ?_)
          · refine z_iinc B 3 (lv1 := [(2, .int (nI (i + 1))), (3, .ref (a (30 + 4 * i))), (0, .ref (a 4)), (1, .ref (a (30 + 4 * k)))]) dX5_isBase_31 rfl (nI_1 _) (by decide) rfl ?_
            refine z_goto B 2 dX5_isBase_34 (by decide) ?_
            refine z_loc [2, 3, 0] (lv' := [(0, .ref (a 4)), (1, .ref (a (30 + 4 * k))), (2, .int (nI (i + 1)))]) rfl ?_
            refine z_lvc (lv' := [(0, .ref (a 4)), (1, .ref (a (30 + 4 * k))), (2, .int (nI ((i + 1))))]) (by rfl) ?_
            exact ih2 (i + 1) (by omega) (by omega) (all_s.mpr ⟨hal, by first | exact fun h => zq15 h.1 | exact fun h => zc26 ((bO_iff hJ (by omega) hk b20 hm hn).mpr h.2)⟩)
          · refine z_iconst (v := nI 1) B dX5_isBase_29 (by decide) ?_
            exact z_pret B hr dX5_isBase_30 (nar_b (Or.inr rfl)) (by exact bI_1 ⟨i, by omega, zq15, (bO_iff hJ (by omega) hk b20 hm hn).mp zc26⟩)
        · refine z_topv (y := .null) (wCo_0 zq15) ?_
          refine z_astore_nN (lv1 := [(3, .null), (0, .ref (a 4)), (1, .ref (a (30 + 4 * k))), (2, .int (nI (i)))]) B dX5_isBase_16 rfl (by decide) rfl ?_
          refine z_aload_nN B 0 dX5_isBase_17 rfl rfl ?_
          refine z_ifnullN B 31 dX5_isBase_18 (by decide) ?_
          refine z_iinc B 3 (lv1 := [(2, .int (nI (i + 1))), (3, .null), (0, .ref (a 4)), (1, .ref (a (30 + 4 * k)))]) dX5_isBase_31 rfl (nI_1 _) (by decide) rfl ?_
          refine z_goto B 2 dX5_isBase_34 (by decide) ?_
          refine z_loc [2, 3, 0] (lv' := [(0, .ref (a 4)), (1, .ref (a (30 + 4 * k))), (2, .int (nI (i + 1)))]) rfl ?_
          refine z_lvc (lv' := [(0, .ref (a 4)), (1, .ref (a (30 + 4 * k))), (2, .int (nI ((i + 1))))]) (by rfl) ?_
          exact ih2 (i + 1) (by omega) (by omega) (all_s.mpr ⟨hal, by first | exact fun h => zq15 h.1 | exact fun h => zc26 ((bO_iff hJ (by omega) hk b20 hm hn).mpr h.2)⟩)
  refine z_loc [1, 2, 0] (lv' := [(0, .ref (a 4)), (1, .ref (a (30 + 4 * k))), (2, .int (nI (0)))]) rfl ?_
  exact loop2 (cM C + 1) 0 (by omega) (by omega) (fun l hl => absurd hl (Nat.not_lt_zero l))
theorem fw_X5_blankInVault_X1 : zF wsX5_blankInVault RX1 TX1 5 := fun _ h => List.mem_cons_of_mem _ (List.mem_append_left _ (List.mem_append_right _ (h)))
theorem fw_X5_blankInVault_X5 : zF wsX5_blankInVault RX5 TX5 2 := fun _ h => List.mem_cons_of_mem _ (List.mem_append_left _ (List.mem_append_left _ (List.mem_append_right _ (h))))
set_option maxHeartbeats 4000000 in
set_option maxRecDepth 100000 in
theorem cc_X5_blankInVault (l : Launch) (D : va_G) (g : zG) (a : Nat → Nat) (C : zMS) (m : Nat) (hI : CI C) (hm : 4 * cM C ≤ m) (j : Nat) (hj : j < 80) : zMutI l yX5_blankInVault wsX5_blankInVault { frames := 2, cells := 0, slots := 0, locals := 45 } D (zT g) (wC g a C m) [.ref (a 4), .int (nI (j))] (fun r w' => r = nI (cCF (bvN C j (cM C)) j) ∧ w' = wC g a (bvN C j (cM C)) m) 0 0 := by
  refine zMutI_of (cc := cX5_blankInVault) (maxL := 4) (ret := (some .int)) (own := RX5) [(0, .ref (a 4)), (1, .int (nI (j)))] (by decide) rfl rfl rfl (Nat.le_of_ble_eq_true rfl) ?_
  intro X A hAe hl B hr hin
  obtain ⟨b19, b3, b6, b20, b22, b27, b0⟩ := CI_bs hI
  generalize hQ : (zQe X (va_Qi (fun r w' => r = nI (cCF (bvN C j (cM C)) j) ∧ w' = wC g a (bvN C j (cM C)) m) (zEnd D (zT g) (wC g a C m) (zs X).heap.size) A) 0 0 A) = Q
  refine z_iconst (v := nI 0) B dX5_blankInVault_0 (by decide) ?_
  refine z_istore_n (lv1 := [(2, .int (nI (0))), (0, .ref (a 4)), (1, .int (nI (j)))]) B dX5_blankInVault_1 rfl (by decide) rfl ?_
  have loop2 : ∀ (n0 i : Nat), i ≤ cM C → cM C + 1 ≤ i + n0 → zJ X 4 (zI1 D A (zs X)) Q (wC g a (bvN C j i) m) 0 0 [(0, .ref (a 4)), (1, .int (nI (j))), (2, .int (nI (i)))] 2 [] := by
    intro n2
    induction n2 with
    | zero => intro i h1 h2; exact absurd h2 (by omega)
    | succ n2 ih2 =>
      intro i hle2 hn2
      have e28 : bvN C j i 28 i = C 28 i := congrFun (bvN_k C j (fun k => by omega) i) _
      refine z_iload_n B 2 dX5_blankInVault_2 rfl rfl ?_
      refine z_aload_n B 0 dX5_blankInVault_3 rfl rfl ?_
      refine z_get (C := RX5) (T := TX5) (N := 2) (v := .int ((bvN C j i) 20 0)) B 4 1 1 fw_X5_blankInVault_X5 rfl rfl (by decide) rfl rfl rfl dX5_blankInVault_4 ?_
      refine z_top (y := nI (cM C)) ((congrFun (bvN_k C j (f := 20) (fun k => by omega) i) 0).trans (CI_20 (C := C) hI)) ?_
      refine z_icmpN_ge B 43 dX5_blankInVault_7 (by decide) (by omega) (by omega) (fun zc7 => ?_) (fun zc7 => ?_)
      · obtain rfl : i = cM C := by omega
        refine z_aload_n B 0 dX5_blankInVault_43 rfl rfl ?_
        refine z_iload_n B 1 dX5_blankInVault_44 rfl rfl ?_
        refine z_callP (As := [.int (nI (j))]) (st := []) (C := RX5) (T := TX5) (N := 2) (ci := 5) (l := l) B hl (cc_X5_countFilled l D g a (bvN C j (cM C)) m (CI_bvN hI (cM C)) (by rw [bvN_M]; exact hm) j (by omega)) gX5_blankInVault_X5_countFilled rfl ⟨rfl, rfl⟩ nm_X5_countFilled ⟨by decide, by decide⟩ (fun _ h => h) 4 rfl rfl rfl (Nat.le_of_ble_eq_true rfl) dX5_blankInVault_45 (Nat.zero_le _) (Nat.zero_le _) (fun r hr => ?_)
        subst hr
        subst hQ
        exact z_mret B hAe hr dX5_blankInVault_48 rfl (by decide) (by decide) (by exact ⟨rfl, rfl⟩)
      · refine z_aload_n B 0 dX5_blankInVault_10 rfl rfl ?_
        refine z_get (C := RX5) (T := TX5) (N := 2) (v := .ref (a 20)) B 4 0 2 fw_X5_blankInVault_X5 rfl rfl (by decide) rfl rfl rfl dX5_blankInVault_11 ?_
        refine z_iload_n B 2 dX5_blankInVault_14 rfl rfl ?_
        refine z_aldq (g := (wCo a ((bvN C j i) 28))) (i := i) B 20 2 rfl rfl (by omega) (by decide) dX5_blankInVault_15 ?_
        by_cases zq15 : (bvN C j i) 28 i = 1
        · refine z_topv (y := .ref (a (30 + 4 * i))) (wCo_1 zq15) ?_
          refine z_astore_n (lv1 := [(3, .ref (a (30 + 4 * i))), (0, .ref (a 4)), (1, .int (nI (j))), (2, .int (nI (i)))]) B dX5_blankInVault_16 rfl (by decide) rfl ?_
          refine z_aload_n B 0 dX5_blankInVault_17 rfl rfl ?_
          refine z_ifnull B dX5_blankInVault_18 ?_
          refine z_aload_n B 0 dX5_blankInVault_21 rfl rfl ?_
          refine z_get (C := RX1) (T := TX1) (N := 5) (v := .int ((bvN C j i) (43 + 8 * i) 0)) B (30 + 4 * i) 4 3 fw_X5_blankInVault_X1 (wC_c0 (by omega)) rfl (by decide) rfl rfl rfl dX5_blankInVault_22 ?_
          refine z_top (y := C (43 + 8 * i) 0) (congrFun (bvN_k C j (f := 43 + 8 * i) (fun k => by omega) i) 0) ?_
          refine z_if_eq B 37 dX5_blankInVault_25 (by decide) (fun zc25 => ?_) (fun zc25 => ?_)
          · refine z_iinc B 3 (lv1 := [(2, .int (nI (i + 1))), (3, .ref (a (30 + 4 * i))), (0, .ref (a 4)), (1, .int (nI (j)))]) dX5_blankInVault_37 rfl (nI_1 _) (by decide) rfl ?_
            refine z_goto B 2 dX5_blankInVault_40 (by decide) ?_
            refine z_loc [2, 3, 0] (lv' := [(0, .ref (a 4)), (1, .int (nI (j))), (2, .int (nI (i + 1)))]) rfl ?_
            refine z_lvc (lv' := [(0, .ref (a 4)), (1, .int (nI (j))), (2, .int (nI ((i + 1))))]) (by rfl) ?_
            refine z_w (w' := wC g a (bvN C j (i + 1)) m) (by first | rw [bvN_y ⟨e28.symm.trans zq15, zc25⟩] | rw [← bvN_n (fun h => zq15 (e28.trans h.1))] | rw [← bvN_n (fun h => h.2 zc25)]) ?_
            exact ih2 (i + 1) (by omega) (by omega)
          · refine z_aload_n B 0 dX5_blankInVault_28 rfl rfl ?_
            refine z_get (C := RX1) (T := TX1) (N := 5) (v := .ref (a (31 + 4 * i))) B (30 + 4 * i) 0 4 fw_X5_blankInVault_X1 (wC_c0 (by omega)) rfl (by decide) rfl rfl rfl dX5_blankInVault_29 ?_
            refine z_iload_n B 2 dX5_blankInVault_32 rfl rfl ?_
            refine z_callM (As := [.int (nI (j))]) (st := []) (C := RX4) (T := TX4) (N := 2) (ci := 4) (l := l) B hl (cc_X4_blank_K l D g a (bvN C j i) m (CI_bvN hI i) i (by omega) j (by omega)) gX5_blankInVault_X4_blank rfl ⟨rfl, rfl⟩ nm_X4_blank ⟨by decide, by decide⟩ (31 + 4 * i) (wC_c1 (by omega)) rfl rfl (Nat.le_of_ble_eq_true rfl) dX5_blankInVault_33 rfl rfl (by decide) (by decide) (fun r w1 hr => ?_)
            obtain ⟨rfl, rfl⟩ := hr
            refine z_pop B dX5_blankInVault_36 rfl ?_
            refine z_iinc B 3 (lv1 := [(2, .int (nI (i + 1))), (3, .ref (a (30 + 4 * i))), (0, .ref (a 4)), (1, .int (nI (j)))]) dX5_blankInVault_37 rfl (nI_1 _) (by decide) rfl ?_
            refine z_goto B 2 dX5_blankInVault_40 (by decide) ?_
            refine z_loc [2, 3, 0] (lv' := [(0, .ref (a 4)), (1, .int (nI (j))), (2, .int (nI (i + 1)))]) rfl ?_
            refine z_lvc (lv' := [(0, .ref (a 4)), (1, .int (nI (j))), (2, .int (nI ((i + 1))))]) (by rfl) ?_
            refine z_w (w' := wC g a (bvN C j (i + 1)) m) (by first | rw [bvN_y ⟨e28.symm.trans zq15, zc25⟩] | rw [← bvN_n (fun h => zq15 (e28.trans h.1))] | rw [← bvN_n (fun h => h.2 zc25)]) ?_
            exact ih2 (i + 1) (by omega) (by omega)
        · refine z_topv (y := .null) (wCo_0 zq15) ?_
          refine z_astore_nN (lv1 := [(3, .null), (0, .ref (a 4)), (1, .int (nI (j))), (2, .int (nI (i)))]) B dX5_blankInVault_16 rfl (by decide) rfl ?_
          refine z_aload_nN B 0 dX5_blankInVault_17 rfl rfl ?_
          refine z_ifnullN B 37 dX5_blankInVault_18 (by decide) ?_
          refine z_iinc B 3 (lv1 := [(2, .int (nI (i + 1))), (3, .null), (0, .ref (a 4)), (1, .int (nI (j)))]) dX5_blankInVault_37 rfl (nI_1 _) (by decide) rfl ?_
          refine z_goto B 2 dX5_blankInVault_40 (by decide) ?_
          refine z_loc [2, 3, 0] (lv' := [(0, .ref (a 4)), (1, .int (nI (j))), (2, .int (nI (i + 1)))]) rfl ?_
          refine z_lvc (lv' := [(0, .ref (a 4)), (1, .int (nI (j))), (2, .int (nI ((i + 1))))]) (by rfl) ?_
          refine z_w (w' := wC g a (bvN C j (i + 1)) m) (by first | rw [bvN_y ⟨e28.symm.trans zq15, zc25⟩] | rw [← bvN_n (fun h => zq15 (e28.trans h.1))] | rw [← bvN_n (fun h => h.2 zc25)]) ?_
          exact ih2 (i + 1) (by omega) (by omega)
  refine z_loc [1, 2, 0] (lv' := [(0, .ref (a 4)), (1, .int (nI (j))), (2, .int (nI (0)))]) rfl ?_
  refine z_w (w' := wC g a (bvN C j 0) m) (by rfl) ?_
  exact loop2 (cM C + 1) 0 (by omega) (by omega)
