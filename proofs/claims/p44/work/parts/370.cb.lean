section ZQ
variable {X : zX} {own : String} {cc : ByteArray} {nL : Nat} {Ts : List Cond} {rm : Room} {D : va_G} {tys : List (ClassId × FieldType)} {I : zII} {Q : State → Prop} {w : va_W} {k n : Nat} {lv lv' : List (Nat × Value)} {pc : Nat} {st : List Value}
theorem z_astoreQ (B : zB X own cc nL Ts rm D tys I) {i : Nat} {r : Option Nat} (lv1 : List (Nat × Value)) (hdg : decode cc pc = .ok (.astore i, 2)) (hn : i < nL) (hl : (i, va_rf r) :: lv.filter (fun q => !(q.1 == i) && !(q.1 + 1 == i && q.2.category == 2)) = lv1) (kk : zJ X nL I Q w k n lv1 (pc + 2) st) : zJ X nL I Q w k n lv pc (va_rf r :: st) := by
  cases r with
  | none => exact z_astoreN B lv1 hdg hn hl kk
  | some v => exact z_astore B lv1 hdg hn hl kk
end ZQ
theorem fw_X6_restore_X1 : zF wsX6_restore RX1 TX1 5 := fun _ h => List.mem_cons_of_mem _ (List.mem_append_left _ (List.mem_append_left _ (List.mem_append_left _ (List.mem_append_left _ (List.mem_append_left _ (List.mem_append_right _ (h)))))))
theorem fw_X6_restore_X6 : zF wsX6_restore RX6 TX6 6 := fun _ h => List.mem_cons_of_mem _ (List.mem_append_left _ (List.mem_append_left _ (List.mem_append_left _ (List.mem_append_left _ (List.mem_append_left _ (List.mem_append_left _ (List.mem_append_right _ (h))))))))
set_option maxHeartbeats 4000000 in
set_option maxRecDepth 100000 in
theorem cc_X6_restore (l : Launch) (D : va_G) (g : zG) (a : Nat → Nat) (C : zMS) (m : Nat) (hst : l.stackTraces = false) (hI : CI C) (hm : 4 * cM C ≤ m) (hJ : CJ C) (x : Int32) : zThrI l yX6_restore wsX6_restore { frames := 7, cells := 2, slots := 12, locals := 104 } D (zT g) (wC g a C m) [.ref (a 0), .int (x)] (fun r w' => r = nI (gbB (chN (cBs C) (nN x)) C) ∧ w' = wC g a (gbA (chN (cBs C) (nN x)) C) m ∧ (cCx C x) ∧ (cWh C (nN x))) (fun E w' => w' = wC g a C m ∧ ((E = "java/lang/IndexOutOfBoundsException" ∧ ¬ (cCx C x)) ∨ (E = "java/lang/IllegalStateException" ∧ (cCx C x) ∧ ¬ (cWh C (nN x))))) 2 12 := by
  refine zThrI_of (cc := cX6_restore) (maxL := 5) (ret := (some .int)) (own := RX6) [(0, .ref (a 0)), (1, .int (x))] (by decide) rfl rfl rfl (Nat.le_of_ble_eq_true rfl) ?_
  intro X A hAe hl B hr hin htab hT
  obtain ⟨b19, b3, b6, b20, b22, b27, b0⟩ := CI_bs hI
  refine z_aload_n B 0 dX6_restore_0 rfl rfl ?_
  refine z_iload_n B 1 dX6_restore_1 rfl rfl ?_
  refine z_callTQ (As := [.int (x)]) (st := []) (C := RX6) (T := TX6) (N := 6) (ci := 6) (l := l) B hAe hT htab hl (cc_X6_needCopy l D g a C m hst hI x) gX6_restore_X6_needCopy rfl ⟨rfl, rfl⟩ nm_X6_needCopy ⟨by decide, by decide⟩ 0 rfl rfl rfl (Nat.le_of_ble_eq_true rfl) dX6_restore_2 rfl rfl (by decide) (by decide) (by decide) (by decide) (fun E w' h => by exact ⟨h.1, (Or.inl (⟨h.2.1, h.2.2⟩))⟩) (fun r w1 hrr => ?_)
  obtain ⟨rfl, jx, rfl, hjx, h1jx, rfl⟩ := hrr
  have ejx : nN (nI jx) = jx := nN_nI (by omega)
  have khp2 : cCx C (nI jx) := ⟨jx, rfl, hjx, h1jx⟩
  refine z_topv (y := .ref (a (30 + 4 * jx))) rfl ?_
  refine z_astore_n (lv1 := [(2, .ref (a (30 + 4 * jx))), (0, .ref (a 0)), (1, .int (nI (jx)))]) B dX6_restore_5 rfl (by decide) rfl ?_
  refine z_aload_n B 0 dX6_restore_6 rfl rfl ?_
  refine z_callP (As := []) (st := []) (C := RX1) (T := TX1) (N := 5) (ci := 1) (l := l) B hl (cc_X1_isChainInVault l D g a C m hI hm hJ jx hjx) gX6_restore_X1_isChainInVault rfl ⟨rfl, rfl⟩ nm_X1_isChainInVault ⟨by decide, by decide⟩ (fun _ h => h) (30 + 4 * jx) (wC_c0 (by omega)) rfl rfl (Nat.le_of_ble_eq_true rfl) dX6_restore_7 (by decide) (by decide) (fun r hr => ?_)
  subst hr
  refine z_ifB_ne B 23 dX6_restore_10 (by decide) (fun zc10 => ?_) (fun zc10 => ?_)
  · obtain ⟨L0, hL0, hL1⟩ := hJ.1 jx hjx
    refine z_iconst (v := nI 0) B dX6_restore_23 (by decide) ?_
    refine z_istore_n (lv1 := [(3, .int (nI (0))), (2, .ref (a (30 + 4 * jx))), (0, .ref (a 0)), (1, .int (nI (jx)))]) B dX6_restore_24 rfl (by decide) rfl ?_
    refine z_aload_n B 1 dX6_restore_25 rfl rfl ?_
    refine z_astore (lv1 := [(4, .ref (a (30 + 4 * jx))), (3, .int (nI (0))), (2, .ref (a (30 + 4 * jx))), (0, .ref (a 0)), (1, .int (nI (jx)))]) B dX6_restore_26 (by decide) rfl ?_
    have loop28 : ∀ (L : List Nat) (C1 : zMS) (t : Nat), isCh (cM C) (cBs C) L → CI C1 → (∀ f, f ≠ 17 → f ≠ 18 → C1 f = C f) → gbA L C1 = gbA (jx :: L0) C → t + gbB L C1 = gbB (jx :: L0) C → zJ X 5 (zI1 D A (zs X)) (zQx X (va_Qi (fun r w' => r = nI (gbB (chN (cBs C) (nN (nI (jx)))) C) ∧ w' = wC g a (gbA (chN (cBs C) (nN (nI (jx)))) C) m ∧ (cCx C (nI (jx))) ∧ (cWh C (nN (nI (jx))))) (zEnd D (zT g) (wC g a C m) (zs X).heap.size) A) (zXC D (zT g) (wC g a C m) (zs X).heap.size (fun E w' => w' = wC g a C m ∧ ((E = "java/lang/IndexOutOfBoundsException" ∧ ¬ (cCx C (nI (jx)))) ∨ (E = "java/lang/IllegalStateException" ∧ (cCx C (nI (jx))) ∧ ¬ (cWh C (nN (nI (jx)))))))) 2 12 A) (wC g a C1 m) 1 6 [(0, .ref (a 0)), (1, .int (nI (jx))), (2, .ref (a (30 + 4 * jx))), (3, .int (nI (t))), (4, va_rf (bO a (hdI L)))] 28 [] := by
      intro L
      induction L with
      | nil =>
        intro C1 t hch hI1 hk1 hA1 hB1
        refine z_lvc (lv' := [(0, .ref (a 0)), (1, .int (nI (jx))), (2, .ref (a (30 + 4 * jx))), (3, .int (nI (t))), (4, .null)]) (by rw [show va_rf (bO a (hdI [])) = .null from bO_n rfl]) ?_
        refine z_aloadN B 4 dX6_restore_28 rfl ?_
        refine z_ifnullN B 55 dX6_restore_30 (by decide) ?_
        refine z_iload_n B 3 dX6_restore_55 rfl rfl ?_
        exact z_xr (z_mret B hAe hr dX6_restore_56 rfl (by decide) (by decide) (by try rw [ejx]; exact ⟨(by rw [hL0, ← hB1]; rfl), (by rw [hL0, ← hA1]; rfl), khp2, zc10⟩))
      | cons d L ih28 =>
        intro C1 t hch hI1 hk1 hA1 hB1
        obtain ⟨hd, hf, hch⟩ := hch
        refine z_lvc (lv' := [(0, .ref (a 0)), (1, .int (nI (jx))), (2, .ref (a (30 + 4 * jx))), (3, .int (nI (t))), (4, .ref (a (30 + 4 * d)))]) (by rw [show va_rf (bO a (hdI (d :: L))) = .ref (a (30 + 4 * d)) from bO_s (by omega)]) ?_
        refine z_aload B 4 dX6_restore_28 rfl ?_
        refine z_ifnull B dX6_restore_30 ?_
        refine z_iload_n B 3 dX6_restore_33 rfl rfl ?_
        refine z_aload B 4 dX6_restore_34 rfl ?_
        refine z_aload_n B 0 dX6_restore_36 rfl rfl ?_
        refine z_get (C := RX6) (T := TX6) (N := 6) (v := .ref (a 3)) B 0 2 3 fw_X6_restore_X6 rfl rfl (by decide) rfl rfl rfl dX6_restore_37 ?_
        refine z_callM (As := [.ref (a 3)]) (st := [.int (nI (t))]) (C := RX1) (T := TX1) (N := 5) (ci := 1) (l := l) B hl (cc_X1_giveBack l D g a C1 m hI1 (cM_cg (hk1 20 (by decide) (by decide)) hm) d (by unfold cM; rw [hk1 20 (by decide) (by decide)]; exact hd) (by unfold cF cE; rw [hk1 (41 + 8 * d) (by omega) (by omega), hk1 (42 + 8 * d) (by omega) (by omega)]; exact (hJ.2 _ hd).1)) gX6_restore_X1_giveBack rfl ⟨rfl, rfl⟩ nm_X1_giveBack ⟨by decide, by decide⟩ (30 + 4 * d) (wC_c0 (by omega)) rfl rfl (Nat.le_of_ble_eq_true rfl) dX6_restore_40 rfl rfl (by decide) (by decide) (fun r w1 hr => ?_)
        obtain ⟨rfl, rfl⟩ := hr
        refine z_iaddN B dX6_restore_43 ?_
        refine z_istore_n (lv1 := [(3, .int (nI (t + (gbK C1 d (cE C1 d - cF C1 d))))), (0, .ref (a 0)), (1, .int (nI (jx))), (2, .ref (a (30 + 4 * jx))), (4, .ref (a (30 + 4 * d)))]) B dX6_restore_44 rfl (by decide) rfl ?_
        refine z_aload B 4 dX6_restore_45 rfl ?_
        refine z_get (C := RX1) (T := TX1) (N := 5) (v := va_rf (bO a ((gbN C1 d (cE C1 d - cF C1 d)) (40 + 8 * d) 0))) B (30 + 4 * d) 1 4 fw_X6_restore_X1 (wC_c0 (by omega)) rfl (by decide) rfl rfl rfl dX6_restore_47 ?_
        refine z_astoreQ (lv1 := [(4, va_rf (bO a ((gbN C1 d (cE C1 d - cF C1 d)) (40 + 8 * d) 0))), (3, .int (nI (t + (gbK C1 d (cE C1 d - cF C1 d))))), (0, .ref (a 0)), (1, .int (nI (jx))), (2, .ref (a (30 + 4 * jx)))]) B dX6_restore_50 (by decide) rfl ?_
        refine z_goto B 28 dX6_restore_52 (by decide) ?_
        refine z_loc [2, 3, 4, 1, 0] (lv' := [(0, .ref (a 0)), (1, .int (nI (jx))), (2, .ref (a (30 + 4 * jx))), (3, .int (nI (t + (gbK C1 d (cE C1 d - cF C1 d))))), (4, va_rf (bO a ((gbN C1 d (cE C1 d - cF C1 d)) (40 + 8 * d) 0)))]) rfl ?_
        refine z_lvc (lv' := [(0, .ref (a 0)), (1, .int (nI (jx))), (2, .ref (a (30 + 4 * jx))), (3, .int (nI ((t + gbK C1 d (cE C1 d - cF C1 d))))), (4, va_rf (bO a (hdI L)))]) (by rw [show gbN C1 d (cE C1 d - cF C1 d) (40 + 8 * d) 0 = hdI L from (congrFun (gbN_k C1 d (by omega) _) 0).trans ((congrFun (hk1 (40 + 8 * d) (by omega) (by omega)) 0).trans hf)]) ?_
        exact ih28 (gbN C1 d (cE C1 d - cF C1 d)) (t + gbK C1 d (cE C1 d - cF C1 d)) hch (CI_gbN hI1 _) (fun f h1 h2 => (gbN_k C1 d ⟨h1, h2⟩ _).trans (hk1 f h1 h2)) (hA1) (by rw [← hB1]; exact Nat.add_assoc _ _ _)
    refine z_loc [3, 4, 2, 1, 0] (lv' := [(0, .ref (a 0)), (1, .int (nI (jx))), (2, .ref (a (30 + 4 * jx))), (3, .int (nI (0))), (4, .ref (a (30 + 4 * jx)))]) rfl ?_
    refine z_lvc (lv' := [(0, .ref (a 0)), (1, .int (nI (jx))), (2, .ref (a (30 + 4 * jx))), (3, .int (nI (0))), (4, va_rf (bO a (hdI (jx :: L0))))]) (by rw [show va_rf (bO a (hdI (jx :: L0))) = .ref (a (30 + 4 * jx)) from bO_s (by omega)]) ?_
    exact loop28 (jx :: L0) C 0 hL1 (hI) (fun f _ _ => rfl) (rfl) (Nat.zero_add _)
  · have hng : ¬ (cWh C (nN (nI (jx)))) := by rw [ejx]; exact zc10
    refine z_throwS (B := B) (text := "a copy of the chain lies outside") hAe hT (by rw [hl]; exact hst) htab (by decide) (by decide) (List.mem_of_getElem? (i := 1) rfl) (List.mem_of_getElem? (i := 2) rfl) (fun _ h => List.mem_cons_of_mem _ (List.mem_append_left _ (List.mem_append_right _ (h)))) zngS zgdS (by decide) dX6_restore_13 dX6_restore_16 dX6_restore_17 dX6_restore_19 dX6_restore_22 (by decide) (Nat.le_of_ble_eq_true rfl) (by decide) (by decide) (by decide) (by decide) ?_
    try rw [ejx] at hng
    try rw [ejx]
    exact ⟨rfl, (Or.inr (⟨rfl, khp2, hng⟩))⟩
