theorem fw_X6_throwAway_X6 : zF wsX6_throwAway RX6 TX6 6 := fun _ h => List.mem_cons_of_mem _ (List.mem_append_left _ (List.mem_append_left _ (List.mem_append_left _ (List.mem_append_left _ (List.mem_append_left _ (List.mem_append_left _ (List.mem_append_left _ (List.mem_append_right _ (h)))))))))
set_option maxHeartbeats 4000000 in
set_option maxRecDepth 100000 in
theorem cc_X6_throwAway (l : Launch) (D : va_G) (g : zG) (a : Nat → Nat) (C : zMS) (m : Nat) (hst : l.stackTraces = false) (hI : CI C) (hm : 4 * cM C ≤ m) (hJ : CJ C) (hn : ∀ i j, i < 30 + m → j < 30 + m → a i = a j → i = j) (x : Int32) : zThrI l yX6_throwAway wsX6_throwAway { frames := 7, cells := 2, slots := 12, locals := 104 } D (zT g) (wC g a C m) [.ref (a 0), .int (x)] (fun r w' => r = nI (zcnt (fun k => up2 C 28 (nN x) (nI 0) 28 k = 1) (cM (up2 C 28 (nN x) (nI 0)))) ∧ w' = wC g a (up2 C 28 (nN x) (nI 0)) m ∧ (cCx C x) ∧ (¬ cIsB C (nN x) ∧ ¬ cAny C (nN x))) (fun E w' => w' = wC g a C m ∧ ((E = "java/lang/IndexOutOfBoundsException" ∧ ¬ (cCx C x)) ∨ (E = "java/lang/IllegalStateException" ∧ (cCx C x) ∧ ¬ (¬ cIsB C (nN x) ∧ ¬ cAny C (nN x))))) 2 12 := by
  refine zThrI_of (cc := cX6_throwAway) (maxL := 3) (ret := (some .int)) (own := RX6) [(0, .ref (a 0)), (1, .int (x))] (by decide) rfl rfl rfl (Nat.le_of_ble_eq_true rfl) ?_
  intro X A hAe hl B hr hin htab hT
  obtain ⟨b19, b3, b6, b20, b22, b27, b0⟩ := CI_bs hI
  refine z_aload_n B 0 dX6_throwAway_0 rfl rfl ?_
  refine z_iload_n B 1 dX6_throwAway_1 rfl rfl ?_
  refine z_callTQ (As := [.int (x)]) (st := []) (C := RX6) (T := TX6) (N := 6) (ci := 6) (l := l) B hAe hT htab hl (cc_X6_needCopy l D g a C m hst hI x) gX6_throwAway_X6_needCopy rfl ⟨rfl, rfl⟩ nm_X6_needCopy ⟨by decide, by decide⟩ 0 rfl rfl rfl (Nat.le_of_ble_eq_true rfl) dX6_throwAway_2 rfl rfl (by decide) (by decide) (by decide) (by decide) (fun E w' h => by exact ⟨h.1, (Or.inl (⟨h.2.1, h.2.2⟩))⟩) (fun r w1 hrr => ?_)
  obtain ⟨rfl, jx, rfl, hjx, h1jx, rfl⟩ := hrr
  have ejx : nN (nI jx) = jx := nN_nI (by omega)
  have khp2 : cCx C (nI jx) := ⟨jx, rfl, hjx, h1jx⟩
  refine z_topv (y := .ref (a (30 + 4 * jx))) rfl ?_
  refine z_astore_n (lv1 := [(2, .ref (a (30 + 4 * jx))), (0, .ref (a 0)), (1, .int (nI (jx)))]) B dX6_throwAway_5 rfl (by decide) rfl ?_
  refine z_aload_n B 1 dX6_throwAway_6 rfl rfl ?_
  refine z_get (C := RX6) (T := TX6) (N := 6) (v := .ref (a 4)) B 0 3 3 fw_X6_throwAway_X6 rfl rfl (by decide) rfl rfl rfl dX6_throwAway_7 ?_
  refine z_aload_n B 0 dX6_throwAway_10 rfl rfl ?_
  refine z_callP (As := [.ref (a (30 + 4 * jx))]) (st := []) (C := RX5) (T := TX5) (N := 2) (ci := 5) (l := l) B hl (cc_X5_isBase l D g a C m hI hm hJ hn jx hjx) gX6_throwAway_X5_isBase rfl ⟨rfl, rfl⟩ nm_X5_isBase ⟨by decide, by decide⟩ (fun _ h => h) 4 rfl rfl rfl (Nat.le_of_ble_eq_true rfl) dX6_throwAway_11 (by decide) (by decide) (fun r hr => ?_)
  subst hr
  refine z_ifB_ne B 32 dX6_throwAway_14 (by decide) (fun zc14 => ?_) (fun zc14 => ?_)
  · have hng : ¬ (¬ cIsB C (nN (nI (jx))) ∧ ¬ cAny C (nN (nI (jx)))) := by rw [ejx]; first | exact fun h => h.1 zc14 | exact fun h => h.2 zc29
    refine z_throwS (B := B) (text := "the copy is a base, or an open case holds a page of it") hAe hT (by rw [hl]; exact hst) htab (by decide) (by decide) (List.mem_of_getElem? (i := 1) rfl) (List.mem_of_getElem? (i := 2) rfl) (fun _ h => List.mem_cons_of_mem _ (List.mem_append_left _ (List.mem_append_right _ (h)))) zngS zgdS (by decide) dX6_throwAway_32 dX6_throwAway_35 dX6_throwAway_36 dX6_throwAway_38 dX6_throwAway_41 (by decide) (Nat.le_of_ble_eq_true rfl) (by decide) (by decide) (by decide) (by decide) ?_
    try rw [ejx] at hng
    try rw [ejx]
    exact ⟨rfl, (Or.inr (⟨rfl, khp2, hng⟩))⟩
  · refine z_aload_n B 1 dX6_throwAway_17 rfl rfl ?_
    refine z_get (C := RX6) (T := TX6) (N := 6) (v := .ref (a 5)) B 0 4 4 fw_X6_throwAway_X6 rfl rfl (by decide) rfl rfl rfl dX6_throwAway_18 ?_
    refine z_aload_n B 0 dX6_throwAway_21 rfl rfl ?_
    refine z_aload_n B 1 dX6_throwAway_22 rfl rfl ?_
    refine z_get (C := RX6) (T := TX6) (N := 6) (v := .ref (a 3)) B 0 2 5 fw_X6_throwAway_X6 rfl rfl (by decide) rfl rfl rfl dX6_throwAway_23 ?_
    refine z_callP (As := [.ref (a (30 + 4 * jx)), .ref (a 3)]) (st := []) (C := RX2) (T := TX2) (N := 7) (ci := 2) (l := l) B hl (cc_X2_holdsAnyIn l D g a C m hI hm jx hjx ((hJ.2 _ hjx).1)) gX6_throwAway_X2_holdsAnyIn rfl ⟨rfl, rfl⟩ nm_X2_holdsAnyIn ⟨by decide, by decide⟩ (fun _ h => h) 5 rfl rfl rfl (Nat.le_of_ble_eq_true rfl) dX6_throwAway_26 (by decide) (by decide) (fun r hr => ?_)
    subst hr
    refine z_ifB_eq B 42 dX6_throwAway_29 (by decide) (fun zc29 => ?_) (fun zc29 => ?_)
    · refine z_aload_n B 1 dX6_throwAway_42 rfl rfl ?_
      refine z_get (C := RX6) (T := TX6) (N := 6) (v := .ref (a 4)) B 0 3 3 fw_X6_throwAway_X6 rfl rfl (by decide) rfl rfl rfl dX6_throwAway_43 ?_
      refine z_iload_n B 2 dX6_throwAway_46 rfl rfl ?_
      refine z_callMV (As := [.int (nI (jx))]) (st := []) (C := RX5) (T := TX5) (N := 2) (ci := 5) (l := l) B hl (cc_X5_remove l D g a C m jx (by omega)) gX6_throwAway_X5_remove rfl ⟨rfl, rfl⟩ nm_X5_remove ⟨by decide, by decide⟩ 4 rfl rfl rfl (Nat.le_of_ble_eq_true rfl) dX6_throwAway_47 rfl rfl (by decide) (by decide) (fun w1 hr => ?_)
      subst hr
      refine z_aload_n B 1 dX6_throwAway_50 rfl rfl ?_
      refine z_get (C := RX6) (T := TX6) (N := 6) (v := .ref (a 4)) B 0 3 3 fw_X6_throwAway_X6 rfl rfl (by decide) rfl rfl rfl dX6_throwAway_51 ?_
      refine z_callP (As := []) (st := []) (C := RX5) (T := TX5) (N := 2) (ci := 5) (l := l) B hl (cc_X5_countThere l D g a (up2 C 28 jx (nI 0)) m (CI_28u hI)) gX6_throwAway_X5_countThere rfl ⟨rfl, rfl⟩ nm_X5_countThere ⟨by decide, by decide⟩ (fun _ h => h) 4 rfl rfl rfl (Nat.le_of_ble_eq_true rfl) dX6_throwAway_54 (by decide) (by decide) (fun r hr => ?_)
      subst hr
      exact z_xr (z_mret B hAe hr dX6_throwAway_57 rfl (by decide) (by decide) (by try rw [ejx]; exact ⟨(by exact rfl), rfl, khp2, (⟨zc14, zc29⟩)⟩))
    · have hng : ¬ (¬ cIsB C (nN (nI (jx))) ∧ ¬ cAny C (nN (nI (jx)))) := by rw [ejx]; first | exact fun h => h.1 zc14 | exact fun h => h.2 zc29
      refine z_throwS (B := B) (text := "the copy is a base, or an open case holds a page of it") hAe hT (by rw [hl]; exact hst) htab (by decide) (by decide) (List.mem_of_getElem? (i := 1) rfl) (List.mem_of_getElem? (i := 2) rfl) (fun _ h => List.mem_cons_of_mem _ (List.mem_append_left _ (List.mem_append_right _ (h)))) zngS zgdS (by decide) dX6_throwAway_32 dX6_throwAway_35 dX6_throwAway_36 dX6_throwAway_38 dX6_throwAway_41 (by decide) (Nat.le_of_ble_eq_true rfl) (by decide) (by decide) (by decide) (by decide) ?_
      try rw [ejx] at hng
      try rw [ejx]
      exact ⟨rfl, (Or.inr (⟨rfl, khp2, hng⟩))⟩
theorem fw_X6_hold_X2 : zF wsX6_hold RX2 TX2 7 := fun _ h => List.mem_cons_of_mem _ (List.mem_append_left _ (List.mem_append_left _ (List.mem_append_left _ (List.mem_append_left _ (List.mem_append_right _ (h))))))
theorem fw_X6_hold_X6 : zF wsX6_hold RX6 TX6 6 := fun _ h => List.mem_cons_of_mem _ (List.mem_append_left _ (List.mem_append_left _ (List.mem_append_left _ (List.mem_append_left _ (List.mem_append_left _ (List.mem_append_right _ (h)))))))
set_option maxHeartbeats 4000000 in
set_option maxRecDepth 100000 in
theorem cc_X6_hold (l : Launch) (D : va_G) (g : zG) (a : Nat → Nat) (C : zMS) (m : Nat) (hst : l.stackTraces = false) (hI : CI C) (x : Int32) (y : Int32) (f : Int32) (t : Int32) : zThrI l yX6_hold wsX6_hold { frames := 7, cells := 3, slots := 18, locals := 103 } D (zT g) (wC g a C m) [.ref (a 0), .int (x), .int (y), .int (f), .int (t)] (fun r w' => r = nI (zcnt (fun p => ¬ cHS (up2 (up2 (up2 (up2 (up2 C 23 (cH C) x) 24 (cH C) y) 25 (cH C) f) 26 (cH C) t) 27 0 (nI (cH C + 1))) p &&& (nI 1 <<< (x &&& 31)) = 0) (cP (up2 (up2 (up2 (up2 (up2 C 23 (cH C) x) 24 (cH C) y) 25 (cH C) f) 26 (cH C) t) 27 0 (nI (cH C + 1))))) ∧ w' = wC g a (up2 (up2 (up2 (up2 (up2 C 23 (cH C) x) 24 (cH C) y) 25 (cH C) f) 26 (cH C) t) 27 0 (nI (cH C + 1))) m ∧ (rng x (cK C)) ∧ (rng y 8) ∧ (¬ f < 0 ∧ f ≤ t ∧ t ≤ nI 400) ∧ (¬ C 21 (nN x) = 0 ∧ cH C < 30)) (fun E w' => w' = wC g a C m ∧ ((E = "java/lang/IndexOutOfBoundsException" ∧ ¬ (rng x (cK C))) ∨ (E = "java/lang/IndexOutOfBoundsException" ∧ (rng x (cK C)) ∧ ¬ (rng y 8)) ∨ (E = "java/lang/IllegalArgumentException" ∧ (rng x (cK C)) ∧ (rng y 8) ∧ ¬ (¬ f < 0 ∧ f ≤ t ∧ t ≤ nI 400)) ∨ (E = "java/lang/IllegalStateException" ∧ (rng x (cK C)) ∧ (rng y 8) ∧ (¬ f < 0 ∧ f ≤ t ∧ t ≤ nI 400) ∧ ¬ (¬ C 21 (nN x) = 0 ∧ cH C < 30)))) 3 18 := by
  refine zThrI_of (cc := cX6_hold) (maxL := 5) (ret := (some .int)) (own := RX6) [(0, .ref (a 0)), (1, .int (x)), (2, .int (y)), (3, .int (f)), (4, .int (t))] (by decide) rfl rfl rfl (Nat.le_of_ble_eq_true rfl) ?_
  intro X A hAe hl B hr hin htab hT
  obtain ⟨b19, b3, b6, b20, b22, b27, b0⟩ := CI_bs hI
  refine z_aload_n B 0 dX6_hold_0 rfl rfl ?_
  refine z_iload_n B 1 dX6_hold_1 rfl rfl ?_
  refine z_callTV (As := [.int (x)]) (st := []) (C := RX6) (T := TX6) (N := 6) (ci := 6) (l := l) B hAe hT htab hl (cc_X6_needCase l D g a C m hst hI x) gX6_hold_X6_needCase rfl ⟨rfl, rfl⟩ nm_X6_needCase ⟨by decide, by decide⟩ 0 rfl rfl rfl (Nat.le_of_ble_eq_true rfl) dX6_hold_2 rfl rfl (by decide) (by decide) (by decide) (by decide) (fun E w' h => by exact ⟨h.1, (Or.inl (⟨h.2.1, h.2.2⟩))⟩) (fun w1 hrr => ?_)
  obtain ⟨rfl, hp2⟩ := hrr
  have khp2 := hp2
  obtain ⟨jx, hjx, rfl⟩ := hp2
  have ejx : nN (nI jx) = jx := nN_nI (by omega)
  refine z_iload_n B 2 dX6_hold_5 rfl rfl ?_
  refine z_callTSV (As := [.int (y)]) (st := []) (l := l) B hAe hT htab hl (cc_X6_needAccount l D g a C m hst hI y) gX6_hold_X6_needAccount rfl ⟨rfl, rfl⟩ nm_X6_needAccount ⟨by decide, by decide⟩ rfl (Nat.le_of_ble_eq_true rfl) dX6_hold_6 rfl rfl (by decide) (by decide) (by decide) (by decide) (fun E w' h => by (try rw [ejx]); exact ⟨h.1, (Or.inr (Or.inl (⟨h.2.1, khp2, h.2.2⟩)))⟩) (fun w1 hrr => ?_)
  obtain ⟨rfl, hp6⟩ := hrr
  refine z_iload_n B 3 dX6_hold_9 rfl rfl ?_
  refine z_if_lt B 27 dX6_hold_10 (by decide) (fun zc10 => ?_) (fun zc10 => ?_)
  · have hng : ¬ (¬ f < 0 ∧ f ≤ t ∧ t ≤ nI 400) := by first | exact fun h => h.1 zc10 | exact fun h => absurd zc16 (Int32.not_lt.mpr h.2.1) | exact fun h => zc24 h.2.2
    refine z_throwS (B := B) (text := "the days are 0 to 400, the first one first") hAe hT (by rw [hl]; exact hst) htab (by decide) (by decide) (List.mem_of_getElem? (i := 1) rfl) (List.mem_of_getElem? (i := 2) rfl) (fun _ h => List.mem_cons_of_mem _ (List.mem_append_left _ (List.mem_append_left _ (List.mem_append_right _ (h))))) zngA zgdA (by decide) dX6_hold_27 dX6_hold_30 dX6_hold_31 dX6_hold_33 dX6_hold_36 (by decide) (Nat.le_of_ble_eq_true rfl) (by decide) (by decide) (by decide) (by decide) ?_
    try rw [ejx] at hng
    try rw [ejx]
    exact ⟨rfl, (Or.inr (Or.inr (Or.inl (⟨rfl, khp2, hp6, hng⟩))))⟩
  · refine z_iload B 4 dX6_hold_13 rfl ?_
    refine z_iload_n B 3 dX6_hold_15 rfl rfl ?_
    refine z_icmp_lt B 27 dX6_hold_16 (by decide) (fun zc16 => ?_) (fun zc16 => ?_)
    · have hng : ¬ (¬ f < 0 ∧ f ≤ t ∧ t ≤ nI 400) := by first | exact fun h => h.1 zc10 | exact fun h => absurd zc16 (Int32.not_lt.mpr h.2.1) | exact fun h => zc24 h.2.2
      refine z_throwS (B := B) (text := "the days are 0 to 400, the first one first") hAe hT (by rw [hl]; exact hst) htab (by decide) (by decide) (List.mem_of_getElem? (i := 1) rfl) (List.mem_of_getElem? (i := 2) rfl) (fun _ h => List.mem_cons_of_mem _ (List.mem_append_left _ (List.mem_append_left _ (List.mem_append_right _ (h))))) zngA zgdA (by decide) dX6_hold_27 dX6_hold_30 dX6_hold_31 dX6_hold_33 dX6_hold_36 (by decide) (Nat.le_of_ble_eq_true rfl) (by decide) (by decide) (by decide) (by decide) ?_
      try rw [ejx] at hng
      try rw [ejx]
      exact ⟨rfl, (Or.inr (Or.inr (Or.inl (⟨rfl, khp2, hp6, hng⟩))))⟩
    · refine z_iload B 4 dX6_hold_19 rfl ?_
      refine z_sipush (v := nI 400) B dX6_hold_21 (by decide) ?_
      refine z_icmp_le B 37 dX6_hold_24 (by decide) (fun zc24 => ?_) (fun zc24 => ?_)
      · refine z_aload_n B 0 dX6_hold_37 rfl rfl ?_
        refine z_get (C := RX6) (T := TX6) (N := 6) (v := .ref (a 5)) B 0 4 5 fw_X6_hold_X6 rfl rfl (by decide) rfl rfl rfl dX6_hold_38 ?_
        refine z_get (C := RX2) (T := TX2) (N := 7) (v := .ref (a 21)) B 5 0 6 fw_X6_hold_X2 rfl rfl (by decide) rfl rfl rfl dX6_hold_41 ?_
        refine z_iload_n B 1 dX6_hold_44 rfl rfl ?_
        refine z_zald (g := (C 21)) (i := jx) B 21 1 rfl rfl (by omega) (by decide) dX6_hold_45 ?_
        refine z_if_eq B 59 dX6_hold_46 (by decide) (fun zc46 => ?_) (fun zc46 => ?_)
        · have hng : ¬ (¬ C 21 (nN (nI (jx))) = 0 ∧ cH C < 30) := by rw [ejx]; first | exact fun h => h.1 zc46 | exact fun h => absurd h.2 (by omega)
          refine z_throwS (B := B) (text := "the case is closed, or 30 holds were told") hAe hT (by rw [hl]; exact hst) htab (by decide) (by decide) (List.mem_of_getElem? (i := 3) rfl) (List.mem_of_getElem? (i := 4) rfl) (fun _ h => List.mem_cons_of_mem _ (List.mem_append_left _ (List.mem_append_right _ (h)))) zngS zgdS (by decide) dX6_hold_59 dX6_hold_62 dX6_hold_63 dX6_hold_65 dX6_hold_68 (by decide) (Nat.le_of_ble_eq_true rfl) (by decide) (by decide) (by decide) (by decide) ?_
          try rw [ejx] at hng
          try rw [ejx]
          exact ⟨rfl, (Or.inr (Or.inr (Or.inr (⟨rfl, khp2, hp6, (⟨zc10, i_nlt zc16, zc24⟩), hng⟩))))⟩
        · refine z_aload_n B 0 dX6_hold_49 rfl rfl ?_
          refine z_get (C := RX6) (T := TX6) (N := 6) (v := .ref (a 5)) B 0 4 5 fw_X6_hold_X6 rfl rfl (by decide) rfl rfl rfl dX6_hold_50 ?_
          refine z_callP (As := []) (st := []) (C := RX2) (T := TX2) (N := 7) (ci := 2) (l := l) B hl (cc_X2_hasAllHolds l D g a C m hI) gX6_hold_X2_hasAllHolds rfl ⟨rfl, rfl⟩ nm_X2_hasAllHolds ⟨by decide, by decide⟩ (fun _ h => h) 5 rfl rfl rfl (Nat.le_of_ble_eq_true rfl) dX6_hold_53 (by decide) (by decide) (fun r hr => ?_)
          subst hr
          refine z_ifB_eq B 69 dX6_hold_56 (by decide) (fun zc56 => ?_) (fun zc56 => ?_)
          · refine z_aload_n B 0 dX6_hold_69 rfl rfl ?_
            refine z_get (C := RX6) (T := TX6) (N := 6) (v := .ref (a 5)) B 0 4 5 fw_X6_hold_X6 rfl rfl (by decide) rfl rfl rfl dX6_hold_70 ?_
            refine z_iload_n B 1 dX6_hold_73 rfl rfl ?_
            refine z_iload_n B 2 dX6_hold_74 rfl rfl ?_
            refine z_iload_n B 3 dX6_hold_75 rfl rfl ?_
            refine z_iload B 4 dX6_hold_76 rfl ?_
            refine z_callMV (As := [.int (nI (jx)), .int (y), .int (f), .int (t)]) (st := []) (C := RX2) (T := TX2) (N := 7) (ci := 2) (l := l) B hl (cc_X2_addHold l D g a C m hI (nI (jx)) y f t (by omega)) gX6_hold_X2_addHold rfl ⟨rfl, rfl⟩ nm_X2_addHold ⟨by decide, by decide⟩ 5 rfl rfl rfl (Nat.le_of_ble_eq_true rfl) dX6_hold_78 rfl rfl (by decide) (by decide) (fun w1 hr => ?_)
            subst hr
            refine z_aload_n B 0 dX6_hold_81 rfl rfl ?_
            refine z_get (C := RX6) (T := TX6) (N := 6) (v := .ref (a 5)) B 0 4 5 fw_X6_hold_X6 rfl rfl (by decide) rfl rfl rfl dX6_hold_82 ?_
            refine z_iload_n B 1 dX6_hold_85 rfl rfl ?_
            refine z_aload_n B 0 dX6_hold_86 rfl rfl ?_
            refine z_get (C := RX6) (T := TX6) (N := 6) (v := .ref (a 3)) B 0 2 7 fw_X6_hold_X6 rfl rfl (by decide) rfl rfl rfl dX6_hold_87 ?_
            refine z_callP (As := [.int (nI (jx)), .ref (a 3)]) (st := []) (C := RX2) (T := TX2) (N := 7) (ci := 2) (l := l) B hl (cc_X2_countHeld l D g a (up2 (up2 (up2 (up2 (up2 C 23 (cH C) (nI (jx))) 24 (cH C) y) 25 (cH C) f) 26 (cH C) t) 27 0 (nI (cH C + 1))) m (CI_27u (CI_r (CI_r (CI_r (CI_23u hI (by omega)) (by omega)) (by omega)) (by omega)) (by omega)) (nI (jx))) gX6_hold_X2_countHeld rfl ⟨rfl, rfl⟩ nm_X2_countHeld ⟨by decide, by decide⟩ (fun _ h => h) 5 rfl rfl rfl (Nat.le_of_ble_eq_true rfl) dX6_hold_90 (by decide) (by decide) (fun r hr => ?_)
            subst hr
            exact z_xr (z_mret B hAe hr dX6_hold_93 rfl (by decide) (by decide) (by try rw [ejx]; exact ⟨(by exact rfl), rfl, khp2, hp6, (⟨zc10, i_nlt zc16, zc24⟩), (⟨zc46, by omega⟩)⟩))
          · have hng : ¬ (¬ C 21 (nN (nI (jx))) = 0 ∧ cH C < 30) := by rw [ejx]; first | exact fun h => h.1 zc46 | exact fun h => absurd h.2 (by omega)
            refine z_throwS (B := B) (text := "the case is closed, or 30 holds were told") hAe hT (by rw [hl]; exact hst) htab (by decide) (by decide) (List.mem_of_getElem? (i := 3) rfl) (List.mem_of_getElem? (i := 4) rfl) (fun _ h => List.mem_cons_of_mem _ (List.mem_append_left _ (List.mem_append_right _ (h)))) zngS zgdS (by decide) dX6_hold_59 dX6_hold_62 dX6_hold_63 dX6_hold_65 dX6_hold_68 (by decide) (Nat.le_of_ble_eq_true rfl) (by decide) (by decide) (by decide) (by decide) ?_
            try rw [ejx] at hng
            try rw [ejx]
            exact ⟨rfl, (Or.inr (Or.inr (Or.inr (⟨rfl, khp2, hp6, (⟨zc10, i_nlt zc16, zc24⟩), hng⟩))))⟩
      · have hng : ¬ (¬ f < 0 ∧ f ≤ t ∧ t ≤ nI 400) := by first | exact fun h => h.1 zc10 | exact fun h => absurd zc16 (Int32.not_lt.mpr h.2.1) | exact fun h => zc24 h.2.2
        refine z_throwS (B := B) (text := "the days are 0 to 400, the first one first") hAe hT (by rw [hl]; exact hst) htab (by decide) (by decide) (List.mem_of_getElem? (i := 1) rfl) (List.mem_of_getElem? (i := 2) rfl) (fun _ h => List.mem_cons_of_mem _ (List.mem_append_left _ (List.mem_append_left _ (List.mem_append_right _ (h))))) zngA zgdA (by decide) dX6_hold_27 dX6_hold_30 dX6_hold_31 dX6_hold_33 dX6_hold_36 (by decide) (Nat.le_of_ble_eq_true rfl) (by decide) (by decide) (by decide) (by decide) ?_
        try rw [ejx] at hng
        try rw [ejx]
        exact ⟨rfl, (Or.inr (Or.inr (Or.inl (⟨rfl, khp2, hp6, hng⟩))))⟩
theorem fw_X6_isToldTruly_X0 : zF wsX6_isToldTruly RX0 TX0 11 := fun _ h => List.mem_cons_of_mem _ (List.mem_append_left _ (List.mem_append_left _ (List.mem_append_left _ (List.mem_append_right _ (h)))))
theorem fw_X6_isToldTruly_X6 : zF wsX6_isToldTruly RX6 TX6 6 := fun _ h => List.mem_cons_of_mem _ (List.mem_append_left _ (List.mem_append_left _ (List.mem_append_left _ (List.mem_append_left _ (List.mem_append_right _ (h))))))
set_option maxHeartbeats 4000000 in
set_option maxRecDepth 100000 in
theorem cc_X6_isToldTruly (l : Launch) (D : va_G) (g : zG) (a : Nat → Nat) (C : zMS) (m : Nat) (hI : CI C) (hm : 4 * cM C ≤ m) (j : Nat) (hj : j < 80) : zPure l yX6_isToldTruly wsX6_isToldTruly { frames := 4, cells := 0, slots := 0, locals := 92 } D (zT g) (wC g a C m) [.ref (a 0), .int (nI (j))] (fun r => r = bI (cHT C j (nI 0) ∨ ¬ C 14 j = 0 ∨ cTB C j)) := by
  refine zPure_of (cc := cX6_isToldTruly) (maxL := 2) (ret := (some .boolean)) (own := RX6) [(0, .ref (a 0)), (1, .int (nI (j)))] (by decide) rfl rfl rfl (Nat.le_of_ble_eq_true rfl) ?_
  intro X hl B hr
  obtain ⟨b19, b3, b6, b20, b22, b27, b0⟩ := CI_bs hI
  refine z_aload_n B 0 dX6_isToldTruly_0 rfl rfl ?_
  refine z_get (C := RX6) (T := TX6) (N := 6) (v := .ref (a 4)) B 0 3 1 fw_X6_isToldTruly_X6 rfl rfl (by decide) rfl rfl rfl dX6_isToldTruly_1 ?_
  refine z_aload_n B 0 dX6_isToldTruly_4 rfl rfl ?_
  refine z_get (C := RX6) (T := TX6) (N := 6) (v := .ref (a 3)) B 0 2 2 fw_X6_isToldTruly_X6 rfl rfl (by decide) rfl rfl rfl dX6_isToldTruly_5 ?_
  refine z_iload_n B 1 dX6_isToldTruly_8 rfl rfl ?_
  refine z_iconst (v := nI 0) B dX6_isToldTruly_9 (by decide) ?_
  refine z_callP (As := [.ref (a 3), .int (nI (j)), .int (nI (0))]) (st := []) (C := RX5) (T := TX5) (N := 2) (ci := 5) (l := l) B hl (cc_X5_hasTrue l D g a C m hI hm j (by omega) (nI (0))) gX6_isToldTruly_X5_hasTrue rfl ⟨rfl, rfl⟩ nm_X5_hasTrue ⟨by decide, by decide⟩ (fun _ h => h) 4 rfl rfl rfl (Nat.le_of_ble_eq_true rfl) dX6_isToldTruly_10 (Nat.zero_le _) (Nat.zero_le _) (fun r hr => ?_)
  subst hr
  refine z_ifB_ne B 46 dX6_isToldTruly_13 (by decide) (fun zc13 => ?_) (fun zc13 => ?_)
  · refine z_iconst (v := nI 1) B dX6_isToldTruly_46 (by decide) ?_
    refine z_goto B 51 dX6_isToldTruly_47 (by decide) ?_
    exact z_pret B hr dX6_isToldTruly_51 (nar_b (Or.inr rfl)) (by first | exact bI_1 (Or.inl zc13) | exact bI_1 (Or.inr (Or.inl zc25)) | exact bI_1 (Or.inr (Or.inr zc43)))
  · refine z_aload_n B 0 dX6_isToldTruly_16 rfl rfl ?_
    refine z_get (C := RX6) (T := TX6) (N := 6) (v := .ref (a 3)) B 0 2 2 fw_X6_isToldTruly_X6 rfl rfl (by decide) rfl rfl rfl dX6_isToldTruly_17 ?_
    refine z_get (C := RX0) (T := TX0) (N := 11) (v := .ref (a 17)) B 3 7 3 fw_X6_isToldTruly_X0 rfl rfl (by decide) rfl rfl rfl dX6_isToldTruly_20 ?_
    refine z_iload_n B 1 dX6_isToldTruly_23 rfl rfl ?_
    refine z_zald (g := (C 14)) (i := j) B 17 1 rfl rfl (by omega) (by decide) dX6_isToldTruly_24 ?_
    refine z_if_ne B 46 dX6_isToldTruly_25 (by decide) (fun zc25 => ?_) (fun zc25 => ?_)
    · refine z_iconst (v := nI 1) B dX6_isToldTruly_46 (by decide) ?_
      refine z_goto B 51 dX6_isToldTruly_47 (by decide) ?_
      exact z_pret B hr dX6_isToldTruly_51 (nar_b (Or.inr rfl)) (by first | exact bI_1 (Or.inl zc13) | exact bI_1 (Or.inr (Or.inl zc25)) | exact bI_1 (Or.inr (Or.inr zc43)))
    · refine z_aload_n B 0 dX6_isToldTruly_28 rfl rfl ?_
      refine z_get (C := RX6) (T := TX6) (N := 6) (v := .ref (a 3)) B 0 2 2 fw_X6_isToldTruly_X6 rfl rfl (by decide) rfl rfl rfl dX6_isToldTruly_29 ?_
      refine z_aload_n B 0 dX6_isToldTruly_32 rfl rfl ?_
      refine z_get (C := RX6) (T := TX6) (N := 6) (v := .ref (a 3)) B 0 2 2 fw_X6_isToldTruly_X6 rfl rfl (by decide) rfl rfl rfl dX6_isToldTruly_33 ?_
      refine z_get (C := RX0) (T := TX0) (N := 11) (v := .ref (a 19)) B 3 9 4 fw_X6_isToldTruly_X0 rfl rfl (by decide) rfl rfl rfl dX6_isToldTruly_36 ?_
      refine z_iload_n B 1 dX6_isToldTruly_39 rfl rfl ?_
      refine z_callP (As := [.ref (a 19), .int (nI (j))]) (st := []) (C := RX0) (T := TX0) (N := 11) (ci := 0) (l := l) B hl (cc_X0_isTrueOn_N l D g a C m hI j (by omega)) gX6_isToldTruly_X0_isTrueOn rfl ⟨rfl, rfl⟩ nm_X0_isTrueOn ⟨by decide, by decide⟩ (fun _ h => h) 3 rfl rfl rfl (Nat.le_of_ble_eq_true rfl) dX6_isToldTruly_40 (Nat.zero_le _) (Nat.zero_le _) (fun r hr => ?_)
      subst hr
      refine z_ifB_eq B 50 dX6_isToldTruly_43 (by decide) (fun zc43 => ?_) (fun zc43 => ?_)
      · refine z_iconst (v := nI 0) B dX6_isToldTruly_50 (by decide) ?_
        exact z_pret B hr dX6_isToldTruly_51 (nar_b (Or.inl rfl)) (by exact bI_z (fun h => h.elim (fun q => zc13 q) (fun h => h.elim (fun q => q zc25) (fun q => zc43 q))))
      · refine z_iconst (v := nI 1) B dX6_isToldTruly_46 (by decide) ?_
        refine z_goto B 51 dX6_isToldTruly_47 (by decide) ?_
        exact z_pret B hr dX6_isToldTruly_51 (nar_b (Or.inr rfl)) (by first | exact bI_1 (Or.inl zc13) | exact bI_1 (Or.inr (Or.inl zc25)) | exact bI_1 (Or.inr (Or.inr zc43)))
theorem fw_X6_balance_X0 : zF wsX6_balance RX0 TX0 11 := fun _ h => List.mem_cons_of_mem _ (List.mem_append_left _ (List.mem_append_left _ (List.mem_append_left _ (List.mem_append_right _ (h)))))
theorem fw_X6_balance_X6 : zF wsX6_balance RX6 TX6 6 := fun _ h => List.mem_cons_of_mem _ (List.mem_append_left _ (List.mem_append_left _ (List.mem_append_left _ (List.mem_append_left _ (List.mem_append_right _ (h))))))
set_option maxHeartbeats 4000000 in
set_option maxRecDepth 100000 in
theorem cc_X6_balance (l : Launch) (D : va_G) (g : zG) (a : Nat → Nat) (C : zMS) (m : Nat) (hst : l.stackTraces = false) (hI : CI C) (x : Int32) (y : Int32) : zThrI l yX6_balance wsX6_balance { frames := 7, cells := 2, slots := 12, locals := 103 } D (zT g) (wC g a C m) [.ref (a 0), .int (x), .int (y)] (fun r w' => (∃ e, cUp C y e ∧ r = zsum (fun p => cSum C 16 p x) e) ∧ w' = wC g a C m ∧ (rng x 8) ∧ (rng y (cT C + 1))) (fun E w' => w' = wC g a C m ∧ ((E = "java/lang/IndexOutOfBoundsException" ∧ ¬ (rng x 8)) ∨ (E = "java/lang/IllegalArgumentException" ∧ (rng x 8) ∧ ¬ (rng y (cT C + 1))))) 2 12 := by
  refine zThrI_of (cc := cX6_balance) (maxL := 6) (ret := (some .int)) (own := RX6) [(0, .ref (a 0)), (1, .int (x)), (2, .int (y))] (by decide) rfl rfl rfl (Nat.le_of_ble_eq_true rfl) ?_
  intro X A hAe hl B hr hin htab hT
  obtain ⟨b19, b3, b6, b20, b22, b27, b0⟩ := CI_bs hI
  refine z_iload_n B 1 dX6_balance_0 rfl rfl ?_
  refine z_callTSV (As := [.int (x)]) (st := []) (l := l) B hAe hT htab hl (cc_X6_needAccount l D g a C m hst hI x) gX6_balance_X6_needAccount rfl ⟨rfl, rfl⟩ nm_X6_needAccount ⟨by decide, by decide⟩ rfl (Nat.le_of_ble_eq_true rfl) dX6_balance_1 rfl rfl (by decide) (by decide) (by decide) (by decide) (fun E w' h => by exact ⟨h.1, (Or.inl (⟨h.2.1, h.2.2⟩))⟩) (fun w1 hrr => ?_)
  obtain ⟨rfl, hp1⟩ := hrr
  refine z_aload_n B 0 dX6_balance_4 rfl rfl ?_
  refine z_iload_n B 2 dX6_balance_5 rfl rfl ?_
  refine z_callTV (As := [.int (y)]) (st := []) (C := RX6) (T := TX6) (N := 6) (ci := 6) (l := l) B hAe hT htab hl (cc_X6_needPastDay l D g a C m hst hI y) gX6_balance_X6_needPastDay rfl ⟨rfl, rfl⟩ nm_X6_needPastDay ⟨by decide, by decide⟩ 0 rfl rfl rfl (Nat.le_of_ble_eq_true rfl) dX6_balance_6 rfl rfl (by decide) (by decide) (by decide) (by decide) (fun E w' h => by exact ⟨h.1, (Or.inr (⟨h.2.1, hp1, h.2.2⟩))⟩) (fun w1 hrr => ?_)
  obtain ⟨rfl, hp6⟩ := hrr
  refine z_iconst (v := nI 0) B dX6_balance_9 (by decide) ?_
  refine z_istore_n (lv1 := [(3, .int (nI (0))), (0, .ref (a 0)), (1, .int (x)), (2, .int (y))]) B dX6_balance_10 rfl (by decide) rfl ?_
  refine z_aload_n B 1 dX6_balance_11 rfl rfl ?_
  refine z_get (C := RX6) (T := TX6) (N := 6) (v := .ref (a 3)) B 0 2 1 fw_X6_balance_X6 rfl rfl (by decide) rfl rfl rfl dX6_balance_12 ?_
  refine z_iload_n B 3 dX6_balance_15 rfl rfl ?_
  refine z_callP (As := [.int (y)]) (st := []) (C := RX0) (T := TX0) (N := 11) (ci := 0) (l := l) B hl (cc_X0_countUpTo l D g a C m hI y) gX6_balance_X0_countUpTo rfl ⟨rfl, rfl⟩ nm_X0_countUpTo ⟨by decide, by decide⟩ (fun _ h => h) 3 rfl rfl rfl (Nat.le_of_ble_eq_true rfl) dX6_balance_16 (by decide) (by decide) (fun r hr => ?_)
  obtain ⟨e, rfl, he⟩ := hr
  have hel := he.1
  refine z_istore (lv1 := [(4, .int (nI (e))), (3, .int (nI (0))), (0, .ref (a 0)), (1, .int (x)), (2, .int (y))]) B dX6_balance_19 (by decide) rfl ?_
  refine z_iconst (v := nI 0) B dX6_balance_21 (by decide) ?_
  refine z_istore (lv1 := [(5, .int (nI (0))), (4, .int (nI (e))), (3, .int (nI (0))), (0, .ref (a 0)), (1, .int (x)), (2, .int (y))]) B dX6_balance_22 (by decide) rfl ?_
  have loop24 : ∀ (n0 i : Nat), i ≤ e → e + 1 ≤ i + n0 → zJ X 6 (zI1 D A (zs X)) (zQx X (va_Qi (fun r w' => (∃ e, cUp C y e ∧ r = zsum (fun p => cSum C 16 p x) e) ∧ w' = wC g a C m ∧ (rng x 8) ∧ (rng y (cT C + 1))) (zEnd D (zT g) (wC g a C m) (zs X).heap.size) A) (zXC D (zT g) (wC g a C m) (zs X).heap.size (fun E w' => w' = wC g a C m ∧ ((E = "java/lang/IndexOutOfBoundsException" ∧ ¬ (rng x 8)) ∨ (E = "java/lang/IllegalArgumentException" ∧ (rng x 8) ∧ ¬ (rng y (cT C + 1)))))) 2 12 A) (wC g a C m) 2 12 [(0, .ref (a 0)), (1, .int (x)), (2, .int (y)), (3, .int (zsum (fun p => cSum C 16 p x) i)), (4, .int (nI (e))), (5, .int (nI (i)))] 24 [] := by
    intro n24
    induction n24 with
    | zero => intro i h1 h2; exact absurd h2 (by omega)
    | succ n24 ih24 =>
      intro i hle24 hn24
      refine z_iload B 5 dX6_balance_24 rfl ?_
      refine z_iload B 4 dX6_balance_26 rfl ?_
      refine z_icmpN_ge B 57 dX6_balance_28 (by decide) (by omega) (by omega) (fun zc28 => ?_) (fun zc28 => ?_)
      · obtain rfl : e = i := by omega
        refine z_iload_n B 3 dX6_balance_57 rfl rfl ?_
        exact z_xr (z_mret B hAe hr dX6_balance_58 rfl (by decide) (by decide) (by exact ⟨(by exact ⟨e, he, rfl⟩), rfl, hp1, hp6⟩))
      · refine z_iload_n B 3 dX6_balance_31 rfl rfl ?_
        refine z_aload_n B 0 dX6_balance_32 rfl rfl ?_
        refine z_get (C := RX6) (T := TX6) (N := 6) (v := .ref (a 3)) B 0 2 1 fw_X6_balance_X6 rfl rfl (by decide) rfl rfl rfl dX6_balance_33 ?_
        refine z_aload_n B 0 dX6_balance_36 rfl rfl ?_
        refine z_get (C := RX6) (T := TX6) (N := 6) (v := .ref (a 3)) B 0 2 1 fw_X6_balance_X6 rfl rfl (by decide) rfl rfl rfl dX6_balance_37 ?_
        refine z_get (C := RX0) (T := TX0) (N := 11) (v := .ref (a 18)) B 3 8 2 fw_X6_balance_X0 rfl rfl (by decide) rfl rfl rfl dX6_balance_40 ?_
        refine z_iload B 5 dX6_balance_43 rfl ?_
        refine z_iload_n B 1 dX6_balance_45 rfl rfl ?_
        refine z_callP (As := [.ref (a 18), .int (nI (i)), .int (x)]) (st := [.int (zsum (fun p => cSum C 16 p x) i)]) (C := RX0) (T := TX0) (N := 11) (ci := 0) (l := l) B hl (cc_X0_sumOn_W l D g a C m hI i (by omega) x) gX6_balance_X0_sumOn rfl ⟨rfl, rfl⟩ nm_X0_sumOn ⟨by decide, by decide⟩ (fun _ h => h) 3 rfl rfl rfl (Nat.le_of_ble_eq_true rfl) dX6_balance_46 (by decide) (by decide) (fun r hr => ?_)
        subst hr
        refine z_iadd B dX6_balance_49 ?_
        refine z_istore_n (lv1 := [(3, .int (((zsum (fun p => cSum C 16 p x) i) + (cSum C 16 i x)))), (0, .ref (a 0)), (1, .int (x)), (2, .int (y)), (4, .int (nI (e))), (5, .int (nI (i)))]) B dX6_balance_50 rfl (by decide) rfl ?_
        refine z_iinc B 5 (lv1 := [(5, .int (nI (i + 1))), (3, .int (((zsum (fun p => cSum C 16 p x) i) + (cSum C 16 i x)))), (0, .ref (a 0)), (1, .int (x)), (2, .int (y)), (4, .int (nI (e)))]) dX6_balance_51 rfl (nI_1 _) (by decide) rfl ?_
        refine z_goto B 24 dX6_balance_54 (by decide) ?_
        refine z_loc [2, 3, 4, 1, 5, 0] (lv' := [(0, .ref (a 0)), (1, .int (x)), (2, .int (y)), (3, .int (((zsum (fun p => cSum C 16 p x) i) + (cSum C 16 i x)))), (4, .int (nI (e))), (5, .int (nI (i + 1)))]) rfl ?_
        refine z_lvc (lv' := [(0, .ref (a 0)), (1, .int (x)), (2, .int (y)), (3, .int (zsum (fun p => cSum C 16 p x) (i + 1))), (4, .int (nI (e))), (5, .int (nI ((i + 1))))]) (by rfl) ?_
        exact ih24 (i + 1) (by omega) (by omega)
  refine z_loc [3, 4, 5, 2, 1, 0] (lv' := [(0, .ref (a 0)), (1, .int (x)), (2, .int (y)), (3, .int (nI (0))), (4, .int (nI (e))), (5, .int (nI (0)))]) rfl ?_
  refine z_lvc (lv' := [(0, .ref (a 0)), (1, .int (x)), (2, .int (y)), (3, .int (zsum (fun p => cSum C 16 p x) 0)), (4, .int (nI (e))), (5, .int (nI (0)))]) (by rfl) ?_
  exact loop24 (e + 1) 0 (by omega) (by omega)
