/-! the law's loop -/
theorem l5 {L i : Nat} (hL : L < 2 ^ 31) (hi : i < 2 ^ 31) (h : ¬ nI L - nI 5 < nI i) : i + 5 ≤ L := by
  rcases Nat.lt_or_ge L 5 with q | q
  · refine absurd ?_ h
    rw [Int32.lt_iff_toInt_lt, nI_toInt hi]
    have e : (nI L - nI 5).toInt < 0 := by
      match L, q with
      | 0, _ => decide
      | 1, _ => decide
      | 2, _ => decide
      | 3, _ => decide
      | 4, _ => decide
      | L + 5, q => exact absurd q (by omega)
    omega
  · rw [pk_sub q] at h
    have := (nI_leI hi (by omega)).mp (Int32.not_lt.mp h)
    omega
set_option maxHeartbeats 4000000 in
set_option maxRecDepth 100000 in
theorem law_sw {X : zX} {l : Launch} {D : va_G} {g : zG} {A : Nat → Prop} {Q : State → Prop} {b L o h0 a0 i k n : Nat} {xs : Nat → Int32} {am a : Nat → Nat} {M C : zMS} {f : Nat → Int64} (hLw : zLaw X l D g A b L xs) (h : INV M C) (ha : a 0 = a0) (hi : i + 5 ≤ L) (hk : k + 6 ≤ 601024) (hn : n + 419 ≤ 7293034) (kk : zKK X D g A Q b o h0 a0 i k n am) (v : Int32) : zJ X 7 (zI1 D A (zs X)) Q (wLw g h0 am M o f a C) k n [(0, .ref b), (1, .ref a0), (2, .ref h0), (3, .ref o), (4, .int (nI i))] 39 [.int v] := by
  have B := hLw.1
  by_cases hv : v.toInt < 0 ∨ 40 < v.toInt
  · refine z_tabOut B 2506 dL_law_39 hv (by decide) ?_
    exact z_wid (by omega) (by omega) (kk M C f a h ha)
  · obtain ⟨j, hj, hv⟩ : ∃ j : Nat, j ≤ 40 ∧ v.toInt = (j : Int) := ⟨v.toInt.toNat, by omega, by omega⟩
    match j, hj, hv with
    | 0, _, hv => exact z_tabIn B 216 dL_law_39 (by rw [hv]; decide) (by rw [hv]; decide) (by rw [hv]; rfl) (by decide) (lo_leg hLw h ha hi hk hn kk)
    | 1, _, hv => exact z_tabIn B 284 dL_law_39 (by rw [hv]; decide) (by rw [hv]; decide) (by rw [hv]; rfl) (by decide) (lo_wipe hLw h ha hi hk hn kk)
    | 2, _, hv => exact z_tabIn B 297 dL_law_39 (by rw [hv]; decide) (by rw [hv]; decide) (by rw [hv]; rfl) (by decide) (lo_write hLw h ha hi hk hn kk)
    | 3, _, hv => exact z_tabIn B 353 dL_law_39 (by rw [hv]; decide) (by rw [hv]; decide) (by rw [hv]; rfl) (by decide) (lo_reverse hLw h ha hi hk hn kk)
    | 4, _, hv => exact z_tabIn B 409 dL_law_39 (by rw [hv]; decide) (by rw [hv]; decide) (by rw [hv]; rfl) (by decide) (lo_pass hLw h ha hi hk hn kk)
    | 5, _, hv => exact z_tabIn B 465 dL_law_39 (by rw [hv]; decide) (by rw [hv]; decide) (by rw [hv]; rfl) (by decide) (lo_burn hLw h ha hi hk hn kk)
    | 6, _, hv => exact z_tabIn B 533 dL_law_39 (by rw [hv]; decide) (by rw [hv]; decide) (by rw [hv]; rfl) (by decide) (lo_alter hLw h ha hi hk hn kk)
    | 7, _, hv => exact z_tabIn B 613 dL_law_39 (by rw [hv]; decide) (by rw [hv]; decide) (by rw [hv]; rfl) (by decide) (lo_copy hLw h ha hi hk hn kk)
    | 8, _, hv => exact z_tabIn B 657 dL_law_39 (by rw [hv]; decide) (by rw [hv]; decide) (by rw [hv]; rfl) (by decide) (lo_copyFrom hLw h ha hi hk hn kk)
    | 9, _, hv => 
      refine z_tabIn B 713 dL_law_39 (by rw [hv]; decide) (by rw [hv]; decide) (by rw [hv]; rfl) (by decide) ?_
      by_cases hbv : xs (i + 2) = 0
      · exact lo_carry_0 hLw h ha hi hk hn hbv kk
      · exact lo_carry_1 hLw h ha hi hk hn hbv kk
    | 10, _, hv => exact z_tabIn B 797 dL_law_39 (by rw [hv]; decide) (by rw [hv]; decide) (by rw [hv]; rfl) (by decide) (lo_rot hLw h ha hi hk hn kk)
    | 11, _, hv => 
      refine z_tabIn B 872 dL_law_39 (by rw [hv]; decide) (by rw [hv]; decide) (by rw [hv]; rfl) (by decide) ?_
      refine z_dist (w1 := wM g h0 am M) (fun hn0 => ?_)
      exact lo_throwAway hLw h ha hi hk hn hn0 kk
    | 12, _, hv => exact z_tabIn B 928 dL_law_39 (by rw [hv]; decide) (by rw [hv]; decide) (by rw [hv]; rfl) (by decide) (lo_restore hLw h ha hi hk hn kk)
    | 13, _, hv => exact z_tabIn B 984 dL_law_39 (by rw [hv]; decide) (by rw [hv]; decide) (by rw [hv]; rfl) (by decide) (lo_open hLw h ha hi hk hn kk)
    | 14, _, hv => exact z_tabIn B 1028 dL_law_39 (by rw [hv]; decide) (by rw [hv]; decide) (by rw [hv]; rfl) (by decide) (lo_close hLw h ha hi hk hn kk)
    | 15, _, hv => exact z_tabIn B 1084 dL_law_39 (by rw [hv]; decide) (by rw [hv]; decide) (by rw [hv]; rfl) (by decide) (lo_hold hLw h ha hi hk hn kk)
    | 16, _, hv => exact z_tabIn B 1176 dL_law_39 (by rw [hv]; decide) (by rw [hv]; decide) (by rw [hv]; rfl) (by decide) (lo_strike hLw h ha hi hk hn kk)
    | 17, _, hv => exact z_tabIn B 1244 dL_law_39 (by rw [hv]; decide) (by rw [hv]; decide) (by rw [hv]; rfl) (by decide) (lo_day hLw h ha hi hk hn kk)
    | 18, _, hv => exact z_tabIn B 1257 dL_law_39 (by rw [hv]; decide) (by rw [hv]; decide) (by rw [hv]; rfl) (by decide) (lo_pages hLw h ha hi hk hn kk)
    | 19, _, hv => exact z_tabIn B 1270 dL_law_39 (by rw [hv]; decide) (by rw [hv]; decide) (by rw [hv]; rfl) (by decide) (lo_state hLw h ha hi hk hn kk)
    | 20, _, hv => exact z_tabIn B 1326 dL_law_39 (by rw [hv]; decide) (by rw [hv]; decide) (by rw [hv]; rfl) (by decide) (lo_isTrue hLw h ha hi hk hn kk)
    | 21, _, hv => exact z_tabIn B 1389 dL_law_39 (by rw [hv]; decide) (by rw [hv]; decide) (by rw [hv]; rfl) (by decide) (lo_text hLw h ha hi hk hn kk)
    | 22, _, hv => exact z_tabIn B 1445 dL_law_39 (by rw [hv]; decide) (by rw [hv]; decide) (by rw [hv]; rfl) (by decide) (lo_mark hLw h ha hi hk hn kk)
    | 23, _, hv => exact z_tabIn B 1501 dL_law_39 (by rw [hv]; decide) (by rw [hv]; decide) (by rw [hv]; rfl) (by decide) (lo_reversal hLw h ha hi hk hn kk)
    | 24, _, hv => exact z_tabIn B 1557 dL_law_39 (by rw [hv]; decide) (by rw [hv]; decide) (by rw [hv]; rfl) (by decide) (lo_proves hLw h ha hi hk hn kk)
    | 25, _, hv => exact z_tabIn B 1632 dL_law_39 (by rw [hv]; decide) (by rw [hv]; decide) (by rw [hv]; rfl) (by decide) (lo_proven hLw h ha hi hk hn kk)
    | 26, _, hv => exact z_tabIn B 1700 dL_law_39 (by rw [hv]; decide) (by rw [hv]; decide) (by rw [hv]; rfl) (by decide) (lo_balance hLw h ha hi hk hn kk)
    | 27, _, hv => exact z_tabIn B 1768 dL_law_39 (by rw [hv]; decide) (by rw [hv]; decide) (by rw [hv]; rfl) (by decide) (lo_balanceByPages hLw h ha hi hk hn kk)
    | 28, _, hv => exact z_tabIn B 1836 dL_law_39 (by rw [hv]; decide) (by rw [hv]; decide) (by rw [hv]; rfl) (by decide) (lo_balanceByCopies hLw h ha hi hk hn kk)
    | 29, _, hv => exact z_tabIn B 1904 dL_law_39 (by rw [hv]; decide) (by rw [hv]; decide) (by rw [hv]; rfl) (by decide) (lo_copies hLw h ha hi hk hn kk)
    | 30, _, hv => exact z_tabIn B 1917 dL_law_39 (by rw [hv]; decide) (by rw [hv]; decide) (by rw [hv]; rfl) (by decide) (lo_size hLw h ha hi hk hn kk)
    | 31, _, hv => exact z_tabIn B 1973 dL_law_39 (by rw [hv]; decide) (by rw [hv]; decide) (by rw [hv]; rfl) (by decide) (lo_isInVault hLw h ha hi hk hn kk)
    | 32, _, hv => exact z_tabIn B 2036 dL_law_39 (by rw [hv]; decide) (by rw [hv]; decide) (by rw [hv]; rfl) (by decide) (lo_stands hLw h ha hi hk hn kk)
    | 33, _, hv => exact z_tabIn B 2111 dL_law_39 (by rw [hv]; decide) (by rw [hv]; decide) (by rw [hv]; rfl) (by decide) (lo_copiesOf hLw h ha hi hk hn kk)
    | 34, _, hv => exact z_tabIn B 2167 dL_law_39 (by rw [hv]; decide) (by rw [hv]; decide) (by rw [hv]; rfl) (by decide) (lo_canRestore hLw h ha hi hk hn kk)
    | 35, _, hv => exact z_tabIn B 2230 dL_law_39 (by rw [hv]; decide) (by rw [hv]; decide) (by rw [hv]; rfl) (by decide) (lo_gaps hLw h ha hi hk hn kk)
    | 36, _, hv => exact z_tabIn B 2243 dL_law_39 (by rw [hv]; decide) (by rw [hv]; decide) (by rw [hv]; rfl) (by decide) (lo_lost hLw h ha hi hk hn kk)
    | 37, _, hv => exact z_tabIn B 2256 dL_law_39 (by rw [hv]; decide) (by rw [hv]; decide) (by rw [hv]; rfl) (by decide) (lo_audit hLw h ha hi hk hn kk)
    | 38, _, hv => exact z_tabIn B 2312 dL_law_39 (by rw [hv]; decide) (by rw [hv]; decide) (by rw [hv]; rfl) (by decide) (lo_isOpen hLw h ha hi hk hn kk)
    | 39, _, hv => exact z_tabIn B 2375 dL_law_39 (by rw [hv]; decide) (by rw [hv]; decide) (by rw [hv]; rfl) (by decide) (lo_holders hLw h ha hi hk hn kk)
    | 40, _, hv => exact z_tabIn B 2431 dL_law_39 (by rw [hv]; decide) (by rw [hv]; decide) (by rw [hv]; rfl) (by decide) (lo_canStrike hLw h ha hi hk hn kk)
    | j + 41, hj, _ => exact absurd hj (by omega)
set_option maxHeartbeats 4000000 in
set_option maxRecDepth 100000 in
theorem law_loop {X : zX} {l : Launch} {D : va_G} {g : zG} {A : Nat → Prop} {Q : State → Prop} {b L o h0 a0 : Nat} {xs : Nat → Int32} {am : Nat → Nat} (hLw : zLaw X l D g A b L xs) (final : ∀ (w : va_W) (k n : Nat) (lv : List (Nat × Value)), k ≤ 601024 → n ≤ 7293034 → zJ X 7 (zI1 D A (zs X)) Q w k n lv 2512 []) :
    ∀ (u i k n : Nat) (a : Nat → Nat) (M C : zMS) (f : Nat → Int64), L < i + 5 * u → i ≤ L + 5 → k + 6 * u ≤ 601024 → n + 419 * u ≤ 7293034 → INV M C → a 0 = a0 → L ≤ 2560 → zJ X 7 (zI1 D A (zs X)) Q (wLw g h0 am M o f a C) k n [(0, .ref b), (1, .ref a0), (2, .ref h0), (3, .ref o), (4, .int (nI i))] 23 [] := by
  have B := hLw.1
  have hX := hLw.2.2.1
  have hbl := hLw.2.2.2.1
  have hbA := hLw.2.2.2.2.1
  have hL := hLw.2.2.2.2.2.1
  intro u
  induction u with
  | zero =>
    intro i k n a M C f h1 h2 h3 h4 h ha h26
    refine z_iload B 4 dL_law_23 rfl ?_
    refine z_aload_n B 0 dL_law_25 rfl rfl ?_
    refine z_slen B hX hbl hbA dL_law_26 ?_
    refine z_iconst (v := nI 5) B dL_law_27 (by decide) ?_
    refine z_isub B dL_law_28 ?_
    refine z_icmp_gt B 2512 dL_law_29 (by decide) (fun _ => final _ _ _ _ (by omega) (by omega)) (fun q => absurd (l5 hL (by omega) q) (by omega))
  | succ u ih =>
    intro i k n a M C f h1 h2 h3 h4 h ha h26
    refine z_iload B 4 dL_law_23 rfl ?_
    refine z_aload_n B 0 dL_law_25 rfl rfl ?_
    refine z_slen B hX hbl hbA dL_law_26 ?_
    refine z_iconst (v := nI 5) B dL_law_27 (by decide) ?_
    refine z_isub B dL_law_28 ?_
    refine z_icmp_gt B 2512 dL_law_29 (by decide) (fun _ => final _ _ _ _ (by omega) (by omega)) (fun q => ?_)
    have hi := l5 hL (by omega) q
    refine z_aload_n B 0 dL_law_32 rfl rfl ?_
    refine z_iload B 4 dL_law_33 rfl ?_
    refine z_sld B hX hbl hbA (j := i) (by omega) hL dL_law_35 ?_
    refine z_bipush (v := nI 63) B dL_law_36 (by decide) ?_
    refine z_iand B dL_law_38 ?_
    refine law_sw hLw h ha hi (by omega) (by omega) (fun M' C' f' a' h' ha' => ?_) _
    refine z_iinc B 4 (lv1 := [(4, .int (nI (i + 5))), (0, .ref b), (1, .ref a0), (2, .ref h0), (3, .ref o)]) dL_law_2506 rfl (nI_add i 5) (by decide) rfl ?_
    refine z_goto B 23 dL_law_2509 (by decide) ?_
    refine z_loc [1, 2, 3, 4, 0] (lv' := [(0, .ref b), (1, .ref a0), (2, .ref h0), (3, .ref o), (4, .int (nI (i + 5)))]) rfl ?_
    exact ih (i + 5) (k + 6) (n + 419) a' M' C' f' (by omega) (by omega) (by omega) (by omega) h' ha' h26
