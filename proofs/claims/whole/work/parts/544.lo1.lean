/-! the law's cases -/
set_option maxHeartbeats 4000000 in
set_option maxRecDepth 100000 in
theorem lo_carry_0 {X : zX} {l : Launch} {D : va_G} {g : zG} {A : Nat → Prop} {Q : State → Prop} {b L o h0 a0 i k n : Nat} {xs : Nat → Int32} {am a : Nat → Nat} {M C : zMS} {f : Nat → Int64} (hLw : zLaw X l D g A b L xs) (h : INV M C) (ha : a 0 = a0) (hi : i + 5 ≤ L) (hk : k + 6 ≤ 601024) (hn : n + 419 ≤ 7293034) (hbv : xs (i + 2) = 0) (kk : zKK X D g A Q b o h0 a0 i k n am) : zJ X 7 (zI1 D A (zs X)) Q (wLw g h0 am M o f a C) k n [(0, .ref b), (1, .ref a0), (2, .ref h0), (3, .ref o), (4, .int (nI i))] 713 [] := by
  obtain ⟨B, hLF, hX, hbl, hbA, hL, hl, hst⟩ := hLw
  have hr0 : (wC g a C (4 * cM C))[0]? = some (a0, .inr (6, [.ref (a 1), .ref (a 2), .ref (a 3), .ref (a 4), .ref (a 5), .int (C 0 0)])) := by rw [← ha]; rfl
  subst ha
  refine z_aload_n B 1 dL_law_713 rfl rfl ?_
  refine z_aload_n B 0 dL_law_714 rfl rfl ?_
  refine z_iload B 4 dL_law_715 rfl ?_
  refine z_iconst (v := nI 1) B dL_law_717 (by decide) ?_
  refine z_iaddN B dL_law_718 ?_
  refine z_sld B hX hbl hbA (j := i + 1) (by omega) hL dL_law_719 ?_
  refine z_aload_n B 0 dL_law_720 rfl rfl ?_
  refine z_iload B 4 dL_law_721 rfl ?_
  refine z_iconst (v := nI 2) B dL_law_723 (by decide) ?_
  refine z_iaddN B dL_law_724 ?_
  refine z_sld B hX hbl hbA (j := i + 2) (by omega) hL dL_law_725 ?_
  refine z_if_eq B 733 dL_law_726 (by decide) (fun _ => ?_) (fun q => absurd hbv q)
  refine z_iconst (v := nI 0) B dL_law_733 (by decide) ?_
  refine z_aload_n B 3 dL_law_734 rfl rfl ?_
  have hM0 := (cc_X6_carry_0 l D g a C (4 * cM C) hst h.2.1 (Nat.le_refl _) (i_CJ h) (xs (i + 1))).L
  have hw0 := fun hE => wr_carry l D g o (a 0) f (wC g a C (4 * cM C)) _ hr0 (xs (i + 1)) (nI 0) _ _ hE hM0
  have hk2 : k + 1 + 0 ≤ room_1.cells := by show k + 1 + 0 ≤ 601024; omega
  have hn2 : n + 6 + 0 ≤ room_1.slots := by show n + 6 + 0 ≤ 7293034; omega
  unfold wLw
  refine z_callW (As := [.ref (a 0), .int (xs (i + 1)), .int (nI 0), .ref o]) (st := []) (hh := [(0, 10, 13, 13)]) B hLF hl (hw0 (fun E w2 hx => hx.2.1)) gL_law_L_carry rfl ⟨rfl, rfl⟩ nm_L_carry ⟨by decide, by decide⟩ rfl (Nat.le_of_ble_eq_true rfl) dL_law_735 rfl rfl hk2 hn2 (fun κ w1 hW => ?_)
  refine z_istore (lv1 := [(5, .int κ), (0, .ref b), (1, .ref (a 0)), (2, .ref h0), (3, .ref o), (4, .int (nI i))]) B dL_law_738 (by decide) rfl ?_
  refine z_swap ?_
  refine z_aload_n B 3 dL_law_740 rfl rfl ?_
  refine z_aload_n B 1 dL_law_741 rfl rfl ?_
  refine z_iload B 5 dL_law_742 rfl ?_
  refine z_iconst (v := nI 1) B dL_law_744 (by decide) ?_
  refine z_iaddN B dL_law_745 ?_
  refine z_sld B hX hbl hbA (j := i + 1) (by omega) hL dL_law_746 ?_
  refine z_aload_n B 1 dL_law_747 rfl rfl ?_
  refine z_iload B 5 dL_law_748 rfl ?_
  refine z_iconst (v := nI 2) B dL_law_750 (by decide) ?_
  refine z_iaddN B dL_law_751 ?_
  refine z_sld B hX hbl hbA (j := i + 2) (by omega) hL dL_law_752 ?_
  refine z_if_eq B 760 dL_law_753 (by decide) (fun _ => ?_) (fun q => absurd hbv q)
  refine z_iconst (v := nI 0) B dL_law_760 (by decide) ?_
  refine z_callMf (As := [.int (xs (i + 1)), .int (nI 0)]) (st := []) (C := RX7) (T := TX7) (N := 30) (ci := 7) (l := l) B hl (c7_carry_0 l D g h0 am M h.1 (xs (i + 1))) gL_law_X7_carry rfl ⟨rfl, rfl⟩ nm_X7_carry ⟨by decide, by decide⟩ 0 rfl rfl rfl (Nat.le_of_ble_eq_true rfl) dL_law_761 rfl rfl hk2 hn2 (fun r w2 hr2 => ?_)
  obtain ⟨M', rfl, himp⟩ := hr2
  refine z_swap ?_
  obtain ⟨hκ, f', a', C', rfl, hans, hI', ha'⟩ := sim_carry_0 h hW himp
  refine z_istore (lv1 := [(6, .int r), (5, .int κ), (0, .ref b), (1, .ref (a 0)), (2, .ref h0), (3, .ref o), (4, .int (nI i))]) B dL_law_764 (by decide) rfl ?_
  refine z_aload_n B 4 dL_law_766 rfl rfl ?_
  refine z_callP (As := []) (st := []) (C := RX7) (T := TX7) (N := 30) (ci := 7) (l := l) B hl (c7_thrown l D g h0 am M') gL_law_X7_thrown rfl ⟨rfl, rfl⟩ nm_X7_thrown ⟨by decide, by decide⟩ (fun H hP => (z_sub hP (fun _ q hq => List.mem_append_left _ (List.mem_of_getElem? hq)))) 0 rfl rfl rfl (Nat.le_of_ble_eq_true rfl) dL_law_767 (Nat.le_of_add_right_le hk2) (Nat.le_of_add_right_le hn2) (fun r2 hr2 => ?_)
  refine z_top (y := κ) (hr2.trans hκ) ?_
  refine z_iload B 1 dL_law_770 rfl ?_
  refine z_icmp_eq B 777 dL_law_772 (by decide) (fun _ => ?_) (fun q => absurd rfl q)
  refine z_iload B 1 dL_law_777 rfl ?_
  have fin : zJ X 7 (zI1 D A (zs X)) Q (wM g h0 am M' ++ ((o, .inl (g.2.2.2, 1, .inr (.inl f'))) :: wC g a' C' (4 * cM C'))) (k + 1 + 0) (n + 6 + 0) [(6, .int r), (5, .int κ), (0, .ref b), (1, .ref (a 0)), (2, .ref h0), (3, .ref o), (4, .int (nI i))] 794 [] := by
    refine z_goto B 2506 dL_law_794 (by decide) ?_
    refine z_loc [2, 3, 4, 5, 6] (lv' := [(0, .ref b), (1, .ref (a 0)), (2, .ref h0), (3, .ref o), (4, .int (nI i))]) rfl ?_
    exact z_wid (by omega) (by omega) (kk M' C' f' a' hI' ha')
  refine z_if_ne B 794 dL_law_779 (by decide) (fun _ => fin) (fun hz => ?_)
  have hans := hans hz
  refine z_aload_n B 5 dL_law_782 rfl rfl ?_
  refine z_iconst (v := nI 0) B dL_law_783 (by decide) ?_
  refine z_lald (f := f') (i := 0) (a := o) B 24 3 rfl rfl (by decide) (by decide) dL_law_784 ?_
  refine z_topv (y := .long r.toInt64) (by rw [hans]) ?_
  refine z_iload B 0 dL_law_785 rfl ?_
  refine z_i2l B dL_law_787 ?_
  refine z_lcmp B dL_law_788 ?_
  refine z_top (y := nI 0) (lg_cmp_rfl _) ?_
  exact z_if_eq B 794 dL_law_789 (by decide) (fun _ => fin) (fun q => absurd rfl q)
set_option maxHeartbeats 4000000 in
set_option maxRecDepth 100000 in
theorem lo_carry_1 {X : zX} {l : Launch} {D : va_G} {g : zG} {A : Nat → Prop} {Q : State → Prop} {b L o h0 a0 i k n : Nat} {xs : Nat → Int32} {am a : Nat → Nat} {M C : zMS} {f : Nat → Int64} (hLw : zLaw X l D g A b L xs) (h : INV M C) (ha : a 0 = a0) (hi : i + 5 ≤ L) (hk : k + 6 ≤ 601024) (hn : n + 419 ≤ 7293034) (hbv : ¬ xs (i + 2) = 0) (kk : zKK X D g A Q b o h0 a0 i k n am) : zJ X 7 (zI1 D A (zs X)) Q (wLw g h0 am M o f a C) k n [(0, .ref b), (1, .ref a0), (2, .ref h0), (3, .ref o), (4, .int (nI i))] 713 [] := by
  obtain ⟨B, hLF, hX, hbl, hbA, hL, hl, hst⟩ := hLw
  have hr0 : (wC g a C (4 * cM C))[0]? = some (a0, .inr (6, [.ref (a 1), .ref (a 2), .ref (a 3), .ref (a 4), .ref (a 5), .int (C 0 0)])) := by rw [← ha]; rfl
  subst ha
  refine z_aload_n B 1 dL_law_713 rfl rfl ?_
  refine z_aload_n B 0 dL_law_714 rfl rfl ?_
  refine z_iload B 4 dL_law_715 rfl ?_
  refine z_iconst (v := nI 1) B dL_law_717 (by decide) ?_
  refine z_iaddN B dL_law_718 ?_
  refine z_sld B hX hbl hbA (j := i + 1) (by omega) hL dL_law_719 ?_
  refine z_aload_n B 0 dL_law_720 rfl rfl ?_
  refine z_iload B 4 dL_law_721 rfl ?_
  refine z_iconst (v := nI 2) B dL_law_723 (by decide) ?_
  refine z_iaddN B dL_law_724 ?_
  refine z_sld B hX hbl hbA (j := i + 2) (by omega) hL dL_law_725 ?_
  refine z_if_eq B 733 dL_law_726 (by decide) (fun q => absurd q hbv) (fun _ => ?_)
  refine z_iconst (v := nI 1) B dL_law_729 (by decide) ?_
  refine z_goto B 734 dL_law_730 (by decide) ?_
  refine z_aload_n B 3 dL_law_734 rfl rfl ?_
  have hM0 := (cc_X6_carry_1 l D g a C (4 * cM C) hst h.2.1 (Nat.le_refl _) (i_CJ h) (xs (i + 1))).L
  have hw0 := fun hE => wr_carry l D g o (a 0) f (wC g a C (4 * cM C)) _ hr0 (xs (i + 1)) (nI 1) _ _ hE hM0
  have hk2 : k + 1 + 0 ≤ room_1.cells := by show k + 1 + 0 ≤ 601024; omega
  have hn2 : n + 6 + 0 ≤ room_1.slots := by show n + 6 + 0 ≤ 7293034; omega
  unfold wLw
  refine z_callW (As := [.ref (a 0), .int (xs (i + 1)), .int (nI 1), .ref o]) (st := []) (hh := [(0, 10, 13, 13)]) B hLF hl (hw0 (fun E w2 hx => hx.2.1)) gL_law_L_carry rfl ⟨rfl, rfl⟩ nm_L_carry ⟨by decide, by decide⟩ rfl (Nat.le_of_ble_eq_true rfl) dL_law_735 rfl rfl hk2 hn2 (fun κ w1 hW => ?_)
  refine z_istore (lv1 := [(5, .int κ), (0, .ref b), (1, .ref (a 0)), (2, .ref h0), (3, .ref o), (4, .int (nI i))]) B dL_law_738 (by decide) rfl ?_
  refine z_swap ?_
  refine z_aload_n B 3 dL_law_740 rfl rfl ?_
  refine z_aload_n B 1 dL_law_741 rfl rfl ?_
  refine z_iload B 5 dL_law_742 rfl ?_
  refine z_iconst (v := nI 1) B dL_law_744 (by decide) ?_
  refine z_iaddN B dL_law_745 ?_
  refine z_sld B hX hbl hbA (j := i + 1) (by omega) hL dL_law_746 ?_
  refine z_aload_n B 1 dL_law_747 rfl rfl ?_
  refine z_iload B 5 dL_law_748 rfl ?_
  refine z_iconst (v := nI 2) B dL_law_750 (by decide) ?_
  refine z_iaddN B dL_law_751 ?_
  refine z_sld B hX hbl hbA (j := i + 2) (by omega) hL dL_law_752 ?_
  refine z_if_eq B 760 dL_law_753 (by decide) (fun q => absurd q hbv) (fun _ => ?_)
  refine z_iconst (v := nI 1) B dL_law_756 (by decide) ?_
  refine z_goto B 761 dL_law_757 (by decide) ?_
  refine z_callMf (As := [.int (xs (i + 1)), .int (nI 1)]) (st := []) (C := RX7) (T := TX7) (N := 30) (ci := 7) (l := l) B hl (c7_carry_1 l D g h0 am M h.1 (xs (i + 1))) gL_law_X7_carry rfl ⟨rfl, rfl⟩ nm_X7_carry ⟨by decide, by decide⟩ 0 rfl rfl rfl (Nat.le_of_ble_eq_true rfl) dL_law_761 rfl rfl hk2 hn2 (fun r w2 hr2 => ?_)
  obtain ⟨M', rfl, himp⟩ := hr2
  refine z_swap ?_
  obtain ⟨hκ, f', a', C', rfl, hans, hI', ha'⟩ := sim_carry_1 h hW himp
  refine z_istore (lv1 := [(6, .int r), (5, .int κ), (0, .ref b), (1, .ref (a 0)), (2, .ref h0), (3, .ref o), (4, .int (nI i))]) B dL_law_764 (by decide) rfl ?_
  refine z_aload_n B 4 dL_law_766 rfl rfl ?_
  refine z_callP (As := []) (st := []) (C := RX7) (T := TX7) (N := 30) (ci := 7) (l := l) B hl (c7_thrown l D g h0 am M') gL_law_X7_thrown rfl ⟨rfl, rfl⟩ nm_X7_thrown ⟨by decide, by decide⟩ (fun H hP => (z_sub hP (fun _ q hq => List.mem_append_left _ (List.mem_of_getElem? hq)))) 0 rfl rfl rfl (Nat.le_of_ble_eq_true rfl) dL_law_767 (Nat.le_of_add_right_le hk2) (Nat.le_of_add_right_le hn2) (fun r2 hr2 => ?_)
  refine z_top (y := κ) (hr2.trans hκ) ?_
  refine z_iload B 1 dL_law_770 rfl ?_
  refine z_icmp_eq B 777 dL_law_772 (by decide) (fun _ => ?_) (fun q => absurd rfl q)
  refine z_iload B 1 dL_law_777 rfl ?_
  have fin : zJ X 7 (zI1 D A (zs X)) Q (wM g h0 am M' ++ ((o, .inl (g.2.2.2, 1, .inr (.inl f'))) :: wC g a' C' (4 * cM C'))) (k + 1 + 0) (n + 6 + 0) [(6, .int r), (5, .int κ), (0, .ref b), (1, .ref (a 0)), (2, .ref h0), (3, .ref o), (4, .int (nI i))] 794 [] := by
    refine z_goto B 2506 dL_law_794 (by decide) ?_
    refine z_loc [2, 3, 4, 5, 6] (lv' := [(0, .ref b), (1, .ref (a 0)), (2, .ref h0), (3, .ref o), (4, .int (nI i))]) rfl ?_
    exact z_wid (by omega) (by omega) (kk M' C' f' a' hI' ha')
  refine z_if_ne B 794 dL_law_779 (by decide) (fun _ => fin) (fun hz => ?_)
  have hans := hans hz
  refine z_aload_n B 5 dL_law_782 rfl rfl ?_
  refine z_iconst (v := nI 0) B dL_law_783 (by decide) ?_
  refine z_lald (f := f') (i := 0) (a := o) B 24 3 rfl rfl (by decide) (by decide) dL_law_784 ?_
  refine z_topv (y := .long r.toInt64) (by rw [hans]) ?_
  refine z_iload B 0 dL_law_785 rfl ?_
  refine z_i2l B dL_law_787 ?_
  refine z_lcmp B dL_law_788 ?_
  refine z_top (y := nI 0) (lg_cmp_rfl _) ?_
  exact z_if_eq B 794 dL_law_789 (by decide) (fun _ => fin) (fun q => absurd rfl q)
set_option maxHeartbeats 4000000 in
set_option maxRecDepth 100000 in
theorem lo_rot {X : zX} {l : Launch} {D : va_G} {g : zG} {A : Nat → Prop} {Q : State → Prop} {b L o h0 a0 i k n : Nat} {xs : Nat → Int32} {am a : Nat → Nat} {M C : zMS} {f : Nat → Int64} (hLw : zLaw X l D g A b L xs) (h : INV M C) (ha : a 0 = a0) (hi : i + 5 ≤ L) (hk : k + 6 ≤ 601024) (hn : n + 419 ≤ 7293034) (kk : zKK X D g A Q b o h0 a0 i k n am) : zJ X 7 (zI1 D A (zs X)) Q (wLw g h0 am M o f a C) k n [(0, .ref b), (1, .ref a0), (2, .ref h0), (3, .ref o), (4, .int (nI i))] 797 [] := by
  obtain ⟨B, hLF, hX, hbl, hbA, hL, hl, hst⟩ := hLw
  have hr0 : (wC g a C (4 * cM C))[0]? = some (a0, .inr (6, [.ref (a 1), .ref (a 2), .ref (a 3), .ref (a 4), .ref (a 5), .int (C 0 0)])) := by rw [← ha]; rfl
  subst ha
  refine z_aload_n B 1 dL_law_797 rfl rfl ?_
  refine z_aload_n B 0 dL_law_798 rfl rfl ?_
  refine z_iload B 4 dL_law_799 rfl ?_
  refine z_iconst (v := nI 1) B dL_law_801 (by decide) ?_
  refine z_iaddN B dL_law_802 ?_
  refine z_sld B hX hbl hbA (j := i + 1) (by omega) hL dL_law_803 ?_
  refine z_aload_n B 0 dL_law_804 rfl rfl ?_
  refine z_iload B 4 dL_law_805 rfl ?_
  refine z_iconst (v := nI 2) B dL_law_807 (by decide) ?_
  refine z_iaddN B dL_law_808 ?_
  refine z_sld B hX hbl hbA (j := i + 2) (by omega) hL dL_law_809 ?_
  refine z_aload_n B 3 dL_law_810 rfl rfl ?_
  have hM0 := (cc_X6_rot l D g a C (4 * cM C) hst h.2.1 (Nat.le_refl _) (xs (i + 1)) (xs (i + 2))).L
  have hw0 := fun hE hB => wr_rot l D g o (a 0) f (wC g a C (4 * cM C)) _ hr0 (xs (i + 1)) (xs (i + 2)) _ _ hE hB hM0
  have hk2 : k + 2 + 0 ≤ room_1.cells := by show k + 2 + 0 ≤ 601024; omega
  have hn2 : n + 12 + 0 ≤ room_1.slots := by show n + 12 + 0 ≤ 7293034; omega
  unfold wLw
  refine z_callW (As := [.ref (a 0), .int (xs (i + 1)), .int (xs (i + 2)), .ref o]) (st := []) (hh := [(0, 17, 20, 13)]) B hLF hl (hw0 (fun E w2 hx => hx.2.elim (fun q => q.1) (fun q => q.1)) (fun r w2 hp => b01_rot h hp)) gL_law_L_rot rfl ⟨rfl, rfl⟩ nm_L_rot ⟨by decide, by decide⟩ rfl (Nat.le_of_ble_eq_true rfl) dL_law_811 rfl rfl hk2 hn2 (fun κ w1 hW => ?_)
  refine z_istore (lv1 := [(5, .int κ), (0, .ref b), (1, .ref (a 0)), (2, .ref h0), (3, .ref o), (4, .int (nI i))]) B dL_law_814 (by decide) rfl ?_
  refine z_swap ?_
  refine z_aload_n B 3 dL_law_816 rfl rfl ?_
  refine z_aload_n B 1 dL_law_817 rfl rfl ?_
  refine z_iload B 5 dL_law_818 rfl ?_
  refine z_iconst (v := nI 1) B dL_law_820 (by decide) ?_
  refine z_iaddN B dL_law_821 ?_
  refine z_sld B hX hbl hbA (j := i + 1) (by omega) hL dL_law_822 ?_
  refine z_aload_n B 1 dL_law_823 rfl rfl ?_
  refine z_iload B 5 dL_law_824 rfl ?_
  refine z_iconst (v := nI 2) B dL_law_826 (by decide) ?_
  refine z_iaddN B dL_law_827 ?_
  refine z_sld B hX hbl hbA (j := i + 2) (by omega) hL dL_law_828 ?_
  refine z_callMf (As := [.int (xs (i + 1)), .int (xs (i + 2))]) (st := []) (C := RX7) (T := TX7) (N := 30) (ci := 7) (l := l) B hl (c7_rot l D g h0 am M h.1 (xs (i + 1)) (xs (i + 2))) gL_law_X7_rot rfl ⟨rfl, rfl⟩ nm_X7_rot ⟨by decide, by decide⟩ 0 rfl rfl rfl (Nat.le_of_ble_eq_true rfl) dL_law_829 rfl rfl hk2 hn2 (fun r w2 hr2 => ?_)
  obtain ⟨M', rfl, himp⟩ := hr2
  refine z_swap ?_
  obtain ⟨hκ, f', a', C', rfl, hans, hI', ha'⟩ := sim_rot h hW himp
  have h01 := r01_rot h himp
  refine z_istore (lv1 := [(6, .int r), (5, .int κ), (0, .ref b), (1, .ref (a 0)), (2, .ref h0), (3, .ref o), (4, .int (nI i))]) B dL_law_832 (by decide) rfl ?_
  refine z_aload_n B 4 dL_law_834 rfl rfl ?_
  refine z_callP (As := []) (st := []) (C := RX7) (T := TX7) (N := 30) (ci := 7) (l := l) B hl (c7_thrown l D g h0 am M') gL_law_X7_thrown rfl ⟨rfl, rfl⟩ nm_X7_thrown ⟨by decide, by decide⟩ (fun H hP => (z_sub hP (fun _ q hq => List.mem_append_left _ (List.mem_of_getElem? hq)))) 0 rfl rfl rfl (Nat.le_of_ble_eq_true rfl) dL_law_835 (Nat.le_of_add_right_le hk2) (Nat.le_of_add_right_le hn2) (fun r2 hr2 => ?_)
  refine z_top (y := κ) (hr2.trans hκ) ?_
  refine z_iload B 1 dL_law_838 rfl ?_
  refine z_icmp_eq B 845 dL_law_840 (by decide) (fun _ => ?_) (fun q => absurd rfl q)
  refine z_iload B 1 dL_law_845 rfl ?_
  have fin : zJ X 7 (zI1 D A (zs X)) Q (wM g h0 am M' ++ ((o, .inl (g.2.2.2, 1, .inr (.inl f'))) :: wC g a' C' (4 * cM C'))) (k + 2 + 0) (n + 12 + 0) [(6, .int r), (5, .int κ), (0, .ref b), (1, .ref (a 0)), (2, .ref h0), (3, .ref o), (4, .int (nI i))] 869 [] := by
    refine z_goto B 2506 dL_law_869 (by decide) ?_
    refine z_loc [2, 3, 4, 5, 6] (lv' := [(0, .ref b), (1, .ref (a 0)), (2, .ref h0), (3, .ref o), (4, .int (nI i))]) rfl ?_
    exact z_wid (by omega) (by omega) (kk M' C' f' a' hI' ha')
  refine z_if_ne B 869 dL_law_847 (by decide) (fun _ => fin) (fun hz => ?_)
  have hans := hans hz
  have h01 := h01 (hκ.trans hz)
  refine z_aload_n B 5 dL_law_850 rfl rfl ?_
  refine z_iconst (v := nI 0) B dL_law_851 (by decide) ?_
  refine z_lald (f := f') (i := 0) (a := o) B 24 3 rfl rfl (by decide) (by decide) dL_law_852 ?_
  refine z_topv (y := .long r.toInt64) (by rw [hans]) ?_
  refine z_iload B 0 dL_law_853 rfl ?_
  rcases h01 with rfl | rfl
  · refine z_if_eq B 862 dL_law_855 (by decide) (fun _ => ?_) (fun q => absurd rfl q)
    refine z_lconst (v := (0 : Int32).toInt64) B dL_law_862 (by decide) ?_
    refine z_lcmp B dL_law_863 ?_
    refine z_top (y := nI 0) (lg_cmp_rfl _) ?_
    exact z_if_eq B 869 dL_law_864 (by decide) (fun _ => fin) (fun q => absurd rfl q)
  · refine z_if_eq B 862 dL_law_855 (by decide) (fun q => absurd q (by decide)) (fun _ => ?_)
    refine z_lconst (v := (1 : Int32).toInt64) B dL_law_858 (by decide) ?_
    refine z_goto B 863 dL_law_859 (by decide) ?_
    refine z_lcmp B dL_law_863 ?_
    refine z_top (y := nI 0) (lg_cmp_rfl _) ?_
    exact z_if_eq B 869 dL_law_864 (by decide) (fun _ => fin) (fun q => absurd rfl q)
set_option maxHeartbeats 4000000 in
set_option maxRecDepth 100000 in
theorem lo_throwAway {X : zX} {l : Launch} {D : va_G} {g : zG} {A : Nat → Prop} {Q : State → Prop} {b L o h0 a0 i k n : Nat} {xs : Nat → Int32} {am a : Nat → Nat} {M C : zMS} {f : Nat → Int64} (hLw : zLaw X l D g A b L xs) (h : INV M C) (ha : a 0 = a0) (hi : i + 5 ≤ L) (hk : k + 6 ≤ 601024) (hn : n + 419 ≤ 7293034) (hn0 : ∀ i j, i < 30 + 4 * cM C → j < 30 + 4 * cM C → a i = a j → i = j) (kk : zKK X D g A Q b o h0 a0 i k n am) : zJ X 7 (zI1 D A (zs X)) Q (wLw g h0 am M o f a C) k n [(0, .ref b), (1, .ref a0), (2, .ref h0), (3, .ref o), (4, .int (nI i))] 872 [] := by
  obtain ⟨B, hLF, hX, hbl, hbA, hL, hl, hst⟩ := hLw
  have hr0 : (wC g a C (4 * cM C))[0]? = some (a0, .inr (6, [.ref (a 1), .ref (a 2), .ref (a 3), .ref (a 4), .ref (a 5), .int (C 0 0)])) := by rw [← ha]; rfl
  subst ha
  refine z_aload_n B 1 dL_law_872 rfl rfl ?_
  refine z_aload_n B 0 dL_law_873 rfl rfl ?_
  refine z_iload B 4 dL_law_874 rfl ?_
  refine z_iconst (v := nI 1) B dL_law_876 (by decide) ?_
  refine z_iaddN B dL_law_877 ?_
  refine z_sld B hX hbl hbA (j := i + 1) (by omega) hL dL_law_878 ?_
  refine z_aload_n B 3 dL_law_879 rfl rfl ?_
  have hM0 := (cc_X6_throwAway l D g a C (4 * cM C) hst h.2.1 (Nat.le_refl _) (i_CJ h) hn0 (xs (i + 1))).L
  have hw0 := fun hE => wr_throwAway l D g o (a 0) f (wC g a C (4 * cM C)) _ hr0 (xs (i + 1)) _ _ hE hM0
  have hk2 : k + 2 + 0 ≤ room_1.cells := by show k + 2 + 0 ≤ 601024; omega
  have hn2 : n + 12 + 0 ≤ room_1.slots := by show n + 12 + 0 ≤ 7293034; omega
  unfold wLw
  refine z_callW (As := [.ref (a 0), .int (xs (i + 1)), .ref o]) (st := []) (hh := [(0, 9, 12, 13), (0, 9, 15, 17)]) B hLF hl (hw0 (fun E w2 hx => (fun hx => hx.elim (fun q => Or.inl q.1) (fun q => Or.inr (q.1))) hx.2)) gL_law_L_throwAway rfl ⟨rfl, rfl⟩ nm_L_throwAway ⟨by decide, by decide⟩ rfl (Nat.le_of_ble_eq_true rfl) dL_law_880 rfl rfl hk2 hn2 (fun κ w1 hW => ?_)
  refine z_istore (lv1 := [(5, .int κ), (0, .ref b), (1, .ref (a 0)), (2, .ref h0), (3, .ref o), (4, .int (nI i))]) B dL_law_883 (by decide) rfl ?_
  refine z_swap ?_
  refine z_aload_n B 3 dL_law_885 rfl rfl ?_
  refine z_aload_n B 1 dL_law_886 rfl rfl ?_
  refine z_iload B 5 dL_law_887 rfl ?_
  refine z_iconst (v := nI 1) B dL_law_889 (by decide) ?_
  refine z_iaddN B dL_law_890 ?_
  refine z_sld B hX hbl hbA (j := i + 1) (by omega) hL dL_law_891 ?_
  refine z_callMf (As := [.int (xs (i + 1))]) (st := []) (C := RX7) (T := TX7) (N := 30) (ci := 7) (l := l) B hl (c7_throwAway l D g h0 am M h.1 (xs (i + 1))) gL_law_X7_throwAway rfl ⟨rfl, rfl⟩ nm_X7_throwAway ⟨by decide, by decide⟩ 0 rfl rfl rfl (Nat.le_of_ble_eq_true rfl) dL_law_892 rfl rfl hk2 hn2 (fun r w2 hr2 => ?_)
  obtain ⟨M', rfl, himp⟩ := hr2
  refine z_swap ?_
  obtain ⟨hκ, f', a', C', rfl, hans, hI', ha'⟩ := sim_throwAway h hW himp
  refine z_istore (lv1 := [(6, .int r), (5, .int κ), (0, .ref b), (1, .ref (a 0)), (2, .ref h0), (3, .ref o), (4, .int (nI i))]) B dL_law_895 (by decide) rfl ?_
  refine z_aload_n B 4 dL_law_897 rfl rfl ?_
  refine z_callP (As := []) (st := []) (C := RX7) (T := TX7) (N := 30) (ci := 7) (l := l) B hl (c7_thrown l D g h0 am M') gL_law_X7_thrown rfl ⟨rfl, rfl⟩ nm_X7_thrown ⟨by decide, by decide⟩ (fun H hP => (z_sub hP (fun _ q hq => List.mem_append_left _ (List.mem_of_getElem? hq)))) 0 rfl rfl rfl (Nat.le_of_ble_eq_true rfl) dL_law_898 (Nat.le_of_add_right_le hk2) (Nat.le_of_add_right_le hn2) (fun r2 hr2 => ?_)
  refine z_top (y := κ) (hr2.trans hκ) ?_
  refine z_iload B 1 dL_law_901 rfl ?_
  refine z_icmp_eq B 908 dL_law_903 (by decide) (fun _ => ?_) (fun q => absurd rfl q)
  refine z_iload B 1 dL_law_908 rfl ?_
  have fin : zJ X 7 (zI1 D A (zs X)) Q (wM g h0 am M' ++ ((o, .inl (g.2.2.2, 1, .inr (.inl f'))) :: wC g a' C' (4 * cM C'))) (k + 2 + 0) (n + 12 + 0) [(6, .int r), (5, .int κ), (0, .ref b), (1, .ref (a 0)), (2, .ref h0), (3, .ref o), (4, .int (nI i))] 925 [] := by
    refine z_goto B 2506 dL_law_925 (by decide) ?_
    refine z_loc [2, 3, 4, 5, 6] (lv' := [(0, .ref b), (1, .ref (a 0)), (2, .ref h0), (3, .ref o), (4, .int (nI i))]) rfl ?_
    exact z_wid (by omega) (by omega) (kk M' C' f' a' hI' ha')
  refine z_if_ne B 925 dL_law_910 (by decide) (fun _ => fin) (fun hz => ?_)
  have hans := hans hz
  refine z_aload_n B 5 dL_law_913 rfl rfl ?_
  refine z_iconst (v := nI 0) B dL_law_914 (by decide) ?_
  refine z_lald (f := f') (i := 0) (a := o) B 24 3 rfl rfl (by decide) (by decide) dL_law_915 ?_
  refine z_topv (y := .long r.toInt64) (by rw [hans]) ?_
  refine z_iload B 0 dL_law_916 rfl ?_
  refine z_i2l B dL_law_918 ?_
  refine z_lcmp B dL_law_919 ?_
  refine z_top (y := nI 0) (lg_cmp_rfl _) ?_
  exact z_if_eq B 925 dL_law_920 (by decide) (fun _ => fin) (fun q => absurd rfl q)
set_option maxHeartbeats 4000000 in
set_option maxRecDepth 100000 in
theorem lo_restore {X : zX} {l : Launch} {D : va_G} {g : zG} {A : Nat → Prop} {Q : State → Prop} {b L o h0 a0 i k n : Nat} {xs : Nat → Int32} {am a : Nat → Nat} {M C : zMS} {f : Nat → Int64} (hLw : zLaw X l D g A b L xs) (h : INV M C) (ha : a 0 = a0) (hi : i + 5 ≤ L) (hk : k + 6 ≤ 601024) (hn : n + 419 ≤ 7293034) (kk : zKK X D g A Q b o h0 a0 i k n am) : zJ X 7 (zI1 D A (zs X)) Q (wLw g h0 am M o f a C) k n [(0, .ref b), (1, .ref a0), (2, .ref h0), (3, .ref o), (4, .int (nI i))] 928 [] := by
  obtain ⟨B, hLF, hX, hbl, hbA, hL, hl, hst⟩ := hLw
  have hr0 : (wC g a C (4 * cM C))[0]? = some (a0, .inr (6, [.ref (a 1), .ref (a 2), .ref (a 3), .ref (a 4), .ref (a 5), .int (C 0 0)])) := by rw [← ha]; rfl
  subst ha
  refine z_aload_n B 1 dL_law_928 rfl rfl ?_
  refine z_aload_n B 0 dL_law_929 rfl rfl ?_
  refine z_iload B 4 dL_law_930 rfl ?_
  refine z_iconst (v := nI 1) B dL_law_932 (by decide) ?_
  refine z_iaddN B dL_law_933 ?_
  refine z_sld B hX hbl hbA (j := i + 1) (by omega) hL dL_law_934 ?_
  refine z_aload_n B 3 dL_law_935 rfl rfl ?_
  have hM0 := (cc_X6_restore l D g a C (4 * cM C) hst h.2.1 (Nat.le_refl _) (i_CJ h) (xs (i + 1))).L
  have hw0 := fun hE => wr_restore l D g o (a 0) f (wC g a C (4 * cM C)) _ hr0 (xs (i + 1)) _ _ hE hM0
  have hk2 : k + 2 + 0 ≤ room_1.cells := by show k + 2 + 0 ≤ 601024; omega
  have hn2 : n + 12 + 0 ≤ room_1.slots := by show n + 12 + 0 ≤ 7293034; omega
  unfold wLw
  refine z_callW (As := [.ref (a 0), .int (xs (i + 1)), .ref o]) (st := []) (hh := [(0, 9, 12, 13), (0, 9, 15, 17)]) B hLF hl (hw0 (fun E w2 hx => (fun hx => hx.elim (fun q => Or.inl q.1) (fun q => Or.inr (q.1))) hx.2)) gL_law_L_restore rfl ⟨rfl, rfl⟩ nm_L_restore ⟨by decide, by decide⟩ rfl (Nat.le_of_ble_eq_true rfl) dL_law_936 rfl rfl hk2 hn2 (fun κ w1 hW => ?_)
  refine z_istore (lv1 := [(5, .int κ), (0, .ref b), (1, .ref (a 0)), (2, .ref h0), (3, .ref o), (4, .int (nI i))]) B dL_law_939 (by decide) rfl ?_
  refine z_swap ?_
  refine z_aload_n B 3 dL_law_941 rfl rfl ?_
  refine z_aload_n B 1 dL_law_942 rfl rfl ?_
  refine z_iload B 5 dL_law_943 rfl ?_
  refine z_iconst (v := nI 1) B dL_law_945 (by decide) ?_
  refine z_iaddN B dL_law_946 ?_
  refine z_sld B hX hbl hbA (j := i + 1) (by omega) hL dL_law_947 ?_
  refine z_callMf (As := [.int (xs (i + 1))]) (st := []) (C := RX7) (T := TX7) (N := 30) (ci := 7) (l := l) B hl (c7_restore l D g h0 am M h.1 (i_MJ h) (xs (i + 1))) gL_law_X7_restore rfl ⟨rfl, rfl⟩ nm_X7_restore ⟨by decide, by decide⟩ 0 rfl rfl rfl (Nat.le_of_ble_eq_true rfl) dL_law_948 rfl rfl hk2 hn2 (fun r w2 hr2 => ?_)
  obtain ⟨M', rfl, himp⟩ := hr2
  refine z_swap ?_
  obtain ⟨hκ, f', a', C', rfl, hans, hI', ha'⟩ := sim_restore h hW himp
  refine z_istore (lv1 := [(6, .int r), (5, .int κ), (0, .ref b), (1, .ref (a 0)), (2, .ref h0), (3, .ref o), (4, .int (nI i))]) B dL_law_951 (by decide) rfl ?_
  refine z_aload_n B 4 dL_law_953 rfl rfl ?_
  refine z_callP (As := []) (st := []) (C := RX7) (T := TX7) (N := 30) (ci := 7) (l := l) B hl (c7_thrown l D g h0 am M') gL_law_X7_thrown rfl ⟨rfl, rfl⟩ nm_X7_thrown ⟨by decide, by decide⟩ (fun H hP => (z_sub hP (fun _ q hq => List.mem_append_left _ (List.mem_of_getElem? hq)))) 0 rfl rfl rfl (Nat.le_of_ble_eq_true rfl) dL_law_954 (Nat.le_of_add_right_le hk2) (Nat.le_of_add_right_le hn2) (fun r2 hr2 => ?_)
  refine z_top (y := κ) (hr2.trans hκ) ?_
  refine z_iload B 1 dL_law_957 rfl ?_
  refine z_icmp_eq B 964 dL_law_959 (by decide) (fun _ => ?_) (fun q => absurd rfl q)
  refine z_iload B 1 dL_law_964 rfl ?_
  have fin : zJ X 7 (zI1 D A (zs X)) Q (wM g h0 am M' ++ ((o, .inl (g.2.2.2, 1, .inr (.inl f'))) :: wC g a' C' (4 * cM C'))) (k + 2 + 0) (n + 12 + 0) [(6, .int r), (5, .int κ), (0, .ref b), (1, .ref (a 0)), (2, .ref h0), (3, .ref o), (4, .int (nI i))] 981 [] := by
    refine z_goto B 2506 dL_law_981 (by decide) ?_
    refine z_loc [2, 3, 4, 5, 6] (lv' := [(0, .ref b), (1, .ref (a 0)), (2, .ref h0), (3, .ref o), (4, .int (nI i))]) rfl ?_
    exact z_wid (by omega) (by omega) (kk M' C' f' a' hI' ha')
  refine z_if_ne B 981 dL_law_966 (by decide) (fun _ => fin) (fun hz => ?_)
  have hans := hans hz
  refine z_aload_n B 5 dL_law_969 rfl rfl ?_
  refine z_iconst (v := nI 0) B dL_law_970 (by decide) ?_
  refine z_lald (f := f') (i := 0) (a := o) B 24 3 rfl rfl (by decide) (by decide) dL_law_971 ?_
  refine z_topv (y := .long r.toInt64) (by rw [hans]) ?_
  refine z_iload B 0 dL_law_972 rfl ?_
  refine z_i2l B dL_law_974 ?_
  refine z_lcmp B dL_law_975 ?_
  refine z_top (y := nI 0) (lg_cmp_rfl _) ?_
  exact z_if_eq B 981 dL_law_976 (by decide) (fun _ => fin) (fun q => absurd rfl q)
set_option maxHeartbeats 4000000 in
set_option maxRecDepth 100000 in
theorem lo_open {X : zX} {l : Launch} {D : va_G} {g : zG} {A : Nat → Prop} {Q : State → Prop} {b L o h0 a0 i k n : Nat} {xs : Nat → Int32} {am a : Nat → Nat} {M C : zMS} {f : Nat → Int64} (hLw : zLaw X l D g A b L xs) (h : INV M C) (ha : a 0 = a0) (hi : i + 5 ≤ L) (hk : k + 6 ≤ 601024) (hn : n + 419 ≤ 7293034) (kk : zKK X D g A Q b o h0 a0 i k n am) : zJ X 7 (zI1 D A (zs X)) Q (wLw g h0 am M o f a C) k n [(0, .ref b), (1, .ref a0), (2, .ref h0), (3, .ref o), (4, .int (nI i))] 984 [] := by
  obtain ⟨B, hLF, hX, hbl, hbA, hL, hl, hst⟩ := hLw
  have hr0 : (wC g a C (4 * cM C))[0]? = some (a0, .inr (6, [.ref (a 1), .ref (a 2), .ref (a 3), .ref (a 4), .ref (a 5), .int (C 0 0)])) := by rw [← ha]; rfl
  subst ha
  refine z_aload_n B 1 dL_law_984 rfl rfl ?_
  refine z_aload_n B 3 dL_law_985 rfl rfl ?_
  have hM0 := (cc_X6_open l D g a C (4 * cM C) hst h.2.1 ).L
  have hw0 := fun hE => wr_open l D g o (a 0) f (wC g a C (4 * cM C)) _ hr0  _ _ hE hM0
  have hk2 : k + 1 + 0 ≤ room_1.cells := by show k + 1 + 0 ≤ 601024; omega
  have hn2 : n + 6 + 0 ≤ room_1.slots := by show n + 6 + 0 ≤ 7293034; omega
  unfold wLw
  refine z_callW (As := [.ref (a 0), .ref o]) (st := []) (hh := [(0, 8, 11, 17)]) B hLF hl (hw0 (fun E w2 hx => hx.2.1)) gL_law_L_open rfl ⟨rfl, rfl⟩ nm_L_open ⟨by decide, by decide⟩ rfl (Nat.le_of_ble_eq_true rfl) dL_law_986 rfl rfl hk2 hn2 (fun κ w1 hW => ?_)
  refine z_istore (lv1 := [(5, .int κ), (0, .ref b), (1, .ref (a 0)), (2, .ref h0), (3, .ref o), (4, .int (nI i))]) B dL_law_989 (by decide) rfl ?_
  refine z_swap ?_
  refine z_aload_n B 3 dL_law_991 rfl rfl ?_
  refine z_callMf (As := []) (st := []) (C := RX7) (T := TX7) (N := 30) (ci := 7) (l := l) B hl (c7_open l D g h0 am M h.1 ) gL_law_X7_open rfl ⟨rfl, rfl⟩ nm_X7_open ⟨by decide, by decide⟩ 0 rfl rfl rfl (Nat.le_of_ble_eq_true rfl) dL_law_992 rfl rfl hk2 hn2 (fun r w2 hr2 => ?_)
  obtain ⟨M', rfl, himp⟩ := hr2
  refine z_swap ?_
  obtain ⟨hκ, f', a', C', rfl, hans, hI', ha'⟩ := sim_open h hW himp
  refine z_istore (lv1 := [(6, .int r), (5, .int κ), (0, .ref b), (1, .ref (a 0)), (2, .ref h0), (3, .ref o), (4, .int (nI i))]) B dL_law_995 (by decide) rfl ?_
  refine z_aload_n B 4 dL_law_997 rfl rfl ?_
  refine z_callP (As := []) (st := []) (C := RX7) (T := TX7) (N := 30) (ci := 7) (l := l) B hl (c7_thrown l D g h0 am M') gL_law_X7_thrown rfl ⟨rfl, rfl⟩ nm_X7_thrown ⟨by decide, by decide⟩ (fun H hP => (z_sub hP (fun _ q hq => List.mem_append_left _ (List.mem_of_getElem? hq)))) 0 rfl rfl rfl (Nat.le_of_ble_eq_true rfl) dL_law_998 (Nat.le_of_add_right_le hk2) (Nat.le_of_add_right_le hn2) (fun r2 hr2 => ?_)
  refine z_top (y := κ) (hr2.trans hκ) ?_
  refine z_iload B 1 dL_law_1001 rfl ?_
  refine z_icmp_eq B 1008 dL_law_1003 (by decide) (fun _ => ?_) (fun q => absurd rfl q)
  refine z_iload B 1 dL_law_1008 rfl ?_
  have fin : zJ X 7 (zI1 D A (zs X)) Q (wM g h0 am M' ++ ((o, .inl (g.2.2.2, 1, .inr (.inl f'))) :: wC g a' C' (4 * cM C'))) (k + 1 + 0) (n + 6 + 0) [(6, .int r), (5, .int κ), (0, .ref b), (1, .ref (a 0)), (2, .ref h0), (3, .ref o), (4, .int (nI i))] 1025 [] := by
    refine z_goto B 2506 dL_law_1025 (by decide) ?_
    refine z_loc [2, 3, 4, 5, 6] (lv' := [(0, .ref b), (1, .ref (a 0)), (2, .ref h0), (3, .ref o), (4, .int (nI i))]) rfl ?_
    exact z_wid (by omega) (by omega) (kk M' C' f' a' hI' ha')
  refine z_if_ne B 1025 dL_law_1010 (by decide) (fun _ => fin) (fun hz => ?_)
  have hans := hans hz
  refine z_aload_n B 5 dL_law_1013 rfl rfl ?_
  refine z_iconst (v := nI 0) B dL_law_1014 (by decide) ?_
  refine z_lald (f := f') (i := 0) (a := o) B 24 3 rfl rfl (by decide) (by decide) dL_law_1015 ?_
  refine z_topv (y := .long r.toInt64) (by rw [hans]) ?_
  refine z_iload B 0 dL_law_1016 rfl ?_
  refine z_i2l B dL_law_1018 ?_
  refine z_lcmp B dL_law_1019 ?_
  refine z_top (y := nI 0) (lg_cmp_rfl _) ?_
  exact z_if_eq B 1025 dL_law_1020 (by decide) (fun _ => fin) (fun q => absurd rfl q)
set_option maxHeartbeats 4000000 in
set_option maxRecDepth 100000 in
theorem lo_close {X : zX} {l : Launch} {D : va_G} {g : zG} {A : Nat → Prop} {Q : State → Prop} {b L o h0 a0 i k n : Nat} {xs : Nat → Int32} {am a : Nat → Nat} {M C : zMS} {f : Nat → Int64} (hLw : zLaw X l D g A b L xs) (h : INV M C) (ha : a 0 = a0) (hi : i + 5 ≤ L) (hk : k + 6 ≤ 601024) (hn : n + 419 ≤ 7293034) (kk : zKK X D g A Q b o h0 a0 i k n am) : zJ X 7 (zI1 D A (zs X)) Q (wLw g h0 am M o f a C) k n [(0, .ref b), (1, .ref a0), (2, .ref h0), (3, .ref o), (4, .int (nI i))] 1028 [] := by
  obtain ⟨B, hLF, hX, hbl, hbA, hL, hl, hst⟩ := hLw
  have hr0 : (wC g a C (4 * cM C))[0]? = some (a0, .inr (6, [.ref (a 1), .ref (a 2), .ref (a 3), .ref (a 4), .ref (a 5), .int (C 0 0)])) := by rw [← ha]; rfl
  subst ha
  refine z_aload_n B 1 dL_law_1028 rfl rfl ?_
  refine z_aload_n B 0 dL_law_1029 rfl rfl ?_
  refine z_iload B 4 dL_law_1030 rfl ?_
  refine z_iconst (v := nI 1) B dL_law_1032 (by decide) ?_
  refine z_iaddN B dL_law_1033 ?_
  refine z_sld B hX hbl hbA (j := i + 1) (by omega) hL dL_law_1034 ?_
  refine z_aload_n B 3 dL_law_1035 rfl rfl ?_
  have hM0 := (cc_X6_close l D g a C (4 * cM C) hst h.2.1 (xs (i + 1))).L
  have hw0 := fun hE => wr_close l D g o (a 0) f (wC g a C (4 * cM C)) _ hr0 (xs (i + 1)) _ _ hE hM0
  have hk2 : k + 2 + 0 ≤ room_1.cells := by show k + 2 + 0 ≤ 601024; omega
  have hn2 : n + 12 + 0 ≤ room_1.slots := by show n + 12 + 0 ≤ 7293034; omega
  unfold wLw
  refine z_callW (As := [.ref (a 0), .int (xs (i + 1)), .ref o]) (st := []) (hh := [(0, 9, 12, 13), (0, 9, 15, 17)]) B hLF hl (hw0 (fun E w2 hx => (fun hx => hx.elim (fun q => Or.inl q.1) (fun q => Or.inr (q.1))) hx.2)) gL_law_L_close rfl ⟨rfl, rfl⟩ nm_L_close ⟨by decide, by decide⟩ rfl (Nat.le_of_ble_eq_true rfl) dL_law_1036 rfl rfl hk2 hn2 (fun κ w1 hW => ?_)
  refine z_istore (lv1 := [(5, .int κ), (0, .ref b), (1, .ref (a 0)), (2, .ref h0), (3, .ref o), (4, .int (nI i))]) B dL_law_1039 (by decide) rfl ?_
  refine z_swap ?_
  refine z_aload_n B 3 dL_law_1041 rfl rfl ?_
  refine z_aload_n B 1 dL_law_1042 rfl rfl ?_
  refine z_iload B 5 dL_law_1043 rfl ?_
  refine z_iconst (v := nI 1) B dL_law_1045 (by decide) ?_
  refine z_iaddN B dL_law_1046 ?_
  refine z_sld B hX hbl hbA (j := i + 1) (by omega) hL dL_law_1047 ?_
  refine z_callMf (As := [.int (xs (i + 1))]) (st := []) (C := RX7) (T := TX7) (N := 30) (ci := 7) (l := l) B hl (c7_close l D g h0 am M h.1 (xs (i + 1))) gL_law_X7_close rfl ⟨rfl, rfl⟩ nm_X7_close ⟨by decide, by decide⟩ 0 rfl rfl rfl (Nat.le_of_ble_eq_true rfl) dL_law_1048 rfl rfl hk2 hn2 (fun r w2 hr2 => ?_)
  obtain ⟨M', rfl, himp⟩ := hr2
  refine z_swap ?_
  obtain ⟨hκ, f', a', C', rfl, hans, hI', ha'⟩ := sim_close h hW himp
  refine z_istore (lv1 := [(6, .int r), (5, .int κ), (0, .ref b), (1, .ref (a 0)), (2, .ref h0), (3, .ref o), (4, .int (nI i))]) B dL_law_1051 (by decide) rfl ?_
  refine z_aload_n B 4 dL_law_1053 rfl rfl ?_
  refine z_callP (As := []) (st := []) (C := RX7) (T := TX7) (N := 30) (ci := 7) (l := l) B hl (c7_thrown l D g h0 am M') gL_law_X7_thrown rfl ⟨rfl, rfl⟩ nm_X7_thrown ⟨by decide, by decide⟩ (fun H hP => (z_sub hP (fun _ q hq => List.mem_append_left _ (List.mem_of_getElem? hq)))) 0 rfl rfl rfl (Nat.le_of_ble_eq_true rfl) dL_law_1054 (Nat.le_of_add_right_le hk2) (Nat.le_of_add_right_le hn2) (fun r2 hr2 => ?_)
  refine z_top (y := κ) (hr2.trans hκ) ?_
  refine z_iload B 1 dL_law_1057 rfl ?_
  refine z_icmp_eq B 1064 dL_law_1059 (by decide) (fun _ => ?_) (fun q => absurd rfl q)
  refine z_iload B 1 dL_law_1064 rfl ?_
  have fin : zJ X 7 (zI1 D A (zs X)) Q (wM g h0 am M' ++ ((o, .inl (g.2.2.2, 1, .inr (.inl f'))) :: wC g a' C' (4 * cM C'))) (k + 2 + 0) (n + 12 + 0) [(6, .int r), (5, .int κ), (0, .ref b), (1, .ref (a 0)), (2, .ref h0), (3, .ref o), (4, .int (nI i))] 1081 [] := by
    refine z_goto B 2506 dL_law_1081 (by decide) ?_
    refine z_loc [2, 3, 4, 5, 6] (lv' := [(0, .ref b), (1, .ref (a 0)), (2, .ref h0), (3, .ref o), (4, .int (nI i))]) rfl ?_
    exact z_wid (by omega) (by omega) (kk M' C' f' a' hI' ha')
  refine z_if_ne B 1081 dL_law_1066 (by decide) (fun _ => fin) (fun hz => ?_)
  have hans := hans hz
  refine z_aload_n B 5 dL_law_1069 rfl rfl ?_
  refine z_iconst (v := nI 0) B dL_law_1070 (by decide) ?_
  refine z_lald (f := f') (i := 0) (a := o) B 24 3 rfl rfl (by decide) (by decide) dL_law_1071 ?_
  refine z_topv (y := .long r.toInt64) (by rw [hans]) ?_
  refine z_iload B 0 dL_law_1072 rfl ?_
  refine z_i2l B dL_law_1074 ?_
  refine z_lcmp B dL_law_1075 ?_
  refine z_top (y := nI 0) (lg_cmp_rfl _) ?_
  exact z_if_eq B 1081 dL_law_1076 (by decide) (fun _ => fin) (fun q => absurd rfl q)
set_option maxHeartbeats 4000000 in
set_option maxRecDepth 100000 in
theorem lo_hold {X : zX} {l : Launch} {D : va_G} {g : zG} {A : Nat → Prop} {Q : State → Prop} {b L o h0 a0 i k n : Nat} {xs : Nat → Int32} {am a : Nat → Nat} {M C : zMS} {f : Nat → Int64} (hLw : zLaw X l D g A b L xs) (h : INV M C) (ha : a 0 = a0) (hi : i + 5 ≤ L) (hk : k + 6 ≤ 601024) (hn : n + 419 ≤ 7293034) (kk : zKK X D g A Q b o h0 a0 i k n am) : zJ X 7 (zI1 D A (zs X)) Q (wLw g h0 am M o f a C) k n [(0, .ref b), (1, .ref a0), (2, .ref h0), (3, .ref o), (4, .int (nI i))] 1084 [] := by
  obtain ⟨B, hLF, hX, hbl, hbA, hL, hl, hst⟩ := hLw
  have hr0 : (wC g a C (4 * cM C))[0]? = some (a0, .inr (6, [.ref (a 1), .ref (a 2), .ref (a 3), .ref (a 4), .ref (a 5), .int (C 0 0)])) := by rw [← ha]; rfl
  subst ha
  refine z_aload_n B 1 dL_law_1084 rfl rfl ?_
  refine z_aload_n B 0 dL_law_1085 rfl rfl ?_
  refine z_iload B 4 dL_law_1086 rfl ?_
  refine z_iconst (v := nI 1) B dL_law_1088 (by decide) ?_
  refine z_iaddN B dL_law_1089 ?_
  refine z_sld B hX hbl hbA (j := i + 1) (by omega) hL dL_law_1090 ?_
  refine z_aload_n B 0 dL_law_1091 rfl rfl ?_
  refine z_iload B 4 dL_law_1092 rfl ?_
  refine z_iconst (v := nI 2) B dL_law_1094 (by decide) ?_
  refine z_iaddN B dL_law_1095 ?_
  refine z_sld B hX hbl hbA (j := i + 2) (by omega) hL dL_law_1096 ?_
  refine z_aload_n B 0 dL_law_1097 rfl rfl ?_
  refine z_iload B 4 dL_law_1098 rfl ?_
  refine z_iconst (v := nI 3) B dL_law_1100 (by decide) ?_
  refine z_iaddN B dL_law_1101 ?_
  refine z_sld B hX hbl hbA (j := i + 3) (by omega) hL dL_law_1102 ?_
  refine z_aload_n B 0 dL_law_1103 rfl rfl ?_
  refine z_iload B 4 dL_law_1104 rfl ?_
  refine z_iconst (v := nI 4) B dL_law_1106 (by decide) ?_
  refine z_iaddN B dL_law_1107 ?_
  refine z_sld B hX hbl hbA (j := i + 4) (by omega) hL dL_law_1108 ?_
  refine z_aload_n B 3 dL_law_1109 rfl rfl ?_
  have hM0 := (cc_X6_hold l D g a C (4 * cM C) hst h.2.1 (xs (i + 1)) (xs (i + 2)) (xs (i + 3)) (xs (i + 4))).L
  have hw0 := fun hE => wr_hold l D g o (a 0) f (wC g a C (4 * cM C)) _ hr0 (xs (i + 1)) (xs (i + 2)) (xs (i + 3)) (xs (i + 4)) _ _ hE hM0
  have hk2 : k + 3 + 0 ≤ room_1.cells := by show k + 3 + 0 ≤ 601024; omega
  have hn2 : n + 18 + 0 ≤ room_1.slots := by show n + 18 + 0 ≤ 7293034; omega
  unfold wLw
  refine z_callW (As := [.ref (a 0), .int (xs (i + 1)), .int (xs (i + 2)), .int (xs (i + 3)), .int (xs (i + 4)), .ref o]) (st := []) (hh := [(0, 14, 17, 13), (0, 14, 21, 15), (0, 14, 25, 17)]) B hLF hl (hw0 (fun E w2 hx => (fun hx => hx.elim (fun q => Or.inl q.1) (fun hx => hx.elim (fun q => Or.inl q.1) (fun hx => hx.elim (fun q => Or.inr (Or.inl q.1)) (fun q => Or.inr (Or.inr (q.1)))))) hx.2)) gL_law_L_hold rfl ⟨rfl, rfl⟩ nm_L_hold ⟨by decide, by decide⟩ rfl (Nat.le_of_ble_eq_true rfl) dL_law_1110 rfl rfl hk2 hn2 (fun κ w1 hW => ?_)
  refine z_istore (lv1 := [(5, .int κ), (0, .ref b), (1, .ref (a 0)), (2, .ref h0), (3, .ref o), (4, .int (nI i))]) B dL_law_1113 (by decide) rfl ?_
  refine z_swap ?_
  refine z_aload_n B 3 dL_law_1115 rfl rfl ?_
  refine z_aload_n B 1 dL_law_1116 rfl rfl ?_
  refine z_iload B 5 dL_law_1117 rfl ?_
  refine z_iconst (v := nI 1) B dL_law_1119 (by decide) ?_
  refine z_iaddN B dL_law_1120 ?_
  refine z_sld B hX hbl hbA (j := i + 1) (by omega) hL dL_law_1121 ?_
  refine z_aload_n B 1 dL_law_1122 rfl rfl ?_
  refine z_iload B 5 dL_law_1123 rfl ?_
  refine z_iconst (v := nI 2) B dL_law_1125 (by decide) ?_
  refine z_iaddN B dL_law_1126 ?_
  refine z_sld B hX hbl hbA (j := i + 2) (by omega) hL dL_law_1127 ?_
  refine z_aload_n B 1 dL_law_1128 rfl rfl ?_
  refine z_iload B 5 dL_law_1129 rfl ?_
  refine z_iconst (v := nI 3) B dL_law_1131 (by decide) ?_
  refine z_iaddN B dL_law_1132 ?_
  refine z_sld B hX hbl hbA (j := i + 3) (by omega) hL dL_law_1133 ?_
  refine z_aload_n B 1 dL_law_1134 rfl rfl ?_
  refine z_iload B 5 dL_law_1135 rfl ?_
  refine z_iconst (v := nI 4) B dL_law_1137 (by decide) ?_
  refine z_iaddN B dL_law_1138 ?_
  refine z_sld B hX hbl hbA (j := i + 4) (by omega) hL dL_law_1139 ?_
  refine z_callMf (As := [.int (xs (i + 1)), .int (xs (i + 2)), .int (xs (i + 3)), .int (xs (i + 4))]) (st := []) (C := RX7) (T := TX7) (N := 30) (ci := 7) (l := l) B hl (c7_hold l D g h0 am M h.1 (xs (i + 1)) (xs (i + 2)) (xs (i + 3)) (xs (i + 4))) gL_law_X7_hold rfl ⟨rfl, rfl⟩ nm_X7_hold ⟨by decide, by decide⟩ 0 rfl rfl rfl (Nat.le_of_ble_eq_true rfl) dL_law_1140 rfl rfl hk2 hn2 (fun r w2 hr2 => ?_)
  obtain ⟨M', rfl, himp⟩ := hr2
  refine z_swap ?_
  obtain ⟨hκ, f', a', C', rfl, hans, hI', ha'⟩ := sim_hold h hW himp
  refine z_istore (lv1 := [(6, .int r), (5, .int κ), (0, .ref b), (1, .ref (a 0)), (2, .ref h0), (3, .ref o), (4, .int (nI i))]) B dL_law_1143 (by decide) rfl ?_
  refine z_aload_n B 4 dL_law_1145 rfl rfl ?_
  refine z_callP (As := []) (st := []) (C := RX7) (T := TX7) (N := 30) (ci := 7) (l := l) B hl (c7_thrown l D g h0 am M') gL_law_X7_thrown rfl ⟨rfl, rfl⟩ nm_X7_thrown ⟨by decide, by decide⟩ (fun H hP => (z_sub hP (fun _ q hq => List.mem_append_left _ (List.mem_of_getElem? hq)))) 0 rfl rfl rfl (Nat.le_of_ble_eq_true rfl) dL_law_1146 (Nat.le_of_add_right_le hk2) (Nat.le_of_add_right_le hn2) (fun r2 hr2 => ?_)
  refine z_top (y := κ) (hr2.trans hκ) ?_
  refine z_iload B 1 dL_law_1149 rfl ?_
  refine z_icmp_eq B 1156 dL_law_1151 (by decide) (fun _ => ?_) (fun q => absurd rfl q)
  refine z_iload B 1 dL_law_1156 rfl ?_
  have fin : zJ X 7 (zI1 D A (zs X)) Q (wM g h0 am M' ++ ((o, .inl (g.2.2.2, 1, .inr (.inl f'))) :: wC g a' C' (4 * cM C'))) (k + 3 + 0) (n + 18 + 0) [(6, .int r), (5, .int κ), (0, .ref b), (1, .ref (a 0)), (2, .ref h0), (3, .ref o), (4, .int (nI i))] 1173 [] := by
    refine z_goto B 2506 dL_law_1173 (by decide) ?_
    refine z_loc [2, 3, 4, 5, 6] (lv' := [(0, .ref b), (1, .ref (a 0)), (2, .ref h0), (3, .ref o), (4, .int (nI i))]) rfl ?_
    exact z_wid (by omega) (by omega) (kk M' C' f' a' hI' ha')
  refine z_if_ne B 1173 dL_law_1158 (by decide) (fun _ => fin) (fun hz => ?_)
  have hans := hans hz
  refine z_aload_n B 5 dL_law_1161 rfl rfl ?_
  refine z_iconst (v := nI 0) B dL_law_1162 (by decide) ?_
  refine z_lald (f := f') (i := 0) (a := o) B 24 3 rfl rfl (by decide) (by decide) dL_law_1163 ?_
  refine z_topv (y := .long r.toInt64) (by rw [hans]) ?_
  refine z_iload B 0 dL_law_1164 rfl ?_
  refine z_i2l B dL_law_1166 ?_
  refine z_lcmp B dL_law_1167 ?_
  refine z_top (y := nI 0) (lg_cmp_rfl _) ?_
  exact z_if_eq B 1173 dL_law_1168 (by decide) (fun _ => fin) (fun q => absurd rfl q)
set_option maxHeartbeats 4000000 in
set_option maxRecDepth 100000 in
theorem lo_strike {X : zX} {l : Launch} {D : va_G} {g : zG} {A : Nat → Prop} {Q : State → Prop} {b L o h0 a0 i k n : Nat} {xs : Nat → Int32} {am a : Nat → Nat} {M C : zMS} {f : Nat → Int64} (hLw : zLaw X l D g A b L xs) (h : INV M C) (ha : a 0 = a0) (hi : i + 5 ≤ L) (hk : k + 6 ≤ 601024) (hn : n + 419 ≤ 7293034) (kk : zKK X D g A Q b o h0 a0 i k n am) : zJ X 7 (zI1 D A (zs X)) Q (wLw g h0 am M o f a C) k n [(0, .ref b), (1, .ref a0), (2, .ref h0), (3, .ref o), (4, .int (nI i))] 1176 [] := by
  obtain ⟨B, hLF, hX, hbl, hbA, hL, hl, hst⟩ := hLw
  have hr0 : (wC g a C (4 * cM C))[0]? = some (a0, .inr (6, [.ref (a 1), .ref (a 2), .ref (a 3), .ref (a 4), .ref (a 5), .int (C 0 0)])) := by rw [← ha]; rfl
  subst ha
  refine z_aload_n B 1 dL_law_1176 rfl rfl ?_
  refine z_aload_n B 0 dL_law_1177 rfl rfl ?_
  refine z_iload B 4 dL_law_1178 rfl ?_
  refine z_iconst (v := nI 1) B dL_law_1180 (by decide) ?_
  refine z_iaddN B dL_law_1181 ?_
  refine z_sld B hX hbl hbA (j := i + 1) (by omega) hL dL_law_1182 ?_
  refine z_aload_n B 0 dL_law_1183 rfl rfl ?_
  refine z_iload B 4 dL_law_1184 rfl ?_
  refine z_iconst (v := nI 2) B dL_law_1186 (by decide) ?_
  refine z_iaddN B dL_law_1187 ?_
  refine z_sld B hX hbl hbA (j := i + 2) (by omega) hL dL_law_1188 ?_
  refine z_aload_n B 3 dL_law_1189 rfl rfl ?_
  have hM0 := (cc_X6_strike l D g a C (4 * cM C) hst h.2.1 (Nat.le_refl _) (xs (i + 1)) (xs (i + 2))).L
  have hw0 := fun hE => wr_strike l D g o (a 0) f (wC g a C (4 * cM C)) _ hr0 (xs (i + 1)) (xs (i + 2)) _ _ hE hM0
  have hk2 : k + 3 + 0 ≤ room_1.cells := by show k + 3 + 0 ≤ 601024; omega
  have hn2 : n + 18 + 0 ≤ room_1.slots := by show n + 18 + 0 ≤ 7293034; omega
  unfold wLw
  refine z_callW (As := [.ref (a 0), .int (xs (i + 1)), .int (xs (i + 2)), .ref o]) (st := []) (hh := [(0, 10, 13, 13), (0, 10, 17, 17)]) B hLF hl (hw0 (fun E w2 hx => (fun hx => hx.elim (fun q => Or.inl q.1) (fun hx => hx.elim (fun q => Or.inl q.1) (fun q => Or.inr (q.1)))) hx.2)) gL_law_L_strike rfl ⟨rfl, rfl⟩ nm_L_strike ⟨by decide, by decide⟩ rfl (Nat.le_of_ble_eq_true rfl) dL_law_1190 rfl rfl hk2 hn2 (fun κ w1 hW => ?_)
  refine z_istore (lv1 := [(5, .int κ), (0, .ref b), (1, .ref (a 0)), (2, .ref h0), (3, .ref o), (4, .int (nI i))]) B dL_law_1193 (by decide) rfl ?_
  refine z_swap ?_
  refine z_aload_n B 3 dL_law_1195 rfl rfl ?_
  refine z_aload_n B 1 dL_law_1196 rfl rfl ?_
  refine z_iload B 5 dL_law_1197 rfl ?_
  refine z_iconst (v := nI 1) B dL_law_1199 (by decide) ?_
  refine z_iaddN B dL_law_1200 ?_
  refine z_sld B hX hbl hbA (j := i + 1) (by omega) hL dL_law_1201 ?_
  refine z_aload_n B 1 dL_law_1202 rfl rfl ?_
  refine z_iload B 5 dL_law_1203 rfl ?_
  refine z_iconst (v := nI 2) B dL_law_1205 (by decide) ?_
  refine z_iaddN B dL_law_1206 ?_
  refine z_sld B hX hbl hbA (j := i + 2) (by omega) hL dL_law_1207 ?_
  refine z_callMf (As := [.int (xs (i + 1)), .int (xs (i + 2))]) (st := []) (C := RX7) (T := TX7) (N := 30) (ci := 7) (l := l) B hl (c7_strike l D g h0 am M h.1 (xs (i + 1)) (xs (i + 2))) gL_law_X7_strike rfl ⟨rfl, rfl⟩ nm_X7_strike ⟨by decide, by decide⟩ 0 rfl rfl rfl (Nat.le_of_ble_eq_true rfl) dL_law_1208 rfl rfl hk2 hn2 (fun r w2 hr2 => ?_)
  obtain ⟨M', rfl, himp⟩ := hr2
  refine z_swap ?_
  obtain ⟨hκ, f', a', C', rfl, hans, hI', ha'⟩ := sim_strike h hW himp
  refine z_istore (lv1 := [(6, .int r), (5, .int κ), (0, .ref b), (1, .ref (a 0)), (2, .ref h0), (3, .ref o), (4, .int (nI i))]) B dL_law_1211 (by decide) rfl ?_
  refine z_aload_n B 4 dL_law_1213 rfl rfl ?_
  refine z_callP (As := []) (st := []) (C := RX7) (T := TX7) (N := 30) (ci := 7) (l := l) B hl (c7_thrown l D g h0 am M') gL_law_X7_thrown rfl ⟨rfl, rfl⟩ nm_X7_thrown ⟨by decide, by decide⟩ (fun H hP => (z_sub hP (fun _ q hq => List.mem_append_left _ (List.mem_of_getElem? hq)))) 0 rfl rfl rfl (Nat.le_of_ble_eq_true rfl) dL_law_1214 (Nat.le_of_add_right_le hk2) (Nat.le_of_add_right_le hn2) (fun r2 hr2 => ?_)
  refine z_top (y := κ) (hr2.trans hκ) ?_
  refine z_iload B 1 dL_law_1217 rfl ?_
  refine z_icmp_eq B 1224 dL_law_1219 (by decide) (fun _ => ?_) (fun q => absurd rfl q)
  refine z_iload B 1 dL_law_1224 rfl ?_
  have fin : zJ X 7 (zI1 D A (zs X)) Q (wM g h0 am M' ++ ((o, .inl (g.2.2.2, 1, .inr (.inl f'))) :: wC g a' C' (4 * cM C'))) (k + 3 + 0) (n + 18 + 0) [(6, .int r), (5, .int κ), (0, .ref b), (1, .ref (a 0)), (2, .ref h0), (3, .ref o), (4, .int (nI i))] 1241 [] := by
    refine z_goto B 2506 dL_law_1241 (by decide) ?_
    refine z_loc [2, 3, 4, 5, 6] (lv' := [(0, .ref b), (1, .ref (a 0)), (2, .ref h0), (3, .ref o), (4, .int (nI i))]) rfl ?_
    exact z_wid (by omega) (by omega) (kk M' C' f' a' hI' ha')
  refine z_if_ne B 1241 dL_law_1226 (by decide) (fun _ => fin) (fun hz => ?_)
  have hans := hans hz
  refine z_aload_n B 5 dL_law_1229 rfl rfl ?_
  refine z_iconst (v := nI 0) B dL_law_1230 (by decide) ?_
  refine z_lald (f := f') (i := 0) (a := o) B 24 3 rfl rfl (by decide) (by decide) dL_law_1231 ?_
  refine z_topv (y := .long r.toInt64) (by rw [hans]) ?_
  refine z_iload B 0 dL_law_1232 rfl ?_
  refine z_i2l B dL_law_1234 ?_
  refine z_lcmp B dL_law_1235 ?_
  refine z_top (y := nI 0) (lg_cmp_rfl _) ?_
  exact z_if_eq B 1241 dL_law_1236 (by decide) (fun _ => fin) (fun q => absurd rfl q)
