/-! the law's cases -/
set_option maxHeartbeats 4000000 in
set_option maxRecDepth 100000 in
theorem lo_balanceByPages {X : zX} {l : Launch} {D : va_G} {g : zG} {A : Nat → Prop} {Q : State → Prop} {b L o h0 a0 i k n : Nat} {xs : Nat → Int32} {am a : Nat → Nat} {M C : zMS} {f : Nat → Int64} (hLw : zLaw X l D g A b L xs) (h : INV M C) (ha : a 0 = a0) (hi : i + 5 ≤ L) (hk : k + 6 ≤ 601024) (hn : n + 419 ≤ 7293034) (kk : zKK X D g A Q b o h0 a0 i k n am) : zJ X 7 (zI1 D A (zs X)) Q (wLw g h0 am M o f a C) k n [(0, .ref b), (1, .ref a0), (2, .ref h0), (3, .ref o), (4, .int (nI i))] 1768 [] := by
  obtain ⟨B, hLF, hX, hbl, hbA, hL, hl, hst⟩ := hLw
  have hr0 : (wC g a C (4 * cM C))[0]? = some (a0, .inr (6, [.ref (a 1), .ref (a 2), .ref (a 3), .ref (a 4), .ref (a 5), .int (C 0 0)])) := by rw [← ha]; rfl
  subst ha
  refine z_aload_n B 1 dL_law_1768 rfl rfl ?_
  refine z_aload_n B 0 dL_law_1769 rfl rfl ?_
  refine z_iload B 4 dL_law_1770 rfl ?_
  refine z_iconst (v := nI 1) B dL_law_1772 (by decide) ?_
  refine z_iaddN B dL_law_1773 ?_
  refine z_sld B hX hbl hbA (j := i + 1) (by omega) hL dL_law_1774 ?_
  refine z_aload_n B 0 dL_law_1775 rfl rfl ?_
  refine z_iload B 4 dL_law_1776 rfl ?_
  refine z_iconst (v := nI 2) B dL_law_1778 (by decide) ?_
  refine z_iaddN B dL_law_1779 ?_
  refine z_sld B hX hbl hbA (j := i + 2) (by omega) hL dL_law_1780 ?_
  refine z_aload_n B 3 dL_law_1781 rfl rfl ?_
  have hM0 := (cc_X6_balanceByPages l D g a C (4 * cM C) hst h.2.1 (xs (i + 1)) (xs (i + 2))).L
  have hw0 := fun hE => wr_balanceByPages l D g o (a 0) f (wC g a C (4 * cM C)) _ hr0 (xs (i + 1)) (xs (i + 2)) _ _ hE hM0
  have hk2 : k + 3 + 0 ≤ room_1.cells := by show k + 3 + 0 ≤ 601024; omega
  have hn2 : n + 18 + 0 ≤ room_1.slots := by show n + 18 + 0 ≤ 7293034; omega
  unfold wLw
  refine z_callW (As := [.ref (a 0), .int (xs (i + 1)), .int (xs (i + 2)), .ref o]) (st := []) (hh := [(0, 10, 13, 13), (0, 10, 17, 15), (0, 10, 21, 17)]) B hLF hl (hw0 (fun E w2 hx => (fun hx => hx.elim (fun q => Or.inl q.1) (fun hx => hx.elim (fun q => Or.inr (Or.inl q.1)) (fun q => Or.inr (Or.inr (q.1))))) hx.2)) gL_law_L_balanceByPages rfl ⟨rfl, rfl⟩ nm_L_balanceByPages ⟨by decide, by decide⟩ rfl (Nat.le_of_ble_eq_true rfl) dL_law_1782 rfl rfl hk2 hn2 (fun κ w1 hW => ?_)
  refine z_istore (lv1 := [(5, .int κ), (0, .ref b), (1, .ref (a 0)), (2, .ref h0), (3, .ref o), (4, .int (nI i))]) B dL_law_1785 (by decide) rfl ?_
  refine z_swap ?_
  refine z_aload_n B 3 dL_law_1787 rfl rfl ?_
  refine z_aload_n B 1 dL_law_1788 rfl rfl ?_
  refine z_iload B 5 dL_law_1789 rfl ?_
  refine z_iconst (v := nI 1) B dL_law_1791 (by decide) ?_
  refine z_iaddN B dL_law_1792 ?_
  refine z_sld B hX hbl hbA (j := i + 1) (by omega) hL dL_law_1793 ?_
  refine z_aload_n B 1 dL_law_1794 rfl rfl ?_
  refine z_iload B 5 dL_law_1795 rfl ?_
  refine z_iconst (v := nI 2) B dL_law_1797 (by decide) ?_
  refine z_iaddN B dL_law_1798 ?_
  refine z_sld B hX hbl hbA (j := i + 2) (by omega) hL dL_law_1799 ?_
  refine z_callMf (As := [.int (xs (i + 1)), .int (xs (i + 2))]) (st := []) (C := RX7) (T := TX7) (N := 30) (ci := 7) (l := l) B hl (c7_balanceByPages l D g h0 am M h.1 (xs (i + 1)) (xs (i + 2))) gL_law_X7_balanceByPages rfl ⟨rfl, rfl⟩ nm_X7_balanceByPages ⟨by decide, by decide⟩ 0 rfl rfl rfl (Nat.le_of_ble_eq_true rfl) dL_law_1800 rfl rfl hk2 hn2 (fun r w2 hr2 => ?_)
  obtain ⟨M', rfl, himp⟩ := hr2
  refine z_swap ?_
  obtain ⟨hκ, f', a', C', rfl, hans, hI', ha'⟩ := sim_balanceByPages h hW himp
  refine z_istore (lv1 := [(6, .int r), (5, .int κ), (0, .ref b), (1, .ref (a 0)), (2, .ref h0), (3, .ref o), (4, .int (nI i))]) B dL_law_1803 (by decide) rfl ?_
  refine z_aload_n B 4 dL_law_1805 rfl rfl ?_
  refine z_callP (As := []) (st := []) (C := RX7) (T := TX7) (N := 30) (ci := 7) (l := l) B hl (c7_thrown l D g h0 am M') gL_law_X7_thrown rfl ⟨rfl, rfl⟩ nm_X7_thrown ⟨by decide, by decide⟩ (fun H hP => (z_sub hP (fun _ q hq => List.mem_append_left _ (List.mem_of_getElem? hq)))) 0 rfl rfl rfl (Nat.le_of_ble_eq_true rfl) dL_law_1806 (Nat.le_of_add_right_le hk2) (Nat.le_of_add_right_le hn2) (fun r2 hr2 => ?_)
  refine z_top (y := κ) (hr2.trans hκ) ?_
  refine z_iload B 1 dL_law_1809 rfl ?_
  refine z_icmp_eq B 1816 dL_law_1811 (by decide) (fun _ => ?_) (fun q => absurd rfl q)
  refine z_iload B 1 dL_law_1816 rfl ?_
  have fin : zJ X 7 (zI1 D A (zs X)) Q (wM g h0 am M' ++ ((o, .inl (g.2.2.2, 1, .inr (.inl f'))) :: wC g a' C' (4 * cM C'))) (k + 3 + 0) (n + 18 + 0) [(6, .int r), (5, .int κ), (0, .ref b), (1, .ref (a 0)), (2, .ref h0), (3, .ref o), (4, .int (nI i))] 1833 [] := by
    refine z_goto B 2506 dL_law_1833 (by decide) ?_
    refine z_loc [2, 3, 4, 5, 6] (lv' := [(0, .ref b), (1, .ref (a 0)), (2, .ref h0), (3, .ref o), (4, .int (nI i))]) rfl ?_
    exact z_wid (by omega) (by omega) (kk M' C' f' a' hI' ha')
  refine z_if_ne B 1833 dL_law_1818 (by decide) (fun _ => fin) (fun hz => ?_)
  have hans := hans hz
  refine z_aload_n B 5 dL_law_1821 rfl rfl ?_
  refine z_iconst (v := nI 0) B dL_law_1822 (by decide) ?_
  refine z_lald (f := f') (i := 0) (a := o) B 24 3 rfl rfl (by decide) (by decide) dL_law_1823 ?_
  refine z_topv (y := .long r.toInt64) (by rw [hans]) ?_
  refine z_iload B 0 dL_law_1824 rfl ?_
  refine z_i2l B dL_law_1826 ?_
  refine z_lcmp B dL_law_1827 ?_
  refine z_top (y := nI 0) (lg_cmp_rfl _) ?_
  exact z_if_eq B 1833 dL_law_1828 (by decide) (fun _ => fin) (fun q => absurd rfl q)
set_option maxHeartbeats 4000000 in
set_option maxRecDepth 100000 in
theorem lo_balanceByCopies {X : zX} {l : Launch} {D : va_G} {g : zG} {A : Nat → Prop} {Q : State → Prop} {b L o h0 a0 i k n : Nat} {xs : Nat → Int32} {am a : Nat → Nat} {M C : zMS} {f : Nat → Int64} (hLw : zLaw X l D g A b L xs) (h : INV M C) (ha : a 0 = a0) (hi : i + 5 ≤ L) (hk : k + 6 ≤ 601024) (hn : n + 419 ≤ 7293034) (kk : zKK X D g A Q b o h0 a0 i k n am) : zJ X 7 (zI1 D A (zs X)) Q (wLw g h0 am M o f a C) k n [(0, .ref b), (1, .ref a0), (2, .ref h0), (3, .ref o), (4, .int (nI i))] 1836 [] := by
  obtain ⟨B, hLF, hX, hbl, hbA, hL, hl, hst⟩ := hLw
  have hr0 : (wC g a C (4 * cM C))[0]? = some (a0, .inr (6, [.ref (a 1), .ref (a 2), .ref (a 3), .ref (a 4), .ref (a 5), .int (C 0 0)])) := by rw [← ha]; rfl
  subst ha
  refine z_aload_n B 1 dL_law_1836 rfl rfl ?_
  refine z_aload_n B 0 dL_law_1837 rfl rfl ?_
  refine z_iload B 4 dL_law_1838 rfl ?_
  refine z_iconst (v := nI 1) B dL_law_1840 (by decide) ?_
  refine z_iaddN B dL_law_1841 ?_
  refine z_sld B hX hbl hbA (j := i + 1) (by omega) hL dL_law_1842 ?_
  refine z_aload_n B 0 dL_law_1843 rfl rfl ?_
  refine z_iload B 4 dL_law_1844 rfl ?_
  refine z_iconst (v := nI 2) B dL_law_1846 (by decide) ?_
  refine z_iaddN B dL_law_1847 ?_
  refine z_sld B hX hbl hbA (j := i + 2) (by omega) hL dL_law_1848 ?_
  refine z_aload_n B 3 dL_law_1849 rfl rfl ?_
  have hM0 := (cc_X6_balanceByCopies l D g a C (4 * cM C) hst h.2.1 (Nat.le_refl _) (xs (i + 1)) (xs (i + 2))).L
  have hw0 := fun hE => wr_balanceByCopies l D g o (a 0) f (wC g a C (4 * cM C)) _ hr0 (xs (i + 1)) (xs (i + 2)) _ _ hE hM0
  have hk2 : k + 3 + 0 ≤ room_1.cells := by show k + 3 + 0 ≤ 601024; omega
  have hn2 : n + 18 + 0 ≤ room_1.slots := by show n + 18 + 0 ≤ 7293034; omega
  unfold wLw
  refine z_callW (As := [.ref (a 0), .int (xs (i + 1)), .int (xs (i + 2)), .ref o]) (st := []) (hh := [(0, 10, 13, 13), (0, 10, 17, 15), (0, 10, 21, 17)]) B hLF hl (hw0 (fun E w2 hx => (fun hx => hx.elim (fun q => Or.inl q.1) (fun hx => hx.elim (fun q => Or.inr (Or.inl q.1)) (fun q => Or.inr (Or.inr (q.1))))) hx.2)) gL_law_L_balanceByCopies rfl ⟨rfl, rfl⟩ nm_L_balanceByCopies ⟨by decide, by decide⟩ rfl (Nat.le_of_ble_eq_true rfl) dL_law_1850 rfl rfl hk2 hn2 (fun κ w1 hW => ?_)
  refine z_istore (lv1 := [(5, .int κ), (0, .ref b), (1, .ref (a 0)), (2, .ref h0), (3, .ref o), (4, .int (nI i))]) B dL_law_1853 (by decide) rfl ?_
  refine z_swap ?_
  refine z_aload_n B 3 dL_law_1855 rfl rfl ?_
  refine z_aload_n B 1 dL_law_1856 rfl rfl ?_
  refine z_iload B 5 dL_law_1857 rfl ?_
  refine z_iconst (v := nI 1) B dL_law_1859 (by decide) ?_
  refine z_iaddN B dL_law_1860 ?_
  refine z_sld B hX hbl hbA (j := i + 1) (by omega) hL dL_law_1861 ?_
  refine z_aload_n B 1 dL_law_1862 rfl rfl ?_
  refine z_iload B 5 dL_law_1863 rfl ?_
  refine z_iconst (v := nI 2) B dL_law_1865 (by decide) ?_
  refine z_iaddN B dL_law_1866 ?_
  refine z_sld B hX hbl hbA (j := i + 2) (by omega) hL dL_law_1867 ?_
  refine z_callMf (As := [.int (xs (i + 1)), .int (xs (i + 2))]) (st := []) (C := RX7) (T := TX7) (N := 30) (ci := 7) (l := l) B hl (c7_balanceByCopies l D g h0 am M h.1 (xs (i + 1)) (xs (i + 2))) gL_law_X7_balanceByCopies rfl ⟨rfl, rfl⟩ nm_X7_balanceByCopies ⟨by decide, by decide⟩ 0 rfl rfl rfl (Nat.le_of_ble_eq_true rfl) dL_law_1868 rfl rfl hk2 hn2 (fun r w2 hr2 => ?_)
  obtain ⟨M', rfl, himp⟩ := hr2
  refine z_swap ?_
  obtain ⟨hκ, f', a', C', rfl, hans, hI', ha'⟩ := sim_balanceByCopies h hW himp
  refine z_istore (lv1 := [(6, .int r), (5, .int κ), (0, .ref b), (1, .ref (a 0)), (2, .ref h0), (3, .ref o), (4, .int (nI i))]) B dL_law_1871 (by decide) rfl ?_
  refine z_aload_n B 4 dL_law_1873 rfl rfl ?_
  refine z_callP (As := []) (st := []) (C := RX7) (T := TX7) (N := 30) (ci := 7) (l := l) B hl (c7_thrown l D g h0 am M') gL_law_X7_thrown rfl ⟨rfl, rfl⟩ nm_X7_thrown ⟨by decide, by decide⟩ (fun H hP => (z_sub hP (fun _ q hq => List.mem_append_left _ (List.mem_of_getElem? hq)))) 0 rfl rfl rfl (Nat.le_of_ble_eq_true rfl) dL_law_1874 (Nat.le_of_add_right_le hk2) (Nat.le_of_add_right_le hn2) (fun r2 hr2 => ?_)
  refine z_top (y := κ) (hr2.trans hκ) ?_
  refine z_iload B 1 dL_law_1877 rfl ?_
  refine z_icmp_eq B 1884 dL_law_1879 (by decide) (fun _ => ?_) (fun q => absurd rfl q)
  refine z_iload B 1 dL_law_1884 rfl ?_
  have fin : zJ X 7 (zI1 D A (zs X)) Q (wM g h0 am M' ++ ((o, .inl (g.2.2.2, 1, .inr (.inl f'))) :: wC g a' C' (4 * cM C'))) (k + 3 + 0) (n + 18 + 0) [(6, .int r), (5, .int κ), (0, .ref b), (1, .ref (a 0)), (2, .ref h0), (3, .ref o), (4, .int (nI i))] 1901 [] := by
    refine z_goto B 2506 dL_law_1901 (by decide) ?_
    refine z_loc [2, 3, 4, 5, 6] (lv' := [(0, .ref b), (1, .ref (a 0)), (2, .ref h0), (3, .ref o), (4, .int (nI i))]) rfl ?_
    exact z_wid (by omega) (by omega) (kk M' C' f' a' hI' ha')
  refine z_if_ne B 1901 dL_law_1886 (by decide) (fun _ => fin) (fun hz => ?_)
  have hans := hans hz
  refine z_aload_n B 5 dL_law_1889 rfl rfl ?_
  refine z_iconst (v := nI 0) B dL_law_1890 (by decide) ?_
  refine z_lald (f := f') (i := 0) (a := o) B 24 3 rfl rfl (by decide) (by decide) dL_law_1891 ?_
  refine z_topv (y := .long r.toInt64) (by rw [hans]) ?_
  refine z_iload B 0 dL_law_1892 rfl ?_
  refine z_i2l B dL_law_1894 ?_
  refine z_lcmp B dL_law_1895 ?_
  refine z_top (y := nI 0) (lg_cmp_rfl _) ?_
  exact z_if_eq B 1901 dL_law_1896 (by decide) (fun _ => fin) (fun q => absurd rfl q)
set_option maxHeartbeats 4000000 in
set_option maxRecDepth 100000 in
theorem lo_copies {X : zX} {l : Launch} {D : va_G} {g : zG} {A : Nat → Prop} {Q : State → Prop} {b L o h0 a0 i k n : Nat} {xs : Nat → Int32} {am a : Nat → Nat} {M C : zMS} {f : Nat → Int64} (hLw : zLaw X l D g A b L xs) (h : INV M C) (ha : a 0 = a0) (hi : i + 5 ≤ L) (hk : k + 6 ≤ 601024) (hn : n + 419 ≤ 7293034) (kk : zKK X D g A Q b o h0 a0 i k n am) : zJ X 7 (zI1 D A (zs X)) Q (wLw g h0 am M o f a C) k n [(0, .ref b), (1, .ref a0), (2, .ref h0), (3, .ref o), (4, .int (nI i))] 1904 [] := by
  obtain ⟨B, hLF, hX, hbl, hbA, hL, hl, hst⟩ := hLw
  have hr0 : (wC g a C (4 * cM C))[0]? = some (a0, .inr (6, [.ref (a 1), .ref (a 2), .ref (a 3), .ref (a 4), .ref (a 5), .int (C 0 0)])) := by rw [← ha]; rfl
  subst ha
  have hk2 : k + 0 ≤ room_1.cells := by show k + 0 ≤ 601024; omega
  have hn2 : n + 0 ≤ room_1.slots := by show n + 0 ≤ 7293034; omega
  unfold wLw
  refine z_aload_n B 1 dL_law_1904 rfl rfl ?_
  refine z_callP (As := []) (st := []) (C := RX6) (T := TX6) (N := 6) (ci := 6) (l := l) B hl (cc_X6_copies l D g a C (4 * cM C) h.2.1) gL_law_X6_copies rfl ⟨rfl, rfl⟩ nm_X6_copies ⟨by decide, by decide⟩ (fun H hP => (z_sub hP (fun _ q hq => List.mem_append_right _ (List.mem_cons_of_mem _ (List.mem_of_getElem? hq))))) 0 hr0 rfl rfl (Nat.le_of_ble_eq_true rfl) dL_law_1905 (Nat.le_of_add_right_le hk2) (Nat.le_of_add_right_le hn2) (fun r1 hr1 => ?_)
  obtain rfl := hr1
  refine z_swap ?_
  refine z_aload_n B 2 dL_law_1908 rfl rfl ?_
  refine z_callMf (As := []) (st := [.int (nI (zcnt (fun k => C 28 k = 1) (cM C)))]) (C := RX7) (T := TX7) (N := 30) (ci := 7) (l := l) B hl (c7_copies l D g h0 am M h.1) gL_law_X7_copies rfl ⟨rfl, rfl⟩ nm_X7_copies ⟨by decide, by decide⟩ 0 rfl rfl rfl (Nat.le_of_ble_eq_true rfl) dL_law_1909 rfl rfl (by exact hk2) (by exact hn2) (fun r2 w2 hr2 => ?_)
  obtain ⟨rfl, rfl⟩ := hr2
  refine z_swap ?_
  refine z_icmp_eq B 2506 dL_law_1912 (by decide) (fun _ => ?_) (fun q => absurd (by rw [i_M h]; exact congrArg nI (zcnt_cg (fun k hk => i_28 h hk))) q)
  exact z_wid (by omega) (by omega) (kk _ C f a (INV_0 h) rfl)
set_option maxHeartbeats 4000000 in
set_option maxRecDepth 100000 in
theorem lo_size {X : zX} {l : Launch} {D : va_G} {g : zG} {A : Nat → Prop} {Q : State → Prop} {b L o h0 a0 i k n : Nat} {xs : Nat → Int32} {am a : Nat → Nat} {M C : zMS} {f : Nat → Int64} (hLw : zLaw X l D g A b L xs) (h : INV M C) (ha : a 0 = a0) (hi : i + 5 ≤ L) (hk : k + 6 ≤ 601024) (hn : n + 419 ≤ 7293034) (kk : zKK X D g A Q b o h0 a0 i k n am) : zJ X 7 (zI1 D A (zs X)) Q (wLw g h0 am M o f a C) k n [(0, .ref b), (1, .ref a0), (2, .ref h0), (3, .ref o), (4, .int (nI i))] 1917 [] := by
  obtain ⟨B, hLF, hX, hbl, hbA, hL, hl, hst⟩ := hLw
  have hr0 : (wC g a C (4 * cM C))[0]? = some (a0, .inr (6, [.ref (a 1), .ref (a 2), .ref (a 3), .ref (a 4), .ref (a 5), .int (C 0 0)])) := by rw [← ha]; rfl
  subst ha
  refine z_aload_n B 1 dL_law_1917 rfl rfl ?_
  refine z_aload_n B 0 dL_law_1918 rfl rfl ?_
  refine z_iload B 4 dL_law_1919 rfl ?_
  refine z_iconst (v := nI 1) B dL_law_1921 (by decide) ?_
  refine z_iaddN B dL_law_1922 ?_
  refine z_sld B hX hbl hbA (j := i + 1) (by omega) hL dL_law_1923 ?_
  refine z_aload_n B 3 dL_law_1924 rfl rfl ?_
  have hM0 := (cc_X6_size l D g a C (4 * cM C) hst h.2.1 (Nat.le_refl _) (i_CJ h) (xs (i + 1))).L
  have hw0 := fun hE => wr_size l D g o (a 0) f (wC g a C (4 * cM C)) _ hr0 (xs (i + 1)) _ _ hE hM0
  have hk2 : k + 1 + 0 ≤ room_1.cells := by show k + 1 + 0 ≤ 601024; omega
  have hn2 : n + 6 + 0 ≤ room_1.slots := by show n + 6 + 0 ≤ 7293034; omega
  unfold wLw
  refine z_callW (As := [.ref (a 0), .int (xs (i + 1)), .ref o]) (st := []) (hh := [(0, 9, 12, 13)]) B hLF hl (hw0 (fun E w2 hx => hx.2.1)) gL_law_L_size rfl ⟨rfl, rfl⟩ nm_L_size ⟨by decide, by decide⟩ rfl (Nat.le_of_ble_eq_true rfl) dL_law_1925 rfl rfl hk2 hn2 (fun κ w1 hW => ?_)
  refine z_istore (lv1 := [(5, .int κ), (0, .ref b), (1, .ref (a 0)), (2, .ref h0), (3, .ref o), (4, .int (nI i))]) B dL_law_1928 (by decide) rfl ?_
  refine z_swap ?_
  refine z_aload_n B 3 dL_law_1930 rfl rfl ?_
  refine z_aload_n B 1 dL_law_1931 rfl rfl ?_
  refine z_iload B 5 dL_law_1932 rfl ?_
  refine z_iconst (v := nI 1) B dL_law_1934 (by decide) ?_
  refine z_iaddN B dL_law_1935 ?_
  refine z_sld B hX hbl hbA (j := i + 1) (by omega) hL dL_law_1936 ?_
  refine z_callMf (As := [.int (xs (i + 1))]) (st := []) (C := RX7) (T := TX7) (N := 30) (ci := 7) (l := l) B hl (c7_size l D g h0 am M h.1 (xs (i + 1))) gL_law_X7_size rfl ⟨rfl, rfl⟩ nm_X7_size ⟨by decide, by decide⟩ 0 rfl rfl rfl (Nat.le_of_ble_eq_true rfl) dL_law_1937 rfl rfl hk2 hn2 (fun r w2 hr2 => ?_)
  obtain ⟨M', rfl, himp⟩ := hr2
  refine z_swap ?_
  obtain ⟨hκ, f', a', C', rfl, hans, hI', ha'⟩ := sim_size h hW himp
  refine z_istore (lv1 := [(6, .int r), (5, .int κ), (0, .ref b), (1, .ref (a 0)), (2, .ref h0), (3, .ref o), (4, .int (nI i))]) B dL_law_1940 (by decide) rfl ?_
  refine z_aload_n B 4 dL_law_1942 rfl rfl ?_
  refine z_callP (As := []) (st := []) (C := RX7) (T := TX7) (N := 30) (ci := 7) (l := l) B hl (c7_thrown l D g h0 am M') gL_law_X7_thrown rfl ⟨rfl, rfl⟩ nm_X7_thrown ⟨by decide, by decide⟩ (fun H hP => (z_sub hP (fun _ q hq => List.mem_append_left _ (List.mem_of_getElem? hq)))) 0 rfl rfl rfl (Nat.le_of_ble_eq_true rfl) dL_law_1943 (Nat.le_of_add_right_le hk2) (Nat.le_of_add_right_le hn2) (fun r2 hr2 => ?_)
  refine z_top (y := κ) (hr2.trans hκ) ?_
  refine z_iload B 1 dL_law_1946 rfl ?_
  refine z_icmp_eq B 1953 dL_law_1948 (by decide) (fun _ => ?_) (fun q => absurd rfl q)
  refine z_iload B 1 dL_law_1953 rfl ?_
  have fin : zJ X 7 (zI1 D A (zs X)) Q (wM g h0 am M' ++ ((o, .inl (g.2.2.2, 1, .inr (.inl f'))) :: wC g a' C' (4 * cM C'))) (k + 1 + 0) (n + 6 + 0) [(6, .int r), (5, .int κ), (0, .ref b), (1, .ref (a 0)), (2, .ref h0), (3, .ref o), (4, .int (nI i))] 1970 [] := by
    refine z_goto B 2506 dL_law_1970 (by decide) ?_
    refine z_loc [2, 3, 4, 5, 6] (lv' := [(0, .ref b), (1, .ref (a 0)), (2, .ref h0), (3, .ref o), (4, .int (nI i))]) rfl ?_
    exact z_wid (by omega) (by omega) (kk M' C' f' a' hI' ha')
  refine z_if_ne B 1970 dL_law_1955 (by decide) (fun _ => fin) (fun hz => ?_)
  have hans := hans hz
  refine z_aload_n B 5 dL_law_1958 rfl rfl ?_
  refine z_iconst (v := nI 0) B dL_law_1959 (by decide) ?_
  refine z_lald (f := f') (i := 0) (a := o) B 24 3 rfl rfl (by decide) (by decide) dL_law_1960 ?_
  refine z_topv (y := .long r.toInt64) (by rw [hans]) ?_
  refine z_iload B 0 dL_law_1961 rfl ?_
  refine z_i2l B dL_law_1963 ?_
  refine z_lcmp B dL_law_1964 ?_
  refine z_top (y := nI 0) (lg_cmp_rfl _) ?_
  exact z_if_eq B 1970 dL_law_1965 (by decide) (fun _ => fin) (fun q => absurd rfl q)
set_option maxHeartbeats 4000000 in
set_option maxRecDepth 100000 in
theorem lo_isInVault {X : zX} {l : Launch} {D : va_G} {g : zG} {A : Nat → Prop} {Q : State → Prop} {b L o h0 a0 i k n : Nat} {xs : Nat → Int32} {am a : Nat → Nat} {M C : zMS} {f : Nat → Int64} (hLw : zLaw X l D g A b L xs) (h : INV M C) (ha : a 0 = a0) (hi : i + 5 ≤ L) (hk : k + 6 ≤ 601024) (hn : n + 419 ≤ 7293034) (kk : zKK X D g A Q b o h0 a0 i k n am) : zJ X 7 (zI1 D A (zs X)) Q (wLw g h0 am M o f a C) k n [(0, .ref b), (1, .ref a0), (2, .ref h0), (3, .ref o), (4, .int (nI i))] 1973 [] := by
  obtain ⟨B, hLF, hX, hbl, hbA, hL, hl, hst⟩ := hLw
  have hr0 : (wC g a C (4 * cM C))[0]? = some (a0, .inr (6, [.ref (a 1), .ref (a 2), .ref (a 3), .ref (a 4), .ref (a 5), .int (C 0 0)])) := by rw [← ha]; rfl
  subst ha
  refine z_aload_n B 1 dL_law_1973 rfl rfl ?_
  refine z_aload_n B 0 dL_law_1974 rfl rfl ?_
  refine z_iload B 4 dL_law_1975 rfl ?_
  refine z_iconst (v := nI 1) B dL_law_1977 (by decide) ?_
  refine z_iaddN B dL_law_1978 ?_
  refine z_sld B hX hbl hbA (j := i + 1) (by omega) hL dL_law_1979 ?_
  refine z_aload_n B 3 dL_law_1980 rfl rfl ?_
  have hM0 := (cc_X6_isInVault l D g a C (4 * cM C) hst h.2.1 (Nat.le_refl _) (xs (i + 1))).L
  have hw0 := fun hE hB => wr_isInVault l D g o (a 0) f (wC g a C (4 * cM C)) _ hr0 (xs (i + 1)) _ _ hE hB hM0
  have hk2 : k + 1 + 0 ≤ room_1.cells := by show k + 1 + 0 ≤ 601024; omega
  have hn2 : n + 6 + 0 ≤ room_1.slots := by show n + 6 + 0 ≤ 7293034; omega
  unfold wLw
  refine z_callW (As := [.ref (a 0), .int (xs (i + 1)), .ref o]) (st := []) (hh := [(0, 16, 19, 13)]) B hLF hl (hw0 (fun E w2 hx => hx.2.1) (fun r w2 hp => b01_isInVault h hp)) gL_law_L_isInVault rfl ⟨rfl, rfl⟩ nm_L_isInVault ⟨by decide, by decide⟩ rfl (Nat.le_of_ble_eq_true rfl) dL_law_1981 rfl rfl hk2 hn2 (fun κ w1 hW => ?_)
  refine z_istore (lv1 := [(5, .int κ), (0, .ref b), (1, .ref (a 0)), (2, .ref h0), (3, .ref o), (4, .int (nI i))]) B dL_law_1984 (by decide) rfl ?_
  refine z_swap ?_
  refine z_aload_n B 3 dL_law_1986 rfl rfl ?_
  refine z_aload_n B 1 dL_law_1987 rfl rfl ?_
  refine z_iload B 5 dL_law_1988 rfl ?_
  refine z_iconst (v := nI 1) B dL_law_1990 (by decide) ?_
  refine z_iaddN B dL_law_1991 ?_
  refine z_sld B hX hbl hbA (j := i + 1) (by omega) hL dL_law_1992 ?_
  refine z_callMf (As := [.int (xs (i + 1))]) (st := []) (C := RX7) (T := TX7) (N := 30) (ci := 7) (l := l) B hl (c7_isInVault l D g h0 am M h.1 (xs (i + 1))) gL_law_X7_isInVault rfl ⟨rfl, rfl⟩ nm_X7_isInVault ⟨by decide, by decide⟩ 0 rfl rfl rfl (Nat.le_of_ble_eq_true rfl) dL_law_1993 rfl rfl hk2 hn2 (fun r w2 hr2 => ?_)
  obtain ⟨M', rfl, himp⟩ := hr2
  refine z_swap ?_
  obtain ⟨hκ, f', a', C', rfl, hans, hI', ha'⟩ := sim_isInVault h hW himp
  have h01 := r01_isInVault h himp
  refine z_istore (lv1 := [(6, .int r), (5, .int κ), (0, .ref b), (1, .ref (a 0)), (2, .ref h0), (3, .ref o), (4, .int (nI i))]) B dL_law_1996 (by decide) rfl ?_
  refine z_aload_n B 4 dL_law_1998 rfl rfl ?_
  refine z_callP (As := []) (st := []) (C := RX7) (T := TX7) (N := 30) (ci := 7) (l := l) B hl (c7_thrown l D g h0 am M') gL_law_X7_thrown rfl ⟨rfl, rfl⟩ nm_X7_thrown ⟨by decide, by decide⟩ (fun H hP => (z_sub hP (fun _ q hq => List.mem_append_left _ (List.mem_of_getElem? hq)))) 0 rfl rfl rfl (Nat.le_of_ble_eq_true rfl) dL_law_1999 (Nat.le_of_add_right_le hk2) (Nat.le_of_add_right_le hn2) (fun r2 hr2 => ?_)
  refine z_top (y := κ) (hr2.trans hκ) ?_
  refine z_iload B 1 dL_law_2002 rfl ?_
  refine z_icmp_eq B 2009 dL_law_2004 (by decide) (fun _ => ?_) (fun q => absurd rfl q)
  refine z_iload B 1 dL_law_2009 rfl ?_
  have fin : zJ X 7 (zI1 D A (zs X)) Q (wM g h0 am M' ++ ((o, .inl (g.2.2.2, 1, .inr (.inl f'))) :: wC g a' C' (4 * cM C'))) (k + 1 + 0) (n + 6 + 0) [(6, .int r), (5, .int κ), (0, .ref b), (1, .ref (a 0)), (2, .ref h0), (3, .ref o), (4, .int (nI i))] 2033 [] := by
    refine z_goto B 2506 dL_law_2033 (by decide) ?_
    refine z_loc [2, 3, 4, 5, 6] (lv' := [(0, .ref b), (1, .ref (a 0)), (2, .ref h0), (3, .ref o), (4, .int (nI i))]) rfl ?_
    exact z_wid (by omega) (by omega) (kk M' C' f' a' hI' ha')
  refine z_if_ne B 2033 dL_law_2011 (by decide) (fun _ => fin) (fun hz => ?_)
  have hans := hans hz
  have h01 := h01 (hκ.trans hz)
  refine z_aload_n B 5 dL_law_2014 rfl rfl ?_
  refine z_iconst (v := nI 0) B dL_law_2015 (by decide) ?_
  refine z_lald (f := f') (i := 0) (a := o) B 24 3 rfl rfl (by decide) (by decide) dL_law_2016 ?_
  refine z_topv (y := .long r.toInt64) (by rw [hans]) ?_
  refine z_iload B 0 dL_law_2017 rfl ?_
  rcases h01 with rfl | rfl
  · refine z_if_eq B 2026 dL_law_2019 (by decide) (fun _ => ?_) (fun q => absurd rfl q)
    refine z_lconst (v := (0 : Int32).toInt64) B dL_law_2026 (by decide) ?_
    refine z_lcmp B dL_law_2027 ?_
    refine z_top (y := nI 0) (lg_cmp_rfl _) ?_
    exact z_if_eq B 2033 dL_law_2028 (by decide) (fun _ => fin) (fun q => absurd rfl q)
  · refine z_if_eq B 2026 dL_law_2019 (by decide) (fun q => absurd q (by decide)) (fun _ => ?_)
    refine z_lconst (v := (1 : Int32).toInt64) B dL_law_2022 (by decide) ?_
    refine z_goto B 2027 dL_law_2023 (by decide) ?_
    refine z_lcmp B dL_law_2027 ?_
    refine z_top (y := nI 0) (lg_cmp_rfl _) ?_
    exact z_if_eq B 2033 dL_law_2028 (by decide) (fun _ => fin) (fun q => absurd rfl q)
set_option maxHeartbeats 4000000 in
set_option maxRecDepth 100000 in
theorem lo_stands {X : zX} {l : Launch} {D : va_G} {g : zG} {A : Nat → Prop} {Q : State → Prop} {b L o h0 a0 i k n : Nat} {xs : Nat → Int32} {am a : Nat → Nat} {M C : zMS} {f : Nat → Int64} (hLw : zLaw X l D g A b L xs) (h : INV M C) (ha : a 0 = a0) (hi : i + 5 ≤ L) (hk : k + 6 ≤ 601024) (hn : n + 419 ≤ 7293034) (kk : zKK X D g A Q b o h0 a0 i k n am) : zJ X 7 (zI1 D A (zs X)) Q (wLw g h0 am M o f a C) k n [(0, .ref b), (1, .ref a0), (2, .ref h0), (3, .ref o), (4, .int (nI i))] 2036 [] := by
  obtain ⟨B, hLF, hX, hbl, hbA, hL, hl, hst⟩ := hLw
  have hr0 : (wC g a C (4 * cM C))[0]? = some (a0, .inr (6, [.ref (a 1), .ref (a 2), .ref (a 3), .ref (a 4), .ref (a 5), .int (C 0 0)])) := by rw [← ha]; rfl
  subst ha
  refine z_aload_n B 1 dL_law_2036 rfl rfl ?_
  refine z_aload_n B 0 dL_law_2037 rfl rfl ?_
  refine z_iload B 4 dL_law_2038 rfl ?_
  refine z_iconst (v := nI 1) B dL_law_2040 (by decide) ?_
  refine z_iaddN B dL_law_2041 ?_
  refine z_sld B hX hbl hbA (j := i + 1) (by omega) hL dL_law_2042 ?_
  refine z_aload_n B 0 dL_law_2043 rfl rfl ?_
  refine z_iload B 4 dL_law_2044 rfl ?_
  refine z_iconst (v := nI 2) B dL_law_2046 (by decide) ?_
  refine z_iaddN B dL_law_2047 ?_
  refine z_sld B hX hbl hbA (j := i + 2) (by omega) hL dL_law_2048 ?_
  refine z_aload_n B 3 dL_law_2049 rfl rfl ?_
  have hM0 := (cc_X6_stands l D g a C (4 * cM C) hst h.2.1 (Nat.le_refl _) (xs (i + 1)) (xs (i + 2))).L
  have hw0 := fun hE hB => wr_stands l D g o (a 0) f (wC g a C (4 * cM C)) _ hr0 (xs (i + 1)) (xs (i + 2)) _ _ hE hB hM0
  have hk2 : k + 2 + 0 ≤ room_1.cells := by show k + 2 + 0 ≤ 601024; omega
  have hn2 : n + 12 + 0 ≤ room_1.slots := by show n + 12 + 0 ≤ 7293034; omega
  unfold wLw
  refine z_callW (As := [.ref (a 0), .int (xs (i + 1)), .int (xs (i + 2)), .ref o]) (st := []) (hh := [(0, 17, 20, 13)]) B hLF hl (hw0 (fun E w2 hx => hx.2.elim (fun q => q.1) (fun q => q.1)) (fun r w2 hp => b01_stands h hp)) gL_law_L_stands rfl ⟨rfl, rfl⟩ nm_L_stands ⟨by decide, by decide⟩ rfl (Nat.le_of_ble_eq_true rfl) dL_law_2050 rfl rfl hk2 hn2 (fun κ w1 hW => ?_)
  refine z_istore (lv1 := [(5, .int κ), (0, .ref b), (1, .ref (a 0)), (2, .ref h0), (3, .ref o), (4, .int (nI i))]) B dL_law_2053 (by decide) rfl ?_
  refine z_swap ?_
  refine z_aload_n B 3 dL_law_2055 rfl rfl ?_
  refine z_aload_n B 1 dL_law_2056 rfl rfl ?_
  refine z_iload B 5 dL_law_2057 rfl ?_
  refine z_iconst (v := nI 1) B dL_law_2059 (by decide) ?_
  refine z_iaddN B dL_law_2060 ?_
  refine z_sld B hX hbl hbA (j := i + 1) (by omega) hL dL_law_2061 ?_
  refine z_aload_n B 1 dL_law_2062 rfl rfl ?_
  refine z_iload B 5 dL_law_2063 rfl ?_
  refine z_iconst (v := nI 2) B dL_law_2065 (by decide) ?_
  refine z_iaddN B dL_law_2066 ?_
  refine z_sld B hX hbl hbA (j := i + 2) (by omega) hL dL_law_2067 ?_
  refine z_callMf (As := [.int (xs (i + 1)), .int (xs (i + 2))]) (st := []) (C := RX7) (T := TX7) (N := 30) (ci := 7) (l := l) B hl (c7_stands l D g h0 am M h.1 (xs (i + 1)) (xs (i + 2))) gL_law_X7_stands rfl ⟨rfl, rfl⟩ nm_X7_stands ⟨by decide, by decide⟩ 0 rfl rfl rfl (Nat.le_of_ble_eq_true rfl) dL_law_2068 rfl rfl hk2 hn2 (fun r w2 hr2 => ?_)
  obtain ⟨M', rfl, himp⟩ := hr2
  refine z_swap ?_
  obtain ⟨hκ, f', a', C', rfl, hans, hI', ha'⟩ := sim_stands h hW himp
  have h01 := r01_stands h himp
  refine z_istore (lv1 := [(6, .int r), (5, .int κ), (0, .ref b), (1, .ref (a 0)), (2, .ref h0), (3, .ref o), (4, .int (nI i))]) B dL_law_2071 (by decide) rfl ?_
  refine z_aload_n B 4 dL_law_2073 rfl rfl ?_
  refine z_callP (As := []) (st := []) (C := RX7) (T := TX7) (N := 30) (ci := 7) (l := l) B hl (c7_thrown l D g h0 am M') gL_law_X7_thrown rfl ⟨rfl, rfl⟩ nm_X7_thrown ⟨by decide, by decide⟩ (fun H hP => (z_sub hP (fun _ q hq => List.mem_append_left _ (List.mem_of_getElem? hq)))) 0 rfl rfl rfl (Nat.le_of_ble_eq_true rfl) dL_law_2074 (Nat.le_of_add_right_le hk2) (Nat.le_of_add_right_le hn2) (fun r2 hr2 => ?_)
  refine z_top (y := κ) (hr2.trans hκ) ?_
  refine z_iload B 1 dL_law_2077 rfl ?_
  refine z_icmp_eq B 2084 dL_law_2079 (by decide) (fun _ => ?_) (fun q => absurd rfl q)
  refine z_iload B 1 dL_law_2084 rfl ?_
  have fin : zJ X 7 (zI1 D A (zs X)) Q (wM g h0 am M' ++ ((o, .inl (g.2.2.2, 1, .inr (.inl f'))) :: wC g a' C' (4 * cM C'))) (k + 2 + 0) (n + 12 + 0) [(6, .int r), (5, .int κ), (0, .ref b), (1, .ref (a 0)), (2, .ref h0), (3, .ref o), (4, .int (nI i))] 2108 [] := by
    refine z_goto B 2506 dL_law_2108 (by decide) ?_
    refine z_loc [2, 3, 4, 5, 6] (lv' := [(0, .ref b), (1, .ref (a 0)), (2, .ref h0), (3, .ref o), (4, .int (nI i))]) rfl ?_
    exact z_wid (by omega) (by omega) (kk M' C' f' a' hI' ha')
  refine z_if_ne B 2108 dL_law_2086 (by decide) (fun _ => fin) (fun hz => ?_)
  have hans := hans hz
  have h01 := h01 (hκ.trans hz)
  refine z_aload_n B 5 dL_law_2089 rfl rfl ?_
  refine z_iconst (v := nI 0) B dL_law_2090 (by decide) ?_
  refine z_lald (f := f') (i := 0) (a := o) B 24 3 rfl rfl (by decide) (by decide) dL_law_2091 ?_
  refine z_topv (y := .long r.toInt64) (by rw [hans]) ?_
  refine z_iload B 0 dL_law_2092 rfl ?_
  rcases h01 with rfl | rfl
  · refine z_if_eq B 2101 dL_law_2094 (by decide) (fun _ => ?_) (fun q => absurd rfl q)
    refine z_lconst (v := (0 : Int32).toInt64) B dL_law_2101 (by decide) ?_
    refine z_lcmp B dL_law_2102 ?_
    refine z_top (y := nI 0) (lg_cmp_rfl _) ?_
    exact z_if_eq B 2108 dL_law_2103 (by decide) (fun _ => fin) (fun q => absurd rfl q)
  · refine z_if_eq B 2101 dL_law_2094 (by decide) (fun q => absurd q (by decide)) (fun _ => ?_)
    refine z_lconst (v := (1 : Int32).toInt64) B dL_law_2097 (by decide) ?_
    refine z_goto B 2102 dL_law_2098 (by decide) ?_
    refine z_lcmp B dL_law_2102 ?_
    refine z_top (y := nI 0) (lg_cmp_rfl _) ?_
    exact z_if_eq B 2108 dL_law_2103 (by decide) (fun _ => fin) (fun q => absurd rfl q)
set_option maxHeartbeats 4000000 in
set_option maxRecDepth 100000 in
theorem lo_copiesOf {X : zX} {l : Launch} {D : va_G} {g : zG} {A : Nat → Prop} {Q : State → Prop} {b L o h0 a0 i k n : Nat} {xs : Nat → Int32} {am a : Nat → Nat} {M C : zMS} {f : Nat → Int64} (hLw : zLaw X l D g A b L xs) (h : INV M C) (ha : a 0 = a0) (hi : i + 5 ≤ L) (hk : k + 6 ≤ 601024) (hn : n + 419 ≤ 7293034) (kk : zKK X D g A Q b o h0 a0 i k n am) : zJ X 7 (zI1 D A (zs X)) Q (wLw g h0 am M o f a C) k n [(0, .ref b), (1, .ref a0), (2, .ref h0), (3, .ref o), (4, .int (nI i))] 2111 [] := by
  obtain ⟨B, hLF, hX, hbl, hbA, hL, hl, hst⟩ := hLw
  have hr0 : (wC g a C (4 * cM C))[0]? = some (a0, .inr (6, [.ref (a 1), .ref (a 2), .ref (a 3), .ref (a 4), .ref (a 5), .int (C 0 0)])) := by rw [← ha]; rfl
  subst ha
  refine z_aload_n B 1 dL_law_2111 rfl rfl ?_
  refine z_aload_n B 0 dL_law_2112 rfl rfl ?_
  refine z_iload B 4 dL_law_2113 rfl ?_
  refine z_iconst (v := nI 1) B dL_law_2115 (by decide) ?_
  refine z_iaddN B dL_law_2116 ?_
  refine z_sld B hX hbl hbA (j := i + 1) (by omega) hL dL_law_2117 ?_
  refine z_aload_n B 3 dL_law_2118 rfl rfl ?_
  have hM0 := (cc_X6_copiesOf l D g a C (4 * cM C) hst h.2.1 (Nat.le_refl _) (xs (i + 1))).L
  have hw0 := fun hE => wr_copiesOf l D g o (a 0) f (wC g a C (4 * cM C)) _ hr0 (xs (i + 1)) _ _ hE hM0
  have hk2 : k + 1 + 0 ≤ room_1.cells := by show k + 1 + 0 ≤ 601024; omega
  have hn2 : n + 6 + 0 ≤ room_1.slots := by show n + 6 + 0 ≤ 7293034; omega
  unfold wLw
  refine z_callW (As := [.ref (a 0), .int (xs (i + 1)), .ref o]) (st := []) (hh := [(0, 9, 12, 13)]) B hLF hl (hw0 (fun E w2 hx => hx.2.1)) gL_law_L_copiesOf rfl ⟨rfl, rfl⟩ nm_L_copiesOf ⟨by decide, by decide⟩ rfl (Nat.le_of_ble_eq_true rfl) dL_law_2119 rfl rfl hk2 hn2 (fun κ w1 hW => ?_)
  refine z_istore (lv1 := [(5, .int κ), (0, .ref b), (1, .ref (a 0)), (2, .ref h0), (3, .ref o), (4, .int (nI i))]) B dL_law_2122 (by decide) rfl ?_
  refine z_swap ?_
  refine z_aload_n B 3 dL_law_2124 rfl rfl ?_
  refine z_aload_n B 1 dL_law_2125 rfl rfl ?_
  refine z_iload B 5 dL_law_2126 rfl ?_
  refine z_iconst (v := nI 1) B dL_law_2128 (by decide) ?_
  refine z_iaddN B dL_law_2129 ?_
  refine z_sld B hX hbl hbA (j := i + 1) (by omega) hL dL_law_2130 ?_
  refine z_callMf (As := [.int (xs (i + 1))]) (st := []) (C := RX7) (T := TX7) (N := 30) (ci := 7) (l := l) B hl (c7_copiesOf l D g h0 am M h.1 (xs (i + 1))) gL_law_X7_copiesOf rfl ⟨rfl, rfl⟩ nm_X7_copiesOf ⟨by decide, by decide⟩ 0 rfl rfl rfl (Nat.le_of_ble_eq_true rfl) dL_law_2131 rfl rfl hk2 hn2 (fun r w2 hr2 => ?_)
  obtain ⟨M', rfl, himp⟩ := hr2
  refine z_swap ?_
  obtain ⟨hκ, f', a', C', rfl, hans, hI', ha'⟩ := sim_copiesOf h hW himp
  refine z_istore (lv1 := [(6, .int r), (5, .int κ), (0, .ref b), (1, .ref (a 0)), (2, .ref h0), (3, .ref o), (4, .int (nI i))]) B dL_law_2134 (by decide) rfl ?_
  refine z_aload_n B 4 dL_law_2136 rfl rfl ?_
  refine z_callP (As := []) (st := []) (C := RX7) (T := TX7) (N := 30) (ci := 7) (l := l) B hl (c7_thrown l D g h0 am M') gL_law_X7_thrown rfl ⟨rfl, rfl⟩ nm_X7_thrown ⟨by decide, by decide⟩ (fun H hP => (z_sub hP (fun _ q hq => List.mem_append_left _ (List.mem_of_getElem? hq)))) 0 rfl rfl rfl (Nat.le_of_ble_eq_true rfl) dL_law_2137 (Nat.le_of_add_right_le hk2) (Nat.le_of_add_right_le hn2) (fun r2 hr2 => ?_)
  refine z_top (y := κ) (hr2.trans hκ) ?_
  refine z_iload B 1 dL_law_2140 rfl ?_
  refine z_icmp_eq B 2147 dL_law_2142 (by decide) (fun _ => ?_) (fun q => absurd rfl q)
  refine z_iload B 1 dL_law_2147 rfl ?_
  have fin : zJ X 7 (zI1 D A (zs X)) Q (wM g h0 am M' ++ ((o, .inl (g.2.2.2, 1, .inr (.inl f'))) :: wC g a' C' (4 * cM C'))) (k + 1 + 0) (n + 6 + 0) [(6, .int r), (5, .int κ), (0, .ref b), (1, .ref (a 0)), (2, .ref h0), (3, .ref o), (4, .int (nI i))] 2164 [] := by
    refine z_goto B 2506 dL_law_2164 (by decide) ?_
    refine z_loc [2, 3, 4, 5, 6] (lv' := [(0, .ref b), (1, .ref (a 0)), (2, .ref h0), (3, .ref o), (4, .int (nI i))]) rfl ?_
    exact z_wid (by omega) (by omega) (kk M' C' f' a' hI' ha')
  refine z_if_ne B 2164 dL_law_2149 (by decide) (fun _ => fin) (fun hz => ?_)
  have hans := hans hz
  refine z_aload_n B 5 dL_law_2152 rfl rfl ?_
  refine z_iconst (v := nI 0) B dL_law_2153 (by decide) ?_
  refine z_lald (f := f') (i := 0) (a := o) B 24 3 rfl rfl (by decide) (by decide) dL_law_2154 ?_
  refine z_topv (y := .long r.toInt64) (by rw [hans]) ?_
  refine z_iload B 0 dL_law_2155 rfl ?_
  refine z_i2l B dL_law_2157 ?_
  refine z_lcmp B dL_law_2158 ?_
  refine z_top (y := nI 0) (lg_cmp_rfl _) ?_
  exact z_if_eq B 2164 dL_law_2159 (by decide) (fun _ => fin) (fun q => absurd rfl q)
set_option maxHeartbeats 4000000 in
set_option maxRecDepth 100000 in
theorem lo_canRestore {X : zX} {l : Launch} {D : va_G} {g : zG} {A : Nat → Prop} {Q : State → Prop} {b L o h0 a0 i k n : Nat} {xs : Nat → Int32} {am a : Nat → Nat} {M C : zMS} {f : Nat → Int64} (hLw : zLaw X l D g A b L xs) (h : INV M C) (ha : a 0 = a0) (hi : i + 5 ≤ L) (hk : k + 6 ≤ 601024) (hn : n + 419 ≤ 7293034) (kk : zKK X D g A Q b o h0 a0 i k n am) : zJ X 7 (zI1 D A (zs X)) Q (wLw g h0 am M o f a C) k n [(0, .ref b), (1, .ref a0), (2, .ref h0), (3, .ref o), (4, .int (nI i))] 2167 [] := by
  obtain ⟨B, hLF, hX, hbl, hbA, hL, hl, hst⟩ := hLw
  have hr0 : (wC g a C (4 * cM C))[0]? = some (a0, .inr (6, [.ref (a 1), .ref (a 2), .ref (a 3), .ref (a 4), .ref (a 5), .int (C 0 0)])) := by rw [← ha]; rfl
  subst ha
  refine z_aload_n B 1 dL_law_2167 rfl rfl ?_
  refine z_aload_n B 0 dL_law_2168 rfl rfl ?_
  refine z_iload B 4 dL_law_2169 rfl ?_
  refine z_iconst (v := nI 1) B dL_law_2171 (by decide) ?_
  refine z_iaddN B dL_law_2172 ?_
  refine z_sld B hX hbl hbA (j := i + 1) (by omega) hL dL_law_2173 ?_
  refine z_aload_n B 3 dL_law_2174 rfl rfl ?_
  have hM0 := (cc_X6_canRestore l D g a C (4 * cM C) hst h.2.1 (Nat.le_refl _) (i_CJ h) (xs (i + 1))).L
  have hw0 := fun hE hB => wr_canRestore l D g o (a 0) f (wC g a C (4 * cM C)) _ hr0 (xs (i + 1)) _ _ hE hB hM0
  have hk2 : k + 1 + 0 ≤ room_1.cells := by show k + 1 + 0 ≤ 601024; omega
  have hn2 : n + 6 + 0 ≤ room_1.slots := by show n + 6 + 0 ≤ 7293034; omega
  unfold wLw
  refine z_callW (As := [.ref (a 0), .int (xs (i + 1)), .ref o]) (st := []) (hh := [(0, 16, 19, 13)]) B hLF hl (hw0 (fun E w2 hx => hx.2.1) (fun r w2 hp => b01_canRestore h hp)) gL_law_L_canRestore rfl ⟨rfl, rfl⟩ nm_L_canRestore ⟨by decide, by decide⟩ rfl (Nat.le_of_ble_eq_true rfl) dL_law_2175 rfl rfl hk2 hn2 (fun κ w1 hW => ?_)
  refine z_istore (lv1 := [(5, .int κ), (0, .ref b), (1, .ref (a 0)), (2, .ref h0), (3, .ref o), (4, .int (nI i))]) B dL_law_2178 (by decide) rfl ?_
  refine z_swap ?_
  refine z_aload_n B 3 dL_law_2180 rfl rfl ?_
  refine z_aload_n B 1 dL_law_2181 rfl rfl ?_
  refine z_iload B 5 dL_law_2182 rfl ?_
  refine z_iconst (v := nI 1) B dL_law_2184 (by decide) ?_
  refine z_iaddN B dL_law_2185 ?_
  refine z_sld B hX hbl hbA (j := i + 1) (by omega) hL dL_law_2186 ?_
  refine z_callMf (As := [.int (xs (i + 1))]) (st := []) (C := RX7) (T := TX7) (N := 30) (ci := 7) (l := l) B hl (c7_canRestore l D g h0 am M h.1 (i_MJ h) (xs (i + 1))) gL_law_X7_canRestore rfl ⟨rfl, rfl⟩ nm_X7_canRestore ⟨by decide, by decide⟩ 0 rfl rfl rfl (Nat.le_of_ble_eq_true rfl) dL_law_2187 rfl rfl hk2 hn2 (fun r w2 hr2 => ?_)
  obtain ⟨M', rfl, himp⟩ := hr2
  refine z_swap ?_
  obtain ⟨hκ, f', a', C', rfl, hans, hI', ha'⟩ := sim_canRestore h hW himp
  have h01 := r01_canRestore h himp
  refine z_istore (lv1 := [(6, .int r), (5, .int κ), (0, .ref b), (1, .ref (a 0)), (2, .ref h0), (3, .ref o), (4, .int (nI i))]) B dL_law_2190 (by decide) rfl ?_
  refine z_aload_n B 4 dL_law_2192 rfl rfl ?_
  refine z_callP (As := []) (st := []) (C := RX7) (T := TX7) (N := 30) (ci := 7) (l := l) B hl (c7_thrown l D g h0 am M') gL_law_X7_thrown rfl ⟨rfl, rfl⟩ nm_X7_thrown ⟨by decide, by decide⟩ (fun H hP => (z_sub hP (fun _ q hq => List.mem_append_left _ (List.mem_of_getElem? hq)))) 0 rfl rfl rfl (Nat.le_of_ble_eq_true rfl) dL_law_2193 (Nat.le_of_add_right_le hk2) (Nat.le_of_add_right_le hn2) (fun r2 hr2 => ?_)
  refine z_top (y := κ) (hr2.trans hκ) ?_
  refine z_iload B 1 dL_law_2196 rfl ?_
  refine z_icmp_eq B 2203 dL_law_2198 (by decide) (fun _ => ?_) (fun q => absurd rfl q)
  refine z_iload B 1 dL_law_2203 rfl ?_
  have fin : zJ X 7 (zI1 D A (zs X)) Q (wM g h0 am M' ++ ((o, .inl (g.2.2.2, 1, .inr (.inl f'))) :: wC g a' C' (4 * cM C'))) (k + 1 + 0) (n + 6 + 0) [(6, .int r), (5, .int κ), (0, .ref b), (1, .ref (a 0)), (2, .ref h0), (3, .ref o), (4, .int (nI i))] 2227 [] := by
    refine z_goto B 2506 dL_law_2227 (by decide) ?_
    refine z_loc [2, 3, 4, 5, 6] (lv' := [(0, .ref b), (1, .ref (a 0)), (2, .ref h0), (3, .ref o), (4, .int (nI i))]) rfl ?_
    exact z_wid (by omega) (by omega) (kk M' C' f' a' hI' ha')
  refine z_if_ne B 2227 dL_law_2205 (by decide) (fun _ => fin) (fun hz => ?_)
  have hans := hans hz
  have h01 := h01 (hκ.trans hz)
  refine z_aload_n B 5 dL_law_2208 rfl rfl ?_
  refine z_iconst (v := nI 0) B dL_law_2209 (by decide) ?_
  refine z_lald (f := f') (i := 0) (a := o) B 24 3 rfl rfl (by decide) (by decide) dL_law_2210 ?_
  refine z_topv (y := .long r.toInt64) (by rw [hans]) ?_
  refine z_iload B 0 dL_law_2211 rfl ?_
  rcases h01 with rfl | rfl
  · refine z_if_eq B 2220 dL_law_2213 (by decide) (fun _ => ?_) (fun q => absurd rfl q)
    refine z_lconst (v := (0 : Int32).toInt64) B dL_law_2220 (by decide) ?_
    refine z_lcmp B dL_law_2221 ?_
    refine z_top (y := nI 0) (lg_cmp_rfl _) ?_
    exact z_if_eq B 2227 dL_law_2222 (by decide) (fun _ => fin) (fun q => absurd rfl q)
  · refine z_if_eq B 2220 dL_law_2213 (by decide) (fun q => absurd q (by decide)) (fun _ => ?_)
    refine z_lconst (v := (1 : Int32).toInt64) B dL_law_2216 (by decide) ?_
    refine z_goto B 2221 dL_law_2217 (by decide) ?_
    refine z_lcmp B dL_law_2221 ?_
    refine z_top (y := nI 0) (lg_cmp_rfl _) ?_
    exact z_if_eq B 2227 dL_law_2222 (by decide) (fun _ => fin) (fun q => absurd rfl q)
set_option maxHeartbeats 4000000 in
set_option maxRecDepth 100000 in
theorem lo_gaps {X : zX} {l : Launch} {D : va_G} {g : zG} {A : Nat → Prop} {Q : State → Prop} {b L o h0 a0 i k n : Nat} {xs : Nat → Int32} {am a : Nat → Nat} {M C : zMS} {f : Nat → Int64} (hLw : zLaw X l D g A b L xs) (h : INV M C) (ha : a 0 = a0) (hi : i + 5 ≤ L) (hk : k + 6 ≤ 601024) (hn : n + 419 ≤ 7293034) (kk : zKK X D g A Q b o h0 a0 i k n am) : zJ X 7 (zI1 D A (zs X)) Q (wLw g h0 am M o f a C) k n [(0, .ref b), (1, .ref a0), (2, .ref h0), (3, .ref o), (4, .int (nI i))] 2230 [] := by
  obtain ⟨B, hLF, hX, hbl, hbA, hL, hl, hst⟩ := hLw
  have hr0 : (wC g a C (4 * cM C))[0]? = some (a0, .inr (6, [.ref (a 1), .ref (a 2), .ref (a 3), .ref (a 4), .ref (a 5), .int (C 0 0)])) := by rw [← ha]; rfl
  subst ha
  have hk2 : k + 0 ≤ room_1.cells := by show k + 0 ≤ 601024; omega
  have hn2 : n + 0 ≤ room_1.slots := by show n + 0 ≤ 7293034; omega
  unfold wLw
  refine z_aload_n B 1 dL_law_2230 rfl rfl ?_
  refine z_callP (As := []) (st := []) (C := RX6) (T := TX6) (N := 6) (ci := 6) (l := l) B hl (cc_X6_gaps l D g a C (4 * cM C) h.2.1) gL_law_X6_gaps rfl ⟨rfl, rfl⟩ nm_X6_gaps ⟨by decide, by decide⟩ (fun H hP => (z_sub hP (fun _ q hq => List.mem_append_right _ (List.mem_cons_of_mem _ (List.mem_of_getElem? hq))))) 0 hr0 rfl rfl (Nat.le_of_ble_eq_true rfl) dL_law_2231 (Nat.le_of_add_right_le hk2) (Nat.le_of_add_right_le hn2) (fun r1 hr1 => ?_)
  obtain rfl := hr1
  refine z_swap ?_
  refine z_aload_n B 2 dL_law_2234 rfl rfl ?_
  refine z_callMf (As := []) (st := [.int (nI (zcnt (fun p => cSt C p = 1) (cP C)))]) (C := RX7) (T := TX7) (N := 30) (ci := 7) (l := l) B hl (c7_gaps l D g h0 am M h.1) gL_law_X7_gaps rfl ⟨rfl, rfl⟩ nm_X7_gaps ⟨by decide, by decide⟩ 0 rfl rfl rfl (Nat.le_of_ble_eq_true rfl) dL_law_2235 rfl rfl (by exact hk2) (by exact hn2) (fun r2 w2 hr2 => ?_)
  obtain ⟨rfl, rfl⟩ := hr2
  refine z_swap ?_
  refine z_icmp_eq B 2506 dL_law_2238 (by decide) (fun _ => ?_) (fun q => absurd (by rw [i_P h]; exact congrArg nI (zcnt_cg (fun p hp => i_St1 h hp))) q)
  exact z_wid (by omega) (by omega) (kk _ C f a (INV_0 h) rfl)
set_option maxHeartbeats 4000000 in
set_option maxRecDepth 100000 in
theorem lo_lost {X : zX} {l : Launch} {D : va_G} {g : zG} {A : Nat → Prop} {Q : State → Prop} {b L o h0 a0 i k n : Nat} {xs : Nat → Int32} {am a : Nat → Nat} {M C : zMS} {f : Nat → Int64} (hLw : zLaw X l D g A b L xs) (h : INV M C) (ha : a 0 = a0) (hi : i + 5 ≤ L) (hk : k + 6 ≤ 601024) (hn : n + 419 ≤ 7293034) (kk : zKK X D g A Q b o h0 a0 i k n am) : zJ X 7 (zI1 D A (zs X)) Q (wLw g h0 am M o f a C) k n [(0, .ref b), (1, .ref a0), (2, .ref h0), (3, .ref o), (4, .int (nI i))] 2243 [] := by
  obtain ⟨B, hLF, hX, hbl, hbA, hL, hl, hst⟩ := hLw
  have hr0 : (wC g a C (4 * cM C))[0]? = some (a0, .inr (6, [.ref (a 1), .ref (a 2), .ref (a 3), .ref (a 4), .ref (a 5), .int (C 0 0)])) := by rw [← ha]; rfl
  subst ha
  have hk2 : k + 0 ≤ room_1.cells := by show k + 0 ≤ 601024; omega
  have hn2 : n + 0 ≤ room_1.slots := by show n + 0 ≤ 7293034; omega
  unfold wLw
  refine z_aload_n B 1 dL_law_2243 rfl rfl ?_
  refine z_callP (As := []) (st := []) (C := RX6) (T := TX6) (N := 6) (ci := 6) (l := l) B hl (cc_X6_lost l D g a C (4 * cM C) h.2.1 (Nat.le_refl _)) gL_law_X6_lost rfl ⟨rfl, rfl⟩ nm_X6_lost ⟨by decide, by decide⟩ (fun H hP => (z_sub hP (fun _ q hq => List.mem_append_right _ (List.mem_cons_of_mem _ (List.mem_of_getElem? hq))))) 0 hr0 rfl rfl (Nat.le_of_ble_eq_true rfl) dL_law_2244 (Nat.le_of_add_right_le hk2) (Nat.le_of_add_right_le hn2) (fun r1 hr1 => ?_)
  obtain rfl := hr1
  refine z_swap ?_
  refine z_aload_n B 2 dL_law_2247 rfl rfl ?_
  refine z_callMf (As := []) (st := [.int (nI (zcnt (fun p => cSt C p = 1 ∧ ¬ cHT C p (nI 1)) (cP C)))]) (C := RX7) (T := TX7) (N := 30) (ci := 7) (l := l) B hl (c7_lost l D g h0 am M h.1) gL_law_X7_lost rfl ⟨rfl, rfl⟩ nm_X7_lost ⟨by decide, by decide⟩ 0 rfl rfl rfl (Nat.le_of_ble_eq_true rfl) dL_law_2248 rfl rfl (by exact hk2) (by exact hn2) (fun r2 w2 hr2 => ?_)
  obtain ⟨rfl, rfl⟩ := hr2
  refine z_swap ?_
  refine z_icmp_eq B 2506 dL_law_2251 (by decide) (fun _ => ?_) (fun q => absurd (by rw [i_P h]; exact congrArg nI (zcnt_cg (fun p hp => and_congr (i_St1 h hp) (not_congr (i_HT h hp ⟨fun q => absurd q (by decide), fun q => absurd rfl q⟩))))) q)
  exact z_wid (by omega) (by omega) (kk _ C f a (INV_0 h) rfl)
set_option maxHeartbeats 4000000 in
set_option maxRecDepth 100000 in
theorem lo_audit {X : zX} {l : Launch} {D : va_G} {g : zG} {A : Nat → Prop} {Q : State → Prop} {b L o h0 a0 i k n : Nat} {xs : Nat → Int32} {am a : Nat → Nat} {M C : zMS} {f : Nat → Int64} (hLw : zLaw X l D g A b L xs) (h : INV M C) (ha : a 0 = a0) (hi : i + 5 ≤ L) (hk : k + 6 ≤ 601024) (hn : n + 419 ≤ 7293034) (kk : zKK X D g A Q b o h0 a0 i k n am) : zJ X 7 (zI1 D A (zs X)) Q (wLw g h0 am M o f a C) k n [(0, .ref b), (1, .ref a0), (2, .ref h0), (3, .ref o), (4, .int (nI i))] 2256 [] := by
  obtain ⟨B, hLF, hX, hbl, hbA, hL, hl, hst⟩ := hLw
  have hr0 : (wC g a C (4 * cM C))[0]? = some (a0, .inr (6, [.ref (a 1), .ref (a 2), .ref (a 3), .ref (a 4), .ref (a 5), .int (C 0 0)])) := by rw [← ha]; rfl
  subst ha
  refine z_aload_n B 1 dL_law_2256 rfl rfl ?_
  refine z_aload_n B 0 dL_law_2257 rfl rfl ?_
  refine z_iload B 4 dL_law_2258 rfl ?_
  refine z_iconst (v := nI 1) B dL_law_2260 (by decide) ?_
  refine z_iaddN B dL_law_2261 ?_
  refine z_sld B hX hbl hbA (j := i + 1) (by omega) hL dL_law_2262 ?_
  refine z_aload_n B 3 dL_law_2263 rfl rfl ?_
  have hM0 := (cc_X6_audit l D g a C (4 * cM C) hst h.2.1 (Nat.le_refl _) (i_CJ h) (xs (i + 1))).L
  have hw0 := fun hE => wr_audit l D g o (a 0) f (wC g a C (4 * cM C)) _ hr0 (xs (i + 1)) _ _ hE hM0
  have hk2 : k + 1 + 0 ≤ room_1.cells := by show k + 1 + 0 ≤ 601024; omega
  have hn2 : n + 6 + 0 ≤ room_1.slots := by show n + 6 + 0 ≤ 7293034; omega
  unfold wLw
  refine z_callW (As := [.ref (a 0), .int (xs (i + 1)), .ref o]) (st := []) (hh := [(0, 9, 12, 13)]) B hLF hl (hw0 (fun E w2 hx => hx.2.1)) gL_law_L_audit rfl ⟨rfl, rfl⟩ nm_L_audit ⟨by decide, by decide⟩ rfl (Nat.le_of_ble_eq_true rfl) dL_law_2264 rfl rfl hk2 hn2 (fun κ w1 hW => ?_)
  refine z_istore (lv1 := [(5, .int κ), (0, .ref b), (1, .ref (a 0)), (2, .ref h0), (3, .ref o), (4, .int (nI i))]) B dL_law_2267 (by decide) rfl ?_
  refine z_swap ?_
  refine z_aload_n B 3 dL_law_2269 rfl rfl ?_
  refine z_aload_n B 1 dL_law_2270 rfl rfl ?_
  refine z_iload B 5 dL_law_2271 rfl ?_
  refine z_iconst (v := nI 1) B dL_law_2273 (by decide) ?_
  refine z_iaddN B dL_law_2274 ?_
  refine z_sld B hX hbl hbA (j := i + 1) (by omega) hL dL_law_2275 ?_
  refine z_callMf (As := [.int (xs (i + 1))]) (st := []) (C := RX7) (T := TX7) (N := 30) (ci := 7) (l := l) B hl (c7_audit l D g h0 am M h.1 (i_MJ h) (xs (i + 1))) gL_law_X7_audit rfl ⟨rfl, rfl⟩ nm_X7_audit ⟨by decide, by decide⟩ 0 rfl rfl rfl (Nat.le_of_ble_eq_true rfl) dL_law_2276 rfl rfl hk2 hn2 (fun r w2 hr2 => ?_)
  obtain ⟨M', rfl, himp⟩ := hr2
  refine z_swap ?_
  obtain ⟨hκ, f', a', C', rfl, hans, hI', ha'⟩ := sim_audit h hW himp
  refine z_istore (lv1 := [(6, .int r), (5, .int κ), (0, .ref b), (1, .ref (a 0)), (2, .ref h0), (3, .ref o), (4, .int (nI i))]) B dL_law_2279 (by decide) rfl ?_
  refine z_aload_n B 4 dL_law_2281 rfl rfl ?_
  refine z_callP (As := []) (st := []) (C := RX7) (T := TX7) (N := 30) (ci := 7) (l := l) B hl (c7_thrown l D g h0 am M') gL_law_X7_thrown rfl ⟨rfl, rfl⟩ nm_X7_thrown ⟨by decide, by decide⟩ (fun H hP => (z_sub hP (fun _ q hq => List.mem_append_left _ (List.mem_of_getElem? hq)))) 0 rfl rfl rfl (Nat.le_of_ble_eq_true rfl) dL_law_2282 (Nat.le_of_add_right_le hk2) (Nat.le_of_add_right_le hn2) (fun r2 hr2 => ?_)
  refine z_top (y := κ) (hr2.trans hκ) ?_
  refine z_iload B 1 dL_law_2285 rfl ?_
  refine z_icmp_eq B 2292 dL_law_2287 (by decide) (fun _ => ?_) (fun q => absurd rfl q)
  refine z_iload B 1 dL_law_2292 rfl ?_
  have fin : zJ X 7 (zI1 D A (zs X)) Q (wM g h0 am M' ++ ((o, .inl (g.2.2.2, 1, .inr (.inl f'))) :: wC g a' C' (4 * cM C'))) (k + 1 + 0) (n + 6 + 0) [(6, .int r), (5, .int κ), (0, .ref b), (1, .ref (a 0)), (2, .ref h0), (3, .ref o), (4, .int (nI i))] 2309 [] := by
    refine z_goto B 2506 dL_law_2309 (by decide) ?_
    refine z_loc [2, 3, 4, 5, 6] (lv' := [(0, .ref b), (1, .ref (a 0)), (2, .ref h0), (3, .ref o), (4, .int (nI i))]) rfl ?_
    exact z_wid (by omega) (by omega) (kk M' C' f' a' hI' ha')
  refine z_if_ne B 2309 dL_law_2294 (by decide) (fun _ => fin) (fun hz => ?_)
  have hans := hans hz
  refine z_aload_n B 5 dL_law_2297 rfl rfl ?_
  refine z_iconst (v := nI 0) B dL_law_2298 (by decide) ?_
  refine z_lald (f := f') (i := 0) (a := o) B 24 3 rfl rfl (by decide) (by decide) dL_law_2299 ?_
  refine z_topv (y := .long r.toInt64) (by rw [hans]) ?_
  refine z_iload B 0 dL_law_2300 rfl ?_
  refine z_i2l B dL_law_2302 ?_
  refine z_lcmp B dL_law_2303 ?_
  refine z_top (y := nI 0) (lg_cmp_rfl _) ?_
  exact z_if_eq B 2309 dL_law_2304 (by decide) (fun _ => fin) (fun q => absurd rfl q)
set_option maxHeartbeats 4000000 in
set_option maxRecDepth 100000 in
theorem lo_isOpen {X : zX} {l : Launch} {D : va_G} {g : zG} {A : Nat → Prop} {Q : State → Prop} {b L o h0 a0 i k n : Nat} {xs : Nat → Int32} {am a : Nat → Nat} {M C : zMS} {f : Nat → Int64} (hLw : zLaw X l D g A b L xs) (h : INV M C) (ha : a 0 = a0) (hi : i + 5 ≤ L) (hk : k + 6 ≤ 601024) (hn : n + 419 ≤ 7293034) (kk : zKK X D g A Q b o h0 a0 i k n am) : zJ X 7 (zI1 D A (zs X)) Q (wLw g h0 am M o f a C) k n [(0, .ref b), (1, .ref a0), (2, .ref h0), (3, .ref o), (4, .int (nI i))] 2312 [] := by
  obtain ⟨B, hLF, hX, hbl, hbA, hL, hl, hst⟩ := hLw
  have hr0 : (wC g a C (4 * cM C))[0]? = some (a0, .inr (6, [.ref (a 1), .ref (a 2), .ref (a 3), .ref (a 4), .ref (a 5), .int (C 0 0)])) := by rw [← ha]; rfl
  subst ha
  refine z_aload_n B 1 dL_law_2312 rfl rfl ?_
  refine z_aload_n B 0 dL_law_2313 rfl rfl ?_
  refine z_iload B 4 dL_law_2314 rfl ?_
  refine z_iconst (v := nI 1) B dL_law_2316 (by decide) ?_
  refine z_iaddN B dL_law_2317 ?_
  refine z_sld B hX hbl hbA (j := i + 1) (by omega) hL dL_law_2318 ?_
  refine z_aload_n B 3 dL_law_2319 rfl rfl ?_
  have hM0 := (cc_X6_isOpen l D g a C (4 * cM C) hst h.2.1 (xs (i + 1))).L
  have hw0 := fun hE hB => wr_isOpen l D g o (a 0) f (wC g a C (4 * cM C)) _ hr0 (xs (i + 1)) _ _ hE hB hM0
  have hk2 : k + 1 + 0 ≤ room_1.cells := by show k + 1 + 0 ≤ 601024; omega
  have hn2 : n + 6 + 0 ≤ room_1.slots := by show n + 6 + 0 ≤ 7293034; omega
  unfold wLw
  refine z_callW (As := [.ref (a 0), .int (xs (i + 1)), .ref o]) (st := []) (hh := [(0, 16, 19, 13)]) B hLF hl (hw0 (fun E w2 hx => hx.2.1) (fun r w2 hp => b01_isOpen h hp)) gL_law_L_isOpen rfl ⟨rfl, rfl⟩ nm_L_isOpen ⟨by decide, by decide⟩ rfl (Nat.le_of_ble_eq_true rfl) dL_law_2320 rfl rfl hk2 hn2 (fun κ w1 hW => ?_)
  refine z_istore (lv1 := [(5, .int κ), (0, .ref b), (1, .ref (a 0)), (2, .ref h0), (3, .ref o), (4, .int (nI i))]) B dL_law_2323 (by decide) rfl ?_
  refine z_swap ?_
  refine z_aload_n B 3 dL_law_2325 rfl rfl ?_
  refine z_aload_n B 1 dL_law_2326 rfl rfl ?_
  refine z_iload B 5 dL_law_2327 rfl ?_
  refine z_iconst (v := nI 1) B dL_law_2329 (by decide) ?_
  refine z_iaddN B dL_law_2330 ?_
  refine z_sld B hX hbl hbA (j := i + 1) (by omega) hL dL_law_2331 ?_
  refine z_callMf (As := [.int (xs (i + 1))]) (st := []) (C := RX7) (T := TX7) (N := 30) (ci := 7) (l := l) B hl (c7_isOpen l D g h0 am M h.1 (xs (i + 1))) gL_law_X7_isOpen rfl ⟨rfl, rfl⟩ nm_X7_isOpen ⟨by decide, by decide⟩ 0 rfl rfl rfl (Nat.le_of_ble_eq_true rfl) dL_law_2332 rfl rfl hk2 hn2 (fun r w2 hr2 => ?_)
  obtain ⟨M', rfl, himp⟩ := hr2
  refine z_swap ?_
  obtain ⟨hκ, f', a', C', rfl, hans, hI', ha'⟩ := sim_isOpen h hW himp
  have h01 := r01_isOpen h himp
  refine z_istore (lv1 := [(6, .int r), (5, .int κ), (0, .ref b), (1, .ref (a 0)), (2, .ref h0), (3, .ref o), (4, .int (nI i))]) B dL_law_2335 (by decide) rfl ?_
  refine z_aload_n B 4 dL_law_2337 rfl rfl ?_
  refine z_callP (As := []) (st := []) (C := RX7) (T := TX7) (N := 30) (ci := 7) (l := l) B hl (c7_thrown l D g h0 am M') gL_law_X7_thrown rfl ⟨rfl, rfl⟩ nm_X7_thrown ⟨by decide, by decide⟩ (fun H hP => (z_sub hP (fun _ q hq => List.mem_append_left _ (List.mem_of_getElem? hq)))) 0 rfl rfl rfl (Nat.le_of_ble_eq_true rfl) dL_law_2338 (Nat.le_of_add_right_le hk2) (Nat.le_of_add_right_le hn2) (fun r2 hr2 => ?_)
  refine z_top (y := κ) (hr2.trans hκ) ?_
  refine z_iload B 1 dL_law_2341 rfl ?_
  refine z_icmp_eq B 2348 dL_law_2343 (by decide) (fun _ => ?_) (fun q => absurd rfl q)
  refine z_iload B 1 dL_law_2348 rfl ?_
  have fin : zJ X 7 (zI1 D A (zs X)) Q (wM g h0 am M' ++ ((o, .inl (g.2.2.2, 1, .inr (.inl f'))) :: wC g a' C' (4 * cM C'))) (k + 1 + 0) (n + 6 + 0) [(6, .int r), (5, .int κ), (0, .ref b), (1, .ref (a 0)), (2, .ref h0), (3, .ref o), (4, .int (nI i))] 2372 [] := by
    refine z_goto B 2506 dL_law_2372 (by decide) ?_
    refine z_loc [2, 3, 4, 5, 6] (lv' := [(0, .ref b), (1, .ref (a 0)), (2, .ref h0), (3, .ref o), (4, .int (nI i))]) rfl ?_
    exact z_wid (by omega) (by omega) (kk M' C' f' a' hI' ha')
  refine z_if_ne B 2372 dL_law_2350 (by decide) (fun _ => fin) (fun hz => ?_)
  have hans := hans hz
  have h01 := h01 (hκ.trans hz)
  refine z_aload_n B 5 dL_law_2353 rfl rfl ?_
  refine z_iconst (v := nI 0) B dL_law_2354 (by decide) ?_
  refine z_lald (f := f') (i := 0) (a := o) B 24 3 rfl rfl (by decide) (by decide) dL_law_2355 ?_
  refine z_topv (y := .long r.toInt64) (by rw [hans]) ?_
  refine z_iload B 0 dL_law_2356 rfl ?_
  rcases h01 with rfl | rfl
  · refine z_if_eq B 2365 dL_law_2358 (by decide) (fun _ => ?_) (fun q => absurd rfl q)
    refine z_lconst (v := (0 : Int32).toInt64) B dL_law_2365 (by decide) ?_
    refine z_lcmp B dL_law_2366 ?_
    refine z_top (y := nI 0) (lg_cmp_rfl _) ?_
    exact z_if_eq B 2372 dL_law_2367 (by decide) (fun _ => fin) (fun q => absurd rfl q)
  · refine z_if_eq B 2365 dL_law_2358 (by decide) (fun q => absurd q (by decide)) (fun _ => ?_)
    refine z_lconst (v := (1 : Int32).toInt64) B dL_law_2361 (by decide) ?_
    refine z_goto B 2366 dL_law_2362 (by decide) ?_
    refine z_lcmp B dL_law_2366 ?_
    refine z_top (y := nI 0) (lg_cmp_rfl _) ?_
    exact z_if_eq B 2372 dL_law_2367 (by decide) (fun _ => fin) (fun q => absurd rfl q)
set_option maxHeartbeats 4000000 in
set_option maxRecDepth 100000 in
theorem lo_holders {X : zX} {l : Launch} {D : va_G} {g : zG} {A : Nat → Prop} {Q : State → Prop} {b L o h0 a0 i k n : Nat} {xs : Nat → Int32} {am a : Nat → Nat} {M C : zMS} {f : Nat → Int64} (hLw : zLaw X l D g A b L xs) (h : INV M C) (ha : a 0 = a0) (hi : i + 5 ≤ L) (hk : k + 6 ≤ 601024) (hn : n + 419 ≤ 7293034) (kk : zKK X D g A Q b o h0 a0 i k n am) : zJ X 7 (zI1 D A (zs X)) Q (wLw g h0 am M o f a C) k n [(0, .ref b), (1, .ref a0), (2, .ref h0), (3, .ref o), (4, .int (nI i))] 2375 [] := by
  obtain ⟨B, hLF, hX, hbl, hbA, hL, hl, hst⟩ := hLw
  have hr0 : (wC g a C (4 * cM C))[0]? = some (a0, .inr (6, [.ref (a 1), .ref (a 2), .ref (a 3), .ref (a 4), .ref (a 5), .int (C 0 0)])) := by rw [← ha]; rfl
  subst ha
  refine z_aload_n B 1 dL_law_2375 rfl rfl ?_
  refine z_aload_n B 0 dL_law_2376 rfl rfl ?_
  refine z_iload B 4 dL_law_2377 rfl ?_
  refine z_iconst (v := nI 1) B dL_law_2379 (by decide) ?_
  refine z_iaddN B dL_law_2380 ?_
  refine z_sld B hX hbl hbA (j := i + 1) (by omega) hL dL_law_2381 ?_
  refine z_aload_n B 3 dL_law_2382 rfl rfl ?_
  have hM0 := (cc_X6_holders l D g a C (4 * cM C) hst h.2.1 (xs (i + 1))).L
  have hw0 := fun hE => wr_holders l D g o (a 0) f (wC g a C (4 * cM C)) _ hr0 (xs (i + 1)) _ _ hE hM0
  have hk2 : k + 1 + 0 ≤ room_1.cells := by show k + 1 + 0 ≤ 601024; omega
  have hn2 : n + 6 + 0 ≤ room_1.slots := by show n + 6 + 0 ≤ 7293034; omega
  unfold wLw
  refine z_callW (As := [.ref (a 0), .int (xs (i + 1)), .ref o]) (st := []) (hh := [(0, 9, 12, 13)]) B hLF hl (hw0 (fun E w2 hx => hx.2.1)) gL_law_L_holders rfl ⟨rfl, rfl⟩ nm_L_holders ⟨by decide, by decide⟩ rfl (Nat.le_of_ble_eq_true rfl) dL_law_2383 rfl rfl hk2 hn2 (fun κ w1 hW => ?_)
  refine z_istore (lv1 := [(5, .int κ), (0, .ref b), (1, .ref (a 0)), (2, .ref h0), (3, .ref o), (4, .int (nI i))]) B dL_law_2386 (by decide) rfl ?_
  refine z_swap ?_
  refine z_aload_n B 3 dL_law_2388 rfl rfl ?_
  refine z_aload_n B 1 dL_law_2389 rfl rfl ?_
  refine z_iload B 5 dL_law_2390 rfl ?_
  refine z_iconst (v := nI 1) B dL_law_2392 (by decide) ?_
  refine z_iaddN B dL_law_2393 ?_
  refine z_sld B hX hbl hbA (j := i + 1) (by omega) hL dL_law_2394 ?_
  refine z_callMf (As := [.int (xs (i + 1))]) (st := []) (C := RX7) (T := TX7) (N := 30) (ci := 7) (l := l) B hl (c7_holders l D g h0 am M h.1 (xs (i + 1))) gL_law_X7_holders rfl ⟨rfl, rfl⟩ nm_X7_holders ⟨by decide, by decide⟩ 0 rfl rfl rfl (Nat.le_of_ble_eq_true rfl) dL_law_2395 rfl rfl hk2 hn2 (fun r w2 hr2 => ?_)
  obtain ⟨M', rfl, himp⟩ := hr2
  refine z_swap ?_
  obtain ⟨hκ, f', a', C', rfl, hans, hI', ha'⟩ := sim_holders h hW himp
  refine z_istore (lv1 := [(6, .int r), (5, .int κ), (0, .ref b), (1, .ref (a 0)), (2, .ref h0), (3, .ref o), (4, .int (nI i))]) B dL_law_2398 (by decide) rfl ?_
  refine z_aload_n B 4 dL_law_2400 rfl rfl ?_
  refine z_callP (As := []) (st := []) (C := RX7) (T := TX7) (N := 30) (ci := 7) (l := l) B hl (c7_thrown l D g h0 am M') gL_law_X7_thrown rfl ⟨rfl, rfl⟩ nm_X7_thrown ⟨by decide, by decide⟩ (fun H hP => (z_sub hP (fun _ q hq => List.mem_append_left _ (List.mem_of_getElem? hq)))) 0 rfl rfl rfl (Nat.le_of_ble_eq_true rfl) dL_law_2401 (Nat.le_of_add_right_le hk2) (Nat.le_of_add_right_le hn2) (fun r2 hr2 => ?_)
  refine z_top (y := κ) (hr2.trans hκ) ?_
  refine z_iload B 1 dL_law_2404 rfl ?_
  refine z_icmp_eq B 2411 dL_law_2406 (by decide) (fun _ => ?_) (fun q => absurd rfl q)
  refine z_iload B 1 dL_law_2411 rfl ?_
  have fin : zJ X 7 (zI1 D A (zs X)) Q (wM g h0 am M' ++ ((o, .inl (g.2.2.2, 1, .inr (.inl f'))) :: wC g a' C' (4 * cM C'))) (k + 1 + 0) (n + 6 + 0) [(6, .int r), (5, .int κ), (0, .ref b), (1, .ref (a 0)), (2, .ref h0), (3, .ref o), (4, .int (nI i))] 2428 [] := by
    refine z_goto B 2506 dL_law_2428 (by decide) ?_
    refine z_loc [2, 3, 4, 5, 6] (lv' := [(0, .ref b), (1, .ref (a 0)), (2, .ref h0), (3, .ref o), (4, .int (nI i))]) rfl ?_
    exact z_wid (by omega) (by omega) (kk M' C' f' a' hI' ha')
  refine z_if_ne B 2428 dL_law_2413 (by decide) (fun _ => fin) (fun hz => ?_)
  have hans := hans hz
  refine z_aload_n B 5 dL_law_2416 rfl rfl ?_
  refine z_iconst (v := nI 0) B dL_law_2417 (by decide) ?_
  refine z_lald (f := f') (i := 0) (a := o) B 24 3 rfl rfl (by decide) (by decide) dL_law_2418 ?_
  refine z_topv (y := .long r.toInt64) (by rw [hans]) ?_
  refine z_iload B 0 dL_law_2419 rfl ?_
  refine z_i2l B dL_law_2421 ?_
  refine z_lcmp B dL_law_2422 ?_
  refine z_top (y := nI 0) (lg_cmp_rfl _) ?_
  exact z_if_eq B 2428 dL_law_2423 (by decide) (fun _ => fin) (fun q => absurd rfl q)
set_option maxHeartbeats 4000000 in
set_option maxRecDepth 100000 in
theorem lo_canStrike {X : zX} {l : Launch} {D : va_G} {g : zG} {A : Nat → Prop} {Q : State → Prop} {b L o h0 a0 i k n : Nat} {xs : Nat → Int32} {am a : Nat → Nat} {M C : zMS} {f : Nat → Int64} (hLw : zLaw X l D g A b L xs) (h : INV M C) (ha : a 0 = a0) (hi : i + 5 ≤ L) (hk : k + 6 ≤ 601024) (hn : n + 419 ≤ 7293034) (kk : zKK X D g A Q b o h0 a0 i k n am) : zJ X 7 (zI1 D A (zs X)) Q (wLw g h0 am M o f a C) k n [(0, .ref b), (1, .ref a0), (2, .ref h0), (3, .ref o), (4, .int (nI i))] 2431 [] := by
  obtain ⟨B, hLF, hX, hbl, hbA, hL, hl, hst⟩ := hLw
  have hr0 : (wC g a C (4 * cM C))[0]? = some (a0, .inr (6, [.ref (a 1), .ref (a 2), .ref (a 3), .ref (a 4), .ref (a 5), .int (C 0 0)])) := by rw [← ha]; rfl
  subst ha
  refine z_aload_n B 1 dL_law_2431 rfl rfl ?_
  refine z_aload_n B 0 dL_law_2432 rfl rfl ?_
  refine z_iload B 4 dL_law_2433 rfl ?_
  refine z_iconst (v := nI 1) B dL_law_2435 (by decide) ?_
  refine z_iaddN B dL_law_2436 ?_
  refine z_sld B hX hbl hbA (j := i + 1) (by omega) hL dL_law_2437 ?_
  refine z_aload_n B 0 dL_law_2438 rfl rfl ?_
  refine z_iload B 4 dL_law_2439 rfl ?_
  refine z_iconst (v := nI 2) B dL_law_2441 (by decide) ?_
  refine z_iaddN B dL_law_2442 ?_
  refine z_sld B hX hbl hbA (j := i + 2) (by omega) hL dL_law_2443 ?_
  refine z_aload_n B 3 dL_law_2444 rfl rfl ?_
  have hM0 := (cc_X6_canStrike l D g a C (4 * cM C) hst h.2.1 (xs (i + 1)) (xs (i + 2))).L
  have hw0 := fun hE hB => wr_canStrike l D g o (a 0) f (wC g a C (4 * cM C)) _ hr0 (xs (i + 1)) (xs (i + 2)) _ _ hE hB hM0
  have hk2 : k + 2 + 0 ≤ room_1.cells := by show k + 2 + 0 ≤ 601024; omega
  have hn2 : n + 12 + 0 ≤ room_1.slots := by show n + 12 + 0 ≤ 7293034; omega
  unfold wLw
  refine z_callW (As := [.ref (a 0), .int (xs (i + 1)), .int (xs (i + 2)), .ref o]) (st := []) (hh := [(0, 17, 20, 13)]) B hLF hl (hw0 (fun E w2 hx => hx.2.elim (fun q => q.1) (fun q => q.1)) (fun r w2 hp => b01_canStrike h hp)) gL_law_L_canStrike rfl ⟨rfl, rfl⟩ nm_L_canStrike ⟨by decide, by decide⟩ rfl (Nat.le_of_ble_eq_true rfl) dL_law_2445 rfl rfl hk2 hn2 (fun κ w1 hW => ?_)
  refine z_istore (lv1 := [(5, .int κ), (0, .ref b), (1, .ref (a 0)), (2, .ref h0), (3, .ref o), (4, .int (nI i))]) B dL_law_2448 (by decide) rfl ?_
  refine z_swap ?_
  refine z_aload_n B 3 dL_law_2450 rfl rfl ?_
  refine z_aload_n B 1 dL_law_2451 rfl rfl ?_
  refine z_iload B 5 dL_law_2452 rfl ?_
  refine z_iconst (v := nI 1) B dL_law_2454 (by decide) ?_
  refine z_iaddN B dL_law_2455 ?_
  refine z_sld B hX hbl hbA (j := i + 1) (by omega) hL dL_law_2456 ?_
  refine z_aload_n B 1 dL_law_2457 rfl rfl ?_
  refine z_iload B 5 dL_law_2458 rfl ?_
  refine z_iconst (v := nI 2) B dL_law_2460 (by decide) ?_
  refine z_iaddN B dL_law_2461 ?_
  refine z_sld B hX hbl hbA (j := i + 2) (by omega) hL dL_law_2462 ?_
  refine z_callMf (As := [.int (xs (i + 1)), .int (xs (i + 2))]) (st := []) (C := RX7) (T := TX7) (N := 30) (ci := 7) (l := l) B hl (c7_canStrike l D g h0 am M h.1 (xs (i + 1)) (xs (i + 2))) gL_law_X7_canStrike rfl ⟨rfl, rfl⟩ nm_X7_canStrike ⟨by decide, by decide⟩ 0 rfl rfl rfl (Nat.le_of_ble_eq_true rfl) dL_law_2463 rfl rfl hk2 hn2 (fun r w2 hr2 => ?_)
  obtain ⟨M', rfl, himp⟩ := hr2
  refine z_swap ?_
  obtain ⟨hκ, f', a', C', rfl, hans, hI', ha'⟩ := sim_canStrike h hW himp
  have h01 := r01_canStrike h himp
  refine z_istore (lv1 := [(6, .int r), (5, .int κ), (0, .ref b), (1, .ref (a 0)), (2, .ref h0), (3, .ref o), (4, .int (nI i))]) B dL_law_2466 (by decide) rfl ?_
  refine z_aload_n B 4 dL_law_2468 rfl rfl ?_
  refine z_callP (As := []) (st := []) (C := RX7) (T := TX7) (N := 30) (ci := 7) (l := l) B hl (c7_thrown l D g h0 am M') gL_law_X7_thrown rfl ⟨rfl, rfl⟩ nm_X7_thrown ⟨by decide, by decide⟩ (fun H hP => (z_sub hP (fun _ q hq => List.mem_append_left _ (List.mem_of_getElem? hq)))) 0 rfl rfl rfl (Nat.le_of_ble_eq_true rfl) dL_law_2469 (Nat.le_of_add_right_le hk2) (Nat.le_of_add_right_le hn2) (fun r2 hr2 => ?_)
  refine z_top (y := κ) (hr2.trans hκ) ?_
  refine z_iload B 1 dL_law_2472 rfl ?_
  refine z_icmp_eq B 2479 dL_law_2474 (by decide) (fun _ => ?_) (fun q => absurd rfl q)
  refine z_iload B 1 dL_law_2479 rfl ?_
  have fin : zJ X 7 (zI1 D A (zs X)) Q (wM g h0 am M' ++ ((o, .inl (g.2.2.2, 1, .inr (.inl f'))) :: wC g a' C' (4 * cM C'))) (k + 2 + 0) (n + 12 + 0) [(6, .int r), (5, .int κ), (0, .ref b), (1, .ref (a 0)), (2, .ref h0), (3, .ref o), (4, .int (nI i))] 2503 [] := by
    refine z_goto B 2506 dL_law_2503 (by decide) ?_
    refine z_loc [2, 3, 4, 5, 6] (lv' := [(0, .ref b), (1, .ref (a 0)), (2, .ref h0), (3, .ref o), (4, .int (nI i))]) rfl ?_
    exact z_wid (by omega) (by omega) (kk M' C' f' a' hI' ha')
  refine z_if_ne B 2503 dL_law_2481 (by decide) (fun _ => fin) (fun hz => ?_)
  have hans := hans hz
  have h01 := h01 (hκ.trans hz)
  refine z_aload_n B 5 dL_law_2484 rfl rfl ?_
  refine z_iconst (v := nI 0) B dL_law_2485 (by decide) ?_
  refine z_lald (f := f') (i := 0) (a := o) B 24 3 rfl rfl (by decide) (by decide) dL_law_2486 ?_
  refine z_topv (y := .long r.toInt64) (by rw [hans]) ?_
  refine z_iload B 0 dL_law_2487 rfl ?_
  rcases h01 with rfl | rfl
  · refine z_if_eq B 2496 dL_law_2489 (by decide) (fun _ => ?_) (fun q => absurd rfl q)
    refine z_lconst (v := (0 : Int32).toInt64) B dL_law_2496 (by decide) ?_
    refine z_lcmp B dL_law_2497 ?_
    refine z_top (y := nI 0) (lg_cmp_rfl _) ?_
    exact z_if_eq B 2503 dL_law_2498 (by decide) (fun _ => fin) (fun q => absurd rfl q)
  · refine z_if_eq B 2496 dL_law_2489 (by decide) (fun q => absurd q (by decide)) (fun _ => ?_)
    refine z_lconst (v := (1 : Int32).toInt64) B dL_law_2492 (by decide) ?_
    refine z_goto B 2497 dL_law_2493 (by decide) ?_
    refine z_lcmp B dL_law_2497 ?_
    refine z_top (y := nI 0) (lg_cmp_rfl _) ?_
    exact z_if_eq B 2503 dL_law_2498 (by decide) (fun _ => fin) (fun q => absurd rfl q)
