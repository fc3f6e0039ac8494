/-! the law's cases -/
set_option maxHeartbeats 4000000 in
set_option maxRecDepth 100000 in
theorem lo_day {X : zX} {l : Launch} {D : va_G} {g : zG} {A : Nat → Prop} {Q : State → Prop} {b L o h0 a0 i k n : Nat} {xs : Nat → Int32} {am a : Nat → Nat} {M C : zMS} {f : Nat → Int64} (hLw : zLaw X l D g A b L xs) (h : INV M C) (ha : a 0 = a0) (hi : i + 5 ≤ L) (hk : k + 6 ≤ 601024) (hn : n + 419 ≤ 7293034) (kk : zKK X D g A Q b o h0 a0 i k n am) : zJ X 7 (zI1 D A (zs X)) Q (wLw g h0 am M o f a C) k n [(0, .ref b), (1, .ref a0), (2, .ref h0), (3, .ref o), (4, .int (nI i))] 1244 [] := by
  obtain ⟨B, hLF, hX, hbl, hbA, hL, hl, hst⟩ := hLw
  have hr0 : (wC g a C (4 * cM C))[0]? = some (a0, .inr (6, [.ref (a 1), .ref (a 2), .ref (a 3), .ref (a 4), .ref (a 5), .int (C 0 0)])) := by rw [← ha]; rfl
  subst ha
  have hk2 : k + 0 ≤ room_1.cells := by show k + 0 ≤ 601024; omega
  have hn2 : n + 0 ≤ room_1.slots := by show n + 0 ≤ 7293034; omega
  unfold wLw
  refine z_aload_n B 1 dL_law_1244 rfl rfl ?_
  refine z_callP (As := []) (st := []) (C := RX6) (T := TX6) (N := 6) (ci := 6) (l := l) B hl (cc_X6_day l D g a C (4 * cM C) h.2.1) gL_law_X6_day rfl ⟨rfl, rfl⟩ nm_X6_day ⟨by decide, by decide⟩ (fun H hP => (z_sub hP (fun _ q hq => List.mem_append_right _ (List.mem_cons_of_mem _ (List.mem_of_getElem? hq))))) 0 hr0 rfl rfl (Nat.le_of_ble_eq_true rfl) dL_law_1245 (Nat.le_of_add_right_le hk2) (Nat.le_of_add_right_le hn2) (fun r1 hr1 => ?_)
  obtain rfl := hr1
  refine z_swap ?_
  refine z_aload_n B 2 dL_law_1248 rfl rfl ?_
  refine z_callMf (As := []) (st := [.int (nI (cT C))]) (C := RX7) (T := TX7) (N := 30) (ci := 7) (l := l) B hl (c7_day l D g h0 am M h.1) gL_law_X7_day rfl ⟨rfl, rfl⟩ nm_X7_day ⟨by decide, by decide⟩ 0 rfl rfl rfl (Nat.le_of_ble_eq_true rfl) dL_law_1249 rfl rfl (by exact hk2) (by exact hn2) (fun r2 w2 hr2 => ?_)
  obtain ⟨rfl, rfl⟩ := hr2
  refine z_swap ?_
  refine z_icmp_eq B 2506 dL_law_1252 (by decide) (fun _ => ?_) (fun q => absurd (by rw [i_T h]) q)
  exact z_wid (by omega) (by omega) (kk _ C f a (INV_0 h) rfl)
set_option maxHeartbeats 4000000 in
set_option maxRecDepth 100000 in
theorem lo_pages {X : zX} {l : Launch} {D : va_G} {g : zG} {A : Nat → Prop} {Q : State → Prop} {b L o h0 a0 i k n : Nat} {xs : Nat → Int32} {am a : Nat → Nat} {M C : zMS} {f : Nat → Int64} (hLw : zLaw X l D g A b L xs) (h : INV M C) (ha : a 0 = a0) (hi : i + 5 ≤ L) (hk : k + 6 ≤ 601024) (hn : n + 419 ≤ 7293034) (kk : zKK X D g A Q b o h0 a0 i k n am) : zJ X 7 (zI1 D A (zs X)) Q (wLw g h0 am M o f a C) k n [(0, .ref b), (1, .ref a0), (2, .ref h0), (3, .ref o), (4, .int (nI i))] 1257 [] := by
  obtain ⟨B, hLF, hX, hbl, hbA, hL, hl, hst⟩ := hLw
  have hr0 : (wC g a C (4 * cM C))[0]? = some (a0, .inr (6, [.ref (a 1), .ref (a 2), .ref (a 3), .ref (a 4), .ref (a 5), .int (C 0 0)])) := by rw [← ha]; rfl
  subst ha
  have hk2 : k + 0 ≤ room_1.cells := by show k + 0 ≤ 601024; omega
  have hn2 : n + 0 ≤ room_1.slots := by show n + 0 ≤ 7293034; omega
  unfold wLw
  refine z_aload_n B 1 dL_law_1257 rfl rfl ?_
  refine z_callP (As := []) (st := []) (C := RX6) (T := TX6) (N := 6) (ci := 6) (l := l) B hl (cc_X6_pages l D g a C (4 * cM C) h.2.1) gL_law_X6_pages rfl ⟨rfl, rfl⟩ nm_X6_pages ⟨by decide, by decide⟩ (fun H hP => (z_sub hP (fun _ q hq => List.mem_append_right _ (List.mem_cons_of_mem _ (List.mem_of_getElem? hq))))) 0 hr0 rfl rfl (Nat.le_of_ble_eq_true rfl) dL_law_1258 (Nat.le_of_add_right_le hk2) (Nat.le_of_add_right_le hn2) (fun r1 hr1 => ?_)
  obtain rfl := hr1
  refine z_swap ?_
  refine z_aload_n B 2 dL_law_1261 rfl rfl ?_
  refine z_callMf (As := []) (st := [.int (nI (cP C))]) (C := RX7) (T := TX7) (N := 30) (ci := 7) (l := l) B hl (c7_pages l D g h0 am M h.1) gL_law_X7_pages rfl ⟨rfl, rfl⟩ nm_X7_pages ⟨by decide, by decide⟩ 0 rfl rfl rfl (Nat.le_of_ble_eq_true rfl) dL_law_1262 rfl rfl (by exact hk2) (by exact hn2) (fun r2 w2 hr2 => ?_)
  obtain ⟨rfl, rfl⟩ := hr2
  refine z_swap ?_
  refine z_icmp_eq B 2506 dL_law_1265 (by decide) (fun _ => ?_) (fun q => absurd (by rw [i_P h]) q)
  exact z_wid (by omega) (by omega) (kk _ C f a (INV_0 h) rfl)
set_option maxHeartbeats 4000000 in
set_option maxRecDepth 100000 in
theorem lo_state {X : zX} {l : Launch} {D : va_G} {g : zG} {A : Nat → Prop} {Q : State → Prop} {b L o h0 a0 i k n : Nat} {xs : Nat → Int32} {am a : Nat → Nat} {M C : zMS} {f : Nat → Int64} (hLw : zLaw X l D g A b L xs) (h : INV M C) (ha : a 0 = a0) (hi : i + 5 ≤ L) (hk : k + 6 ≤ 601024) (hn : n + 419 ≤ 7293034) (kk : zKK X D g A Q b o h0 a0 i k n am) : zJ X 7 (zI1 D A (zs X)) Q (wLw g h0 am M o f a C) k n [(0, .ref b), (1, .ref a0), (2, .ref h0), (3, .ref o), (4, .int (nI i))] 1270 [] := by
  obtain ⟨B, hLF, hX, hbl, hbA, hL, hl, hst⟩ := hLw
  have hr0 : (wC g a C (4 * cM C))[0]? = some (a0, .inr (6, [.ref (a 1), .ref (a 2), .ref (a 3), .ref (a 4), .ref (a 5), .int (C 0 0)])) := by rw [← ha]; rfl
  subst ha
  refine z_aload_n B 1 dL_law_1270 rfl rfl ?_
  refine z_aload_n B 0 dL_law_1271 rfl rfl ?_
  refine z_iload B 4 dL_law_1272 rfl ?_
  refine z_iconst (v := nI 1) B dL_law_1274 (by decide) ?_
  refine z_iaddN B dL_law_1275 ?_
  refine z_sld B hX hbl hbA (j := i + 1) (by omega) hL dL_law_1276 ?_
  refine z_aload_n B 3 dL_law_1277 rfl rfl ?_
  have hM0 := (cc_X6_state l D g a C (4 * cM C) hst h.2.1 (xs (i + 1))).L
  have hw0 := fun hE => wr_state l D g o (a 0) f (wC g a C (4 * cM C)) _ hr0 (xs (i + 1)) _ _ hE hM0
  have hk2 : k + 1 + 0 ≤ room_1.cells := by show k + 1 + 0 ≤ 601024; omega
  have hn2 : n + 6 + 0 ≤ room_1.slots := by show n + 6 + 0 ≤ 7293034; omega
  unfold wLw
  refine z_callW (As := [.ref (a 0), .int (xs (i + 1)), .ref o]) (st := []) (hh := [(0, 9, 12, 13)]) B hLF hl (hw0 (fun E w2 hx => hx.2.1)) gL_law_L_state rfl ⟨rfl, rfl⟩ nm_L_state ⟨by decide, by decide⟩ rfl (Nat.le_of_ble_eq_true rfl) dL_law_1278 rfl rfl hk2 hn2 (fun κ w1 hW => ?_)
  refine z_istore (lv1 := [(5, .int κ), (0, .ref b), (1, .ref (a 0)), (2, .ref h0), (3, .ref o), (4, .int (nI i))]) B dL_law_1281 (by decide) rfl ?_
  refine z_swap ?_
  refine z_aload_n B 3 dL_law_1283 rfl rfl ?_
  refine z_aload_n B 1 dL_law_1284 rfl rfl ?_
  refine z_iload B 5 dL_law_1285 rfl ?_
  refine z_iconst (v := nI 1) B dL_law_1287 (by decide) ?_
  refine z_iaddN B dL_law_1288 ?_
  refine z_sld B hX hbl hbA (j := i + 1) (by omega) hL dL_law_1289 ?_
  refine z_callMf (As := [.int (xs (i + 1))]) (st := []) (C := RX7) (T := TX7) (N := 30) (ci := 7) (l := l) B hl (c7_state l D g h0 am M h.1 (xs (i + 1))) gL_law_X7_state rfl ⟨rfl, rfl⟩ nm_X7_state ⟨by decide, by decide⟩ 0 rfl rfl rfl (Nat.le_of_ble_eq_true rfl) dL_law_1290 rfl rfl hk2 hn2 (fun r w2 hr2 => ?_)
  obtain ⟨M', rfl, himp⟩ := hr2
  refine z_swap ?_
  obtain ⟨hκ, f', a', C', rfl, hans, hI', ha'⟩ := sim_state h hW himp
  refine z_istore (lv1 := [(6, .int r), (5, .int κ), (0, .ref b), (1, .ref (a 0)), (2, .ref h0), (3, .ref o), (4, .int (nI i))]) B dL_law_1293 (by decide) rfl ?_
  refine z_aload_n B 4 dL_law_1295 rfl rfl ?_
  refine z_callP (As := []) (st := []) (C := RX7) (T := TX7) (N := 30) (ci := 7) (l := l) B hl (c7_thrown l D g h0 am M') gL_law_X7_thrown rfl ⟨rfl, rfl⟩ nm_X7_thrown ⟨by decide, by decide⟩ (fun H hP => (z_sub hP (fun _ q hq => List.mem_append_left _ (List.mem_of_getElem? hq)))) 0 rfl rfl rfl (Nat.le_of_ble_eq_true rfl) dL_law_1296 (Nat.le_of_add_right_le hk2) (Nat.le_of_add_right_le hn2) (fun r2 hr2 => ?_)
  refine z_top (y := κ) (hr2.trans hκ) ?_
  refine z_iload B 1 dL_law_1299 rfl ?_
  refine z_icmp_eq B 1306 dL_law_1301 (by decide) (fun _ => ?_) (fun q => absurd rfl q)
  refine z_iload B 1 dL_law_1306 rfl ?_
  have fin : zJ X 7 (zI1 D A (zs X)) Q (wM g h0 am M' ++ ((o, .inl (g.2.2.2, 1, .inr (.inl f'))) :: wC g a' C' (4 * cM C'))) (k + 1 + 0) (n + 6 + 0) [(6, .int r), (5, .int κ), (0, .ref b), (1, .ref (a 0)), (2, .ref h0), (3, .ref o), (4, .int (nI i))] 1323 [] := by
    refine z_goto B 2506 dL_law_1323 (by decide) ?_
    refine z_loc [2, 3, 4, 5, 6] (lv' := [(0, .ref b), (1, .ref (a 0)), (2, .ref h0), (3, .ref o), (4, .int (nI i))]) rfl ?_
    exact z_wid (by omega) (by omega) (kk M' C' f' a' hI' ha')
  refine z_if_ne B 1323 dL_law_1308 (by decide) (fun _ => fin) (fun hz => ?_)
  have hans := hans hz
  refine z_aload_n B 5 dL_law_1311 rfl rfl ?_
  refine z_iconst (v := nI 0) B dL_law_1312 (by decide) ?_
  refine z_lald (f := f') (i := 0) (a := o) B 24 3 rfl rfl (by decide) (by decide) dL_law_1313 ?_
  refine z_topv (y := .long r.toInt64) (by rw [hans]) ?_
  refine z_iload B 0 dL_law_1314 rfl ?_
  refine z_i2l B dL_law_1316 ?_
  refine z_lcmp B dL_law_1317 ?_
  refine z_top (y := nI 0) (lg_cmp_rfl _) ?_
  exact z_if_eq B 1323 dL_law_1318 (by decide) (fun _ => fin) (fun q => absurd rfl q)
set_option maxHeartbeats 4000000 in
set_option maxRecDepth 100000 in
theorem lo_isTrue {X : zX} {l : Launch} {D : va_G} {g : zG} {A : Nat → Prop} {Q : State → Prop} {b L o h0 a0 i k n : Nat} {xs : Nat → Int32} {am a : Nat → Nat} {M C : zMS} {f : Nat → Int64} (hLw : zLaw X l D g A b L xs) (h : INV M C) (ha : a 0 = a0) (hi : i + 5 ≤ L) (hk : k + 6 ≤ 601024) (hn : n + 419 ≤ 7293034) (kk : zKK X D g A Q b o h0 a0 i k n am) : zJ X 7 (zI1 D A (zs X)) Q (wLw g h0 am M o f a C) k n [(0, .ref b), (1, .ref a0), (2, .ref h0), (3, .ref o), (4, .int (nI i))] 1326 [] := by
  obtain ⟨B, hLF, hX, hbl, hbA, hL, hl, hst⟩ := hLw
  have hr0 : (wC g a C (4 * cM C))[0]? = some (a0, .inr (6, [.ref (a 1), .ref (a 2), .ref (a 3), .ref (a 4), .ref (a 5), .int (C 0 0)])) := by rw [← ha]; rfl
  subst ha
  refine z_aload_n B 1 dL_law_1326 rfl rfl ?_
  refine z_aload_n B 0 dL_law_1327 rfl rfl ?_
  refine z_iload B 4 dL_law_1328 rfl ?_
  refine z_iconst (v := nI 1) B dL_law_1330 (by decide) ?_
  refine z_iaddN B dL_law_1331 ?_
  refine z_sld B hX hbl hbA (j := i + 1) (by omega) hL dL_law_1332 ?_
  refine z_aload_n B 3 dL_law_1333 rfl rfl ?_
  have hM0 := (cc_X6_isTrue l D g a C (4 * cM C) hst h.2.1 (xs (i + 1))).L
  have hw0 := fun hE hB => wr_isTrue l D g o (a 0) f (wC g a C (4 * cM C)) _ hr0 (xs (i + 1)) _ _ hE hB hM0
  have hk2 : k + 1 + 0 ≤ room_1.cells := by show k + 1 + 0 ≤ 601024; omega
  have hn2 : n + 6 + 0 ≤ room_1.slots := by show n + 6 + 0 ≤ 7293034; omega
  unfold wLw
  refine z_callW (As := [.ref (a 0), .int (xs (i + 1)), .ref o]) (st := []) (hh := [(0, 16, 19, 13)]) B hLF hl (hw0 (fun E w2 hx => hx.2.1) (fun r w2 hp => b01_isTrue h hp)) gL_law_L_isTrue rfl ⟨rfl, rfl⟩ nm_L_isTrue ⟨by decide, by decide⟩ rfl (Nat.le_of_ble_eq_true rfl) dL_law_1334 rfl rfl hk2 hn2 (fun κ w1 hW => ?_)
  refine z_istore (lv1 := [(5, .int κ), (0, .ref b), (1, .ref (a 0)), (2, .ref h0), (3, .ref o), (4, .int (nI i))]) B dL_law_1337 (by decide) rfl ?_
  refine z_swap ?_
  refine z_aload_n B 3 dL_law_1339 rfl rfl ?_
  refine z_aload_n B 1 dL_law_1340 rfl rfl ?_
  refine z_iload B 5 dL_law_1341 rfl ?_
  refine z_iconst (v := nI 1) B dL_law_1343 (by decide) ?_
  refine z_iaddN B dL_law_1344 ?_
  refine z_sld B hX hbl hbA (j := i + 1) (by omega) hL dL_law_1345 ?_
  refine z_callMf (As := [.int (xs (i + 1))]) (st := []) (C := RX7) (T := TX7) (N := 30) (ci := 7) (l := l) B hl (c7_isTrue l D g h0 am M h.1 (xs (i + 1))) gL_law_X7_isTrue rfl ⟨rfl, rfl⟩ nm_X7_isTrue ⟨by decide, by decide⟩ 0 rfl rfl rfl (Nat.le_of_ble_eq_true rfl) dL_law_1346 rfl rfl hk2 hn2 (fun r w2 hr2 => ?_)
  obtain ⟨M', rfl, himp⟩ := hr2
  refine z_swap ?_
  obtain ⟨hκ, f', a', C', rfl, hans, hI', ha'⟩ := sim_isTrue h hW himp
  have h01 := r01_isTrue h himp
  refine z_istore (lv1 := [(6, .int r), (5, .int κ), (0, .ref b), (1, .ref (a 0)), (2, .ref h0), (3, .ref o), (4, .int (nI i))]) B dL_law_1349 (by decide) rfl ?_
  refine z_aload_n B 4 dL_law_1351 rfl rfl ?_
  refine z_callP (As := []) (st := []) (C := RX7) (T := TX7) (N := 30) (ci := 7) (l := l) B hl (c7_thrown l D g h0 am M') gL_law_X7_thrown rfl ⟨rfl, rfl⟩ nm_X7_thrown ⟨by decide, by decide⟩ (fun H hP => (z_sub hP (fun _ q hq => List.mem_append_left _ (List.mem_of_getElem? hq)))) 0 rfl rfl rfl (Nat.le_of_ble_eq_true rfl) dL_law_1352 (Nat.le_of_add_right_le hk2) (Nat.le_of_add_right_le hn2) (fun r2 hr2 => ?_)
  refine z_top (y := κ) (hr2.trans hκ) ?_
  refine z_iload B 1 dL_law_1355 rfl ?_
  refine z_icmp_eq B 1362 dL_law_1357 (by decide) (fun _ => ?_) (fun q => absurd rfl q)
  refine z_iload B 1 dL_law_1362 rfl ?_
  have fin : zJ X 7 (zI1 D A (zs X)) Q (wM g h0 am M' ++ ((o, .inl (g.2.2.2, 1, .inr (.inl f'))) :: wC g a' C' (4 * cM C'))) (k + 1 + 0) (n + 6 + 0) [(6, .int r), (5, .int κ), (0, .ref b), (1, .ref (a 0)), (2, .ref h0), (3, .ref o), (4, .int (nI i))] 1386 [] := by
    refine z_goto B 2506 dL_law_1386 (by decide) ?_
    refine z_loc [2, 3, 4, 5, 6] (lv' := [(0, .ref b), (1, .ref (a 0)), (2, .ref h0), (3, .ref o), (4, .int (nI i))]) rfl ?_
    exact z_wid (by omega) (by omega) (kk M' C' f' a' hI' ha')
  refine z_if_ne B 1386 dL_law_1364 (by decide) (fun _ => fin) (fun hz => ?_)
  have hans := hans hz
  have h01 := h01 (hκ.trans hz)
  refine z_aload_n B 5 dL_law_1367 rfl rfl ?_
  refine z_iconst (v := nI 0) B dL_law_1368 (by decide) ?_
  refine z_lald (f := f') (i := 0) (a := o) B 24 3 rfl rfl (by decide) (by decide) dL_law_1369 ?_
  refine z_topv (y := .long r.toInt64) (by rw [hans]) ?_
  refine z_iload B 0 dL_law_1370 rfl ?_
  rcases h01 with rfl | rfl
  · refine z_if_eq B 1379 dL_law_1372 (by decide) (fun _ => ?_) (fun q => absurd rfl q)
    refine z_lconst (v := (0 : Int32).toInt64) B dL_law_1379 (by decide) ?_
    refine z_lcmp B dL_law_1380 ?_
    refine z_top (y := nI 0) (lg_cmp_rfl _) ?_
    exact z_if_eq B 1386 dL_law_1381 (by decide) (fun _ => fin) (fun q => absurd rfl q)
  · refine z_if_eq B 1379 dL_law_1372 (by decide) (fun q => absurd q (by decide)) (fun _ => ?_)
    refine z_lconst (v := (1 : Int32).toInt64) B dL_law_1375 (by decide) ?_
    refine z_goto B 1380 dL_law_1376 (by decide) ?_
    refine z_lcmp B dL_law_1380 ?_
    refine z_top (y := nI 0) (lg_cmp_rfl _) ?_
    exact z_if_eq B 1386 dL_law_1381 (by decide) (fun _ => fin) (fun q => absurd rfl q)
set_option maxHeartbeats 4000000 in
set_option maxRecDepth 100000 in
theorem lo_text {X : zX} {l : Launch} {D : va_G} {g : zG} {A : Nat → Prop} {Q : State → Prop} {b L o h0 a0 i k n : Nat} {xs : Nat → Int32} {am a : Nat → Nat} {M C : zMS} {f : Nat → Int64} (hLw : zLaw X l D g A b L xs) (h : INV M C) (ha : a 0 = a0) (hi : i + 5 ≤ L) (hk : k + 6 ≤ 601024) (hn : n + 419 ≤ 7293034) (kk : zKK X D g A Q b o h0 a0 i k n am) : zJ X 7 (zI1 D A (zs X)) Q (wLw g h0 am M o f a C) k n [(0, .ref b), (1, .ref a0), (2, .ref h0), (3, .ref o), (4, .int (nI i))] 1389 [] := by
  obtain ⟨B, hLF, hX, hbl, hbA, hL, hl, hst⟩ := hLw
  have hr0 : (wC g a C (4 * cM C))[0]? = some (a0, .inr (6, [.ref (a 1), .ref (a 2), .ref (a 3), .ref (a 4), .ref (a 5), .int (C 0 0)])) := by rw [← ha]; rfl
  subst ha
  refine z_aload_n B 1 dL_law_1389 rfl rfl ?_
  refine z_aload_n B 0 dL_law_1390 rfl rfl ?_
  refine z_iload B 4 dL_law_1391 rfl ?_
  refine z_iconst (v := nI 1) B dL_law_1393 (by decide) ?_
  refine z_iaddN B dL_law_1394 ?_
  refine z_sld B hX hbl hbA (j := i + 1) (by omega) hL dL_law_1395 ?_
  refine z_aload_n B 3 dL_law_1396 rfl rfl ?_
  have hM0 := (cc_X6_text l D g a C (4 * cM C) hst h.2.1 (xs (i + 1))).L
  have hw0 := fun hE => wr_text l D g o (a 0) f (wC g a C (4 * cM C)) _ hr0 (xs (i + 1)) _ _ hE hM0
  have hk2 : k + 1 + 0 ≤ room_1.cells := by show k + 1 + 0 ≤ 601024; omega
  have hn2 : n + 6 + 0 ≤ room_1.slots := by show n + 6 + 0 ≤ 7293034; omega
  unfold wLw
  refine z_callW (As := [.ref (a 0), .int (xs (i + 1)), .ref o]) (st := []) (hh := [(0, 9, 12, 13)]) B hLF hl (hw0 (fun E w2 hx => hx.2.1)) gL_law_L_text rfl ⟨rfl, rfl⟩ nm_L_text ⟨by decide, by decide⟩ rfl (Nat.le_of_ble_eq_true rfl) dL_law_1397 rfl rfl hk2 hn2 (fun κ w1 hW => ?_)
  refine z_istore (lv1 := [(5, .int κ), (0, .ref b), (1, .ref (a 0)), (2, .ref h0), (3, .ref o), (4, .int (nI i))]) B dL_law_1400 (by decide) rfl ?_
  refine z_swap ?_
  refine z_aload_n B 3 dL_law_1402 rfl rfl ?_
  refine z_aload_n B 1 dL_law_1403 rfl rfl ?_
  refine z_iload B 5 dL_law_1404 rfl ?_
  refine z_iconst (v := nI 1) B dL_law_1406 (by decide) ?_
  refine z_iaddN B dL_law_1407 ?_
  refine z_sld B hX hbl hbA (j := i + 1) (by omega) hL dL_law_1408 ?_
  refine z_callMf (As := [.int (xs (i + 1))]) (st := []) (C := RX7) (T := TX7) (N := 30) (ci := 7) (l := l) B hl (c7_text l D g h0 am M h.1 (xs (i + 1))) gL_law_X7_text rfl ⟨rfl, rfl⟩ nm_X7_text ⟨by decide, by decide⟩ 0 rfl rfl rfl (Nat.le_of_ble_eq_true rfl) dL_law_1409 rfl rfl hk2 hn2 (fun r w2 hr2 => ?_)
  obtain ⟨M', rfl, himp⟩ := hr2
  refine z_swap ?_
  obtain ⟨hκ, f', a', C', rfl, hans, hI', ha'⟩ := sim_text h hW himp
  refine z_istore (lv1 := [(6, .int r), (5, .int κ), (0, .ref b), (1, .ref (a 0)), (2, .ref h0), (3, .ref o), (4, .int (nI i))]) B dL_law_1412 (by decide) rfl ?_
  refine z_aload_n B 4 dL_law_1414 rfl rfl ?_
  refine z_callP (As := []) (st := []) (C := RX7) (T := TX7) (N := 30) (ci := 7) (l := l) B hl (c7_thrown l D g h0 am M') gL_law_X7_thrown rfl ⟨rfl, rfl⟩ nm_X7_thrown ⟨by decide, by decide⟩ (fun H hP => (z_sub hP (fun _ q hq => List.mem_append_left _ (List.mem_of_getElem? hq)))) 0 rfl rfl rfl (Nat.le_of_ble_eq_true rfl) dL_law_1415 (Nat.le_of_add_right_le hk2) (Nat.le_of_add_right_le hn2) (fun r2 hr2 => ?_)
  refine z_top (y := κ) (hr2.trans hκ) ?_
  refine z_iload B 1 dL_law_1418 rfl ?_
  refine z_icmp_eq B 1425 dL_law_1420 (by decide) (fun _ => ?_) (fun q => absurd rfl q)
  refine z_iload B 1 dL_law_1425 rfl ?_
  have fin : zJ X 7 (zI1 D A (zs X)) Q (wM g h0 am M' ++ ((o, .inl (g.2.2.2, 1, .inr (.inl f'))) :: wC g a' C' (4 * cM C'))) (k + 1 + 0) (n + 6 + 0) [(6, .int r), (5, .int κ), (0, .ref b), (1, .ref (a 0)), (2, .ref h0), (3, .ref o), (4, .int (nI i))] 1442 [] := by
    refine z_goto B 2506 dL_law_1442 (by decide) ?_
    refine z_loc [2, 3, 4, 5, 6] (lv' := [(0, .ref b), (1, .ref (a 0)), (2, .ref h0), (3, .ref o), (4, .int (nI i))]) rfl ?_
    exact z_wid (by omega) (by omega) (kk M' C' f' a' hI' ha')
  refine z_if_ne B 1442 dL_law_1427 (by decide) (fun _ => fin) (fun hz => ?_)
  have hans := hans hz
  refine z_aload_n B 5 dL_law_1430 rfl rfl ?_
  refine z_iconst (v := nI 0) B dL_law_1431 (by decide) ?_
  refine z_lald (f := f') (i := 0) (a := o) B 24 3 rfl rfl (by decide) (by decide) dL_law_1432 ?_
  refine z_topv (y := .long r.toInt64) (by rw [hans]) ?_
  refine z_iload B 0 dL_law_1433 rfl ?_
  refine z_i2l B dL_law_1435 ?_
  refine z_lcmp B dL_law_1436 ?_
  refine z_top (y := nI 0) (lg_cmp_rfl _) ?_
  exact z_if_eq B 1442 dL_law_1437 (by decide) (fun _ => fin) (fun q => absurd rfl q)
set_option maxHeartbeats 4000000 in
set_option maxRecDepth 100000 in
theorem lo_mark {X : zX} {l : Launch} {D : va_G} {g : zG} {A : Nat → Prop} {Q : State → Prop} {b L o h0 a0 i k n : Nat} {xs : Nat → Int32} {am a : Nat → Nat} {M C : zMS} {f : Nat → Int64} (hLw : zLaw X l D g A b L xs) (h : INV M C) (ha : a 0 = a0) (hi : i + 5 ≤ L) (hk : k + 6 ≤ 601024) (hn : n + 419 ≤ 7293034) (kk : zKK X D g A Q b o h0 a0 i k n am) : zJ X 7 (zI1 D A (zs X)) Q (wLw g h0 am M o f a C) k n [(0, .ref b), (1, .ref a0), (2, .ref h0), (3, .ref o), (4, .int (nI i))] 1445 [] := by
  obtain ⟨B, hLF, hX, hbl, hbA, hL, hl, hst⟩ := hLw
  have hr0 : (wC g a C (4 * cM C))[0]? = some (a0, .inr (6, [.ref (a 1), .ref (a 2), .ref (a 3), .ref (a 4), .ref (a 5), .int (C 0 0)])) := by rw [← ha]; rfl
  subst ha
  refine z_aload_n B 1 dL_law_1445 rfl rfl ?_
  refine z_aload_n B 0 dL_law_1446 rfl rfl ?_
  refine z_iload B 4 dL_law_1447 rfl ?_
  refine z_iconst (v := nI 1) B dL_law_1449 (by decide) ?_
  refine z_iaddN B dL_law_1450 ?_
  refine z_sld B hX hbl hbA (j := i + 1) (by omega) hL dL_law_1451 ?_
  refine z_aload_n B 3 dL_law_1452 rfl rfl ?_
  have hM0 := (cc_X6_mark l D g a C (4 * cM C) hst h.2.1 (xs (i + 1))).L
  have hw0 := fun hE => wr_mark l D g o (a 0) f (wC g a C (4 * cM C)) _ hr0 (xs (i + 1)) _ _ hE hM0
  have hk2 : k + 1 + 0 ≤ room_1.cells := by show k + 1 + 0 ≤ 601024; omega
  have hn2 : n + 6 + 0 ≤ room_1.slots := by show n + 6 + 0 ≤ 7293034; omega
  unfold wLw
  refine z_callW (As := [.ref (a 0), .int (xs (i + 1)), .ref o]) (st := []) (hh := [(0, 9, 12, 13)]) B hLF hl (hw0 (fun E w2 hx => hx.2.1)) gL_law_L_mark rfl ⟨rfl, rfl⟩ nm_L_mark ⟨by decide, by decide⟩ rfl (Nat.le_of_ble_eq_true rfl) dL_law_1453 rfl rfl hk2 hn2 (fun κ w1 hW => ?_)
  refine z_istore (lv1 := [(5, .int κ), (0, .ref b), (1, .ref (a 0)), (2, .ref h0), (3, .ref o), (4, .int (nI i))]) B dL_law_1456 (by decide) rfl ?_
  refine z_swap ?_
  refine z_aload_n B 3 dL_law_1458 rfl rfl ?_
  refine z_aload_n B 1 dL_law_1459 rfl rfl ?_
  refine z_iload B 5 dL_law_1460 rfl ?_
  refine z_iconst (v := nI 1) B dL_law_1462 (by decide) ?_
  refine z_iaddN B dL_law_1463 ?_
  refine z_sld B hX hbl hbA (j := i + 1) (by omega) hL dL_law_1464 ?_
  refine z_callMf (As := [.int (xs (i + 1))]) (st := []) (C := RX7) (T := TX7) (N := 30) (ci := 7) (l := l) B hl (c7_mark l D g h0 am M h.1 (xs (i + 1))) gL_law_X7_mark rfl ⟨rfl, rfl⟩ nm_X7_mark ⟨by decide, by decide⟩ 0 rfl rfl rfl (Nat.le_of_ble_eq_true rfl) dL_law_1465 rfl rfl hk2 hn2 (fun r w2 hr2 => ?_)
  obtain ⟨M', rfl, himp⟩ := hr2
  refine z_swap ?_
  obtain ⟨hκ, f', a', C', rfl, hans, hI', ha'⟩ := sim_mark h hW himp
  refine z_istore (lv1 := [(6, .int r), (5, .int κ), (0, .ref b), (1, .ref (a 0)), (2, .ref h0), (3, .ref o), (4, .int (nI i))]) B dL_law_1468 (by decide) rfl ?_
  refine z_aload_n B 4 dL_law_1470 rfl rfl ?_
  refine z_callP (As := []) (st := []) (C := RX7) (T := TX7) (N := 30) (ci := 7) (l := l) B hl (c7_thrown l D g h0 am M') gL_law_X7_thrown rfl ⟨rfl, rfl⟩ nm_X7_thrown ⟨by decide, by decide⟩ (fun H hP => (z_sub hP (fun _ q hq => List.mem_append_left _ (List.mem_of_getElem? hq)))) 0 rfl rfl rfl (Nat.le_of_ble_eq_true rfl) dL_law_1471 (Nat.le_of_add_right_le hk2) (Nat.le_of_add_right_le hn2) (fun r2 hr2 => ?_)
  refine z_top (y := κ) (hr2.trans hκ) ?_
  refine z_iload B 1 dL_law_1474 rfl ?_
  refine z_icmp_eq B 1481 dL_law_1476 (by decide) (fun _ => ?_) (fun q => absurd rfl q)
  refine z_iload B 1 dL_law_1481 rfl ?_
  have fin : zJ X 7 (zI1 D A (zs X)) Q (wM g h0 am M' ++ ((o, .inl (g.2.2.2, 1, .inr (.inl f'))) :: wC g a' C' (4 * cM C'))) (k + 1 + 0) (n + 6 + 0) [(6, .int r), (5, .int κ), (0, .ref b), (1, .ref (a 0)), (2, .ref h0), (3, .ref o), (4, .int (nI i))] 1498 [] := by
    refine z_goto B 2506 dL_law_1498 (by decide) ?_
    refine z_loc [2, 3, 4, 5, 6] (lv' := [(0, .ref b), (1, .ref (a 0)), (2, .ref h0), (3, .ref o), (4, .int (nI i))]) rfl ?_
    exact z_wid (by omega) (by omega) (kk M' C' f' a' hI' ha')
  refine z_if_ne B 1498 dL_law_1483 (by decide) (fun _ => fin) (fun hz => ?_)
  have hans := hans hz
  refine z_aload_n B 5 dL_law_1486 rfl rfl ?_
  refine z_iconst (v := nI 0) B dL_law_1487 (by decide) ?_
  refine z_lald (f := f') (i := 0) (a := o) B 24 3 rfl rfl (by decide) (by decide) dL_law_1488 ?_
  refine z_topv (y := .long r.toInt64) (by rw [hans]) ?_
  refine z_iload B 0 dL_law_1489 rfl ?_
  refine z_i2l B dL_law_1491 ?_
  refine z_lcmp B dL_law_1492 ?_
  refine z_top (y := nI 0) (lg_cmp_rfl _) ?_
  exact z_if_eq B 1498 dL_law_1493 (by decide) (fun _ => fin) (fun q => absurd rfl q)
set_option maxHeartbeats 4000000 in
set_option maxRecDepth 100000 in
theorem lo_reversal {X : zX} {l : Launch} {D : va_G} {g : zG} {A : Nat → Prop} {Q : State → Prop} {b L o h0 a0 i k n : Nat} {xs : Nat → Int32} {am a : Nat → Nat} {M C : zMS} {f : Nat → Int64} (hLw : zLaw X l D g A b L xs) (h : INV M C) (ha : a 0 = a0) (hi : i + 5 ≤ L) (hk : k + 6 ≤ 601024) (hn : n + 419 ≤ 7293034) (kk : zKK X D g A Q b o h0 a0 i k n am) : zJ X 7 (zI1 D A (zs X)) Q (wLw g h0 am M o f a C) k n [(0, .ref b), (1, .ref a0), (2, .ref h0), (3, .ref o), (4, .int (nI i))] 1501 [] := by
  obtain ⟨B, hLF, hX, hbl, hbA, hL, hl, hst⟩ := hLw
  have hr0 : (wC g a C (4 * cM C))[0]? = some (a0, .inr (6, [.ref (a 1), .ref (a 2), .ref (a 3), .ref (a 4), .ref (a 5), .int (C 0 0)])) := by rw [← ha]; rfl
  subst ha
  refine z_aload_n B 1 dL_law_1501 rfl rfl ?_
  refine z_aload_n B 0 dL_law_1502 rfl rfl ?_
  refine z_iload B 4 dL_law_1503 rfl ?_
  refine z_iconst (v := nI 1) B dL_law_1505 (by decide) ?_
  refine z_iaddN B dL_law_1506 ?_
  refine z_sld B hX hbl hbA (j := i + 1) (by omega) hL dL_law_1507 ?_
  refine z_aload_n B 3 dL_law_1508 rfl rfl ?_
  have hM0 := (cc_X6_reversal l D g a C (4 * cM C) hst h.2.1 (xs (i + 1))).L
  have hw0 := fun hE => wr_reversal l D g o (a 0) f (wC g a C (4 * cM C)) _ hr0 (xs (i + 1)) _ _ hE hM0
  have hk2 : k + 1 + 0 ≤ room_1.cells := by show k + 1 + 0 ≤ 601024; omega
  have hn2 : n + 6 + 0 ≤ room_1.slots := by show n + 6 + 0 ≤ 7293034; omega
  unfold wLw
  refine z_callW (As := [.ref (a 0), .int (xs (i + 1)), .ref o]) (st := []) (hh := [(0, 9, 12, 13)]) B hLF hl (hw0 (fun E w2 hx => hx.2.1)) gL_law_L_reversal rfl ⟨rfl, rfl⟩ nm_L_reversal ⟨by decide, by decide⟩ rfl (Nat.le_of_ble_eq_true rfl) dL_law_1509 rfl rfl hk2 hn2 (fun κ w1 hW => ?_)
  refine z_istore (lv1 := [(5, .int κ), (0, .ref b), (1, .ref (a 0)), (2, .ref h0), (3, .ref o), (4, .int (nI i))]) B dL_law_1512 (by decide) rfl ?_
  refine z_swap ?_
  refine z_aload_n B 3 dL_law_1514 rfl rfl ?_
  refine z_aload_n B 1 dL_law_1515 rfl rfl ?_
  refine z_iload B 5 dL_law_1516 rfl ?_
  refine z_iconst (v := nI 1) B dL_law_1518 (by decide) ?_
  refine z_iaddN B dL_law_1519 ?_
  refine z_sld B hX hbl hbA (j := i + 1) (by omega) hL dL_law_1520 ?_
  refine z_callMf (As := [.int (xs (i + 1))]) (st := []) (C := RX7) (T := TX7) (N := 30) (ci := 7) (l := l) B hl (c7_reversal l D g h0 am M h.1 (xs (i + 1))) gL_law_X7_reversal rfl ⟨rfl, rfl⟩ nm_X7_reversal ⟨by decide, by decide⟩ 0 rfl rfl rfl (Nat.le_of_ble_eq_true rfl) dL_law_1521 rfl rfl hk2 hn2 (fun r w2 hr2 => ?_)
  obtain ⟨M', rfl, himp⟩ := hr2
  refine z_swap ?_
  obtain ⟨hκ, f', a', C', rfl, hans, hI', ha'⟩ := sim_reversal h hW himp
  refine z_istore (lv1 := [(6, .int r), (5, .int κ), (0, .ref b), (1, .ref (a 0)), (2, .ref h0), (3, .ref o), (4, .int (nI i))]) B dL_law_1524 (by decide) rfl ?_
  refine z_aload_n B 4 dL_law_1526 rfl rfl ?_
  refine z_callP (As := []) (st := []) (C := RX7) (T := TX7) (N := 30) (ci := 7) (l := l) B hl (c7_thrown l D g h0 am M') gL_law_X7_thrown rfl ⟨rfl, rfl⟩ nm_X7_thrown ⟨by decide, by decide⟩ (fun H hP => (z_sub hP (fun _ q hq => List.mem_append_left _ (List.mem_of_getElem? hq)))) 0 rfl rfl rfl (Nat.le_of_ble_eq_true rfl) dL_law_1527 (Nat.le_of_add_right_le hk2) (Nat.le_of_add_right_le hn2) (fun r2 hr2 => ?_)
  refine z_top (y := κ) (hr2.trans hκ) ?_
  refine z_iload B 1 dL_law_1530 rfl ?_
  refine z_icmp_eq B 1537 dL_law_1532 (by decide) (fun _ => ?_) (fun q => absurd rfl q)
  refine z_iload B 1 dL_law_1537 rfl ?_
  have fin : zJ X 7 (zI1 D A (zs X)) Q (wM g h0 am M' ++ ((o, .inl (g.2.2.2, 1, .inr (.inl f'))) :: wC g a' C' (4 * cM C'))) (k + 1 + 0) (n + 6 + 0) [(6, .int r), (5, .int κ), (0, .ref b), (1, .ref (a 0)), (2, .ref h0), (3, .ref o), (4, .int (nI i))] 1554 [] := by
    refine z_goto B 2506 dL_law_1554 (by decide) ?_
    refine z_loc [2, 3, 4, 5, 6] (lv' := [(0, .ref b), (1, .ref (a 0)), (2, .ref h0), (3, .ref o), (4, .int (nI i))]) rfl ?_
    exact z_wid (by omega) (by omega) (kk M' C' f' a' hI' ha')
  refine z_if_ne B 1554 dL_law_1539 (by decide) (fun _ => fin) (fun hz => ?_)
  have hans := hans hz
  refine z_aload_n B 5 dL_law_1542 rfl rfl ?_
  refine z_iconst (v := nI 0) B dL_law_1543 (by decide) ?_
  refine z_lald (f := f') (i := 0) (a := o) B 24 3 rfl rfl (by decide) (by decide) dL_law_1544 ?_
  refine z_topv (y := .long r.toInt64) (by rw [hans]) ?_
  refine z_iload B 0 dL_law_1545 rfl ?_
  refine z_i2l B dL_law_1547 ?_
  refine z_lcmp B dL_law_1548 ?_
  refine z_top (y := nI 0) (lg_cmp_rfl _) ?_
  exact z_if_eq B 1554 dL_law_1549 (by decide) (fun _ => fin) (fun q => absurd rfl q)
set_option maxHeartbeats 4000000 in
set_option maxRecDepth 100000 in
theorem lo_proves {X : zX} {l : Launch} {D : va_G} {g : zG} {A : Nat → Prop} {Q : State → Prop} {b L o h0 a0 i k n : Nat} {xs : Nat → Int32} {am a : Nat → Nat} {M C : zMS} {f : Nat → Int64} (hLw : zLaw X l D g A b L xs) (h : INV M C) (ha : a 0 = a0) (hi : i + 5 ≤ L) (hk : k + 6 ≤ 601024) (hn : n + 419 ≤ 7293034) (kk : zKK X D g A Q b o h0 a0 i k n am) : zJ X 7 (zI1 D A (zs X)) Q (wLw g h0 am M o f a C) k n [(0, .ref b), (1, .ref a0), (2, .ref h0), (3, .ref o), (4, .int (nI i))] 1557 [] := by
  obtain ⟨B, hLF, hX, hbl, hbA, hL, hl, hst⟩ := hLw
  have hr0 : (wC g a C (4 * cM C))[0]? = some (a0, .inr (6, [.ref (a 1), .ref (a 2), .ref (a 3), .ref (a 4), .ref (a 5), .int (C 0 0)])) := by rw [← ha]; rfl
  subst ha
  refine z_aload_n B 1 dL_law_1557 rfl rfl ?_
  refine z_aload_n B 0 dL_law_1558 rfl rfl ?_
  refine z_iload B 4 dL_law_1559 rfl ?_
  refine z_iconst (v := nI 1) B dL_law_1561 (by decide) ?_
  refine z_iaddN B dL_law_1562 ?_
  refine z_sld B hX hbl hbA (j := i + 1) (by omega) hL dL_law_1563 ?_
  refine z_aload_n B 0 dL_law_1564 rfl rfl ?_
  refine z_iload B 4 dL_law_1565 rfl ?_
  refine z_iconst (v := nI 2) B dL_law_1567 (by decide) ?_
  refine z_iaddN B dL_law_1568 ?_
  refine z_sld B hX hbl hbA (j := i + 2) (by omega) hL dL_law_1569 ?_
  refine z_aload_n B 3 dL_law_1570 rfl rfl ?_
  have hM0 := (cc_X6_proves l D g a C (4 * cM C) hst h.2.1 (xs (i + 1)) (xs (i + 2))).L
  have hw0 := fun hE hB => wr_proves l D g o (a 0) f (wC g a C (4 * cM C)) _ hr0 (xs (i + 1)) (xs (i + 2)) _ _ hE hB hM0
  have hk2 : k + 2 + 0 ≤ room_1.cells := by show k + 2 + 0 ≤ 601024; omega
  have hn2 : n + 12 + 0 ≤ room_1.slots := by show n + 12 + 0 ≤ 7293034; omega
  unfold wLw
  refine z_callW (As := [.ref (a 0), .int (xs (i + 1)), .int (xs (i + 2)), .ref o]) (st := []) (hh := [(0, 17, 20, 13), (0, 17, 24, 15)]) B hLF hl (hw0 (fun E w2 hx => (fun hx => hx.elim (fun q => Or.inl q.1) (fun q => Or.inr (q.1))) hx.2) (fun r w2 hp => b01_proves h hp)) gL_law_L_proves rfl ⟨rfl, rfl⟩ nm_L_proves ⟨by decide, by decide⟩ rfl (Nat.le_of_ble_eq_true rfl) dL_law_1571 rfl rfl hk2 hn2 (fun κ w1 hW => ?_)
  refine z_istore (lv1 := [(5, .int κ), (0, .ref b), (1, .ref (a 0)), (2, .ref h0), (3, .ref o), (4, .int (nI i))]) B dL_law_1574 (by decide) rfl ?_
  refine z_swap ?_
  refine z_aload_n B 3 dL_law_1576 rfl rfl ?_
  refine z_aload_n B 1 dL_law_1577 rfl rfl ?_
  refine z_iload B 5 dL_law_1578 rfl ?_
  refine z_iconst (v := nI 1) B dL_law_1580 (by decide) ?_
  refine z_iaddN B dL_law_1581 ?_
  refine z_sld B hX hbl hbA (j := i + 1) (by omega) hL dL_law_1582 ?_
  refine z_aload_n B 1 dL_law_1583 rfl rfl ?_
  refine z_iload B 5 dL_law_1584 rfl ?_
  refine z_iconst (v := nI 2) B dL_law_1586 (by decide) ?_
  refine z_iaddN B dL_law_1587 ?_
  refine z_sld B hX hbl hbA (j := i + 2) (by omega) hL dL_law_1588 ?_
  refine z_callMf (As := [.int (xs (i + 1)), .int (xs (i + 2))]) (st := []) (C := RX7) (T := TX7) (N := 30) (ci := 7) (l := l) B hl (c7_proves l D g h0 am M h.1 (xs (i + 1)) (xs (i + 2))) gL_law_X7_proves rfl ⟨rfl, rfl⟩ nm_X7_proves ⟨by decide, by decide⟩ 0 rfl rfl rfl (Nat.le_of_ble_eq_true rfl) dL_law_1589 rfl rfl hk2 hn2 (fun r w2 hr2 => ?_)
  obtain ⟨M', rfl, himp⟩ := hr2
  refine z_swap ?_
  obtain ⟨hκ, f', a', C', rfl, hans, hI', ha'⟩ := sim_proves h hW himp
  have h01 := r01_proves h himp
  refine z_istore (lv1 := [(6, .int r), (5, .int κ), (0, .ref b), (1, .ref (a 0)), (2, .ref h0), (3, .ref o), (4, .int (nI i))]) B dL_law_1592 (by decide) rfl ?_
  refine z_aload_n B 4 dL_law_1594 rfl rfl ?_
  refine z_callP (As := []) (st := []) (C := RX7) (T := TX7) (N := 30) (ci := 7) (l := l) B hl (c7_thrown l D g h0 am M') gL_law_X7_thrown rfl ⟨rfl, rfl⟩ nm_X7_thrown ⟨by decide, by decide⟩ (fun H hP => (z_sub hP (fun _ q hq => List.mem_append_left _ (List.mem_of_getElem? hq)))) 0 rfl rfl rfl (Nat.le_of_ble_eq_true rfl) dL_law_1595 (Nat.le_of_add_right_le hk2) (Nat.le_of_add_right_le hn2) (fun r2 hr2 => ?_)
  refine z_top (y := κ) (hr2.trans hκ) ?_
  refine z_iload B 1 dL_law_1598 rfl ?_
  refine z_icmp_eq B 1605 dL_law_1600 (by decide) (fun _ => ?_) (fun q => absurd rfl q)
  refine z_iload B 1 dL_law_1605 rfl ?_
  have fin : zJ X 7 (zI1 D A (zs X)) Q (wM g h0 am M' ++ ((o, .inl (g.2.2.2, 1, .inr (.inl f'))) :: wC g a' C' (4 * cM C'))) (k + 2 + 0) (n + 12 + 0) [(6, .int r), (5, .int κ), (0, .ref b), (1, .ref (a 0)), (2, .ref h0), (3, .ref o), (4, .int (nI i))] 1629 [] := by
    refine z_goto B 2506 dL_law_1629 (by decide) ?_
    refine z_loc [2, 3, 4, 5, 6] (lv' := [(0, .ref b), (1, .ref (a 0)), (2, .ref h0), (3, .ref o), (4, .int (nI i))]) rfl ?_
    exact z_wid (by omega) (by omega) (kk M' C' f' a' hI' ha')
  refine z_if_ne B 1629 dL_law_1607 (by decide) (fun _ => fin) (fun hz => ?_)
  have hans := hans hz
  have h01 := h01 (hκ.trans hz)
  refine z_aload_n B 5 dL_law_1610 rfl rfl ?_
  refine z_iconst (v := nI 0) B dL_law_1611 (by decide) ?_
  refine z_lald (f := f') (i := 0) (a := o) B 24 3 rfl rfl (by decide) (by decide) dL_law_1612 ?_
  refine z_topv (y := .long r.toInt64) (by rw [hans]) ?_
  refine z_iload B 0 dL_law_1613 rfl ?_
  rcases h01 with rfl | rfl
  · refine z_if_eq B 1622 dL_law_1615 (by decide) (fun _ => ?_) (fun q => absurd rfl q)
    refine z_lconst (v := (0 : Int32).toInt64) B dL_law_1622 (by decide) ?_
    refine z_lcmp B dL_law_1623 ?_
    refine z_top (y := nI 0) (lg_cmp_rfl _) ?_
    exact z_if_eq B 1629 dL_law_1624 (by decide) (fun _ => fin) (fun q => absurd rfl q)
  · refine z_if_eq B 1622 dL_law_1615 (by decide) (fun q => absurd q (by decide)) (fun _ => ?_)
    refine z_lconst (v := (1 : Int32).toInt64) B dL_law_1618 (by decide) ?_
    refine z_goto B 1623 dL_law_1619 (by decide) ?_
    refine z_lcmp B dL_law_1623 ?_
    refine z_top (y := nI 0) (lg_cmp_rfl _) ?_
    exact z_if_eq B 1629 dL_law_1624 (by decide) (fun _ => fin) (fun q => absurd rfl q)
set_option maxHeartbeats 4000000 in
set_option maxRecDepth 100000 in
theorem lo_proven {X : zX} {l : Launch} {D : va_G} {g : zG} {A : Nat → Prop} {Q : State → Prop} {b L o h0 a0 i k n : Nat} {xs : Nat → Int32} {am a : Nat → Nat} {M C : zMS} {f : Nat → Int64} (hLw : zLaw X l D g A b L xs) (h : INV M C) (ha : a 0 = a0) (hi : i + 5 ≤ L) (hk : k + 6 ≤ 601024) (hn : n + 419 ≤ 7293034) (kk : zKK X D g A Q b o h0 a0 i k n am) : zJ X 7 (zI1 D A (zs X)) Q (wLw g h0 am M o f a C) k n [(0, .ref b), (1, .ref a0), (2, .ref h0), (3, .ref o), (4, .int (nI i))] 1632 [] := by
  obtain ⟨B, hLF, hX, hbl, hbA, hL, hl, hst⟩ := hLw
  have hr0 : (wC g a C (4 * cM C))[0]? = some (a0, .inr (6, [.ref (a 1), .ref (a 2), .ref (a 3), .ref (a 4), .ref (a 5), .int (C 0 0)])) := by rw [← ha]; rfl
  subst ha
  refine z_aload_n B 1 dL_law_1632 rfl rfl ?_
  refine z_aload_n B 0 dL_law_1633 rfl rfl ?_
  refine z_iload B 4 dL_law_1634 rfl ?_
  refine z_iconst (v := nI 1) B dL_law_1636 (by decide) ?_
  refine z_iaddN B dL_law_1637 ?_
  refine z_sld B hX hbl hbA (j := i + 1) (by omega) hL dL_law_1638 ?_
  refine z_aload_n B 0 dL_law_1639 rfl rfl ?_
  refine z_iload B 4 dL_law_1640 rfl ?_
  refine z_iconst (v := nI 2) B dL_law_1642 (by decide) ?_
  refine z_iaddN B dL_law_1643 ?_
  refine z_sld B hX hbl hbA (j := i + 2) (by omega) hL dL_law_1644 ?_
  refine z_aload_n B 3 dL_law_1645 rfl rfl ?_
  have hM0 := (cc_X6_proven l D g a C (4 * cM C) hst h.2.1 (xs (i + 1)) (xs (i + 2))).L
  have hw0 := fun hE => wr_proven l D g o (a 0) f (wC g a C (4 * cM C)) _ hr0 (xs (i + 1)) (xs (i + 2)) _ _ hE hM0
  have hk2 : k + 2 + 0 ≤ room_1.cells := by show k + 2 + 0 ≤ 601024; omega
  have hn2 : n + 12 + 0 ≤ room_1.slots := by show n + 12 + 0 ≤ 7293034; omega
  unfold wLw
  refine z_callW (As := [.ref (a 0), .int (xs (i + 1)), .int (xs (i + 2)), .ref o]) (st := []) (hh := [(0, 10, 13, 13)]) B hLF hl (hw0 (fun E w2 hx => hx.2.elim (fun q => q.1) (fun q => q.1))) gL_law_L_proven rfl ⟨rfl, rfl⟩ nm_L_proven ⟨by decide, by decide⟩ rfl (Nat.le_of_ble_eq_true rfl) dL_law_1646 rfl rfl hk2 hn2 (fun κ w1 hW => ?_)
  refine z_istore (lv1 := [(5, .int κ), (0, .ref b), (1, .ref (a 0)), (2, .ref h0), (3, .ref o), (4, .int (nI i))]) B dL_law_1649 (by decide) rfl ?_
  refine z_swap ?_
  refine z_aload_n B 3 dL_law_1651 rfl rfl ?_
  refine z_aload_n B 1 dL_law_1652 rfl rfl ?_
  refine z_iload B 5 dL_law_1653 rfl ?_
  refine z_iconst (v := nI 1) B dL_law_1655 (by decide) ?_
  refine z_iaddN B dL_law_1656 ?_
  refine z_sld B hX hbl hbA (j := i + 1) (by omega) hL dL_law_1657 ?_
  refine z_aload_n B 1 dL_law_1658 rfl rfl ?_
  refine z_iload B 5 dL_law_1659 rfl ?_
  refine z_iconst (v := nI 2) B dL_law_1661 (by decide) ?_
  refine z_iaddN B dL_law_1662 ?_
  refine z_sld B hX hbl hbA (j := i + 2) (by omega) hL dL_law_1663 ?_
  refine z_callMf (As := [.int (xs (i + 1)), .int (xs (i + 2))]) (st := []) (C := RX7) (T := TX7) (N := 30) (ci := 7) (l := l) B hl (c7_proven l D g h0 am M h.1 (xs (i + 1)) (xs (i + 2))) gL_law_X7_proven rfl ⟨rfl, rfl⟩ nm_X7_proven ⟨by decide, by decide⟩ 0 rfl rfl rfl (Nat.le_of_ble_eq_true rfl) dL_law_1664 rfl rfl hk2 hn2 (fun r w2 hr2 => ?_)
  obtain ⟨M', rfl, himp⟩ := hr2
  refine z_swap ?_
  obtain ⟨hκ, f', a', C', rfl, hans, hI', ha'⟩ := sim_proven h hW himp
  refine z_istore (lv1 := [(6, .int r), (5, .int κ), (0, .ref b), (1, .ref (a 0)), (2, .ref h0), (3, .ref o), (4, .int (nI i))]) B dL_law_1667 (by decide) rfl ?_
  refine z_aload_n B 4 dL_law_1669 rfl rfl ?_
  refine z_callP (As := []) (st := []) (C := RX7) (T := TX7) (N := 30) (ci := 7) (l := l) B hl (c7_thrown l D g h0 am M') gL_law_X7_thrown rfl ⟨rfl, rfl⟩ nm_X7_thrown ⟨by decide, by decide⟩ (fun H hP => (z_sub hP (fun _ q hq => List.mem_append_left _ (List.mem_of_getElem? hq)))) 0 rfl rfl rfl (Nat.le_of_ble_eq_true rfl) dL_law_1670 (Nat.le_of_add_right_le hk2) (Nat.le_of_add_right_le hn2) (fun r2 hr2 => ?_)
  refine z_top (y := κ) (hr2.trans hκ) ?_
  refine z_iload B 1 dL_law_1673 rfl ?_
  refine z_icmp_eq B 1680 dL_law_1675 (by decide) (fun _ => ?_) (fun q => absurd rfl q)
  refine z_iload B 1 dL_law_1680 rfl ?_
  have fin : zJ X 7 (zI1 D A (zs X)) Q (wM g h0 am M' ++ ((o, .inl (g.2.2.2, 1, .inr (.inl f'))) :: wC g a' C' (4 * cM C'))) (k + 2 + 0) (n + 12 + 0) [(6, .int r), (5, .int κ), (0, .ref b), (1, .ref (a 0)), (2, .ref h0), (3, .ref o), (4, .int (nI i))] 1697 [] := by
    refine z_goto B 2506 dL_law_1697 (by decide) ?_
    refine z_loc [2, 3, 4, 5, 6] (lv' := [(0, .ref b), (1, .ref (a 0)), (2, .ref h0), (3, .ref o), (4, .int (nI i))]) rfl ?_
    exact z_wid (by omega) (by omega) (kk M' C' f' a' hI' ha')
  refine z_if_ne B 1697 dL_law_1682 (by decide) (fun _ => fin) (fun hz => ?_)
  have hans := hans hz
  refine z_aload_n B 5 dL_law_1685 rfl rfl ?_
  refine z_iconst (v := nI 0) B dL_law_1686 (by decide) ?_
  refine z_lald (f := f') (i := 0) (a := o) B 24 3 rfl rfl (by decide) (by decide) dL_law_1687 ?_
  refine z_topv (y := .long r.toInt64) (by rw [hans]) ?_
  refine z_iload B 0 dL_law_1688 rfl ?_
  refine z_i2l B dL_law_1690 ?_
  refine z_lcmp B dL_law_1691 ?_
  refine z_top (y := nI 0) (lg_cmp_rfl _) ?_
  exact z_if_eq B 1697 dL_law_1692 (by decide) (fun _ => fin) (fun q => absurd rfl q)
set_option maxHeartbeats 4000000 in
set_option maxRecDepth 100000 in
theorem lo_balance {X : zX} {l : Launch} {D : va_G} {g : zG} {A : Nat → Prop} {Q : State → Prop} {b L o h0 a0 i k n : Nat} {xs : Nat → Int32} {am a : Nat → Nat} {M C : zMS} {f : Nat → Int64} (hLw : zLaw X l D g A b L xs) (h : INV M C) (ha : a 0 = a0) (hi : i + 5 ≤ L) (hk : k + 6 ≤ 601024) (hn : n + 419 ≤ 7293034) (kk : zKK X D g A Q b o h0 a0 i k n am) : zJ X 7 (zI1 D A (zs X)) Q (wLw g h0 am M o f a C) k n [(0, .ref b), (1, .ref a0), (2, .ref h0), (3, .ref o), (4, .int (nI i))] 1700 [] := by
  obtain ⟨B, hLF, hX, hbl, hbA, hL, hl, hst⟩ := hLw
  have hr0 : (wC g a C (4 * cM C))[0]? = some (a0, .inr (6, [.ref (a 1), .ref (a 2), .ref (a 3), .ref (a 4), .ref (a 5), .int (C 0 0)])) := by rw [← ha]; rfl
  subst ha
  refine z_aload_n B 1 dL_law_1700 rfl rfl ?_
  refine z_aload_n B 0 dL_law_1701 rfl rfl ?_
  refine z_iload B 4 dL_law_1702 rfl ?_
  refine z_iconst (v := nI 1) B dL_law_1704 (by decide) ?_
  refine z_iaddN B dL_law_1705 ?_
  refine z_sld B hX hbl hbA (j := i + 1) (by omega) hL dL_law_1706 ?_
  refine z_aload_n B 0 dL_law_1707 rfl rfl ?_
  refine z_iload B 4 dL_law_1708 rfl ?_
  refine z_iconst (v := nI 2) B dL_law_1710 (by decide) ?_
  refine z_iaddN B dL_law_1711 ?_
  refine z_sld B hX hbl hbA (j := i + 2) (by omega) hL dL_law_1712 ?_
  refine z_aload_n B 3 dL_law_1713 rfl rfl ?_
  have hM0 := (cc_X6_balance l D g a C (4 * cM C) hst h.2.1 (xs (i + 1)) (xs (i + 2))).L
  have hw0 := fun hE => wr_balance l D g o (a 0) f (wC g a C (4 * cM C)) _ hr0 (xs (i + 1)) (xs (i + 2)) _ _ hE hM0
  have hk2 : k + 2 + 0 ≤ room_1.cells := by show k + 2 + 0 ≤ 601024; omega
  have hn2 : n + 12 + 0 ≤ room_1.slots := by show n + 12 + 0 ≤ 7293034; omega
  unfold wLw
  refine z_callW (As := [.ref (a 0), .int (xs (i + 1)), .int (xs (i + 2)), .ref o]) (st := []) (hh := [(0, 10, 13, 13), (0, 10, 17, 15)]) B hLF hl (hw0 (fun E w2 hx => (fun hx => hx.elim (fun q => Or.inl q.1) (fun q => Or.inr (q.1))) hx.2)) gL_law_L_balance rfl ⟨rfl, rfl⟩ nm_L_balance ⟨by decide, by decide⟩ rfl (Nat.le_of_ble_eq_true rfl) dL_law_1714 rfl rfl hk2 hn2 (fun κ w1 hW => ?_)
  refine z_istore (lv1 := [(5, .int κ), (0, .ref b), (1, .ref (a 0)), (2, .ref h0), (3, .ref o), (4, .int (nI i))]) B dL_law_1717 (by decide) rfl ?_
  refine z_swap ?_
  refine z_aload_n B 3 dL_law_1719 rfl rfl ?_
  refine z_aload_n B 1 dL_law_1720 rfl rfl ?_
  refine z_iload B 5 dL_law_1721 rfl ?_
  refine z_iconst (v := nI 1) B dL_law_1723 (by decide) ?_
  refine z_iaddN B dL_law_1724 ?_
  refine z_sld B hX hbl hbA (j := i + 1) (by omega) hL dL_law_1725 ?_
  refine z_aload_n B 1 dL_law_1726 rfl rfl ?_
  refine z_iload B 5 dL_law_1727 rfl ?_
  refine z_iconst (v := nI 2) B dL_law_1729 (by decide) ?_
  refine z_iaddN B dL_law_1730 ?_
  refine z_sld B hX hbl hbA (j := i + 2) (by omega) hL dL_law_1731 ?_
  refine z_callMf (As := [.int (xs (i + 1)), .int (xs (i + 2))]) (st := []) (C := RX7) (T := TX7) (N := 30) (ci := 7) (l := l) B hl (c7_balance l D g h0 am M h.1 (xs (i + 1)) (xs (i + 2))) gL_law_X7_balance rfl ⟨rfl, rfl⟩ nm_X7_balance ⟨by decide, by decide⟩ 0 rfl rfl rfl (Nat.le_of_ble_eq_true rfl) dL_law_1732 rfl rfl hk2 hn2 (fun r w2 hr2 => ?_)
  obtain ⟨M', rfl, himp⟩ := hr2
  refine z_swap ?_
  obtain ⟨hκ, f', a', C', rfl, hans, hI', ha'⟩ := sim_balance h hW himp
  refine z_istore (lv1 := [(6, .int r), (5, .int κ), (0, .ref b), (1, .ref (a 0)), (2, .ref h0), (3, .ref o), (4, .int (nI i))]) B dL_law_1735 (by decide) rfl ?_
  refine z_aload_n B 4 dL_law_1737 rfl rfl ?_
  refine z_callP (As := []) (st := []) (C := RX7) (T := TX7) (N := 30) (ci := 7) (l := l) B hl (c7_thrown l D g h0 am M') gL_law_X7_thrown rfl ⟨rfl, rfl⟩ nm_X7_thrown ⟨by decide, by decide⟩ (fun H hP => (z_sub hP (fun _ q hq => List.mem_append_left _ (List.mem_of_getElem? hq)))) 0 rfl rfl rfl (Nat.le_of_ble_eq_true rfl) dL_law_1738 (Nat.le_of_add_right_le hk2) (Nat.le_of_add_right_le hn2) (fun r2 hr2 => ?_)
  refine z_top (y := κ) (hr2.trans hκ) ?_
  refine z_iload B 1 dL_law_1741 rfl ?_
  refine z_icmp_eq B 1748 dL_law_1743 (by decide) (fun _ => ?_) (fun q => absurd rfl q)
  refine z_iload B 1 dL_law_1748 rfl ?_
  have fin : zJ X 7 (zI1 D A (zs X)) Q (wM g h0 am M' ++ ((o, .inl (g.2.2.2, 1, .inr (.inl f'))) :: wC g a' C' (4 * cM C'))) (k + 2 + 0) (n + 12 + 0) [(6, .int r), (5, .int κ), (0, .ref b), (1, .ref (a 0)), (2, .ref h0), (3, .ref o), (4, .int (nI i))] 1765 [] := by
    refine z_goto B 2506 dL_law_1765 (by decide) ?_
    refine z_loc [2, 3, 4, 5, 6] (lv' := [(0, .ref b), (1, .ref (a 0)), (2, .ref h0), (3, .ref o), (4, .int (nI i))]) rfl ?_
    exact z_wid (by omega) (by omega) (kk M' C' f' a' hI' ha')
  refine z_if_ne B 1765 dL_law_1750 (by decide) (fun _ => fin) (fun hz => ?_)
  have hans := hans hz
  refine z_aload_n B 5 dL_law_1753 rfl rfl ?_
  refine z_iconst (v := nI 0) B dL_law_1754 (by decide) ?_
  refine z_lald (f := f') (i := 0) (a := o) B 24 3 rfl rfl (by decide) (by decide) dL_law_1755 ?_
  refine z_topv (y := .long r.toInt64) (by rw [hans]) ?_
  refine z_iload B 0 dL_law_1756 rfl ?_
  refine z_i2l B dL_law_1758 ?_
  refine z_lcmp B dL_law_1759 ?_
  refine z_top (y := nI 0) (lg_cmp_rfl _) ?_
  exact z_if_eq B 1765 dL_law_1760 (by decide) (fun _ => fin) (fun q => absurd rfl q)
