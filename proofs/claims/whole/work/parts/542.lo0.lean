/-! the law's cases -/
set_option maxHeartbeats 4000000 in
set_option maxRecDepth 100000 in
theorem lo_leg {X : zX} {l : Launch} {D : va_G} {g : zG} {A : Nat → Prop} {Q : State → Prop} {b L o h0 a0 i k n : Nat} {xs : Nat → Int32} {am a : Nat → Nat} {M C : zMS} {f : Nat → Int64} (hLw : zLaw X l D g A b L xs) (h : INV M C) (ha : a 0 = a0) (hi : i + 5 ≤ L) (hk : k + 6 ≤ 601024) (hn : n + 419 ≤ 7293034) (kk : zKK X D g A Q b o h0 a0 i k n am) : zJ X 7 (zI1 D A (zs X)) Q (wLw g h0 am M o f a C) k n [(0, .ref b), (1, .ref a0), (2, .ref h0), (3, .ref o), (4, .int (nI i))] 216 [] := by
  obtain ⟨B, hLF, hX, hbl, hbA, hL, hl, hst⟩ := hLw
  have hr0 : (wC g a C (4 * cM C))[0]? = some (a0, .inr (6, [.ref (a 1), .ref (a 2), .ref (a 3), .ref (a 4), .ref (a 5), .int (C 0 0)])) := by rw [← ha]; rfl
  subst ha
  refine z_aload_n B 1 dL_law_216 rfl rfl ?_
  refine z_aload_n B 0 dL_law_217 rfl rfl ?_
  refine z_iload B 4 dL_law_218 rfl ?_
  refine z_iconst (v := nI 1) B dL_law_220 (by decide) ?_
  refine z_iaddN B dL_law_221 ?_
  refine z_sld B hX hbl hbA (j := i + 1) (by omega) hL dL_law_222 ?_
  refine z_aload_n B 0 dL_law_223 rfl rfl ?_
  refine z_iload B 4 dL_law_224 rfl ?_
  refine z_iconst (v := nI 2) B dL_law_226 (by decide) ?_
  refine z_iaddN B dL_law_227 ?_
  refine z_sld B hX hbl hbA (j := i + 2) (by omega) hL dL_law_228 ?_
  refine z_aload_n B 3 dL_law_229 rfl rfl ?_
  have hM0 := (cc_X6_leg l D g a C (4 * cM C) hst h.2.1 (xs (i + 1)) (xs (i + 2))).L
  have hw0 := fun hE => wr_leg l D g o (a 0) f (wC g a C (4 * cM C)) _ hr0 (xs (i + 1)) (xs (i + 2)) _ _ hE hM0
  have hk2 : k + 3 + 0 ≤ room_1.cells := by show k + 3 + 0 ≤ 601024; omega
  have hn2 : n + 18 + 0 ≤ room_1.slots := by show n + 18 + 0 ≤ 7293034; omega
  unfold wLw
  refine z_callW (As := [.ref (a 0), .int (xs (i + 1)), .int (xs (i + 2)), .ref o]) (st := []) (hh := [(0, 10, 13, 13), (0, 10, 17, 15), (0, 10, 21, 17)]) B hLF hl (hw0 (fun E w2 hx => (fun hx => hx.elim (fun q => Or.inl q.1) (fun hx => hx.elim (fun q => Or.inr (Or.inl q.1)) (fun hx => hx.elim (fun q => Or.inr (Or.inl q.1)) (fun q => Or.inr (Or.inr (q.1)))))) hx.2)) gL_law_L_leg rfl ⟨rfl, rfl⟩ nm_L_leg ⟨by decide, by decide⟩ rfl (Nat.le_of_ble_eq_true rfl) dL_law_230 rfl rfl hk2 hn2 (fun κ w1 hW => ?_)
  refine z_istore (lv1 := [(5, .int κ), (0, .ref b), (1, .ref (a 0)), (2, .ref h0), (3, .ref o), (4, .int (nI i))]) B dL_law_233 (by decide) rfl ?_
  refine z_swap ?_
  refine z_aload_n B 3 dL_law_235 rfl rfl ?_
  refine z_aload_n B 1 dL_law_236 rfl rfl ?_
  refine z_iload B 5 dL_law_237 rfl ?_
  refine z_iconst (v := nI 1) B dL_law_239 (by decide) ?_
  refine z_iaddN B dL_law_240 ?_
  refine z_sld B hX hbl hbA (j := i + 1) (by omega) hL dL_law_241 ?_
  refine z_aload_n B 1 dL_law_242 rfl rfl ?_
  refine z_iload B 5 dL_law_243 rfl ?_
  refine z_iconst (v := nI 2) B dL_law_245 (by decide) ?_
  refine z_iaddN B dL_law_246 ?_
  refine z_sld B hX hbl hbA (j := i + 2) (by omega) hL dL_law_247 ?_
  refine z_callMf (As := [.int (xs (i + 1)), .int (xs (i + 2))]) (st := []) (C := RX7) (T := TX7) (N := 30) (ci := 7) (l := l) B hl (c7_leg l D g h0 am M h.1 (xs (i + 1)) (xs (i + 2))) gL_law_X7_leg rfl ⟨rfl, rfl⟩ nm_X7_leg ⟨by decide, by decide⟩ 0 rfl rfl rfl (Nat.le_of_ble_eq_true rfl) dL_law_248 rfl rfl hk2 hn2 (fun r w2 hr2 => ?_)
  obtain ⟨M', rfl, himp⟩ := hr2
  refine z_swap ?_
  obtain ⟨hκ, f', a', C', rfl, hans, hI', ha'⟩ := sim_leg h hW himp
  refine z_istore (lv1 := [(6, .int r), (5, .int κ), (0, .ref b), (1, .ref (a 0)), (2, .ref h0), (3, .ref o), (4, .int (nI i))]) B dL_law_251 (by decide) rfl ?_
  refine z_aload_n B 4 dL_law_253 rfl rfl ?_
  refine z_callP (As := []) (st := []) (C := RX7) (T := TX7) (N := 30) (ci := 7) (l := l) B hl (c7_thrown l D g h0 am M') gL_law_X7_thrown rfl ⟨rfl, rfl⟩ nm_X7_thrown ⟨by decide, by decide⟩ (fun H hP => (z_sub hP (fun _ q hq => List.mem_append_left _ (List.mem_of_getElem? hq)))) 0 rfl rfl rfl (Nat.le_of_ble_eq_true rfl) dL_law_254 (Nat.le_of_add_right_le hk2) (Nat.le_of_add_right_le hn2) (fun r2 hr2 => ?_)
  refine z_top (y := κ) (hr2.trans hκ) ?_
  refine z_iload B 1 dL_law_257 rfl ?_
  refine z_icmp_eq B 264 dL_law_259 (by decide) (fun _ => ?_) (fun q => absurd rfl q)
  refine z_iload B 1 dL_law_264 rfl ?_
  have fin : zJ X 7 (zI1 D A (zs X)) Q (wM g h0 am M' ++ ((o, .inl (g.2.2.2, 1, .inr (.inl f'))) :: wC g a' C' (4 * cM C'))) (k + 3 + 0) (n + 18 + 0) [(6, .int r), (5, .int κ), (0, .ref b), (1, .ref (a 0)), (2, .ref h0), (3, .ref o), (4, .int (nI i))] 281 [] := by
    refine z_goto B 2506 dL_law_281 (by decide) ?_
    refine z_loc [2, 3, 4, 5, 6] (lv' := [(0, .ref b), (1, .ref (a 0)), (2, .ref h0), (3, .ref o), (4, .int (nI i))]) rfl ?_
    exact z_wid (by omega) (by omega) (kk M' C' f' a' hI' ha')
  refine z_if_ne B 281 dL_law_266 (by decide) (fun _ => fin) (fun hz => ?_)
  have hans := hans hz
  refine z_aload_n B 5 dL_law_269 rfl rfl ?_
  refine z_iconst (v := nI 0) B dL_law_270 (by decide) ?_
  refine z_lald (f := f') (i := 0) (a := o) B 24 3 rfl rfl (by decide) (by decide) dL_law_271 ?_
  refine z_topv (y := .long r.toInt64) (by rw [hans]) ?_
  refine z_iload B 0 dL_law_272 rfl ?_
  refine z_i2l B dL_law_274 ?_
  refine z_lcmp B dL_law_275 ?_
  refine z_top (y := nI 0) (lg_cmp_rfl _) ?_
  exact z_if_eq B 281 dL_law_276 (by decide) (fun _ => fin) (fun q => absurd rfl q)
set_option maxHeartbeats 4000000 in
set_option maxRecDepth 100000 in
theorem lo_wipe {X : zX} {l : Launch} {D : va_G} {g : zG} {A : Nat → Prop} {Q : State → Prop} {b L o h0 a0 i k n : Nat} {xs : Nat → Int32} {am a : Nat → Nat} {M C : zMS} {f : Nat → Int64} (hLw : zLaw X l D g A b L xs) (h : INV M C) (ha : a 0 = a0) (hi : i + 5 ≤ L) (hk : k + 6 ≤ 601024) (hn : n + 419 ≤ 7293034) (kk : zKK X D g A Q b o h0 a0 i k n am) : zJ X 7 (zI1 D A (zs X)) Q (wLw g h0 am M o f a C) k n [(0, .ref b), (1, .ref a0), (2, .ref h0), (3, .ref o), (4, .int (nI i))] 284 [] := by
  obtain ⟨B, hLF, hX, hbl, hbA, hL, hl, hst⟩ := hLw
  have hr0 : (wC g a C (4 * cM C))[0]? = some (a0, .inr (6, [.ref (a 1), .ref (a 2), .ref (a 3), .ref (a 4), .ref (a 5), .int (C 0 0)])) := by rw [← ha]; rfl
  subst ha
  have hk2 : k + 0 ≤ room_1.cells := by show k + 0 ≤ 601024; omega
  have hn2 : n + 0 ≤ room_1.slots := by show n + 0 ≤ 7293034; omega
  unfold wLw
  refine z_aload_n B 1 dL_law_284 rfl rfl ?_
  refine z_w (w' := (wM g h0 am M ++ [(o, .inl (g.2.2.2, 1, .inr (.inl f)))]) ++ wC g a C (4 * cM C)) (by rw [List.append_assoc]; rfl) ?_
  refine z_callMf (As := []) (st := []) (C := RX6) (T := TX6) (N := 6) (ci := 6) (l := l) B hl (cc_X6_wipe l D g a C (4 * cM C) h.2.1) gL_law_X6_wipe rfl ⟨rfl, rfl⟩ nm_X6_wipe ⟨by decide, by decide⟩ 0 hr0 rfl rfl (Nat.le_of_ble_eq_true rfl) dL_law_285 rfl rfl hk2 hn2 (fun r1 w1 hr1 => ?_)
  obtain ⟨rfl, rfl⟩ := hr1
  refine z_w (w' := wM g h0 am M ++ ((o, .inl (g.2.2.2, 1, .inr (.inl f))) :: wC g a (up2 C 3 0 (nI 0)) (4 * cM C))) (by rw [List.append_assoc]; rfl) ?_
  refine z_swap ?_
  refine z_aload_n B 2 dL_law_288 rfl rfl ?_
  refine z_callMf (As := []) (st := [.int (nI (cD C))]) (C := RX7) (T := TX7) (N := 30) (ci := 7) (l := l) B hl (c7_wipe l D g h0 am M h.1) gL_law_X7_wipe rfl ⟨rfl, rfl⟩ nm_X7_wipe ⟨by decide, by decide⟩ 0 rfl rfl rfl (Nat.le_of_ble_eq_true rfl) dL_law_289 rfl rfl (by exact hk2) (by exact hn2) (fun r2 w2 hr2 => ?_)
  obtain ⟨rfl, rfl⟩ := hr2
  refine z_swap ?_
  refine z_icmp_eq B 2506 dL_law_292 (by decide) (fun _ => ?_) (fun q => absurd (by rw [i_D h]) q)
  exact z_wid (by omega) (by omega) (kk _ (up2 C 3 0 (nI 0)) f a (INV_0 (INV_clr h)) rfl)
set_option maxHeartbeats 4000000 in
set_option maxRecDepth 100000 in
theorem lo_write {X : zX} {l : Launch} {D : va_G} {g : zG} {A : Nat → Prop} {Q : State → Prop} {b L o h0 a0 i k n : Nat} {xs : Nat → Int32} {am a : Nat → Nat} {M C : zMS} {f : Nat → Int64} (hLw : zLaw X l D g A b L xs) (h : INV M C) (ha : a 0 = a0) (hi : i + 5 ≤ L) (hk : k + 6 ≤ 601024) (hn : n + 419 ≤ 7293034) (kk : zKK X D g A Q b o h0 a0 i k n am) : zJ X 7 (zI1 D A (zs X)) Q (wLw g h0 am M o f a C) k n [(0, .ref b), (1, .ref a0), (2, .ref h0), (3, .ref o), (4, .int (nI i))] 297 [] := by
  obtain ⟨B, hLF, hX, hbl, hbA, hL, hl, hst⟩ := hLw
  have hr0 : (wC g a C (4 * cM C))[0]? = some (a0, .inr (6, [.ref (a 1), .ref (a 2), .ref (a 3), .ref (a 4), .ref (a 5), .int (C 0 0)])) := by rw [← ha]; rfl
  subst ha
  refine z_aload_n B 1 dL_law_297 rfl rfl ?_
  refine z_aload_n B 0 dL_law_298 rfl rfl ?_
  refine z_iload B 4 dL_law_299 rfl ?_
  refine z_iconst (v := nI 1) B dL_law_301 (by decide) ?_
  refine z_iaddN B dL_law_302 ?_
  refine z_sld B hX hbl hbA (j := i + 1) (by omega) hL dL_law_303 ?_
  refine z_aload_n B 3 dL_law_304 rfl rfl ?_
  have hM0 := (cc_X6_write l D g a C (4 * cM C) hst h.2.1 (xs (i + 1))).L
  have hw0 := fun hE => wr_write l D g o (a 0) f (wC g a C (4 * cM C)) _ hr0 (xs (i + 1)) _ _ hE hM0
  have hk2 : k + 2 + 0 ≤ room_1.cells := by show k + 2 + 0 ≤ 601024; omega
  have hn2 : n + 12 + 0 ≤ room_1.slots := by show n + 12 + 0 ≤ 7293034; omega
  unfold wLw
  refine z_callW (As := [.ref (a 0), .int (xs (i + 1)), .ref o]) (st := []) (hh := [(0, 9, 12, 15), (0, 9, 15, 17)]) B hLF hl (hw0 (fun E w2 hx => (fun hx => hx.elim (fun q => Or.inl q.1) (fun q => Or.inr (q.1))) hx.2)) gL_law_L_write rfl ⟨rfl, rfl⟩ nm_L_write ⟨by decide, by decide⟩ rfl (Nat.le_of_ble_eq_true rfl) dL_law_305 rfl rfl hk2 hn2 (fun κ w1 hW => ?_)
  refine z_istore (lv1 := [(5, .int κ), (0, .ref b), (1, .ref (a 0)), (2, .ref h0), (3, .ref o), (4, .int (nI i))]) B dL_law_308 (by decide) rfl ?_
  refine z_swap ?_
  refine z_aload_n B 3 dL_law_310 rfl rfl ?_
  refine z_aload_n B 1 dL_law_311 rfl rfl ?_
  refine z_iload B 5 dL_law_312 rfl ?_
  refine z_iconst (v := nI 1) B dL_law_314 (by decide) ?_
  refine z_iaddN B dL_law_315 ?_
  refine z_sld B hX hbl hbA (j := i + 1) (by omega) hL dL_law_316 ?_
  refine z_callMf (As := [.int (xs (i + 1))]) (st := []) (C := RX7) (T := TX7) (N := 30) (ci := 7) (l := l) B hl (c7_write l D g h0 am M h.1 (xs (i + 1))) gL_law_X7_write rfl ⟨rfl, rfl⟩ nm_X7_write ⟨by decide, by decide⟩ 0 rfl rfl rfl (Nat.le_of_ble_eq_true rfl) dL_law_317 rfl rfl hk2 hn2 (fun r w2 hr2 => ?_)
  obtain ⟨M', rfl, himp⟩ := hr2
  refine z_swap ?_
  obtain ⟨hκ, f', a', C', rfl, hans, hI', ha'⟩ := sim_write h hW himp
  refine z_istore (lv1 := [(6, .int r), (5, .int κ), (0, .ref b), (1, .ref (a 0)), (2, .ref h0), (3, .ref o), (4, .int (nI i))]) B dL_law_320 (by decide) rfl ?_
  refine z_aload_n B 4 dL_law_322 rfl rfl ?_
  refine z_callP (As := []) (st := []) (C := RX7) (T := TX7) (N := 30) (ci := 7) (l := l) B hl (c7_thrown l D g h0 am M') gL_law_X7_thrown rfl ⟨rfl, rfl⟩ nm_X7_thrown ⟨by decide, by decide⟩ (fun H hP => (z_sub hP (fun _ q hq => List.mem_append_left _ (List.mem_of_getElem? hq)))) 0 rfl rfl rfl (Nat.le_of_ble_eq_true rfl) dL_law_323 (Nat.le_of_add_right_le hk2) (Nat.le_of_add_right_le hn2) (fun r2 hr2 => ?_)
  refine z_top (y := κ) (hr2.trans hκ) ?_
  refine z_iload B 1 dL_law_326 rfl ?_
  refine z_icmp_eq B 333 dL_law_328 (by decide) (fun _ => ?_) (fun q => absurd rfl q)
  refine z_iload B 1 dL_law_333 rfl ?_
  have fin : zJ X 7 (zI1 D A (zs X)) Q (wM g h0 am M' ++ ((o, .inl (g.2.2.2, 1, .inr (.inl f'))) :: wC g a' C' (4 * cM C'))) (k + 2 + 0) (n + 12 + 0) [(6, .int r), (5, .int κ), (0, .ref b), (1, .ref (a 0)), (2, .ref h0), (3, .ref o), (4, .int (nI i))] 350 [] := by
    refine z_goto B 2506 dL_law_350 (by decide) ?_
    refine z_loc [2, 3, 4, 5, 6] (lv' := [(0, .ref b), (1, .ref (a 0)), (2, .ref h0), (3, .ref o), (4, .int (nI i))]) rfl ?_
    exact z_wid (by omega) (by omega) (kk M' C' f' a' hI' ha')
  refine z_if_ne B 350 dL_law_335 (by decide) (fun _ => fin) (fun hz => ?_)
  have hans := hans hz
  refine z_aload_n B 5 dL_law_338 rfl rfl ?_
  refine z_iconst (v := nI 0) B dL_law_339 (by decide) ?_
  refine z_lald (f := f') (i := 0) (a := o) B 24 3 rfl rfl (by decide) (by decide) dL_law_340 ?_
  refine z_topv (y := .long r.toInt64) (by rw [hans]) ?_
  refine z_iload B 0 dL_law_341 rfl ?_
  refine z_i2l B dL_law_343 ?_
  refine z_lcmp B dL_law_344 ?_
  refine z_top (y := nI 0) (lg_cmp_rfl _) ?_
  exact z_if_eq B 350 dL_law_345 (by decide) (fun _ => fin) (fun q => absurd rfl q)
set_option maxHeartbeats 4000000 in
set_option maxRecDepth 100000 in
theorem lo_reverse {X : zX} {l : Launch} {D : va_G} {g : zG} {A : Nat → Prop} {Q : State → Prop} {b L o h0 a0 i k n : Nat} {xs : Nat → Int32} {am a : Nat → Nat} {M C : zMS} {f : Nat → Int64} (hLw : zLaw X l D g A b L xs) (h : INV M C) (ha : a 0 = a0) (hi : i + 5 ≤ L) (hk : k + 6 ≤ 601024) (hn : n + 419 ≤ 7293034) (kk : zKK X D g A Q b o h0 a0 i k n am) : zJ X 7 (zI1 D A (zs X)) Q (wLw g h0 am M o f a C) k n [(0, .ref b), (1, .ref a0), (2, .ref h0), (3, .ref o), (4, .int (nI i))] 353 [] := by
  obtain ⟨B, hLF, hX, hbl, hbA, hL, hl, hst⟩ := hLw
  have hr0 : (wC g a C (4 * cM C))[0]? = some (a0, .inr (6, [.ref (a 1), .ref (a 2), .ref (a 3), .ref (a 4), .ref (a 5), .int (C 0 0)])) := by rw [← ha]; rfl
  subst ha
  refine z_aload_n B 1 dL_law_353 rfl rfl ?_
  refine z_aload_n B 0 dL_law_354 rfl rfl ?_
  refine z_iload B 4 dL_law_355 rfl ?_
  refine z_iconst (v := nI 1) B dL_law_357 (by decide) ?_
  refine z_iaddN B dL_law_358 ?_
  refine z_sld B hX hbl hbA (j := i + 1) (by omega) hL dL_law_359 ?_
  refine z_aload_n B 3 dL_law_360 rfl rfl ?_
  have hM0 := (cc_X6_reverse l D g a C (4 * cM C) hst h.2.1 (xs (i + 1))).L
  have hw0 := fun hE => wr_reverse l D g o (a 0) f (wC g a C (4 * cM C)) _ hr0 (xs (i + 1)) _ _ hE hM0
  have hk2 : k + 2 + 0 ≤ room_1.cells := by show k + 2 + 0 ≤ 601024; omega
  have hn2 : n + 12 + 0 ≤ room_1.slots := by show n + 12 + 0 ≤ 7293034; omega
  unfold wLw
  refine z_callW (As := [.ref (a 0), .int (xs (i + 1)), .ref o]) (st := []) (hh := [(0, 9, 12, 13), (0, 9, 15, 17)]) B hLF hl (hw0 (fun E w2 hx => (fun hx => hx.elim (fun q => Or.inl q.1) (fun q => Or.inr (q.1))) hx.2)) gL_law_L_reverse rfl ⟨rfl, rfl⟩ nm_L_reverse ⟨by decide, by decide⟩ rfl (Nat.le_of_ble_eq_true rfl) dL_law_361 rfl rfl hk2 hn2 (fun κ w1 hW => ?_)
  refine z_istore (lv1 := [(5, .int κ), (0, .ref b), (1, .ref (a 0)), (2, .ref h0), (3, .ref o), (4, .int (nI i))]) B dL_law_364 (by decide) rfl ?_
  refine z_swap ?_
  refine z_aload_n B 3 dL_law_366 rfl rfl ?_
  refine z_aload_n B 1 dL_law_367 rfl rfl ?_
  refine z_iload B 5 dL_law_368 rfl ?_
  refine z_iconst (v := nI 1) B dL_law_370 (by decide) ?_
  refine z_iaddN B dL_law_371 ?_
  refine z_sld B hX hbl hbA (j := i + 1) (by omega) hL dL_law_372 ?_
  refine z_callMf (As := [.int (xs (i + 1))]) (st := []) (C := RX7) (T := TX7) (N := 30) (ci := 7) (l := l) B hl (c7_reverse l D g h0 am M h.1 (xs (i + 1))) gL_law_X7_reverse rfl ⟨rfl, rfl⟩ nm_X7_reverse ⟨by decide, by decide⟩ 0 rfl rfl rfl (Nat.le_of_ble_eq_true rfl) dL_law_373 rfl rfl hk2 hn2 (fun r w2 hr2 => ?_)
  obtain ⟨M', rfl, himp⟩ := hr2
  refine z_swap ?_
  obtain ⟨hκ, f', a', C', rfl, hans, hI', ha'⟩ := sim_reverse h hW himp
  refine z_istore (lv1 := [(6, .int r), (5, .int κ), (0, .ref b), (1, .ref (a 0)), (2, .ref h0), (3, .ref o), (4, .int (nI i))]) B dL_law_376 (by decide) rfl ?_
  refine z_aload_n B 4 dL_law_378 rfl rfl ?_
  refine z_callP (As := []) (st := []) (C := RX7) (T := TX7) (N := 30) (ci := 7) (l := l) B hl (c7_thrown l D g h0 am M') gL_law_X7_thrown rfl ⟨rfl, rfl⟩ nm_X7_thrown ⟨by decide, by decide⟩ (fun H hP => (z_sub hP (fun _ q hq => List.mem_append_left _ (List.mem_of_getElem? hq)))) 0 rfl rfl rfl (Nat.le_of_ble_eq_true rfl) dL_law_379 (Nat.le_of_add_right_le hk2) (Nat.le_of_add_right_le hn2) (fun r2 hr2 => ?_)
  refine z_top (y := κ) (hr2.trans hκ) ?_
  refine z_iload B 1 dL_law_382 rfl ?_
  refine z_icmp_eq B 389 dL_law_384 (by decide) (fun _ => ?_) (fun q => absurd rfl q)
  refine z_iload B 1 dL_law_389 rfl ?_
  have fin : zJ X 7 (zI1 D A (zs X)) Q (wM g h0 am M' ++ ((o, .inl (g.2.2.2, 1, .inr (.inl f'))) :: wC g a' C' (4 * cM C'))) (k + 2 + 0) (n + 12 + 0) [(6, .int r), (5, .int κ), (0, .ref b), (1, .ref (a 0)), (2, .ref h0), (3, .ref o), (4, .int (nI i))] 406 [] := by
    refine z_goto B 2506 dL_law_406 (by decide) ?_
    refine z_loc [2, 3, 4, 5, 6] (lv' := [(0, .ref b), (1, .ref (a 0)), (2, .ref h0), (3, .ref o), (4, .int (nI i))]) rfl ?_
    exact z_wid (by omega) (by omega) (kk M' C' f' a' hI' ha')
  refine z_if_ne B 406 dL_law_391 (by decide) (fun _ => fin) (fun hz => ?_)
  have hans := hans hz
  refine z_aload_n B 5 dL_law_394 rfl rfl ?_
  refine z_iconst (v := nI 0) B dL_law_395 (by decide) ?_
  refine z_lald (f := f') (i := 0) (a := o) B 24 3 rfl rfl (by decide) (by decide) dL_law_396 ?_
  refine z_topv (y := .long r.toInt64) (by rw [hans]) ?_
  refine z_iload B 0 dL_law_397 rfl ?_
  refine z_i2l B dL_law_399 ?_
  refine z_lcmp B dL_law_400 ?_
  refine z_top (y := nI 0) (lg_cmp_rfl _) ?_
  exact z_if_eq B 406 dL_law_401 (by decide) (fun _ => fin) (fun q => absurd rfl q)
set_option maxHeartbeats 4000000 in
set_option maxRecDepth 100000 in
theorem lo_pass {X : zX} {l : Launch} {D : va_G} {g : zG} {A : Nat → Prop} {Q : State → Prop} {b L o h0 a0 i k n : Nat} {xs : Nat → Int32} {am a : Nat → Nat} {M C : zMS} {f : Nat → Int64} (hLw : zLaw X l D g A b L xs) (h : INV M C) (ha : a 0 = a0) (hi : i + 5 ≤ L) (hk : k + 6 ≤ 601024) (hn : n + 419 ≤ 7293034) (kk : zKK X D g A Q b o h0 a0 i k n am) : zJ X 7 (zI1 D A (zs X)) Q (wLw g h0 am M o f a C) k n [(0, .ref b), (1, .ref a0), (2, .ref h0), (3, .ref o), (4, .int (nI i))] 409 [] := by
  obtain ⟨B, hLF, hX, hbl, hbA, hL, hl, hst⟩ := hLw
  have hr0 : (wC g a C (4 * cM C))[0]? = some (a0, .inr (6, [.ref (a 1), .ref (a 2), .ref (a 3), .ref (a 4), .ref (a 5), .int (C 0 0)])) := by rw [← ha]; rfl
  subst ha
  refine z_aload_n B 1 dL_law_409 rfl rfl ?_
  refine z_aload_n B 0 dL_law_410 rfl rfl ?_
  refine z_iload B 4 dL_law_411 rfl ?_
  refine z_iconst (v := nI 1) B dL_law_413 (by decide) ?_
  refine z_iaddN B dL_law_414 ?_
  refine z_sld B hX hbl hbA (j := i + 1) (by omega) hL dL_law_415 ?_
  refine z_aload_n B 3 dL_law_416 rfl rfl ?_
  have hM0 := (cc_X6_pass l D g a C (4 * cM C) hst h.2.1 (xs (i + 1))).L
  have hw0 := fun hE => wr_pass l D g o (a 0) f (wC g a C (4 * cM C)) _ hr0 (xs (i + 1)) _ _ hE hM0
  have hk2 : k + 1 + 0 ≤ room_1.cells := by show k + 1 + 0 ≤ 601024; omega
  have hn2 : n + 6 + 0 ≤ room_1.slots := by show n + 6 + 0 ≤ 7293034; omega
  unfold wLw
  refine z_callW (As := [.ref (a 0), .int (xs (i + 1)), .ref o]) (st := []) (hh := [(0, 9, 12, 15), (0, 9, 15, 17)]) B hLF hl (hw0 (fun E w2 hx => (fun hx => hx.elim (fun q => Or.inl q.1) (fun q => Or.inr (q.1))) hx.2)) gL_law_L_pass rfl ⟨rfl, rfl⟩ nm_L_pass ⟨by decide, by decide⟩ rfl (Nat.le_of_ble_eq_true rfl) dL_law_417 rfl rfl hk2 hn2 (fun κ w1 hW => ?_)
  refine z_istore (lv1 := [(5, .int κ), (0, .ref b), (1, .ref (a 0)), (2, .ref h0), (3, .ref o), (4, .int (nI i))]) B dL_law_420 (by decide) rfl ?_
  refine z_swap ?_
  refine z_aload_n B 3 dL_law_422 rfl rfl ?_
  refine z_aload_n B 1 dL_law_423 rfl rfl ?_
  refine z_iload B 5 dL_law_424 rfl ?_
  refine z_iconst (v := nI 1) B dL_law_426 (by decide) ?_
  refine z_iaddN B dL_law_427 ?_
  refine z_sld B hX hbl hbA (j := i + 1) (by omega) hL dL_law_428 ?_
  refine z_callMf (As := [.int (xs (i + 1))]) (st := []) (C := RX7) (T := TX7) (N := 30) (ci := 7) (l := l) B hl (c7_pass l D g h0 am M h.1 (xs (i + 1))) gL_law_X7_pass rfl ⟨rfl, rfl⟩ nm_X7_pass ⟨by decide, by decide⟩ 0 rfl rfl rfl (Nat.le_of_ble_eq_true rfl) dL_law_429 rfl rfl hk2 hn2 (fun r w2 hr2 => ?_)
  obtain ⟨M', rfl, himp⟩ := hr2
  refine z_swap ?_
  obtain ⟨hκ, f', a', C', rfl, hans, hI', ha'⟩ := sim_pass h hW himp
  refine z_istore (lv1 := [(6, .int r), (5, .int κ), (0, .ref b), (1, .ref (a 0)), (2, .ref h0), (3, .ref o), (4, .int (nI i))]) B dL_law_432 (by decide) rfl ?_
  refine z_aload_n B 4 dL_law_434 rfl rfl ?_
  refine z_callP (As := []) (st := []) (C := RX7) (T := TX7) (N := 30) (ci := 7) (l := l) B hl (c7_thrown l D g h0 am M') gL_law_X7_thrown rfl ⟨rfl, rfl⟩ nm_X7_thrown ⟨by decide, by decide⟩ (fun H hP => (z_sub hP (fun _ q hq => List.mem_append_left _ (List.mem_of_getElem? hq)))) 0 rfl rfl rfl (Nat.le_of_ble_eq_true rfl) dL_law_435 (Nat.le_of_add_right_le hk2) (Nat.le_of_add_right_le hn2) (fun r2 hr2 => ?_)
  refine z_top (y := κ) (hr2.trans hκ) ?_
  refine z_iload B 1 dL_law_438 rfl ?_
  refine z_icmp_eq B 445 dL_law_440 (by decide) (fun _ => ?_) (fun q => absurd rfl q)
  refine z_iload B 1 dL_law_445 rfl ?_
  have fin : zJ X 7 (zI1 D A (zs X)) Q (wM g h0 am M' ++ ((o, .inl (g.2.2.2, 1, .inr (.inl f'))) :: wC g a' C' (4 * cM C'))) (k + 1 + 0) (n + 6 + 0) [(6, .int r), (5, .int κ), (0, .ref b), (1, .ref (a 0)), (2, .ref h0), (3, .ref o), (4, .int (nI i))] 462 [] := by
    refine z_goto B 2506 dL_law_462 (by decide) ?_
    refine z_loc [2, 3, 4, 5, 6] (lv' := [(0, .ref b), (1, .ref (a 0)), (2, .ref h0), (3, .ref o), (4, .int (nI i))]) rfl ?_
    exact z_wid (by omega) (by omega) (kk M' C' f' a' hI' ha')
  refine z_if_ne B 462 dL_law_447 (by decide) (fun _ => fin) (fun hz => ?_)
  have hans := hans hz
  refine z_aload_n B 5 dL_law_450 rfl rfl ?_
  refine z_iconst (v := nI 0) B dL_law_451 (by decide) ?_
  refine z_lald (f := f') (i := 0) (a := o) B 24 3 rfl rfl (by decide) (by decide) dL_law_452 ?_
  refine z_topv (y := .long r.toInt64) (by rw [hans]) ?_
  refine z_iload B 0 dL_law_453 rfl ?_
  refine z_i2l B dL_law_455 ?_
  refine z_lcmp B dL_law_456 ?_
  refine z_top (y := nI 0) (lg_cmp_rfl _) ?_
  exact z_if_eq B 462 dL_law_457 (by decide) (fun _ => fin) (fun q => absurd rfl q)
set_option maxHeartbeats 4000000 in
set_option maxRecDepth 100000 in
theorem lo_burn {X : zX} {l : Launch} {D : va_G} {g : zG} {A : Nat → Prop} {Q : State → Prop} {b L o h0 a0 i k n : Nat} {xs : Nat → Int32} {am a : Nat → Nat} {M C : zMS} {f : Nat → Int64} (hLw : zLaw X l D g A b L xs) (h : INV M C) (ha : a 0 = a0) (hi : i + 5 ≤ L) (hk : k + 6 ≤ 601024) (hn : n + 419 ≤ 7293034) (kk : zKK X D g A Q b o h0 a0 i k n am) : zJ X 7 (zI1 D A (zs X)) Q (wLw g h0 am M o f a C) k n [(0, .ref b), (1, .ref a0), (2, .ref h0), (3, .ref o), (4, .int (nI i))] 465 [] := by
  obtain ⟨B, hLF, hX, hbl, hbA, hL, hl, hst⟩ := hLw
  have hr0 : (wC g a C (4 * cM C))[0]? = some (a0, .inr (6, [.ref (a 1), .ref (a 2), .ref (a 3), .ref (a 4), .ref (a 5), .int (C 0 0)])) := by rw [← ha]; rfl
  subst ha
  refine z_aload_n B 1 dL_law_465 rfl rfl ?_
  refine z_aload_n B 0 dL_law_466 rfl rfl ?_
  refine z_iload B 4 dL_law_467 rfl ?_
  refine z_iconst (v := nI 1) B dL_law_469 (by decide) ?_
  refine z_iaddN B dL_law_470 ?_
  refine z_sld B hX hbl hbA (j := i + 1) (by omega) hL dL_law_471 ?_
  refine z_aload_n B 0 dL_law_472 rfl rfl ?_
  refine z_iload B 4 dL_law_473 rfl ?_
  refine z_iconst (v := nI 2) B dL_law_475 (by decide) ?_
  refine z_iaddN B dL_law_476 ?_
  refine z_sld B hX hbl hbA (j := i + 2) (by omega) hL dL_law_477 ?_
  refine z_aload_n B 3 dL_law_478 rfl rfl ?_
  have hM0 := (cc_X6_burn l D g a C (4 * cM C) hst h.2.1 (xs (i + 1)) (xs (i + 2))).L
  have hw0 := fun hE => wr_burn l D g o (a 0) f (wC g a C (4 * cM C)) _ hr0 (xs (i + 1)) (xs (i + 2)) _ _ hE hM0
  have hk2 : k + 3 + 0 ≤ room_1.cells := by show k + 3 + 0 ≤ 601024; omega
  have hn2 : n + 18 + 0 ≤ room_1.slots := by show n + 18 + 0 ≤ 7293034; omega
  unfold wLw
  refine z_callW (As := [.ref (a 0), .int (xs (i + 1)), .int (xs (i + 2)), .ref o]) (st := []) (hh := [(0, 10, 13, 13), (0, 10, 17, 15)]) B hLF hl (hw0 (fun E w2 hx => (fun hx => hx.elim (fun q => Or.inl q.1) (fun hx => hx.elim (fun q => Or.inl q.1) (fun q => Or.inr (q.1)))) hx.2)) gL_law_L_burn rfl ⟨rfl, rfl⟩ nm_L_burn ⟨by decide, by decide⟩ rfl (Nat.le_of_ble_eq_true rfl) dL_law_479 rfl rfl hk2 hn2 (fun κ w1 hW => ?_)
  refine z_istore (lv1 := [(5, .int κ), (0, .ref b), (1, .ref (a 0)), (2, .ref h0), (3, .ref o), (4, .int (nI i))]) B dL_law_482 (by decide) rfl ?_
  refine z_swap ?_
  refine z_aload_n B 3 dL_law_484 rfl rfl ?_
  refine z_aload_n B 1 dL_law_485 rfl rfl ?_
  refine z_iload B 5 dL_law_486 rfl ?_
  refine z_iconst (v := nI 1) B dL_law_488 (by decide) ?_
  refine z_iaddN B dL_law_489 ?_
  refine z_sld B hX hbl hbA (j := i + 1) (by omega) hL dL_law_490 ?_
  refine z_aload_n B 1 dL_law_491 rfl rfl ?_
  refine z_iload B 5 dL_law_492 rfl ?_
  refine z_iconst (v := nI 2) B dL_law_494 (by decide) ?_
  refine z_iaddN B dL_law_495 ?_
  refine z_sld B hX hbl hbA (j := i + 2) (by omega) hL dL_law_496 ?_
  refine z_callMf (As := [.int (xs (i + 1)), .int (xs (i + 2))]) (st := []) (C := RX7) (T := TX7) (N := 30) (ci := 7) (l := l) B hl (c7_burn l D g h0 am M h.1 (xs (i + 1)) (xs (i + 2))) gL_law_X7_burn rfl ⟨rfl, rfl⟩ nm_X7_burn ⟨by decide, by decide⟩ 0 rfl rfl rfl (Nat.le_of_ble_eq_true rfl) dL_law_497 rfl rfl hk2 hn2 (fun r w2 hr2 => ?_)
  obtain ⟨M', rfl, himp⟩ := hr2
  refine z_swap ?_
  obtain ⟨hκ, f', a', C', rfl, hans, hI', ha'⟩ := sim_burn h hW himp
  refine z_istore (lv1 := [(6, .int r), (5, .int κ), (0, .ref b), (1, .ref (a 0)), (2, .ref h0), (3, .ref o), (4, .int (nI i))]) B dL_law_500 (by decide) rfl ?_
  refine z_aload_n B 4 dL_law_502 rfl rfl ?_
  refine z_callP (As := []) (st := []) (C := RX7) (T := TX7) (N := 30) (ci := 7) (l := l) B hl (c7_thrown l D g h0 am M') gL_law_X7_thrown rfl ⟨rfl, rfl⟩ nm_X7_thrown ⟨by decide, by decide⟩ (fun H hP => (z_sub hP (fun _ q hq => List.mem_append_left _ (List.mem_of_getElem? hq)))) 0 rfl rfl rfl (Nat.le_of_ble_eq_true rfl) dL_law_503 (Nat.le_of_add_right_le hk2) (Nat.le_of_add_right_le hn2) (fun r2 hr2 => ?_)
  refine z_top (y := κ) (hr2.trans hκ) ?_
  refine z_iload B 1 dL_law_506 rfl ?_
  refine z_icmp_eq B 513 dL_law_508 (by decide) (fun _ => ?_) (fun q => absurd rfl q)
  refine z_iload B 1 dL_law_513 rfl ?_
  have fin : zJ X 7 (zI1 D A (zs X)) Q (wM g h0 am M' ++ ((o, .inl (g.2.2.2, 1, .inr (.inl f'))) :: wC g a' C' (4 * cM C'))) (k + 3 + 0) (n + 18 + 0) [(6, .int r), (5, .int κ), (0, .ref b), (1, .ref (a 0)), (2, .ref h0), (3, .ref o), (4, .int (nI i))] 530 [] := by
    refine z_goto B 2506 dL_law_530 (by decide) ?_
    refine z_loc [2, 3, 4, 5, 6] (lv' := [(0, .ref b), (1, .ref (a 0)), (2, .ref h0), (3, .ref o), (4, .int (nI i))]) rfl ?_
    exact z_wid (by omega) (by omega) (kk M' C' f' a' hI' ha')
  refine z_if_ne B 530 dL_law_515 (by decide) (fun _ => fin) (fun hz => ?_)
  have hans := hans hz
  refine z_aload_n B 5 dL_law_518 rfl rfl ?_
  refine z_iconst (v := nI 0) B dL_law_519 (by decide) ?_
  refine z_lald (f := f') (i := 0) (a := o) B 24 3 rfl rfl (by decide) (by decide) dL_law_520 ?_
  refine z_topv (y := .long r.toInt64) (by rw [hans]) ?_
  refine z_iload B 0 dL_law_521 rfl ?_
  refine z_i2l B dL_law_523 ?_
  refine z_lcmp B dL_law_524 ?_
  refine z_top (y := nI 0) (lg_cmp_rfl _) ?_
  exact z_if_eq B 530 dL_law_525 (by decide) (fun _ => fin) (fun q => absurd rfl q)
set_option maxHeartbeats 4000000 in
set_option maxRecDepth 100000 in
theorem lo_alter {X : zX} {l : Launch} {D : va_G} {g : zG} {A : Nat → Prop} {Q : State → Prop} {b L o h0 a0 i k n : Nat} {xs : Nat → Int32} {am a : Nat → Nat} {M C : zMS} {f : Nat → Int64} (hLw : zLaw X l D g A b L xs) (h : INV M C) (ha : a 0 = a0) (hi : i + 5 ≤ L) (hk : k + 6 ≤ 601024) (hn : n + 419 ≤ 7293034) (kk : zKK X D g A Q b o h0 a0 i k n am) : zJ X 7 (zI1 D A (zs X)) Q (wLw g h0 am M o f a C) k n [(0, .ref b), (1, .ref a0), (2, .ref h0), (3, .ref o), (4, .int (nI i))] 533 [] := by
  obtain ⟨B, hLF, hX, hbl, hbA, hL, hl, hst⟩ := hLw
  have hr0 : (wC g a C (4 * cM C))[0]? = some (a0, .inr (6, [.ref (a 1), .ref (a 2), .ref (a 3), .ref (a 4), .ref (a 5), .int (C 0 0)])) := by rw [← ha]; rfl
  subst ha
  refine z_aload_n B 1 dL_law_533 rfl rfl ?_
  refine z_aload_n B 0 dL_law_534 rfl rfl ?_
  refine z_iload B 4 dL_law_535 rfl ?_
  refine z_iconst (v := nI 1) B dL_law_537 (by decide) ?_
  refine z_iaddN B dL_law_538 ?_
  refine z_sld B hX hbl hbA (j := i + 1) (by omega) hL dL_law_539 ?_
  refine z_aload_n B 0 dL_law_540 rfl rfl ?_
  refine z_iload B 4 dL_law_541 rfl ?_
  refine z_iconst (v := nI 2) B dL_law_543 (by decide) ?_
  refine z_iaddN B dL_law_544 ?_
  refine z_sld B hX hbl hbA (j := i + 2) (by omega) hL dL_law_545 ?_
  refine z_aload_n B 0 dL_law_546 rfl rfl ?_
  refine z_iload B 4 dL_law_547 rfl ?_
  refine z_iconst (v := nI 3) B dL_law_549 (by decide) ?_
  refine z_iaddN B dL_law_550 ?_
  refine z_sld B hX hbl hbA (j := i + 3) (by omega) hL dL_law_551 ?_
  refine z_aload_n B 3 dL_law_552 rfl rfl ?_
  have hM0 := (cc_X6_alter l D g a C (4 * cM C) hst h.2.1 (xs (i + 1)) (xs (i + 2)) (xs (i + 3))).L
  have hw0 := fun hE => wr_alter l D g o (a 0) f (wC g a C (4 * cM C)) _ hr0 (xs (i + 1)) (xs (i + 2)) (xs (i + 3)) _ _ hE hM0
  have hk2 : k + 3 + 0 ≤ room_1.cells := by show k + 3 + 0 ≤ 601024; omega
  have hn2 : n + 18 + 0 ≤ room_1.slots := by show n + 18 + 0 ≤ 7293034; omega
  unfold wLw
  refine z_callW (As := [.ref (a 0), .int (xs (i + 1)), .int (xs (i + 2)), .int (xs (i + 3)), .ref o]) (st := []) (hh := [(0, 12, 15, 13), (0, 12, 19, 15), (0, 12, 23, 17)]) B hLF hl (hw0 (fun E w2 hx => (fun hx => hx.elim (fun q => Or.inl q.1) (fun hx => hx.elim (fun q => Or.inr (Or.inl q.1)) (fun hx => hx.elim (fun q => Or.inr (Or.inl q.1)) (fun q => Or.inr (Or.inr (q.1)))))) hx.2)) gL_law_L_alter rfl ⟨rfl, rfl⟩ nm_L_alter ⟨by decide, by decide⟩ rfl (Nat.le_of_ble_eq_true rfl) dL_law_553 rfl rfl hk2 hn2 (fun κ w1 hW => ?_)
  refine z_istore (lv1 := [(5, .int κ), (0, .ref b), (1, .ref (a 0)), (2, .ref h0), (3, .ref o), (4, .int (nI i))]) B dL_law_556 (by decide) rfl ?_
  refine z_swap ?_
  refine z_aload_n B 3 dL_law_558 rfl rfl ?_
  refine z_aload_n B 1 dL_law_559 rfl rfl ?_
  refine z_iload B 5 dL_law_560 rfl ?_
  refine z_iconst (v := nI 1) B dL_law_562 (by decide) ?_
  refine z_iaddN B dL_law_563 ?_
  refine z_sld B hX hbl hbA (j := i + 1) (by omega) hL dL_law_564 ?_
  refine z_aload_n B 1 dL_law_565 rfl rfl ?_
  refine z_iload B 5 dL_law_566 rfl ?_
  refine z_iconst (v := nI 2) B dL_law_568 (by decide) ?_
  refine z_iaddN B dL_law_569 ?_
  refine z_sld B hX hbl hbA (j := i + 2) (by omega) hL dL_law_570 ?_
  refine z_aload_n B 1 dL_law_571 rfl rfl ?_
  refine z_iload B 5 dL_law_572 rfl ?_
  refine z_iconst (v := nI 3) B dL_law_574 (by decide) ?_
  refine z_iaddN B dL_law_575 ?_
  refine z_sld B hX hbl hbA (j := i + 3) (by omega) hL dL_law_576 ?_
  refine z_callMf (As := [.int (xs (i + 1)), .int (xs (i + 2)), .int (xs (i + 3))]) (st := []) (C := RX7) (T := TX7) (N := 30) (ci := 7) (l := l) B hl (c7_alter l D g h0 am M h.1 (xs (i + 1)) (xs (i + 2)) (xs (i + 3))) gL_law_X7_alter rfl ⟨rfl, rfl⟩ nm_X7_alter ⟨by decide, by decide⟩ 0 rfl rfl rfl (Nat.le_of_ble_eq_true rfl) dL_law_577 rfl rfl hk2 hn2 (fun r w2 hr2 => ?_)
  obtain ⟨M', rfl, himp⟩ := hr2
  refine z_swap ?_
  obtain ⟨hκ, f', a', C', rfl, hans, hI', ha'⟩ := sim_alter h hW himp
  refine z_istore (lv1 := [(6, .int r), (5, .int κ), (0, .ref b), (1, .ref (a 0)), (2, .ref h0), (3, .ref o), (4, .int (nI i))]) B dL_law_580 (by decide) rfl ?_
  refine z_aload_n B 4 dL_law_582 rfl rfl ?_
  refine z_callP (As := []) (st := []) (C := RX7) (T := TX7) (N := 30) (ci := 7) (l := l) B hl (c7_thrown l D g h0 am M') gL_law_X7_thrown rfl ⟨rfl, rfl⟩ nm_X7_thrown ⟨by decide, by decide⟩ (fun H hP => (z_sub hP (fun _ q hq => List.mem_append_left _ (List.mem_of_getElem? hq)))) 0 rfl rfl rfl (Nat.le_of_ble_eq_true rfl) dL_law_583 (Nat.le_of_add_right_le hk2) (Nat.le_of_add_right_le hn2) (fun r2 hr2 => ?_)
  refine z_top (y := κ) (hr2.trans hκ) ?_
  refine z_iload B 1 dL_law_586 rfl ?_
  refine z_icmp_eq B 593 dL_law_588 (by decide) (fun _ => ?_) (fun q => absurd rfl q)
  refine z_iload B 1 dL_law_593 rfl ?_
  have fin : zJ X 7 (zI1 D A (zs X)) Q (wM g h0 am M' ++ ((o, .inl (g.2.2.2, 1, .inr (.inl f'))) :: wC g a' C' (4 * cM C'))) (k + 3 + 0) (n + 18 + 0) [(6, .int r), (5, .int κ), (0, .ref b), (1, .ref (a 0)), (2, .ref h0), (3, .ref o), (4, .int (nI i))] 610 [] := by
    refine z_goto B 2506 dL_law_610 (by decide) ?_
    refine z_loc [2, 3, 4, 5, 6] (lv' := [(0, .ref b), (1, .ref (a 0)), (2, .ref h0), (3, .ref o), (4, .int (nI i))]) rfl ?_
    exact z_wid (by omega) (by omega) (kk M' C' f' a' hI' ha')
  refine z_if_ne B 610 dL_law_595 (by decide) (fun _ => fin) (fun hz => ?_)
  have hans := hans hz
  refine z_aload_n B 5 dL_law_598 rfl rfl ?_
  refine z_iconst (v := nI 0) B dL_law_599 (by decide) ?_
  refine z_lald (f := f') (i := 0) (a := o) B 24 3 rfl rfl (by decide) (by decide) dL_law_600 ?_
  refine z_topv (y := .long r.toInt64) (by rw [hans]) ?_
  refine z_iload B 0 dL_law_601 rfl ?_
  refine z_i2l B dL_law_603 ?_
  refine z_lcmp B dL_law_604 ?_
  refine z_top (y := nI 0) (lg_cmp_rfl _) ?_
  exact z_if_eq B 610 dL_law_605 (by decide) (fun _ => fin) (fun q => absurd rfl q)
set_option maxHeartbeats 4000000 in
set_option maxRecDepth 100000 in
theorem lo_copy {X : zX} {l : Launch} {D : va_G} {g : zG} {A : Nat → Prop} {Q : State → Prop} {b L o h0 a0 i k n : Nat} {xs : Nat → Int32} {am a : Nat → Nat} {M C : zMS} {f : Nat → Int64} (hLw : zLaw X l D g A b L xs) (h : INV M C) (ha : a 0 = a0) (hi : i + 5 ≤ L) (hk : k + 6 ≤ 601024) (hn : n + 419 ≤ 7293034) (kk : zKK X D g A Q b o h0 a0 i k n am) : zJ X 7 (zI1 D A (zs X)) Q (wLw g h0 am M o f a C) k n [(0, .ref b), (1, .ref a0), (2, .ref h0), (3, .ref o), (4, .int (nI i))] 613 [] := by
  obtain ⟨B, hLF, hX, hbl, hbA, hL, hl, hst⟩ := hLw
  have hr0 : (wC g a C (4 * cM C))[0]? = some (a0, .inr (6, [.ref (a 1), .ref (a 2), .ref (a 3), .ref (a 4), .ref (a 5), .int (C 0 0)])) := by rw [← ha]; rfl
  subst ha
  refine z_aload_n B 1 dL_law_613 rfl rfl ?_
  refine z_aload_n B 3 dL_law_614 rfl rfl ?_
  have hM0 := cl_X6_copy l D g a C hst h.2.1 (i_CJ h)
  have hw0 := fun hE => wr_copy l D g o (a 0) f (wC g a C (4 * cM C)) _ hr0  _ _ hE hM0
  have hk2 : k + 5 + 0 ≤ room_1.cells := by show k + 5 + 0 ≤ 601024; omega
  have hn2 : n + 413 + 0 ≤ room_1.slots := by show n + 413 + 0 ≤ 7293034; omega
  unfold wLw
  refine z_callW (As := [.ref (a 0), .ref o]) (st := []) (hh := [(0, 8, 11, 17)]) B hLF hl (hw0 (fun E w2 hx => hx.2.1)) gL_law_L_copy rfl ⟨rfl, rfl⟩ nm_L_copy ⟨by decide, by decide⟩ rfl (Nat.le_of_ble_eq_true rfl) dL_law_615 rfl rfl hk2 hn2 (fun κ w1 hW => ?_)
  refine z_istore (lv1 := [(5, .int κ), (0, .ref b), (1, .ref (a 0)), (2, .ref h0), (3, .ref o), (4, .int (nI i))]) B dL_law_618 (by decide) rfl ?_
  refine z_swap ?_
  refine z_aload_n B 3 dL_law_620 rfl rfl ?_
  refine z_callMf (As := []) (st := []) (C := RX7) (T := TX7) (N := 30) (ci := 7) (l := l) B hl (c7_copy l D g h0 am M h.1 ) gL_law_X7_copy rfl ⟨rfl, rfl⟩ nm_X7_copy ⟨by decide, by decide⟩ 0 rfl rfl rfl (Nat.le_of_ble_eq_true rfl) dL_law_621 rfl rfl hk2 hn2 (fun r w2 hr2 => ?_)
  obtain ⟨M', rfl, himp⟩ := hr2
  refine z_swap ?_
  obtain ⟨hκ, f', a', C', rfl, hans, hI', ha'⟩ := sim_copy h hW himp
  refine z_istore (lv1 := [(6, .int r), (5, .int κ), (0, .ref b), (1, .ref (a 0)), (2, .ref h0), (3, .ref o), (4, .int (nI i))]) B dL_law_624 (by decide) rfl ?_
  refine z_aload_n B 4 dL_law_626 rfl rfl ?_
  refine z_callP (As := []) (st := []) (C := RX7) (T := TX7) (N := 30) (ci := 7) (l := l) B hl (c7_thrown l D g h0 am M') gL_law_X7_thrown rfl ⟨rfl, rfl⟩ nm_X7_thrown ⟨by decide, by decide⟩ (fun H hP => (z_sub hP (fun _ q hq => List.mem_append_left _ (List.mem_of_getElem? hq)))) 0 rfl rfl rfl (Nat.le_of_ble_eq_true rfl) dL_law_627 (Nat.le_of_add_right_le hk2) (Nat.le_of_add_right_le hn2) (fun r2 hr2 => ?_)
  refine z_top (y := κ) (hr2.trans hκ) ?_
  refine z_iload B 1 dL_law_630 rfl ?_
  refine z_icmp_eq B 637 dL_law_632 (by decide) (fun _ => ?_) (fun q => absurd rfl q)
  refine z_iload B 1 dL_law_637 rfl ?_
  have fin : zJ X 7 (zI1 D A (zs X)) Q (wM g h0 am M' ++ ((o, .inl (g.2.2.2, 1, .inr (.inl f'))) :: wC g a' C' (4 * cM C'))) (k + 5 + 0) (n + 413 + 0) [(6, .int r), (5, .int κ), (0, .ref b), (1, .ref (a 0)), (2, .ref h0), (3, .ref o), (4, .int (nI i))] 654 [] := by
    refine z_goto B 2506 dL_law_654 (by decide) ?_
    refine z_loc [2, 3, 4, 5, 6] (lv' := [(0, .ref b), (1, .ref (a 0)), (2, .ref h0), (3, .ref o), (4, .int (nI i))]) rfl ?_
    exact z_wid (by omega) (by omega) (kk M' C' f' a' hI' ha')
  refine z_if_ne B 654 dL_law_639 (by decide) (fun _ => fin) (fun hz => ?_)
  have hans := hans hz
  refine z_aload_n B 5 dL_law_642 rfl rfl ?_
  refine z_iconst (v := nI 0) B dL_law_643 (by decide) ?_
  refine z_lald (f := f') (i := 0) (a := o) B 24 3 rfl rfl (by decide) (by decide) dL_law_644 ?_
  refine z_topv (y := .long r.toInt64) (by rw [hans]) ?_
  refine z_iload B 0 dL_law_645 rfl ?_
  refine z_i2l B dL_law_647 ?_
  refine z_lcmp B dL_law_648 ?_
  refine z_top (y := nI 0) (lg_cmp_rfl _) ?_
  exact z_if_eq B 654 dL_law_649 (by decide) (fun _ => fin) (fun q => absurd rfl q)
set_option maxHeartbeats 4000000 in
set_option maxRecDepth 100000 in
theorem lo_copyFrom {X : zX} {l : Launch} {D : va_G} {g : zG} {A : Nat → Prop} {Q : State → Prop} {b L o h0 a0 i k n : Nat} {xs : Nat → Int32} {am a : Nat → Nat} {M C : zMS} {f : Nat → Int64} (hLw : zLaw X l D g A b L xs) (h : INV M C) (ha : a 0 = a0) (hi : i + 5 ≤ L) (hk : k + 6 ≤ 601024) (hn : n + 419 ≤ 7293034) (kk : zKK X D g A Q b o h0 a0 i k n am) : zJ X 7 (zI1 D A (zs X)) Q (wLw g h0 am M o f a C) k n [(0, .ref b), (1, .ref a0), (2, .ref h0), (3, .ref o), (4, .int (nI i))] 657 [] := by
  obtain ⟨B, hLF, hX, hbl, hbA, hL, hl, hst⟩ := hLw
  have hr0 : (wC g a C (4 * cM C))[0]? = some (a0, .inr (6, [.ref (a 1), .ref (a 2), .ref (a 3), .ref (a 4), .ref (a 5), .int (C 0 0)])) := by rw [← ha]; rfl
  subst ha
  refine z_aload_n B 1 dL_law_657 rfl rfl ?_
  refine z_aload_n B 0 dL_law_658 rfl rfl ?_
  refine z_iload B 4 dL_law_659 rfl ?_
  refine z_iconst (v := nI 1) B dL_law_661 (by decide) ?_
  refine z_iaddN B dL_law_662 ?_
  refine z_sld B hX hbl hbA (j := i + 1) (by omega) hL dL_law_663 ?_
  refine z_aload_n B 3 dL_law_664 rfl rfl ?_
  have hM0 := cl_X6_copyFrom l D g a C hst h.2.1 (i_CJ h) (xs (i + 1))
  have hw0 := fun hE => wr_copyFrom l D g o (a 0) f (wC g a C (4 * cM C)) _ hr0 (xs (i + 1)) _ _ hE hM0
  have hk2 : k + 6 + 0 ≤ room_1.cells := by show k + 6 + 0 ≤ 601024; omega
  have hn2 : n + 419 + 0 ≤ room_1.slots := by show n + 419 + 0 ≤ 7293034; omega
  unfold wLw
  refine z_callW (As := [.ref (a 0), .int (xs (i + 1)), .ref o]) (st := []) (hh := [(0, 9, 12, 13), (0, 9, 15, 17)]) B hLF hl (hw0 (fun E w2 hx => (fun hx => hx.elim (fun q => Or.inl q.1) (fun q => Or.inr (q.1))) hx.2)) gL_law_L_copyFrom rfl ⟨rfl, rfl⟩ nm_L_copyFrom ⟨by decide, by decide⟩ rfl (Nat.le_of_ble_eq_true rfl) dL_law_665 rfl rfl hk2 hn2 (fun κ w1 hW => ?_)
  refine z_istore (lv1 := [(5, .int κ), (0, .ref b), (1, .ref (a 0)), (2, .ref h0), (3, .ref o), (4, .int (nI i))]) B dL_law_668 (by decide) rfl ?_
  refine z_swap ?_
  refine z_aload_n B 3 dL_law_670 rfl rfl ?_
  refine z_aload_n B 1 dL_law_671 rfl rfl ?_
  refine z_iload B 5 dL_law_672 rfl ?_
  refine z_iconst (v := nI 1) B dL_law_674 (by decide) ?_
  refine z_iaddN B dL_law_675 ?_
  refine z_sld B hX hbl hbA (j := i + 1) (by omega) hL dL_law_676 ?_
  refine z_callMf (As := [.int (xs (i + 1))]) (st := []) (C := RX7) (T := TX7) (N := 30) (ci := 7) (l := l) B hl (c7_copyFrom l D g h0 am M h.1 (i_MJ h) (xs (i + 1))) gL_law_X7_copyFrom rfl ⟨rfl, rfl⟩ nm_X7_copyFrom ⟨by decide, by decide⟩ 0 rfl rfl rfl (Nat.le_of_ble_eq_true rfl) dL_law_677 rfl rfl hk2 hn2 (fun r w2 hr2 => ?_)
  obtain ⟨M', rfl, himp⟩ := hr2
  refine z_swap ?_
  obtain ⟨hκ, f', a', C', rfl, hans, hI', ha'⟩ := sim_copyFrom h hW himp
  refine z_istore (lv1 := [(6, .int r), (5, .int κ), (0, .ref b), (1, .ref (a 0)), (2, .ref h0), (3, .ref o), (4, .int (nI i))]) B dL_law_680 (by decide) rfl ?_
  refine z_aload_n B 4 dL_law_682 rfl rfl ?_
  refine z_callP (As := []) (st := []) (C := RX7) (T := TX7) (N := 30) (ci := 7) (l := l) B hl (c7_thrown l D g h0 am M') gL_law_X7_thrown rfl ⟨rfl, rfl⟩ nm_X7_thrown ⟨by decide, by decide⟩ (fun H hP => (z_sub hP (fun _ q hq => List.mem_append_left _ (List.mem_of_getElem? hq)))) 0 rfl rfl rfl (Nat.le_of_ble_eq_true rfl) dL_law_683 (Nat.le_of_add_right_le hk2) (Nat.le_of_add_right_le hn2) (fun r2 hr2 => ?_)
  refine z_top (y := κ) (hr2.trans hκ) ?_
  refine z_iload B 1 dL_law_686 rfl ?_
  refine z_icmp_eq B 693 dL_law_688 (by decide) (fun _ => ?_) (fun q => absurd rfl q)
  refine z_iload B 1 dL_law_693 rfl ?_
  have fin : zJ X 7 (zI1 D A (zs X)) Q (wM g h0 am M' ++ ((o, .inl (g.2.2.2, 1, .inr (.inl f'))) :: wC g a' C' (4 * cM C'))) (k + 6 + 0) (n + 419 + 0) [(6, .int r), (5, .int κ), (0, .ref b), (1, .ref (a 0)), (2, .ref h0), (3, .ref o), (4, .int (nI i))] 710 [] := by
    refine z_goto B 2506 dL_law_710 (by decide) ?_
    refine z_loc [2, 3, 4, 5, 6] (lv' := [(0, .ref b), (1, .ref (a 0)), (2, .ref h0), (3, .ref o), (4, .int (nI i))]) rfl ?_
    exact z_wid (by omega) (by omega) (kk M' C' f' a' hI' ha')
  refine z_if_ne B 710 dL_law_695 (by decide) (fun _ => fin) (fun hz => ?_)
  have hans := hans hz
  refine z_aload_n B 5 dL_law_698 rfl rfl ?_
  refine z_iconst (v := nI 0) B dL_law_699 (by decide) ?_
  refine z_lald (f := f') (i := 0) (a := o) B 24 3 rfl rfl (by decide) (by decide) dL_law_700 ?_
  refine z_topv (y := .long r.toInt64) (by rw [hans]) ?_
  refine z_iload B 0 dL_law_701 rfl ?_
  refine z_i2l B dL_law_703 ?_
  refine z_lcmp B dL_law_704 ?_
  refine z_top (y := nI 0) (lg_cmp_rfl _) ?_
  exact z_if_eq B 710 dL_law_705 (by decide) (fun _ => fin) (fun q => absurd rfl q)
