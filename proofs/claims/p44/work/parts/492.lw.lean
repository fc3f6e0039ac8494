/-! the law's walk -/
set_option maxHeartbeats 4000000 in
set_option maxRecDepth 100000 in
theorem lw_out {X : zX} {l : Launch} {D : va_G} {g : zG} {A : Nat → Prop} {Q : State → Prop} {bs L : Nat} {xs : Nat → Int32} (hLw : zLaw X l D g A bs L xs) {nn a0 b0 : Nat} {a b : Nat → Nat} {C : zMS} {f : Nat → Int32} (ha : a 0 = a0) (hb : b 0 = b0) (hV : KV C) (hf0 : f 0 = nI (cM C)) (hf1 : f 1 = nI (cK C)) (final : ∀ (w : va_W) (k n : Nat) (lv : List (Nat × Value)), k ≤ room_1.cells → n ≤ room_1.slots → zJ X 10 (zI1 D A (zs X)) Q w k n lv 393 [.int (nI 1)]) (th : Nat) (hth : th ≤ 50) (i : Nat) (hi : i = th) (k n : Nat) (hk : k + 14640 ≤ room_1.cells) (hn : n + 87840 ≤ room_1.slots) : zJ X 10 (zI1 D A (zs X)) Q ([(nn, .inl (g.1, 3, .inl f))] ++ (wC g a C (4 * cM C) ++ wC g b C (4 * cM C))) k n [(0, .ref (bs)), (1, .ref (a0)), (2, .ref (b0)), (3, .ref (nn)), (4, .int (nI (th))), (5, .int (nI (1))), (6, .int (nI (i)))] 39 [] := by
  obtain ⟨B, hLF, hX, hbl, hbA, hL, hl, hst⟩ := id hLw
  refine z_iload B 6 dL_law_39 rfl ?_
  refine z_iload B 4 dL_law_41 rfl ?_
  refine z_icmpN_ge B 343 dL_law_43 (by decide) (by omega) (by omega) (fun _ => ?_) (fun q => absurd q (by omega))
  refine z_iload B 5 dL_law_343 rfl ?_
  refine z_if_eq B 392 dL_law_345 (by decide) (fun h => absurd h (by decide)) (fun _ => ?_)
  refine z_aload_n B 1 dL_law_348 rfl rfl ?_
  refine z_aload_n B 3 dL_law_349 rfl rfl ?_
  refine z_aload_n B 0 dL_law_350 rfl rfl ?_
  refine z_iconst (v := nI 0) B dL_law_351 (by decide) ?_
  refine z_callDr (As := [.ref (bs), .int (nI (0))]) (st := [.ref (nn), .ref (a0)]) B hl hX hbl hbA (c_drawn l D g bs L xs hL 0 (by omega)) gL_law_L_drawn rfl ⟨rfl, rfl⟩ nm_L_drawn ⟨by decide, by decide⟩ rfl (Nat.le_of_ble_eq_true rfl) dL_law_352 (show k ≤ room_1.cells by omega) (show n ≤ room_1.slots by omega) (fun r hr9 => ?_)
  obtain ⟨v352, hv352, rfl⟩ := hr9
  refine z_bipush (v := nI 27) B dL_law_355 (by decide) ?_
  refine z_idivN B (by omega) (by omega) (by omega) dL_law_357 ?_
  refine z_one ?_
  refine z_callL (As := [.ref (a0), .ref (nn), .int (nI (v352 / 27))]) (st := []) B hLF hl (c_holdsAll2 l D g a _ C f nn (v352 / 27) hst hV hf0 (by omega) ha) gL_law_L_holdsAll rfl ⟨rfl, rfl⟩ nm_L_holdsAll ⟨by decide, by decide⟩ rfl (Nat.le_of_ble_eq_true rfl) dL_law_358 (by omega) (by omega) (show k + 7184 ≤ room_1.cells by omega) (show n + 43104 ≤ room_1.slots by omega) (fun r w1 hpq => ?_)
  obtain ⟨rfl, rfl⟩ := hpq
  refine z_oneB ?_
  refine z_if_eq B 392 dL_law_361 (by decide) (fun h => absurd h (by decide)) (fun _ => ?_)
  refine z_aload_n B 1 dL_law_364 rfl rfl ?_
  refine z_aload_n B 3 dL_law_365 rfl rfl ?_
  refine z_one ?_
  refine z_callL (As := [.ref (a0), .ref (nn)]) (st := []) B hLF hl (c_ends2 l D g a _ C f nn hst hV hf0 ha) gL_law_L_ends rfl ⟨rfl, rfl⟩ nm_L_ends ⟨by decide, by decide⟩ rfl (Nat.le_of_ble_eq_true rfl) dL_law_366 (by omega) (by omega) (show k + 7456 ≤ room_1.cells by omega) (show n + 44736 ≤ room_1.slots by omega) (fun r w1 hpq => ?_)
  obtain ⟨rfl, C2, hV2, hm2, rfl⟩ := hpq
  refine z_oneB ?_
  refine z_if_eq B 392 dL_law_369 (by decide) (fun h => absurd h (by decide)) (fun _ => ?_)
  refine z_aload_n B 1 dL_law_372 rfl rfl ?_
  refine z_aload_n B 3 dL_law_373 rfl rfl ?_
  refine z_aload_n B 0 dL_law_374 rfl rfl ?_
  refine z_iconst (v := nI 0) B dL_law_375 (by decide) ?_
  refine z_callDr (As := [.ref (bs), .int (nI (0))]) (st := [.ref (nn), .ref (a0)]) B hl hX hbl hbA (c_drawn l D g bs L xs hL 0 (by omega)) gL_law_L_drawn rfl ⟨rfl, rfl⟩ nm_L_drawn ⟨by decide, by decide⟩ rfl (Nat.le_of_ble_eq_true rfl) dL_law_376 (show k + 7456 ≤ room_1.cells by omega) (show n + 44736 ≤ room_1.slots by omega) (fun r hr9 => ?_)
  obtain ⟨v376, hv376, rfl⟩ := hr9
  refine z_bipush (v := nI 29) B dL_law_379 (by decide) ?_
  refine z_idivN B (by omega) (by omega) (by omega) dL_law_381 ?_
  refine z_one ?_
  refine z_callL (As := [.ref (a0), .ref (nn), .int (nI (v376 / 29))]) (st := []) B hLF hl (c_holdsAll2 l D g a _ C2 f nn (v376 / 29) hst hV2 (hf0.trans (congrArg nI hm2.symm)) (by omega) ha) gL_law_L_holdsAll rfl ⟨rfl, rfl⟩ nm_L_holdsAll ⟨by decide, by decide⟩ rfl (Nat.le_of_ble_eq_true rfl) dL_law_382 (by omega) (by omega) (show k + 14640 ≤ room_1.cells by omega) (show n + 87840 ≤ room_1.slots by omega) (fun r w1 hpq => ?_)
  obtain ⟨rfl, rfl⟩ := hpq
  refine z_oneB ?_
  refine z_if_eq B 392 dL_law_385 (by decide) (fun h => absurd h (by decide)) (fun _ => ?_)
  refine z_iconst (v := nI 1) B dL_law_388 (by decide) ?_
  refine z_goto B 393 dL_law_389 (by decide) ?_
  exact final _ _ _ _ (by omega) (by omega)
set_option maxHeartbeats 4000000 in
set_option maxRecDepth 100000 in
theorem lw_330 {X : zX} {l : Launch} {D : va_G} {g : zG} {A : Nat → Prop} {Q : State → Prop} {bs L : Nat} {xs : Nat → Int32} (hLw : zLaw X l D g A bs L xs) {nn a0 b0 : Nat} {a b : Nat → Nat} {C : zMS} {f : Nat → Int32} (ha : a 0 = a0) (hb : b 0 = b0) (hV : KV C) (hf0 : f 0 = nI (cM C)) (hf1 : f 1 = nI (cK C)) (th : Nat) (hth : th ≤ 50) (i j : Nat) (hi : i < th) (hj : j < 2 ^ 31) (k n KB NB : Nat) (hKB : KB ≤ room_1.cells) (hNB : NB ≤ room_1.slots) (hk : k + 0 ≤ KB) (hn : n + 0 ≤ NB) (kk : ∀ (a2 b2 : Nat → Nat) (C2 : zMS) (f2 : Nat → Int32) (k2 n2 : Nat), k2 ≤ KB → n2 ≤ NB → a2 0 = a0 → b2 0 = b0 → KV C2 → f2 0 = nI (cM C2) → f2 1 = nI (cK C2) → zJ X 10 (zI1 D A (zs X)) Q ([(nn, .inl (g.1, 3, .inl f2))] ++ (wC g a2 C2 (4 * cM C2) ++ wC g b2 C2 (4 * cM C2))) k2 n2 [(0, .ref (bs)), (1, .ref (a0)), (2, .ref (b0)), (3, .ref (nn)), (4, .int (nI (th))), (5, .int (nI (1))), (6, .int (nI (i + 1)))] 39 []) : zJ X 10 (zI1 D A (zs X)) Q ([(nn, .inl (g.1, 3, .inl f))] ++ (wC g a C (4 * cM C) ++ wC g b C (4 * cM C))) k n [(0, .ref (bs)), (1, .ref (a0)), (2, .ref (b0)), (3, .ref (nn)), (4, .int (nI (th))), (5, .int (nI (1))), (6, .int (nI (i))), (7, .int (nI (j)))] 330 [] := by
  obtain ⟨B, hLF, hX, hbl, hbA, hL, hl, hst⟩ := id hLw
  refine z_iconst (v := nI 1) B dL_law_330 (by decide) ?_
  refine z_goto B 335 dL_law_331 (by decide) ?_
  refine z_istore (lv1 := [(5, .int (nI (1))), (0, .ref (bs)), (1, .ref (a0)), (2, .ref (b0)), (3, .ref (nn)), (4, .int (nI (th))), (6, .int (nI (i))), (7, .int (nI (j)))]) B dL_law_335 (by decide) rfl ?_
  refine z_iinc B 6 (lv1 := [(6, .int (nI (i + 1))), (5, .int (nI (1))), (0, .ref (bs)), (1, .ref (a0)), (2, .ref (b0)), (3, .ref (nn)), (4, .int (nI (th))), (7, .int (nI (j)))]) dL_law_337 rfl (nI_1 _) (by decide) rfl ?_
  refine z_goto B 39 dL_law_340 (by decide) ?_
  refine z_loc [2, 3, 4, 5, 6, 1, 0] (lv' := [(0, .ref (bs)), (1, .ref (a0)), (2, .ref (b0)), (3, .ref (nn)), (4, .int (nI (th))), (5, .int (nI (1))), (6, .int (nI (i + 1)))]) rfl ?_
  exact kk _ _ _ _ (k) (n) (by omega) (by omega) ha hb hV hf0 hf1
set_option maxHeartbeats 4000000 in
set_option maxRecDepth 100000 in
theorem lw_297 {X : zX} {l : Launch} {D : va_G} {g : zG} {A : Nat → Prop} {Q : State → Prop} {bs L : Nat} {xs : Nat → Int32} (hLw : zLaw X l D g A bs L xs) {nn a0 b0 : Nat} {a b : Nat → Nat} {C : zMS} {f : Nat → Int32} (ha : a 0 = a0) (hb : b 0 = b0) (hV : KV C) (hf0 : f 0 = nI (cM C)) (hf1 : f 1 = nI (cK C)) (th : Nat) (hth : th ≤ 50) (i j : Nat) (hi : i < th) (hj : j < 2 ^ 31) (k n KB NB : Nat) (hKB : KB ≤ room_1.cells) (hNB : NB ≤ room_1.slots) (hk : k + 8448 ≤ KB) (hn : n + 50688 ≤ NB) (kk : ∀ (a2 b2 : Nat → Nat) (C2 : zMS) (f2 : Nat → Int32) (k2 n2 : Nat), k2 ≤ KB → n2 ≤ NB → a2 0 = a0 → b2 0 = b0 → KV C2 → f2 0 = nI (cM C2) → f2 1 = nI (cK C2) → zJ X 10 (zI1 D A (zs X)) Q ([(nn, .inl (g.1, 3, .inl f2))] ++ (wC g a2 C2 (4 * cM C2) ++ wC g b2 C2 (4 * cM C2))) k2 n2 [(0, .ref (bs)), (1, .ref (a0)), (2, .ref (b0)), (3, .ref (nn)), (4, .int (nI (th))), (5, .int (nI (1))), (6, .int (nI (i + 1)))] 39 []) : zJ X 10 (zI1 D A (zs X)) Q ([(nn, .inl (g.1, 3, .inl f))] ++ (wC g a C (4 * cM C) ++ wC g b C (4 * cM C))) k n [(0, .ref (bs)), (1, .ref (a0)), (2, .ref (b0)), (3, .ref (nn)), (4, .int (nI (th))), (5, .int (nI (1))), (6, .int (nI (i))), (7, .int (nI (j)))] 297 [] := by
  obtain ⟨B, hLF, hX, hbl, hbA, hL, hl, hst⟩ := id hLw
  refine z_aload_n B 1 dL_law_297 rfl rfl ?_
  refine z_aload_n B 2 dL_law_298 rfl rfl ?_
  refine z_aload_n B 3 dL_law_299 rfl rfl ?_
  refine z_iload B 7 dL_law_300 rfl ?_
  refine z_iconst (v := nI 3) B dL_law_302 (by decide) ?_
  refine z_idivN B (by omega) (by omega) (by omega) dL_law_303 ?_
  refine z_w (w' := [] ++ ([(nn, .inl (g.1, 3, .inl f))] ++ (wC g a C (4 * cM C) ++ wC g b C (4 * cM C)))) rfl ?_
  refine z_callL (As := [.ref (a0), .ref (b0), .ref (nn), .int (nI (j / 3))]) (st := []) B hLF hl (c_alike2 l D g a b _ _ C f nn (j / 3) hst hV hf0 (by omega) ha hb) gL_law_L_alike rfl ⟨rfl, rfl⟩ nm_L_alike ⟨by decide, by decide⟩ rfl (Nat.le_of_ble_eq_true rfl) dL_law_304 (by omega) (by omega) (show k + 1264 ≤ room_1.cells by omega) (show n + 7584 ≤ room_1.slots by omega) (fun r w1 hpq => ?_)
  obtain ⟨rfl, rfl⟩ := hpq
  refine z_w (w' := [(nn, .inl (g.1, 3, .inl f))] ++ (wC g a C (4 * cM C) ++ wC g b C (4 * cM C))) rfl ?_
  refine z_if_eq B 334 dL_law_307 (by decide) (fun h => absurd h (by decide)) (fun _ => ?_)
  refine z_iload B 6 dL_law_310 rfl ?_
  refine z_iconst (v := nI 5) B dL_law_312 (by decide) ?_
  refine z_iremN B (by omega) (by omega) (by omega) dL_law_313 ?_
  refine z_ifN_gt B 330 dL_law_314 (by decide) (by omega) (fun c314 => ?_) (fun c314 => ?_)
  · refine z_loc [0, 1, 2, 3, 4, 5, 6, 7] (lv' := [(0, .ref (bs)), (1, .ref (a0)), (2, .ref (b0)), (3, .ref (nn)), (4, .int (nI (th))), (5, .int (nI (1))), (6, .int (nI (i))), (7, .int (nI (j)))]) rfl ?_
    exact lw_330 hLw ha hb hV hf0 hf1 th hth i j hi hj (k + 1264) (n + 7584) KB NB hKB hNB (by omega) (by omega) kk
  · refine z_aload_n B 2 dL_law_317 rfl rfl ?_
    refine z_aload_n B 3 dL_law_318 rfl rfl ?_
    refine z_iload B 7 dL_law_319 rfl ?_
    refine z_bipush (v := nI 7) B dL_law_321 (by decide) ?_
    refine z_idivN B (by omega) (by omega) (by omega) dL_law_323 ?_
    refine z_two ?_
    refine z_callL (As := [.ref (b0), .ref (nn), .int (nI (j / 7))]) (st := []) B hLF hl (c_holdsAll2 l D g b _ C f nn (j / 7) hst hV hf0 (by omega) hb) gL_law_L_holdsAll rfl ⟨rfl, rfl⟩ nm_L_holdsAll ⟨by decide, by decide⟩ rfl (Nat.le_of_ble_eq_true rfl) dL_law_324 (by omega) (by omega) (show k + 8448 ≤ room_1.cells by omega) (show n + 50688 ≤ room_1.slots by omega) (fun r w1 hpq => ?_)
    obtain ⟨rfl, rfl⟩ := hpq
    refine z_twoB ?_
    refine z_if_eq B 334 dL_law_327 (by decide) (fun h => absurd h (by decide)) (fun _ => ?_)
    refine z_loc [0, 1, 2, 3, 4, 5, 6, 7] (lv' := [(0, .ref (bs)), (1, .ref (a0)), (2, .ref (b0)), (3, .ref (nn)), (4, .int (nI (th))), (5, .int (nI (1))), (6, .int (nI (i))), (7, .int (nI (j)))]) rfl ?_
    exact lw_330 hLw ha hb hV hf0 hf1 th hth i j hi hj (k + 8448) (n + 50688) KB NB hKB hNB (by omega) (by omega) kk
set_option maxHeartbeats 4000000 in
set_option maxRecDepth 100000 in
theorem lw_271 {X : zX} {l : Launch} {D : va_G} {g : zG} {A : Nat → Prop} {Q : State → Prop} {bs L : Nat} {xs : Nat → Int32} (hLw : zLaw X l D g A bs L xs) {nn a0 b0 : Nat} {a b : Nat → Nat} {C : zMS} {f : Nat → Int32} (ha : a 0 = a0) (hb : b 0 = b0) (hV : KV C) (hf0 : f 0 = nI (cM C)) (hf1 : f 1 = nI (cK C)) (th : Nat) (hth : th ≤ 50) (i j : Nat) (hi : i < th) (hj : j < 2 ^ 31) (k n KB NB : Nat) (hKB : KB ≤ room_1.cells) (hNB : NB ≤ room_1.slots) (hk : k + 8726 ≤ KB) (hn : n + 53505 ≤ NB) (kk : ∀ (a2 b2 : Nat → Nat) (C2 : zMS) (f2 : Nat → Int32) (k2 n2 : Nat), k2 ≤ KB → n2 ≤ NB → a2 0 = a0 → b2 0 = b0 → KV C2 → f2 0 = nI (cM C2) → f2 1 = nI (cK C2) → zJ X 10 (zI1 D A (zs X)) Q ([(nn, .inl (g.1, 3, .inl f2))] ++ (wC g a2 C2 (4 * cM C2) ++ wC g b2 C2 (4 * cM C2))) k2 n2 [(0, .ref (bs)), (1, .ref (a0)), (2, .ref (b0)), (3, .ref (nn)), (4, .int (nI (th))), (5, .int (nI (1))), (6, .int (nI (i + 1)))] 39 []) : zJ X 10 (zI1 D A (zs X)) Q ([(nn, .inl (g.1, 3, .inl f))] ++ (wC g a C (4 * cM C) ++ wC g b C (4 * cM C))) k n [(0, .ref (bs)), (1, .ref (a0)), (2, .ref (b0)), (3, .ref (nn)), (4, .int (nI (th))), (5, .int (nI (1))), (6, .int (nI (i))), (7, .int (nI (j)))] 271 [] := by
  obtain ⟨B, hLF, hX, hbl, hbA, hL, hl, hst⟩ := id hLw
  refine z_iload B 5 dL_law_271 rfl ?_
  refine z_if_eq B 334 dL_law_273 (by decide) (fun h => absurd h (by decide)) (fun _ => ?_)
  refine z_iload B 6 dL_law_276 rfl ?_
  refine z_iconst (v := nI 3) B dL_law_278 (by decide) ?_
  refine z_iremN B (by omega) (by omega) (by omega) dL_law_279 ?_
  refine z_ifN_gt B 297 dL_law_280 (by decide) (by omega) (fun c280 => ?_) (fun c280 => ?_)
  · refine z_loc [0, 1, 2, 3, 4, 5, 6, 7] (lv' := [(0, .ref (bs)), (1, .ref (a0)), (2, .ref (b0)), (3, .ref (nn)), (4, .int (nI (th))), (5, .int (nI (1))), (6, .int (nI (i))), (7, .int (nI (j)))]) rfl ?_
    exact lw_297 hLw ha hb hV hf0 hf1 th hth i j hi hj (k) (n) KB NB hKB hNB (by omega) (by omega) kk
  · refine z_aload_n B 2 dL_law_283 rfl rfl ?_
    refine z_aload_n B 3 dL_law_284 rfl rfl ?_
    refine z_iload B 7 dL_law_285 rfl ?_
    refine z_sipush (v := nI 499) B dL_law_287 (by decide) ?_
    refine z_iremN B (by omega) (by omega) (by omega) dL_law_290 ?_
    refine z_two ?_
    refine z_callL (As := [.ref (b0), .ref (nn), .int (nI (j % 499))]) (st := []) B hLF hl (c_refuses2 l D g b _ C f nn (j % 499) hst hV hf0 hf1 (by omega) hb) gL_law_L_refuses rfl ⟨rfl, rfl⟩ nm_L_refuses ⟨by decide, by decide⟩ rfl (Nat.le_of_ble_eq_true rfl) dL_law_291 (by omega) (by omega) (show k + 278 ≤ room_1.cells by omega) (show n + 2817 ≤ room_1.slots by omega) (fun r w1 hpq => ?_)
    obtain ⟨rfl, rfl⟩ := hpq
    refine z_twoB ?_
    refine z_if_eq B 334 dL_law_294 (by decide) (fun h => absurd h (by decide)) (fun _ => ?_)
    refine z_loc [0, 1, 2, 3, 4, 5, 6, 7] (lv' := [(0, .ref (bs)), (1, .ref (a0)), (2, .ref (b0)), (3, .ref (nn)), (4, .int (nI (th))), (5, .int (nI (1))), (6, .int (nI (i))), (7, .int (nI (j)))]) rfl ?_
    exact lw_297 hLw ha hb hV hf0 hf1 th hth i j hi hj (k + 278) (n + 2817) KB NB hKB hNB (by omega) (by omega) kk
set_option maxHeartbeats 4000000 in
set_option maxRecDepth 100000 in
theorem lw_270 {X : zX} {l : Launch} {D : va_G} {g : zG} {A : Nat → Prop} {Q : State → Prop} {bs L : Nat} {xs : Nat → Int32} (hLw : zLaw X l D g A bs L xs) {nn a0 b0 : Nat} {a b : Nat → Nat} {q : Int32 × zMS} {f : Nat → Int32} (ha : a 0 = a0) (hb : b 0 = b0) (hVq : KV q.2) (hf0 : f 0 = nI (cM q.2)) (hf1 : f 1 = nI (cK q.2)) (th : Nat) (hth : th ≤ 50) (i j : Nat) (hi : i < th) (hj : j < 2 ^ 31) (kd : Nat) (hkd : kd < 32) (v : Int32) (k n KB NB : Nat) (hKB : KB ≤ room_1.cells) (hNB : NB ≤ room_1.slots) (hk : k + 8726 ≤ KB) (hn : n + 53505 ≤ NB) (kk : ∀ (a2 b2 : Nat → Nat) (C2 : zMS) (f2 : Nat → Int32) (k2 n2 : Nat), k2 ≤ KB → n2 ≤ NB → a2 0 = a0 → b2 0 = b0 → KV C2 → f2 0 = nI (cM C2) → f2 1 = nI (cK C2) → zJ X 10 (zI1 D A (zs X)) Q ([(nn, .inl (g.1, 3, .inl f2))] ++ (wC g a2 C2 (4 * cM C2) ++ wC g b2 C2 (4 * cM C2))) k2 n2 [(0, .ref (bs)), (1, .ref (a0)), (2, .ref (b0)), (3, .ref (nn)), (4, .int (nI (th))), (5, .int (nI (1))), (6, .int (nI (i + 1)))] 39 []) : zJ X 10 (zI1 D A (zs X)) Q ([(nn, .inl (g.1, 3, .inl f))] ++ (wC g a q.2 (4 * cM q.2) ++ wC g b q.2 (4 * cM q.2))) k n [(0, .ref (bs)), (1, .ref (a0)), (2, .ref (b0)), (3, .ref (nn)), (4, .int (nI (th))), (5, .int (nI (1))), (6, .int (nI (i))), (7, .int (nI (j))), (8, .int (nI (kd))), (9, .int (q.1))] 270 [.int (v), .int (nI (2)), .ref (nn)] := by
  obtain ⟨B, hLF, hX, hbl, hbA, hL, hl, hst⟩ := id hLw
  refine z_iast (g := f) (i := 2) (w' := [(nn, .inl (g.1, 3, .inl (upd f 2 v)))] ++ (wC g a q.2 (4 * cM q.2) ++ wC g b q.2 (4 * cM q.2))) B 0 0 rfl rfl (by omega) (by decide) dL_law_270 rfl ?_
  refine z_loc [0, 1, 2, 3, 4, 5, 6, 7] (lv' := [(0, .ref (bs)), (1, .ref (a0)), (2, .ref (b0)), (3, .ref (nn)), (4, .int (nI (th))), (5, .int (nI (1))), (6, .int (nI (i))), (7, .int (nI (j)))]) rfl ?_
  exact lw_271 hLw ha hb hVq (show (upd f 2 v) 0 = _ from (pk_un (by omega)).trans hf0) (show (upd f 2 v) 1 = _ from (pk_un (by omega)).trans hf1) th hth i j hi hj (k) (n) KB NB hKB hNB (by omega) (by omega) kk
set_option maxHeartbeats 4000000 in
set_option maxRecDepth 100000 in
theorem lw_241 {X : zX} {l : Launch} {D : va_G} {g : zG} {A : Nat → Prop} {Q : State → Prop} {bs L : Nat} {xs : Nat → Int32} (hLw : zLaw X l D g A bs L xs) {nn a0 b0 : Nat} {a b : Nat → Nat} {q : Int32 × zMS} {f : Nat → Int32} (ha : a 0 = a0) (hb : b 0 = b0) (hVq : KV q.2) (hf0 : f 0 = nI (cM q.2)) (hf1 : f 1 = nI (cK q.2)) (th : Nat) (hth : th ≤ 50) (i j : Nat) (hi : i < th) (hj : j < 2 ^ 31) (kd : Nat) (hkd : kd < 32) (k n KB NB : Nat) (hKB : KB ≤ room_1.cells) (hNB : NB ≤ room_1.slots) (hk : k + 8726 ≤ KB) (hn : n + 53505 ≤ NB) (kk : ∀ (a2 b2 : Nat → Nat) (C2 : zMS) (f2 : Nat → Int32) (k2 n2 : Nat), k2 ≤ KB → n2 ≤ NB → a2 0 = a0 → b2 0 = b0 → KV C2 → f2 0 = nI (cM C2) → f2 1 = nI (cK C2) → zJ X 10 (zI1 D A (zs X)) Q ([(nn, .inl (g.1, 3, .inl f2))] ++ (wC g a2 C2 (4 * cM C2) ++ wC g b2 C2 (4 * cM C2))) k2 n2 [(0, .ref (bs)), (1, .ref (a0)), (2, .ref (b0)), (3, .ref (nn)), (4, .int (nI (th))), (5, .int (nI (1))), (6, .int (nI (i + 1)))] 39 []) : zJ X 10 (zI1 D A (zs X)) Q ([(nn, .inl (g.1, 3, .inl f))] ++ (wC g a q.2 (4 * cM q.2) ++ wC g b q.2 (4 * cM q.2))) k n [(0, .ref (bs)), (1, .ref (a0)), (2, .ref (b0)), (3, .ref (nn)), (4, .int (nI (th))), (5, .int (nI (1))), (6, .int (nI (i))), (7, .int (nI (j))), (8, .int (nI (kd))), (9, .int (q.1))] 241 [] := by
  obtain ⟨B, hLF, hX, hbl, hbA, hL, hl, hst⟩ := id hLw
  refine z_aload_n B 3 dL_law_241 rfl rfl ?_
  refine z_iconst (v := nI 2) B dL_law_242 (by decide) ?_
  refine z_dup2 B dL_law_243 rfl rfl ?_
  refine z_iald (g := f) (i := 2) B 0 0 rfl rfl (by omega) (by decide) dL_law_244 ?_
  refine z_iload B 8 dL_law_245 rfl ?_
  refine z_bipush (v := nI 24) B dL_law_247 (by decide) ?_
  refine z_icmpN_le B 268 dL_law_249 (by decide) (by omega) (by omega) (fun c249 => ?_) (fun c249 => ?_)
  · refine z_iconst (v := nI 0) B dL_law_268 (by decide) ?_
    refine z_iadd B dL_law_269 ?_
    refine z_loc [0, 1, 2, 3, 4, 5, 6, 7, 8, 9] (lv' := [(0, .ref (bs)), (1, .ref (a0)), (2, .ref (b0)), (3, .ref (nn)), (4, .int (nI (th))), (5, .int (nI (1))), (6, .int (nI (i))), (7, .int (nI (j))), (8, .int (nI (kd))), (9, .int (q.1))]) rfl ?_
    exact lw_270 hLw ha hb hVq hf0 hf1 th hth i j hi hj kd hkd ((f 2) + (nI (0))) (k) (n) KB NB hKB hNB (by omega) (by omega) kk
  · refine z_iload B 8 dL_law_252 rfl ?_
    refine z_bipush (v := nI 27) B dL_law_254 (by decide) ?_
    refine z_icmpN_ge B 268 dL_law_256 (by decide) (by omega) (by omega) (fun c256 => ?_) (fun c256 => ?_)
    · refine z_iconst (v := nI 0) B dL_law_268 (by decide) ?_
      refine z_iadd B dL_law_269 ?_
      refine z_loc [0, 1, 2, 3, 4, 5, 6, 7, 8, 9] (lv' := [(0, .ref (bs)), (1, .ref (a0)), (2, .ref (b0)), (3, .ref (nn)), (4, .int (nI (th))), (5, .int (nI (1))), (6, .int (nI (i))), (7, .int (nI (j))), (8, .int (nI (kd))), (9, .int (q.1))]) rfl ?_
      exact lw_270 hLw ha hb hVq hf0 hf1 th hth i j hi hj kd hkd ((f 2) + (nI (0))) (k) (n) KB NB hKB hNB (by omega) (by omega) kk
    · refine z_iload B 9 dL_law_259 rfl ?_
      refine z_if_lt B 268 dL_law_261 (by decide) (fun c261 => ?_) (fun c261 => ?_)
      · refine z_iconst (v := nI 0) B dL_law_268 (by decide) ?_
        refine z_iadd B dL_law_269 ?_
        refine z_loc [0, 1, 2, 3, 4, 5, 6, 7, 8, 9] (lv' := [(0, .ref (bs)), (1, .ref (a0)), (2, .ref (b0)), (3, .ref (nn)), (4, .int (nI (th))), (5, .int (nI (1))), (6, .int (nI (i))), (7, .int (nI (j))), (8, .int (nI (kd))), (9, .int (q.1))]) rfl ?_
        exact lw_270 hLw ha hb hVq hf0 hf1 th hth i j hi hj kd hkd ((f 2) + (nI (0))) (k) (n) KB NB hKB hNB (by omega) (by omega) kk
      · refine z_iconst (v := nI 1) B dL_law_264 (by decide) ?_
        refine z_goto B 269 dL_law_265 (by decide) ?_
        refine z_iadd B dL_law_269 ?_
        refine z_loc [0, 1, 2, 3, 4, 5, 6, 7, 8, 9] (lv' := [(0, .ref (bs)), (1, .ref (a0)), (2, .ref (b0)), (3, .ref (nn)), (4, .int (nI (th))), (5, .int (nI (1))), (6, .int (nI (i))), (7, .int (nI (j))), (8, .int (nI (kd))), (9, .int (q.1))]) rfl ?_
        exact lw_270 hLw ha hb hVq hf0 hf1 th hth i j hi hj kd hkd ((f 2) + (nI (1))) (k) (n) KB NB hKB hNB (by omega) (by omega) kk
set_option maxHeartbeats 4000000 in
set_option maxRecDepth 100000 in
theorem lw_240 {X : zX} {l : Launch} {D : va_G} {g : zG} {A : Nat → Prop} {Q : State → Prop} {bs L : Nat} {xs : Nat → Int32} (hLw : zLaw X l D g A bs L xs) {nn a0 b0 : Nat} {a b : Nat → Nat} {q : Int32 × zMS} {f : Nat → Int32} (ha : a 0 = a0) (hb : b 0 = b0) (hVq : KV q.2) (hf0 : f 0 = nI (cM q.2)) (th : Nat) (hth : th ≤ 50) (i j : Nat) (hi : i < th) (hj : j < 2 ^ 31) (kd : Nat) (hkd : kd < 32) (k n KB NB : Nat) (hKB : KB ≤ room_1.cells) (hNB : NB ≤ room_1.slots) (hk : k + 8726 ≤ KB) (hn : n + 53505 ≤ NB) (kk : ∀ (a2 b2 : Nat → Nat) (C2 : zMS) (f2 : Nat → Int32) (k2 n2 : Nat), k2 ≤ KB → n2 ≤ NB → a2 0 = a0 → b2 0 = b0 → KV C2 → f2 0 = nI (cM C2) → f2 1 = nI (cK C2) → zJ X 10 (zI1 D A (zs X)) Q ([(nn, .inl (g.1, 3, .inl f2))] ++ (wC g a2 C2 (4 * cM C2) ++ wC g b2 C2 (4 * cM C2))) k2 n2 [(0, .ref (bs)), (1, .ref (a0)), (2, .ref (b0)), (3, .ref (nn)), (4, .int (nI (th))), (5, .int (nI (1))), (6, .int (nI (i + 1)))] 39 []) : zJ X 10 (zI1 D A (zs X)) Q ([(nn, .inl (g.1, 3, .inl f))] ++ (wC g a q.2 (4 * cM q.2) ++ wC g b q.2 (4 * cM q.2))) k n [(0, .ref (bs)), (1, .ref (a0)), (2, .ref (b0)), (3, .ref (nn)), (4, .int (nI (th))), (5, .int (nI (1))), (6, .int (nI (i))), (7, .int (nI (j))), (8, .int (nI (kd))), (9, .int (q.1))] 240 [.int (nI (cK q.2)), .int (nI (1)), .ref (nn)] := by
  obtain ⟨B, hLF, hX, hbl, hbA, hL, hl, hst⟩ := id hLw
  refine z_iast (g := f) (i := 1) (w' := [(nn, .inl (g.1, 3, .inl (upd f 1 (nI (cK q.2)))))] ++ (wC g a q.2 (4 * cM q.2) ++ wC g b q.2 (4 * cM q.2))) B 0 0 rfl rfl (by omega) (by decide) dL_law_240 rfl ?_
  refine z_loc [0, 1, 2, 3, 4, 5, 6, 7, 8, 9] (lv' := [(0, .ref (bs)), (1, .ref (a0)), (2, .ref (b0)), (3, .ref (nn)), (4, .int (nI (th))), (5, .int (nI (1))), (6, .int (nI (i))), (7, .int (nI (j))), (8, .int (nI (kd))), (9, .int (q.1))]) rfl ?_
  exact lw_241 hLw ha hb hVq (show (upd f 1 (nI (cK q.2))) 0 = _ from (pk_un (by omega)).trans hf0) (show (upd f 1 (nI (cK q.2))) 1 = _ from pk_us) th hth i j hi hj kd hkd (k) (n) KB NB hKB hNB (by omega) (by omega) kk
set_option maxHeartbeats 4000000 in
set_option maxRecDepth 100000 in
theorem lw_218 {X : zX} {l : Launch} {D : va_G} {g : zG} {A : Nat → Prop} {Q : State → Prop} {bs L : Nat} {xs : Nat → Int32} (hLw : zLaw X l D g A bs L xs) {nn a0 b0 : Nat} {a b : Nat → Nat} {C : zMS} {q : Int32 × zMS} {f : Nat → Int32} (ha : a 0 = a0) (hb : b 0 = b0) (hVq : KV q.2) (hf0 : f 0 = nI (cM q.2)) (hf1 : f 1 = nI (cK C)) (th : Nat) (hth : th ≤ 50) (i j : Nat) (hi : i < th) (hj : j < 2 ^ 31) (kd : Nat) (hkd : kd < 32) (hq : acMP C kd q) (k n KB NB : Nat) (hKB : KB ≤ room_1.cells) (hNB : NB ≤ room_1.slots) (hk : k + 8726 ≤ KB) (hn : n + 53505 ≤ NB) (kk : ∀ (a2 b2 : Nat → Nat) (C2 : zMS) (f2 : Nat → Int32) (k2 n2 : Nat), k2 ≤ KB → n2 ≤ NB → a2 0 = a0 → b2 0 = b0 → KV C2 → f2 0 = nI (cM C2) → f2 1 = nI (cK C2) → zJ X 10 (zI1 D A (zs X)) Q ([(nn, .inl (g.1, 3, .inl f2))] ++ (wC g a2 C2 (4 * cM C2) ++ wC g b2 C2 (4 * cM C2))) k2 n2 [(0, .ref (bs)), (1, .ref (a0)), (2, .ref (b0)), (3, .ref (nn)), (4, .int (nI (th))), (5, .int (nI (1))), (6, .int (nI (i + 1)))] 39 []) : zJ X 10 (zI1 D A (zs X)) Q ([(nn, .inl (g.1, 3, .inl f))] ++ (wC g a q.2 (4 * cM q.2) ++ wC g b q.2 (4 * cM q.2))) k n [(0, .ref (bs)), (1, .ref (a0)), (2, .ref (b0)), (3, .ref (nn)), (4, .int (nI (th))), (5, .int (nI (1))), (6, .int (nI (i))), (7, .int (nI (j))), (8, .int (nI (kd))), (9, .int (q.1))] 218 [] := by
  obtain ⟨B, hLF, hX, hbl, hbA, hL, hl, hst⟩ := id hLw
  refine z_aload_n B 3 dL_law_218 rfl rfl ?_
  refine z_iconst (v := nI 1) B dL_law_219 (by decide) ?_
  refine z_dup2 B dL_law_220 rfl rfl ?_
  refine z_iald (g := f) (i := 1) B 0 0 rfl rfl (by omega) (by decide) dL_law_221 ?_
  refine z_top (y := nI (cK C)) hf1 ?_
  refine z_iload B 8 dL_law_222 rfl ?_
  refine z_bipush (v := nI 23) B dL_law_224 (by decide) ?_
  refine z_icmpN_ne B 238 dL_law_226 (by decide) (by omega) (by omega) (fun c226 => ?_) (fun c226 => ?_)
  · refine z_iconst (v := nI 0) B dL_law_238 (by decide) ?_
    refine z_iaddN B dL_law_239 ?_
    refine z_loc [0, 1, 2, 3, 4, 5, 6, 7, 8, 9] (lv' := [(0, .ref (bs)), (1, .ref (a0)), (2, .ref (b0)), (3, .ref (nn)), (4, .int (nI (th))), (5, .int (nI (1))), (6, .int (nI (i))), (7, .int (nI (j))), (8, .int (nI (kd))), (9, .int (q.1))]) rfl ?_
    refine z_top (y := nI (cK q.2)) (by rw [hq.2, if_neg (fun z => c226 z.1)]) ?_
    exact lw_240 hLw ha hb hVq hf0 th hth i j hi hj kd hkd (k) (n) KB NB hKB hNB (by omega) (by omega) kk
  · refine z_iload B 9 dL_law_229 rfl ?_
    refine z_if_lt B 238 dL_law_231 (by decide) (fun c231 => ?_) (fun c231 => ?_)
    · refine z_iconst (v := nI 0) B dL_law_238 (by decide) ?_
      refine z_iaddN B dL_law_239 ?_
      refine z_loc [0, 1, 2, 3, 4, 5, 6, 7, 8, 9] (lv' := [(0, .ref (bs)), (1, .ref (a0)), (2, .ref (b0)), (3, .ref (nn)), (4, .int (nI (th))), (5, .int (nI (1))), (6, .int (nI (i))), (7, .int (nI (j))), (8, .int (nI (kd))), (9, .int (q.1))]) rfl ?_
      refine z_top (y := nI (cK q.2)) (by rw [hq.2, if_neg (fun z => absurd c231 (Int32.not_lt.mpr z.2))]) ?_
      exact lw_240 hLw ha hb hVq hf0 th hth i j hi hj kd hkd (k) (n) KB NB hKB hNB (by omega) (by omega) kk
    · refine z_iconst (v := nI 1) B dL_law_234 (by decide) ?_
      refine z_goto B 239 dL_law_235 (by decide) ?_
      refine z_iaddN B dL_law_239 ?_
      refine z_loc [0, 1, 2, 3, 4, 5, 6, 7, 8, 9] (lv' := [(0, .ref (bs)), (1, .ref (a0)), (2, .ref (b0)), (3, .ref (nn)), (4, .int (nI (th))), (5, .int (nI (1))), (6, .int (nI (i))), (7, .int (nI (j))), (8, .int (nI (kd))), (9, .int (q.1))]) rfl ?_
      refine z_top (y := nI (cK q.2)) (by rw [hq.2, if_pos ⟨c226, Int32.not_lt.mp c231⟩]) ?_
      exact lw_240 hLw ha hb hVq hf0 th hth i j hi hj kd hkd (k) (n) KB NB hKB hNB (by omega) (by omega) kk
set_option maxHeartbeats 4000000 in
set_option maxRecDepth 100000 in
theorem lw_217 {X : zX} {l : Launch} {D : va_G} {g : zG} {A : Nat → Prop} {Q : State → Prop} {bs L : Nat} {xs : Nat → Int32} (hLw : zLaw X l D g A bs L xs) {nn a0 b0 : Nat} {a b : Nat → Nat} {C : zMS} {q : Int32 × zMS} {f : Nat → Int32} (ha : a 0 = a0) (hb : b 0 = b0) (hVq : KV q.2) (hf1 : f 1 = nI (cK C)) (th : Nat) (hth : th ≤ 50) (i j : Nat) (hi : i < th) (hj : j < 2 ^ 31) (kd : Nat) (hkd : kd < 32) (hq : acMP C kd q) (k n KB NB : Nat) (hKB : KB ≤ room_1.cells) (hNB : NB ≤ room_1.slots) (hk : k + 8726 ≤ KB) (hn : n + 53505 ≤ NB) (kk : ∀ (a2 b2 : Nat → Nat) (C2 : zMS) (f2 : Nat → Int32) (k2 n2 : Nat), k2 ≤ KB → n2 ≤ NB → a2 0 = a0 → b2 0 = b0 → KV C2 → f2 0 = nI (cM C2) → f2 1 = nI (cK C2) → zJ X 10 (zI1 D A (zs X)) Q ([(nn, .inl (g.1, 3, .inl f2))] ++ (wC g a2 C2 (4 * cM C2) ++ wC g b2 C2 (4 * cM C2))) k2 n2 [(0, .ref (bs)), (1, .ref (a0)), (2, .ref (b0)), (3, .ref (nn)), (4, .int (nI (th))), (5, .int (nI (1))), (6, .int (nI (i + 1)))] 39 []) : zJ X 10 (zI1 D A (zs X)) Q ([(nn, .inl (g.1, 3, .inl f))] ++ (wC g a q.2 (4 * cM q.2) ++ wC g b q.2 (4 * cM q.2))) k n [(0, .ref (bs)), (1, .ref (a0)), (2, .ref (b0)), (3, .ref (nn)), (4, .int (nI (th))), (5, .int (nI (1))), (6, .int (nI (i))), (7, .int (nI (j))), (8, .int (nI (kd))), (9, .int (q.1))] 217 [.int (nI (cM q.2)), .int (nI (0)), .ref (nn)] := by
  obtain ⟨B, hLF, hX, hbl, hbA, hL, hl, hst⟩ := id hLw
  refine z_iast (g := f) (i := 0) (w' := [(nn, .inl (g.1, 3, .inl (upd f 0 (nI (cM q.2)))))] ++ (wC g a q.2 (4 * cM q.2) ++ wC g b q.2 (4 * cM q.2))) B 0 0 rfl rfl (by omega) (by decide) dL_law_217 rfl ?_
  refine z_loc [0, 1, 2, 3, 4, 5, 6, 7, 8, 9] (lv' := [(0, .ref (bs)), (1, .ref (a0)), (2, .ref (b0)), (3, .ref (nn)), (4, .int (nI (th))), (5, .int (nI (1))), (6, .int (nI (i))), (7, .int (nI (j))), (8, .int (nI (kd))), (9, .int (q.1))]) rfl ?_
  exact lw_218 hLw ha hb hVq (show (upd f 0 (nI (cM q.2))) 0 = _ from pk_us) (show (upd f 0 (nI (cM q.2))) 1 = _ from (pk_un (by omega)).trans hf1) th hth i j hi hj kd hkd hq (k) (n) KB NB hKB hNB (by omega) (by omega) kk
set_option maxHeartbeats 4000000 in
set_option maxRecDepth 100000 in
theorem lw_188 {X : zX} {l : Launch} {D : va_G} {g : zG} {A : Nat → Prop} {Q : State → Prop} {bs L : Nat} {xs : Nat → Int32} (hLw : zLaw X l D g A bs L xs) {nn a0 b0 : Nat} {a b : Nat → Nat} {C : zMS} {q : Int32 × zMS} {f : Nat → Int32} (ha : a 0 = a0) (hb : b 0 = b0) (hVq : KV q.2) (hf0 : f 0 = nI (cM C)) (hf1 : f 1 = nI (cK C)) (th : Nat) (hth : th ≤ 50) (i j : Nat) (hi : i < th) (hj : j < 2 ^ 31) (kd : Nat) (hkd : kd < 32) (hq : acMP C kd q) (k n KB NB : Nat) (hKB : KB ≤ room_1.cells) (hNB : NB ≤ room_1.slots) (hk : k + 8726 ≤ KB) (hn : n + 53505 ≤ NB) (kk : ∀ (a2 b2 : Nat → Nat) (C2 : zMS) (f2 : Nat → Int32) (k2 n2 : Nat), k2 ≤ KB → n2 ≤ NB → a2 0 = a0 → b2 0 = b0 → KV C2 → f2 0 = nI (cM C2) → f2 1 = nI (cK C2) → zJ X 10 (zI1 D A (zs X)) Q ([(nn, .inl (g.1, 3, .inl f2))] ++ (wC g a2 C2 (4 * cM C2) ++ wC g b2 C2 (4 * cM C2))) k2 n2 [(0, .ref (bs)), (1, .ref (a0)), (2, .ref (b0)), (3, .ref (nn)), (4, .int (nI (th))), (5, .int (nI (1))), (6, .int (nI (i + 1)))] 39 []) : zJ X 10 (zI1 D A (zs X)) Q ([(nn, .inl (g.1, 3, .inl f))] ++ (wC g a q.2 (4 * cM q.2) ++ wC g b q.2 (4 * cM q.2))) k n [(0, .ref (bs)), (1, .ref (a0)), (2, .ref (b0)), (3, .ref (nn)), (4, .int (nI (th))), (5, .int (nI (1))), (6, .int (nI (i))), (7, .int (nI (j))), (8, .int (nI (kd))), (9, .int (q.1))] 188 [] := by
  obtain ⟨B, hLF, hX, hbl, hbA, hL, hl, hst⟩ := id hLw
  refine z_aload_n B 3 dL_law_188 rfl rfl ?_
  refine z_iconst (v := nI 0) B dL_law_189 (by decide) ?_
  refine z_dup2 B dL_law_190 rfl rfl ?_
  refine z_iald (g := f) (i := 0) B 0 0 rfl rfl (by omega) (by decide) dL_law_191 ?_
  refine z_top (y := nI (cM C)) hf0 ?_
  refine z_iload B 8 dL_law_192 rfl ?_
  refine z_bipush (v := nI 14) B dL_law_194 (by decide) ?_
  refine z_icmpN_le B 215 dL_law_196 (by decide) (by omega) (by omega) (fun c196 => ?_) (fun c196 => ?_)
  · refine z_iconst (v := nI 0) B dL_law_215 (by decide) ?_
    refine z_iaddN B dL_law_216 ?_
    refine z_loc [0, 1, 2, 3, 4, 5, 6, 7, 8, 9] (lv' := [(0, .ref (bs)), (1, .ref (a0)), (2, .ref (b0)), (3, .ref (nn)), (4, .int (nI (th))), (5, .int (nI (1))), (6, .int (nI (i))), (7, .int (nI (j))), (8, .int (nI (kd))), (9, .int (q.1))]) rfl ?_
    refine z_top (y := nI (cM q.2)) (by rw [hq.1, if_neg (fun z => absurd z.1.1 (by omega))]) ?_
    exact lw_217 hLw ha hb hVq hf1 th hth i j hi hj kd hkd hq (k) (n) KB NB hKB hNB (by omega) (by omega) kk
  · refine z_iload B 8 dL_law_199 rfl ?_
    refine z_bipush (v := nI 18) B dL_law_201 (by decide) ?_
    refine z_icmpN_ge B 215 dL_law_203 (by decide) (by omega) (by omega) (fun c203 => ?_) (fun c203 => ?_)
    · refine z_iconst (v := nI 0) B dL_law_215 (by decide) ?_
      refine z_iaddN B dL_law_216 ?_
      refine z_loc [0, 1, 2, 3, 4, 5, 6, 7, 8, 9] (lv' := [(0, .ref (bs)), (1, .ref (a0)), (2, .ref (b0)), (3, .ref (nn)), (4, .int (nI (th))), (5, .int (nI (1))), (6, .int (nI (i))), (7, .int (nI (j))), (8, .int (nI (kd))), (9, .int (q.1))]) rfl ?_
      refine z_top (y := nI (cM q.2)) (by rw [hq.1, if_neg (fun z => absurd z.1.2 (by omega))]) ?_
      exact lw_217 hLw ha hb hVq hf1 th hth i j hi hj kd hkd hq (k) (n) KB NB hKB hNB (by omega) (by omega) kk
    · refine z_iload B 9 dL_law_206 rfl ?_
      refine z_if_lt B 215 dL_law_208 (by decide) (fun c208 => ?_) (fun c208 => ?_)
      · refine z_iconst (v := nI 0) B dL_law_215 (by decide) ?_
        refine z_iaddN B dL_law_216 ?_
        refine z_loc [0, 1, 2, 3, 4, 5, 6, 7, 8, 9] (lv' := [(0, .ref (bs)), (1, .ref (a0)), (2, .ref (b0)), (3, .ref (nn)), (4, .int (nI (th))), (5, .int (nI (1))), (6, .int (nI (i))), (7, .int (nI (j))), (8, .int (nI (kd))), (9, .int (q.1))]) rfl ?_
        refine z_top (y := nI (cM q.2)) (by rw [hq.1, if_neg (fun z => absurd c208 (Int32.not_lt.mpr z.2))]) ?_
        exact lw_217 hLw ha hb hVq hf1 th hth i j hi hj kd hkd hq (k) (n) KB NB hKB hNB (by omega) (by omega) kk
      · refine z_iconst (v := nI 1) B dL_law_211 (by decide) ?_
        refine z_goto B 216 dL_law_212 (by decide) ?_
        refine z_iaddN B dL_law_216 ?_
        refine z_loc [0, 1, 2, 3, 4, 5, 6, 7, 8, 9] (lv' := [(0, .ref (bs)), (1, .ref (a0)), (2, .ref (b0)), (3, .ref (nn)), (4, .int (nI (th))), (5, .int (nI (1))), (6, .int (nI (i))), (7, .int (nI (j))), (8, .int (nI (kd))), (9, .int (q.1))]) rfl ?_
        refine z_top (y := nI (cM q.2)) (by rw [hq.1, if_pos ⟨⟨c196, c203⟩, Int32.not_lt.mp c208⟩]) ?_
        exact lw_217 hLw ha hb hVq hf1 th hth i j hi hj kd hkd hq (k) (n) KB NB hKB hNB (by omega) (by omega) kk
set_option maxHeartbeats 4000000 in
set_option maxRecDepth 100000 in
theorem lw_137 {X : zX} {l : Launch} {D : va_G} {g : zG} {A : Nat → Prop} {Q : State → Prop} {bs L : Nat} {xs : Nat → Int32} (hLw : zLaw X l D g A bs L xs) {nn a0 b0 : Nat} {a b : Nat → Nat} {C : zMS} {f : Nat → Int32} (ha : a 0 = a0) (hb : b 0 = b0) (hV : KV C) (hf0 : f 0 = nI (cM C)) (hf1 : f 1 = nI (cK C)) (th : Nat) (hth : th ≤ 50) (i j : Nat) (hi : i < th) (hj : j < 2 ^ 31) (k n KB NB : Nat) (hKB : KB ≤ room_1.cells) (hNB : NB ≤ room_1.slots) (hk : k + 9016 ≤ KB) (hn : n + 57160 ≤ NB) (kk : ∀ (a2 b2 : Nat → Nat) (C2 : zMS) (f2 : Nat → Int32) (k2 n2 : Nat), k2 ≤ KB → n2 ≤ NB → a2 0 = a0 → b2 0 = b0 → KV C2 → f2 0 = nI (cM C2) → f2 1 = nI (cK C2) → zJ X 10 (zI1 D A (zs X)) Q ([(nn, .inl (g.1, 3, .inl f2))] ++ (wC g a2 C2 (4 * cM C2) ++ wC g b2 C2 (4 * cM C2))) k2 n2 [(0, .ref (bs)), (1, .ref (a0)), (2, .ref (b0)), (3, .ref (nn)), (4, .int (nI (th))), (5, .int (nI (1))), (6, .int (nI (i + 1)))] 39 []) : zJ X 10 (zI1 D A (zs X)) Q ([(nn, .inl (g.1, 3, .inl f))] ++ (wC g a C (4 * cM C) ++ wC g b C (4 * cM C))) k n [(0, .ref (bs)), (1, .ref (a0)), (2, .ref (b0)), (3, .ref (nn)), (4, .int (nI (th))), (5, .int (nI (1))), (6, .int (nI (i)))] 137 [.int (nI (j))] := by
  obtain ⟨B, hLF, hX, hbl, hbA, hL, hl, hst⟩ := id hLw
  refine z_istore (lv1 := [(7, .int (nI (j))), (0, .ref (bs)), (1, .ref (a0)), (2, .ref (b0)), (3, .ref (nn)), (4, .int (nI (th))), (5, .int (nI (1))), (6, .int (nI (i)))]) B dL_law_137 (by decide) rfl ?_
  refine z_iload B 0 dL_law_139 rfl ?_
  refine z_bipush (v := nI 32) B dL_law_141 (by decide) ?_
  refine z_iremN B (by omega) (by omega) (by omega) dL_law_143 ?_
  refine z_istore (lv1 := [(8, .int (nI (j % 32))), (7, .int (nI (j))), (0, .ref (bs)), (1, .ref (a0)), (2, .ref (b0)), (3, .ref (nn)), (4, .int (nI (th))), (5, .int (nI (1))), (6, .int (nI (i)))]) B dL_law_144 (by decide) rfl ?_
  refine z_aload_n B 3 dL_law_146 rfl rfl ?_
  refine z_aload_n B 5 dL_law_147 rfl rfl ?_
  refine z_iload B 1 dL_law_148 rfl ?_
  refine z_one ?_
  refine z_callL (As := [.ref (a0), .ref (nn), .int (nI (j))]) (st := []) B hLF hl (c_act2 l D g a _ C f nn j hst hV hf0 hf1 (by omega) ha) gL_law_L_act rfl ⟨rfl, rfl⟩ nm_L_act ⟨by decide, by decide⟩ rfl (Nat.le_of_ble_eq_true rfl) dL_law_150 (by omega) (by omega) (show k + 6 ≤ room_1.cells by omega) (show n + 419 ≤ room_1.slots by omega) (fun r w1 hpq => ?_)
  obtain ⟨a150, ha150, rfl, rfl⟩ := hpq
  refine z_oneB ?_
  refine z_istore (lv1 := [(9, .int ((acF C j).1)), (8, .int (nI (j % 32))), (7, .int (nI (j))), (0, .ref (bs)), (1, .ref (a0)), (2, .ref (b0)), (3, .ref (nn)), (4, .int (nI (th))), (5, .int (nI (1))), (6, .int (nI (i)))]) B dL_law_153 (by decide) rfl ?_
  refine z_aload_n B 5 dL_law_155 rfl rfl ?_
  refine z_aload_n B 6 dL_law_156 rfl rfl ?_
  refine z_iload B 2 dL_law_157 rfl ?_
  refine z_sipush (v := nI 9973) B dL_law_159 (by decide) ?_
  refine z_iremN B (by omega) (by omega) (by omega) dL_law_162 ?_
  refine z_two ?_
  refine z_callL (As := [.ref (b0), .ref (nn), .int (nI (j % 9973))]) (st := []) B hLF hl (c_refuses2 l D g b _ C f nn (j % 9973) hst hV hf0 hf1 (by omega) hb) gL_law_L_refuses rfl ⟨rfl, rfl⟩ nm_L_refuses ⟨by decide, by decide⟩ rfl (Nat.le_of_ble_eq_true rfl) dL_law_163 (by omega) (by omega) (show k + 284 ≤ room_1.cells by omega) (show n + 3236 ≤ room_1.slots by omega) (fun r w1 hpq => ?_)
  obtain ⟨rfl, rfl⟩ := hpq
  refine z_twoB ?_
  refine z_if_eq B 185 dL_law_166 (by decide) (fun h => absurd h (by decide)) (fun _ => ?_)
  refine z_aload_n B 5 dL_law_169 rfl rfl ?_
  refine z_aload_n B 6 dL_law_170 rfl rfl ?_
  refine z_iload B 2 dL_law_171 rfl ?_
  refine z_two ?_
  refine z_callL (As := [.ref (b0), .ref (nn), .int (nI (j))]) (st := []) B hLF hl (c_act2 l D g b _ C f nn j hst hV hf0 hf1 (by omega) hb) gL_law_L_act rfl ⟨rfl, rfl⟩ nm_L_act ⟨by decide, by decide⟩ rfl (Nat.le_of_ble_eq_true rfl) dL_law_173 (by omega) (by omega) (show k + 290 ≤ room_1.cells by omega) (show n + 3655 ≤ room_1.slots by omega) (fun r w1 hpq => ?_)
  obtain ⟨b173, hb173, rfl, rfl⟩ := hpq
  refine z_twoB ?_
  refine z_iload B 0 dL_law_176 rfl ?_
  refine z_icmp_ne B 185 dL_law_178 (by decide) (fun q => absurd rfl q) (fun _ => ?_)
  refine z_iconst (v := nI 1) B dL_law_181 (by decide) ?_
  refine z_goto B 186 dL_law_182 (by decide) ?_
  refine z_istore (lv1 := [(5, .int (nI (1))), (9, .int ((acF C j).1)), (8, .int (nI (j % 32))), (7, .int (nI (j))), (0, .ref (bs)), (1, .ref (a0)), (2, .ref (b0)), (3, .ref (nn)), (4, .int (nI (th))), (6, .int (nI (i)))]) B dL_law_186 (by decide) rfl ?_
  refine z_loc [4, 5, 6, 7, 8, 0, 9, 3, 2, 1] (lv' := [(0, .ref (bs)), (1, .ref (a0)), (2, .ref (b0)), (3, .ref (nn)), (4, .int (nI (th))), (5, .int (nI (1))), (6, .int (nI (i))), (7, .int (nI (j))), (8, .int (nI (j % 32))), (9, .int ((acF C j).1))]) rfl ?_
  exact lw_188 hLw ha150 hb173 (KVacF hV j) hf0 hf1 th hth i j hi hj (j % 32) (by omega) (acG_M _ _ _ _ _ _) (k + 290) (n + 3655) KB NB hKB hNB (by omega) (by omega) kk
set_option maxHeartbeats 4000000 in
set_option maxRecDepth 100000 in
theorem lw_in {X : zX} {l : Launch} {D : va_G} {g : zG} {A : Nat → Prop} {Q : State → Prop} {bs L : Nat} {xs : Nat → Int32} (hLw : zLaw X l D g A bs L xs) {nn a0 b0 : Nat} {a b : Nat → Nat} {C : zMS} {f : Nat → Int32} (ha : a 0 = a0) (hb : b 0 = b0) (hV : KV C) (hf0 : f 0 = nI (cM C)) (hf1 : f 1 = nI (cK C)) (th : Nat) (hth : th ≤ 50) (i : Nat) (hi : i < th) (k n KB NB : Nat) (hKB : KB ≤ room_1.cells) (hNB : NB ≤ room_1.slots) (hk : k + 9016 ≤ KB) (hn : n + 57160 ≤ NB) (kk : ∀ (a2 b2 : Nat → Nat) (C2 : zMS) (f2 : Nat → Int32) (k2 n2 : Nat), k2 ≤ KB → n2 ≤ NB → a2 0 = a0 → b2 0 = b0 → KV C2 → f2 0 = nI (cM C2) → f2 1 = nI (cK C2) → zJ X 10 (zI1 D A (zs X)) Q ([(nn, .inl (g.1, 3, .inl f2))] ++ (wC g a2 C2 (4 * cM C2) ++ wC g b2 C2 (4 * cM C2))) k2 n2 [(0, .ref (bs)), (1, .ref (a0)), (2, .ref (b0)), (3, .ref (nn)), (4, .int (nI (th))), (5, .int (nI (1))), (6, .int (nI (i + 1)))] 39 []) : zJ X 10 (zI1 D A (zs X)) Q ([(nn, .inl (g.1, 3, .inl f))] ++ (wC g a C (4 * cM C) ++ wC g b C (4 * cM C))) k n [(0, .ref (bs)), (1, .ref (a0)), (2, .ref (b0)), (3, .ref (nn)), (4, .int (nI (th))), (5, .int (nI (1))), (6, .int (nI (i)))] 39 [] := by
  obtain ⟨B, hLF, hX, hbl, hbA, hL, hl, hst⟩ := id hLw
  refine z_iload B 6 dL_law_39 rfl ?_
  refine z_iload B 4 dL_law_41 rfl ?_
  refine z_icmpN_ge B 343 dL_law_43 (by decide) (by omega) (by omega) (fun q => absurd q (by omega)) (fun _ => ?_)
  refine z_iload B 5 dL_law_46 rfl ?_
  refine z_if_eq B 343 dL_law_48 (by decide) (fun h => absurd h (by decide)) (fun _ => ?_)
  refine z_aload_n B 0 dL_law_51 rfl rfl ?_
  refine z_iconst (v := nI 1) B dL_law_52 (by decide) ?_
  refine z_iload B 6 dL_law_53 rfl ?_
  refine z_iaddN B dL_law_55 ?_
  refine z_callDr (As := [.ref (bs), .int (nI (1 + i))]) (st := []) B hl hX hbl hbA (c_drawn l D g bs L xs hL (1 + i) (by omega)) gL_law_L_drawn rfl ⟨rfl, rfl⟩ nm_L_drawn ⟨by decide, by decide⟩ rfl (Nat.le_of_ble_eq_true rfl) dL_law_56 (show k ≤ room_1.cells by omega) (show n ≤ room_1.slots by omega) (fun r hr9 => ?_)
  obtain ⟨v56, hv56, rfl⟩ := hr9
  refine z_istore (lv1 := [(7, .int (nI (v56))), (0, .ref (bs)), (1, .ref (a0)), (2, .ref (b0)), (3, .ref (nn)), (4, .int (nI (th))), (5, .int (nI (1))), (6, .int (nI (i)))]) B dL_law_59 (by decide) rfl ?_
  refine z_iload B 7 dL_law_61 rfl ?_
  refine z_bipush (v := nI 8) B dL_law_63 (by decide) ?_
  refine z_icmpN_ge B 93 dL_law_65 (by decide) (by omega) (by omega) (fun c65 => ?_) (fun c65 => ?_)
  · refine z_iload B 7 dL_law_93 rfl ?_
    refine z_bipush (v := nI 8) B dL_law_95 (by decide) ?_
    refine z_icmpN_ne B 114 dL_law_97 (by decide) (by omega) (by omega) (fun c97 => ?_) (fun c97 => ?_)
    · refine z_iload B 7 dL_law_114 rfl ?_
      refine z_bipush (v := nI 9) B dL_law_116 (by decide) ?_
      refine z_icmpN_ne B 135 dL_law_118 (by decide) (by omega) (by omega) (fun c118 => ?_) (fun c118 => ?_)
      · refine z_iload B 0 dL_law_135 rfl ?_
        refine z_loc [1, 2, 3, 4, 5, 6, 7] (lv' := [(0, .ref (bs)), (1, .ref (a0)), (2, .ref (b0)), (3, .ref (nn)), (4, .int (nI (th))), (5, .int (nI (1))), (6, .int (nI (i)))]) rfl ?_
        exact lw_137 hLw ha hb hV hf0 hf1 th hth i (v56) hi (by omega) (k) (n) KB NB hKB hNB (by omega) (by omega) kk
      · refine z_iload B 0 dL_law_121 rfl ?_
        refine z_bipush (v := nI 32) B dL_law_123 (by decide) ?_
        refine z_idivN B (by omega) (by omega) (by omega) dL_law_125 ?_
        refine z_bipush (v := nI 32) B dL_law_126 (by decide) ?_
        refine z_imulN B dL_law_128 ?_
        refine z_bipush (v := nI 23) B dL_law_129 (by decide) ?_
        refine z_iaddN B dL_law_131 ?_
        refine z_goto B 137 dL_law_132 (by decide) ?_
        refine z_loc [1, 2, 3, 4, 5, 6, 7] (lv' := [(0, .ref (bs)), (1, .ref (a0)), (2, .ref (b0)), (3, .ref (nn)), (4, .int (nI (th))), (5, .int (nI (1))), (6, .int (nI (i)))]) rfl ?_
        exact lw_137 hLw ha hb hV hf0 hf1 th hth i ((v56 / 32) * 32 + 23) hi (by omega) (k) (n) KB NB hKB hNB (by omega) (by omega) kk
    · refine z_iload B 0 dL_law_100 rfl ?_
      refine z_bipush (v := nI 32) B dL_law_102 (by decide) ?_
      refine z_idivN B (by omega) (by omega) (by omega) dL_law_104 ?_
      refine z_bipush (v := nI 32) B dL_law_105 (by decide) ?_
      refine z_imulN B dL_law_107 ?_
      refine z_bipush (v := nI 15) B dL_law_108 (by decide) ?_
      refine z_iaddN B dL_law_110 ?_
      refine z_goto B 137 dL_law_111 (by decide) ?_
      refine z_loc [1, 2, 3, 4, 5, 6, 7] (lv' := [(0, .ref (bs)), (1, .ref (a0)), (2, .ref (b0)), (3, .ref (nn)), (4, .int (nI (th))), (5, .int (nI (1))), (6, .int (nI (i)))]) rfl ?_
      exact lw_137 hLw ha hb hV hf0 hf1 th hth i ((v56 / 32) * 32 + 15) hi (by omega) (k) (n) KB NB hKB hNB (by omega) (by omega) kk
  · refine z_iload B 0 dL_law_68 rfl ?_
    refine z_bipush (v := nI 32) B dL_law_70 (by decide) ?_
    refine z_idivN B (by omega) (by omega) (by omega) dL_law_72 ?_
    refine z_bipush (v := nI 32) B dL_law_73 (by decide) ?_
    refine z_imulN B dL_law_75 ?_
    refine z_iload B 7 dL_law_76 rfl ?_
    refine z_iconst (v := nI 2) B dL_law_78 (by decide) ?_
    refine z_iremN B (by omega) (by omega) (by omega) dL_law_79 ?_
    refine z_ifN_ne B 87 dL_law_80 (by decide) (by omega) (fun c80 => ?_) (fun c80 => ?_)
    · refine z_bipush (v := nI 6) B dL_law_87 (by decide) ?_
      refine z_iaddN B dL_law_89 ?_
      refine z_goto B 137 dL_law_90 (by decide) ?_
      refine z_loc [1, 2, 3, 4, 5, 6, 7] (lv' := [(0, .ref (bs)), (1, .ref (a0)), (2, .ref (b0)), (3, .ref (nn)), (4, .int (nI (th))), (5, .int (nI (1))), (6, .int (nI (i)))]) rfl ?_
      exact lw_137 hLw ha hb hV hf0 hf1 th hth i ((v56 / 32) * 32 + 6) hi (by omega) (k) (n) KB NB hKB hNB (by omega) (by omega) kk
    · refine z_iconst (v := nI 1) B dL_law_83 (by decide) ?_
      refine z_goto B 89 dL_law_84 (by decide) ?_
      refine z_iaddN B dL_law_89 ?_
      refine z_goto B 137 dL_law_90 (by decide) ?_
      refine z_loc [1, 2, 3, 4, 5, 6, 7] (lv' := [(0, .ref (bs)), (1, .ref (a0)), (2, .ref (b0)), (3, .ref (nn)), (4, .int (nI (th))), (5, .int (nI (1))), (6, .int (nI (i)))]) rfl ?_
      exact lw_137 hLw ha hb hV hf0 hf1 th hth i ((v56 / 32) * 32 + 1) hi (by omega) (k) (n) KB NB hKB hNB (by omega) (by omega) kk
def lwK (u : Nat) : Nat := 9016 * u
def lwN (u : Nat) : Nat := 57160 * u
theorem lwK_s (u : Nat) : lwK (u + 1) = lwK u + 9016 := Nat.mul_succ _ _
theorem lwN_s (u : Nat) : lwN (u + 1) = lwN u + 57160 := Nat.mul_succ _ _
theorem lwK_le {u : Nat} (h : u ≤ 50) : lwK u ≤ 450800 := Nat.le_trans (Nat.mul_le_mul_left _ h) (Nat.le_of_ble_eq_true rfl)
theorem lwN_le {u : Nat} (h : u ≤ 50) : lwN u ≤ 2858000 := Nat.le_trans (Nat.mul_le_mul_left _ h) (Nat.le_of_ble_eq_true rfl)
set_option maxHeartbeats 4000000 in
set_option maxRecDepth 100000 in
theorem lw_loop {X : zX} {l : Launch} {D : va_G} {g : zG} {A : Nat → Prop} {Q : State → Prop} {bs L : Nat} {xs : Nat → Int32} (hLw : zLaw X l D g A bs L xs) {nn a0 b0 : Nat} (final : ∀ (w : va_W) (k n : Nat) (lv : List (Nat × Value)), k ≤ room_1.cells → n ≤ room_1.slots → zJ X 10 (zI1 D A (zs X)) Q w k n lv 393 [.int (nI 1)]) (th : Nat) (hth : th ≤ 50) : ∀ (u i k n : Nat) (a b : Nat → Nat) (C : zMS) (f : Nat → Int32), i + u = th → k + lwK u + 14640 ≤ room_1.cells → n + lwN u + 87840 ≤ room_1.slots → a 0 = a0 → b 0 = b0 → KV C → f 0 = nI (cM C) → f 1 = nI (cK C) → zJ X 10 (zI1 D A (zs X)) Q ([(nn, .inl (g.1, 3, .inl f))] ++ (wC g a C (4 * cM C) ++ wC g b C (4 * cM C))) k n [(0, .ref (bs)), (1, .ref (a0)), (2, .ref (b0)), (3, .ref (nn)), (4, .int (nI (th))), (5, .int (nI (1))), (6, .int (nI (i)))] 39 [] := by
  intro u
  induction u with
  | zero =>
    intro i k n a b C f hlp hk hn ha hb hV hf0 hf1
    exact lw_out hLw ha hb hV hf0 hf1 final th hth i (by omega) k n (by omega) (by omega)
  | succ u ih =>
    intro i k n a b C f hlp hk hn ha hb hV hf0 hf1
    rw [lwK_s] at hk
    rw [lwN_s] at hn
    have e1 : k + 9016 ≤ room_1.cells := by omega
    have e2 : n + 57160 ≤ room_1.slots := by omega
    exact lw_in hLw ha hb hV hf0 hf1 th hth i (by omega) k n (k + 9016) (n + 57160) e1 e2 (Nat.le_refl _) (Nat.le_refl _) (fun a2 b2 C2 f2 k2 n2 h1 h2 q1 q2 q3 q4 q5 => ih (i + 1) k2 n2 a2 b2 C2 f2 (by omega) (by omega) (by omega) q1 q2 q3 q4 q5)

set_option maxHeartbeats 4000000 in
set_option maxRecDepth 100000 in
theorem lw_20 {X : zX} {l : Launch} {D : va_G} {g : zG} {A : Nat → Prop} {Q : State → Prop} {bs L : Nat} {xs : Nat → Int32} (hLw : zLaw X l D g A bs L xs) {nn a0 b0 : Nat} {a b : Nat → Nat} (ha : a 0 = a0) (hb : b 0 = b0) (final : ∀ (w : va_W) (k n : Nat) (lv : List (Nat × Value)), k ≤ room_1.cells → n ≤ room_1.slots → zJ X 10 (zI1 D A (zs X)) Q w k n lv 393 [.int (nI 1)]) (k n : Nat) (hk : k + 465440 ≤ room_1.cells) (hn : n + 2945840 ≤ room_1.slots) : zJ X 10 (zI1 D A (zs X)) Q ([(nn, .inl (g.1, 3, .inl (fun _ => nI 0)))] ++ (wC g a zC0 (4 * cM zC0) ++ wC g b zC0 (4 * cM zC0))) k n [(0, .ref (bs)), (1, .ref (a0)), (2, .ref (b0)), (3, .ref (nn))] 20 [] := by
  obtain ⟨B, hLF, hX, hbl, hbA, hL, hl, hst⟩ := id hLw
  refine z_bipush (v := nI 24) B dL_law_20 (by decide) ?_
  refine z_aload_n B 0 dL_law_22 rfl rfl ?_
  refine z_iconst (v := nI 0) B dL_law_23 (by decide) ?_
  refine z_callDr (As := [.ref (bs), .int (nI (0))]) (st := [.int (nI (24))]) B hl hX hbl hbA (c_drawn l D g bs L xs hL 0 (by omega)) gL_law_L_drawn rfl ⟨rfl, rfl⟩ nm_L_drawn ⟨by decide, by decide⟩ rfl (Nat.le_of_ble_eq_true rfl) dL_law_24 (show k ≤ room_1.cells by omega) (show n ≤ room_1.slots by omega) (fun r hr9 => ?_)
  obtain ⟨v24, hv24, rfl⟩ := hr9
  refine z_bipush (v := nI 27) B dL_law_27 (by decide) ?_
  refine z_iremN B (by omega) (by omega) (by omega) dL_law_29 ?_
  refine z_iaddN B dL_law_30 ?_
  refine z_istore (lv1 := [(4, .int (nI (24 + (v24 % 27)))), (0, .ref (bs)), (1, .ref (a0)), (2, .ref (b0)), (3, .ref (nn))]) B dL_law_31 (by decide) rfl ?_
  refine z_iconst (v := nI 1) B dL_law_33 (by decide) ?_
  refine z_istore (lv1 := [(5, .int (nI (1))), (4, .int (nI (24 + (v24 % 27)))), (0, .ref (bs)), (1, .ref (a0)), (2, .ref (b0)), (3, .ref (nn))]) B dL_law_34 (by decide) rfl ?_
  refine z_iconst (v := nI 0) B dL_law_36 (by decide) ?_
  refine z_istore (lv1 := [(6, .int (nI (0))), (5, .int (nI (1))), (4, .int (nI (24 + (v24 % 27)))), (0, .ref (bs)), (1, .ref (a0)), (2, .ref (b0)), (3, .ref (nn))]) B dL_law_37 (by decide) rfl ?_
  refine z_loc [3, 4, 5, 6, 2, 1, 0] (lv' := [(0, .ref (bs)), (1, .ref (a0)), (2, .ref (b0)), (3, .ref (nn)), (4, .int (nI (24 + (v24 % 27)))), (5, .int (nI (1))), (6, .int (nI (0)))]) rfl ?_
  exact lw_loop hLw final (24 + (v24 % 27)) (by omega) (24 + (v24 % 27)) 0 (k) (n) a b zC0 (fun _ => nI 0) (by omega) (by have := lwK_le (u := 24 + (v24 % 27)) (by omega); omega) (by have := lwN_le (u := 24 + (v24 % 27)) (by omega); omega) ha hb KV_z (by rw [show cM zC0 = 0 from nN_nI (by omega)]) (by rw [show cK zC0 = 0 from nN_nI (by omega)])
set_option maxHeartbeats 4000000 in
set_option maxRecDepth 100000 in
theorem law_walk {X : zX} {l : Launch} {D : va_G} {g : zG} {A : Nat → Prop} {Q : State → Prop} {bs L : Nat} {xs : Nat → Int32} (hLw : zLaw X l D g A bs L xs) (final : ∀ (w : va_W) (k n : Nat) (lv : List (Nat × Value)), k ≤ room_1.cells → n ≤ room_1.slots → zJ X 10 (zI1 D A (zs X)) Q w k n lv 393 [.int (nI 1)]) : zJ X 10 (zI1 D A (zs X)) Q [] 0 0 [(0, .ref bs)] 0 [] := by
  obtain ⟨B, hLF, hX, hbl, hbA, hL, hl, hst⟩ := id hLw
  have hNF := hLF.2.1
  refine z_new (C := RX6) (T := TX6) (N := 6) (ci := 6) (fs := [.null, .null, .null, .null, .null, .int (nI 0)]) B inlX6 tyX6 tyX6_ok (List.mem_of_getElem? (i := 0) (by decide +kernel)) (List.mem_of_getElem? (i := 1) (by decide +kernel)) (List.mem_of_getElem? (i := 2) (by decide +kernel)) rfl df_X6 (Nat.le_of_ble_eq_true rfl) (Nat.le_of_ble_eq_true rfl) dL_law_0 (fun a0 => ?_)
  refine z_dup B dL_law_3 rfl ?_
  refine z_callI (w1 := []) (As := []) (st := [.ref a0]) B hNF hl (ci_X6 l D g a0) gL_law_X6_init (List.mem_of_getElem? (i := 4) (by decide +kernel)) (List.mem_of_getElem? (i := 2) (by decide +kernel)) (List.mem_of_getElem? (i := 5) (by decide +kernel)) rfl rfl ⟨rfl, rfl⟩ nm_X6_init (by decide) rfl (Nat.le_of_ble_eq_true rfl) dL_law_4 rfl rfl (Nat.le_of_ble_eq_true rfl) (Nat.le_of_ble_eq_true rfl) (fun w1 hw1 => ?_)
  obtain ⟨a, ha, rfl⟩ := hw1
  refine z_w (w' := wC g a zC0 0) rfl ?_
  refine z_astore_n (lv1 := [(1, .ref a0), (0, .ref bs)]) B dL_law_7 rfl (by decide) rfl ?_
  refine z_new (C := RX6) (T := TX6) (N := 6) (ci := 6) (fs := [.null, .null, .null, .null, .null, .int (nI 0)]) B inlX6 tyX6 tyX6_ok (List.mem_of_getElem? (i := 0) (by decide +kernel)) (List.mem_of_getElem? (i := 1) (by decide +kernel)) (List.mem_of_getElem? (i := 2) (by decide +kernel)) rfl df_X6 (Nat.le_of_ble_eq_true rfl) (Nat.le_of_ble_eq_true rfl) dL_law_8 (fun b0 => ?_)
  refine z_dup B dL_law_11 rfl ?_
  refine z_callI (w1 := wC g a zC0 0) (As := []) (st := [.ref b0]) B hNF hl (ci_X6 l D g b0) gL_law_X6_init (List.mem_of_getElem? (i := 4) (by decide +kernel)) (List.mem_of_getElem? (i := 2) (by decide +kernel)) (List.mem_of_getElem? (i := 5) (by decide +kernel)) rfl rfl ⟨rfl, rfl⟩ nm_X6_init (by decide) rfl (Nat.le_of_ble_eq_true rfl) dL_law_12 rfl rfl (Nat.le_of_ble_eq_true rfl) (Nat.le_of_ble_eq_true rfl) (fun w1 hw1 => ?_)
  obtain ⟨b, hb, rfl⟩ := hw1
  refine z_astore_n (lv1 := [(2, .ref b0), (1, .ref a0), (0, .ref bs)]) B dL_law_15 rfl (by decide) rfl ?_
  refine z_iconst (v := nI 3) B dL_law_16 (by decide) ?_
  refine z_newi B 3 0 rfl (List.mem_of_getElem? (i := 3) (by decide +kernel)) (by decide) (Nat.le_of_ble_eq_true rfl) (Nat.le_of_ble_eq_true rfl) dL_law_17 (fun nn => ?_)
  refine z_astore_n (lv1 := [(3, .ref nn), (2, .ref b0), (1, .ref a0), (0, .ref bs)]) B dL_law_19 rfl (by decide) rfl ?_
  refine z_swap ?_
  have e0 : 4 * cM zC0 = 0 := by rw [show cM zC0 = 0 from nN_nI (by omega)]
  refine z_w (w' := [(nn, .inl (g.1, 3, .inl (fun _ => nI 0)))] ++ (wC g a zC0 (4 * cM zC0) ++ wC g b zC0 (4 * cM zC0))) (by rw [e0]) ?_
  refine z_loc [3, 2, 1, 0] (lv' := [(0, .ref (bs)), (1, .ref (a0)), (2, .ref (b0)), (3, .ref (nn))]) rfl ?_
  exact lw_20 hLw ha hb final _ _ (Nat.le_of_ble_eq_true rfl) (Nat.le_of_ble_eq_true rfl)

