/-! the law's alike -/
def alB (X : zX) (l : Launch) (D : va_G) (g : zG) (A : Nat → Prop) (a b : Nat → Nat) (C : zMS) (f : Nat → Int32) (nn : Nat) : Prop := A = va_A ([(nn, .inl (g.1, 3, .inl f))] ++ (wC g a C (4 * cM C) ++ wC g b C (4 * cM C))) (zs X).heap.size ∧ zl X = l ∧ zB X RL cL_alike 7 wsL_alike { frames := 9, cells := 1264, slots := 7584, locals := 183 } D (zT g) (zI1 D A (zs X)) ∧ (zmeth X).sig.returnType = some .boolean ∧ zLF A (zs X) (zs X).heap ∧ l.stackTraces = false
abbrev alQ (X : zX) (D : va_G) (g : zG) (A : Nat → Prop) (a b : Nat → Nat) (C : zMS) (f : Nat → Int32) (nn : Nat) : State → Prop := zQe X (va_Qi (fun r w' => r = nI 1 ∧ w' = [(nn, .inl (g.1, 3, .inl f))] ++ (wC g a C (4 * cM C) ++ wC g b C (4 * cM C))) (zEnd D (zT g) ([(nn, .inl (g.1, 3, .inl f))] ++ (wC g a C (4 * cM C) ++ wC g b C (4 * cM C))) (zs X).heap.size) A) 1264 7584 A
set_option maxHeartbeats 4000000 in
set_option maxRecDepth 100000 in
theorem al_286 {X : zX} {l : Launch} {D : va_G} {g : zG} {A : Nat → Prop} {a b : Nat → Nat} {C : zMS} {f : Nat → Int32} {nn : Nat} (Hb : alB X l D g A a b C f nn) (hV : KV C) (hf0 : f 0 = nI (cM C)) (j : Nat) (hj : j < 2 ^ 31) (k n : Nat) (hk : k + 16 ≤ 1264) (hn : n + 96 ≤ 7584) : zJ X 7 (zI1 D A (zs X)) (alQ X D g A a b C f nn) ([(nn, .inl (g.1, 3, .inl f))] ++ (wC g a C (4 * cM C) ++ wC g b C (4 * cM C))) k n [(0, .ref (a 0)), (1, .ref (b 0)), (2, .ref (nn)), (3, .int (nI (j))), (4, .int (nI (1)))] 286 [] := by
  obtain ⟨hAe, hl, B, hr, hLF, hst⟩ := id Hb
  have hI := KV_I hV
  have hJ := KV_J hV
  have bP := CI_b19 hI
  have bM := CI_b20 hI
  have bK := CI_b22 hI
  have bT := CI_b0 hI
  refine z_iload_n B 3 dL_alike_286 rfl rfl ?_
  refine z_bipush (v := nI 8) B dL_alike_287 (by decide) ?_
  refine z_iremN B (by omega) (by omega) (by omega) dL_alike_289 ?_
  refine z_istore (lv1 := [(5, .int (nI (j % 8))), (0, .ref (a 0)), (1, .ref (b 0)), (2, .ref (nn)), (3, .int (nI (j))), (4, .int (nI (1)))]) B dL_alike_290 (by decide) rfl ?_
  refine z_iload_n B 4 dL_alike_292 rfl rfl ?_
  refine z_bipush (v := nI 8) B dL_alike_293 (by decide) ?_
  refine z_idivN B (by omega) (by omega) (by omega) dL_alike_295 ?_
  refine z_aload_n B 1 dL_alike_296 rfl rfl ?_
  refine z_callP (As := []) (st := [.int (nI (j / 8))]) (C := RX6) (T := TX6) (N := 6) (ci := 6) (l := l) B hl (cc_X6_day l D g a C (4 * cM C) hI) gL_alike_X6_day rfl ⟨rfl, rfl⟩ nm_X6_day ⟨by decide, by decide⟩ (fun _ h => sub_m h) 0 rfl rfl rfl (Nat.le_of_ble_eq_true rfl) dL_alike_297 (show k ≤ 1264 by omega) (show n ≤ 7584 by omega) (fun r hr1 => ?_)
  obtain rfl := hr1
  refine z_iconst (v := nI 1) B dL_alike_300 (by decide) ?_
  refine z_iaddN B dL_alike_301 ?_
  refine z_iremN B (by omega) (by omega) (by omega) dL_alike_302 ?_
  refine z_istore (lv1 := [(6, .int (nI ((j / 8) % (cT C + 1)))), (5, .int (nI (j % 8))), (0, .ref (a 0)), (1, .ref (b 0)), (2, .ref (nn)), (3, .int (nI (j))), (4, .int (nI (1)))]) B dL_alike_303 (by decide) rfl ?_
  refine z_iload B 6 dL_alike_305 rfl ?_
  refine z_if_eq B 371 dL_alike_307 (by decide) (fun h => absurd h (by decide)) (fun _ => ?_)
  refine z_aload_n B 2 dL_alike_310 rfl rfl ?_
  refine z_iload B 1 dL_alike_311 rfl ?_
  refine z_iload B 0 dL_alike_313 rfl ?_
  refine z_callWm (As := [.ref (a 0), .int (nI (j % 8)), .int (nI ((j / 8) % (cT C + 1)))]) (st := [])  B hLF hl (fo_balance l D g a C hst hI (nI (j % 8)) (nI ((j / 8) % (cT C + 1)))) gL_alike_L_balance rfl ⟨rfl, rfl⟩ nm_L_balance ⟨by decide, by decide⟩ rfl (Nat.le_of_ble_eq_true rfl) dL_alike_315 (by omega) (by omega) (show k + 2 ≤ 1264 by omega) (show n + 12 ≤ 7584 by omega) (fun r w1 hpq => ?_)
  obtain ⟨rfl, rfl⟩ := hpq
  refine z_aload_n B 3 dL_alike_318 rfl rfl ?_
  refine z_iload B 1 dL_alike_319 rfl ?_
  refine z_iload B 0 dL_alike_321 rfl ?_
  refine z_callWr (As := [.ref (b 0), .int (nI (j % 8)), .int (nI ((j / 8) % (cT C + 1)))]) (st := [.int (s_balance C (nI (j % 8)) (nI ((j / 8) % (cT C + 1))))])  B hLF hl (fo_balance l D g b C hst hI (nI (j % 8)) (nI ((j / 8) % (cT C + 1)))) gL_alike_L_balance rfl ⟨rfl, rfl⟩ nm_L_balance ⟨by decide, by decide⟩ rfl (Nat.le_of_ble_eq_true rfl) dL_alike_323 (by omega) (by omega) (show k + 4 ≤ 1264 by omega) (show n + 24 ≤ 7584 by omega) (fun r w1 hpq => ?_)
  obtain ⟨rfl, rfl⟩ := hpq
  refine z_icmp_ne B 371 dL_alike_326 (by decide) (fun q => absurd rfl q) (fun _ => ?_)
  refine z_aload_n B 2 dL_alike_329 rfl rfl ?_
  refine z_iload B 1 dL_alike_330 rfl ?_
  refine z_iload B 0 dL_alike_332 rfl ?_
  refine z_callWm (As := [.ref (a 0), .int (nI (j % 8)), .int (nI ((j / 8) % (cT C + 1)))]) (st := [])  B hLF hl (fo_byPages l D g a C hst hI (nI (j % 8)) (nI ((j / 8) % (cT C + 1)))) gL_alike_L_byPages rfl ⟨rfl, rfl⟩ nm_L_byPages ⟨by decide, by decide⟩ rfl (Nat.le_of_ble_eq_true rfl) dL_alike_334 (by omega) (by omega) (show k + 7 ≤ 1264 by omega) (show n + 42 ≤ 7584 by omega) (fun r w1 hpq => ?_)
  obtain ⟨rfl, rfl⟩ := hpq
  refine z_aload_n B 3 dL_alike_337 rfl rfl ?_
  refine z_iload B 1 dL_alike_338 rfl ?_
  refine z_iload B 0 dL_alike_340 rfl ?_
  refine z_callWr (As := [.ref (b 0), .int (nI (j % 8)), .int (nI ((j / 8) % (cT C + 1)))]) (st := [.int (s_byPages C (nI (j % 8)) (nI ((j / 8) % (cT C + 1))))])  B hLF hl (fo_byPages l D g b C hst hI (nI (j % 8)) (nI ((j / 8) % (cT C + 1)))) gL_alike_L_byPages rfl ⟨rfl, rfl⟩ nm_L_byPages ⟨by decide, by decide⟩ rfl (Nat.le_of_ble_eq_true rfl) dL_alike_342 (by omega) (by omega) (show k + 10 ≤ 1264 by omega) (show n + 60 ≤ 7584 by omega) (fun r w1 hpq => ?_)
  obtain ⟨rfl, rfl⟩ := hpq
  refine z_icmp_ne B 371 dL_alike_345 (by decide) (fun q => absurd rfl q) (fun _ => ?_)
  refine z_aload_n B 2 dL_alike_348 rfl rfl ?_
  refine z_iload B 1 dL_alike_349 rfl ?_
  refine z_iload B 0 dL_alike_351 rfl ?_
  refine z_callWm (As := [.ref (a 0), .int (nI (j % 8)), .int (nI ((j / 8) % (cT C + 1)))]) (st := [])  B hLF hl (fo_byCopies l D g a C hst hI (nI (j % 8)) (nI ((j / 8) % (cT C + 1)))) gL_alike_L_byCopies rfl ⟨rfl, rfl⟩ nm_L_byCopies ⟨by decide, by decide⟩ rfl (Nat.le_of_ble_eq_true rfl) dL_alike_353 (by omega) (by omega) (show k + 13 ≤ 1264 by omega) (show n + 78 ≤ 7584 by omega) (fun r w1 hpq => ?_)
  obtain ⟨rfl, rfl⟩ := hpq
  refine z_aload_n B 3 dL_alike_356 rfl rfl ?_
  refine z_iload B 1 dL_alike_357 rfl ?_
  refine z_iload B 0 dL_alike_359 rfl ?_
  refine z_callWr (As := [.ref (b 0), .int (nI (j % 8)), .int (nI ((j / 8) % (cT C + 1)))]) (st := [.int (s_byCopies C (nI (j % 8)) (nI ((j / 8) % (cT C + 1))))])  B hLF hl (fo_byCopies l D g b C hst hI (nI (j % 8)) (nI ((j / 8) % (cT C + 1)))) gL_alike_L_byCopies rfl ⟨rfl, rfl⟩ nm_L_byCopies ⟨by decide, by decide⟩ rfl (Nat.le_of_ble_eq_true rfl) dL_alike_361 (by omega) (by omega) (show k + 16 ≤ 1264 by omega) (show n + 96 ≤ 7584 by omega) (fun r w1 hpq => ?_)
  obtain ⟨rfl, rfl⟩ := hpq
  refine z_icmp_ne B 371 dL_alike_364 (by decide) (fun q => absurd rfl q) (fun _ => ?_)
  refine z_iconst (v := nI 1) B dL_alike_367 (by decide) ?_
  refine z_goto B 372 dL_alike_368 (by decide) ?_
  exact z_mret B hAe hr dL_alike_372 rfl (by omega) (by omega) (⟨rfl, rfl⟩)
set_option maxHeartbeats 4000000 in
set_option maxRecDepth 100000 in
theorem al_2o {X : zX} {l : Launch} {D : va_G} {g : zG} {A : Nat → Prop} {a b : Nat → Nat} {C : zMS} {f : Nat → Int32} {nn : Nat} (Hb : alB X l D g A a b C f nn) (hV : KV C) (hf0 : f 0 = nI (cM C)) (j : Nat) (hj : j < 2 ^ 31) (i : Nat) (hi : i = cM C) (k n : Nat) (hk : k + 16 ≤ 1264) (hn : n + 96 ≤ 7584) : zJ X 7 (zI1 D A (zs X)) (alQ X D g A a b C f nn) ([(nn, .inl (g.1, 3, .inl f))] ++ (wC g a C (4 * cM C) ++ wC g b C (4 * cM C))) k n [(0, .ref (a 0)), (1, .ref (b 0)), (2, .ref (nn)), (3, .int (nI (j))), (4, .int (nI (1))), (5, .int (nI (i)))] 200 [] := by
  obtain ⟨hAe, hl, B, hr, hLF, hst⟩ := id Hb
  have hI := KV_I hV
  have hJ := KV_J hV
  have bP := CI_b19 hI
  have bM := CI_b20 hI
  have bK := CI_b22 hI
  have bT := CI_b0 hI
  refine z_iload B 5 dL_alike_200 rfl ?_
  refine z_aload_n B 2 dL_alike_202 rfl rfl ?_
  refine z_iconst (v := nI 0) B dL_alike_203 (by decide) ?_
  refine z_iald (g := f) (i := 0) B 0 0 rfl rfl (by omega) (by decide) dL_alike_204 ?_
  refine z_top (y := nI (cM C)) hf0 ?_
  refine z_icmpN_ge B 286 dL_alike_205 (by decide) (by omega) (by omega) (fun _ => ?_) (fun q => absurd q (by omega))
  refine z_loc [0, 1, 2, 3, 4] (lv' := [(0, .ref (a 0)), (1, .ref (b 0)), (2, .ref (nn)), (3, .int (nI (j))), (4, .int (nI (1)))]) rfl ?_
  exact al_286 Hb hV hf0 j hj (k) (n) (by omega) (by omega)
set_option maxHeartbeats 4000000 in
set_option maxRecDepth 100000 in
theorem al_2i {X : zX} {l : Launch} {D : va_G} {g : zG} {A : Nat → Prop} {a b : Nat → Nat} {C : zMS} {f : Nat → Int32} {nn : Nat} (Hb : alB X l D g A a b C f nn) (hV : KV C) (hf0 : f 0 = nI (cM C)) (j : Nat) (hj : j < 2 ^ 31) (i : Nat) (hi : i < cM C) (k n KB NB : Nat) (hKB : KB ≤ 1264) (hNB : NB ≤ 7584) (hk : k + 8 ≤ KB) (hn : n + 48 ≤ NB) (kk : ∀ (k2 n2 : Nat), k2 ≤ KB → n2 ≤ NB → zJ X 7 (zI1 D A (zs X)) (alQ X D g A a b C f nn) ([(nn, .inl (g.1, 3, .inl f))] ++ (wC g a C (4 * cM C) ++ wC g b C (4 * cM C))) k2 n2 [(0, .ref (a 0)), (1, .ref (b 0)), (2, .ref (nn)), (3, .int (nI (j))), (4, .int (nI (1))), (5, .int (nI (i + 1)))] 200 []) : zJ X 7 (zI1 D A (zs X)) (alQ X D g A a b C f nn) ([(nn, .inl (g.1, 3, .inl f))] ++ (wC g a C (4 * cM C) ++ wC g b C (4 * cM C))) k n [(0, .ref (a 0)), (1, .ref (b 0)), (2, .ref (nn)), (3, .int (nI (j))), (4, .int (nI (1))), (5, .int (nI (i)))] 200 [] := by
  obtain ⟨hAe, hl, B, hr, hLF, hst⟩ := id Hb
  have hI := KV_I hV
  have hJ := KV_J hV
  have bP := CI_b19 hI
  have bM := CI_b20 hI
  have bK := CI_b22 hI
  have bT := CI_b0 hI
  refine z_iload B 5 dL_alike_200 rfl ?_
  refine z_aload_n B 2 dL_alike_202 rfl rfl ?_
  refine z_iconst (v := nI 0) B dL_alike_203 (by decide) ?_
  refine z_iald (g := f) (i := 0) B 0 0 rfl rfl (by omega) (by decide) dL_alike_204 ?_
  refine z_top (y := nI (cM C)) hf0 ?_
  refine z_icmpN_ge B 286 dL_alike_205 (by decide) (by omega) (by omega) (fun q => absurd q (by omega)) (fun _ => ?_)
  refine z_iload B 4 dL_alike_208 rfl ?_
  refine z_if_eq B 286 dL_alike_210 (by decide) (fun h => absurd h (by decide)) (fun _ => ?_)
  refine z_aload_n B 0 dL_alike_213 rfl rfl ?_
  refine z_iload B 5 dL_alike_214 rfl ?_
  refine z_callWm (As := [.ref (a 0), .int (nI (i))]) (st := [])  B hLF hl (fo_size l D g a C hst hI hJ (nI (i))) gL_alike_L_size rfl ⟨rfl, rfl⟩ nm_L_size ⟨by decide, by decide⟩ rfl (Nat.le_of_ble_eq_true rfl) dL_alike_216 (by omega) (by omega) (show k + 1 ≤ 1264 by omega) (show n + 6 ≤ 7584 by omega) (fun r w1 hpq => ?_)
  obtain ⟨rfl, rfl⟩ := hpq
  refine z_aload_n B 1 dL_alike_219 rfl rfl ?_
  refine z_iload B 5 dL_alike_220 rfl ?_
  refine z_callWr (As := [.ref (b 0), .int (nI (i))]) (st := [.int (s_size C (nI (i)))])  B hLF hl (fo_size l D g b C hst hI hJ (nI (i))) gL_alike_L_size rfl ⟨rfl, rfl⟩ nm_L_size ⟨by decide, by decide⟩ rfl (Nat.le_of_ble_eq_true rfl) dL_alike_222 (by omega) (by omega) (show k + 2 ≤ 1264 by omega) (show n + 12 ≤ 7584 by omega) (fun r w1 hpq => ?_)
  obtain ⟨rfl, rfl⟩ := hpq
  refine z_icmp_ne B 277 dL_alike_225 (by decide) (fun q => absurd rfl q) (fun _ => ?_)
  refine z_aload_n B 0 dL_alike_228 rfl rfl ?_
  refine z_iload B 5 dL_alike_229 rfl ?_
  refine z_callWm (As := [.ref (a 0), .int (nI (i))]) (st := [])  B hLF hl (fo_inVault l D g a C hst hI (nI (i))) gL_alike_L_inVault rfl ⟨rfl, rfl⟩ nm_L_inVault ⟨by decide, by decide⟩ rfl (Nat.le_of_ble_eq_true rfl) dL_alike_231 (by omega) (by omega) (show k + 3 ≤ 1264 by omega) (show n + 18 ≤ 7584 by omega) (fun r w1 hpq => ?_)
  obtain ⟨rfl, rfl⟩ := hpq
  refine z_aload_n B 1 dL_alike_234 rfl rfl ?_
  refine z_iload B 5 dL_alike_235 rfl ?_
  refine z_callWr (As := [.ref (b 0), .int (nI (i))]) (st := [.int (s_inVault C (nI (i)))])  B hLF hl (fo_inVault l D g b C hst hI (nI (i))) gL_alike_L_inVault rfl ⟨rfl, rfl⟩ nm_L_inVault ⟨by decide, by decide⟩ rfl (Nat.le_of_ble_eq_true rfl) dL_alike_237 (by omega) (by omega) (show k + 4 ≤ 1264 by omega) (show n + 24 ≤ 7584 by omega) (fun r w1 hpq => ?_)
  obtain ⟨rfl, rfl⟩ := hpq
  refine z_icmp_ne B 277 dL_alike_240 (by decide) (fun q => absurd rfl q) (fun _ => ?_)
  refine z_aload_n B 0 dL_alike_243 rfl rfl ?_
  refine z_iload B 5 dL_alike_244 rfl ?_
  refine z_callWm (As := [.ref (a 0), .int (nI (i))]) (st := [])  B hLF hl (fo_audit l D g a C hst hI hJ (nI (i))) gL_alike_L_audit rfl ⟨rfl, rfl⟩ nm_L_audit ⟨by decide, by decide⟩ rfl (Nat.le_of_ble_eq_true rfl) dL_alike_246 (by omega) (by omega) (show k + 5 ≤ 1264 by omega) (show n + 30 ≤ 7584 by omega) (fun r w1 hpq => ?_)
  obtain ⟨rfl, rfl⟩ := hpq
  refine z_aload_n B 1 dL_alike_249 rfl rfl ?_
  refine z_iload B 5 dL_alike_250 rfl ?_
  refine z_callWr (As := [.ref (b 0), .int (nI (i))]) (st := [.int (s_audit C (nI (i)))])  B hLF hl (fo_audit l D g b C hst hI hJ (nI (i))) gL_alike_L_audit rfl ⟨rfl, rfl⟩ nm_L_audit ⟨by decide, by decide⟩ rfl (Nat.le_of_ble_eq_true rfl) dL_alike_252 (by omega) (by omega) (show k + 6 ≤ 1264 by omega) (show n + 36 ≤ 7584 by omega) (fun r w1 hpq => ?_)
  obtain ⟨rfl, rfl⟩ := hpq
  refine z_icmp_ne B 277 dL_alike_255 (by decide) (fun q => absurd rfl q) (fun _ => ?_)
  refine z_aload_n B 0 dL_alike_258 rfl rfl ?_
  refine z_iload B 5 dL_alike_259 rfl ?_
  refine z_callWm (As := [.ref (a 0), .int (nI (i))]) (st := [])  B hLF hl (fo_canRestore l D g a C hst hI hJ (nI (i))) gL_alike_L_canRestore rfl ⟨rfl, rfl⟩ nm_L_canRestore ⟨by decide, by decide⟩ rfl (Nat.le_of_ble_eq_true rfl) dL_alike_261 (by omega) (by omega) (show k + 7 ≤ 1264 by omega) (show n + 42 ≤ 7584 by omega) (fun r w1 hpq => ?_)
  obtain ⟨rfl, rfl⟩ := hpq
  refine z_aload_n B 1 dL_alike_264 rfl rfl ?_
  refine z_iload B 5 dL_alike_265 rfl ?_
  refine z_callWr (As := [.ref (b 0), .int (nI (i))]) (st := [.int (s_canRestore C (nI (i)))])  B hLF hl (fo_canRestore l D g b C hst hI hJ (nI (i))) gL_alike_L_canRestore rfl ⟨rfl, rfl⟩ nm_L_canRestore ⟨by decide, by decide⟩ rfl (Nat.le_of_ble_eq_true rfl) dL_alike_267 (by omega) (by omega) (show k + 8 ≤ 1264 by omega) (show n + 48 ≤ 7584 by omega) (fun r w1 hpq => ?_)
  obtain ⟨rfl, rfl⟩ := hpq
  refine z_icmp_ne B 277 dL_alike_270 (by decide) (fun q => absurd rfl q) (fun _ => ?_)
  refine z_iconst (v := nI 1) B dL_alike_273 (by decide) ?_
  refine z_goto B 278 dL_alike_274 (by decide) ?_
  refine z_istore (lv1 := [(4, .int (nI (1))), (0, .ref (a 0)), (1, .ref (b 0)), (2, .ref (nn)), (3, .int (nI (j))), (5, .int (nI (i)))]) B dL_alike_278 (by decide) rfl ?_
  refine z_iinc B 5 (lv1 := [(5, .int (nI (i + 1))), (4, .int (nI (1))), (0, .ref (a 0)), (1, .ref (b 0)), (2, .ref (nn)), (3, .int (nI (j)))]) dL_alike_280 rfl (nI_1 _) (by decide) rfl ?_
  refine z_goto B 200 dL_alike_283 (by decide) ?_
  refine z_loc [2, 3, 4, 5, 1, 0] (lv' := [(0, .ref (a 0)), (1, .ref (b 0)), (2, .ref (nn)), (3, .int (nI (j))), (4, .int (nI (1))), (5, .int (nI (i + 1)))]) rfl ?_
  exact kk (k + 8) (n + 48) (by omega) (by omega)
set_option maxHeartbeats 4000000 in
set_option maxRecDepth 100000 in
theorem al_2 {X : zX} {l : Launch} {D : va_G} {g : zG} {A : Nat → Prop} {a b : Nat → Nat} {C : zMS} {f : Nat → Int32} {nn : Nat} (Hb : alB X l D g A a b C f nn) (hV : KV C) (hf0 : f 0 = nI (cM C)) (j : Nat) (hj : j < 2 ^ 31) : ∀ (u i k n : Nat), i + u = cM C → k + (8 * u + 16) ≤ 1264 → n + (48 * u + 96) ≤ 7584 → zJ X 7 (zI1 D A (zs X)) (alQ X D g A a b C f nn) ([(nn, .inl (g.1, 3, .inl f))] ++ (wC g a C (4 * cM C) ++ wC g b C (4 * cM C))) k n [(0, .ref (a 0)), (1, .ref (b 0)), (2, .ref (nn)), (3, .int (nI (j))), (4, .int (nI (1))), (5, .int (nI (i)))] 200 [] := by
  intro u
  induction u with
  | zero =>
    intro i k n hlp hk hn
    exact al_2o Hb hV hf0 j hj i (by omega) k n (by omega) (by omega)
  | succ u ih =>
    intro i k n hlp hk hn
    exact al_2i Hb hV hf0 j hj i (by omega) k n (k + 8) (n + 48) (by omega) (by omega) (Nat.le_refl _) (Nat.le_refl _) (fun k2 n2 h1 h2 => ih (i + 1) k2 n2 (by omega) (by omega) (by omega))

set_option maxHeartbeats 4000000 in
set_option maxRecDepth 100000 in
theorem al_1o {X : zX} {l : Launch} {D : va_G} {g : zG} {A : Nat → Prop} {a b : Nat → Nat} {C : zMS} {f : Nat → Int32} {nn : Nat} (Hb : alB X l D g A a b C f nn) (hV : KV C) (hf0 : f 0 = nI (cM C)) (j : Nat) (hj : j < 2 ^ 31) (i : Nat) (hi : i = cP C) (k n : Nat) (hk : k + 144 ≤ 1264) (hn : n + 864 ≤ 7584) : zJ X 7 (zI1 D A (zs X)) (alQ X D g A a b C f nn) ([(nn, .inl (g.1, 3, .inl f))] ++ (wC g a C (4 * cM C) ++ wC g b C (4 * cM C))) k n [(0, .ref (a 0)), (1, .ref (b 0)), (2, .ref (nn)), (3, .int (nI (j))), (4, .int (nI (1))), (5, .int (nI (i)))] 65 [] := by
  obtain ⟨hAe, hl, B, hr, hLF, hst⟩ := id Hb
  have hI := KV_I hV
  have hJ := KV_J hV
  have bP := CI_b19 hI
  have bM := CI_b20 hI
  have bK := CI_b22 hI
  have bT := CI_b0 hI
  refine z_iload B 5 dL_alike_65 rfl ?_
  refine z_aload_n B 0 dL_alike_67 rfl rfl ?_
  refine z_callP (As := []) (st := [.int (nI (i))]) (C := RX6) (T := TX6) (N := 6) (ci := 6) (l := l) B hl (cc_X6_pages l D g a C (4 * cM C) hI) gL_alike_X6_pages rfl ⟨rfl, rfl⟩ nm_X6_pages ⟨by decide, by decide⟩ (fun _ h => sub_m h) 0 rfl rfl rfl (Nat.le_of_ble_eq_true rfl) dL_alike_68 (show k ≤ 1264 by omega) (show n ≤ 7584 by omega) (fun r hr1 => ?_)
  obtain rfl := hr1
  refine z_icmpN_ge B 197 dL_alike_71 (by decide) (by omega) (by omega) (fun _ => ?_) (fun q => absurd q (by omega))
  refine z_iconst (v := nI 0) B dL_alike_197 (by decide) ?_
  refine z_istore (lv1 := [(5, .int (nI (0))), (0, .ref (a 0)), (1, .ref (b 0)), (2, .ref (nn)), (3, .int (nI (j))), (4, .int (nI (1)))]) B dL_alike_198 (by decide) rfl ?_
  refine z_loc [1, 2, 3, 4, 5, 0] (lv' := [(0, .ref (a 0)), (1, .ref (b 0)), (2, .ref (nn)), (3, .int (nI (j))), (4, .int (nI (1))), (5, .int (nI (0)))]) rfl ?_
  exact al_2 Hb hV hf0 j hj (cM C) 0 (k) (n) (by omega) (by omega) (by omega)
set_option maxHeartbeats 4000000 in
set_option maxRecDepth 100000 in
theorem al_1i {X : zX} {l : Launch} {D : va_G} {g : zG} {A : Nat → Prop} {a b : Nat → Nat} {C : zMS} {f : Nat → Int32} {nn : Nat} (Hb : alB X l D g A a b C f nn) (hV : KV C) (hf0 : f 0 = nI (cM C)) (j : Nat) (hj : j < 2 ^ 31) (i : Nat) (hi : i < cP C) (k n KB NB : Nat) (hKB : KB ≤ 1264) (hNB : NB ≤ 7584) (hk : k + 14 ≤ KB) (hn : n + 84 ≤ NB) (kk : ∀ (k2 n2 : Nat), k2 ≤ KB → n2 ≤ NB → zJ X 7 (zI1 D A (zs X)) (alQ X D g A a b C f nn) ([(nn, .inl (g.1, 3, .inl f))] ++ (wC g a C (4 * cM C) ++ wC g b C (4 * cM C))) k2 n2 [(0, .ref (a 0)), (1, .ref (b 0)), (2, .ref (nn)), (3, .int (nI (j))), (4, .int (nI (1))), (5, .int (nI (i + 1)))] 65 []) : zJ X 7 (zI1 D A (zs X)) (alQ X D g A a b C f nn) ([(nn, .inl (g.1, 3, .inl f))] ++ (wC g a C (4 * cM C) ++ wC g b C (4 * cM C))) k n [(0, .ref (a 0)), (1, .ref (b 0)), (2, .ref (nn)), (3, .int (nI (j))), (4, .int (nI (1))), (5, .int (nI (i)))] 65 [] := by
  obtain ⟨hAe, hl, B, hr, hLF, hst⟩ := id Hb
  have hI := KV_I hV
  have hJ := KV_J hV
  have bP := CI_b19 hI
  have bM := CI_b20 hI
  have bK := CI_b22 hI
  have bT := CI_b0 hI
  refine z_iload B 5 dL_alike_65 rfl ?_
  refine z_aload_n B 0 dL_alike_67 rfl rfl ?_
  refine z_callP (As := []) (st := [.int (nI (i))]) (C := RX6) (T := TX6) (N := 6) (ci := 6) (l := l) B hl (cc_X6_pages l D g a C (4 * cM C) hI) gL_alike_X6_pages rfl ⟨rfl, rfl⟩ nm_X6_pages ⟨by decide, by decide⟩ (fun _ h => sub_m h) 0 rfl rfl rfl (Nat.le_of_ble_eq_true rfl) dL_alike_68 (show k ≤ 1264 by omega) (show n ≤ 7584 by omega) (fun r hr1 => ?_)
  obtain rfl := hr1
  refine z_icmpN_ge B 197 dL_alike_71 (by decide) (by omega) (by omega) (fun q => absurd q (by omega)) (fun _ => ?_)
  refine z_iload B 4 dL_alike_74 rfl ?_
  refine z_if_eq B 197 dL_alike_76 (by decide) (fun h => absurd h (by decide)) (fun _ => ?_)
  refine z_aload_n B 0 dL_alike_79 rfl rfl ?_
  refine z_iload B 5 dL_alike_80 rfl ?_
  refine z_callWm (As := [.ref (a 0), .int (nI (i))]) (st := [])  B hLF hl (fo_state l D g a C hst hI (nI (i))) gL_alike_L_state rfl ⟨rfl, rfl⟩ nm_L_state ⟨by decide, by decide⟩ rfl (Nat.le_of_ble_eq_true rfl) dL_alike_82 (by omega) (by omega) (show k + 1 ≤ 1264 by omega) (show n + 6 ≤ 7584 by omega) (fun r w1 hpq => ?_)
  obtain ⟨rfl, rfl⟩ := hpq
  refine z_aload_n B 1 dL_alike_85 rfl rfl ?_
  refine z_iload B 5 dL_alike_86 rfl ?_
  refine z_callWr (As := [.ref (b 0), .int (nI (i))]) (st := [.int (s_state C (nI (i)))])  B hLF hl (fo_state l D g b C hst hI (nI (i))) gL_alike_L_state rfl ⟨rfl, rfl⟩ nm_L_state ⟨by decide, by decide⟩ rfl (Nat.le_of_ble_eq_true rfl) dL_alike_88 (by omega) (by omega) (show k + 2 ≤ 1264 by omega) (show n + 12 ≤ 7584 by omega) (fun r w1 hpq => ?_)
  obtain ⟨rfl, rfl⟩ := hpq
  refine z_icmp_ne B 188 dL_alike_91 (by decide) (fun q => absurd rfl q) (fun _ => ?_)
  refine z_aload_n B 0 dL_alike_94 rfl rfl ?_
  refine z_iload B 5 dL_alike_95 rfl ?_
  refine z_callWm (As := [.ref (a 0), .int (nI (i))]) (st := [])  B hLF hl (fo_isTrue l D g a C hst hI (nI (i))) gL_alike_L_isTrue rfl ⟨rfl, rfl⟩ nm_L_isTrue ⟨by decide, by decide⟩ rfl (Nat.le_of_ble_eq_true rfl) dL_alike_97 (by omega) (by omega) (show k + 3 ≤ 1264 by omega) (show n + 18 ≤ 7584 by omega) (fun r w1 hpq => ?_)
  obtain ⟨rfl, rfl⟩ := hpq
  refine z_aload_n B 1 dL_alike_100 rfl rfl ?_
  refine z_iload B 5 dL_alike_101 rfl ?_
  refine z_callWr (As := [.ref (b 0), .int (nI (i))]) (st := [.int (s_isTrue C (nI (i)))])  B hLF hl (fo_isTrue l D g b C hst hI (nI (i))) gL_alike_L_isTrue rfl ⟨rfl, rfl⟩ nm_L_isTrue ⟨by decide, by decide⟩ rfl (Nat.le_of_ble_eq_true rfl) dL_alike_103 (by omega) (by omega) (show k + 4 ≤ 1264 by omega) (show n + 24 ≤ 7584 by omega) (fun r w1 hpq => ?_)
  obtain ⟨rfl, rfl⟩ := hpq
  refine z_icmp_ne B 188 dL_alike_106 (by decide) (fun q => absurd rfl q) (fun _ => ?_)
  refine z_aload_n B 0 dL_alike_109 rfl rfl ?_
  refine z_iload B 5 dL_alike_110 rfl ?_
  refine z_callWm (As := [.ref (a 0), .int (nI (i))]) (st := [])  B hLF hl (fo_text l D g a C hst hI (nI (i))) gL_alike_L_text rfl ⟨rfl, rfl⟩ nm_L_text ⟨by decide, by decide⟩ rfl (Nat.le_of_ble_eq_true rfl) dL_alike_112 (by omega) (by omega) (show k + 5 ≤ 1264 by omega) (show n + 30 ≤ 7584 by omega) (fun r w1 hpq => ?_)
  obtain ⟨rfl, rfl⟩ := hpq
  refine z_aload_n B 1 dL_alike_115 rfl rfl ?_
  refine z_iload B 5 dL_alike_116 rfl ?_
  refine z_callWr (As := [.ref (b 0), .int (nI (i))]) (st := [.int (s_text C (nI (i)))])  B hLF hl (fo_text l D g b C hst hI (nI (i))) gL_alike_L_text rfl ⟨rfl, rfl⟩ nm_L_text ⟨by decide, by decide⟩ rfl (Nat.le_of_ble_eq_true rfl) dL_alike_118 (by omega) (by omega) (show k + 6 ≤ 1264 by omega) (show n + 36 ≤ 7584 by omega) (fun r w1 hpq => ?_)
  obtain ⟨rfl, rfl⟩ := hpq
  refine z_icmp_ne B 188 dL_alike_121 (by decide) (fun q => absurd rfl q) (fun _ => ?_)
  refine z_aload_n B 0 dL_alike_124 rfl rfl ?_
  refine z_iload B 5 dL_alike_125 rfl ?_
  refine z_callWm (As := [.ref (a 0), .int (nI (i))]) (st := [])  B hLF hl (fo_mark l D g a C hst hI (nI (i))) gL_alike_L_mark rfl ⟨rfl, rfl⟩ nm_L_mark ⟨by decide, by decide⟩ rfl (Nat.le_of_ble_eq_true rfl) dL_alike_127 (by omega) (by omega) (show k + 7 ≤ 1264 by omega) (show n + 42 ≤ 7584 by omega) (fun r w1 hpq => ?_)
  obtain ⟨rfl, rfl⟩ := hpq
  refine z_aload_n B 1 dL_alike_130 rfl rfl ?_
  refine z_iload B 5 dL_alike_131 rfl ?_
  refine z_callWr (As := [.ref (b 0), .int (nI (i))]) (st := [.int (s_mark C (nI (i)))])  B hLF hl (fo_mark l D g b C hst hI (nI (i))) gL_alike_L_mark rfl ⟨rfl, rfl⟩ nm_L_mark ⟨by decide, by decide⟩ rfl (Nat.le_of_ble_eq_true rfl) dL_alike_133 (by omega) (by omega) (show k + 8 ≤ 1264 by omega) (show n + 48 ≤ 7584 by omega) (fun r w1 hpq => ?_)
  obtain ⟨rfl, rfl⟩ := hpq
  refine z_icmp_ne B 188 dL_alike_136 (by decide) (fun q => absurd rfl q) (fun _ => ?_)
  refine z_aload_n B 0 dL_alike_139 rfl rfl ?_
  refine z_iload B 5 dL_alike_140 rfl ?_
  refine z_callWm (As := [.ref (a 0), .int (nI (i))]) (st := [])  B hLF hl (fo_reversal l D g a C hst hI (nI (i))) gL_alike_L_reversal rfl ⟨rfl, rfl⟩ nm_L_reversal ⟨by decide, by decide⟩ rfl (Nat.le_of_ble_eq_true rfl) dL_alike_142 (by omega) (by omega) (show k + 9 ≤ 1264 by omega) (show n + 54 ≤ 7584 by omega) (fun r w1 hpq => ?_)
  obtain ⟨rfl, rfl⟩ := hpq
  refine z_aload_n B 1 dL_alike_145 rfl rfl ?_
  refine z_iload B 5 dL_alike_146 rfl ?_
  refine z_callWr (As := [.ref (b 0), .int (nI (i))]) (st := [.int (s_reversal C (nI (i)))])  B hLF hl (fo_reversal l D g b C hst hI (nI (i))) gL_alike_L_reversal rfl ⟨rfl, rfl⟩ nm_L_reversal ⟨by decide, by decide⟩ rfl (Nat.le_of_ble_eq_true rfl) dL_alike_148 (by omega) (by omega) (show k + 10 ≤ 1264 by omega) (show n + 60 ≤ 7584 by omega) (fun r w1 hpq => ?_)
  obtain ⟨rfl, rfl⟩ := hpq
  refine z_icmp_ne B 188 dL_alike_151 (by decide) (fun q => absurd rfl q) (fun _ => ?_)
  refine z_aload_n B 0 dL_alike_154 rfl rfl ?_
  refine z_iload B 5 dL_alike_155 rfl ?_
  refine z_callWm (As := [.ref (a 0), .int (nI (i))]) (st := [])  B hLF hl (fo_copiesOf l D g a C hst hI (nI (i))) gL_alike_L_copiesOf rfl ⟨rfl, rfl⟩ nm_L_copiesOf ⟨by decide, by decide⟩ rfl (Nat.le_of_ble_eq_true rfl) dL_alike_157 (by omega) (by omega) (show k + 11 ≤ 1264 by omega) (show n + 66 ≤ 7584 by omega) (fun r w1 hpq => ?_)
  obtain ⟨rfl, rfl⟩ := hpq
  refine z_aload_n B 1 dL_alike_160 rfl rfl ?_
  refine z_iload B 5 dL_alike_161 rfl ?_
  refine z_callWr (As := [.ref (b 0), .int (nI (i))]) (st := [.int (s_copiesOf C (nI (i)))])  B hLF hl (fo_copiesOf l D g b C hst hI (nI (i))) gL_alike_L_copiesOf rfl ⟨rfl, rfl⟩ nm_L_copiesOf ⟨by decide, by decide⟩ rfl (Nat.le_of_ble_eq_true rfl) dL_alike_163 (by omega) (by omega) (show k + 12 ≤ 1264 by omega) (show n + 72 ≤ 7584 by omega) (fun r w1 hpq => ?_)
  obtain ⟨rfl, rfl⟩ := hpq
  refine z_icmp_ne B 188 dL_alike_166 (by decide) (fun q => absurd rfl q) (fun _ => ?_)
  refine z_aload_n B 0 dL_alike_169 rfl rfl ?_
  refine z_iload B 5 dL_alike_170 rfl ?_
  refine z_callWm (As := [.ref (a 0), .int (nI (i))]) (st := [])  B hLF hl (fo_holders l D g a C hst hI (nI (i))) gL_alike_L_holders rfl ⟨rfl, rfl⟩ nm_L_holders ⟨by decide, by decide⟩ rfl (Nat.le_of_ble_eq_true rfl) dL_alike_172 (by omega) (by omega) (show k + 13 ≤ 1264 by omega) (show n + 78 ≤ 7584 by omega) (fun r w1 hpq => ?_)
  obtain ⟨rfl, rfl⟩ := hpq
  refine z_aload_n B 1 dL_alike_175 rfl rfl ?_
  refine z_iload B 5 dL_alike_176 rfl ?_
  refine z_callWr (As := [.ref (b 0), .int (nI (i))]) (st := [.int (s_holders C (nI (i)))])  B hLF hl (fo_holders l D g b C hst hI (nI (i))) gL_alike_L_holders rfl ⟨rfl, rfl⟩ nm_L_holders ⟨by decide, by decide⟩ rfl (Nat.le_of_ble_eq_true rfl) dL_alike_178 (by omega) (by omega) (show k + 14 ≤ 1264 by omega) (show n + 84 ≤ 7584 by omega) (fun r w1 hpq => ?_)
  obtain ⟨rfl, rfl⟩ := hpq
  refine z_icmp_ne B 188 dL_alike_181 (by decide) (fun q => absurd rfl q) (fun _ => ?_)
  refine z_iconst (v := nI 1) B dL_alike_184 (by decide) ?_
  refine z_goto B 189 dL_alike_185 (by decide) ?_
  refine z_istore (lv1 := [(4, .int (nI (1))), (0, .ref (a 0)), (1, .ref (b 0)), (2, .ref (nn)), (3, .int (nI (j))), (5, .int (nI (i)))]) B dL_alike_189 (by decide) rfl ?_
  refine z_iinc B 5 (lv1 := [(5, .int (nI (i + 1))), (4, .int (nI (1))), (0, .ref (a 0)), (1, .ref (b 0)), (2, .ref (nn)), (3, .int (nI (j)))]) dL_alike_191 rfl (nI_1 _) (by decide) rfl ?_
  refine z_goto B 65 dL_alike_194 (by decide) ?_
  refine z_loc [2, 3, 4, 5, 1, 0] (lv' := [(0, .ref (a 0)), (1, .ref (b 0)), (2, .ref (nn)), (3, .int (nI (j))), (4, .int (nI (1))), (5, .int (nI (i + 1)))]) rfl ?_
  exact kk (k + 14) (n + 84) (by omega) (by omega)
set_option maxHeartbeats 4000000 in
set_option maxRecDepth 100000 in
theorem al_1 {X : zX} {l : Launch} {D : va_G} {g : zG} {A : Nat → Prop} {a b : Nat → Nat} {C : zMS} {f : Nat → Int32} {nn : Nat} (Hb : alB X l D g A a b C f nn) (hV : KV C) (hf0 : f 0 = nI (cM C)) (j : Nat) (hj : j < 2 ^ 31) : ∀ (u i k n : Nat), i + u = cP C → k + (14 * u + 144) ≤ 1264 → n + (84 * u + 864) ≤ 7584 → zJ X 7 (zI1 D A (zs X)) (alQ X D g A a b C f nn) ([(nn, .inl (g.1, 3, .inl f))] ++ (wC g a C (4 * cM C) ++ wC g b C (4 * cM C))) k n [(0, .ref (a 0)), (1, .ref (b 0)), (2, .ref (nn)), (3, .int (nI (j))), (4, .int (nI (1))), (5, .int (nI (i)))] 65 [] := by
  intro u
  induction u with
  | zero =>
    intro i k n hlp hk hn
    exact al_1o Hb hV hf0 j hj i (by omega) k n (by omega) (by omega)
  | succ u ih =>
    intro i k n hlp hk hn
    exact al_1i Hb hV hf0 j hj i (by omega) k n (k + 14) (n + 84) (by omega) (by omega) (Nat.le_refl _) (Nat.le_refl _) (fun k2 n2 h1 h2 => ih (i + 1) k2 n2 (by omega) (by omega) (by omega))

set_option maxHeartbeats 4000000 in
set_option maxRecDepth 100000 in
theorem al_0 {X : zX} {l : Launch} {D : va_G} {g : zG} {A : Nat → Prop} {a b : Nat → Nat} {C : zMS} {f : Nat → Int32} {nn : Nat} (Hb : alB X l D g A a b C f nn) (hV : KV C) (hf0 : f 0 = nI (cM C)) (j : Nat) (hj : j < 2 ^ 31) (k n : Nat) (hk : k + 1264 ≤ 1264) (hn : n + 7584 ≤ 7584) : zJ X 7 (zI1 D A (zs X)) (alQ X D g A a b C f nn) ([(nn, .inl (g.1, 3, .inl f))] ++ (wC g a C (4 * cM C) ++ wC g b C (4 * cM C))) k n [(0, .ref (a 0)), (1, .ref (b 0)), (2, .ref (nn)), (3, .int (nI (j)))] 0 [] := by
  obtain ⟨hAe, hl, B, hr, hLF, hst⟩ := id Hb
  have hI := KV_I hV
  have hJ := KV_J hV
  have bP := CI_b19 hI
  have bM := CI_b20 hI
  have bK := CI_b22 hI
  have bT := CI_b0 hI
  have hz1 := zcnt_le (fun k => C 28 k = 1) (cM C)
  have hz2 := zcnt_le (fun p => cSt C p = 1) (cP C)
  have hz3 := zcnt_le (fun p => cSt C p = 1 ∧ ¬ cHT C p (nI 1)) (cP C)
  refine z_aload_n B 0 dL_alike_0 rfl rfl ?_
  refine z_callP (As := []) (st := []) (C := RX6) (T := TX6) (N := 6) (ci := 6) (l := l) B hl (cc_X6_day l D g a C (4 * cM C) hI) gL_alike_X6_day rfl ⟨rfl, rfl⟩ nm_X6_day ⟨by decide, by decide⟩ (fun _ h => sub_m h) 0 rfl rfl rfl (Nat.le_of_ble_eq_true rfl) dL_alike_1 (show k ≤ 1264 by omega) (show n ≤ 7584 by omega) (fun r hr1 => ?_)
  obtain rfl := hr1
  refine z_aload_n B 1 dL_alike_4 rfl rfl ?_
  refine z_callP (As := []) (st := [.int (nI (cT C))]) (C := RX6) (T := TX6) (N := 6) (ci := 6) (l := l) B hl (cc_X6_day l D g b C (4 * cM C) hI) gL_alike_X6_day rfl ⟨rfl, rfl⟩ nm_X6_day ⟨by decide, by decide⟩ (fun _ h => sub_rr h) 0 rfl rfl rfl (Nat.le_of_ble_eq_true rfl) dL_alike_5 (show k ≤ 1264 by omega) (show n ≤ 7584 by omega) (fun r hr1 => ?_)
  obtain rfl := hr1
  refine z_icmpN_ne B 59 dL_alike_8 (by decide) (by omega) (by omega) (fun q => absurd q (by omega)) (fun _ => ?_)
  refine z_aload_n B 0 dL_alike_11 rfl rfl ?_
  refine z_callP (As := []) (st := []) (C := RX6) (T := TX6) (N := 6) (ci := 6) (l := l) B hl (cc_X6_pages l D g a C (4 * cM C) hI) gL_alike_X6_pages rfl ⟨rfl, rfl⟩ nm_X6_pages ⟨by decide, by decide⟩ (fun _ h => sub_m h) 0 rfl rfl rfl (Nat.le_of_ble_eq_true rfl) dL_alike_12 (show k ≤ 1264 by omega) (show n ≤ 7584 by omega) (fun r hr1 => ?_)
  obtain rfl := hr1
  refine z_aload_n B 1 dL_alike_15 rfl rfl ?_
  refine z_callP (As := []) (st := [.int (nI (cP C))]) (C := RX6) (T := TX6) (N := 6) (ci := 6) (l := l) B hl (cc_X6_pages l D g b C (4 * cM C) hI) gL_alike_X6_pages rfl ⟨rfl, rfl⟩ nm_X6_pages ⟨by decide, by decide⟩ (fun _ h => sub_rr h) 0 rfl rfl rfl (Nat.le_of_ble_eq_true rfl) dL_alike_16 (show k ≤ 1264 by omega) (show n ≤ 7584 by omega) (fun r hr1 => ?_)
  obtain rfl := hr1
  refine z_icmpN_ne B 59 dL_alike_19 (by decide) (by omega) (by omega) (fun q => absurd q (by omega)) (fun _ => ?_)
  refine z_aload_n B 0 dL_alike_22 rfl rfl ?_
  refine z_callP (As := []) (st := []) (C := RX6) (T := TX6) (N := 6) (ci := 6) (l := l) B hl (cc_X6_copies l D g a C (4 * cM C) hI) gL_alike_X6_copies rfl ⟨rfl, rfl⟩ nm_X6_copies ⟨by decide, by decide⟩ (fun _ h => sub_m h) 0 rfl rfl rfl (Nat.le_of_ble_eq_true rfl) dL_alike_23 (show k ≤ 1264 by omega) (show n ≤ 7584 by omega) (fun r hr1 => ?_)
  obtain rfl := hr1
  refine z_aload_n B 1 dL_alike_26 rfl rfl ?_
  refine z_callP (As := []) (st := [.int (nI (zcnt (fun k => C 28 k = 1) (cM C)))]) (C := RX6) (T := TX6) (N := 6) (ci := 6) (l := l) B hl (cc_X6_copies l D g b C (4 * cM C) hI) gL_alike_X6_copies rfl ⟨rfl, rfl⟩ nm_X6_copies ⟨by decide, by decide⟩ (fun _ h => sub_rr h) 0 rfl rfl rfl (Nat.le_of_ble_eq_true rfl) dL_alike_27 (show k ≤ 1264 by omega) (show n ≤ 7584 by omega) (fun r hr1 => ?_)
  obtain rfl := hr1
  refine z_icmpN_ne B 59 dL_alike_30 (by decide) (by omega) (by omega) (fun q => absurd q (by omega)) (fun _ => ?_)
  refine z_aload_n B 0 dL_alike_33 rfl rfl ?_
  refine z_callP (As := []) (st := []) (C := RX6) (T := TX6) (N := 6) (ci := 6) (l := l) B hl (cc_X6_gaps l D g a C (4 * cM C) hI) gL_alike_X6_gaps rfl ⟨rfl, rfl⟩ nm_X6_gaps ⟨by decide, by decide⟩ (fun _ h => sub_m h) 0 rfl rfl rfl (Nat.le_of_ble_eq_true rfl) dL_alike_34 (show k ≤ 1264 by omega) (show n ≤ 7584 by omega) (fun r hr1 => ?_)
  obtain rfl := hr1
  refine z_aload_n B 1 dL_alike_37 rfl rfl ?_
  refine z_callP (As := []) (st := [.int (nI (zcnt (fun p => cSt C p = 1) (cP C)))]) (C := RX6) (T := TX6) (N := 6) (ci := 6) (l := l) B hl (cc_X6_gaps l D g b C (4 * cM C) hI) gL_alike_X6_gaps rfl ⟨rfl, rfl⟩ nm_X6_gaps ⟨by decide, by decide⟩ (fun _ h => sub_rr h) 0 rfl rfl rfl (Nat.le_of_ble_eq_true rfl) dL_alike_38 (show k ≤ 1264 by omega) (show n ≤ 7584 by omega) (fun r hr1 => ?_)
  obtain rfl := hr1
  refine z_icmpN_ne B 59 dL_alike_41 (by decide) (by omega) (by omega) (fun q => absurd q (by omega)) (fun _ => ?_)
  refine z_aload_n B 0 dL_alike_44 rfl rfl ?_
  refine z_callP (As := []) (st := []) (C := RX6) (T := TX6) (N := 6) (ci := 6) (l := l) B hl (cc_X6_lost l D g a C (4 * cM C) hI (Nat.le_refl _)) gL_alike_X6_lost rfl ⟨rfl, rfl⟩ nm_X6_lost ⟨by decide, by decide⟩ (fun _ h => sub_m h) 0 rfl rfl rfl (Nat.le_of_ble_eq_true rfl) dL_alike_45 (show k ≤ 1264 by omega) (show n ≤ 7584 by omega) (fun r hr1 => ?_)
  obtain rfl := hr1
  refine z_aload_n B 1 dL_alike_48 rfl rfl ?_
  refine z_callP (As := []) (st := [.int (nI (zcnt (fun p => cSt C p = 1 ∧ ¬ cHT C p (nI 1)) (cP C)))]) (C := RX6) (T := TX6) (N := 6) (ci := 6) (l := l) B hl (cc_X6_lost l D g b C (4 * cM C) hI (Nat.le_refl _)) gL_alike_X6_lost rfl ⟨rfl, rfl⟩ nm_X6_lost ⟨by decide, by decide⟩ (fun _ h => sub_rr h) 0 rfl rfl rfl (Nat.le_of_ble_eq_true rfl) dL_alike_49 (show k ≤ 1264 by omega) (show n ≤ 7584 by omega) (fun r hr1 => ?_)
  obtain rfl := hr1
  refine z_icmpN_ne B 59 dL_alike_52 (by decide) (by omega) (by omega) (fun q => absurd q (by omega)) (fun _ => ?_)
  refine z_iconst (v := nI 1) B dL_alike_55 (by decide) ?_
  refine z_goto B 60 dL_alike_56 (by decide) ?_
  refine z_istore (lv1 := [(4, .int (nI (1))), (0, .ref (a 0)), (1, .ref (b 0)), (2, .ref (nn)), (3, .int (nI (j)))]) B dL_alike_60 (by decide) rfl ?_
  refine z_iconst (v := nI 0) B dL_alike_62 (by decide) ?_
  refine z_istore (lv1 := [(5, .int (nI (0))), (4, .int (nI (1))), (0, .ref (a 0)), (1, .ref (b 0)), (2, .ref (nn)), (3, .int (nI (j)))]) B dL_alike_63 (by decide) rfl ?_
  refine z_loc [2, 3, 4, 5, 1, 0] (lv' := [(0, .ref (a 0)), (1, .ref (b 0)), (2, .ref (nn)), (3, .int (nI (j))), (4, .int (nI (1))), (5, .int (nI (0)))]) rfl ?_
  exact al_1 Hb hV hf0 j hj (cP C) 0 (k) (n) (by omega) (by omega) (by omega)
theorem c_alike (l : Launch) (D : va_G) (g : zG) (a b : Nat → Nat) (C : zMS) (f : Nat → Int32) (nn j : Nat) (hst : l.stackTraces = false) (hV : KV C) (hf0 : f 0 = nI (cM C)) (hj : j < 2 ^ 31) : zWrp l yL_alike wsL_alike { frames := 9, cells := 1264, slots := 7584, locals := 183 } D (zT g) ([(nn, .inl (g.1, 3, .inl f))] ++ (wC g a C (4 * cM C) ++ wC g b C (4 * cM C))) [.ref (a 0), .ref (b 0), .ref nn, .int (nI j)] (fun r w' => r = nI 1 ∧ w' = [(nn, .inl (g.1, 3, .inl f))] ++ (wC g a C (4 * cM C) ++ wC g b C (4 * cM C))) 1264 7584 := by
  refine zLwI_of (cc := cL_alike) (maxL := 7) (ret := some .boolean) (own := RL) [(0, .ref (a 0)), (1, .ref (b 0)), (2, .ref nn), (3, .int (nI j))] (by decide) rfl rfl rfl (Nat.le_of_ble_eq_true rfl) ?_
  intro X A hAe hl B hr hLF
  have Hb : alB X l D g A a b C f nn := ⟨hAe, hl, B, hr, hLF, hst⟩
  exact al_0 Hb hV hf0 j hj 0 0 (by omega) (by omega)
